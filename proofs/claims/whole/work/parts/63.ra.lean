/-! the reference: answers, 1 -/
/-- all but what a question may change -/
def mfk (I J : Ix) (s : Nat) : Prop := ∀ y z, (y = s → z ≠ 0 ∧ (z < 50 ∨ z = 54 ∨ (56 ≤ z ∧ z ≤ 65) ∨ (70 ≤ z ∧ z ≠ 72 ∧ z ≠ 73))) → (s < y → y < s + 25 ∨ s + 38 < y) → J y z = I y z
theorem mfk.rf (I : Ix) (s : Nat) : mfk I I s := fun _ _ _ _ => rfl
theorem mfk.tr {I J K : Ix} {s : Nat} (h1 : mfk I J s) (h2 : mfk J K s) : mfk I K s := fun y z a b => (h2 y z a b).trans (h1 y z a b)
theorem mfb.k {I J : Ix} {s : Nat} (f : mfb I J s) : mfk I J s := fun y z a b => f y z (fun e => by have := a e; omega) (fun e => by have := b e; omega)
theorem mfk.u {I : Ix} {s j : Nat} {v : Int} (hj : j = 0 ∨ j = 72 ∨ j = 73) : mfk I (up I s j v) s := fun y z a b => by
  by_cases hy : y = s
  · have := a hy
    rw [hy, up_nj (by omega)]
  · rw [up_no hy]
theorem mfk.w {I J : Ix} {s : Nat} (f : fr I J (s + 38) (s + 38)) : mfk I J s := fun y z a b => f y (by omega) z
theorem MP.k {I J : Ix} {s : Nat} {h : Hi} {l : Li} {a : Nat → Nat} {ne np : Nat} {cd : Nat → Cd} (B : MP I s h l a ne np cd) (f : mfk I J s) : MP J s h l a ne np cd := by
  obtain ⟨b1, b2, b3, b4, b5, b6, b7, b8, b9⟩ := B
  have e0 : ∀ j, 0 < j ∧ j < 50 → J s j = I s j := fun j hj => f s j (fun _ => ⟨by omega, Or.inl hj.2⟩) (fun e => absurd e (Nat.lt_irrefl s))
  have e : ∀ j, j ≤ 24 ∧ 0 < j → ∀ z, J (s + j) z = I (s + j) z := fun j hj z => f (s + j) z (fun e => by omega) (fun _ => by omega)
  refine ⟨?_, ?_, ?_, b4, b5, b6, fun k hk => by rw [e 10 (by decide)]; exact b7 k hk, by rw [e0 15 (by decide)]; exact b8, by rw [e0 16 (by decide)]; exact b9⟩
  · unfold mH at b1 ⊢
    simp only [e 10 (by decide), e 11 (by decide)]
    exact b1
  · unfold nB at b2 ⊢
    simp only [e0 1 (by decide), e0 7 (by decide), e0 8 (by decide), e0 9 (by decide), e0 10 (by decide), e 2 (by decide), e 3 (by decide), e 4 (by decide), e 5 (by decide), e 6 (by decide)]
    exact b2
  · unfold nC codesAt at b3 ⊢
    simp only [e 7 (by decide), e 8 (by decide), e 9 (by decide)]
    exact b3
theorem nSu.k {I J : Ix} {s : Nat} {su : Su} (H : nSu I s su) (f : mfk I J s) : nSu J s su := by
  have e0 : ∀ j, 0 < j ∧ j < 50 → J s j = I s j := fun j hj => f s j (fun _ => ⟨by omega, Or.inl hj.2⟩) (fun e => absurd e (Nat.lt_irrefl s))
  have e : ∀ j, j ≤ 24 ∧ 0 < j → ∀ z, J (s + j) z = I (s + j) z := fun j hj z => f (s + j) z (fun e => by omega) (fun _ => by omega)
  unfold nSu at H ⊢
  simp only [e0 44 (by decide), e0 45 (by decide), e0 46 (by decide), e0 47 (by decide), e 23 (by decide), e 24 (by decide)]
  exact H
theorem MP.run {I : Ix} {s : Nat} {h : Hi} {l : Li} {a : Nat → Nat} {ne np : Nat} {cd : Nat → Cd} (B : MP I s h l a ne np cd) (out : Nat → Bool) {n : Nat} (hn : n ≤ ne) : okR h l np (3 * n) (runA h l out n) ∧ okT l (runA h l out n).1 ∧ sTime (runA h l out n).1 ≤ n := run_ok B.2.2.2.1 B.2.2.2.2.1 B.2.2.2.2.2.1 n hn
section RA
variable {xs : List Int} {S : List (Nat × Nat)} {T : Nat → Nat → Nat} {cc zz s : Nat} {h : Hi} {l : Li} {r : Ra} {I I' : Ix}

theorem mx_228 : mxl 228 = 2 := by decide +kernel
theorem mt_228 : mtc 228 = 10 := by decide +kernel
theorem rk_228 (as : List AV) : rkA 228 as = 1 := rfl
theorem l_228_0 : look 228 0 = some (.iload_n 1, 1, 0, 0, 0, 0) := by decide +kernel
theorem l_228_1 : look 228 1 = some (.iconst 0, 1, 0, 0, 0, 0) := by decide +kernel
theorem l_228_2 : look 228 2 = some (.aload_n 0, 1, 0, 0, 0, 0) := by decide +kernel
theorem l_228_3 : look 228 3 = some (.getfield 324, 3, 10, 1, 0, 1502) := by decide +kernel
theorem l_228_6 : look 228 6 = some (.iconst 1, 1, 0, 0, 0, 0) := by decide +kernel
theorem l_228_7 : look 228 7 = some (.isub, 1, 0, 0, 0, 0) := by decide +kernel
theorem l_228_8 : look 228 8 = some (.invokestatic 175, 3, 169, 3, 1, 1775) := by decide +kernel
theorem l_228_11 : look 228 11 = some (.ireturn, 1, 0, 0, 1, 0) := by decide +kernel

theorem s_228 (hm : oModel S T s) {ne np : Nat} {a : Nat → Nat} {cd : Nat → Cd} (B : MP I s h l a ne np cd) {p : Int} : CL xs 228 [vr s, vi p] (S, I, T, cc, zz) (FN (some (vi (b2i (decide (0 ≤ p ∧ p ≤ ((lPorts l : Nat) : Int) - 1))))) (S, I, T, cc, zz)) := by
  refine CL_start (r := 1) (ls := [vr s, vi p]) (rk_228 _) rfl ?_
  refine w_iln l_228_0 rfl ?_
  refine w_ic l_228_1 (by decide) ?_
  refine w_aln l_228_2 rfl ?_
  refine w_gi (((lPorts l) : Nat) : Int) l_228_3 (oModel_sh hm) B.2.1.1 ?_
  refine w_ic l_228_6 (by decide) ?_
  refine w_sub (((lPorts l : Nat) : Int) - 1) l_228_7 (by have := B.2.2.2.2.1.1; unfold wr; omega) ?_
  refine q_st [vi p, vi 0, vi (((lPorts l : Nat) : Int) - 1)] [] l_228_8 (by decide) rfl rfl (Nat.le_of_ble_eq_true rfl) (by rw [mx_169]; exact Nat.le_of_ble_eq_true rfl) (by rw [rk_169]; decide) (s_169) ?_
  refine w_ir l_228_11 (Or.inr (Or.inl ⟨rfl, (b2i_r _).1, (b2i_r _).2⟩)) ?_
  exact ⟨rfl, rfl⟩

theorem mx_229 : mxl 229 = 2 := by decide +kernel
theorem mt_229 : mtc 229 = 10 := by decide +kernel
theorem rk_229 (as : List AV) : rkA 229 as = 1 := rfl
theorem l_229_0 : look 229 0 = some (.iload_n 1, 1, 0, 0, 0, 0) := by decide +kernel
theorem l_229_1 : look 229 1 = some (.iconst 0, 1, 0, 0, 0, 0) := by decide +kernel
theorem l_229_2 : look 229 2 = some (.aload_n 0, 1, 0, 0, 0, 0) := by decide +kernel
theorem l_229_3 : look 229 3 = some (.getfield 327, 3, 10, 10, 0, 1511) := by decide +kernel
theorem l_229_6 : look 229 6 = some (.iconst 1, 1, 0, 0, 0, 0) := by decide +kernel
theorem l_229_7 : look 229 7 = some (.isub, 1, 0, 0, 0, 0) := by decide +kernel
theorem l_229_8 : look 229 8 = some (.invokestatic 175, 3, 169, 3, 1, 1775) := by decide +kernel
theorem l_229_11 : look 229 11 = some (.ireturn, 1, 0, 0, 1, 0) := by decide +kernel

theorem s_229 (hm : oModel S T s) {ne np : Nat} {a : Nat → Nat} {cd : Nat → Cd} (B : MP I s h l a ne np cd) {p : Int} : CL xs 229 [vr s, vi p] (S, I, T, cc, zz) (FN (some (vi (b2i (decide (0 ≤ p ∧ p ≤ ((lRules l : Nat) : Int) - 1))))) (S, I, T, cc, zz)) := by
  refine CL_start (r := 1) (ls := [vr s, vi p]) (rk_229 _) rfl ?_
  refine w_iln l_229_0 rfl ?_
  refine w_ic l_229_1 (by decide) ?_
  refine w_aln l_229_2 rfl ?_
  refine w_gi (((lRules l) : Nat) : Int) l_229_3 (oModel_sh hm) B.2.1.2.2.2.2.2.1 ?_
  refine w_ic l_229_6 (by decide) ?_
  refine w_sub (((lRules l : Nat) : Int) - 1) l_229_7 (by have := B.2.2.2.2.1.2.1; unfold wr; omega) ?_
  refine q_st [vi p, vi 0, vi (((lRules l : Nat) : Int) - 1)] [] l_229_8 (by decide) rfl rfl (Nat.le_of_ble_eq_true rfl) (by rw [mx_169]; exact Nat.le_of_ble_eq_true rfl) (by rw [rk_169]; decide) (s_169) ?_
  refine w_ir l_229_11 (Or.inr (Or.inl ⟨rfl, (b2i_r _).1, (b2i_r _).2⟩)) ?_
  exact ⟨rfl, rfl⟩

theorem mx_230 : mxl 230 = 2 := by decide +kernel
theorem mt_230 : mtc 230 = 10 := by decide +kernel
theorem rk_230 (as : List AV) : rkA 230 as = 1 := rfl
theorem l_230_0 : look 230 0 = some (.iload_n 1, 1, 0, 0, 0, 0) := by decide +kernel
theorem l_230_1 : look 230 1 = some (.iconst 0, 1, 0, 0, 0, 0) := by decide +kernel
theorem l_230_2 : look 230 2 = some (.aload_n 0, 1, 0, 0, 0, 0) := by decide +kernel
theorem l_230_3 : look 230 3 = some (.getfield 333, 3, 10, 16, 0, 1517) := by decide +kernel
theorem l_230_6 : look 230 6 = some (.iconst 1, 1, 0, 0, 0, 0) := by decide +kernel
theorem l_230_7 : look 230 7 = some (.isub, 1, 0, 0, 0, 0) := by decide +kernel
theorem l_230_8 : look 230 8 = some (.invokestatic 175, 3, 169, 3, 1, 1775) := by decide +kernel
theorem l_230_11 : look 230 11 = some (.ireturn, 1, 0, 0, 1, 0) := by decide +kernel

theorem s_230 (hm : oModel S T s) {ne np : Nat} {a : Nat → Nat} {cd : Nat → Cd} (B : MP I s h l a ne np cd) {p : Int} : CL xs 230 [vr s, vi p] (S, I, T, cc, zz) (FN (some (vi (b2i (decide (0 ≤ p ∧ p ≤ ((np : Nat) : Int) - 1))))) (S, I, T, cc, zz)) := by
  refine CL_start (r := 1) (ls := [vr s, vi p]) (rk_230 _) rfl ?_
  refine w_iln l_230_0 rfl ?_
  refine w_ic l_230_1 (by decide) ?_
  refine w_aln l_230_2 rfl ?_
  refine w_gi (((np) : Nat) : Int) l_230_3 (oModel_sh hm) B.2.2.2.2.2.2.2.2 ?_
  refine w_ic l_230_6 (by decide) ?_
  refine w_sub (((np : Nat) : Int) - 1) l_230_7 (by have := B.1.1; have := B.1.2.1; unfold wr; omega) ?_
  refine q_st [vi p, vi 0, vi (((np : Nat) : Int) - 1)] [] l_230_8 (by decide) rfl rfl (Nat.le_of_ble_eq_true rfl) (by rw [mx_169]; exact Nat.le_of_ble_eq_true rfl) (by rw [rk_169]; decide) (s_169) ?_
  refine w_ir l_230_11 (Or.inr (Or.inl ⟨rfl, (b2i_r _).1, (b2i_r _).2⟩)) ?_
  exact ⟨rfl, rfl⟩

theorem mx_231 : mxl 231 = 2 := by decide +kernel
theorem mt_231 : mtc 231 = 10 := by decide +kernel
theorem rk_231 (as : List AV) : rkA 231 as = 1 := rfl
theorem l_231_0 : look 231 0 = some (.iload_n 1, 1, 0, 0, 0, 0) := by decide +kernel
theorem l_231_1 : look 231 1 = some (.iconst 0, 1, 0, 0, 0, 0) := by decide +kernel
theorem l_231_2 : look 231 2 = some (.aload_n 0, 1, 0, 0, 0, 0) := by decide +kernel
theorem l_231_3 : look 231 3 = some (.getfield 330, 3, 10, 15, 0, 1516) := by decide +kernel
theorem l_231_6 : look 231 6 = some (.iconst 1, 1, 0, 0, 0, 0) := by decide +kernel
theorem l_231_7 : look 231 7 = some (.isub, 1, 0, 0, 0, 0) := by decide +kernel
theorem l_231_8 : look 231 8 = some (.invokestatic 175, 3, 169, 3, 1, 1775) := by decide +kernel
theorem l_231_11 : look 231 11 = some (.ireturn, 1, 0, 0, 1, 0) := by decide +kernel

theorem s_231 (hm : oModel S T s) {ne np : Nat} {a : Nat → Nat} {cd : Nat → Cd} (B : MP I s h l a ne np cd) {p : Int} : CL xs 231 [vr s, vi p] (S, I, T, cc, zz) (FN (some (vi (b2i (decide (0 ≤ p ∧ p ≤ ((ne : Nat) : Int) - 1))))) (S, I, T, cc, zz)) := by
  refine CL_start (r := 1) (ls := [vr s, vi p]) (rk_231 _) rfl ?_
  refine w_iln l_231_0 rfl ?_
  refine w_ic l_231_1 (by decide) ?_
  refine w_aln l_231_2 rfl ?_
  refine w_gi (((ne) : Nat) : Int) l_231_3 (oModel_sh hm) B.2.2.2.2.2.2.2.1 ?_
  refine w_ic l_231_6 (by decide) ?_
  refine w_sub (((ne : Nat) : Int) - 1) l_231_7 (by have := B.1.1; unfold wr; omega) ?_
  refine q_st [vi p, vi 0, vi (((ne : Nat) : Int) - 1)] [] l_231_8 (by decide) rfl rfl (Nat.le_of_ble_eq_true rfl) (by rw [mx_169]; exact Nat.le_of_ble_eq_true rfl) (by rw [rk_169]; decide) (s_169) ?_
  refine w_ir l_231_11 (Or.inr (Or.inl ⟨rfl, (b2i_r _).1, (b2i_r _).2⟩)) ?_
  exact ⟨rfl, rfl⟩

theorem mx_261 : mxl 261 = 2 := by decide +kernel
theorem mt_261 : mtc 261 = 10 := by decide +kernel
theorem rk_261 (as : List AV) : rkA 261 as = 1 := rfl
theorem l_261_0 : look 261 0 = some (.iload_n 1, 1, 0, 0, 0, 0) := by decide +kernel
theorem l_261_1 : look 261 1 = some (.iconst 0, 1, 0, 0, 0, 0) := by decide +kernel
theorem l_261_2 : look 261 2 = some (.aload_n 0, 1, 0, 0, 0, 0) := by decide +kernel
theorem l_261_3 : look 261 3 = some (.getfield 330, 3, 10, 15, 0, 1516) := by decide +kernel
theorem l_261_6 : look 261 6 = some (.invokestatic 175, 3, 169, 3, 1, 1775) := by decide +kernel
theorem l_261_9 : look 261 9 = some (.ireturn, 1, 0, 0, 1, 0) := by decide +kernel

theorem s_261 (hm : oModel S T s) {ne np : Nat} {a : Nat → Nat} {cd : Nat → Cd} (B : MP I s h l a ne np cd) {p : Int} : CL xs 261 [vr s, vi p] (S, I, T, cc, zz) (FN (some (vi (b2i (decide (0 ≤ p ∧ p ≤ ((ne : Nat) : Int)))))) (S, I, T, cc, zz)) := by
  refine CL_start (r := 1) (ls := [vr s, vi p]) (rk_261 _) rfl ?_
  refine w_iln l_261_0 rfl ?_
  refine w_ic l_261_1 (by decide) ?_
  refine w_aln l_261_2 rfl ?_
  refine w_gi ((ne : Nat) : Int) l_261_3 (oModel_sh hm) B.2.2.2.2.2.2.2.1 ?_
  refine q_st [vi p, vi 0, vi ((ne : Nat) : Int)] [] l_261_6 (by decide) rfl rfl (Nat.le_of_ble_eq_true rfl) (by rw [mx_169]; exact Nat.le_of_ble_eq_true rfl) (by rw [rk_169]; decide) (s_169) ?_
  refine w_ir l_261_9 (Or.inr (Or.inl ⟨rfl, (b2i_r _).1, (b2i_r _).2⟩)) ?_
  exact ⟨rfl, rfl⟩

theorem mx_233 : mxl 233 = 1 := by decide +kernel
theorem mt_233 : mtc 233 = 10 := by decide +kernel
theorem rk_233 (as : List AV) : rkA 233 as = 1 := rfl
theorem l_233_0 : look 233 0 = some (.iload_n 0, 1, 0, 0, 0, 0) := by decide +kernel
theorem l_233_1 : look 233 1 = some (.iconst 0, 1, 0, 0, 0, 0) := by decide +kernel
theorem l_233_2 : look 233 2 = some (.bipush 63, 2, 0, 0, 0, 0) := by decide +kernel
theorem l_233_4 : look 233 4 = some (.invokestatic 175, 3, 169, 3, 1, 1775) := by decide +kernel
theorem l_233_7 : look 233 7 = some (.ireturn, 1, 0, 0, 1, 0) := by decide +kernel

theorem s_233 {I : Ix} {p : Int} : CL xs 233 [vi p] (S, I, T, cc, zz) (FN (some (vi (b2i (decide (0 ≤ p ∧ p ≤ 63))))) (S, I, T, cc, zz)) := by
  refine CL_start (r := 1) (ls := [vi p]) (rk_233 _) rfl ?_
  refine w_iln l_233_0 rfl ?_
  refine w_ic l_233_1 (by decide) ?_
  refine w_bp l_233_2 (by decide) ?_
  refine q_st [vi p, vi 0, vi 63] [] l_233_4 (by decide) rfl rfl (Nat.le_of_ble_eq_true rfl) (by rw [mx_169]; exact Nat.le_of_ble_eq_true rfl) (by rw [rk_169]; decide) (s_169) ?_
  refine w_ir l_233_7 (Or.inr (Or.inl ⟨rfl, (b2i_r _).1, (b2i_r _).2⟩)) ?_
  exact ⟨rfl, rfl⟩

theorem mx_256 : mxl 256 = 1 := by decide +kernel
theorem mt_256 : mtc 256 = 10 := by decide +kernel
theorem rk_256 (as : List AV) : rkA 256 as = 1 := rfl
theorem l_256_0 : look 256 0 = some (.iload_n 0, 1, 0, 0, 0, 0) := by decide +kernel
theorem l_256_1 : look 256 1 = some (.iconst 1, 1, 0, 0, 0, 0) := by decide +kernel
theorem l_256_2 : look 256 2 = some (.bipush 10, 2, 0, 0, 0, 0) := by decide +kernel
theorem l_256_4 : look 256 4 = some (.invokestatic 175, 3, 169, 3, 1, 1775) := by decide +kernel
theorem l_256_7 : look 256 7 = some (.ireturn, 1, 0, 0, 1, 0) := by decide +kernel

theorem s_256 {I : Ix} {p : Int} : CL xs 256 [vi p] (S, I, T, cc, zz) (FN (some (vi (b2i (decide (1 ≤ p ∧ p ≤ 10))))) (S, I, T, cc, zz)) := by
  refine CL_start (r := 1) (ls := [vi p]) (rk_256 _) rfl ?_
  refine w_iln l_256_0 rfl ?_
  refine w_ic l_256_1 (by decide) ?_
  refine w_bp l_256_2 (by decide) ?_
  refine q_st [vi p, vi 1, vi 10] [] l_256_4 (by decide) rfl rfl (Nat.le_of_ble_eq_true rfl) (by rw [mx_169]; exact Nat.le_of_ble_eq_true rfl) (by rw [rk_169]; decide) (s_169) ?_
  refine w_ir l_256_7 (Or.inr (Or.inl ⟨rfl, (b2i_r _).1, (b2i_r _).2⟩)) ?_
  exact ⟨rfl, rfl⟩

theorem mx_242 : mxl 242 = 2 := by decide +kernel
theorem mt_242 : mtc 242 = 10 := by decide +kernel
theorem rk_242 (as : List AV) : rkA 242 as = 10 := rfl
theorem l_242_0 : look 242 0 = some (.aload_n 0, 1, 0, 0, 0, 0) := by decide +kernel
theorem l_242_1 : look 242 1 = some (.aload_n 0, 1, 0, 0, 0, 0) := by decide +kernel
theorem l_242_2 : look 242 2 = some (.iload_n 1, 1, 0, 0, 0, 0) := by decide +kernel
theorem l_242_3 : look 242 3 = some (.invokevirtual 449, 3, 228, 2, 0, 1889) := by decide +kernel
theorem l_242_6 : look 242 6 = some (.ifCond .eq 7, 3, 0, 0, 0, 0) := by decide +kernel
theorem l_242_9 : look 242 9 = some (.iconst 0, 1, 0, 0, 0, 0) := by decide +kernel
theorem l_242_10 : look 242 10 = some (.goto 4, 3, 0, 0, 0, 0) := by decide +kernel
theorem l_242_13 : look 242 13 = some (.iconst 1, 1, 0, 0, 0, 0) := by decide +kernel
theorem l_242_14 : look 242 14 = some (.putfield 152, 3, 10, 0, 0, 1501) := by decide +kernel
theorem l_242_17 : look 242 17 = some (.aload_n 0, 1, 0, 0, 0, 0) := by decide +kernel
theorem l_242_18 : look 242 18 = some (.getfield 152, 3, 10, 0, 0, 1501) := by decide +kernel
theorem l_242_21 : look 242 21 = some (.ifCond .ne 7, 3, 0, 0, 0, 0) := by decide +kernel
theorem l_242_24 : look 242 24 = some (.aload_n 0, 1, 0, 0, 0, 0) := by decide +kernel
theorem l_242_25 : look 242 25 = some (.invokevirtual 443, 3, 215, 1, 0, 1897) := by decide +kernel
theorem l_242_28 : look 242 28 = some (.aload_n 0, 1, 0, 0, 0, 0) := by decide +kernel
theorem l_242_29 : look 242 29 = some (.getfield 152, 3, 10, 0, 0, 1501) := by decide +kernel
theorem l_242_32 : look 242 32 = some (.ifCond .ne 7, 3, 0, 0, 0, 0) := by decide +kernel
theorem l_242_35 : look 242 35 = some (.iconst 1, 1, 0, 0, 0, 0) := by decide +kernel
theorem l_242_36 : look 242 36 = some (.goto 4, 3, 0, 0, 0, 0) := by decide +kernel
theorem l_242_39 : look 242 39 = some (.iconst 0, 1, 0, 0, 0, 0) := by decide +kernel
theorem l_242_40 : look 242 40 = some (.ireturn, 1, 0, 0, 1, 0) := by decide +kernel

theorem s_242 (hm : oModel S T s) {ne np : Nat} {a : Nat → Nat} {cd : Nat → Cd} (B : MP I s h l a ne np cd) {p : Int} (hp : 0 ≤ p ∧ p ≤ ((lPorts l : Nat) : Int) - 1) : CL xs 242 [vr s, vi p] (S, I, T, cc, zz) (RP S T cc zz (fun v I' => v = some (vi 1) ∧ I' s 0 = 0 ∧ nR I' s l (runA h l noOut ne) ∧ mfk I I' s)) := by
  refine CL_start (r := 10) (ls := [vr s, vi p]) (rk_242 _) rfl ?_
  refine w_aln l_242_0 rfl ?_
  refine w_aln l_242_1 rfl ?_
  refine w_iln l_242_2 rfl ?_
  refine q_iv [vi p] [vr s] l_242_3 rfl rfl (Nat.le_of_ble_eq_true rfl) (by rw [mx_228]; exact Nat.le_of_ble_eq_true rfl) (by rw [mt_228]; exact oModel_sh hm) (by rw [mt_228]; decide) (by rw [rk_228]; decide) (s_228 hm B) ?_
  refine w_beq 13 l_242_6 (by decide) (fun hx => absurd hx (by rw [decide_eq_true hp]; decide)) (fun _ => ?_)
  refine w_ic l_242_9 (by decide) ?_
  refine w_go 14 l_242_10 (by decide) ?_
  refine w_pi l_242_14 (oModel_sh hm) ?_
  refine w_aln l_242_17 rfl ?_
  refine w_gi 0 l_242_18 (oModel_sh hm) up_eq ?_
  refine w_zne 28 l_242_21 (by decide) (fun hx => absurd hx (by decide)) (fun _ => ?_)
  refine w_aln l_242_24 rfl ?_
  refine p_iv [] [] l_242_25 rfl rfl (Nat.le_of_ble_eq_true rfl) (by rw [mx_215]; exact Nat.le_of_ble_eq_true rfl) (by rw [mt_215]; exact oModel_sh hm) (by rw [mt_215]; decide) (by rw [rk_215]; decide) (s_215 hm (B.k (mfk.u (Or.inl rfl)))) (fun v I1 hv => ?_)
  obtain ⟨rfl, hR1, f1, _⟩ := hv
  refine w_aln l_242_28 rfl ?_
  refine w_gi 0 l_242_29 (oModel_sh hm) ((f1 s 0 (fun _ => Or.inl (by decide)) (fun e => absurd e (Nat.lt_irrefl s))).trans up_eq) ?_
  refine w_zne 39 l_242_32 (by decide) (fun hx => absurd hx (by decide)) (fun _ => ?_)
  refine w_ic l_242_35 (by decide) ?_
  refine w_go 40 l_242_36 (by decide) ?_
  refine w_ir l_242_40 (by decide) ?_
  exact ⟨_, _, rfl, rfl, rfl, (f1 s 0 (fun _ => Or.inl (by decide)) (fun e => absurd e (Nat.lt_irrefl s))).trans up_eq, hR1, (mfk.u (Or.inl rfl)).tr f1.k⟩

theorem s_242n (hm : oModel S T s) {ne np : Nat} {a : Nat → Nat} {cd : Nat → Cd} (B : MP I s h l a ne np cd) {p : Int} (hp : ¬ (0 ≤ p ∧ p ≤ ((lPorts l : Nat) : Int) - 1)) : CL xs 242 [vr s, vi p] (S, I, T, cc, zz) (RP S T cc zz (fun v I' => v = some (vi 0) ∧ I' s 0 = 1 ∧ mfk I I' s)) := by
  refine CL_start (r := 10) (ls := [vr s, vi p]) (rk_242 _) rfl ?_
  refine w_aln l_242_0 rfl ?_
  refine w_aln l_242_1 rfl ?_
  refine w_iln l_242_2 rfl ?_
  refine q_iv [vi p] [vr s] l_242_3 rfl rfl (Nat.le_of_ble_eq_true rfl) (by rw [mx_228]; exact Nat.le_of_ble_eq_true rfl) (by rw [mt_228]; exact oModel_sh hm) (by rw [mt_228]; decide) (by rw [rk_228]; decide) (s_228 hm B) ?_
  refine w_beq 13 l_242_6 (by decide) (fun _ => ?_) (fun hx => absurd hx (by rw [decide_eq_false hp]; decide))
  refine w_ic l_242_13 (by decide) ?_
  refine w_pi l_242_14 (oModel_sh hm) ?_
  refine w_aln l_242_17 rfl ?_
  refine w_gi 1 l_242_18 (oModel_sh hm) up_eq ?_
  refine w_zne 28 l_242_21 (by decide) (fun _ => ?_) (fun hx => absurd hx (by decide))
  refine w_aln l_242_28 rfl ?_
  refine w_gi 1 l_242_29 (oModel_sh hm) up_eq ?_
  refine w_zne 39 l_242_32 (by decide) (fun _ => ?_) (fun hx => absurd hx (by decide))
  refine w_ic l_242_39 (by decide) ?_
  refine w_ir l_242_40 (by decide) ?_
  exact ⟨_, _, rfl, rfl, rfl, up_eq, mfk.u (Or.inl rfl)⟩

theorem r_validI (hm : oModel S T s) (hA : I s 52 = ((lAge l : Nat) : Int)) (hR : nR I s l r) {b : Nat} (hb : b < 64) {y : Option Nat} (hy : validA l r.1 b = y) : CL xs 221 [vr s, vi ((b : Nat) : Int)] (S, I, T, cc, zz) (FN (some (vi (b2i y.isSome))) (S, I, T, cc, zz)) := by
  subst hy
  have g := hR.1.2.2.2.2 b hb
  have ht := hR.1.1.2
  unfold nT at g
  cases hT : sTab r.1 b with
  | none =>
    rw [hT] at g
    change I (s + 32) b = -1 at g
    refine CL_start (r := 0) (ls := [vr s, vi ((b : Nat) : Int)]) (rk_221 _) rfl ?_
    refine w_aln l_221_0 rfl ?_
    refine w_gr l_221_1 (oModel_sh hm) (oModel_r61 hm) ?_
    refine w_iln l_221_4 rfl ?_
    refine w_ia b (-1) l_221_5 (oModel_s61 hm) rfl (by omega) g ?_
    refine w_ic l_221_6 (by decide) ?_
    refine w_ceq 32 l_221_7 (by decide) (fun _ => ?_) (fun hx => absurd hx (by decide))
    refine w_ic l_221_32 (by decide) ?_
    refine w_ir l_221_33 (by decide) ?_
    refine ⟨?_, rfl⟩
    rw [show (validA l r.1 b).isSome = false by unfold validA; rw [hT]; rfl]; rfl
  | some wt =>
    obtain ⟨w, t⟩ := wt
    rw [hT] at g
    change I (s + 32) b = (w : Int) ∧ w < 4 ∧ I (s + 33) b = (t : Int) ∧ t ≤ 120 at g
    have g3 := g.2.2.2
    refine CL_start (r := 0) (ls := [vr s, vi ((b : Nat) : Int)]) (rk_221 _) rfl ?_
    refine w_aln l_221_0 rfl ?_
    refine w_gr l_221_1 (oModel_sh hm) (oModel_r61 hm) ?_
    refine w_iln l_221_4 rfl ?_
    refine w_ia b ((w : Nat) : Int) l_221_5 (oModel_s61 hm) rfl (by omega) g.1 ?_
    refine w_ic l_221_6 (by decide) ?_
    refine w_ceq 32 l_221_7 (by decide) (fun hx => absurd hx (by omega)) (fun _ => ?_)
    refine w_aln l_221_10 rfl ?_
    refine w_gi (((sTime r.1) : Nat) : Int) l_221_11 (oModel_sh hm) hR.1.1.1 ?_
    refine w_aln l_221_14 rfl ?_
    refine w_gr l_221_15 (oModel_sh hm) (oModel_r62 hm) ?_
    refine w_iln l_221_18 rfl ?_
    refine w_ia b ((t : Nat) : Int) l_221_19 (oModel_s62 hm) rfl (by omega) g.2.2.1 ?_
    refine w_sub ((((sTime r.1) : Nat) : Int) - ((t : Nat) : Int)) l_221_20 (by unfold wr; omega) ?_
    refine w_aln l_221_21 rfl ?_
    refine w_gi (((lAge l) : Nat) : Int) l_221_22 (oModel_sh hm) hA ?_
    refine w_cgt 32 l_221_25 (by decide) (fun h1 => ?_) (fun h1 => ?_)
    · skip
      refine w_ic l_221_32 (by decide) ?_
      refine w_ir l_221_33 (by decide) ?_
      refine ⟨?_, rfl⟩
      first
        | (rw [show (validA l r.1 b).isSome = true by unfold validA; rw [hT]; simp only; rw [if_pos (by omega)]; rfl]; rfl)
        | (rw [show (validA l r.1 b).isSome = false by unfold validA; rw [hT]; simp only; rw [if_neg (by omega)]; rfl]; rfl)
    · skip
      refine w_ic l_221_28 (by decide) ?_
      refine w_go 33 l_221_29 (by decide) ?_
      refine w_ir l_221_33 (by decide) ?_
      refine ⟨?_, rfl⟩
      first
        | (rw [show (validA l r.1 b).isSome = true by unfold validA; rw [hT]; simp only; rw [if_pos (by omega)]; rfl]; rfl)
        | (rw [show (validA l r.1 b).isSome = false by unfold validA; rw [hT]; simp only; rw [if_neg (by omega)]; rfl]; rfl)

theorem mx_243 : mxl 243 = 2 := by decide +kernel
theorem mt_243 : mtc 243 = 10 := by decide +kernel
theorem rk_243 (as : List AV) : rkA 243 as = 11 := rfl
theorem l_243_0 : look 243 0 = some (.aload_n 0, 1, 0, 0, 0, 0) := by decide +kernel
theorem l_243_1 : look 243 1 = some (.iload_n 1, 1, 0, 0, 0, 0) := by decide +kernel
theorem l_243_2 : look 243 2 = some (.invokevirtual 462, 3, 242, 2, 0, 2036) := by decide +kernel
theorem l_243_5 : look 243 5 = some (.ifCond .eq 11, 3, 0, 0, 0, 0) := by decide +kernel
theorem l_243_8 : look 243 8 = some (.aload_n 0, 1, 0, 0, 0, 0) := by decide +kernel
theorem l_243_9 : look 243 9 = some (.iload_n 1, 1, 0, 0, 0, 0) := by decide +kernel
theorem l_243_10 : look 243 10 = some (.invokevirtual 366, 3, 209, 2, 0, 1968) := by decide +kernel
theorem l_243_13 : look 243 13 = some (.goto 4, 3, 0, 0, 0, 0) := by decide +kernel
theorem l_243_16 : look 243 16 = some (.iconst 0, 1, 0, 0, 0, 0) := by decide +kernel
theorem l_243_17 : look 243 17 = some (.ireturn, 1, 0, 0, 0, 0) := by decide +kernel

theorem s_243 (hm : oModel S T s) {ne np : Nat} {a : Nat → Nat} {cd : Nat → Cd} (B : MP I s h l a ne np cd) {p : Nat} (hp : p < lPorts l) : CL xs 243 [vr s, vi ((p : Nat) : Int)] (S, I, T, cc, zz) (RP S T cc zz (fun v I' => v = some (vi ((fillP h (runA h l noOut ne).1 p : Nat) : Int)) ∧ I' s 0 = 0 ∧ mfk I I' s)) := by
  refine CL_start (r := 11) (ls := [vr s, vi ((p : Nat) : Int)]) (rk_243 _) rfl ?_
  have hl4 := B.2.2.2.2.1.1
  have hp4 : p < 4 := by omega
  have hok := (B.run noOut (Nat.le_refl ne)).1
  have hll := ok_len hok B.2.2.2.1 p
  refine w_aln l_243_0 rfl ?_
  refine w_iln l_243_1 rfl ?_
  refine p_iv [vi ((p : Nat) : Int)] [] l_243_2 rfl rfl (Nat.le_of_ble_eq_true rfl) (by rw [mx_242]; exact Nat.le_of_ble_eq_true rfl) (by rw [mt_242]; exact oModel_sh hm) (by rw [mt_242]; decide) (by rw [rk_242]; decide) (s_242 hm B (p := ((p : Nat) : Int)) (by omega)) (fun v I1 hv => ?_)
  obtain ⟨rfl, h0, hR1, f1⟩ := hv
  refine w_zeq 16 l_243_5 (by decide) (fun hx => absurd hx (by decide)) (fun _ => ?_)
  refine w_aln l_243_8 rfl ?_
  refine w_iln l_243_9 rfl ?_
  refine q_iv [vi ((p : Nat) : Int)] [] l_243_10 rfl rfl (Nat.le_of_ble_eq_true rfl) (by rw [mx_209]; exact Nat.le_of_ble_eq_true rfl) (by rw [mt_209]; exact oModel_sh hm) (by rw [mt_209]; decide) (by rw [rk_209]; decide) (s_209 hm (B.k f1).1 B.2.2.2.1 hp4 (hR1.1.2.2.1 p hp4) (ok_hq hok)) ?_
  refine w_go 17 l_243_13 (by decide) ?_
  refine w_ir l_243_17 (Or.inl rfl) ?_
  exact ⟨_, _, rfl, rfl, rfl, h0, f1⟩

theorem s_243n (hm : oModel S T s) {ne np : Nat} {a : Nat → Nat} {cd : Nat → Cd} (B : MP I s h l a ne np cd) {p : Int} (hp : ¬ (0 ≤ p ∧ p ≤ ((lPorts l : Nat) : Int) - 1)) : CL xs 243 [vr s, vi p] (S, I, T, cc, zz) (RP S T cc zz (fun v I' => v = some (vi 0) ∧ I' s 0 = 1 ∧ mfk I I' s)) := by
  refine CL_start (r := 11) (ls := [vr s, vi p]) (rk_243 _) rfl ?_
  refine w_aln l_243_0 rfl ?_
  refine w_iln l_243_1 rfl ?_
  refine p_iv [vi p] [] l_243_2 rfl rfl (Nat.le_of_ble_eq_true rfl) (by rw [mx_242]; exact Nat.le_of_ble_eq_true rfl) (by rw [mt_242]; exact oModel_sh hm) (by rw [mt_242]; decide) (by rw [rk_242]; decide) (s_242n hm B hp) (fun v I1 hv => ?_)
  obtain ⟨rfl, h0, f1⟩ := hv
  refine w_zeq 16 l_243_5 (by decide) (fun _ => ?_) (fun hx => absurd hx (by decide))
  refine w_ic l_243_16 (by decide) ?_
  refine w_ir l_243_17 (Or.inl rfl) ?_
  exact ⟨_, _, rfl, rfl, rfl, h0, f1⟩

theorem mx_244 : mxl 244 = 2 := by decide +kernel
theorem mt_244 : mtc 244 = 10 := by decide +kernel
theorem rk_244 (as : List AV) : rkA 244 as = 11 := rfl
theorem l_244_0 : look 244 0 = some (.aload_n 0, 1, 0, 0, 0, 0) := by decide +kernel
theorem l_244_1 : look 244 1 = some (.iload_n 1, 1, 0, 0, 0, 0) := by decide +kernel
theorem l_244_2 : look 244 2 = some (.invokevirtual 462, 3, 242, 2, 0, 2036) := by decide +kernel
theorem l_244_5 : look 244 5 = some (.ifCond .eq 12, 3, 0, 0, 0, 0) := by decide +kernel
theorem l_244_8 : look 244 8 = some (.aload_n 0, 1, 0, 0, 0, 0) := by decide +kernel
theorem l_244_9 : look 244 9 = some (.getfield 122, 3, 10, 59, 2, 1560) := by decide +kernel
theorem l_244_12 : look 244 12 = some (.iload_n 1, 1, 0, 0, 0, 0) := by decide +kernel
theorem l_244_13 : look 244 13 = some (.iaload, 1, 0, 0, 0, 0) := by decide +kernel
theorem l_244_14 : look 244 14 = some (.goto 4, 3, 0, 0, 0, 0) := by decide +kernel
theorem l_244_17 : look 244 17 = some (.iconst 0, 1, 0, 0, 0, 0) := by decide +kernel
theorem l_244_18 : look 244 18 = some (.ireturn, 1, 0, 0, 0, 0) := by decide +kernel

theorem s_244 (hm : oModel S T s) {ne np : Nat} {a : Nat → Nat} {cd : Nat → Cd} (B : MP I s h l a ne np cd) {p : Nat} (hp : p < lPorts l) : CL xs 244 [vr s, vi ((p : Nat) : Int)] (S, I, T, cc, zz) (RP S T cc zz (fun v I' => v = some (vi (((sQ (runA h l noOut ne).1 p).length : Nat) : Int)) ∧ I' s 0 = 0 ∧ mfk I I' s)) := by
  refine CL_start (r := 11) (ls := [vr s, vi ((p : Nat) : Int)]) (rk_244 _) rfl ?_
  have hl4 := B.2.2.2.2.1.1
  have hp4 : p < 4 := by omega
  have hok := (B.run noOut (Nat.le_refl ne)).1
  have hll := ok_len hok B.2.2.2.1 p
  refine w_aln l_244_0 rfl ?_
  refine w_iln l_244_1 rfl ?_
  refine p_iv [vi ((p : Nat) : Int)] [] l_244_2 rfl rfl (Nat.le_of_ble_eq_true rfl) (by rw [mx_242]; exact Nat.le_of_ble_eq_true rfl) (by rw [mt_242]; exact oModel_sh hm) (by rw [mt_242]; decide) (by rw [rk_242]; decide) (s_242 hm B (p := ((p : Nat) : Int)) (by omega)) (fun v I1 hv => ?_)
  obtain ⟨rfl, h0, hR1, f1⟩ := hv
  refine w_zeq 17 l_244_5 (by decide) (fun hx => absurd hx (by decide)) (fun _ => ?_)
  refine w_aln l_244_8 rfl ?_
  refine w_gr l_244_9 (oModel_sh hm) (oModel_r59 hm) ?_
  refine w_iln l_244_12 rfl ?_
  refine w_ia p (((sQ (runA h l noOut ne).1 p).length : Nat) : Int) l_244_13 (oModel_s59 hm) rfl (by omega) ((hR1.1.2.2.1 p hp4).1) ?_
  refine w_go 18 l_244_14 (by decide) ?_
  refine w_ir l_244_18 (Or.inl rfl) ?_
  exact ⟨_, _, rfl, rfl, rfl, h0, f1⟩

theorem s_244n (hm : oModel S T s) {ne np : Nat} {a : Nat → Nat} {cd : Nat → Cd} (B : MP I s h l a ne np cd) {p : Int} (hp : ¬ (0 ≤ p ∧ p ≤ ((lPorts l : Nat) : Int) - 1)) : CL xs 244 [vr s, vi p] (S, I, T, cc, zz) (RP S T cc zz (fun v I' => v = some (vi 0) ∧ I' s 0 = 1 ∧ mfk I I' s)) := by
  refine CL_start (r := 11) (ls := [vr s, vi p]) (rk_244 _) rfl ?_
  refine w_aln l_244_0 rfl ?_
  refine w_iln l_244_1 rfl ?_
  refine p_iv [vi p] [] l_244_2 rfl rfl (Nat.le_of_ble_eq_true rfl) (by rw [mx_242]; exact Nat.le_of_ble_eq_true rfl) (by rw [mt_242]; exact oModel_sh hm) (by rw [mt_242]; decide) (by rw [rk_242]; decide) (s_242n hm B hp) (fun v I1 hv => ?_)
  obtain ⟨rfl, h0, f1⟩ := hv
  refine w_zeq 17 l_244_5 (by decide) (fun _ => ?_) (fun hx => absurd hx (by decide))
  refine w_ic l_244_17 (by decide) ?_
  refine w_ir l_244_18 (Or.inl rfl) ?_
  exact ⟨_, _, rfl, rfl, rfl, h0, f1⟩

theorem mx_246 : mxl 246 = 2 := by decide +kernel
theorem mt_246 : mtc 246 = 10 := by decide +kernel
theorem rk_246 (as : List AV) : rkA 246 as = 11 := rfl
theorem l_246_0 : look 246 0 = some (.aload_n 0, 1, 0, 0, 0, 0) := by decide +kernel
theorem l_246_1 : look 246 1 = some (.iload_n 1, 1, 0, 0, 0, 0) := by decide +kernel
theorem l_246_2 : look 246 2 = some (.invokevirtual 462, 3, 242, 2, 0, 2036) := by decide +kernel
theorem l_246_5 : look 246 5 = some (.ifCond .eq 16, 3, 0, 0, 0, 0) := by decide +kernel
theorem l_246_8 : look 246 8 = some (.aload_n 0, 1, 0, 0, 0, 0) := by decide +kernel
theorem l_246_9 : look 246 9 = some (.getfield 113, 3, 10, 56, 2, 1557) := by decide +kernel
theorem l_246_12 : look 246 12 = some (.iload_n 1, 1, 0, 0, 0, 0) := by decide +kernel
theorem l_246_13 : look 246 13 = some (.baload, 1, 0, 0, 0, 0) := by decide +kernel
theorem l_246_14 : look 246 14 = some (.ifCond .eq 7, 3, 0, 0, 0, 0) := by decide +kernel
theorem l_246_17 : look 246 17 = some (.iconst 1, 1, 0, 0, 0, 0) := by decide +kernel
theorem l_246_18 : look 246 18 = some (.goto 4, 3, 0, 0, 0, 0) := by decide +kernel
theorem l_246_21 : look 246 21 = some (.iconst 0, 1, 0, 0, 0, 0) := by decide +kernel
theorem l_246_22 : look 246 22 = some (.ireturn, 1, 0, 0, 1, 0) := by decide +kernel

theorem s_246 (hm : oModel S T s) {ne np : Nat} {a : Nat → Nat} {cd : Nat → Cd} (B : MP I s h l a ne np cd) {p : Nat} (hp : p < lPorts l) : CL xs 246 [vr s, vi ((p : Nat) : Int)] (S, I, T, cc, zz) (RP S T cc zz (fun v I' => v = some (vi (b2i (sUp (runA h l noOut ne).1 p))) ∧ I' s 0 = 0 ∧ mfk I I' s)) := by
  refine CL_start (r := 11) (ls := [vr s, vi ((p : Nat) : Int)]) (rk_246 _) rfl ?_
  have hl4 := B.2.2.2.2.1.1
  have hp4 : p < 4 := by omega
  have hok := (B.run noOut (Nat.le_refl ne)).1
  have hll := ok_len hok B.2.2.2.1 p
  refine w_aln l_246_0 rfl ?_
  refine w_iln l_246_1 rfl ?_
  refine p_iv [vi ((p : Nat) : Int)] [] l_246_2 rfl rfl (Nat.le_of_ble_eq_true rfl) (by rw [mx_242]; exact Nat.le_of_ble_eq_true rfl) (by rw [mt_242]; exact oModel_sh hm) (by rw [mt_242]; decide) (by rw [rk_242]; decide) (s_242 hm B (p := ((p : Nat) : Int)) (by omega)) (fun v I1 hv => ?_)
  obtain ⟨rfl, h0, hR1, f1⟩ := hv
  refine w_zeq 21 l_246_5 (by decide) (fun hx => absurd hx (by decide)) (fun _ => ?_)
  refine w_aln l_246_8 rfl ?_
  refine w_gr l_246_9 (oModel_sh hm) (oModel_r56 hm) ?_
  refine w_iln l_246_12 rfl ?_
  refine w_ba p (b2i (sUp (runA h l noOut ne).1 p)) l_246_13 (Or.inr (oModel_s56 hm)) rfl (by omega) (hR1.1.2.1 p hp4) ?_
  refine w_beq 21 l_246_14 (by decide) (fun h1 => ?_) (fun h1 => ?_)
  · skip
    refine w_ic l_246_21 (by decide) ?_
    refine w_ir l_246_22 (by decide) ?_
    rw [h1]
    exact ⟨_, _, rfl, rfl, rfl, h0, f1⟩
  · skip
    refine w_ic l_246_17 (by decide) ?_
    refine w_go 22 l_246_18 (by decide) ?_
    refine w_ir l_246_22 (by decide) ?_
    rw [h1]
    exact ⟨_, _, rfl, rfl, rfl, h0, f1⟩

theorem s_246n (hm : oModel S T s) {ne np : Nat} {a : Nat → Nat} {cd : Nat → Cd} (B : MP I s h l a ne np cd) {p : Int} (hp : ¬ (0 ≤ p ∧ p ≤ ((lPorts l : Nat) : Int) - 1)) : CL xs 246 [vr s, vi p] (S, I, T, cc, zz) (RP S T cc zz (fun v I' => v = some (vi 0) ∧ I' s 0 = 1 ∧ mfk I I' s)) := by
  refine CL_start (r := 11) (ls := [vr s, vi p]) (rk_246 _) rfl ?_
  refine w_aln l_246_0 rfl ?_
  refine w_iln l_246_1 rfl ?_
  refine p_iv [vi p] [] l_246_2 rfl rfl (Nat.le_of_ble_eq_true rfl) (by rw [mx_242]; exact Nat.le_of_ble_eq_true rfl) (by rw [mt_242]; exact oModel_sh hm) (by rw [mt_242]; decide) (by rw [rk_242]; decide) (s_242n hm B hp) (fun v I1 hv => ?_)
  obtain ⟨rfl, h0, f1⟩ := hv
  refine w_zeq 21 l_246_5 (by decide) (fun _ => ?_) (fun hx => absurd hx (by decide))
  refine w_ic l_246_21 (by decide) ?_
  refine w_ir l_246_22 (by decide) ?_
  exact ⟨_, _, rfl, rfl, rfl, h0, f1⟩

theorem mx_250 : mxl 250 = 2 := by decide +kernel
theorem mt_250 : mtc 250 = 10 := by decide +kernel
theorem rk_250 (as : List AV) : rkA 250 as = 11 := rfl
theorem l_250_0 : look 250 0 = some (.aload_n 0, 1, 0, 0, 0, 0) := by decide +kernel
theorem l_250_1 : look 250 1 = some (.iload_n 1, 1, 0, 0, 0, 0) := by decide +kernel
theorem l_250_2 : look 250 2 = some (.invokevirtual 462, 3, 242, 2, 0, 2036) := by decide +kernel
theorem l_250_5 : look 250 5 = some (.ifCond .eq 12, 3, 0, 0, 0, 0) := by decide +kernel
theorem l_250_8 : look 250 8 = some (.aload_n 0, 1, 0, 0, 0, 0) := by decide +kernel
theorem l_250_9 : look 250 9 = some (.getfield 137, 3, 10, 64, 2, 1565) := by decide +kernel
theorem l_250_12 : look 250 12 = some (.iload_n 1, 1, 0, 0, 0, 0) := by decide +kernel
theorem l_250_13 : look 250 13 = some (.iaload, 1, 0, 0, 0, 0) := by decide +kernel
theorem l_250_14 : look 250 14 = some (.goto 4, 3, 0, 0, 0, 0) := by decide +kernel
theorem l_250_17 : look 250 17 = some (.iconst 0, 1, 0, 0, 0, 0) := by decide +kernel
theorem l_250_18 : look 250 18 = some (.ireturn, 1, 0, 0, 0, 0) := by decide +kernel

theorem s_250 (hm : oModel S T s) {ne np : Nat} {a : Nat → Nat} {cd : Nat → Cd} (B : MP I s h l a ne np cd) {p : Nat} (hp : p < lPorts l) : CL xs 250 [vr s, vi ((p : Nat) : Int)] (S, I, T, cc, zz) (RP S T cc zz (fun v I' => v = some (vi (((runA h l noOut ne).2.2.2 p : Nat) : Int)) ∧ I' s 0 = 0 ∧ mfk I I' s)) := by
  refine CL_start (r := 11) (ls := [vr s, vi ((p : Nat) : Int)]) (rk_250 _) rfl ?_
  have hl4 := B.2.2.2.2.1.1
  have hp4 : p < 4 := by omega
  have hok := (B.run noOut (Nat.le_refl ne)).1
  have hll := ok_len hok B.2.2.2.1 p
  refine w_aln l_250_0 rfl ?_
  refine w_iln l_250_1 rfl ?_
  refine p_iv [vi ((p : Nat) : Int)] [] l_250_2 rfl rfl (Nat.le_of_ble_eq_true rfl) (by rw [mx_242]; exact Nat.le_of_ble_eq_true rfl) (by rw [mt_242]; exact oModel_sh hm) (by rw [mt_242]; decide) (by rw [rk_242]; decide) (s_242 hm B (p := ((p : Nat) : Int)) (by omega)) (fun v I1 hv => ?_)
  obtain ⟨rfl, h0, hR1, f1⟩ := hv
  refine w_zeq 17 l_250_5 (by decide) (fun hx => absurd hx (by decide)) (fun _ => ?_)
  refine w_aln l_250_8 rfl ?_
  refine w_gr l_250_9 (oModel_sh hm) (oModel_r64 hm) ?_
  refine w_iln l_250_12 rfl ?_
  refine w_ia p ((((runA h l noOut ne).2.2.2 p) : Nat) : Int) l_250_13 (oModel_s64 hm) rfl (by omega) (hR1.2.2.2.2 p hp4) ?_
  refine w_go 18 l_250_14 (by decide) ?_
  refine w_ir l_250_18 (Or.inl rfl) ?_
  exact ⟨_, _, rfl, rfl, rfl, h0, f1⟩

theorem s_250n (hm : oModel S T s) {ne np : Nat} {a : Nat → Nat} {cd : Nat → Cd} (B : MP I s h l a ne np cd) {p : Int} (hp : ¬ (0 ≤ p ∧ p ≤ ((lPorts l : Nat) : Int) - 1)) : CL xs 250 [vr s, vi p] (S, I, T, cc, zz) (RP S T cc zz (fun v I' => v = some (vi 0) ∧ I' s 0 = 1 ∧ mfk I I' s)) := by
  refine CL_start (r := 11) (ls := [vr s, vi p]) (rk_250 _) rfl ?_
  refine w_aln l_250_0 rfl ?_
  refine w_iln l_250_1 rfl ?_
  refine p_iv [vi p] [] l_250_2 rfl rfl (Nat.le_of_ble_eq_true rfl) (by rw [mx_242]; exact Nat.le_of_ble_eq_true rfl) (by rw [mt_242]; exact oModel_sh hm) (by rw [mt_242]; decide) (by rw [rk_242]; decide) (s_242n hm B hp) (fun v I1 hv => ?_)
  obtain ⟨rfl, h0, f1⟩ := hv
  refine w_zeq 17 l_250_5 (by decide) (fun _ => ?_) (fun hx => absurd hx (by decide))
  refine w_ic l_250_17 (by decide) ?_
  refine w_ir l_250_18 (Or.inl rfl) ?_
  exact ⟨_, _, rfl, rfl, rfl, h0, f1⟩

end RA
