/-! the reference: rewind -/
/-- packets are numbered as they arrive -/
def HW (h : Hi) (a : Nat → Nat) (ne np : Nat) : Prop := okPk h ne ∧ np = arr h ne ∧ ∀ k, k < np → a k < ne ∧ hKind h (a k) = 0 ∧ hPk h (a k) = k
theorem arr_mono {h : Hi} {m : Nat} : ∀ n, m ≤ n → arr h m ≤ arr h n
  | 0, hn => by rw [Nat.le_zero.mp hn]; exact Nat.le_refl _
  | n + 1, hn => by
    by_cases hm : m = n + 1
    · rw [hm]; exact Nat.le_refl _
    · exact Nat.le_trans (arr_mono n (by omega)) arr_le
theorem HW.cut {h : Hi} {a : Nat → Nat} {ne np m : Nat} (H : HW h a ne np) (hm : m ≤ ne) : HW h a m (arr h m) := by
  obtain ⟨h1, h2, h3⟩ := H
  refine ⟨fun e he => h1 e (by omega), rfl, fun k hk => ?_⟩
  have hk2 : k < np := by rw [h2]; exact Nat.lt_of_lt_of_le hk (arr_mono ne hm)
  obtain ⟨g1, g2, g3⟩ := h3 k hk2
  refine ⟨?_, g2, g3⟩
  have e1 := (h1 (a k) g1).1 g2
  by_cases hlt : a k < m
  · exact hlt
  · have := arr_mono (h := h) (m := m) (a k) (by omega)
    omega
theorem MP.cut {I J : Ix} {s : Nat} {h : Hi} {l : Li} {a : Nat → Nat} {ne np m : Nat} {cd : Nat → Cd} (B : MP I s h l a ne np cd) (H : HW h a ne np) (hm : m ≤ ne) (f : ∀ y z, (y = s → 0 < z ∧ z < 44 ∧ z ≠ 15 ∧ z ≠ 16) → (s < y → y < s + 23) → J y z = I y z) (e1 : J s 15 = (m : Int)) (e2 : J s 16 = ((arr h m : Nat) : Int)) : MP J s h l a m (arr h m) cd := by
  have H' := H.cut hm
  obtain ⟨b1, b2, b3, b4, b5, b6, b7, b8, b9⟩ := B
  have hnp : arr h m ≤ np := by rw [H.2.1]; exact arr_mono ne hm
  have g0 : ∀ j, 0 < j ∧ j < 44 ∧ j ≠ 15 ∧ j ≠ 16 → J s j = I s j := fun j hj => f s j (fun _ => hj) (fun e => by omega)
  have g : ∀ j, 0 < j ∧ j < 23 → ∀ z, J (s + j) z = I (s + j) z := fun j hj z => f (s + j) z (fun e => by omega) (fun _ => by omega)
  refine ⟨⟨by have := b1.1; omega, arr_e m, fun e he => ?_, fun k hk => ?_⟩, ?_, ?_, b4, b5, fun e he => ⟨(b6 e (by omega)).1, fun q => ?_, (b6 e (by omega)).2.2⟩, fun k hk => ?_, e1, e2⟩
  · rw [g 10 (by decide), g 10 (by decide), g 10 (by decide)]
    exact b1.2.2.1 e (by omega)
  · rw [g 10 (by decide), g 10 (by decide), g 10 (by decide), g 10 (by decide), g 11 (by decide)]
    obtain ⟨q1, q2, q3⟩ := b1.2.2.2 k (by omega)
    exact ⟨q1, (H'.2.2 k hk).1, q3⟩
  · unfold nB at b2 ⊢
    simp only [g0 1 (by decide), g0 7 (by decide), g0 8 (by decide), g0 9 (by decide), g0 10 (by decide), g 2 (by decide), g 3 (by decide), g 4 (by decide), g 5 (by decide), g 6 (by decide)]
    exact b2
  · intro r hr
    obtain ⟨⟨o, o1, o2, o3, o4⟩, o5, o6⟩ := b3 r hr
    exact ⟨⟨o, by rw [g 7 (by decide)]; exact o1, by rw [g 8 (by decide)]; exact o2, o3, codes_fr o4 fun z => g 9 (by decide) z⟩, o5, fun k hk => o6 k (by omega)⟩
  · have e3 := (H'.1 e he).1 q
    rw [e3]
    have e4 : arr h (e + 1) = arr h e + 1 := if_pos q
    have := arr_mono (h := h) (m := e + 1) m he
    omega
  · rw [g 10 (by decide)]
    exact b7 k (by omega)
section RK
variable {xs : List Int} {S : List (Nat × Nat)} {T : Nat → Nat → Nat} {cc zz s : Nat} {h : Hi} {l : Li} {r : Ra} {g : Lo} {I I' : Ix}

theorem mx_237 : mxl 237 = 3 := by decide +kernel
theorem mt_237 : mtc 237 = 10 := by decide +kernel
theorem rk_237 (as : List AV) : rkA 237 as = 10 := rfl
theorem l_237_0 : look 237 0 = some (.aload_n 0, 1, 0, 0, 0, 0) := by decide +kernel
theorem l_237_1 : look 237 1 = some (.iload_n 1, 1, 0, 0, 0, 0) := by decide +kernel
theorem l_237_2 : look 237 2 = some (.iconst 0, 1, 0, 0, 0, 0) := by decide +kernel
theorem l_237_3 : look 237 3 = some (.aload_n 0, 1, 0, 0, 0, 0) := by decide +kernel
theorem l_237_4 : look 237 4 = some (.getfield 330, 3, 10, 15, 0, 1516) := by decide +kernel
theorem l_237_7 : look 237 7 = some (.invokestatic 175, 3, 169, 3, 1, 1775) := by decide +kernel
theorem l_237_10 : look 237 10 = some (.ifCond .eq 7, 3, 0, 0, 0, 0) := by decide +kernel
theorem l_237_13 : look 237 13 = some (.iconst 0, 1, 0, 0, 0, 0) := by decide +kernel
theorem l_237_14 : look 237 14 = some (.goto 4, 3, 0, 0, 0, 0) := by decide +kernel
theorem l_237_17 : look 237 17 = some (.iconst 1, 1, 0, 0, 0, 0) := by decide +kernel
theorem l_237_18 : look 237 18 = some (.putfield 152, 3, 10, 0, 0, 1501) := by decide +kernel
theorem l_237_21 : look 237 21 = some (.aload_n 0, 1, 0, 0, 0, 0) := by decide +kernel
theorem l_237_22 : look 237 22 = some (.getfield 152, 3, 10, 0, 0, 1501) := by decide +kernel
theorem l_237_25 : look 237 25 = some (.ifCond .le 5, 3, 0, 0, 0, 0) := by decide +kernel
theorem l_237_28 : look 237 28 = some (.iconst 0, 1, 0, 0, 0, 0) := by decide +kernel
theorem l_237_29 : look 237 29 = some (.ireturn, 1, 0, 0, 0, 0) := by decide +kernel
theorem l_237_30 : look 237 30 = some (.aload_n 0, 1, 0, 0, 0, 0) := by decide +kernel
theorem l_237_31 : look 237 31 = some (.iload_n 1, 1, 0, 0, 0, 0) := by decide +kernel
theorem l_237_32 : look 237 32 = some (.putfield 330, 3, 10, 15, 0, 1516) := by decide +kernel
theorem l_237_35 : look 237 35 = some (.aload_n 0, 1, 0, 0, 0, 0) := by decide +kernel
theorem l_237_36 : look 237 36 = some (.iconst 0, 1, 0, 0, 0, 0) := by decide +kernel
theorem l_237_37 : look 237 37 = some (.putfield 333, 3, 10, 16, 0, 1517) := by decide +kernel
theorem l_237_40 : look 237 40 = some (.iconst 0, 1, 0, 0, 0, 0) := by decide +kernel
theorem l_237_41 : look 237 41 = some (.istore_n 2, 1, 0, 0, 0, 0) := by decide +kernel
theorem l_237_42 : look 237 42 = some (.iload_n 2, 1, 0, 0, 0, 0) := by decide +kernel
theorem l_237_43 : look 237 43 = some (.aload_n 0, 1, 0, 0, 0, 0) := by decide +kernel
theorem l_237_44 : look 237 44 = some (.getfield 330, 3, 10, 15, 0, 1516) := by decide +kernel
theorem l_237_47 : look 237 47 = some (.if_icmp .ge 32, 3, 0, 0, 0, 0) := by decide +kernel
theorem l_237_50 : look 237 50 = some (.aload_n 0, 1, 0, 0, 0, 0) := by decide +kernel
theorem l_237_51 : look 237 51 = some (.dup, 1, 0, 0, 0, 0) := by decide +kernel
theorem l_237_52 : look 237 52 = some (.getfield 333, 3, 10, 16, 0, 1517) := by decide +kernel
theorem l_237_55 : look 237 55 = some (.aload_n 0, 1, 0, 0, 0, 0) := by decide +kernel
theorem l_237_56 : look 237 56 = some (.iload_n 2, 1, 0, 0, 0, 0) := by decide +kernel
theorem l_237_57 : look 237 57 = some (.iconst 0, 1, 0, 0, 0, 0) := by decide +kernel
theorem l_237_58 : look 237 58 = some (.invokevirtual 357, 3, 205, 3, 0, 1917) := by decide +kernel
theorem l_237_61 : look 237 61 = some (.ifCond .ne 7, 3, 0, 0, 0, 0) := by decide +kernel
theorem l_237_64 : look 237 64 = some (.iconst 1, 1, 0, 0, 0, 0) := by decide +kernel
theorem l_237_65 : look 237 65 = some (.goto 4, 3, 0, 0, 0, 0) := by decide +kernel
theorem l_237_68 : look 237 68 = some (.iconst 0, 1, 0, 0, 0, 0) := by decide +kernel
theorem l_237_69 : look 237 69 = some (.iadd, 1, 0, 0, 0, 0) := by decide +kernel
theorem l_237_70 : look 237 70 = some (.putfield 333, 3, 10, 16, 0, 1517) := by decide +kernel
theorem l_237_73 : look 237 73 = some (.iinc 2 1, 3, 0, 0, 0, 0) := by decide +kernel
theorem l_237_76 : look 237 76 = some (.goto (-34), 3, 0, 0, 0, 0) := by decide +kernel
theorem l_237_79 : look 237 79 = some (.aload_n 0, 1, 0, 0, 0, 0) := by decide +kernel
theorem l_237_80 : look 237 80 = some (.invokevirtual 336, 3, 201, 1, 0, 1870) := by decide +kernel
theorem l_237_83 : look 237 83 = some (.aload_n 0, 1, 0, 0, 0, 0) := by decide +kernel
theorem l_237_84 : look 237 84 = some (.invokevirtual 443, 3, 215, 1, 0, 1897) := by decide +kernel
theorem l_237_87 : look 237 87 = some (.aload_n 0, 1, 0, 0, 0, 0) := by decide +kernel
theorem l_237_88 : look 237 88 = some (.getfield 369, 3, 10, 66, 0, 1567) := by decide +kernel
theorem l_237_91 : look 237 91 = some (.ireturn, 1, 0, 0, 0, 0) := by decide +kernel

theorem up_up {I : Ix} {a j : Nat} {v w : Int} : up (up I a j v) a j w = up I a j w := by
  funext x y
  unfold up
  by_cases hx : x = a ∧ y = j
  · rw [if_pos hx, if_pos hx]
  · rw [if_neg hx, if_neg hx, if_neg hx]
/-- all but events, suppositions and what questions change -/
def mfw (I J : Ix) (s : Nat) : Prop := ∀ y z, (y = s → z ≠ 0 ∧ z ≠ 15 ∧ z ≠ 16 ∧ (z < 44 ∨ z = 48 ∨ z = 49 ∨ z = 54 ∨ (56 ≤ z ∧ z ≤ 65) ∨ (70 ≤ z ∧ z ≠ 72 ∧ z ≠ 73))) → (s < y → y < s + 23 ∨ s + 38 < y) → J y z = I y z
theorem lp_237 {I0 J : Ix} (hm : oModel S T s) {ne np n : Nat} {a : Nat → Nat} {cd : Nat → Cd} (B0 : MP I0 s h l a ne np cd) (H : HW h a ne np) (hn : n ≤ ne) (h15 : J s 15 = (n : Int)) (h00 : J s 0 = 0) (hE : ∀ e, e < n → J (s + 10) (7 * e) = ((hKind h e : Nat) : Int)) (hJ : ∀ y z, (y = s → 0 < z ∧ z < 44 ∧ z ≠ 15 ∧ z ≠ 16) → (s < y → y < s + 23) → J y z = I0 y z) (hJ2 : mfw I0 J s) : ∀ d e, e + d = n → WP xs 237 10 42 [vr s, vi ((n : Nat) : Int), vi ((e : Nat) : Int)] [] (S, (up J s 16 ((arr h e : Nat) : Int)), T, cc, zz) (RP S T cc zz (fun v I' => v = some (vi (((runA h l noOut n).2.1.length : Nat) : Int)) ∧ I' s 0 = 0 ∧ MP I' s h l a n (arr h n) cd ∧ nSu I' s su0 ∧ mfw I0 I' s)) := by
  intro d
  have hne := B0.1.1
  induction d with
  | zero =>
    intro e he
    refine w_iln l_237_42 rfl ?_
    refine w_aln l_237_43 rfl ?_
    refine w_gi ((n : Nat) : Int) l_237_44 (oModel_sh hm) ((up_nj (by decide)).trans h15) ?_
    refine w_cge 79 l_237_47 (by decide) (fun _ => ?_) (fun hx => absurd hx (by omega))
    refine w_aln l_237_79 rfl ?_
    refine p_iv [] [] l_237_80 rfl rfl (Nat.le_of_ble_eq_true rfl) (by rw [mx_201]; exact Nat.le_of_ble_eq_true rfl) (by rw [mt_201]; exact oModel_sh hm) (by rw [mt_201]; decide) (by rw [rk_201]; decide) (r_ends hm) (fun v I1 hv => ?_)
    obtain ⟨rfl, k1, f1⟩ := hv
    have e9 : e = n := by omega
    have hB : MP I1 s h l a n (arr h n) cd := B0.cut H hn (fun y z h1 h2 => by
      rw [f1 y z (fun q => by have := h1 q; omega) ⟨fun q => by have := h2 (by omega); omega, fun q => by have := h2 (by omega); omega⟩]
      by_cases hy : y = s
      · have := h1 hy
        rw [hy, up_nj (by omega), ← hy]; exact hJ y z h1 h2
      · rw [up_no hy]; exact hJ y z h1 h2) (by rw [f1 s 15 (fun _ => by omega) (by omega), up_nj (by decide)]; exact h15) (by rw [f1 s 16 (fun _ => by omega) (by omega), up_eq, e9])
    refine w_aln l_237_83 rfl ?_
    refine p_iv [] [] l_237_84 rfl rfl (Nat.le_of_ble_eq_true rfl) (by rw [mx_215]; exact Nat.le_of_ble_eq_true rfl) (by rw [mt_215]; exact oModel_sh hm) (by rw [mt_215]; decide) (by rw [rk_215]; decide) (s_215 hm hB) (fun v I2 hv => ?_)
    obtain ⟨rfl, hR2, f2, _, _⟩ := hv
    refine w_aln l_237_87 rfl ?_
    refine w_gi (((runA h l noOut n).2.1.length : Nat) : Int) l_237_88 (oModel_sh hm) hR2.2.1.1 ?_
    refine w_ir l_237_91 (Or.inl rfl) ?_
    refine ⟨_, _, rfl, rfl, rfl, ?_, hB.fr f2, k1.fr f2, fun y z h1 h2 => ?_⟩
    · rw [f2 s 0 (fun _ => Or.inl (by decide)) (fun e => absurd e (Nat.lt_irrefl s)), f1 s 0 (fun _ => by omega) (by omega), up_nj (by decide)]
      exact h00
    · rw [f2 y z (fun q => by have := h1 q; omega) (fun q => by have := h2 q; omega), f1 y z (fun q => by have := h1 q; omega) ⟨fun q => by have := h2 (by omega); omega, fun q => by have := h2 (by omega); omega⟩]
      by_cases hy : y = s
      · have := h1 hy
        rw [hy, up_nj (by omega), ← hy]; exact hJ2 y z h1 h2
      · rw [up_no hy]; exact hJ2 y z h1 h2
  | succ d ih =>
    intro e he
    refine w_iln l_237_42 rfl ?_
    refine w_aln l_237_43 rfl ?_
    refine w_gi ((n : Nat) : Int) l_237_44 (oModel_sh hm) ((up_nj (by decide)).trans h15) ?_
    refine w_cge 79 l_237_47 (by decide) (fun hx => absurd hx (by omega)) (fun _ => ?_)
    have har := arr_e (h := h) e
    refine w_aln l_237_50 rfl ?_
    refine w_dup l_237_51 rfl ?_
    refine w_gi (((arr h e) : Nat) : Int) l_237_52 (oModel_sh hm) up_eq ?_
    refine w_aln l_237_55 rfl ?_
    refine w_iln l_237_56 rfl ?_
    refine w_ic l_237_57 (by decide) ?_
    refine q_iv [vi ((e : Nat) : Int), vi 0] [vi (((arr h e) : Nat) : Int), vr s] l_237_58 rfl rfl (Nat.le_of_ble_eq_true rfl) (by rw [mx_205]; exact Nat.le_of_ble_eq_true rfl) (by rw [mt_205]; exact oModel_sh hm) (by rw [mt_205]; decide) (by rw [rk_205]; decide) (r_of0 hm (by omega) ((up_no (by omega)).trans (hE e (by omega)))) ?_
    refine w_zne 68 l_237_61 (by decide) (fun h1 => ?_) (fun h1 => ?_)
    · skip
      refine w_ic l_237_68 (by decide) ?_
      refine w_add (((arr h e) + 0 : Nat) : Int) l_237_69 (by unfold wr; omega) ?_
      refine w_pi l_237_70 (oModel_sh hm) ?_
      refine w_inc ((e + 1 : Nat) : Int) l_237_73 rfl rfl (by unfold wr; omega) ?_
      refine w_go 42 l_237_76 (by decide) ?_
      have e9 := ih (e + 1) (by omega)
      rw [show arr h (e + 1) = arr h e + 0 from if_neg (by omega)] at e9
      rw [up_up]
      exact e9
    · skip
      refine w_ic l_237_64 (by decide) ?_
      refine w_go 69 l_237_65 (by decide) ?_
      refine w_add (((arr h e) + 1 : Nat) : Int) l_237_69 (by unfold wr; omega) ?_
      refine w_pi l_237_70 (oModel_sh hm) ?_
      refine w_inc ((e + 1 : Nat) : Int) l_237_73 rfl rfl (by unfold wr; omega) ?_
      refine w_go 42 l_237_76 (by decide) ?_
      have e9 := ih (e + 1) (by omega)
      rw [show arr h (e + 1) = arr h e + 1 from if_pos (by omega)] at e9
      rw [up_up]
      exact e9
theorem s_237 (hm : oModel S T s) {ne np : Nat} {a : Nat → Nat} {cd : Nat → Cd} (B : MP I s h l a ne np cd) {n : Nat} (H : HW h a ne np) (hn : n ≤ ne) : CL xs 237 [vr s, vi ((n : Nat) : Int)] (S, I, T, cc, zz) (RP S T cc zz (fun v I' => v = some (vi (((runA h l noOut n).2.1.length : Nat) : Int)) ∧ I' s 0 = 0 ∧ MP I' s h l a n (arr h n) cd ∧ nSu I' s su0 ∧ mfw I I' s)) := by
  refine CL_start (r := 10) (ls := [vr s, vi ((n : Nat) : Int), vs 2]) (rk_237 _) rfl ?_
  refine w_aln l_237_0 rfl ?_
  refine w_iln l_237_1 rfl ?_
  refine w_ic l_237_2 (by decide) ?_
  refine w_aln l_237_3 rfl ?_
  refine w_gi ((ne : Nat) : Int) l_237_4 (oModel_sh hm) B.2.2.2.2.2.2.2.1 ?_
  refine q_st [vi ((n : Nat) : Int), vi 0, vi ((ne : Nat) : Int)] [vr s] l_237_7 (by decide) rfl rfl (Nat.le_of_ble_eq_true rfl) (by rw [mx_169]; exact Nat.le_of_ble_eq_true rfl) (by rw [rk_169]; decide) (s_169) ?_
  refine w_beq 17 l_237_10 (by decide) (fun hx => absurd hx (by rw [decide_eq_true (by omega)]; decide)) (fun _ => ?_)
  refine w_ic l_237_13 (by decide) ?_
  refine w_go 18 l_237_14 (by decide) ?_
  refine w_pi l_237_18 (oModel_sh hm) ?_
  refine w_aln l_237_21 rfl ?_
  refine w_gi 0 l_237_22 (oModel_sh hm) up_eq ?_
  refine w_zle 30 l_237_25 (by decide) (fun _ => ?_) (fun hx => absurd hx (by decide))
  refine w_aln l_237_30 rfl ?_
  refine w_iln l_237_31 rfl ?_
  refine w_pi l_237_32 (oModel_sh hm) ?_
  refine w_aln l_237_35 rfl ?_
  refine w_ic l_237_36 (by decide) ?_
  refine w_pi l_237_37 (oModel_sh hm) ?_
  refine w_ic l_237_40 (by decide) ?_
  refine w_isn l_237_41 ⟨Nat.le_of_ble_eq_true rfl, rfl⟩ ?_
  exact lp_237 (J := up (up I s 0 0) s 15 ((n : Nat) : Int)) hm B H hn up_eq (by rw [up_nj (by decide), up_eq]) (fun e he => by rw [up_no (by omega), up_no (by omega)]; exact (B.1.2.2.1 e (by omega)).1) (fun y z h1 h2 => by
    by_cases hy : y = s
    · have := h1 hy
      rw [hy, up_nj (by omega), up_nj (by omega)]
    · rw [up_no hy, up_no hy]) (fun y z h1 h2 => by
    by_cases hy : y = s
    · have := h1 hy
      rw [hy, up_nj (by omega), up_nj (by omega)]
    · rw [up_no hy, up_no hy]) n 0 (Nat.zero_add _)

theorem s_237n (hm : oModel S T s) {ne np : Nat} {a : Nat → Nat} {cd : Nat → Cd} (B : MP I s h l a ne np cd) {p : Int} (hp : ¬ (0 ≤ p ∧ p ≤ ((ne : Nat) : Int))): CL xs 237 [vr s, vi p] (S, I, T, cc, zz) (RP S T cc zz (fun v I' => v = some (vi 0) ∧ I' s 0 = 1 ∧ mfk I I' s)) := by
  refine CL_start (r := 10) (ls := [vr s, vi p, vs 2]) (rk_237 _) rfl ?_
  refine w_aln l_237_0 rfl ?_
  refine w_iln l_237_1 rfl ?_
  refine w_ic l_237_2 (by decide) ?_
  refine w_aln l_237_3 rfl ?_
  refine w_gi ((ne : Nat) : Int) l_237_4 (oModel_sh hm) B.2.2.2.2.2.2.2.1 ?_
  refine q_st [vi p, vi 0, vi ((ne : Nat) : Int)] [vr s] l_237_7 (by decide) rfl rfl (Nat.le_of_ble_eq_true rfl) (by rw [mx_169]; exact Nat.le_of_ble_eq_true rfl) (by rw [rk_169]; decide) (s_169) ?_
  refine w_beq 17 l_237_10 (by decide) (fun _ => ?_) (fun hx => absurd hx (by rw [decide_eq_false hp]; decide))
  refine w_ic l_237_17 (by decide) ?_
  refine w_pi l_237_18 (oModel_sh hm) ?_
  refine w_aln l_237_21 rfl ?_
  refine w_gi 1 l_237_22 (oModel_sh hm) up_eq ?_
  refine w_zle 30 l_237_25 (by decide) (fun hx => absurd hx (by decide)) (fun _ => ?_)
  refine w_ic l_237_28 (by decide) ?_
  refine w_ir l_237_29 (Or.inl rfl) ?_
  exact ⟨_, _, rfl, rfl, rfl, up_eq, (mfk.u (Or.inl rfl))⟩

end RK
