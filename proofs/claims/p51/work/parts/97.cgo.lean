/-! the class: events happen -/
section CGO
variable {xs : List Int} {S : List (Nat × Nat)} {T : Nat → Nat → Nat} {cc zz s q y : Nat} {h : Hi} {l : Li} {I I' : Ix}

theorem mx_158 : mxl 158 = 2 := by decide +kernel
theorem mt_158 : mtc 158 = 9 := by decide +kernel
theorem rk_158 (as : List AV) : rkA 158 as = 5 := rfl
theorem l_158_0 : look 158 0 = some (.aload_n 0, 1, 0, 0, 0, 0) := by decide +kernel
theorem l_158_1 : look 158 1 = some (.getfield 42, 3, 9, 6, 2, 730) := by decide +kernel
theorem l_158_4 : look 158 4 = some (.getfield 125, 3, 0, 0, 0, 507) := by decide +kernel
theorem l_158_7 : look 158 7 = some (.iconst 1, 1, 0, 0, 0, 0) := by decide +kernel
theorem l_158_8 : look 158 8 = some (.isub, 1, 0, 0, 0, 0) := by decide +kernel
theorem l_158_9 : look 158 9 = some (.istore_n 1, 1, 0, 0, 0, 0) := by decide +kernel
theorem l_158_10 : look 158 10 = some (.aload_n 0, 1, 0, 0, 0, 0) := by decide +kernel
theorem l_158_11 : look 158 11 = some (.dup, 1, 0, 0, 0, 0) := by decide +kernel
theorem l_158_12 : look 158 12 = some (.getfield 74, 3, 9, 12, 0, 736) := by decide +kernel
theorem l_158_15 : look 158 15 = some (.iconst 1, 1, 0, 0, 0, 0) := by decide +kernel
theorem l_158_16 : look 158 16 = some (.iadd, 1, 0, 0, 0, 0) := by decide +kernel
theorem l_158_17 : look 158 17 = some (.putfield 74, 3, 9, 12, 0, 736) := by decide +kernel
theorem l_158_20 : look 158 20 = some (.iload_n 1, 1, 0, 0, 0, 0) := by decide +kernel
theorem l_158_21 : look 158 21 = some (.bipush 16, 2, 0, 0, 0, 0) := by decide +kernel
theorem l_158_23 : look 158 23 = some (.irem, 1, 0, 0, 0, 0) := by decide +kernel
theorem l_158_24 : look 158 24 = some (.ifCond .ne 22, 3, 0, 0, 0, 0) := by decide +kernel
theorem l_158_27 : look 158 27 = some (.aload_n 0, 1, 0, 0, 0, 0) := by decide +kernel
theorem l_158_28 : look 158 28 = some (.getfield 48, 3, 9, 7, 2, 731) := by decide +kernel
theorem l_158_31 : look 158 31 = some (.iload_n 1, 1, 0, 0, 0, 0) := by decide +kernel
theorem l_158_32 : look 158 32 = some (.bipush 16, 2, 0, 0, 0, 0) := by decide +kernel
theorem l_158_34 : look 158 34 = some (.idiv, 1, 0, 0, 0, 0) := by decide +kernel
theorem l_158_35 : look 158 35 = some (.aaload, 1, 0, 0, 0, 0) := by decide +kernel
theorem l_158_36 : look 158 36 = some (.aload_n 0, 1, 0, 0, 0, 0) := by decide +kernel
theorem l_158_37 : look 158 37 = some (.getfield 57, 3, 9, 8, 2, 732) := by decide +kernel
theorem l_158_40 : look 158 40 = some (.getfield 140, 3, 5, 1, 2, 637) := by decide +kernel
theorem l_158_43 : look 158 43 = some (.invokevirtual 348, 3, 79, 2, 0, 719) := by decide +kernel
theorem l_158_46 : look 158 46 = some (.aload_n 0, 1, 0, 0, 0, 0) := by decide +kernel
theorem l_158_47 : look 158 47 = some (.getfield 57, 3, 9, 8, 2, 732) := by decide +kernel
theorem l_158_50 : look 158 50 = some (.iload_n 1, 1, 0, 0, 0, 0) := by decide +kernel
theorem l_158_51 : look 158 51 = some (.invokevirtual 186, 3, 51, 2, 0, 1251) := by decide +kernel
theorem l_158_54 : look 158 54 = some (.ireturn, 1, 0, 0, 0, 0) := by decide +kernel
theorem s_158 (o : oDropSwitch S T s q y) (ck : oCk S T s) {ne np c : Nat} {a : Nat → Nat} (A : AE I s h l a ne np c) (hc : c + 1 < 100000) : CL xs 158 [vr s] (S, I, T, cc, zz) (RP S T cc zz (fun v I' => v = some (vi (((stepA h l ne (runA h l noOut ne)).2 : Nat) : Int)) ∧ cR I' (s + 32) h l (runA h l noOut (ne + 1)) ∧ cP I' (s + 46) (pkC h l (ne + 1)) ∧ cCk I' s h l (ne + 1) ∧ I' s 12 = ((c + 1 : Nat) : Int) ∧ mfq I I' s)) := by
  by_cases h16 : ne % 16 = 0
  · skip
    refine CL_start (r := 5) (ls := [vr s, vs 2]) (rk_158 _) rfl ?_
    have hne := A.1.1.2.2.1
    obtain ⟨hok, _, htm⟩ := run_ok A.1.2.2.1 A.1.2.2.2.1 A.1.2.2.2.2.1 (out := noOut) ne (by omega)
    have eU : ∀ y, y ≠ s → ∀ z, up I s 12 ((c + 1 : Nat) : Int) y z = I y z := fun y hy z => up_no hy
    refine w_aln l_158_0 rfl ?_
    refine w_gr l_158_1 (oDropSwitch_sh o) (oDropSwitch_r6 o) ?_
    refine w_gi (((ne + 1) : Nat) : Int) l_158_4 (oHistory_sh (oDropSwitch_o6 o)) A.1.1.1 ?_
    refine w_ic l_158_7 (by decide) ?_
    refine w_sub ((ne : Nat) : Int) l_158_8 (by unfold wr; omega) ?_
    refine w_isn l_158_9 ⟨Nat.le_of_ble_eq_true rfl, rfl⟩ ?_
    refine w_aln l_158_10 rfl ?_
    refine w_dup l_158_11 rfl ?_
    refine w_gi ((c : Nat) : Int) l_158_12 (oDropSwitch_sh o) A.2.2.2.2.2 ?_
    refine w_ic l_158_15 (by decide) ?_
    refine w_add (((c + 1) : Nat) : Int) l_158_16 (by unfold wr; omega) ?_
    refine w_pi l_158_17 (oDropSwitch_sh o) ?_
    refine w_iln l_158_20 rfl ?_
    refine w_bp l_158_21 (by decide) ?_
    refine w_rem (((ne % 16) : Nat) : Int) l_158_23 (by decide) rfl ?_
    refine w_zne 46 l_158_24 (by decide) (fun hx => absurd hx (by omega)) (fun _ => ?_)
    refine w_aln l_158_27 rfl ?_
    refine w_gr l_158_28 (oDropSwitch_sh o) (oDropSwitch_r7 o) ?_
    refine w_iln l_158_31 rfl ?_
    refine w_bp l_158_32 (by decide) ?_
    refine w_div (((ne / 16) : Nat) : Int) l_158_34 (by decide) (by rw [show ((ne : Nat) : Int).tdiv 16 = ((ne / 16 : Nat) : Int) from rfl]; unfold wr; omega) ?_
    refine w_aa (v := (s + 99 + 8 * (ne / 16))) (ne / 16) l_158_35 (oDropSwitch_s7 o) rfl (by omega) ((ck (ne / 16) (by omega)).1) ?_
    refine w_aln l_158_36 rfl ?_
    refine w_gr l_158_37 (oDropSwitch_sh o) (oDropSwitch_r8 o) ?_
    refine w_gr l_158_40 (oRun_sh (oDropSwitch_o8 o)) (oRun_r1 (oDropSwitch_o8 o)) ?_
    refine p_iv [vr (s + 32 + 6)] [] l_158_43 rfl rfl (Nat.le_of_ble_eq_true rfl) (by rw [mx_79]; exact Nat.le_of_ble_eq_true rfl) (by rw [mt_79]; exact oState_sh (ck (ne / 16) (by omega)).2) (by rw [mt_79]; decide) (by rw [rk_79]; decide) (t_copy (ck (ne / 16) (by omega)).2 (oRun_o1 (oDropSwitch_o8 o)) (by omega) (cS_eq A.2.1.1 fun j hj z => eU _ (by omega) z)) (fun v I1 hv => ?_)
    obtain ⟨rfl, hS1, f1⟩ := hv
    refine w_aln l_158_46 rfl ?_
    refine w_gr l_158_47 (oDropSwitch_sh o) (oDropSwitch_r8 o) ?_
    refine w_iln l_158_50 rfl ?_
    have eM : ∀ y, y ≠ s → (y < s + 99 ∨ s + 162 < y) → ∀ z, I1 y z = I y z := fun y h1 h2 z => (f1 y (by omega) z).trans (eU y h1 z)
    have eM5 : ∀ y, (s < y ∧ y ≤ s + 51) → ∀ z, I1 y z = I y z := fun y h1 z => eM y (by omega) (by omega) z
    refine p_iv [vi ((ne : Nat) : Int)] [] l_158_51 rfl rfl (Nat.le_of_ble_eq_true rfl) (by rw [mx_51]; exact Nat.le_of_ble_eq_true rfl) (by rw [mt_51]; exact oRun_sh (oDropSwitch_o8 o)) (by rw [mt_51]; decide) (by rw [rk_51]; decide) (s_51 (oDropSwitch_o8 o) (KB.CB (l' := l) (A.1.eq fun y h1 h2 z => eM5 y (by omega) z) (cLi_eq A.2.2.2.1 fun j hj z => eM5 _ (by omega) z) (by omega) A.1.2.2.2.1 rfl) ⟨cS_eq A.2.1.1 fun j hj z => eM5 _ (by omega) z, cL_eq A.2.1.2 fun j hj z => eM5 _ (by omega) z⟩ (cP_eq A.2.2.1 fun j hj z => eM5 _ (by omega) z) hok (by omega) (Nat.lt_succ_self ne) (by omega)) (fun v I2 hv => ?_)
    obtain ⟨rfl, hR2, hP2, f2⟩ := hv
    refine w_ir l_158_54 (Or.inl rfl) ?_
    have eR : runA h l noOut (ne + 1) = (stepA h l ne (runA h l noOut ne)).1 := run_s rfl
    refine ⟨_, _, rfl, rfl, rfl, by rw [eR]; exact hR2, hP2, fun c' hc' hn' => ?_, (f2 s (by omega) 12).trans ((f1 s (by omega) 12).trans up_eq), fun y z h1 h2 => (f2 y (by omega) z).trans (by
        by_cases hy : y = s
        · rw [hy]; exact (f1 s (by omega) z).trans (up_nj (h1 hy))
        · exact eM y hy (by omega) z)⟩
    by_cases hcc : c' = ne / 16
    · rw [hcc, show ne / 16 * 16 = ne by omega]
      exact cS_eq hS1 fun j hj z => f2 _ (by omega) z
    · exact cS_eq (A.2.2.2.2.1 c' hc' (by omega)) fun j hj z => (f2 _ (by omega) z).trans ((f1 _ (by omega) z).trans (eU _ (by omega) z))
  · skip
    refine CL_start (r := 5) (ls := [vr s, vs 2]) (rk_158 _) rfl ?_
    have hne := A.1.1.2.2.1
    obtain ⟨hok, _, htm⟩ := run_ok A.1.2.2.1 A.1.2.2.2.1 A.1.2.2.2.2.1 (out := noOut) ne (by omega)
    have eU : ∀ y, y ≠ s → ∀ z, up I s 12 ((c + 1 : Nat) : Int) y z = I y z := fun y hy z => up_no hy
    refine w_aln l_158_0 rfl ?_
    refine w_gr l_158_1 (oDropSwitch_sh o) (oDropSwitch_r6 o) ?_
    refine w_gi (((ne + 1) : Nat) : Int) l_158_4 (oHistory_sh (oDropSwitch_o6 o)) A.1.1.1 ?_
    refine w_ic l_158_7 (by decide) ?_
    refine w_sub ((ne : Nat) : Int) l_158_8 (by unfold wr; omega) ?_
    refine w_isn l_158_9 ⟨Nat.le_of_ble_eq_true rfl, rfl⟩ ?_
    refine w_aln l_158_10 rfl ?_
    refine w_dup l_158_11 rfl ?_
    refine w_gi ((c : Nat) : Int) l_158_12 (oDropSwitch_sh o) A.2.2.2.2.2 ?_
    refine w_ic l_158_15 (by decide) ?_
    refine w_add (((c + 1) : Nat) : Int) l_158_16 (by unfold wr; omega) ?_
    refine w_pi l_158_17 (oDropSwitch_sh o) ?_
    refine w_iln l_158_20 rfl ?_
    refine w_bp l_158_21 (by decide) ?_
    refine w_rem (((ne % 16) : Nat) : Int) l_158_23 (by decide) rfl ?_
    refine w_zne 46 l_158_24 (by decide) (fun _ => ?_) (fun hx => absurd hx (by omega))
    refine w_aln l_158_46 rfl ?_
    refine w_gr l_158_47 (oDropSwitch_sh o) (oDropSwitch_r8 o) ?_
    refine w_iln l_158_50 rfl ?_
    refine p_iv [vi ((ne : Nat) : Int)] [] l_158_51 rfl rfl (Nat.le_of_ble_eq_true rfl) (by rw [mx_51]; exact Nat.le_of_ble_eq_true rfl) (by rw [mt_51]; exact oRun_sh (oDropSwitch_o8 o)) (by rw [mt_51]; decide) (by rw [rk_51]; decide) (s_51 (oDropSwitch_o8 o) (KB.CB (l' := l) (A.1.eq fun y h1 h2 z => eU y (by omega) z) (cLi_eq A.2.2.2.1 fun j hj z => eU _ (by omega) z) (by omega) A.1.2.2.2.1 rfl) ⟨cS_eq A.2.1.1 fun j hj z => eU _ (by omega) z, cL_eq A.2.1.2 fun j hj z => eU _ (by omega) z⟩ (cP_eq A.2.2.1 fun j hj z => eU _ (by omega) z) hok (by omega) (Nat.lt_succ_self ne) (by omega)) (fun v I2 hv => ?_)
    obtain ⟨rfl, hR2, hP2, f2⟩ := hv
    refine w_ir l_158_54 (Or.inl rfl) ?_
    have eR : runA h l noOut (ne + 1) = (stepA h l ne (runA h l noOut ne)).1 := run_s rfl
    refine ⟨_, _, rfl, rfl, rfl, by rw [eR]; exact hR2, hP2, fun c' hc' hn' => ?_, (f2 s (by omega) 12).trans up_eq, fun y z h1 h2 => (f2 y (by omega) z).trans (by
        by_cases hy : y = s
        · rw [hy]; exact up_nj (h1 hy)
        · exact eU y hy z)⟩
    exact cS_eq (A.2.2.2.2.1 c' hc' (by omega)) fun j hj z => (f2 _ (by omega) z).trans (eU _ (by omega) z)

theorem mx_155 : mxl 155 = 1 := by decide +kernel
theorem mt_155 : mtc 155 = 9 := by decide +kernel
theorem rk_155 (as : List AV) : rkA 155 as = 0 := rfl
theorem l_155_0 : look 155 0 = some (.aload_n 0, 1, 0, 0, 0, 0) := by decide +kernel
theorem l_155_1 : look 155 1 = some (.getfield 42, 3, 9, 6, 2, 730) := by decide +kernel
theorem l_155_4 : look 155 4 = some (.getfield 125, 3, 0, 0, 0, 507) := by decide +kernel
theorem l_155_7 : look 155 7 = some (.bipush 120, 2, 0, 0, 0, 0) := by decide +kernel
theorem l_155_9 : look 155 9 = some (.if_icmp .lt 11, 3, 0, 0, 0, 0) := by decide +kernel
theorem l_155_12 : look 155 12 = some (.new 345, 3, 2, 0, 1, 1203) := by decide +kernel
theorem l_155_15 : look 155 15 = some (.dup, 1, 0, 0, 0, 0) := by decide +kernel
theorem l_155_16 : look 155 16 = some (.invokespecial 347, 3, 0, 1, 99, 1212) := by decide +kernel
theorem l_155_19 : look 155 19 = some (.athrow, 1, 0, 0, 0, 0) := by decide +kernel
theorem l_155_20 : look 155 20 = some (.return_, 1, 0, 0, 0, 0) := by decide +kernel
theorem s_155 (o : oDropSwitch S T s q y) {ne np : Nat} {a : Nat → Nat} (K : KQ I s q h l a ne np) (hne : ne < 120) : CL xs 155 [vr s] (S, I, T, cc, zz) (FN none (S, I, T, cc, zz)) := by
  refine CL_start (r := 0) (ls := [vr s]) (rk_155 _) rfl ?_
  refine w_aln l_155_0 rfl ?_
  refine w_gr l_155_1 (oDropSwitch_sh o) (oDropSwitch_r6 o) ?_
  refine w_gi ((ne : Nat) : Int) l_155_4 (oHistory_sh (oDropSwitch_o6 o)) K.2.2.1.1 ?_
  refine w_bp l_155_7 (by decide) ?_
  refine w_clt 20 l_155_9 (by decide) (fun _ => ?_) (fun hx => absurd hx (by omega))
  refine w_vr l_155_20 ?_
  exact ⟨rfl, rfl⟩

theorem s_155n (o : oDropSwitch S T s q y) {ne np : Nat} {a : Nat → Nat} (K : KQ I s q h l a ne np) (hne : ne = 120) (hc : 1 ≤ cc ∧ 6 ≤ zz) : CL xs 155 [vr s] (S, I, T, cc, zz) (TH 2 (S, I, T, cc - 1, zz - 6)) := by
  refine CL_start (r := 0) (ls := [vr s]) (rk_155 _) rfl ?_
  refine w_aln l_155_0 rfl ?_
  refine w_gr l_155_1 (oDropSwitch_sh o) (oDropSwitch_r6 o) ?_
  refine w_gi ((ne : Nat) : Int) l_155_4 (oHistory_sh (oDropSwitch_o6 o)) K.2.2.1.1 ?_
  refine w_bp l_155_7 (by decide) ?_
  refine w_clt 20 l_155_9 (by decide) (fun hx => absurd hx (by omega)) (fun _ => ?_)
  refine w_th l_155_12 ⟨hc.1, hc.2, Nat.le_of_ble_eq_true rfl⟩ ?_
  exact ⟨rfl, rfl⟩

/-- what calls on events change -/
def mfK (I J : Ix) (s : Nat) : Prop := ∀ y z, (y = s → z ≠ 12 ∧ z ≠ 13) → (y < s + 21 ∨ (s + 96 < y ∧ y < s + 99) ∨ s + 162 < y) → J y z = I y z
theorem mfK.tr {I J K : Ix} {s : Nat} (f : mfK I J s) (g : mfK J K s) : mfK I K s := fun y z a b => (g y z a b).trans (f y z a b)
theorem mfq.K {I M J : Ix} {s : Nat} (f : mfq M J s) (g : ∀ y z, (y < s + 21 ∨ s + 30 < y) → M y z = I y z) : mfK I J s := fun y z a b => (f y z (fun e => (a e).1) (by omega)).trans (g y z (by omega))
theorem up_up3 {I : Ix} {a a' b n : Nat} {u v w : Int} (h1 : a ≠ b) (h2 : a' ≠ b) {z : Nat} : up (up (up I a n u) a' n v) b n w b z = up I b n w b z := by
  by_cases hz : z = n
  · rw [hz, up_eq, up_eq]
  · rw [up_nj hz, up_nj hz, up_nj hz, up_nj hz]
theorem up_out {I : Ix} {a j y z : Nat} {v : Int} (h : ¬ (y = a ∧ z = j)) : up I a j v y z = I y z := if_neg h
theorem mx_106 : mxl 106 = 1 := by decide +kernel
theorem mt_106 : mtc 106 = 9 := by decide +kernel
theorem rk_106 (as : List AV) : rkA 106 as = 6 := rfl
theorem l_106_0 : look 106 0 = some (.aload_n 0, 1, 0, 0, 0, 0) := by decide +kernel
theorem l_106_1 : look 106 1 = some (.invokevirtual 156, 3, 155, 1, 0, 1199) := by decide +kernel
theorem l_106_4 : look 106 4 = some (.aload_n 0, 1, 0, 0, 0, 0) := by decide +kernel
theorem l_106_5 : look 106 5 = some (.getfield 42, 3, 9, 6, 2, 730) := by decide +kernel
theorem l_106_8 : look 106 8 = some (.iconst 1, 1, 0, 0, 0, 0) := by decide +kernel
theorem l_106_9 : look 106 9 = some (.iconst (-1), 1, 0, 0, 0, 0) := by decide +kernel
theorem l_106_10 : look 106 10 = some (.invokevirtual 173, 3, 1, 3, 0, 1386) := by decide +kernel
theorem l_106_13 : look 106 13 = some (.aload_n 0, 1, 0, 0, 0, 0) := by decide +kernel
theorem l_106_14 : look 106 14 = some (.invokevirtual 169, 3, 158, 1, 0, 1247) := by decide +kernel
theorem l_106_17 : look 106 17 = some (.ireturn, 1, 0, 0, 0, 0) := by decide +kernel
theorem mx_107 : mxl 107 = 3 := by decide +kernel
theorem mt_107 : mtc 107 = 9 := by decide +kernel
theorem rk_107 (as : List AV) : rkA 107 as = 6 := rfl
theorem l_107_0 : look 107 0 = some (.aload_n 0, 1, 0, 0, 0, 0) := by decide +kernel
theorem l_107_1 : look 107 1 = some (.iload_n 1, 1, 0, 0, 0, 0) := by decide +kernel
theorem l_107_2 : look 107 2 = some (.invokevirtual 150, 3, 147, 2, 0, 179) := by decide +kernel
theorem l_107_5 : look 107 5 = some (.aload_n 0, 1, 0, 0, 0, 0) := by decide +kernel
theorem l_107_6 : look 107 6 = some (.invokevirtual 156, 3, 155, 1, 0, 1199) := by decide +kernel
theorem l_107_9 : look 107 9 = some (.aload_n 0, 1, 0, 0, 0, 0) := by decide +kernel
theorem l_107_10 : look 107 10 = some (.getfield 42, 3, 9, 6, 2, 730) := by decide +kernel
theorem l_107_13 : look 107 13 = some (.iload_n 2, 1, 0, 0, 0, 0) := by decide +kernel
theorem l_107_14 : look 107 14 = some (.ifCond .eq 7, 3, 0, 0, 0, 0) := by decide +kernel
theorem l_107_17 : look 107 17 = some (.iconst 2, 1, 0, 0, 0, 0) := by decide +kernel
theorem l_107_18 : look 107 18 = some (.goto 4, 3, 0, 0, 0, 0) := by decide +kernel
theorem l_107_21 : look 107 21 = some (.iconst 3, 1, 0, 0, 0, 0) := by decide +kernel
theorem l_107_22 : look 107 22 = some (.iload_n 1, 1, 0, 0, 0, 0) := by decide +kernel
theorem l_107_23 : look 107 23 = some (.invokevirtual 173, 3, 1, 3, 0, 1386) := by decide +kernel
theorem l_107_26 : look 107 26 = some (.aload_n 0, 1, 0, 0, 0, 0) := by decide +kernel
theorem l_107_27 : look 107 27 = some (.invokevirtual 169, 3, 158, 1, 0, 1247) := by decide +kernel
theorem l_107_30 : look 107 30 = some (.ireturn, 1, 0, 0, 0, 0) := by decide +kernel
theorem mx_105 : mxl 105 = 7 := by decide +kernel
theorem mt_105 : mtc 105 = 9 := by decide +kernel
theorem rk_105 (as : List AV) : rkA 105 as = 6 := rfl
theorem l_105_0 : look 105 0 = some (.aload_n 0, 1, 0, 0, 0, 0) := by decide +kernel
theorem l_105_1 : look 105 1 = some (.iload_n 1, 1, 0, 0, 0, 0) := by decide +kernel
theorem l_105_2 : look 105 2 = some (.invokevirtual 150, 3, 147, 2, 0, 179) := by decide +kernel
theorem l_105_5 : look 105 5 = some (.aload_n 0, 1, 0, 0, 0, 0) := by decide +kernel
theorem l_105_6 : look 105 6 = some (.iload_n 2, 1, 0, 0, 0, 0) := by decide +kernel
theorem l_105_7 : look 105 7 = some (.invokevirtual 153, 3, 153, 2, 0, 1195) := by decide +kernel
theorem l_105_10 : look 105 10 = some (.aload_n 0, 1, 0, 0, 0, 0) := by decide +kernel
theorem l_105_11 : look 105 11 = some (.iload_n 3, 1, 0, 0, 0, 0) := by decide +kernel
theorem l_105_12 : look 105 12 = some (.invokevirtual 153, 3, 153, 2, 0, 1195) := by decide +kernel
theorem l_105_15 : look 105 15 = some (.iload 4, 2, 0, 0, 0, 0) := by decide +kernel
theorem l_105_17 : look 105 17 = some (.iconst 1, 1, 0, 0, 0, 0) := by decide +kernel
theorem l_105_18 : look 105 18 = some (.if_icmp .lt 21, 3, 0, 0, 0, 0) := by decide +kernel
theorem l_105_21 : look 105 21 = some (.iload 4, 2, 0, 0, 0, 0) := by decide +kernel
theorem l_105_23 : look 105 23 = some (.bipush 9, 2, 0, 0, 0, 0) := by decide +kernel
theorem l_105_25 : look 105 25 = some (.if_icmp .gt 14, 3, 0, 0, 0, 0) := by decide +kernel
theorem l_105_28 : look 105 28 = some (.iload 5, 2, 0, 0, 0, 0) := by decide +kernel
theorem l_105_30 : look 105 30 = some (.ifCond .lt 9, 3, 0, 0, 0, 0) := by decide +kernel
theorem l_105_33 : look 105 33 = some (.iload 5, 2, 0, 0, 0, 0) := by decide +kernel
theorem l_105_35 : look 105 35 = some (.iconst 3, 1, 0, 0, 0, 0) := by decide +kernel
theorem l_105_36 : look 105 36 = some (.if_icmp .le 11, 3, 0, 0, 0, 0) := by decide +kernel
theorem l_105_39 : look 105 39 = some (.new 109, 3, 1, 0, 1, 231) := by decide +kernel
theorem l_105_42 : look 105 42 = some (.dup, 1, 0, 0, 0, 0) := by decide +kernel
theorem l_105_43 : look 105 43 = some (.invokespecial 111, 3, 0, 1, 99, 240) := by decide +kernel
theorem l_105_46 : look 105 46 = some (.athrow, 1, 0, 0, 0, 0) := by decide +kernel
theorem l_105_47 : look 105 47 = some (.aload_n 0, 1, 0, 0, 0, 0) := by decide +kernel
theorem l_105_48 : look 105 48 = some (.invokevirtual 156, 3, 155, 1, 0, 1199) := by decide +kernel
theorem l_105_51 : look 105 51 = some (.aload_n 0, 1, 0, 0, 0, 0) := by decide +kernel
theorem l_105_52 : look 105 52 = some (.getfield 42, 3, 9, 6, 2, 730) := by decide +kernel
theorem l_105_55 : look 105 55 = some (.getfield 128, 3, 0, 1, 0, 509) := by decide +kernel
theorem l_105_58 : look 105 58 = some (.istore 6, 2, 0, 0, 0, 0) := by decide +kernel
theorem l_105_60 : look 105 60 = some (.aload_n 0, 1, 0, 0, 0, 0) := by decide +kernel
theorem l_105_61 : look 105 61 = some (.getfield 42, 3, 9, 6, 2, 730) := by decide +kernel
theorem l_105_64 : look 105 64 = some (.iload_n 1, 1, 0, 0, 0, 0) := by decide +kernel
theorem l_105_65 : look 105 65 = some (.iload_n 2, 1, 0, 0, 0, 0) := by decide +kernel
theorem l_105_66 : look 105 66 = some (.iload_n 3, 1, 0, 0, 0, 0) := by decide +kernel
theorem l_105_67 : look 105 67 = some (.iload 4, 2, 0, 0, 0, 0) := by decide +kernel
theorem l_105_69 : look 105 69 = some (.iload 5, 2, 0, 0, 0, 0) := by decide +kernel
theorem l_105_71 : look 105 71 = some (.invokevirtual 159, 3, 2, 6, 0, 1218) := by decide +kernel
theorem l_105_74 : look 105 74 = some (.aload_n 0, 1, 0, 0, 0, 0) := by decide +kernel
theorem l_105_75 : look 105 75 = some (.getfield 42, 3, 9, 6, 2, 730) := by decide +kernel
theorem l_105_78 : look 105 78 = some (.getfield 163, 3, 0, 10, 2, 531) := by decide +kernel
theorem l_105_81 : look 105 81 = some (.iload 6, 2, 0, 0, 0, 0) := by decide +kernel
theorem l_105_83 : look 105 83 = some (.aload_n 0, 1, 0, 0, 0, 0) := by decide +kernel
theorem l_105_84 : look 105 84 = some (.getfield 35, 3, 9, 5, 2, 729) := by decide +kernel
theorem l_105_87 : look 105 87 = some (.aload_n 0, 1, 0, 0, 0, 0) := by decide +kernel
theorem l_105_88 : look 105 88 = some (.getfield 42, 3, 9, 6, 2, 730) := by decide +kernel
theorem l_105_91 : look 105 91 = some (.iload 6, 2, 0, 0, 0, 0) := by decide +kernel
theorem l_105_93 : look 105 93 = some (.invokevirtual 165, 3, 72, 3, 0, 1226) := by decide +kernel
theorem l_105_96 : look 105 96 = some (.iastore, 1, 0, 0, 0, 0) := by decide +kernel
theorem l_105_97 : look 105 97 = some (.aload_n 0, 1, 0, 0, 0, 0) := by decide +kernel
theorem l_105_98 : look 105 98 = some (.invokevirtual 169, 3, 158, 1, 0, 1247) := by decide +kernel
theorem l_105_101 : look 105 101 = some (.ireturn, 1, 0, 0, 0, 0) := by decide +kernel
theorem s_106 (o : oDropSwitch S T s q y) (ck : oCk S T s) {ne np c : Nat} {a : Nat → Nat} {su : Su} {cd : Nat → Cd} (X : XC I s q h l a ne np su cd c) (hne : ne < 120) (hc1 : c + 1 < 100000)  : CL xs 106 [vr s] (S, I, T, cc, zz) (RP S T cc zz (fun v I' => v = some (vi (((stepA (addE h ne 1 0) l ne (runA (addE h ne 1 0) l noOut ne)).2 : Nat) : Int)) ∧ XC I' s q (addE h ne 1 0) l a (ne + 1) np su cd (c + 1) ∧ mfK I I' s)) := by
  refine CL_start (r := 6) (ls := [vr s]) (rk_106 _) rfl ?_
  have K := X.K
  have hne9 := K.2.2.1.2.2.1
  have hnp9 := K.2.2.1.2.2.2.1
  have hl4 := K.2.2.2.2.2.2.2.1.1
  have D := addE_H (kind := 1) (p := 0) K.2.2.2.2.2.2.1 K.2.2.2.2.2.2.2.2.1 X.W (by decide) (fun q => absurd rfl q)
  have eM : ∀ y z, (y < s + 21 ∨ s + 30 < y) → (up (up (up (up I (s + 21 + 1) ne ((1 : Nat) : Int)) (s + 21 + 2) ne (-1)) (s + 21 + 3) ne (-1)) (s + 21) 0 ((ne + 1 : Nat) : Int)) y z = I y z := fun y z hy => (up_no (by omega)).trans ((up_no (by omega)).trans ((up_no (by omega)).trans (up_no (by omega))))
  have eF : mfh I (up (up (up (up I (s + 21 + 1) ne ((1 : Nat) : Int)) (s + 21 + 2) ne (-1)) (s + 21 + 3) ne (-1)) (s + 21) 0 ((ne + 1 : Nat) : Int)) (s + 21) ne np := fun y z h1 h2 h3 => by
    repeat (first | rw [up_no (by omega)] | (rw [up_out (by omega)]))
  have hH : cH (up (up (up (up I (s + 21 + 1) ne ((1 : Nat) : Int)) (s + 21 + 2) ne (-1)) (s + 21 + 3) ne (-1)) (s + 21) 0 ((ne + 1 : Nat) : Int)) (s + 21) (addE h ne 1 0) a (ne + 1) np := cH_E (kind := 1) (p := 0) (pI := (-1)) K.2.2.1 hne (by decide) (fun q => absurd rfl q) eF up_eq
      ((up_nj (by decide)).trans ((up_no (by omega)).trans ((up_no (by omega)).trans ((up_no (by omega)).trans K.2.2.1.2.1))))
      ((up_no (by omega)).trans ((up_no (by omega)).trans ((up_no (by omega)).trans up_eq)))
      ((up_no (by omega)).trans ((up_no (by omega)).trans up_eq))
  have A9 := X.ae D eM hH (fun k hk => by
    have e9 : ∀ z, (up (up (up (up I (s + 21 + 1) ne ((1 : Nat) : Int)) (s + 21 + 2) ne (-1)) (s + 21 + 3) ne (-1)) (s + 21) 0 ((ne + 1 : Nat) : Int)) (s + 30) z = I (s + 30) z := fun z => (up_no (by omega)).trans ((up_no (by omega)).trans ((up_no (by omega)).trans (up_no (by omega))))
    rw [e9]
    exact X.B.2.1 k hk)
  have hpk : ∀ e, e < ne + 1 → (up (up (up (up I (s + 21 + 1) ne ((1 : Nat) : Int)) (s + 21 + 2) ne (-1)) (s + 21 + 3) ne (-1)) (s + 21) 0 ((ne + 1 : Nat) : Int)) (s + 24) e = pkO (addE h ne 1 0) e := fun e he => by
    rw [show ∀ z, (up (up (up (up I (s + 21 + 1) ne ((1 : Nat) : Int)) (s + 21 + 2) ne (-1)) (s + 21 + 3) ne (-1)) (s + 21) 0 ((ne + 1 : Nat) : Int)) (s + 24) z = up I (s + 24) ne (-1) (s + 24) z from fun z => (up_no (by omega)).trans (up_up3 (by omega) (by omega))]
    by_cases hee : e = ne
    · rw [hee, up_eq]
      unfold pkO
      rw [addE_eq.1, if_neg (by decide)]
    · rw [up_nj hee, X.pk e (by omega)]
      unfold pkO
      rw [(addE_ne hee).1, (addE_ne hee).2.2]
  refine w_aln l_106_0 rfl ?_
  refine q_iv [] [] l_106_1 rfl rfl (Nat.le_of_ble_eq_true rfl) (by rw [mx_155]; exact Nat.le_of_ble_eq_true rfl) (by rw [mt_155]; exact oDropSwitch_sh o) (by rw [mt_155]; decide) (by rw [rk_155]; decide) (s_155 o X.K hne) ?_
  refine w_aln l_106_4 rfl ?_
  refine w_gr l_106_5 (oDropSwitch_sh o) (oDropSwitch_r6 o) ?_
  refine w_ic l_106_8 (by decide) ?_
  refine w_ic l_106_9 (by decide) ?_
  refine q_iv [vi 1, vi (-1)] [] l_106_10 rfl rfl (Nat.le_of_ble_eq_true rfl) (by rw [mx_1]; exact Nat.le_of_ble_eq_true rfl) (by rw [mt_1]; exact oHistory_sh (oDropSwitch_o6 o)) (by rw [mt_1]; decide) (by rw [rk_1]; decide) (s_1 (c := 1) (p := (-1)) (oDropSwitch_o6 o) K.2.2.1.1 hne) ?_
  refine w_aln l_106_13 rfl ?_
  refine p_iv [] [] l_106_14 rfl rfl (Nat.le_of_ble_eq_true rfl) (by rw [mx_158]; exact Nat.le_of_ble_eq_true rfl) (by rw [mt_158]; exact oDropSwitch_sh o) (by rw [mt_158]; decide) (by rw [rk_158]; decide) (s_158 o ck A9 hc1) (fun v I1 hv => ?_)
  obtain ⟨rfl, hR, hP, hC, h12, fq⟩ := hv
  refine w_ir l_106_17 (Or.inl rfl) ?_
  exact ⟨_, _, rfl, rfl, rfl, X.done D (HC_E X.W X.D) eM A9 hpk hc1 hR hP hC h12 fq, fq.K eM⟩

theorem s_107_0 (o : oDropSwitch S T s q y) (ck : oCk S T s) {ne np c : Nat} {a : Nat → Nat} {su : Su} {cd : Nat → Cd} (X : XC I s q h l a ne np su cd c) (hne : ne < 120) (hc1 : c + 1 < 100000) {p : Nat} (hp : p < lPorts l) : CL xs 107 [vr s, vi ((p : Nat) : Int), vi 0] (S, I, T, cc, zz) (RP S T cc zz (fun v I' => v = some (vi (((stepA (addE h ne 3 p) l ne (runA (addE h ne 3 p) l noOut ne)).2 : Nat) : Int)) ∧ XC I' s q (addE h ne 3 p) l a (ne + 1) np su cd (c + 1) ∧ mfK I I' s)) := by
  refine CL_start (r := 6) (ls := [vr s, vi ((p : Nat) : Int), vi 0]) (rk_107 _) rfl ?_
  have K := X.K
  have hne9 := K.2.2.1.2.2.1
  have hnp9 := K.2.2.1.2.2.2.1
  have hl4 := K.2.2.2.2.2.2.2.1.1
  have D := addE_H (kind := 3) (p := p) K.2.2.2.2.2.2.1 K.2.2.2.2.2.2.2.2.1 X.W (by decide) (fun _ => hp)
  have eM : ∀ y z, (y < s + 21 ∨ s + 30 < y) → (up (up (up (up I (s + 21 + 1) ne ((3 : Nat) : Int)) (s + 21 + 2) ne ((p : Nat) : Int)) (s + 21 + 3) ne (-1)) (s + 21) 0 ((ne + 1 : Nat) : Int)) y z = I y z := fun y z hy => (up_no (by omega)).trans ((up_no (by omega)).trans ((up_no (by omega)).trans (up_no (by omega))))
  have eF : mfh I (up (up (up (up I (s + 21 + 1) ne ((3 : Nat) : Int)) (s + 21 + 2) ne ((p : Nat) : Int)) (s + 21 + 3) ne (-1)) (s + 21) 0 ((ne + 1 : Nat) : Int)) (s + 21) ne np := fun y z h1 h2 h3 => by
    repeat (first | rw [up_no (by omega)] | (rw [up_out (by omega)]))
  have hH : cH (up (up (up (up I (s + 21 + 1) ne ((3 : Nat) : Int)) (s + 21 + 2) ne ((p : Nat) : Int)) (s + 21 + 3) ne (-1)) (s + 21) 0 ((ne + 1 : Nat) : Int)) (s + 21) (addE h ne 3 p) a (ne + 1) np := cH_E (kind := 3) (p := p) (pI := ((p : Nat) : Int)) K.2.2.1 hne (by decide) (fun _ => ⟨rfl, by omega⟩) eF up_eq
      ((up_nj (by decide)).trans ((up_no (by omega)).trans ((up_no (by omega)).trans ((up_no (by omega)).trans K.2.2.1.2.1))))
      ((up_no (by omega)).trans ((up_no (by omega)).trans ((up_no (by omega)).trans up_eq)))
      ((up_no (by omega)).trans ((up_no (by omega)).trans up_eq))
  have A9 := X.ae D eM hH (fun k hk => by
    have e9 : ∀ z, (up (up (up (up I (s + 21 + 1) ne ((3 : Nat) : Int)) (s + 21 + 2) ne ((p : Nat) : Int)) (s + 21 + 3) ne (-1)) (s + 21) 0 ((ne + 1 : Nat) : Int)) (s + 30) z = I (s + 30) z := fun z => (up_no (by omega)).trans ((up_no (by omega)).trans ((up_no (by omega)).trans (up_no (by omega))))
    rw [e9]
    exact X.B.2.1 k hk)
  have hpk : ∀ e, e < ne + 1 → (up (up (up (up I (s + 21 + 1) ne ((3 : Nat) : Int)) (s + 21 + 2) ne ((p : Nat) : Int)) (s + 21 + 3) ne (-1)) (s + 21) 0 ((ne + 1 : Nat) : Int)) (s + 24) e = pkO (addE h ne 3 p) e := fun e he => by
    rw [show ∀ z, (up (up (up (up I (s + 21 + 1) ne ((3 : Nat) : Int)) (s + 21 + 2) ne ((p : Nat) : Int)) (s + 21 + 3) ne (-1)) (s + 21) 0 ((ne + 1 : Nat) : Int)) (s + 24) z = up I (s + 24) ne (-1) (s + 24) z from fun z => (up_no (by omega)).trans (up_up3 (by omega) (by omega))]
    by_cases hee : e = ne
    · rw [hee, up_eq]
      unfold pkO
      rw [addE_eq.1, if_neg (by decide)]
    · rw [up_nj hee, X.pk e (by omega)]
      unfold pkO
      rw [(addE_ne hee).1, (addE_ne hee).2.2]
  refine w_aln l_107_0 rfl ?_
  refine w_iln l_107_1 rfl ?_
  refine q_iv [vi ((p : Nat) : Int)] [] l_107_2 rfl rfl (Nat.le_of_ble_eq_true rfl) (by rw [mx_147]; exact Nat.le_of_ble_eq_true rfl) (by rw [mt_147]; exact oDropSwitch_sh o) (by rw [mt_147]; decide) (by rw [rk_147]; decide) (s_147 o X.K hp) ?_
  refine w_aln l_107_5 rfl ?_
  refine q_iv [] [] l_107_6 rfl rfl (Nat.le_of_ble_eq_true rfl) (by rw [mx_155]; exact Nat.le_of_ble_eq_true rfl) (by rw [mt_155]; exact oDropSwitch_sh o) (by rw [mt_155]; decide) (by rw [rk_155]; decide) (s_155 o X.K hne) ?_
  refine w_aln l_107_9 rfl ?_
  refine w_gr l_107_10 (oDropSwitch_sh o) (oDropSwitch_r6 o) ?_
  refine w_iln l_107_13 rfl ?_
  refine w_zeq 21 l_107_14 (by decide) (fun _ => ?_) (fun hx => absurd hx (by decide))
  refine w_ic l_107_21 (by decide) ?_
  refine w_iln l_107_22 rfl ?_
  refine q_iv [vi 3, vi ((p : Nat) : Int)] [] l_107_23 rfl rfl (Nat.le_of_ble_eq_true rfl) (by rw [mx_1]; exact Nat.le_of_ble_eq_true rfl) (by rw [mt_1]; exact oHistory_sh (oDropSwitch_o6 o)) (by rw [mt_1]; decide) (by rw [rk_1]; decide) (s_1 (c := 3) (p := ((p : Nat) : Int)) (oDropSwitch_o6 o) K.2.2.1.1 hne) ?_
  refine w_aln l_107_26 rfl ?_
  refine p_iv [] [] l_107_27 rfl rfl (Nat.le_of_ble_eq_true rfl) (by rw [mx_158]; exact Nat.le_of_ble_eq_true rfl) (by rw [mt_158]; exact oDropSwitch_sh o) (by rw [mt_158]; decide) (by rw [rk_158]; decide) (s_158 o ck A9 hc1) (fun v I1 hv => ?_)
  obtain ⟨rfl, hR, hP, hC, h12, fq⟩ := hv
  refine w_ir l_107_30 (Or.inl rfl) ?_
  exact ⟨_, _, rfl, rfl, rfl, X.done D (HC_E X.W X.D) eM A9 hpk hc1 hR hP hC h12 fq, fq.K eM⟩

theorem s_107_1 (o : oDropSwitch S T s q y) (ck : oCk S T s) {ne np c : Nat} {a : Nat → Nat} {su : Su} {cd : Nat → Cd} (X : XC I s q h l a ne np su cd c) (hne : ne < 120) (hc1 : c + 1 < 100000) {p : Nat} (hp : p < lPorts l) : CL xs 107 [vr s, vi ((p : Nat) : Int), vi 1] (S, I, T, cc, zz) (RP S T cc zz (fun v I' => v = some (vi (((stepA (addE h ne 2 p) l ne (runA (addE h ne 2 p) l noOut ne)).2 : Nat) : Int)) ∧ XC I' s q (addE h ne 2 p) l a (ne + 1) np su cd (c + 1) ∧ mfK I I' s)) := by
  refine CL_start (r := 6) (ls := [vr s, vi ((p : Nat) : Int), vi 1]) (rk_107 _) rfl ?_
  have K := X.K
  have hne9 := K.2.2.1.2.2.1
  have hnp9 := K.2.2.1.2.2.2.1
  have hl4 := K.2.2.2.2.2.2.2.1.1
  have D := addE_H (kind := 2) (p := p) K.2.2.2.2.2.2.1 K.2.2.2.2.2.2.2.2.1 X.W (by decide) (fun _ => hp)
  have eM : ∀ y z, (y < s + 21 ∨ s + 30 < y) → (up (up (up (up I (s + 21 + 1) ne ((2 : Nat) : Int)) (s + 21 + 2) ne ((p : Nat) : Int)) (s + 21 + 3) ne (-1)) (s + 21) 0 ((ne + 1 : Nat) : Int)) y z = I y z := fun y z hy => (up_no (by omega)).trans ((up_no (by omega)).trans ((up_no (by omega)).trans (up_no (by omega))))
  have eF : mfh I (up (up (up (up I (s + 21 + 1) ne ((2 : Nat) : Int)) (s + 21 + 2) ne ((p : Nat) : Int)) (s + 21 + 3) ne (-1)) (s + 21) 0 ((ne + 1 : Nat) : Int)) (s + 21) ne np := fun y z h1 h2 h3 => by
    repeat (first | rw [up_no (by omega)] | (rw [up_out (by omega)]))
  have hH : cH (up (up (up (up I (s + 21 + 1) ne ((2 : Nat) : Int)) (s + 21 + 2) ne ((p : Nat) : Int)) (s + 21 + 3) ne (-1)) (s + 21) 0 ((ne + 1 : Nat) : Int)) (s + 21) (addE h ne 2 p) a (ne + 1) np := cH_E (kind := 2) (p := p) (pI := ((p : Nat) : Int)) K.2.2.1 hne (by decide) (fun _ => ⟨rfl, by omega⟩) eF up_eq
      ((up_nj (by decide)).trans ((up_no (by omega)).trans ((up_no (by omega)).trans ((up_no (by omega)).trans K.2.2.1.2.1))))
      ((up_no (by omega)).trans ((up_no (by omega)).trans ((up_no (by omega)).trans up_eq)))
      ((up_no (by omega)).trans ((up_no (by omega)).trans up_eq))
  have A9 := X.ae D eM hH (fun k hk => by
    have e9 : ∀ z, (up (up (up (up I (s + 21 + 1) ne ((2 : Nat) : Int)) (s + 21 + 2) ne ((p : Nat) : Int)) (s + 21 + 3) ne (-1)) (s + 21) 0 ((ne + 1 : Nat) : Int)) (s + 30) z = I (s + 30) z := fun z => (up_no (by omega)).trans ((up_no (by omega)).trans ((up_no (by omega)).trans (up_no (by omega))))
    rw [e9]
    exact X.B.2.1 k hk)
  have hpk : ∀ e, e < ne + 1 → (up (up (up (up I (s + 21 + 1) ne ((2 : Nat) : Int)) (s + 21 + 2) ne ((p : Nat) : Int)) (s + 21 + 3) ne (-1)) (s + 21) 0 ((ne + 1 : Nat) : Int)) (s + 24) e = pkO (addE h ne 2 p) e := fun e he => by
    rw [show ∀ z, (up (up (up (up I (s + 21 + 1) ne ((2 : Nat) : Int)) (s + 21 + 2) ne ((p : Nat) : Int)) (s + 21 + 3) ne (-1)) (s + 21) 0 ((ne + 1 : Nat) : Int)) (s + 24) z = up I (s + 24) ne (-1) (s + 24) z from fun z => (up_no (by omega)).trans (up_up3 (by omega) (by omega))]
    by_cases hee : e = ne
    · rw [hee, up_eq]
      unfold pkO
      rw [addE_eq.1, if_neg (by decide)]
    · rw [up_nj hee, X.pk e (by omega)]
      unfold pkO
      rw [(addE_ne hee).1, (addE_ne hee).2.2]
  refine w_aln l_107_0 rfl ?_
  refine w_iln l_107_1 rfl ?_
  refine q_iv [vi ((p : Nat) : Int)] [] l_107_2 rfl rfl (Nat.le_of_ble_eq_true rfl) (by rw [mx_147]; exact Nat.le_of_ble_eq_true rfl) (by rw [mt_147]; exact oDropSwitch_sh o) (by rw [mt_147]; decide) (by rw [rk_147]; decide) (s_147 o X.K hp) ?_
  refine w_aln l_107_5 rfl ?_
  refine q_iv [] [] l_107_6 rfl rfl (Nat.le_of_ble_eq_true rfl) (by rw [mx_155]; exact Nat.le_of_ble_eq_true rfl) (by rw [mt_155]; exact oDropSwitch_sh o) (by rw [mt_155]; decide) (by rw [rk_155]; decide) (s_155 o X.K hne) ?_
  refine w_aln l_107_9 rfl ?_
  refine w_gr l_107_10 (oDropSwitch_sh o) (oDropSwitch_r6 o) ?_
  refine w_iln l_107_13 rfl ?_
  refine w_zeq 21 l_107_14 (by decide) (fun hx => absurd hx (by decide)) (fun _ => ?_)
  refine w_ic l_107_17 (by decide) ?_
  refine w_go 22 l_107_18 (by decide) ?_
  refine w_iln l_107_22 rfl ?_
  refine q_iv [vi 2, vi ((p : Nat) : Int)] [] l_107_23 rfl rfl (Nat.le_of_ble_eq_true rfl) (by rw [mx_1]; exact Nat.le_of_ble_eq_true rfl) (by rw [mt_1]; exact oHistory_sh (oDropSwitch_o6 o)) (by rw [mt_1]; decide) (by rw [rk_1]; decide) (s_1 (c := 2) (p := ((p : Nat) : Int)) (oDropSwitch_o6 o) K.2.2.1.1 hne) ?_
  refine w_aln l_107_26 rfl ?_
  refine p_iv [] [] l_107_27 rfl rfl (Nat.le_of_ble_eq_true rfl) (by rw [mx_158]; exact Nat.le_of_ble_eq_true rfl) (by rw [mt_158]; exact oDropSwitch_sh o) (by rw [mt_158]; decide) (by rw [rk_158]; decide) (s_158 o ck A9 hc1) (fun v I1 hv => ?_)
  obtain ⟨rfl, hR, hP, hC, h12, fq⟩ := hv
  refine w_ir l_107_30 (Or.inl rfl) ?_
  exact ⟨_, _, rfl, rfl, rfl, X.done D (HC_E X.W X.D) eM A9 hpk hc1 hR hP hC h12 fq, fq.K eM⟩

end CGO
