/-! the class: answers, 2 -/
section KQT
variable {xs : List Int} {S : List (Nat × Nat)} {T : Nat → Nat → Nat} {cc zz s q y : Nat} {h : Hi} {l : Li} {I I' : Ix}

theorem mx_114 : mxl 114 = 3 := by decide +kernel
theorem mt_114 : mtc 114 = 9 := by decide +kernel
theorem rk_114 (as : List AV) : rkA 114 as = 1 := rfl
theorem l_114_0 : look 114 0 = some (.aload_n 0, 1, 0, 0, 0, 0) := by decide +kernel
theorem l_114_1 : look 114 1 = some (.iload_n 1, 1, 0, 0, 0, 0) := by decide +kernel
theorem l_114_2 : look 114 2 = some (.invokevirtual 150, 3, 147, 2, 0, 1069) := by decide +kernel
theorem l_114_5 : look 114 5 = some (.aload_n 0, 1, 0, 0, 0, 0) := by decide +kernel
theorem l_114_6 : look 114 6 = some (.getfield 57, 3, 9, 8, 2, 546) := by decide +kernel
theorem l_114_9 : look 114 9 = some (.getfield 140, 3, 5, 1, 2, 449) := by decide +kernel
theorem l_114_12 : look 114 12 = some (.iload_n 1, 1, 0, 0, 0, 0) := by decide +kernel
theorem l_114_13 : look 114 13 = some (.iload_n 2, 1, 0, 0, 0, 0) := by decide +kernel
theorem l_114_14 : look 114 14 = some (.invokevirtual 211, 3, 84, 3, 0, 1216) := by decide +kernel
theorem l_114_17 : look 114 17 = some (.ireturn, 1, 0, 0, 0, 0) := by decide +kernel

theorem s_114 (o : oDropSwitch S T s q y) {ne np : Nat} {a : Nat → Nat} (K : KQ I s q h l a ne np) {p k : Nat} (hp : p < lPorts l) (hk : k < (sQ (runA h l noOut ne).1 p).length) : CL xs 114 [vr s, vi ((p : Nat) : Int), vi ((k : Nat) : Int)] (S, I, T, cc, zz) (FN (some (vi (((sQ (runA h l noOut ne).1 p).getD k (0, 0)).1 : Int))) (S, I, T, cc, zz)) := by
  refine CL_start (r := 1) (ls := [vr s, vi ((p : Nat) : Int), vi ((k : Nat) : Int)]) (rk_114 _) rfl ?_
  have hl4 := K.2.2.2.2.2.2.2.1.1
  have hok := (run_ok K.2.2.2.2.2.2.1 K.2.2.2.2.2.2.2.1 K.2.2.2.2.2.2.2.2.1 (out := noOut) ne (Nat.le_refl ne)).1
  have hRr := K.2.2.2.1
  have hne := K.2.2.1.2.2.1
  have hnp := K.2.2.1.2.2.2.1
  have hp4 : p < 4 := by omega
  refine w_aln l_114_0 rfl ?_
  refine w_iln l_114_1 rfl ?_
  refine q_iv [vi ((p : Nat) : Int)] [] l_114_2 rfl rfl (Nat.le_of_ble_eq_true rfl) (by rw [mx_147]; exact Nat.le_of_ble_eq_true rfl) (by rw [mt_147]; exact oDropSwitch_sh o) (by rw [mt_147]; decide) (by rw [rk_147]; decide) (s_147 o K hp) ?_
  refine w_aln l_114_5 rfl ?_
  refine w_gr l_114_6 (oDropSwitch_sh o) (oDropSwitch_r8 o) ?_
  refine w_gr l_114_9 (oRun_sh (oDropSwitch_o8 o)) (oRun_r1 (oDropSwitch_o8 o)) ?_
  refine w_iln l_114_12 rfl ?_
  refine w_iln l_114_13 rfl ?_
  refine q_iv [vi ((p : Nat) : Int), vi ((k : Nat) : Int)] [] l_114_14 rfl rfl (Nat.le_of_ble_eq_true rfl) (by rw [mx_84]; exact Nat.le_of_ble_eq_true rfl) (by rw [mt_84]; exact oState_sh (oRun_o1 (oDropSwitch_o8 o))) (by rw [mt_84]; decide) (by rw [rk_84]; decide) (t_packetAt (oRun_o1 (oDropSwitch_o8 o)) hRr.1 hp4 hk) ?_
  refine w_ir l_114_17 (Or.inl rfl) ?_
  exact ⟨rfl, rfl⟩


theorem s_114o (o : oDropSwitch S T s q y) {ne np : Nat} {a : Nat → Nat} (K : KQ I s q h l a ne np) {p : Nat} {k : Int} (hp : p < lPorts l) (hk : ¬ (0 ≤ k ∧ k < (((sQ (runA h l noOut ne).1 p).length : Nat) : Int))) : CL xs 114 [vr s, vi ((p : Nat) : Int), vi k] (S, I, T, cc, zz) (FN (some (vi (-1))) (S, I, T, cc, zz)) := by
  refine CL_start (r := 1) (ls := [vr s, vi ((p : Nat) : Int), vi k]) (rk_114 _) rfl ?_
  have hl4 := K.2.2.2.2.2.2.2.1.1
  have hok := (run_ok K.2.2.2.2.2.2.1 K.2.2.2.2.2.2.2.1 K.2.2.2.2.2.2.2.2.1 (out := noOut) ne (Nat.le_refl ne)).1
  have hRr := K.2.2.2.1
  have hne := K.2.2.1.2.2.1
  have hnp := K.2.2.1.2.2.2.1
  have hp4 : p < 4 := by omega
  refine w_aln l_114_0 rfl ?_
  refine w_iln l_114_1 rfl ?_
  refine q_iv [vi ((p : Nat) : Int)] [] l_114_2 rfl rfl (Nat.le_of_ble_eq_true rfl) (by rw [mx_147]; exact Nat.le_of_ble_eq_true rfl) (by rw [mt_147]; exact oDropSwitch_sh o) (by rw [mt_147]; decide) (by rw [rk_147]; decide) (s_147 o K hp) ?_
  refine w_aln l_114_5 rfl ?_
  refine w_gr l_114_6 (oDropSwitch_sh o) (oDropSwitch_r8 o) ?_
  refine w_gr l_114_9 (oRun_sh (oDropSwitch_o8 o)) (oRun_r1 (oDropSwitch_o8 o)) ?_
  refine w_iln l_114_12 rfl ?_
  refine w_iln l_114_13 rfl ?_
  refine q_iv [vi ((p : Nat) : Int), vi k] [] l_114_14 rfl rfl (Nat.le_of_ble_eq_true rfl) (by rw [mx_84]; exact Nat.le_of_ble_eq_true rfl) (by rw [mt_84]; exact oState_sh (oRun_o1 (oDropSwitch_o8 o))) (by rw [mt_84]; decide) (by rw [rk_84]; decide) ((by have h9 := s_84 (xs := xs) (T := T) (cc := cc) (zz := zz) (I := I) (k := k) (oRun_o1 (oDropSwitch_o8 o)) hp4 (hRr.1.2.2.2.2.1 p hp4).1 (hRr.1.2.2.2.2.1 p hp4).2.1; rw [if_neg hk] at h9; exact h9)) ?_
  refine w_ir l_114_17 (Or.inl rfl) ?_
  exact ⟨rfl, rfl⟩

theorem s_114n (o : oDropSwitch S T s q y) {ne np : Nat} {a : Nat → Nat} (K : KQ I s q h l a ne np) {p k : Int} (hp : ¬ (0 ≤ p ∧ p < ((lPorts l : Nat) : Int))) (hc : 1 ≤ cc ∧ 6 ≤ zz) : CL xs 114 [vr s, vi p, vi k] (S, I, T, cc, zz) (TH 0 (S, I, T, cc - 1, zz - 6)) := by
  refine CL_start (r := 1) (ls := [vr s, vi p, vi k]) (rk_114 _) rfl ?_
  refine w_aln l_114_0 rfl ?_
  refine w_iln l_114_1 rfl ?_
  refine t_iv [vi p] [] l_114_2 rfl rfl (Nat.le_of_ble_eq_true rfl) (by rw [mx_147]; exact Nat.le_of_ble_eq_true rfl) (by rw [mt_147]; exact oDropSwitch_sh o) (by rw [mt_147]; decide) (by rw [rk_147]; decide) (s_147n o K hp hc) (by decide +kernel) ?_
  exact ⟨rfl, rfl⟩

theorem mx_116 : mxl 116 = 2 := by decide +kernel
theorem mt_116 : mtc 116 = 9 := by decide +kernel
theorem rk_116 (as : List AV) : rkA 116 as = 1 := rfl
theorem l_116_0 : look 116 0 = some (.aload_n 0, 1, 0, 0, 0, 0) := by decide +kernel
theorem l_116_1 : look 116 1 = some (.iload_n 1, 1, 0, 0, 0, 0) := by decide +kernel
theorem l_116_2 : look 116 2 = some (.invokevirtual 150, 3, 147, 2, 0, 1069) := by decide +kernel
theorem l_116_5 : look 116 5 = some (.aload_n 0, 1, 0, 0, 0, 0) := by decide +kernel
theorem l_116_6 : look 116 6 = some (.getfield 57, 3, 9, 8, 2, 546) := by decide +kernel
theorem l_116_9 : look 116 9 = some (.getfield 218, 3, 5, 0, 2, 447) := by decide +kernel
theorem l_116_12 : look 116 12 = some (.iload_n 1, 1, 0, 0, 0, 0) := by decide +kernel
theorem l_116_13 : look 116 13 = some (.invokevirtual 219, 3, 10, 2, 0, 1232) := by decide +kernel
theorem l_116_16 : look 116 16 = some (.ifCond .eq 18, 3, 0, 0, 0, 0) := by decide +kernel
theorem l_116_19 : look 116 19 = some (.aload_n 0, 1, 0, 0, 0, 0) := by decide +kernel
theorem l_116_20 : look 116 20 = some (.getfield 57, 3, 9, 8, 2, 546) := by decide +kernel
theorem l_116_23 : look 116 23 = some (.getfield 140, 3, 5, 1, 2, 449) := by decide +kernel
theorem l_116_26 : look 116 26 = some (.getfield 222, 3, 7, 2, 2, 387) := by decide +kernel
theorem l_116_29 : look 116 29 = some (.iload_n 1, 1, 0, 0, 0, 0) := by decide +kernel
theorem l_116_30 : look 116 30 = some (.iaload, 1, 0, 0, 0, 0) := by decide +kernel
theorem l_116_31 : look 116 31 = some (.goto 4, 3, 0, 0, 0, 0) := by decide +kernel
theorem l_116_34 : look 116 34 = some (.iconst (-1), 1, 0, 0, 0, 0) := by decide +kernel
theorem l_116_35 : look 116 35 = some (.ireturn, 1, 0, 0, 0, 0) := by decide +kernel

theorem s_116 (o : oDropSwitch S T s q y) {ne np : Nat} {a : Nat → Nat} (K : KQ I s q h l a ne np) {p : Nat} (hp : p < lPorts l) : CL xs 116 [vr s, vi ((p : Nat) : Int)] (S, I, T, cc, zz) (FN (some (vi (tokI l (runA h l noOut ne).1 p))) (S, I, T, cc, zz)) := by
  have hl4 := K.2.2.2.2.2.2.2.1.1
  have hp4 : p < 4 := by omega
  have hRr := K.2.2.2.1
  cases hpo : lPol l p with
  | none =>
    refine CL_start (r := 1) (ls := [vr s, vi ((p : Nat) : Int)]) (rk_116 _) rfl ?_
    refine w_aln l_116_0 rfl ?_
    refine w_iln l_116_1 rfl ?_
    refine q_iv [vi ((p : Nat) : Int)] [] l_116_2 rfl rfl (Nat.le_of_ble_eq_true rfl) (by rw [mx_147]; exact Nat.le_of_ble_eq_true rfl) (by rw [mt_147]; exact oDropSwitch_sh o) (by rw [mt_147]; decide) (by rw [rk_147]; decide) (s_147 o K hp) ?_
    refine w_aln l_116_5 rfl ?_
    refine w_gr l_116_6 (oDropSwitch_sh o) (oDropSwitch_r8 o) ?_
    refine w_gr l_116_9 (oRun_sh (oDropSwitch_o8 o)) (oRun_r0 (oDropSwitch_o8 o)) ?_
    refine w_iln l_116_12 rfl ?_
    refine q_iv [vi ((p : Nat) : Int)] [] l_116_13 rfl rfl (Nat.le_of_ble_eq_true rfl) (by rw [mx_10]; exact Nat.le_of_ble_eq_true rfl) (by rw [mt_10]; exact oLimits_sh (oRun_o0 (oDropSwitch_o8 o))) (by rw [mt_10]; decide) (by rw [rk_10]; decide) (c_hasPol0 (oDropSwitch_o8 o) K.2.2.2.2.2.1 hp hp4 hpo) ?_
    refine w_zeq 34 l_116_16 (by decide) (fun _ => ?_) (fun hx => absurd hx (by decide))
    refine w_ic l_116_34 (by decide) ?_
    refine w_ir l_116_35 (Or.inl rfl) ?_
    refine ⟨?_, rfl⟩
    rw [show tokI l (runA h l noOut ne).1 p = -1 by unfold tokI; rw [hpo]]
  | some rb =>
    refine CL_start (r := 1) (ls := [vr s, vi ((p : Nat) : Int)]) (rk_116 _) rfl ?_
    refine w_aln l_116_0 rfl ?_
    refine w_iln l_116_1 rfl ?_
    refine q_iv [vi ((p : Nat) : Int)] [] l_116_2 rfl rfl (Nat.le_of_ble_eq_true rfl) (by rw [mx_147]; exact Nat.le_of_ble_eq_true rfl) (by rw [mt_147]; exact oDropSwitch_sh o) (by rw [mt_147]; decide) (by rw [rk_147]; decide) (s_147 o K hp) ?_
    refine w_aln l_116_5 rfl ?_
    refine w_gr l_116_6 (oDropSwitch_sh o) (oDropSwitch_r8 o) ?_
    refine w_gr l_116_9 (oRun_sh (oDropSwitch_o8 o)) (oRun_r0 (oDropSwitch_o8 o)) ?_
    refine w_iln l_116_12 rfl ?_
    refine q_iv [vi ((p : Nat) : Int)] [] l_116_13 rfl rfl (Nat.le_of_ble_eq_true rfl) (by rw [mx_10]; exact Nat.le_of_ble_eq_true rfl) (by rw [mt_10]; exact oLimits_sh (oRun_o0 (oDropSwitch_o8 o))) (by rw [mt_10]; decide) (by rw [rk_10]; decide) (c_hasPol1 (oDropSwitch_o8 o) K.2.2.2.2.2.1 hp hp4 hpo) ?_
    refine w_zeq 34 l_116_16 (by decide) (fun hx => absurd hx (by decide)) (fun _ => ?_)
    refine w_aln l_116_19 rfl ?_
    refine w_gr l_116_20 (oDropSwitch_sh o) (oDropSwitch_r8 o) ?_
    refine w_gr l_116_23 (oRun_sh (oDropSwitch_o8 o)) (oRun_r1 (oDropSwitch_o8 o)) ?_
    refine w_gr l_116_26 (oState_sh (oRun_o1 (oDropSwitch_o8 o))) (oState_r2 (oRun_o1 (oDropSwitch_o8 o))) ?_
    refine w_iln l_116_29 rfl ?_
    refine w_ia p (((sTok (runA h l noOut ne).1 p) : Nat) : Int) l_116_30 (oState_s2 (oRun_o1 (oDropSwitch_o8 o))) rfl (by omega) ((hRr.1.2.2.1 p hp4 (by rw [hpo]; intro q; cases q)).1) ?_
    refine w_go 35 l_116_31 (by decide) ?_
    refine w_ir l_116_35 (Or.inl rfl) ?_
    refine ⟨?_, rfl⟩
    rw [show tokI l (runA h l noOut ne).1 p = ((sTok (runA h l noOut ne).1 p : Nat) : Int) by unfold tokI; rw [hpo]]

theorem s_116n (o : oDropSwitch S T s q y) {ne np : Nat} {a : Nat → Nat} (K : KQ I s q h l a ne np) {p : Int} (hp : ¬ (0 ≤ p ∧ p < ((lPorts l : Nat) : Int))) (hc : 1 ≤ cc ∧ 6 ≤ zz) : CL xs 116 [vr s, vi p] (S, I, T, cc, zz) (TH 0 (S, I, T, cc - 1, zz - 6)) := by
  refine CL_start (r := 1) (ls := [vr s, vi p]) (rk_116 _) rfl ?_
  refine w_aln l_116_0 rfl ?_
  refine w_iln l_116_1 rfl ?_
  refine t_iv [vi p] [] l_116_2 rfl rfl (Nat.le_of_ble_eq_true rfl) (by rw [mx_147]; exact Nat.le_of_ble_eq_true rfl) (by rw [mt_147]; exact oDropSwitch_sh o) (by rw [mt_147]; decide) (by rw [rk_147]; decide) (s_147n o K hp hc) (by decide +kernel) ?_
  exact ⟨rfl, rfl⟩

theorem mx_117 : mxl 117 = 2 := by decide +kernel
theorem mt_117 : mtc 117 = 9 := by decide +kernel
theorem rk_117 (as : List AV) : rkA 117 as = 1 := rfl
theorem l_117_0 : look 117 0 = some (.aload_n 0, 1, 0, 0, 0, 0) := by decide +kernel
theorem l_117_1 : look 117 1 = some (.iload_n 1, 1, 0, 0, 0, 0) := by decide +kernel
theorem l_117_2 : look 117 2 = some (.invokevirtual 153, 3, 153, 2, 0, 1088) := by decide +kernel
theorem l_117_5 : look 117 5 = some (.aload_n 0, 1, 0, 0, 0, 0) := by decide +kernel
theorem l_117_6 : look 117 6 = some (.getfield 57, 3, 9, 8, 2, 546) := by decide +kernel
theorem l_117_9 : look 117 9 = some (.getfield 140, 3, 5, 1, 2, 449) := by decide +kernel
theorem l_117_12 : look 117 12 = some (.iload_n 1, 1, 0, 0, 0, 0) := by decide +kernel
theorem l_117_13 : look 117 13 = some (.aload_n 0, 1, 0, 0, 0, 0) := by decide +kernel
theorem l_117_14 : look 117 14 = some (.getfield 57, 3, 9, 8, 2, 546) := by decide +kernel
theorem l_117_17 : look 117 17 = some (.getfield 218, 3, 5, 0, 2, 447) := by decide +kernel
theorem l_117_20 : look 117 20 = some (.getfield 225, 3, 1, 7, 0, 209) := by decide +kernel
theorem l_117_23 : look 117 23 = some (.invokevirtual 228, 3, 90, 3, 0, 614) := by decide +kernel
theorem l_117_26 : look 117 26 = some (.ireturn, 1, 0, 0, 0, 0) := by decide +kernel

theorem s_117 (o : oDropSwitch S T s q y) {ne np : Nat} {a : Nat → Nat} (K : KQ I s q h l a ne np) {p : Nat} (hp : p < 64) : CL xs 117 [vr s, vi ((p : Nat) : Int)] (S, I, T, cc, zz) (FN (some (vi (ruleI (validA l (runA h l noOut ne).1 p)))) (S, I, T, cc, zz)) := by
  refine CL_start (r := 1) (ls := [vr s, vi ((p : Nat) : Int)]) (rk_117 _) rfl ?_
  have hl4 := K.2.2.2.2.2.2.2.1.1
  have hok := (run_ok K.2.2.2.2.2.2.1 K.2.2.2.2.2.2.2.1 K.2.2.2.2.2.2.2.2.1 (out := noOut) ne (Nat.le_refl ne)).1
  have hRr := K.2.2.2.1
  have hne := K.2.2.1.2.2.1
  have hnp := K.2.2.1.2.2.2.1
  refine w_aln l_117_0 rfl ?_
  refine w_iln l_117_1 rfl ?_
  refine q_iv [vi ((p : Nat) : Int)] [] l_117_2 rfl rfl (Nat.le_of_ble_eq_true rfl) (by rw [mx_153]; exact Nat.le_of_ble_eq_true rfl) (by rw [mt_153]; exact oDropSwitch_sh o) (by rw [mt_153]; decide) (by rw [rk_153]; decide) (s_153 o K hp) ?_
  refine w_aln l_117_5 rfl ?_
  refine w_gr l_117_6 (oDropSwitch_sh o) (oDropSwitch_r8 o) ?_
  refine w_gr l_117_9 (oRun_sh (oDropSwitch_o8 o)) (oRun_r1 (oDropSwitch_o8 o)) ?_
  refine w_iln l_117_12 rfl ?_
  refine w_aln l_117_13 rfl ?_
  refine w_gr l_117_14 (oDropSwitch_sh o) (oDropSwitch_r8 o) ?_
  refine w_gr l_117_17 (oRun_sh (oDropSwitch_o8 o)) (oRun_r0 (oDropSwitch_o8 o)) ?_
  refine w_gi (((lAge l) : Nat) : Int) l_117_20 (oLimits_sh (oRun_o0 (oDropSwitch_o8 o))) K.2.2.2.2.2.1.2.2.2.2.1 ?_
  refine q_iv [vi ((p : Nat) : Int), vi (((lAge l) : Nat) : Int)] [] l_117_23 rfl rfl (Nat.le_of_ble_eq_true rfl) (by rw [mx_90]; exact Nat.le_of_ble_eq_true rfl) (by rw [mt_90]; exact oState_sh (oRun_o1 (oDropSwitch_o8 o))) (by rw [mt_90]; decide) (by rw [rk_90]; decide) (c_wayTo (oDropSwitch_o8 o) hRr hp rfl) ?_
  refine w_ir l_117_26 (Or.inl rfl) ?_
  exact ⟨rfl, rfl⟩

theorem s_117n (o : oDropSwitch S T s q y) {ne np : Nat} {a : Nat → Nat} (K : KQ I s q h l a ne np) {p : Int} (hp : ¬ (0 ≤ p ∧ p ≤ 63)) (hc : 1 ≤ cc ∧ 6 ≤ zz) : CL xs 117 [vr s, vi p] (S, I, T, cc, zz) (TH 1 (S, I, T, cc - 1, zz - 6)) := by
  refine CL_start (r := 1) (ls := [vr s, vi p]) (rk_117 _) rfl ?_
  refine w_aln l_117_0 rfl ?_
  refine w_iln l_117_1 rfl ?_
  refine t_iv [vi p] [] l_117_2 rfl rfl (Nat.le_of_ble_eq_true rfl) (by rw [mx_153]; exact Nat.le_of_ble_eq_true rfl) (by rw [mt_153]; exact oDropSwitch_sh o) (by rw [mt_153]; decide) (by rw [rk_153]; decide) (s_153n o K hp hc) (by decide +kernel) ?_
  exact ⟨rfl, rfl⟩

theorem mx_118 : mxl 118 = 3 := by decide +kernel
theorem mt_118 : mtc 118 = 9 := by decide +kernel
theorem rk_118 (as : List AV) : rkA 118 as = 1 := rfl
theorem l_118_0 : look 118 0 = some (.iconst 0, 1, 0, 0, 0, 0) := by decide +kernel
theorem l_118_1 : look 118 1 = some (.istore_n 1, 1, 0, 0, 0, 0) := by decide +kernel
theorem l_118_2 : look 118 2 = some (.iconst 0, 1, 0, 0, 0, 0) := by decide +kernel
theorem l_118_3 : look 118 3 = some (.istore_n 2, 1, 0, 0, 0, 0) := by decide +kernel
theorem l_118_4 : look 118 4 = some (.iload_n 2, 1, 0, 0, 0, 0) := by decide +kernel
theorem l_118_5 : look 118 5 = some (.bipush 64, 2, 0, 0, 0, 0) := by decide +kernel
theorem l_118_7 : look 118 7 = some (.if_icmp .ge 37, 3, 0, 0, 0, 0) := by decide +kernel
theorem l_118_10 : look 118 10 = some (.aload_n 0, 1, 0, 0, 0, 0) := by decide +kernel
theorem l_118_11 : look 118 11 = some (.getfield 57, 3, 9, 8, 2, 546) := by decide +kernel
theorem l_118_14 : look 118 14 = some (.getfield 140, 3, 5, 1, 2, 449) := by decide +kernel
theorem l_118_17 : look 118 17 = some (.iload_n 2, 1, 0, 0, 0, 0) := by decide +kernel
theorem l_118_18 : look 118 18 = some (.aload_n 0, 1, 0, 0, 0, 0) := by decide +kernel
theorem l_118_19 : look 118 19 = some (.getfield 57, 3, 9, 8, 2, 546) := by decide +kernel
theorem l_118_22 : look 118 22 = some (.getfield 218, 3, 5, 0, 2, 447) := by decide +kernel
theorem l_118_25 : look 118 25 = some (.getfield 225, 3, 1, 7, 0, 209) := by decide +kernel
theorem l_118_28 : look 118 28 = some (.invokevirtual 228, 3, 90, 3, 0, 614) := by decide +kernel
theorem l_118_31 : look 118 31 = some (.iconst (-1), 1, 0, 0, 0, 0) := by decide +kernel
theorem l_118_32 : look 118 32 = some (.if_icmp .eq 6, 3, 0, 0, 0, 0) := by decide +kernel
theorem l_118_35 : look 118 35 = some (.iinc 1 1, 3, 0, 0, 0, 0) := by decide +kernel
theorem l_118_38 : look 118 38 = some (.iinc 2 1, 3, 0, 0, 0, 0) := by decide +kernel
theorem l_118_41 : look 118 41 = some (.goto (-37), 3, 0, 0, 0, 0) := by decide +kernel
theorem l_118_44 : look 118 44 = some (.iload_n 1, 1, 0, 0, 0, 0) := by decide +kernel
theorem l_118_45 : look 118 45 = some (.ireturn, 1, 0, 0, 0, 0) := by decide +kernel

theorem lp_118 (o : oDropSwitch S T s q y) {ne np : Nat} {a : Nat → Nat} (K : KQ I s q h l a ne np) : ∀ d k, k + d = 64 → WP xs 118 1 4 [vr s, vi (((cntV l (runA h l noOut ne).1 k) : Nat) : Int), vi ((k : Nat) : Int)] [] (S, I, T, cc, zz) (FN (some (vi ((cntV l (runA h l noOut ne).1 64 : Nat) : Int))) (S, I, T, cc, zz)) := by
  intro d
  have hRr := K.2.2.2.1
  induction d with
  | zero =>
    intro k hk
    refine w_iln l_118_4 rfl ?_
    refine w_bp l_118_5 (by decide) ?_
    refine w_cge 44 l_118_7 (by decide) (fun _ => ?_) (fun hx => absurd hx (by omega))
    refine w_iln l_118_44 rfl ?_
    refine w_ir l_118_45 (Or.inl rfl) ?_
    have e9 : k = 64 := by omega
    rw [e9]
    exact ⟨rfl, rfl⟩
  | succ d ih =>
    intro k hk
    have hcl := cntV_le (l := l) (A := (runA h l noOut ne).1) k
    refine w_iln l_118_4 rfl ?_
    refine w_bp l_118_5 (by decide) ?_
    refine w_cge 44 l_118_7 (by decide) (fun hx => absurd hx (by omega)) (fun _ => ?_)
    refine w_aln l_118_10 rfl ?_
    refine w_gr l_118_11 (oDropSwitch_sh o) (oDropSwitch_r8 o) ?_
    refine w_gr l_118_14 (oRun_sh (oDropSwitch_o8 o)) (oRun_r1 (oDropSwitch_o8 o)) ?_
    refine w_iln l_118_17 rfl ?_
    refine w_aln l_118_18 rfl ?_
    refine w_gr l_118_19 (oDropSwitch_sh o) (oDropSwitch_r8 o) ?_
    refine w_gr l_118_22 (oRun_sh (oDropSwitch_o8 o)) (oRun_r0 (oDropSwitch_o8 o)) ?_
    refine w_gi (((lAge l) : Nat) : Int) l_118_25 (oLimits_sh (oRun_o0 (oDropSwitch_o8 o))) K.2.2.2.2.2.1.2.2.2.2.1 ?_
    refine q_iv [vi ((k : Nat) : Int), vi (((lAge l) : Nat) : Int)] [] l_118_28 rfl rfl (Nat.le_of_ble_eq_true rfl) (by rw [mx_90]; exact Nat.le_of_ble_eq_true rfl) (by rw [mt_90]; exact oState_sh (oRun_o1 (oDropSwitch_o8 o))) (by rw [mt_90]; decide) (by rw [rk_90]; decide) (c_wayTo (oDropSwitch_o8 o) hRr (by omega) rfl) ?_
    refine w_ic l_118_31 (by decide) ?_
    refine w_ceq 38 l_118_32 (by decide) (fun h1 => ?_) (fun h1 => ?_)
    · skip
      refine w_inc ((k + 1 : Nat) : Int) l_118_38 rfl rfl (by unfold wr; omega) ?_
      refine w_go 4 l_118_41 (by decide) ?_
      have hf : (validA l (runA h l noOut ne).1 k).isSome = false := by
        cases hv : validA l (runA h l noOut ne).1 k
        · rfl
        · rw [hv] at h1; have h9 : ((_ : Nat) : Int) = -1 := h1; omega
      have e9 := ih (k + 1) (by omega)
      rw [cntV_f hf] at e9
      exact e9
    · skip
      refine w_inc (((cntV l (runA h l noOut ne).1 k) + 1 : Nat) : Int) l_118_35 rfl rfl (by unfold wr; omega) ?_
      refine w_inc ((k + 1 : Nat) : Int) l_118_38 rfl rfl (by unfold wr; omega) ?_
      refine w_go 4 l_118_41 (by decide) ?_
      have hf : (validA l (runA h l noOut ne).1 k).isSome = true := by
        cases hv : validA l (runA h l noOut ne).1 k
        · rw [hv] at h1; exact absurd rfl h1
        · rfl
      have e9 := ih (k + 1) (by omega)
      rw [cntV_t hf] at e9
      exact e9
theorem s_118 (o : oDropSwitch S T s q y) {ne np : Nat} {a : Nat → Nat} (K : KQ I s q h l a ne np) : CL xs 118 [vr s] (S, I, T, cc, zz) (FN (some (vi ((cntV l (runA h l noOut ne).1 64 : Nat) : Int))) (S, I, T, cc, zz)) := by
  refine CL_start (r := 1) (ls := [vr s, vs 2, vs 2]) (rk_118 _) rfl ?_
  refine w_ic l_118_0 (by decide) ?_
  refine w_isn l_118_1 ⟨Nat.le_of_ble_eq_true rfl, rfl⟩ ?_
  refine w_ic l_118_2 (by decide) ?_
  refine w_isn l_118_3 ⟨Nat.le_of_ble_eq_true rfl, rfl⟩ ?_
  exact lp_118 o K 64 0 rfl

theorem mx_120 : mxl 120 = 3 := by decide +kernel
theorem mt_120 : mtc 120 = 9 := by decide +kernel
theorem rk_120 (as : List AV) : rkA 120 as = 1 := rfl
theorem l_120_0 : look 120 0 = some (.aload_n 0, 1, 0, 0, 0, 0) := by decide +kernel
theorem l_120_1 : look 120 1 = some (.iload_n 1, 1, 0, 0, 0, 0) := by decide +kernel
theorem l_120_2 : look 120 2 = some (.invokevirtual 199, 3, 151, 2, 0, 1191) := by decide +kernel
theorem l_120_5 : look 120 5 = some (.aload_n 0, 1, 0, 0, 0, 0) := by decide +kernel
theorem l_120_6 : look 120 6 = some (.iload_n 2, 1, 0, 0, 0, 0) := by decide +kernel
theorem l_120_7 : look 120 7 = some (.invokevirtual 150, 3, 147, 2, 0, 1069) := by decide +kernel
theorem l_120_10 : look 120 10 = some (.aload_n 0, 1, 0, 0, 0, 0) := by decide +kernel
theorem l_120_11 : look 120 11 = some (.getfield 57, 3, 9, 8, 2, 546) := by decide +kernel
theorem l_120_14 : look 120 14 = some (.getfield 131, 3, 5, 2, 2, 451) := by decide +kernel
theorem l_120_17 : look 120 17 = some (.iload_n 1, 1, 0, 0, 0, 0) := by decide +kernel
theorem l_120_18 : look 120 18 = some (.iload_n 2, 1, 0, 0, 0, 0) := by decide +kernel
theorem l_120_19 : look 120 19 = some (.invokevirtual 234, 3, 22, 3, 0, 1254) := by decide +kernel
theorem l_120_22 : look 120 22 = some (.ireturn, 1, 0, 0, 0, 0) := by decide +kernel

theorem s_120 (o : oDropSwitch S T s q y) {ne np : Nat} {a : Nat → Nat} (K : KQ I s q h l a ne np) {k p : Nat} (hk : k < np) (hp : p < lPorts l) : CL xs 120 [vr s, vi ((k : Nat) : Int), vi ((p : Nat) : Int)] (S, I, T, cc, zz) (FN (some (vi (((runA h l noOut ne).2.2.1 k (p + 1) : Nat) : Int))) (S, I, T, cc, zz)) := by
  refine CL_start (r := 1) (ls := [vr s, vi ((k : Nat) : Int), vi ((p : Nat) : Int)]) (rk_120 _) rfl ?_
  have hl4 := K.2.2.2.2.2.2.2.1.1
  have hok := (run_ok K.2.2.2.2.2.2.1 K.2.2.2.2.2.2.2.1 K.2.2.2.2.2.2.2.2.1 (out := noOut) ne (Nat.le_refl ne)).1
  have hRr := K.2.2.2.1
  have hne := K.2.2.1.2.2.1
  have hnp := K.2.2.1.2.2.2.1
  have hp4 : p < 4 := by omega
  refine w_aln l_120_0 rfl ?_
  refine w_iln l_120_1 rfl ?_
  refine q_iv [vi ((k : Nat) : Int)] [] l_120_2 rfl rfl (Nat.le_of_ble_eq_true rfl) (by rw [mx_151]; exact Nat.le_of_ble_eq_true rfl) (by rw [mt_151]; exact oDropSwitch_sh o) (by rw [mt_151]; decide) (by rw [rk_151]; decide) (s_151 o K hk) ?_
  refine w_aln l_120_5 rfl ?_
  refine w_iln l_120_6 rfl ?_
  refine q_iv [vi ((p : Nat) : Int)] [] l_120_7 rfl rfl (Nat.le_of_ble_eq_true rfl) (by rw [mx_147]; exact Nat.le_of_ble_eq_true rfl) (by rw [mt_147]; exact oDropSwitch_sh o) (by rw [mt_147]; decide) (by rw [rk_147]; decide) (s_147 o K hp) ?_
  refine w_aln l_120_10 rfl ?_
  refine w_gr l_120_11 (oDropSwitch_sh o) (oDropSwitch_r8 o) ?_
  refine w_gr l_120_14 (oRun_sh (oDropSwitch_o8 o)) (oRun_r2 (oDropSwitch_o8 o)) ?_
  refine w_iln l_120_17 rfl ?_
  refine w_iln l_120_18 rfl ?_
  refine q_iv [vi ((k : Nat) : Int), vi ((p : Nat) : Int)] [] l_120_19 rfl rfl (Nat.le_of_ble_eq_true rfl) (by rw [mx_22]; exact Nat.le_of_ble_eq_true rfl) (by rw [mt_22]; exact oLog_sh (oRun_o2 (oDropSwitch_o8 o))) (by rw [mt_22]; decide) (by rw [rk_22]; decide) (t_fate (oRun_o2 (oDropSwitch_o8 o)) hRr.2 (P := ((p : Nat) : Int)) (by omega) (by omega)) ?_
  refine w_ir l_120_22 (Or.inl rfl) ?_
  exact ⟨rfl, rfl⟩

theorem s_120n (o : oDropSwitch S T s q y) {ne np : Nat} {a : Nat → Nat} (K : KQ I s q h l a ne np) {k p : Int} (hk : ¬ (0 ≤ k ∧ k < ((np : Nat) : Int))) (hc : 1 ≤ cc ∧ 6 ≤ zz) : CL xs 120 [vr s, vi k, vi p] (S, I, T, cc, zz) (TH 0 (S, I, T, cc - 1, zz - 6)) := by
  refine CL_start (r := 1) (ls := [vr s, vi k, vi p]) (rk_120 _) rfl ?_
  refine w_aln l_120_0 rfl ?_
  refine w_iln l_120_1 rfl ?_
  refine t_iv [vi k] [] l_120_2 rfl rfl (Nat.le_of_ble_eq_true rfl) (by rw [mx_151]; exact Nat.le_of_ble_eq_true rfl) (by rw [mt_151]; exact oDropSwitch_sh o) (by rw [mt_151]; decide) (by rw [rk_151]; decide) (s_151n o K hk hc) (by decide +kernel) ?_
  exact ⟨rfl, rfl⟩

theorem s_120o (o : oDropSwitch S T s q y) {ne np : Nat} {a : Nat → Nat} (K : KQ I s q h l a ne np) {k : Nat} {p : Int} (hk : k < np) (hp : ¬ (0 ≤ p ∧ p < ((lPorts l : Nat) : Int))) (hc : 1 ≤ cc ∧ 6 ≤ zz) : CL xs 120 [vr s, vi ((k : Nat) : Int), vi p] (S, I, T, cc, zz) (TH 0 (S, I, T, cc - 1, zz - 6)) := by
  refine CL_start (r := 1) (ls := [vr s, vi ((k : Nat) : Int), vi p]) (rk_120 _) rfl ?_
  refine w_aln l_120_0 rfl ?_
  refine w_iln l_120_1 rfl ?_
  refine q_iv [vi ((k : Nat) : Int)] [] l_120_2 rfl rfl (Nat.le_of_ble_eq_true rfl) (by rw [mx_151]; exact Nat.le_of_ble_eq_true rfl) (by rw [mt_151]; exact oDropSwitch_sh o) (by rw [mt_151]; decide) (by rw [rk_151]; decide) (s_151 o K hk) ?_
  refine w_aln l_120_5 rfl ?_
  refine w_iln l_120_6 rfl ?_
  refine t_iv [vi p] [] l_120_7 rfl rfl (Nat.le_of_ble_eq_true rfl) (by rw [mx_147]; exact Nat.le_of_ble_eq_true rfl) (by rw [mt_147]; exact oDropSwitch_sh o) (by rw [mt_147]; decide) (by rw [rk_147]; decide) (s_147n o K hp hc) (by decide +kernel) ?_
  exact ⟨rfl, rfl⟩

theorem mx_123 : mxl 123 = 2 := by decide +kernel
theorem mt_123 : mtc 123 = 9 := by decide +kernel
theorem rk_123 (as : List AV) : rkA 123 as = 2 := rfl
theorem l_123_0 : look 123 0 = some (.aload_n 0, 1, 0, 0, 0, 0) := by decide +kernel
theorem l_123_1 : look 123 1 = some (.iload_n 1, 1, 0, 0, 0, 0) := by decide +kernel
theorem l_123_2 : look 123 2 = some (.invokevirtual 243, 3, 154, 2, 0, 1281) := by decide +kernel
theorem l_123_5 : look 123 5 = some (.aload_n 0, 1, 0, 0, 0, 0) := by decide +kernel
theorem l_123_6 : look 123 6 = some (.getfield 57, 3, 9, 8, 2, 546) := by decide +kernel
theorem l_123_9 : look 123 9 = some (.getfield 131, 3, 5, 2, 2, 451) := by decide +kernel
theorem l_123_12 : look 123 12 = some (.iload_n 1, 1, 0, 0, 0, 0) := by decide +kernel
theorem l_123_13 : look 123 13 = some (.invokevirtual 246, 3, 25, 2, 0, 1285) := by decide +kernel
theorem l_123_16 : look 123 16 = some (.ireturn, 1, 0, 0, 0, 0) := by decide +kernel

theorem s_123 (o : oDropSwitch S T s q y) {ne np : Nat} {a : Nat → Nat} (K : KQ I s q h l a ne np) {p : Nat} (hp : 1 ≤ p ∧ p ≤ 10) : CL xs 123 [vr s, vi ((p : Nat) : Int)] (S, I, T, cc, zz) (FN (some (vi ((cntK (isBy ((p : Nat) : Int)) (runA h l noOut ne).2.1 (runA h l noOut ne).2.1.length : Nat) : Int))) (S, I, T, cc, zz)) := by
  refine CL_start (r := 2) (ls := [vr s, vi ((p : Nat) : Int)]) (rk_123 _) rfl ?_
  have hl4 := K.2.2.2.2.2.2.2.1.1
  have hok := (run_ok K.2.2.2.2.2.2.1 K.2.2.2.2.2.2.2.1 K.2.2.2.2.2.2.2.2.1 (out := noOut) ne (Nat.le_refl ne)).1
  have hRr := K.2.2.2.1
  have hne := K.2.2.1.2.2.1
  have hnp := K.2.2.1.2.2.2.1
  refine w_aln l_123_0 rfl ?_
  refine w_iln l_123_1 rfl ?_
  refine q_iv [vi ((p : Nat) : Int)] [] l_123_2 rfl rfl (Nat.le_of_ble_eq_true rfl) (by rw [mx_154]; exact Nat.le_of_ble_eq_true rfl) (by rw [mt_154]; exact oDropSwitch_sh o) (by rw [mt_154]; decide) (by rw [rk_154]; decide) (s_154 o K hp) ?_
  refine w_aln l_123_5 rfl ?_
  refine w_gr l_123_6 (oDropSwitch_sh o) (oDropSwitch_r8 o) ?_
  refine w_gr l_123_9 (oRun_sh (oDropSwitch_o8 o)) (oRun_r2 (oDropSwitch_o8 o)) ?_
  refine w_iln l_123_12 rfl ?_
  refine q_iv [vi ((p : Nat) : Int)] [] l_123_13 rfl rfl (Nat.le_of_ble_eq_true rfl) (by rw [mx_25]; exact Nat.le_of_ble_eq_true rfl) (by rw [mt_25]; exact oLog_sh (oRun_o2 (oDropSwitch_o8 o))) (by rw [mt_25]; decide) (by rw [rk_25]; decide) (s_25 (oRun_o2 (oDropSwitch_o8 o)) hRr.2) ?_
  refine w_ir l_123_16 (Or.inl rfl) ?_
  exact ⟨rfl, rfl⟩

theorem s_123n (o : oDropSwitch S T s q y) {ne np : Nat} {a : Nat → Nat} (K : KQ I s q h l a ne np) {p : Int} (hp : ¬ (1 ≤ p ∧ p ≤ 10)) (hc : 1 ≤ cc ∧ 6 ≤ zz) : CL xs 123 [vr s, vi p] (S, I, T, cc, zz) (TH 1 (S, I, T, cc - 1, zz - 6)) := by
  refine CL_start (r := 2) (ls := [vr s, vi p]) (rk_123 _) rfl ?_
  refine w_aln l_123_0 rfl ?_
  refine w_iln l_123_1 rfl ?_
  refine t_iv [vi p] [] l_123_2 rfl rfl (Nat.le_of_ble_eq_true rfl) (by rw [mx_154]; exact Nat.le_of_ble_eq_true rfl) (by rw [mt_154]; exact oDropSwitch_sh o) (by rw [mt_154]; decide) (by rw [rk_154]; decide) (s_154n o K hp hc) (by decide +kernel) ?_
  exact ⟨rfl, rfl⟩

theorem mx_124 : mxl 124 = 2 := by decide +kernel
theorem mt_124 : mtc 124 = 9 := by decide +kernel
theorem rk_124 (as : List AV) : rkA 124 as = 2 := rfl
theorem l_124_0 : look 124 0 = some (.aload_n 0, 1, 0, 0, 0, 0) := by decide +kernel
theorem l_124_1 : look 124 1 = some (.iload_n 1, 1, 0, 0, 0, 0) := by decide +kernel
theorem l_124_2 : look 124 2 = some (.invokevirtual 249, 3, 148, 2, 0, 1296) := by decide +kernel
theorem l_124_5 : look 124 5 = some (.aload_n 0, 1, 0, 0, 0, 0) := by decide +kernel
theorem l_124_6 : look 124 6 = some (.getfield 57, 3, 9, 8, 2, 546) := by decide +kernel
theorem l_124_9 : look 124 9 = some (.getfield 131, 3, 5, 2, 2, 451) := by decide +kernel
theorem l_124_12 : look 124 12 = some (.iconst 2, 1, 0, 0, 0, 0) := by decide +kernel
theorem l_124_13 : look 124 13 = some (.iload_n 1, 1, 0, 0, 0, 0) := by decide +kernel
theorem l_124_14 : look 124 14 = some (.invokevirtual 252, 3, 26, 3, 0, 1300) := by decide +kernel
theorem l_124_17 : look 124 17 = some (.ireturn, 1, 0, 0, 0, 0) := by decide +kernel

theorem s_124 (o : oDropSwitch S T s q y) {ne np : Nat} {a : Nat → Nat} (K : KQ I s q h l a ne np) {p : Nat} (hp : p < lRules l) : CL xs 124 [vr s, vi ((p : Nat) : Int)] (S, I, T, cc, zz) (FN (some (vi ((cntK (isByD 2 ((p : Nat) : Int)) (runA h l noOut ne).2.1 (runA h l noOut ne).2.1.length : Nat) : Int))) (S, I, T, cc, zz)) := by
  refine CL_start (r := 2) (ls := [vr s, vi ((p : Nat) : Int)]) (rk_124 _) rfl ?_
  have hl4 := K.2.2.2.2.2.2.2.1.1
  have hok := (run_ok K.2.2.2.2.2.2.1 K.2.2.2.2.2.2.2.1 K.2.2.2.2.2.2.2.2.1 (out := noOut) ne (Nat.le_refl ne)).1
  have hRr := K.2.2.2.1
  have hne := K.2.2.1.2.2.1
  have hnp := K.2.2.1.2.2.2.1
  refine w_aln l_124_0 rfl ?_
  refine w_iln l_124_1 rfl ?_
  refine q_iv [vi ((p : Nat) : Int)] [] l_124_2 rfl rfl (Nat.le_of_ble_eq_true rfl) (by rw [mx_148]; exact Nat.le_of_ble_eq_true rfl) (by rw [mt_148]; exact oDropSwitch_sh o) (by rw [mt_148]; decide) (by rw [rk_148]; decide) (s_148 o K hp) ?_
  refine w_aln l_124_5 rfl ?_
  refine w_gr l_124_6 (oDropSwitch_sh o) (oDropSwitch_r8 o) ?_
  refine w_gr l_124_9 (oRun_sh (oDropSwitch_o8 o)) (oRun_r2 (oDropSwitch_o8 o)) ?_
  refine w_ic l_124_12 (by decide) ?_
  refine w_iln l_124_13 rfl ?_
  refine q_iv [vi 2, vi ((p : Nat) : Int)] [] l_124_14 rfl rfl (Nat.le_of_ble_eq_true rfl) (by rw [mx_26]; exact Nat.le_of_ble_eq_true rfl) (by rw [mt_26]; exact oLog_sh (oRun_o2 (oDropSwitch_o8 o))) (by rw [mt_26]; decide) (by rw [rk_26]; decide) (s_26 (oRun_o2 (oDropSwitch_o8 o)) hRr.2) ?_
  refine w_ir l_124_17 (Or.inl rfl) ?_
  exact ⟨rfl, rfl⟩

theorem s_124n (o : oDropSwitch S T s q y) {ne np : Nat} {a : Nat → Nat} (K : KQ I s q h l a ne np) {p : Int} (hp : ¬ (0 ≤ p ∧ p < ((lRules l : Nat) : Int))) (hc : 1 ≤ cc ∧ 6 ≤ zz) : CL xs 124 [vr s, vi p] (S, I, T, cc, zz) (TH 0 (S, I, T, cc - 1, zz - 6)) := by
  refine CL_start (r := 2) (ls := [vr s, vi p]) (rk_124 _) rfl ?_
  refine w_aln l_124_0 rfl ?_
  refine w_iln l_124_1 rfl ?_
  refine t_iv [vi p] [] l_124_2 rfl rfl (Nat.le_of_ble_eq_true rfl) (by rw [mx_148]; exact Nat.le_of_ble_eq_true rfl) (by rw [mt_148]; exact oDropSwitch_sh o) (by rw [mt_148]; decide) (by rw [rk_148]; decide) (s_148n o K hp hc) (by decide +kernel) ?_
  exact ⟨rfl, rfl⟩

theorem mx_125 : mxl 125 = 2 := by decide +kernel
theorem mt_125 : mtc 125 = 9 := by decide +kernel
theorem rk_125 (as : List AV) : rkA 125 as = 2 := rfl
theorem l_125_0 : look 125 0 = some (.aload_n 0, 1, 0, 0, 0, 0) := by decide +kernel
theorem l_125_1 : look 125 1 = some (.iload_n 1, 1, 0, 0, 0, 0) := by decide +kernel
theorem l_125_2 : look 125 2 = some (.invokevirtual 199, 3, 151, 2, 0, 1191) := by decide +kernel
theorem l_125_5 : look 125 5 = some (.aload_n 0, 1, 0, 0, 0, 0) := by decide +kernel
theorem l_125_6 : look 125 6 = some (.getfield 57, 3, 9, 8, 2, 546) := by decide +kernel
theorem l_125_9 : look 125 9 = some (.getfield 131, 3, 5, 2, 2, 451) := by decide +kernel
theorem l_125_12 : look 125 12 = some (.bipush 8, 2, 0, 0, 0, 0) := by decide +kernel
theorem l_125_14 : look 125 14 = some (.iload_n 1, 1, 0, 0, 0, 0) := by decide +kernel
theorem l_125_15 : look 125 15 = some (.invokevirtual 252, 3, 26, 3, 0, 1300) := by decide +kernel
theorem l_125_18 : look 125 18 = some (.ireturn, 1, 0, 0, 0, 0) := by decide +kernel

theorem s_125 (o : oDropSwitch S T s q y) {ne np : Nat} {a : Nat → Nat} (K : KQ I s q h l a ne np) {p : Nat} (hp : p < np) : CL xs 125 [vr s, vi ((p : Nat) : Int)] (S, I, T, cc, zz) (FN (some (vi ((cntK (isByD 8 ((p : Nat) : Int)) (runA h l noOut ne).2.1 (runA h l noOut ne).2.1.length : Nat) : Int))) (S, I, T, cc, zz)) := by
  refine CL_start (r := 2) (ls := [vr s, vi ((p : Nat) : Int)]) (rk_125 _) rfl ?_
  have hl4 := K.2.2.2.2.2.2.2.1.1
  have hok := (run_ok K.2.2.2.2.2.2.1 K.2.2.2.2.2.2.2.1 K.2.2.2.2.2.2.2.2.1 (out := noOut) ne (Nat.le_refl ne)).1
  have hRr := K.2.2.2.1
  have hne := K.2.2.1.2.2.1
  have hnp := K.2.2.1.2.2.2.1
  refine w_aln l_125_0 rfl ?_
  refine w_iln l_125_1 rfl ?_
  refine q_iv [vi ((p : Nat) : Int)] [] l_125_2 rfl rfl (Nat.le_of_ble_eq_true rfl) (by rw [mx_151]; exact Nat.le_of_ble_eq_true rfl) (by rw [mt_151]; exact oDropSwitch_sh o) (by rw [mt_151]; decide) (by rw [rk_151]; decide) (s_151 o K hp) ?_
  refine w_aln l_125_5 rfl ?_
  refine w_gr l_125_6 (oDropSwitch_sh o) (oDropSwitch_r8 o) ?_
  refine w_gr l_125_9 (oRun_sh (oDropSwitch_o8 o)) (oRun_r2 (oDropSwitch_o8 o)) ?_
  refine w_bp l_125_12 (by decide) ?_
  refine w_iln l_125_14 rfl ?_
  refine q_iv [vi 8, vi ((p : Nat) : Int)] [] l_125_15 rfl rfl (Nat.le_of_ble_eq_true rfl) (by rw [mx_26]; exact Nat.le_of_ble_eq_true rfl) (by rw [mt_26]; exact oLog_sh (oRun_o2 (oDropSwitch_o8 o))) (by rw [mt_26]; decide) (by rw [rk_26]; decide) (s_26 (oRun_o2 (oDropSwitch_o8 o)) hRr.2) ?_
  refine w_ir l_125_18 (Or.inl rfl) ?_
  exact ⟨rfl, rfl⟩

theorem s_125n (o : oDropSwitch S T s q y) {ne np : Nat} {a : Nat → Nat} (K : KQ I s q h l a ne np) {p : Int} (hp : ¬ (0 ≤ p ∧ p < ((np : Nat) : Int))) (hc : 1 ≤ cc ∧ 6 ≤ zz) : CL xs 125 [vr s, vi p] (S, I, T, cc, zz) (TH 0 (S, I, T, cc - 1, zz - 6)) := by
  refine CL_start (r := 2) (ls := [vr s, vi p]) (rk_125 _) rfl ?_
  refine w_aln l_125_0 rfl ?_
  refine w_iln l_125_1 rfl ?_
  refine t_iv [vi p] [] l_125_2 rfl rfl (Nat.le_of_ble_eq_true rfl) (by rw [mx_151]; exact Nat.le_of_ble_eq_true rfl) (by rw [mt_151]; exact oDropSwitch_sh o) (by rw [mt_151]; decide) (by rw [rk_151]; decide) (s_151n o K hp hc) (by decide +kernel) ?_
  exact ⟨rfl, rfl⟩

end KQT
