/-! the class: answers, 2 -/
section KQT
variable {xs : List Int} {S : List (Nat × Nat)} {T : Nat → Nat → Nat} {cc zz s q y : Nat} {h : Hi} {l : Li} {I I' : Ix}

theorem mx_114 : mxl 114 = 3 := by decide +kernel
theorem mt_114 : mtc 114 = 9 := by decide +kernel
theorem rk_114 (as : List AV) : rkA 114 as = 1 := rfl
theorem l_114_0 : look 114 0 = some (.aload_n 0, 1, 0, 0, 0, 0) := by decide +kernel
theorem l_114_1 : look 114 1 = some (.iload_n 1, 1, 0, 0, 0, 0) := by decide +kernel
theorem l_114_2 : look 114 2 = some (.invokevirtual 150, 3, 147, 2, 0, 179) := by decide +kernel
theorem l_114_5 : look 114 5 = some (.aload_n 0, 1, 0, 0, 0, 0) := by decide +kernel
theorem l_114_6 : look 114 6 = some (.getfield 57, 3, 9, 8, 2, 732) := by decide +kernel
theorem l_114_9 : look 114 9 = some (.getfield 140, 3, 5, 1, 2, 637) := by decide +kernel
theorem l_114_12 : look 114 12 = some (.iload_n 1, 1, 0, 0, 0, 0) := by decide +kernel
theorem l_114_13 : look 114 13 = some (.iload_n 2, 1, 0, 0, 0, 0) := by decide +kernel
theorem l_114_14 : look 114 14 = some (.invokevirtual 211, 3, 84, 3, 0, 191) := by decide +kernel
theorem l_114_17 : look 114 17 = some (.ireturn, 1, 0, 0, 0, 0) := by decide +kernel
theorem s_114 (o : oDropSwitch S T s q y) {ne np : Nat} {a : Nat → Nat} (K : KQ I s q h l a ne np) {p k : Nat} (hp : p < lPorts l) (hk : k < (sQ (runA h l noOut ne).1 p).length) : CL xs 114 [vr s, vi ((p : Nat) : Int), vi ((k : Nat) : Int)] (S, I, T, cc, zz) (FN (some (vi (((sQ (runA h l noOut ne).1 p).getD k (0, 0)).1 : Int))) (S, I, T, cc, zz)) := by
  refine CL_start (r := 1) (ls := [vr s, vi ((p : Nat) : Int), vi ((k : Nat) : Int)]) (rk_114 _) rfl ?_
  have hl4 := K.2.2.2.2.2.2.2.1.1
  have hok := (run_ok K.2.2.2.2.2.2.1 K.2.2.2.2.2.2.2.1 K.2.2.2.2.2.2.2.2.1 (out := noOut) ne (Nat.le_refl ne)).1
  have hRr := K.2.2.2.1
  have hne := K.2.2.1.2.2.1
  have hnp := K.2.2.1.2.2.2.1
  have hp4 : p < 4 := by omega
  refine w_aln l_114_0 rfl ?_
  refine w_iln l_114_1 rfl ?_
  refine q_iv [vi ((p : Nat) : Int)] [] l_114_2 rfl rfl (Nat.le_of_ble_eq_true rfl) (by rw [mx_147]; exact Nat.le_of_ble_eq_true rfl) (by rw [mt_147]; exact oDropSwitch_sh o) (by rw [mt_147]; decide) (by rw [rk_147]; decide) (s_147 o K hp) ?_
  refine w_aln l_114_5 rfl ?_
  refine w_gr l_114_6 (oDropSwitch_sh o) (oDropSwitch_r8 o) ?_
  refine w_gr l_114_9 (oRun_sh (oDropSwitch_o8 o)) (oRun_r1 (oDropSwitch_o8 o)) ?_
  refine w_iln l_114_12 rfl ?_
  refine w_iln l_114_13 rfl ?_
  refine q_iv [vi ((p : Nat) : Int), vi ((k : Nat) : Int)] [] l_114_14 rfl rfl (Nat.le_of_ble_eq_true rfl) (by rw [mx_84]; exact Nat.le_of_ble_eq_true rfl) (by rw [mt_84]; exact oState_sh (oRun_o1 (oDropSwitch_o8 o))) (by rw [mt_84]; decide) (by rw [rk_84]; decide) (t_packetAt (oRun_o1 (oDropSwitch_o8 o)) hRr.1 hp4 hk) ?_
  refine w_ir l_114_17 (Or.inl rfl) ?_
  exact ⟨rfl, rfl⟩


theorem s_114o (o : oDropSwitch S T s q y) {ne np : Nat} {a : Nat → Nat} (K : KQ I s q h l a ne np) {p : Nat} {k : Int} (hp : p < lPorts l) (hk : ¬ (0 ≤ k ∧ k < (((sQ (runA h l noOut ne).1 p).length : Nat) : Int))) : CL xs 114 [vr s, vi ((p : Nat) : Int), vi k] (S, I, T, cc, zz) (FN (some (vi (-1))) (S, I, T, cc, zz)) := by
  refine CL_start (r := 1) (ls := [vr s, vi ((p : Nat) : Int), vi k]) (rk_114 _) rfl ?_
  have hl4 := K.2.2.2.2.2.2.2.1.1
  have hok := (run_ok K.2.2.2.2.2.2.1 K.2.2.2.2.2.2.2.1 K.2.2.2.2.2.2.2.2.1 (out := noOut) ne (Nat.le_refl ne)).1
  have hRr := K.2.2.2.1
  have hne := K.2.2.1.2.2.1
  have hnp := K.2.2.1.2.2.2.1
  have hp4 : p < 4 := by omega
  refine w_aln l_114_0 rfl ?_
  refine w_iln l_114_1 rfl ?_
  refine q_iv [vi ((p : Nat) : Int)] [] l_114_2 rfl rfl (Nat.le_of_ble_eq_true rfl) (by rw [mx_147]; exact Nat.le_of_ble_eq_true rfl) (by rw [mt_147]; exact oDropSwitch_sh o) (by rw [mt_147]; decide) (by rw [rk_147]; decide) (s_147 o K hp) ?_
  refine w_aln l_114_5 rfl ?_
  refine w_gr l_114_6 (oDropSwitch_sh o) (oDropSwitch_r8 o) ?_
  refine w_gr l_114_9 (oRun_sh (oDropSwitch_o8 o)) (oRun_r1 (oDropSwitch_o8 o)) ?_
  refine w_iln l_114_12 rfl ?_
  refine w_iln l_114_13 rfl ?_
  refine q_iv [vi ((p : Nat) : Int), vi k] [] l_114_14 rfl rfl (Nat.le_of_ble_eq_true rfl) (by rw [mx_84]; exact Nat.le_of_ble_eq_true rfl) (by rw [mt_84]; exact oState_sh (oRun_o1 (oDropSwitch_o8 o))) (by rw [mt_84]; decide) (by rw [rk_84]; decide) ((by have h9 := s_84 (xs := xs) (T := T) (cc := cc) (zz := zz) (I := I) (k := k) (oRun_o1 (oDropSwitch_o8 o)) hp4 (hRr.1.2.2.2.2.1 p hp4).1 (hRr.1.2.2.2.2.1 p hp4).2.1; rw [if_neg hk] at h9; exact h9)) ?_
  refine w_ir l_114_17 (Or.inl rfl) ?_
  exact ⟨rfl, rfl⟩

theorem s_114n (o : oDropSwitch S T s q y) {ne np : Nat} {a : Nat → Nat} (K : KQ I s q h l a ne np) {p k : Int} (hp : ¬ (0 ≤ p ∧ p < ((lPorts l : Nat) : Int))) (hc : 1 ≤ cc ∧ 6 ≤ zz) : CL xs 114 [vr s, vi p, vi k] (S, I, T, cc, zz) (TH 0 (S, I, T, cc - 1, zz - 6)) := by
  refine CL_start (r := 1) (ls := [vr s, vi p, vi k]) (rk_114 _) rfl ?_
  refine w_aln l_114_0 rfl ?_
  refine w_iln l_114_1 rfl ?_
  refine t_iv [vi p] [] l_114_2 rfl rfl (Nat.le_of_ble_eq_true rfl) (by rw [mx_147]; exact Nat.le_of_ble_eq_true rfl) (by rw [mt_147]; exact oDropSwitch_sh o) (by rw [mt_147]; decide) (by rw [rk_147]; decide) (s_147n o K hp hc) (by decide +kernel) ?_
  exact ⟨rfl, rfl⟩

theorem mx_120 : mxl 120 = 3 := by decide +kernel
theorem mt_120 : mtc 120 = 9 := by decide +kernel
theorem rk_120 (as : List AV) : rkA 120 as = 1 := rfl
theorem l_120_0 : look 120 0 = some (.aload_n 0, 1, 0, 0, 0, 0) := by decide +kernel
theorem l_120_1 : look 120 1 = some (.iload_n 1, 1, 0, 0, 0, 0) := by decide +kernel
theorem l_120_2 : look 120 2 = some (.invokevirtual 199, 3, 151, 2, 0, 171) := by decide +kernel
theorem l_120_5 : look 120 5 = some (.aload_n 0, 1, 0, 0, 0, 0) := by decide +kernel
theorem l_120_6 : look 120 6 = some (.iload_n 2, 1, 0, 0, 0, 0) := by decide +kernel
theorem l_120_7 : look 120 7 = some (.invokevirtual 150, 3, 147, 2, 0, 179) := by decide +kernel
theorem l_120_10 : look 120 10 = some (.aload_n 0, 1, 0, 0, 0, 0) := by decide +kernel
theorem l_120_11 : look 120 11 = some (.getfield 57, 3, 9, 8, 2, 732) := by decide +kernel
theorem l_120_14 : look 120 14 = some (.getfield 131, 3, 5, 2, 2, 639) := by decide +kernel
theorem l_120_17 : look 120 17 = some (.iload_n 1, 1, 0, 0, 0, 0) := by decide +kernel
theorem l_120_18 : look 120 18 = some (.iload_n 2, 1, 0, 0, 0, 0) := by decide +kernel
theorem l_120_19 : look 120 19 = some (.invokevirtual 234, 3, 22, 3, 0, 203) := by decide +kernel
theorem l_120_22 : look 120 22 = some (.ireturn, 1, 0, 0, 0, 0) := by decide +kernel
theorem s_120 (o : oDropSwitch S T s q y) {ne np : Nat} {a : Nat → Nat} (K : KQ I s q h l a ne np) {k p : Nat} (hk : k < np) (hp : p < lPorts l) : CL xs 120 [vr s, vi ((k : Nat) : Int), vi ((p : Nat) : Int)] (S, I, T, cc, zz) (FN (some (vi (((runA h l noOut ne).2.2.1 k (p + 1) : Nat) : Int))) (S, I, T, cc, zz)) := by
  refine CL_start (r := 1) (ls := [vr s, vi ((k : Nat) : Int), vi ((p : Nat) : Int)]) (rk_120 _) rfl ?_
  have hl4 := K.2.2.2.2.2.2.2.1.1
  have hok := (run_ok K.2.2.2.2.2.2.1 K.2.2.2.2.2.2.2.1 K.2.2.2.2.2.2.2.2.1 (out := noOut) ne (Nat.le_refl ne)).1
  have hRr := K.2.2.2.1
  have hne := K.2.2.1.2.2.1
  have hnp := K.2.2.1.2.2.2.1
  have hp4 : p < 4 := by omega
  refine w_aln l_120_0 rfl ?_
  refine w_iln l_120_1 rfl ?_
  refine q_iv [vi ((k : Nat) : Int)] [] l_120_2 rfl rfl (Nat.le_of_ble_eq_true rfl) (by rw [mx_151]; exact Nat.le_of_ble_eq_true rfl) (by rw [mt_151]; exact oDropSwitch_sh o) (by rw [mt_151]; decide) (by rw [rk_151]; decide) (s_151 o K hk) ?_
  refine w_aln l_120_5 rfl ?_
  refine w_iln l_120_6 rfl ?_
  refine q_iv [vi ((p : Nat) : Int)] [] l_120_7 rfl rfl (Nat.le_of_ble_eq_true rfl) (by rw [mx_147]; exact Nat.le_of_ble_eq_true rfl) (by rw [mt_147]; exact oDropSwitch_sh o) (by rw [mt_147]; decide) (by rw [rk_147]; decide) (s_147 o K hp) ?_
  refine w_aln l_120_10 rfl ?_
  refine w_gr l_120_11 (oDropSwitch_sh o) (oDropSwitch_r8 o) ?_
  refine w_gr l_120_14 (oRun_sh (oDropSwitch_o8 o)) (oRun_r2 (oDropSwitch_o8 o)) ?_
  refine w_iln l_120_17 rfl ?_
  refine w_iln l_120_18 rfl ?_
  refine q_iv [vi ((k : Nat) : Int), vi ((p : Nat) : Int)] [] l_120_19 rfl rfl (Nat.le_of_ble_eq_true rfl) (by rw [mx_22]; exact Nat.le_of_ble_eq_true rfl) (by rw [mt_22]; exact oLog_sh (oRun_o2 (oDropSwitch_o8 o))) (by rw [mt_22]; decide) (by rw [rk_22]; decide) (t_fate (oRun_o2 (oDropSwitch_o8 o)) hRr.2 (P := ((p : Nat) : Int)) (by omega) (by omega)) ?_
  refine w_ir l_120_22 (Or.inl rfl) ?_
  exact ⟨rfl, rfl⟩

theorem s_120n (o : oDropSwitch S T s q y) {ne np : Nat} {a : Nat → Nat} (K : KQ I s q h l a ne np) {k p : Int} (hk : ¬ (0 ≤ k ∧ k < ((np : Nat) : Int))) (hc : 1 ≤ cc ∧ 6 ≤ zz) : CL xs 120 [vr s, vi k, vi p] (S, I, T, cc, zz) (TH 0 (S, I, T, cc - 1, zz - 6)) := by
  refine CL_start (r := 1) (ls := [vr s, vi k, vi p]) (rk_120 _) rfl ?_
  refine w_aln l_120_0 rfl ?_
  refine w_iln l_120_1 rfl ?_
  refine t_iv [vi k] [] l_120_2 rfl rfl (Nat.le_of_ble_eq_true rfl) (by rw [mx_151]; exact Nat.le_of_ble_eq_true rfl) (by rw [mt_151]; exact oDropSwitch_sh o) (by rw [mt_151]; decide) (by rw [rk_151]; decide) (s_151n o K hk hc) (by decide +kernel) ?_
  exact ⟨rfl, rfl⟩

theorem s_120o (o : oDropSwitch S T s q y) {ne np : Nat} {a : Nat → Nat} (K : KQ I s q h l a ne np) {k : Nat} {p : Int} (hk : k < np) (hp : ¬ (0 ≤ p ∧ p < ((lPorts l : Nat) : Int))) (hc : 1 ≤ cc ∧ 6 ≤ zz) : CL xs 120 [vr s, vi ((k : Nat) : Int), vi p] (S, I, T, cc, zz) (TH 0 (S, I, T, cc - 1, zz - 6)) := by
  refine CL_start (r := 1) (ls := [vr s, vi ((k : Nat) : Int), vi p]) (rk_120 _) rfl ?_
  refine w_aln l_120_0 rfl ?_
  refine w_iln l_120_1 rfl ?_
  refine q_iv [vi ((k : Nat) : Int)] [] l_120_2 rfl rfl (Nat.le_of_ble_eq_true rfl) (by rw [mx_151]; exact Nat.le_of_ble_eq_true rfl) (by rw [mt_151]; exact oDropSwitch_sh o) (by rw [mt_151]; decide) (by rw [rk_151]; decide) (s_151 o K hk) ?_
  refine w_aln l_120_5 rfl ?_
  refine w_iln l_120_6 rfl ?_
  refine t_iv [vi p] [] l_120_7 rfl rfl (Nat.le_of_ble_eq_true rfl) (by rw [mx_147]; exact Nat.le_of_ble_eq_true rfl) (by rw [mt_147]; exact oDropSwitch_sh o) (by rw [mt_147]; decide) (by rw [rk_147]; decide) (s_147n o K hp hc) (by decide +kernel) ?_
  exact ⟨rfl, rfl⟩

theorem mx_123 : mxl 123 = 2 := by decide +kernel
theorem mt_123 : mtc 123 = 9 := by decide +kernel
theorem rk_123 (as : List AV) : rkA 123 as = 2 := rfl
theorem l_123_0 : look 123 0 = some (.aload_n 0, 1, 0, 0, 0, 0) := by decide +kernel
theorem l_123_1 : look 123 1 = some (.iload_n 1, 1, 0, 0, 0, 0) := by decide +kernel
theorem l_123_2 : look 123 2 = some (.invokevirtual 243, 3, 154, 2, 0, 227) := by decide +kernel
theorem l_123_5 : look 123 5 = some (.aload_n 0, 1, 0, 0, 0, 0) := by decide +kernel
theorem l_123_6 : look 123 6 = some (.getfield 57, 3, 9, 8, 2, 732) := by decide +kernel
theorem l_123_9 : look 123 9 = some (.getfield 131, 3, 5, 2, 2, 639) := by decide +kernel
theorem l_123_12 : look 123 12 = some (.iload_n 1, 1, 0, 0, 0, 0) := by decide +kernel
theorem l_123_13 : look 123 13 = some (.invokevirtual 246, 3, 25, 2, 0, 246) := by decide +kernel
theorem l_123_16 : look 123 16 = some (.ireturn, 1, 0, 0, 0, 0) := by decide +kernel
theorem s_123 (o : oDropSwitch S T s q y) {ne np : Nat} {a : Nat → Nat} (K : KQ I s q h l a ne np) {p : Nat} (hp : 1 ≤ p ∧ p ≤ 10) : CL xs 123 [vr s, vi ((p : Nat) : Int)] (S, I, T, cc, zz) (FN (some (vi ((cntK (isBy ((p : Nat) : Int)) (runA h l noOut ne).2.1 (runA h l noOut ne).2.1.length : Nat) : Int))) (S, I, T, cc, zz)) := by
  refine CL_start (r := 2) (ls := [vr s, vi ((p : Nat) : Int)]) (rk_123 _) rfl ?_
  have hl4 := K.2.2.2.2.2.2.2.1.1
  have hok := (run_ok K.2.2.2.2.2.2.1 K.2.2.2.2.2.2.2.1 K.2.2.2.2.2.2.2.2.1 (out := noOut) ne (Nat.le_refl ne)).1
  have hRr := K.2.2.2.1
  have hne := K.2.2.1.2.2.1
  have hnp := K.2.2.1.2.2.2.1
  refine w_aln l_123_0 rfl ?_
  refine w_iln l_123_1 rfl ?_
  refine q_iv [vi ((p : Nat) : Int)] [] l_123_2 rfl rfl (Nat.le_of_ble_eq_true rfl) (by rw [mx_154]; exact Nat.le_of_ble_eq_true rfl) (by rw [mt_154]; exact oDropSwitch_sh o) (by rw [mt_154]; decide) (by rw [rk_154]; decide) (s_154 o K hp) ?_
  refine w_aln l_123_5 rfl ?_
  refine w_gr l_123_6 (oDropSwitch_sh o) (oDropSwitch_r8 o) ?_
  refine w_gr l_123_9 (oRun_sh (oDropSwitch_o8 o)) (oRun_r2 (oDropSwitch_o8 o)) ?_
  refine w_iln l_123_12 rfl ?_
  refine q_iv [vi ((p : Nat) : Int)] [] l_123_13 rfl rfl (Nat.le_of_ble_eq_true rfl) (by rw [mx_25]; exact Nat.le_of_ble_eq_true rfl) (by rw [mt_25]; exact oLog_sh (oRun_o2 (oDropSwitch_o8 o))) (by rw [mt_25]; decide) (by rw [rk_25]; decide) (s_25 (oRun_o2 (oDropSwitch_o8 o)) hRr.2) ?_
  refine w_ir l_123_16 (Or.inl rfl) ?_
  exact ⟨rfl, rfl⟩

theorem s_123n (o : oDropSwitch S T s q y) {ne np : Nat} {a : Nat → Nat} (K : KQ I s q h l a ne np) {p : Int} (hp : ¬ (1 ≤ p ∧ p ≤ 10)) (hc : 1 ≤ cc ∧ 6 ≤ zz) : CL xs 123 [vr s, vi p] (S, I, T, cc, zz) (TH 1 (S, I, T, cc - 1, zz - 6)) := by
  refine CL_start (r := 2) (ls := [vr s, vi p]) (rk_123 _) rfl ?_
  refine w_aln l_123_0 rfl ?_
  refine w_iln l_123_1 rfl ?_
  refine t_iv [vi p] [] l_123_2 rfl rfl (Nat.le_of_ble_eq_true rfl) (by rw [mx_154]; exact Nat.le_of_ble_eq_true rfl) (by rw [mt_154]; exact oDropSwitch_sh o) (by rw [mt_154]; decide) (by rw [rk_154]; decide) (s_154n o K hp hc) (by decide +kernel) ?_
  exact ⟨rfl, rfl⟩

theorem mx_125 : mxl 125 = 2 := by decide +kernel
theorem mt_125 : mtc 125 = 9 := by decide +kernel
theorem rk_125 (as : List AV) : rkA 125 as = 2 := rfl
theorem l_125_0 : look 125 0 = some (.aload_n 0, 1, 0, 0, 0, 0) := by decide +kernel
theorem l_125_1 : look 125 1 = some (.iload_n 1, 1, 0, 0, 0, 0) := by decide +kernel
theorem l_125_2 : look 125 2 = some (.invokevirtual 199, 3, 151, 2, 0, 171) := by decide +kernel
theorem l_125_5 : look 125 5 = some (.aload_n 0, 1, 0, 0, 0, 0) := by decide +kernel
theorem l_125_6 : look 125 6 = some (.getfield 57, 3, 9, 8, 2, 732) := by decide +kernel
theorem l_125_9 : look 125 9 = some (.getfield 131, 3, 5, 2, 2, 639) := by decide +kernel
theorem l_125_12 : look 125 12 = some (.bipush 8, 2, 0, 0, 0, 0) := by decide +kernel
theorem l_125_14 : look 125 14 = some (.iload_n 1, 1, 0, 0, 0, 0) := by decide +kernel
theorem l_125_15 : look 125 15 = some (.invokevirtual 252, 3, 26, 3, 0, 255) := by decide +kernel
theorem l_125_18 : look 125 18 = some (.ireturn, 1, 0, 0, 0, 0) := by decide +kernel
theorem s_125 (o : oDropSwitch S T s q y) {ne np : Nat} {a : Nat → Nat} (K : KQ I s q h l a ne np) {p : Nat} (hp : p < np) : CL xs 125 [vr s, vi ((p : Nat) : Int)] (S, I, T, cc, zz) (FN (some (vi ((cntK (isByD 8 ((p : Nat) : Int)) (runA h l noOut ne).2.1 (runA h l noOut ne).2.1.length : Nat) : Int))) (S, I, T, cc, zz)) := by
  refine CL_start (r := 2) (ls := [vr s, vi ((p : Nat) : Int)]) (rk_125 _) rfl ?_
  have hl4 := K.2.2.2.2.2.2.2.1.1
  have hok := (run_ok K.2.2.2.2.2.2.1 K.2.2.2.2.2.2.2.1 K.2.2.2.2.2.2.2.2.1 (out := noOut) ne (Nat.le_refl ne)).1
  have hRr := K.2.2.2.1
  have hne := K.2.2.1.2.2.1
  have hnp := K.2.2.1.2.2.2.1
  refine w_aln l_125_0 rfl ?_
  refine w_iln l_125_1 rfl ?_
  refine q_iv [vi ((p : Nat) : Int)] [] l_125_2 rfl rfl (Nat.le_of_ble_eq_true rfl) (by rw [mx_151]; exact Nat.le_of_ble_eq_true rfl) (by rw [mt_151]; exact oDropSwitch_sh o) (by rw [mt_151]; decide) (by rw [rk_151]; decide) (s_151 o K hp) ?_
  refine w_aln l_125_5 rfl ?_
  refine w_gr l_125_6 (oDropSwitch_sh o) (oDropSwitch_r8 o) ?_
  refine w_gr l_125_9 (oRun_sh (oDropSwitch_o8 o)) (oRun_r2 (oDropSwitch_o8 o)) ?_
  refine w_bp l_125_12 (by decide) ?_
  refine w_iln l_125_14 rfl ?_
  refine q_iv [vi 8, vi ((p : Nat) : Int)] [] l_125_15 rfl rfl (Nat.le_of_ble_eq_true rfl) (by rw [mx_26]; exact Nat.le_of_ble_eq_true rfl) (by rw [mt_26]; exact oLog_sh (oRun_o2 (oDropSwitch_o8 o))) (by rw [mt_26]; decide) (by rw [rk_26]; decide) (s_26 (oRun_o2 (oDropSwitch_o8 o)) hRr.2) ?_
  refine w_ir l_125_18 (Or.inl rfl) ?_
  exact ⟨rfl, rfl⟩

theorem s_125n (o : oDropSwitch S T s q y) {ne np : Nat} {a : Nat → Nat} (K : KQ I s q h l a ne np) {p : Int} (hp : ¬ (0 ≤ p ∧ p < ((np : Nat) : Int))) (hc : 1 ≤ cc ∧ 6 ≤ zz) : CL xs 125 [vr s, vi p] (S, I, T, cc, zz) (TH 0 (S, I, T, cc - 1, zz - 6)) := by
  refine CL_start (r := 2) (ls := [vr s, vi p]) (rk_125 _) rfl ?_
  refine w_aln l_125_0 rfl ?_
  refine w_iln l_125_1 rfl ?_
  refine t_iv [vi p] [] l_125_2 rfl rfl (Nat.le_of_ble_eq_true rfl) (by rw [mx_151]; exact Nat.le_of_ble_eq_true rfl) (by rw [mt_151]; exact oDropSwitch_sh o) (by rw [mt_151]; decide) (by rw [rk_151]; decide) (s_151n o K hp hc) (by decide +kernel) ?_
  exact ⟨rfl, rfl⟩

end KQT
