/-! the class: a drop's parts; suppositions refused -/
section CSR
variable {xs : List Int} {S : List (Nat × Nat)} {T : Nat → Nat → Nat} {cc zz s q y : Nat} {h : Hi} {l : Li} {I I' : Ix}

theorem mx_121 : mxl 121 = 3 := by decide +kernel
theorem mt_121 : mtc 121 = 9 := by decide +kernel
theorem rk_121 (as : List AV) : rkA 121 as = 1 := rfl
theorem l_121_0 : look 121 0 = some (.aload_n 0, 1, 0, 0, 0, 0) := by decide +kernel
theorem l_121_1 : look 121 1 = some (.iload_n 1, 1, 0, 0, 0, 0) := by decide +kernel
theorem l_121_2 : look 121 2 = some (.invokevirtual 237, 3, 152, 2, 0, 1262) := by decide +kernel
theorem l_121_5 : look 121 5 = some (.iload_n 2, 1, 0, 0, 0, 0) := by decide +kernel
theorem l_121_6 : look 121 6 = some (.ifCond .lt 8, 3, 0, 0, 0, 0) := by decide +kernel
theorem l_121_9 : look 121 9 = some (.iload_n 2, 1, 0, 0, 0, 0) := by decide +kernel
theorem l_121_10 : look 121 10 = some (.iconst 5, 1, 0, 0, 0, 0) := by decide +kernel
theorem l_121_11 : look 121 11 = some (.if_icmp .lt 11, 3, 0, 0, 0, 0) := by decide +kernel
theorem l_121_14 : look 121 14 = some (.new 147, 3, 3, 0, 1, 1045) := by decide +kernel
theorem l_121_17 : look 121 17 = some (.dup, 1, 0, 0, 0, 0) := by decide +kernel
theorem l_121_18 : look 121 18 = some (.invokespecial 149, 3, 0, 1, 99, 1054) := by decide +kernel
theorem l_121_21 : look 121 21 = some (.athrow, 1, 0, 0, 0, 0) := by decide +kernel
theorem l_121_22 : look 121 22 = some (.aload_n 0, 1, 0, 0, 0, 0) := by decide +kernel
theorem l_121_23 : look 121 23 = some (.getfield 57, 3, 9, 8, 2, 546) := by decide +kernel
theorem l_121_26 : look 121 26 = some (.getfield 131, 3, 5, 2, 2, 451) := by decide +kernel
theorem l_121_29 : look 121 29 = some (.iload_n 1, 1, 0, 0, 0, 0) := by decide +kernel
theorem l_121_30 : look 121 30 = some (.iload_n 2, 1, 0, 0, 0, 0) := by decide +kernel
theorem l_121_31 : look 121 31 = some (.invokevirtual 240, 3, 24, 3, 0, 1266) := by decide +kernel
theorem l_121_34 : look 121 34 = some (.ireturn, 1, 0, 0, 0, 0) := by decide +kernel

theorem t_part (o : oLog S T s) {g : Lo} (hL : cL I s g) {k j : Nat} (hk : k < g.1.length) (hj : j < 5) : CL xs 24 [vr s, vi ((k : Nat) : Int), vi ((j : Nat) : Int)] (S, I, T, cc, zz) (FN (some (vi (drF (g.1.getD k dr0) j))) (S, I, T, cc, zz)) := by
  rcases (show j = 0 ∨ j = 1 ∨ j = 2 ∨ j = 3 ∨ j = 4 by omega) with rfl | rfl | rfl | rfl | rfl
  · exact t_part0 o hL hk
  · exact t_part1 o hL hk
  · exact t_part2 o hL hk
  · exact t_part3 o hL hk
  · exact t_part4 o hL hk
theorem s_121 (o : oDropSwitch S T s q y) {ne np : Nat} {a : Nat → Nat} (K : KQ I s q h l a ne np) {k j : Nat} (hk : k < (runA h l noOut ne).2.1.length) (hj : j < 5) : CL xs 121 [vr s, vi ((k : Nat) : Int), vi ((j : Nat) : Int)] (S, I, T, cc, zz) (FN (some (vi (drF ((runA h l noOut ne).2.1.getD k dr0) j))) (S, I, T, cc, zz)) := by
  have hdf := t_part (xs := xs) (cc := cc) (zz := zz) (oRun_o2 (oDropSwitch_o8 o)) K.2.2.2.1.2 hk hj
  refine CL_start (r := 1) (ls := [vr s, vi ((k : Nat) : Int), vi ((j : Nat) : Int)]) (rk_121 _) rfl ?_
  refine w_aln l_121_0 rfl ?_
  refine w_iln l_121_1 rfl ?_
  refine q_iv [vi ((k : Nat) : Int)] [] l_121_2 rfl rfl (Nat.le_of_ble_eq_true rfl) (by rw [mx_152]; exact Nat.le_of_ble_eq_true rfl) (by rw [mt_152]; exact oDropSwitch_sh o) (by rw [mt_152]; decide) (by rw [rk_152]; decide) (s_152 o K hk) ?_
  refine w_iln l_121_5 rfl ?_
  refine w_zlt 14 l_121_6 (by decide) (fun hx => absurd hx (by omega)) (fun _ => ?_)
  refine w_iln l_121_9 rfl ?_
  refine w_ic l_121_10 (by decide) ?_
  refine w_clt 22 l_121_11 (by decide) (fun _ => ?_) (fun hx => absurd hx (by omega))
  refine w_aln l_121_22 rfl ?_
  refine w_gr l_121_23 (oDropSwitch_sh o) (oDropSwitch_r8 o) ?_
  refine w_gr l_121_26 (oRun_sh (oDropSwitch_o8 o)) (oRun_r2 (oDropSwitch_o8 o)) ?_
  refine w_iln l_121_29 rfl ?_
  refine w_iln l_121_30 rfl ?_
  refine q_iv [vi ((k : Nat) : Int), vi ((j : Nat) : Int)] [] l_121_31 rfl rfl (Nat.le_of_ble_eq_true rfl) (by rw [mx_24]; exact Nat.le_of_ble_eq_true rfl) (by rw [mt_24]; exact oLog_sh (oRun_o2 (oDropSwitch_o8 o))) (by rw [mt_24]; decide) (by rw [rk_24]; decide) (hdf) ?_
  refine w_ir l_121_34 (Or.inl rfl) ?_
  exact ⟨rfl, rfl⟩

theorem s_121n (o : oDropSwitch S T s q y) {ne np : Nat} {a : Nat → Nat} (K : KQ I s q h l a ne np) {k j : Int} (hk : ¬ (0 ≤ k ∧ k < (((runA h l noOut ne).2.1.length : Nat) : Int))) (hc : 1 ≤ cc ∧ 6 ≤ zz) : CL xs 121 [vr s, vi k, vi j] (S, I, T, cc, zz) (TH 0 (S, I, T, cc - 1, zz - 6)) := by
  refine CL_start (r := 1) (ls := [vr s, vi k, vi j]) (rk_121 _) rfl ?_
  refine w_aln l_121_0 rfl ?_
  refine w_iln l_121_1 rfl ?_
  refine t_iv [vi k] [] l_121_2 rfl rfl (Nat.le_of_ble_eq_true rfl) (by rw [mx_152]; exact Nat.le_of_ble_eq_true rfl) (by rw [mt_152]; exact oDropSwitch_sh o) (by rw [mt_152]; decide) (by rw [rk_152]; decide) (s_152n o K hk hc) (by decide +kernel) ?_
  exact ⟨rfl, rfl⟩

theorem s_121m (o : oDropSwitch S T s q y) {ne np : Nat} {a : Nat → Nat} (K : KQ I s q h l a ne np) {k : Nat} {j : Int} (hk : k < (runA h l noOut ne).2.1.length) (hj : ¬ (0 ≤ j ∧ j < 5)) (hc : 1 ≤ cc ∧ 6 ≤ zz) : CL xs 121 [vr s, vi ((k : Nat) : Int), vi j] (S, I, T, cc, zz) (TH 3 (S, I, T, cc - 1, zz - 6)) := by
  refine CL_start (r := 1) (ls := [vr s, vi ((k : Nat) : Int), vi j]) (rk_121 _) rfl ?_
  refine w_aln l_121_0 rfl ?_
  refine w_iln l_121_1 rfl ?_
  refine q_iv [vi ((k : Nat) : Int)] [] l_121_2 rfl rfl (Nat.le_of_ble_eq_true rfl) (by rw [mx_152]; exact Nat.le_of_ble_eq_true rfl) (by rw [mt_152]; exact oDropSwitch_sh o) (by rw [mt_152]; decide) (by rw [rk_152]; decide) (s_152 o K hk) ?_
  refine w_iln l_121_5 rfl ?_
  refine w_zlt 14 l_121_6 (by decide) (fun h1 => ?_) (fun h1 => ?_)
  · skip
    refine w_th l_121_14 ⟨hc.1, hc.2, Nat.le_of_ble_eq_true rfl⟩ ?_
    exact ⟨rfl, rfl⟩
  · skip
    refine w_iln l_121_9 rfl ?_
    refine w_ic l_121_10 (by decide) ?_
    refine w_clt 22 l_121_11 (by decide) (fun h2 => ?_) (fun h2 => ?_)
    · skip
      exfalso
      omega
    · skip
      refine w_th l_121_14 ⟨hc.1, hc.2, Nat.le_of_ble_eq_true rfl⟩ ?_
      exact ⟨rfl, rfl⟩

theorem s_131w (o : oDropSwitch S T s q y) {ne np : Nat} {a : Nat → Nat} (K : KQ I s q h l a ne np) {j p v : Int} (hj : ¬ (0 ≤ j ∧ j ≤ 4)) (hc : 1 ≤ cc ∧ 6 ≤ zz) : CL xs 131 [vr s, vi j, vi p, vi v] (S, I, T, cc, zz) (TH 3 (S, I, T, cc - 1, zz - 6)) := by
  refine CL_start (r := 1) (ls := [vr s, vi j, vi p, vi v]) (rk_131 _) rfl ?_
  refine w_iln l_131_0 rfl ?_
  refine w_zlt 9 l_131_1 (by decide) (fun h1 => ?_) (fun h1 => ?_)
  · skip
    refine w_th l_131_9 ⟨hc.1, hc.2, Nat.le_of_ble_eq_true rfl⟩ ?_
    exact ⟨rfl, rfl⟩
  · skip
    refine w_iln l_131_4 rfl ?_
    refine w_ic l_131_5 (by decide) ?_
    refine w_cle 17 l_131_6 (by decide) (fun hx => absurd hx (by omega)) (fun _ => ?_)
    refine w_th l_131_9 ⟨hc.1, hc.2, Nat.le_of_ble_eq_true rfl⟩ ?_
    exact ⟨rfl, rfl⟩

theorem s_131p (o : oDropSwitch S T s q y) {ne np : Nat} {a : Nat → Nat} (K : KQ I s q h l a ne np) {p v : Int} (hp : ¬ (0 ≤ p ∧ p < ((lPorts l : Nat) : Int))) (hc : 1 ≤ cc ∧ 6 ≤ zz) : CL xs 131 [vr s, vi 0, vi p, vi v] (S, I, T, cc, zz) (TH 0 (S, I, T, cc - 1, zz - 6)) := by
  refine CL_start (r := 1) (ls := [vr s, vi 0, vi p, vi v]) (rk_131 _) rfl ?_
  refine w_iln l_131_0 rfl ?_
  refine w_zlt 9 l_131_1 (by decide) (fun hx => absurd hx (by decide)) (fun _ => ?_)
  refine w_iln l_131_4 rfl ?_
  refine w_ic l_131_5 (by decide) ?_
  refine w_cle 17 l_131_6 (by decide) (fun _ => ?_) (fun hx => absurd hx (by decide))
  refine w_iln l_131_17 rfl ?_
  refine w_zne 26 l_131_18 (by decide) (fun hx => absurd hx (by decide)) (fun _ => ?_)
  refine w_aln l_131_21 rfl ?_
  refine w_iln l_131_22 rfl ?_
  refine t_iv [vi p] [] l_131_23 rfl rfl (Nat.le_of_ble_eq_true rfl) (by rw [mx_147]; exact Nat.le_of_ble_eq_true rfl) (by rw [mt_147]; exact oDropSwitch_sh o) (by rw [mt_147]; decide) (by rw [rk_147]; decide) (s_147n o K hp hc) (by decide +kernel) ?_
  exact ⟨rfl, rfl⟩

theorem s_131r (o : oDropSwitch S T s q y) {ne np : Nat} {a : Nat → Nat} (K : KQ I s q h l a ne np) {p v : Int} (hp : ¬ (0 ≤ p ∧ p < ((lRules l : Nat) : Int))) (hc : 1 ≤ cc ∧ 6 ≤ zz) : CL xs 131 [vr s, vi 4, vi p, vi v] (S, I, T, cc, zz) (TH 0 (S, I, T, cc - 1, zz - 6)) := by
  refine CL_start (r := 1) (ls := [vr s, vi 4, vi p, vi v]) (rk_131 _) rfl ?_
  refine w_iln l_131_0 rfl ?_
  refine w_zlt 9 l_131_1 (by decide) (fun hx => absurd hx (by decide)) (fun _ => ?_)
  refine w_iln l_131_4 rfl ?_
  refine w_ic l_131_5 (by decide) ?_
  refine w_cle 17 l_131_6 (by decide) (fun _ => ?_) (fun hx => absurd hx (by decide))
  refine w_iln l_131_17 rfl ?_
  refine w_zne 26 l_131_18 (by decide) (fun _ => ?_) (fun hx => absurd hx (by decide))
  refine w_iln l_131_26 rfl ?_
  refine w_ic l_131_27 (by decide) ?_
  refine w_cne 36 l_131_28 (by decide) (fun hx => absurd hx (by decide)) (fun _ => ?_)
  refine w_aln l_131_31 rfl ?_
  refine w_iln l_131_32 rfl ?_
  refine t_iv [vi p] [] l_131_33 rfl rfl (Nat.le_of_ble_eq_true rfl) (by rw [mx_148]; exact Nat.le_of_ble_eq_true rfl) (by rw [mt_148]; exact oDropSwitch_sh o) (by rw [mt_148]; decide) (by rw [rk_148]; decide) (s_148n o K hp hc) (by decide +kernel) ?_
  exact ⟨rfl, rfl⟩

theorem s_131v0 (o : oDropSwitch S T s q y) {ne np : Nat} {a : Nat → Nat} (K : KQ I s q h l a ne np) {p : Nat} {v : Int} (hp : p < lPorts l) (hv : ¬ (1 ≤ v ∧ v ≤ 99)) (hc : 1 ≤ cc ∧ 6 ≤ zz) : CL xs 131 [vr s, vi 0, vi ((p : Nat) : Int), vi v] (S, I, T, cc, zz) (TH 1 (S, I, T, cc - 1, zz - 6)) := by
  refine CL_start (r := 1) (ls := [vr s, vi 0, vi ((p : Nat) : Int), vi v]) (rk_131 _) rfl ?_
  refine w_iln l_131_0 rfl ?_
  refine w_zlt 9 l_131_1 (by decide) (fun hx => absurd hx (by decide)) (fun _ => ?_)
  refine w_iln l_131_4 rfl ?_
  refine w_ic l_131_5 (by decide) ?_
  refine w_cle 17 l_131_6 (by decide) (fun _ => ?_) (fun hx => absurd hx (by decide))
  refine w_iln l_131_17 rfl ?_
  refine w_zne 26 l_131_18 (by decide) (fun hx => absurd hx (by decide)) (fun _ => ?_)
  refine w_aln l_131_21 rfl ?_
  refine w_iln l_131_22 rfl ?_
  refine q_iv [vi ((p : Nat) : Int)] [] l_131_23 rfl rfl (Nat.le_of_ble_eq_true rfl) (by rw [mx_147]; exact Nat.le_of_ble_eq_true rfl) (by rw [mt_147]; exact oDropSwitch_sh o) (by rw [mt_147]; decide) (by rw [rk_147]; decide) (s_147 o K hp) ?_
  refine w_iln l_131_26 rfl ?_
  refine w_ic l_131_27 (by decide) ?_
  refine w_cne 36 l_131_28 (by decide) (fun _ => ?_) (fun hx => absurd hx (by decide))
  refine w_iln l_131_36 rfl ?_
  refine w_iln l_131_37 rfl ?_
  refine q_st [vi 0, vi v] [] l_131_38 (by decide) rfl rfl (Nat.le_of_ble_eq_true rfl) (by rw [mx_161]; exact Nat.le_of_ble_eq_true rfl) (by rw [rk_161]; decide) (s_161_0n hv) ?_
  refine w_zne 52 l_131_41 (by decide) (fun hx => absurd hx (by decide)) (fun _ => ?_)
  refine w_th l_131_44 ⟨hc.1, hc.2, Nat.le_of_ble_eq_true rfl⟩ ?_
  exact ⟨rfl, rfl⟩

theorem s_131v1 (o : oDropSwitch S T s q y) {ne np : Nat} {a : Nat → Nat} (K : KQ I s q h l a ne np) {p v : Int} (hv : ¬ (1 ≤ v ∧ v ≤ 400)) (hc : 1 ≤ cc ∧ 6 ≤ zz) : CL xs 131 [vr s, vi 1, vi p, vi v] (S, I, T, cc, zz) (TH 1 (S, I, T, cc - 1, zz - 6)) := by
  refine CL_start (r := 1) (ls := [vr s, vi 1, vi p, vi v]) (rk_131 _) rfl ?_
  refine w_iln l_131_0 rfl ?_
  refine w_zlt 9 l_131_1 (by decide) (fun hx => absurd hx (by decide)) (fun _ => ?_)
  refine w_iln l_131_4 rfl ?_
  refine w_ic l_131_5 (by decide) ?_
  refine w_cle 17 l_131_6 (by decide) (fun _ => ?_) (fun hx => absurd hx (by decide))
  refine w_iln l_131_17 rfl ?_
  refine w_zne 26 l_131_18 (by decide) (fun _ => ?_) (fun hx => absurd hx (by decide))
  refine w_iln l_131_26 rfl ?_
  refine w_ic l_131_27 (by decide) ?_
  refine w_cne 36 l_131_28 (by decide) (fun _ => ?_) (fun hx => absurd hx (by decide))
  refine w_iln l_131_36 rfl ?_
  refine w_iln l_131_37 rfl ?_
  refine q_st [vi 1, vi v] [] l_131_38 (by decide) rfl rfl (Nat.le_of_ble_eq_true rfl) (by rw [mx_161]; exact Nat.le_of_ble_eq_true rfl) (by rw [rk_161]; decide) (s_161_1n hv) ?_
  refine w_zne 52 l_131_41 (by decide) (fun hx => absurd hx (by decide)) (fun _ => ?_)
  refine w_th l_131_44 ⟨hc.1, hc.2, Nat.le_of_ble_eq_true rfl⟩ ?_
  exact ⟨rfl, rfl⟩

theorem s_131v2 (o : oDropSwitch S T s q y) {ne np : Nat} {a : Nat → Nat} (K : KQ I s q h l a ne np) {p v : Int} (hv : ¬ (1 ≤ v ∧ v ≤ 99)) (hc : 1 ≤ cc ∧ 6 ≤ zz) : CL xs 131 [vr s, vi 2, vi p, vi v] (S, I, T, cc, zz) (TH 1 (S, I, T, cc - 1, zz - 6)) := by
  refine CL_start (r := 1) (ls := [vr s, vi 2, vi p, vi v]) (rk_131 _) rfl ?_
  refine w_iln l_131_0 rfl ?_
  refine w_zlt 9 l_131_1 (by decide) (fun hx => absurd hx (by decide)) (fun _ => ?_)
  refine w_iln l_131_4 rfl ?_
  refine w_ic l_131_5 (by decide) ?_
  refine w_cle 17 l_131_6 (by decide) (fun _ => ?_) (fun hx => absurd hx (by decide))
  refine w_iln l_131_17 rfl ?_
  refine w_zne 26 l_131_18 (by decide) (fun _ => ?_) (fun hx => absurd hx (by decide))
  refine w_iln l_131_26 rfl ?_
  refine w_ic l_131_27 (by decide) ?_
  refine w_cne 36 l_131_28 (by decide) (fun _ => ?_) (fun hx => absurd hx (by decide))
  refine w_iln l_131_36 rfl ?_
  refine w_iln l_131_37 rfl ?_
  refine q_st [vi 2, vi v] [] l_131_38 (by decide) rfl rfl (Nat.le_of_ble_eq_true rfl) (by rw [mx_161]; exact Nat.le_of_ble_eq_true rfl) (by rw [rk_161]; decide) (s_161_2n hv) ?_
  refine w_zne 52 l_131_41 (by decide) (fun hx => absurd hx (by decide)) (fun _ => ?_)
  refine w_th l_131_44 ⟨hc.1, hc.2, Nat.le_of_ble_eq_true rfl⟩ ?_
  exact ⟨rfl, rfl⟩

theorem s_131v3 (o : oDropSwitch S T s q y) {ne np : Nat} {a : Nat → Nat} (K : KQ I s q h l a ne np) {p v : Int} (hv : ¬ (0 ≤ v ∧ v ≤ 999)) (hc : 1 ≤ cc ∧ 6 ≤ zz) : CL xs 131 [vr s, vi 3, vi p, vi v] (S, I, T, cc, zz) (TH 1 (S, I, T, cc - 1, zz - 6)) := by
  refine CL_start (r := 1) (ls := [vr s, vi 3, vi p, vi v]) (rk_131 _) rfl ?_
  refine w_iln l_131_0 rfl ?_
  refine w_zlt 9 l_131_1 (by decide) (fun hx => absurd hx (by decide)) (fun _ => ?_)
  refine w_iln l_131_4 rfl ?_
  refine w_ic l_131_5 (by decide) ?_
  refine w_cle 17 l_131_6 (by decide) (fun _ => ?_) (fun hx => absurd hx (by decide))
  refine w_iln l_131_17 rfl ?_
  refine w_zne 26 l_131_18 (by decide) (fun _ => ?_) (fun hx => absurd hx (by decide))
  refine w_iln l_131_26 rfl ?_
  refine w_ic l_131_27 (by decide) ?_
  refine w_cne 36 l_131_28 (by decide) (fun _ => ?_) (fun hx => absurd hx (by decide))
  refine w_iln l_131_36 rfl ?_
  refine w_iln l_131_37 rfl ?_
  refine q_st [vi 3, vi v] [] l_131_38 (by decide) rfl rfl (Nat.le_of_ble_eq_true rfl) (by rw [mx_161]; exact Nat.le_of_ble_eq_true rfl) (by rw [rk_161]; decide) (s_161_3n hv) ?_
  refine w_zne 52 l_131_41 (by decide) (fun hx => absurd hx (by decide)) (fun _ => ?_)
  refine w_th l_131_44 ⟨hc.1, hc.2, Nat.le_of_ble_eq_true rfl⟩ ?_
  exact ⟨rfl, rfl⟩

end CSR
