/-! the class: answers of earlier moments -/
theorem rep_A {h : Hi} {l : Li} {ne np : Nat} (hev : okEv h l ne np) {f n : Nat} (hn : f + n ≤ ne) : (runF h l noOut ((runA h l noOut f).1, lo0) f n).1 = (runA h l noOut (f + n)).1 :=
  ((replay (h := h) (l := l) (out := noOut) (f := f) (n := n) fun e he => (hev e (by omega)).2.2).1).symm
section CFA
variable {xs : List Int} {S : List (Nat × Nat)} {T : Nat → Nat → Nat} {cc zz s q y : Nat} {h : Hi} {l : Li} {I I' : Ix}

theorem mx_128 : mxl 128 = 3 := by decide +kernel
theorem mt_128 : mtc 128 = 9 := by decide +kernel
theorem rk_128 (as : List AV) : rkA 128 as = 6 := rfl
theorem l_128_0 : look 128 0 = some (.aload_n 0, 1, 0, 0, 0, 0) := by decide +kernel
theorem l_128_1 : look 128 1 = some (.iload_n 1, 1, 0, 0, 0, 0) := by decide +kernel
theorem l_128_2 : look 128 2 = some (.invokevirtual 254, 3, 150, 2, 0, 1318) := by decide +kernel
theorem l_128_5 : look 128 5 = some (.aload_n 0, 1, 0, 0, 0, 0) := by decide +kernel
theorem l_128_6 : look 128 6 = some (.iload_n 2, 1, 0, 0, 0, 0) := by decide +kernel
theorem l_128_7 : look 128 7 = some (.invokevirtual 150, 3, 147, 2, 0, 1069) := by decide +kernel
theorem l_128_10 : look 128 10 = some (.aload_n 0, 1, 0, 0, 0, 0) := by decide +kernel
theorem l_128_11 : look 128 11 = some (.iload_n 1, 1, 0, 0, 0, 0) := by decide +kernel
theorem l_128_12 : look 128 12 = some (.invokevirtual 260, 3, 160, 2, 0, 1334) := by decide +kernel
theorem l_128_15 : look 128 15 = some (.aload_n 0, 1, 0, 0, 0, 0) := by decide +kernel
theorem l_128_16 : look 128 16 = some (.getfield 61, 3, 9, 9, 2, 547) := by decide +kernel
theorem l_128_19 : look 128 19 = some (.getfield 140, 3, 5, 1, 2, 449) := by decide +kernel
theorem l_128_22 : look 128 22 = some (.getfield 205, 3, 7, 3, 2, 391) := by decide +kernel
theorem l_128_25 : look 128 25 = some (.iload_n 2, 1, 0, 0, 0, 0) := by decide +kernel
theorem l_128_26 : look 128 26 = some (.iaload, 1, 0, 0, 0, 0) := by decide +kernel
theorem l_128_27 : look 128 27 = some (.ireturn, 1, 0, 0, 0, 0) := by decide +kernel

theorem s_128 (hq : s < q ∧ q + 8 < s + 21) (ck : oCk S T s) (o : oDropSwitch S T s q y) {ne np : Nat} {a : Nat → Nat} (K : KQ I s q h l a ne np) (B : KB I s h l a ne np) (C : cCk I s h l ne) {e p : Nat} (he : e ≤ ne) (hp : p < lPorts l) : CL xs 128 [vr s, vi ((e : Nat) : Int), vi ((p : Nat) : Int)] (S, I, T, cc, zz) (RP S T cc zz (fun v9 I' => v9 = some (vi ((fillP h (runA h l noOut e).1 p : Nat) : Int)) ∧ fr I I' (s + 52) (s + 71) ∧ tmR I' s)) := by
  refine CL_start (r := 6) (ls := [vr s, vi ((e : Nat) : Int), vi ((p : Nat) : Int)]) (rk_128 _) rfl ?_
  have hl4 := K.2.2.2.2.2.2.2.1.1
  have hle := ltC_le (e := e) (ne := ne)
  have hA : (runF h l noOut ((runA h l noOut (ltC e ne)).1, lo0) (ltC e ne) (e - ltC e ne)).1 = (runA h l noOut e).1 := by
    rw [rep_A B.2.2.2.2.1 (by omega), show ltC e ne + (e - ltC e ne) = e by omega]
  refine w_aln l_128_0 rfl ?_
  refine w_iln l_128_1 rfl ?_
  refine q_iv [vi ((e : Nat) : Int)] [] l_128_2 rfl rfl (Nat.le_of_ble_eq_true rfl) (by rw [mx_150]; exact Nat.le_of_ble_eq_true rfl) (by rw [mt_150]; exact oDropSwitch_sh o) (by rw [mt_150]; decide) (by rw [rk_150]; decide) (s_150 o K he) ?_
  refine w_aln l_128_5 rfl ?_
  refine w_iln l_128_6 rfl ?_
  refine q_iv [vi ((p : Nat) : Int)] [] l_128_7 rfl rfl (Nat.le_of_ble_eq_true rfl) (by rw [mx_147]; exact Nat.le_of_ble_eq_true rfl) (by rw [mt_147]; exact oDropSwitch_sh o) (by rw [mt_147]; decide) (by rw [rk_147]; decide) (s_147 o K hp) ?_
  refine w_aln l_128_10 rfl ?_
  refine w_iln l_128_11 rfl ?_
  refine p_iv [vi ((e : Nat) : Int)] [] l_128_12 rfl rfl (Nat.le_of_ble_eq_true rfl) (by rw [mx_160]; exact Nat.le_of_ble_eq_true rfl) (by rw [mt_160]; exact oDropSwitch_sh o) (by rw [mt_160]; decide) (by rw [rk_160]; decide) (s_160 o hq ck K B C he) (fun v I1 hv => ?_)
  obtain ⟨rfl, hR1, hL1, f1⟩ := hv
  refine w_aln l_128_15 rfl ?_
  refine w_gr l_128_16 (oDropSwitch_sh o) (oDropSwitch_r9 o) ?_
  refine w_gr l_128_19 (oRun_sh (oDropSwitch_o9 o)) (oRun_r1 (oDropSwitch_o9 o)) ?_
  refine w_gr l_128_22 (oState_sh (oRun_o1 (oDropSwitch_o9 o))) (oState_r3 (oRun_o1 (oDropSwitch_o9 o))) ?_
  refine w_iln l_128_25 rfl ?_
  refine w_ia p (((fillP h (runA h l noOut e).1 p) : Nat) : Int) l_128_26 (oState_s3 (oRun_o1 (oDropSwitch_o9 o))) rfl (by omega) (by rw [← hA]; exact hR1.1.2.2.2.1 p (by omega)) ?_
  refine w_ir l_128_27 (Or.inl rfl) ?_
  exact ⟨_, _, rfl, rfl, rfl, f1, hR1.tim⟩

theorem mx_129 : mxl 129 = 3 := by decide +kernel
theorem mt_129 : mtc 129 = 9 := by decide +kernel
theorem rk_129 (as : List AV) : rkA 129 as = 6 := rfl
theorem l_129_0 : look 129 0 = some (.aload_n 0, 1, 0, 0, 0, 0) := by decide +kernel
theorem l_129_1 : look 129 1 = some (.iload_n 1, 1, 0, 0, 0, 0) := by decide +kernel
theorem l_129_2 : look 129 2 = some (.invokevirtual 254, 3, 150, 2, 0, 1318) := by decide +kernel
theorem l_129_5 : look 129 5 = some (.aload_n 0, 1, 0, 0, 0, 0) := by decide +kernel
theorem l_129_6 : look 129 6 = some (.iload_n 2, 1, 0, 0, 0, 0) := by decide +kernel
theorem l_129_7 : look 129 7 = some (.invokevirtual 153, 3, 153, 2, 0, 1088) := by decide +kernel
theorem l_129_10 : look 129 10 = some (.aload_n 0, 1, 0, 0, 0, 0) := by decide +kernel
theorem l_129_11 : look 129 11 = some (.iload_n 1, 1, 0, 0, 0, 0) := by decide +kernel
theorem l_129_12 : look 129 12 = some (.invokevirtual 260, 3, 160, 2, 0, 1334) := by decide +kernel
theorem l_129_15 : look 129 15 = some (.aload_n 0, 1, 0, 0, 0, 0) := by decide +kernel
theorem l_129_16 : look 129 16 = some (.getfield 61, 3, 9, 9, 2, 547) := by decide +kernel
theorem l_129_19 : look 129 19 = some (.getfield 140, 3, 5, 1, 2, 449) := by decide +kernel
theorem l_129_22 : look 129 22 = some (.iload_n 2, 1, 0, 0, 0, 0) := by decide +kernel
theorem l_129_23 : look 129 23 = some (.aload_n 0, 1, 0, 0, 0, 0) := by decide +kernel
theorem l_129_24 : look 129 24 = some (.getfield 61, 3, 9, 9, 2, 547) := by decide +kernel
theorem l_129_27 : look 129 27 = some (.getfield 218, 3, 5, 0, 2, 447) := by decide +kernel
theorem l_129_30 : look 129 30 = some (.getfield 225, 3, 1, 7, 0, 209) := by decide +kernel
theorem l_129_33 : look 129 33 = some (.invokevirtual 228, 3, 90, 3, 0, 614) := by decide +kernel
theorem l_129_36 : look 129 36 = some (.ireturn, 1, 0, 0, 0, 0) := by decide +kernel

theorem s_129 (hq : s < q ∧ q + 8 < s + 21) (ck : oCk S T s) (o : oDropSwitch S T s q y) {ne np : Nat} {a : Nat → Nat} (K : KQ I s q h l a ne np) (B : KB I s h l a ne np) (C : cCk I s h l ne) {e p : Nat} (he : e ≤ ne) (hp : p < 64) : CL xs 129 [vr s, vi ((e : Nat) : Int), vi ((p : Nat) : Int)] (S, I, T, cc, zz) (RP S T cc zz (fun v9 I' => v9 = some (vi (ruleI (validA l (runA h l noOut e).1 p))) ∧ fr I I' (s + 52) (s + 71) ∧ tmR I' s)) := by
  refine CL_start (r := 6) (ls := [vr s, vi ((e : Nat) : Int), vi ((p : Nat) : Int)]) (rk_129 _) rfl ?_
  have hl4 := K.2.2.2.2.2.2.2.1.1
  have hle := ltC_le (e := e) (ne := ne)
  have hA : (runF h l noOut ((runA h l noOut (ltC e ne)).1, lo0) (ltC e ne) (e - ltC e ne)).1 = (runA h l noOut e).1 := by
    rw [rep_A B.2.2.2.2.1 (by omega), show ltC e ne + (e - ltC e ne) = e by omega]
  refine w_aln l_129_0 rfl ?_
  refine w_iln l_129_1 rfl ?_
  refine q_iv [vi ((e : Nat) : Int)] [] l_129_2 rfl rfl (Nat.le_of_ble_eq_true rfl) (by rw [mx_150]; exact Nat.le_of_ble_eq_true rfl) (by rw [mt_150]; exact oDropSwitch_sh o) (by rw [mt_150]; decide) (by rw [rk_150]; decide) (s_150 o K he) ?_
  refine w_aln l_129_5 rfl ?_
  refine w_iln l_129_6 rfl ?_
  refine q_iv [vi ((p : Nat) : Int)] [] l_129_7 rfl rfl (Nat.le_of_ble_eq_true rfl) (by rw [mx_153]; exact Nat.le_of_ble_eq_true rfl) (by rw [mt_153]; exact oDropSwitch_sh o) (by rw [mt_153]; decide) (by rw [rk_153]; decide) (s_153 o K hp) ?_
  refine w_aln l_129_10 rfl ?_
  refine w_iln l_129_11 rfl ?_
  refine p_iv [vi ((e : Nat) : Int)] [] l_129_12 rfl rfl (Nat.le_of_ble_eq_true rfl) (by rw [mx_160]; exact Nat.le_of_ble_eq_true rfl) (by rw [mt_160]; exact oDropSwitch_sh o) (by rw [mt_160]; decide) (by rw [rk_160]; decide) (s_160 o hq ck K B C he) (fun v I1 hv => ?_)
  obtain ⟨rfl, hR1, hL1, f1⟩ := hv
  refine w_aln l_129_15 rfl ?_
  refine w_gr l_129_16 (oDropSwitch_sh o) (oDropSwitch_r9 o) ?_
  refine w_gr l_129_19 (oRun_sh (oDropSwitch_o9 o)) (oRun_r1 (oDropSwitch_o9 o)) ?_
  refine w_iln l_129_22 rfl ?_
  refine w_aln l_129_23 rfl ?_
  refine w_gr l_129_24 (oDropSwitch_sh o) (oDropSwitch_r9 o) ?_
  refine w_gr l_129_27 (oRun_sh (oDropSwitch_o9 o)) (oRun_r0 (oDropSwitch_o9 o)) ?_
  refine w_gi (((lAge l) : Nat) : Int) l_129_30 (oLimits_sh (oRun_o0 (oDropSwitch_o9 o))) hL1.2.2.2.2.1 ?_
  refine q_iv [vi ((p : Nat) : Int), vi (((lAge l) : Nat) : Int)] [] l_129_33 rfl rfl (Nat.le_of_ble_eq_true rfl) (by rw [mx_90]; exact Nat.le_of_ble_eq_true rfl) (by rw [mt_90]; exact oState_sh (oRun_o1 (oDropSwitch_o9 o))) (by rw [mt_90]; decide) (by rw [rk_90]; decide) (c_wayTo (oDropSwitch_o9 o) hR1 hp (by rw [hA])) ?_
  refine w_ir l_129_36 (Or.inl rfl) ?_
  exact ⟨_, _, rfl, rfl, rfl, f1, hR1.tim⟩

theorem s_128n (o : oDropSwitch S T s q y) {ne np : Nat} {a : Nat → Nat} (K : KQ I s q h l a ne np) {e p : Int} (he : ¬ (0 ≤ e ∧ e ≤ ((ne : Nat) : Int))) (hc : 1 ≤ cc ∧ 6 ≤ zz) : CL xs 128 [vr s, vi e, vi p] (S, I, T, cc, zz) (TH 0 (S, I, T, cc - 1, zz - 6)) := by
  refine CL_start (r := 6) (ls := [vr s, vi e, vi p]) (rk_128 _) rfl ?_
  refine w_aln l_128_0 rfl ?_
  refine w_iln l_128_1 rfl ?_
  refine t_iv [vi e] [] l_128_2 rfl rfl (Nat.le_of_ble_eq_true rfl) (by rw [mx_150]; exact Nat.le_of_ble_eq_true rfl) (by rw [mt_150]; exact oDropSwitch_sh o) (by rw [mt_150]; decide) (by rw [rk_150]; decide) (s_150n o K he hc) (by decide +kernel) ?_
  exact ⟨rfl, rfl⟩

theorem s_129n (o : oDropSwitch S T s q y) {ne np : Nat} {a : Nat → Nat} (K : KQ I s q h l a ne np) {e p : Int} (he : ¬ (0 ≤ e ∧ e ≤ ((ne : Nat) : Int))) (hc : 1 ≤ cc ∧ 6 ≤ zz) : CL xs 129 [vr s, vi e, vi p] (S, I, T, cc, zz) (TH 0 (S, I, T, cc - 1, zz - 6)) := by
  refine CL_start (r := 6) (ls := [vr s, vi e, vi p]) (rk_129 _) rfl ?_
  refine w_aln l_129_0 rfl ?_
  refine w_iln l_129_1 rfl ?_
  refine t_iv [vi e] [] l_129_2 rfl rfl (Nat.le_of_ble_eq_true rfl) (by rw [mx_150]; exact Nat.le_of_ble_eq_true rfl) (by rw [mt_150]; exact oDropSwitch_sh o) (by rw [mt_150]; decide) (by rw [rk_150]; decide) (s_150n o K he hc) (by decide +kernel) ?_
  exact ⟨rfl, rfl⟩

theorem s_128m (o : oDropSwitch S T s q y) {ne np : Nat} {a : Nat → Nat} (K : KQ I s q h l a ne np) {e : Nat} {p : Int} (he : e ≤ ne) (hp : ¬ (0 ≤ p ∧ p < ((lPorts l : Nat) : Int))) (hc : 1 ≤ cc ∧ 6 ≤ zz) : CL xs 128 [vr s, vi ((e : Nat) : Int), vi p] (S, I, T, cc, zz) (TH 0 (S, I, T, cc - 1, zz - 6)) := by
  refine CL_start (r := 6) (ls := [vr s, vi ((e : Nat) : Int), vi p]) (rk_128 _) rfl ?_
  refine w_aln l_128_0 rfl ?_
  refine w_iln l_128_1 rfl ?_
  refine q_iv [vi ((e : Nat) : Int)] [] l_128_2 rfl rfl (Nat.le_of_ble_eq_true rfl) (by rw [mx_150]; exact Nat.le_of_ble_eq_true rfl) (by rw [mt_150]; exact oDropSwitch_sh o) (by rw [mt_150]; decide) (by rw [rk_150]; decide) (s_150 o K he) ?_
  refine w_aln l_128_5 rfl ?_
  refine w_iln l_128_6 rfl ?_
  refine t_iv [vi p] [] l_128_7 rfl rfl (Nat.le_of_ble_eq_true rfl) (by rw [mx_147]; exact Nat.le_of_ble_eq_true rfl) (by rw [mt_147]; exact oDropSwitch_sh o) (by rw [mt_147]; decide) (by rw [rk_147]; decide) (s_147n o K hp hc) (by decide +kernel) ?_
  exact ⟨rfl, rfl⟩

theorem s_129m (o : oDropSwitch S T s q y) {ne np : Nat} {a : Nat → Nat} (K : KQ I s q h l a ne np) {e : Nat} {p : Int} (he : e ≤ ne) (hp : ¬ (0 ≤ p ∧ p ≤ 63)) (hc : 1 ≤ cc ∧ 6 ≤ zz) : CL xs 129 [vr s, vi ((e : Nat) : Int), vi p] (S, I, T, cc, zz) (TH 1 (S, I, T, cc - 1, zz - 6)) := by
  refine CL_start (r := 6) (ls := [vr s, vi ((e : Nat) : Int), vi p]) (rk_129 _) rfl ?_
  refine w_aln l_129_0 rfl ?_
  refine w_iln l_129_1 rfl ?_
  refine q_iv [vi ((e : Nat) : Int)] [] l_129_2 rfl rfl (Nat.le_of_ble_eq_true rfl) (by rw [mx_150]; exact Nat.le_of_ble_eq_true rfl) (by rw [mt_150]; exact oDropSwitch_sh o) (by rw [mt_150]; decide) (by rw [rk_150]; decide) (s_150 o K he) ?_
  refine w_aln l_129_5 rfl ?_
  refine w_iln l_129_6 rfl ?_
  refine t_iv [vi p] [] l_129_7 rfl rfl (Nat.le_of_ble_eq_true rfl) (by rw [mx_153]; exact Nat.le_of_ble_eq_true rfl) (by rw [mt_153]; exact oDropSwitch_sh o) (by rw [mt_153]; decide) (by rw [rk_153]; decide) (s_153n o K hp hc) (by decide +kernel) ?_
  exact ⟨rfl, rfl⟩

end CFA
