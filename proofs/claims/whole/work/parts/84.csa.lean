/-! the class: what is supposed is asked -/
/-- all but the run of what is supposed -/
def mfg (I J : Ix) (s : Nat) : Prop := ∀ y z, (y < s + 75 ∨ s + 94 < y) → (y = s → z ≠ 13) → J y z = I y z
theorem mfg.two {I J : Ix} {s : Nat} (f : mfg I J s) : fr I (up I s 13 (J s 13)) s s ∧ fr (up I s 13 (J s 13)) J (s + 75) (s + 94) := by
  refine ⟨(fr.rf I s s).up (Nat.le_refl _) (Nat.le_refl _), fun y hy z => ?_⟩
  by_cases h9 : y = s ∧ z = 13
  · rw [h9.1, h9.2, up_eq]
  · by_cases hs : y = s
    · rw [f y z (by omega) (fun h8 h7 => h9 ⟨h8, h7⟩), hs, up_nj (fun h7 => h9 ⟨hs, h7⟩)]
    · rw [f y z (by omega) (fun h8 => absurd h8 hs), up_no hs]
theorem cR.tim {I : Ix} {s : Nat} {h : Hi} {l : Li} {r : Ra} (H : cR I s h l r) : ∀ b, b < 64 → ∃ t : Nat, I (s + 6 + 7) b = (t : Int) ∧ t ≤ 120 := fun b hb => (H.1.2.2.2.2.2 b hb).1
/-- what the class answers from of what is supposed -/
def KS (I : Ix) (s q : Nat) (h : Hi) (l : Li) (a : Nat → Nat) (ne np : Nat) (su : Su) : Prop := (s < q ∧ q + 8 < s + 21) ∧ KB I s h l a ne np ∧ cSu I (s + 72) su ∧ okSu su ∧ (∀ b, b < 64 → ∃ t : Nat, I (s + 75 + 6 + 7) b = (t : Int) ∧ t ≤ 120) ∧ (I s 13 = I s 12 → cR I (s + 75) h (supL l su) (runA h (supL l su) su.2.2.2 ne))
section CSA
variable {xs : List Int} {S : List (Nat × Nat)} {T : Nat → Nat → Nat} {cc zz s q y : Nat} {h : Hi} {l : Li} {I I' : Ix}

theorem t_162 (o : oDropSwitch S T s q y) {ne np : Nat} {a : Nat → Nat} (K : KQ I s q h l a ne np) {su : Su} (Z : KS I s q h l a ne np su) : CL xs 162 [vr s] (S, I, T, cc, zz) (RP S T cc zz (fun v I' => v = none ∧ cR I' (s + 75) h (supL l su) (runA h (supL l su) su.2.2.2 ne) ∧ I' s 13 = I s 12 ∧ mfg I I' s)) := by
  by_cases hv : I s 13 = I s 12
  · refine CL_mono (s_162v o hv) ?_
    rintro q9 m9 ⟨rfl, rfl⟩
    exact ⟨none, I, rfl, rfl, rfl, Z.2.2.2.2.2 hv, hv, fun _ _ _ _ => rfl⟩
  · exact s_162 o Z.1 Z.2.1 K.1 Z.2.2.1 Z.2.2.2.1 Z.2.2.2.2.1 hv

theorem mx_134 : mxl 134 = 1 := by decide +kernel
theorem mt_134 : mtc 134 = 9 := by decide +kernel
theorem rk_134 (as : List AV) : rkA 134 as = 6 := rfl
theorem l_134_0 : look 134 0 = some (.aload_n 0, 1, 0, 0, 0, 0) := by decide +kernel
theorem l_134_1 : look 134 1 = some (.invokevirtual 284, 3, 162, 1, 0, 638) := by decide +kernel
theorem l_134_4 : look 134 4 = some (.aload_n 0, 1, 0, 0, 0, 0) := by decide +kernel
theorem l_134_5 : look 134 5 = some (.getfield 71, 3, 9, 11, 2, 549) := by decide +kernel
theorem l_134_8 : look 134 8 = some (.getfield 131, 3, 5, 2, 2, 451) := by decide +kernel
theorem l_134_11 : look 134 11 = some (.getfield 135, 3, 3, 0, 0, 425) := by decide +kernel
theorem l_134_14 : look 134 14 = some (.ireturn, 1, 0, 0, 0, 0) := by decide +kernel

theorem s_134 (o : oDropSwitch S T s q y) {ne np : Nat} {a : Nat → Nat} (K : KQ I s q h l a ne np) {su : Su} (Z : KS I s q h l a ne np su)  : CL xs 134 [vr s] (S, I, T, cc, zz) (RP S T cc zz (fun v9 I' => v9 = some (vi (((runA h (supL l su) su.2.2.2 ne).2.1.length : Nat) : Int)) ∧ cR I' (s + 75) h (supL l su) (runA h (supL l su) su.2.2.2 ne) ∧ I' s 13 = I s 12 ∧ mfg I I' s)) := by
  refine CL_start (r := 6) (ls := [vr s]) (rk_134 _) rfl ?_
  have hl4 := K.2.2.2.2.2.2.2.1.1
  have hne := K.2.2.1.2.2.1
  have hnp := K.2.2.1.2.2.2.1
  refine w_aln l_134_0 rfl ?_
  refine p_iv [] [] l_134_1 rfl rfl (Nat.le_of_ble_eq_true rfl) (by rw [mx_162]; exact Nat.le_of_ble_eq_true rfl) (by rw [mt_162]; exact oDropSwitch_sh o) (by rw [mt_162]; decide) (by rw [rk_162]; decide) (t_162 o K Z) (fun v I1 hv => ?_)
  obtain ⟨rfl, hR1, e1, f1⟩ := hv
  refine w_aln l_134_4 rfl ?_
  refine w_gr l_134_5 (oDropSwitch_sh o) (oDropSwitch_r11 o) ?_
  refine w_gr l_134_8 (oRun_sh (oDropSwitch_o11 o)) (oRun_r2 (oDropSwitch_o11 o)) ?_
  refine w_gi (((runA h (supL l su) su.2.2.2 ne).2.1.length : Nat) : Int) l_134_11 (oLog_sh (oRun_o2 (oDropSwitch_o11 o))) hR1.2.1.1 ?_
  refine w_ir l_134_14 (Or.inl rfl) ?_
  exact ⟨_, _, rfl, rfl, rfl, hR1, e1, f1⟩

theorem mx_135 : mxl 135 = 2 := by decide +kernel
theorem mt_135 : mtc 135 = 9 := by decide +kernel
theorem rk_135 (as : List AV) : rkA 135 as = 6 := rfl
theorem l_135_0 : look 135 0 = some (.aload_n 0, 1, 0, 0, 0, 0) := by decide +kernel
theorem l_135_1 : look 135 1 = some (.iload_n 1, 1, 0, 0, 0, 0) := by decide +kernel
theorem l_135_2 : look 135 2 = some (.invokevirtual 243, 3, 154, 2, 0, 1281) := by decide +kernel
theorem l_135_5 : look 135 5 = some (.aload_n 0, 1, 0, 0, 0, 0) := by decide +kernel
theorem l_135_6 : look 135 6 = some (.invokevirtual 284, 3, 162, 1, 0, 638) := by decide +kernel
theorem l_135_9 : look 135 9 = some (.aload_n 0, 1, 0, 0, 0, 0) := by decide +kernel
theorem l_135_10 : look 135 10 = some (.getfield 71, 3, 9, 11, 2, 549) := by decide +kernel
theorem l_135_13 : look 135 13 = some (.getfield 131, 3, 5, 2, 2, 451) := by decide +kernel
theorem l_135_16 : look 135 16 = some (.iload_n 1, 1, 0, 0, 0, 0) := by decide +kernel
theorem l_135_17 : look 135 17 = some (.invokevirtual 246, 3, 25, 2, 0, 1285) := by decide +kernel
theorem l_135_20 : look 135 20 = some (.ireturn, 1, 0, 0, 0, 0) := by decide +kernel

theorem s_135 (o : oDropSwitch S T s q y) {ne np : Nat} {a : Nat → Nat} (K : KQ I s q h l a ne np) {su : Su} (Z : KS I s q h l a ne np su) {p : Nat} (hp : 1 ≤ p ∧ p ≤ 10) : CL xs 135 [vr s, vi ((p : Nat) : Int)] (S, I, T, cc, zz) (RP S T cc zz (fun v9 I' => v9 = some (vi ((cntK (isBy ((p : Nat) : Int)) (runA h (supL l su) su.2.2.2 ne).2.1 (runA h (supL l su) su.2.2.2 ne).2.1.length : Nat) : Int)) ∧ cR I' (s + 75) h (supL l su) (runA h (supL l su) su.2.2.2 ne) ∧ I' s 13 = I s 12 ∧ mfg I I' s)) := by
  refine CL_start (r := 6) (ls := [vr s, vi ((p : Nat) : Int)]) (rk_135 _) rfl ?_
  have hl4 := K.2.2.2.2.2.2.2.1.1
  have hne := K.2.2.1.2.2.1
  have hnp := K.2.2.1.2.2.2.1
  refine w_aln l_135_0 rfl ?_
  refine w_iln l_135_1 rfl ?_
  refine q_iv [vi ((p : Nat) : Int)] [] l_135_2 rfl rfl (Nat.le_of_ble_eq_true rfl) (by rw [mx_154]; exact Nat.le_of_ble_eq_true rfl) (by rw [mt_154]; exact oDropSwitch_sh o) (by rw [mt_154]; decide) (by rw [rk_154]; decide) (s_154 o K hp) ?_
  refine w_aln l_135_5 rfl ?_
  refine p_iv [] [] l_135_6 rfl rfl (Nat.le_of_ble_eq_true rfl) (by rw [mx_162]; exact Nat.le_of_ble_eq_true rfl) (by rw [mt_162]; exact oDropSwitch_sh o) (by rw [mt_162]; decide) (by rw [rk_162]; decide) (t_162 o K Z) (fun v I1 hv => ?_)
  obtain ⟨rfl, hR1, e1, f1⟩ := hv
  refine w_aln l_135_9 rfl ?_
  refine w_gr l_135_10 (oDropSwitch_sh o) (oDropSwitch_r11 o) ?_
  refine w_gr l_135_13 (oRun_sh (oDropSwitch_o11 o)) (oRun_r2 (oDropSwitch_o11 o)) ?_
  refine w_iln l_135_16 rfl ?_
  refine q_iv [vi ((p : Nat) : Int)] [] l_135_17 rfl rfl (Nat.le_of_ble_eq_true rfl) (by rw [mx_25]; exact Nat.le_of_ble_eq_true rfl) (by rw [mt_25]; exact oLog_sh (oRun_o2 (oDropSwitch_o11 o))) (by rw [mt_25]; decide) (by rw [rk_25]; decide) (s_25 (oRun_o2 (oDropSwitch_o11 o)) hR1.2) ?_
  refine w_ir l_135_20 (Or.inl rfl) ?_
  exact ⟨_, _, rfl, rfl, rfl, hR1, e1, f1⟩

theorem s_135n (o : oDropSwitch S T s q y) {ne np : Nat} {a : Nat → Nat} (K : KQ I s q h l a ne np) {p : Int} (hp : ¬ (1 ≤ p ∧ p ≤ 10)) (hc : 1 ≤ cc ∧ 6 ≤ zz) : CL xs 135 [vr s, vi p] (S, I, T, cc, zz) (TH 1 (S, I, T, cc - 1, zz - 6)) := by
  refine CL_start (r := 6) (ls := [vr s, vi p]) (rk_135 _) rfl ?_
  refine w_aln l_135_0 rfl ?_
  refine w_iln l_135_1 rfl ?_
  refine t_iv [vi p] [] l_135_2 rfl rfl (Nat.le_of_ble_eq_true rfl) (by rw [mx_154]; exact Nat.le_of_ble_eq_true rfl) (by rw [mt_154]; exact oDropSwitch_sh o) (by rw [mt_154]; decide) (by rw [rk_154]; decide) (s_154n o K hp hc) (by decide +kernel) ?_
  exact ⟨rfl, rfl⟩

theorem mx_136 : mxl 136 = 3 := by decide +kernel
theorem mt_136 : mtc 136 = 9 := by decide +kernel
theorem rk_136 (as : List AV) : rkA 136 as = 6 := rfl
theorem l_136_0 : look 136 0 = some (.aload_n 0, 1, 0, 0, 0, 0) := by decide +kernel
theorem l_136_1 : look 136 1 = some (.iload_n 1, 1, 0, 0, 0, 0) := by decide +kernel
theorem l_136_2 : look 136 2 = some (.invokevirtual 199, 3, 151, 2, 0, 1191) := by decide +kernel
theorem l_136_5 : look 136 5 = some (.aload_n 0, 1, 0, 0, 0, 0) := by decide +kernel
theorem l_136_6 : look 136 6 = some (.iload_n 2, 1, 0, 0, 0, 0) := by decide +kernel
theorem l_136_7 : look 136 7 = some (.invokevirtual 150, 3, 147, 2, 0, 1069) := by decide +kernel
theorem l_136_10 : look 136 10 = some (.aload_n 0, 1, 0, 0, 0, 0) := by decide +kernel
theorem l_136_11 : look 136 11 = some (.invokevirtual 284, 3, 162, 1, 0, 638) := by decide +kernel
theorem l_136_14 : look 136 14 = some (.aload_n 0, 1, 0, 0, 0, 0) := by decide +kernel
theorem l_136_15 : look 136 15 = some (.getfield 71, 3, 9, 11, 2, 549) := by decide +kernel
theorem l_136_18 : look 136 18 = some (.getfield 131, 3, 5, 2, 2, 451) := by decide +kernel
theorem l_136_21 : look 136 21 = some (.iload_n 1, 1, 0, 0, 0, 0) := by decide +kernel
theorem l_136_22 : look 136 22 = some (.iload_n 2, 1, 0, 0, 0, 0) := by decide +kernel
theorem l_136_23 : look 136 23 = some (.invokevirtual 234, 3, 22, 3, 0, 1254) := by decide +kernel
theorem l_136_26 : look 136 26 = some (.ireturn, 1, 0, 0, 0, 0) := by decide +kernel

theorem s_136 (o : oDropSwitch S T s q y) {ne np : Nat} {a : Nat → Nat} (K : KQ I s q h l a ne np) {su : Su} (Z : KS I s q h l a ne np su) {k p : Nat} (hk : k < np) (hp : p < lPorts l) : CL xs 136 [vr s, vi ((k : Nat) : Int), vi ((p : Nat) : Int)] (S, I, T, cc, zz) (RP S T cc zz (fun v9 I' => v9 = some (vi (((runA h (supL l su) su.2.2.2 ne).2.2.1 k (p + 1) : Nat) : Int)) ∧ cR I' (s + 75) h (supL l su) (runA h (supL l su) su.2.2.2 ne) ∧ I' s 13 = I s 12 ∧ mfg I I' s)) := by
  refine CL_start (r := 6) (ls := [vr s, vi ((k : Nat) : Int), vi ((p : Nat) : Int)]) (rk_136 _) rfl ?_
  have hl4 := K.2.2.2.2.2.2.2.1.1
  have hne := K.2.2.1.2.2.1
  have hnp := K.2.2.1.2.2.2.1
  have hp4 : p < 4 := by omega
  refine w_aln l_136_0 rfl ?_
  refine w_iln l_136_1 rfl ?_
  refine q_iv [vi ((k : Nat) : Int)] [] l_136_2 rfl rfl (Nat.le_of_ble_eq_true rfl) (by rw [mx_151]; exact Nat.le_of_ble_eq_true rfl) (by rw [mt_151]; exact oDropSwitch_sh o) (by rw [mt_151]; decide) (by rw [rk_151]; decide) (s_151 o K hk) ?_
  refine w_aln l_136_5 rfl ?_
  refine w_iln l_136_6 rfl ?_
  refine q_iv [vi ((p : Nat) : Int)] [] l_136_7 rfl rfl (Nat.le_of_ble_eq_true rfl) (by rw [mx_147]; exact Nat.le_of_ble_eq_true rfl) (by rw [mt_147]; exact oDropSwitch_sh o) (by rw [mt_147]; decide) (by rw [rk_147]; decide) (s_147 o K hp) ?_
  refine w_aln l_136_10 rfl ?_
  refine p_iv [] [] l_136_11 rfl rfl (Nat.le_of_ble_eq_true rfl) (by rw [mx_162]; exact Nat.le_of_ble_eq_true rfl) (by rw [mt_162]; exact oDropSwitch_sh o) (by rw [mt_162]; decide) (by rw [rk_162]; decide) (t_162 o K Z) (fun v I1 hv => ?_)
  obtain ⟨rfl, hR1, e1, f1⟩ := hv
  refine w_aln l_136_14 rfl ?_
  refine w_gr l_136_15 (oDropSwitch_sh o) (oDropSwitch_r11 o) ?_
  refine w_gr l_136_18 (oRun_sh (oDropSwitch_o11 o)) (oRun_r2 (oDropSwitch_o11 o)) ?_
  refine w_iln l_136_21 rfl ?_
  refine w_iln l_136_22 rfl ?_
  refine q_iv [vi ((k : Nat) : Int), vi ((p : Nat) : Int)] [] l_136_23 rfl rfl (Nat.le_of_ble_eq_true rfl) (by rw [mx_22]; exact Nat.le_of_ble_eq_true rfl) (by rw [mt_22]; exact oLog_sh (oRun_o2 (oDropSwitch_o11 o))) (by rw [mt_22]; decide) (by rw [rk_22]; decide) (t_fate (oRun_o2 (oDropSwitch_o11 o)) hR1.2 (P := ((p : Nat) : Int)) (by omega) (by omega)) ?_
  refine w_ir l_136_26 (Or.inl rfl) ?_
  exact ⟨_, _, rfl, rfl, rfl, hR1, e1, f1⟩

theorem s_136n (o : oDropSwitch S T s q y) {ne np : Nat} {a : Nat → Nat} (K : KQ I s q h l a ne np) {k p : Int} (hk : ¬ (0 ≤ k ∧ k < ((np : Nat) : Int))) (hc : 1 ≤ cc ∧ 6 ≤ zz) : CL xs 136 [vr s, vi k, vi p] (S, I, T, cc, zz) (TH 0 (S, I, T, cc - 1, zz - 6)) := by
  refine CL_start (r := 6) (ls := [vr s, vi k, vi p]) (rk_136 _) rfl ?_
  refine w_aln l_136_0 rfl ?_
  refine w_iln l_136_1 rfl ?_
  refine t_iv [vi k] [] l_136_2 rfl rfl (Nat.le_of_ble_eq_true rfl) (by rw [mx_151]; exact Nat.le_of_ble_eq_true rfl) (by rw [mt_151]; exact oDropSwitch_sh o) (by rw [mt_151]; decide) (by rw [rk_151]; decide) (s_151n o K hk hc) (by decide +kernel) ?_
  exact ⟨rfl, rfl⟩

theorem s_136m (o : oDropSwitch S T s q y) {ne np : Nat} {a : Nat → Nat} (K : KQ I s q h l a ne np) {k : Nat} {p : Int} (hk : k < np) (hp : ¬ (0 ≤ p ∧ p < ((lPorts l : Nat) : Int))) (hc : 1 ≤ cc ∧ 6 ≤ zz) : CL xs 136 [vr s, vi ((k : Nat) : Int), vi p] (S, I, T, cc, zz) (TH 0 (S, I, T, cc - 1, zz - 6)) := by
  refine CL_start (r := 6) (ls := [vr s, vi ((k : Nat) : Int), vi p]) (rk_136 _) rfl ?_
  refine w_aln l_136_0 rfl ?_
  refine w_iln l_136_1 rfl ?_
  refine q_iv [vi ((k : Nat) : Int)] [] l_136_2 rfl rfl (Nat.le_of_ble_eq_true rfl) (by rw [mx_151]; exact Nat.le_of_ble_eq_true rfl) (by rw [mt_151]; exact oDropSwitch_sh o) (by rw [mt_151]; decide) (by rw [rk_151]; decide) (s_151 o K hk) ?_
  refine w_aln l_136_5 rfl ?_
  refine w_iln l_136_6 rfl ?_
  refine t_iv [vi p] [] l_136_7 rfl rfl (Nat.le_of_ble_eq_true rfl) (by rw [mx_147]; exact Nat.le_of_ble_eq_true rfl) (by rw [mt_147]; exact oDropSwitch_sh o) (by rw [mt_147]; decide) (by rw [rk_147]; decide) (s_147n o K hp hc) (by decide +kernel) ?_
  exact ⟨rfl, rfl⟩

theorem mx_137 : mxl 137 = 2 := by decide +kernel
theorem mt_137 : mtc 137 = 9 := by decide +kernel
theorem rk_137 (as : List AV) : rkA 137 as = 6 := rfl
theorem l_137_0 : look 137 0 = some (.aload_n 0, 1, 0, 0, 0, 0) := by decide +kernel
theorem l_137_1 : look 137 1 = some (.iload_n 1, 1, 0, 0, 0, 0) := by decide +kernel
theorem l_137_2 : look 137 2 = some (.invokevirtual 150, 3, 147, 2, 0, 1069) := by decide +kernel
theorem l_137_5 : look 137 5 = some (.aload_n 0, 1, 0, 0, 0, 0) := by decide +kernel
theorem l_137_6 : look 137 6 = some (.invokevirtual 284, 3, 162, 1, 0, 638) := by decide +kernel
theorem l_137_9 : look 137 9 = some (.aload_n 0, 1, 0, 0, 0, 0) := by decide +kernel
theorem l_137_10 : look 137 10 = some (.getfield 71, 3, 9, 11, 2, 549) := by decide +kernel
theorem l_137_13 : look 137 13 = some (.getfield 131, 3, 5, 2, 2, 451) := by decide +kernel
theorem l_137_16 : look 137 16 = some (.getfield 231, 3, 3, 3, 2, 429) := by decide +kernel
theorem l_137_19 : look 137 19 = some (.iload_n 1, 1, 0, 0, 0, 0) := by decide +kernel
theorem l_137_20 : look 137 20 = some (.iaload, 1, 0, 0, 0, 0) := by decide +kernel
theorem l_137_21 : look 137 21 = some (.ireturn, 1, 0, 0, 0, 0) := by decide +kernel

theorem s_137 (o : oDropSwitch S T s q y) {ne np : Nat} {a : Nat → Nat} (K : KQ I s q h l a ne np) {su : Su} (Z : KS I s q h l a ne np su) {p : Nat} (hp : p < lPorts l) : CL xs 137 [vr s, vi ((p : Nat) : Int)] (S, I, T, cc, zz) (RP S T cc zz (fun v9 I' => v9 = some (vi (((runA h (supL l su) su.2.2.2 ne).2.2.2 p : Nat) : Int)) ∧ cR I' (s + 75) h (supL l su) (runA h (supL l su) su.2.2.2 ne) ∧ I' s 13 = I s 12 ∧ mfg I I' s)) := by
  refine CL_start (r := 6) (ls := [vr s, vi ((p : Nat) : Int)]) (rk_137 _) rfl ?_
  have hl4 := K.2.2.2.2.2.2.2.1.1
  have hne := K.2.2.1.2.2.1
  have hnp := K.2.2.1.2.2.2.1
  have hp4 : p < 4 := by omega
  refine w_aln l_137_0 rfl ?_
  refine w_iln l_137_1 rfl ?_
  refine q_iv [vi ((p : Nat) : Int)] [] l_137_2 rfl rfl (Nat.le_of_ble_eq_true rfl) (by rw [mx_147]; exact Nat.le_of_ble_eq_true rfl) (by rw [mt_147]; exact oDropSwitch_sh o) (by rw [mt_147]; decide) (by rw [rk_147]; decide) (s_147 o K hp) ?_
  refine w_aln l_137_5 rfl ?_
  refine p_iv [] [] l_137_6 rfl rfl (Nat.le_of_ble_eq_true rfl) (by rw [mx_162]; exact Nat.le_of_ble_eq_true rfl) (by rw [mt_162]; exact oDropSwitch_sh o) (by rw [mt_162]; decide) (by rw [rk_162]; decide) (t_162 o K Z) (fun v I1 hv => ?_)
  obtain ⟨rfl, hR1, e1, f1⟩ := hv
  refine w_aln l_137_9 rfl ?_
  refine w_gr l_137_10 (oDropSwitch_sh o) (oDropSwitch_r11 o) ?_
  refine w_gr l_137_13 (oRun_sh (oDropSwitch_o11 o)) (oRun_r2 (oDropSwitch_o11 o)) ?_
  refine w_gr l_137_16 (oLog_sh (oRun_o2 (oDropSwitch_o11 o))) (oLog_r3 (oRun_o2 (oDropSwitch_o11 o))) ?_
  refine w_iln l_137_19 rfl ?_
  refine w_ia p ((((runA h (supL l su) su.2.2.2 ne).2.2.2 p) : Nat) : Int) l_137_20 (oLog_s3 (oRun_o2 (oDropSwitch_o11 o))) rfl (by omega) (hR1.2.2.2.2 p hp4) ?_
  refine w_ir l_137_21 (Or.inl rfl) ?_
  exact ⟨_, _, rfl, rfl, rfl, hR1, e1, f1⟩

theorem s_137n (o : oDropSwitch S T s q y) {ne np : Nat} {a : Nat → Nat} (K : KQ I s q h l a ne np) {p : Int} (hp : ¬ (0 ≤ p ∧ p < ((lPorts l : Nat) : Int))) (hc : 1 ≤ cc ∧ 6 ≤ zz) : CL xs 137 [vr s, vi p] (S, I, T, cc, zz) (TH 0 (S, I, T, cc - 1, zz - 6)) := by
  refine CL_start (r := 6) (ls := [vr s, vi p]) (rk_137 _) rfl ?_
  refine w_aln l_137_0 rfl ?_
  refine w_iln l_137_1 rfl ?_
  refine t_iv [vi p] [] l_137_2 rfl rfl (Nat.le_of_ble_eq_true rfl) (by rw [mx_147]; exact Nat.le_of_ble_eq_true rfl) (by rw [mt_147]; exact oDropSwitch_sh o) (by rw [mt_147]; decide) (by rw [rk_147]; decide) (s_147n o K hp hc) (by decide +kernel) ?_
  exact ⟨rfl, rfl⟩

theorem mx_138 : mxl 138 = 1 := by decide +kernel
theorem mt_138 : mtc 138 = 9 := by decide +kernel
theorem rk_138 (as : List AV) : rkA 138 as = 6 := rfl
theorem l_138_0 : look 138 0 = some (.aload_n 0, 1, 0, 0, 0, 0) := by decide +kernel
theorem l_138_1 : look 138 1 = some (.invokevirtual 284, 3, 162, 1, 0, 638) := by decide +kernel
theorem l_138_4 : look 138 4 = some (.aload_n 0, 1, 0, 0, 0, 0) := by decide +kernel
theorem l_138_5 : look 138 5 = some (.getfield 57, 3, 9, 8, 2, 546) := by decide +kernel
theorem l_138_8 : look 138 8 = some (.getfield 131, 3, 5, 2, 2, 451) := by decide +kernel
theorem l_138_11 : look 138 11 = some (.aload_n 0, 1, 0, 0, 0, 0) := by decide +kernel
theorem l_138_12 : look 138 12 = some (.getfield 71, 3, 9, 11, 2, 549) := by decide +kernel
theorem l_138_15 : look 138 15 = some (.getfield 131, 3, 5, 2, 2, 451) := by decide +kernel
theorem l_138_18 : look 138 18 = some (.invokevirtual 287, 3, 28, 2, 0, 787) := by decide +kernel
theorem l_138_21 : look 138 21 = some (.ireturn, 1, 0, 0, 0, 0) := by decide +kernel

theorem s_138 (o : oDropSwitch S T s q y) {ne np : Nat} {a : Nat → Nat} (K : KQ I s q h l a ne np) {su : Su} (Z : KS I s q h l a ne np su)  : CL xs 138 [vr s] (S, I, T, cc, zz) (RP S T cc zz (fun v9 I' => v9 = some (vi ((cntK (lacks (runA h (supL l su) su.2.2.2 ne).2) (runA h l noOut ne).2.1 (runA h l noOut ne).2.1.length : Nat) : Int)) ∧ cR I' (s + 75) h (supL l su) (runA h (supL l su) su.2.2.2 ne) ∧ I' s 13 = I s 12 ∧ mfg I I' s)) := by
  refine CL_start (r := 6) (ls := [vr s]) (rk_138 _) rfl ?_
  have hl4 := K.2.2.2.2.2.2.2.1.1
  have hne := K.2.2.1.2.2.1
  have hnp := K.2.2.1.2.2.2.1
  have hdr : okDr (runA h l noOut ne).2.1 := run_okDr K.2.2.2.2.2.2.2.1 K.2.2.2.2.2.2.2.2.1 K.2.2.2.2.2.2.2.2.2 hne (Nat.le_refl ne)
  refine w_aln l_138_0 rfl ?_
  refine p_iv [] [] l_138_1 rfl rfl (Nat.le_of_ble_eq_true rfl) (by rw [mx_162]; exact Nat.le_of_ble_eq_true rfl) (by rw [mt_162]; exact oDropSwitch_sh o) (by rw [mt_162]; decide) (by rw [rk_162]; decide) (t_162 o K Z) (fun v I1 hv => ?_)
  obtain ⟨rfl, hR1, e1, f1⟩ := hv
  have hP1 := (K.2.2.2.1.2.fr f1.two.1 (Or.inl (by omega))).fr f1.two.2 (Or.inr (by omega))
  refine w_aln l_138_4 rfl ?_
  refine w_gr l_138_5 (oDropSwitch_sh o) (oDropSwitch_r8 o) ?_
  refine w_gr l_138_8 (oRun_sh (oDropSwitch_o8 o)) (oRun_r2 (oDropSwitch_o8 o)) ?_
  refine w_aln l_138_11 rfl ?_
  refine w_gr l_138_12 (oDropSwitch_sh o) (oDropSwitch_r11 o) ?_
  refine w_gr l_138_15 (oRun_sh (oDropSwitch_o11 o)) (oRun_r2 (oDropSwitch_o11 o)) ?_
  refine q_iv [vr (s + 75 + 14)] [] l_138_18 rfl rfl (Nat.le_of_ble_eq_true rfl) (by rw [mx_28]; exact Nat.le_of_ble_eq_true rfl) (by rw [mt_28]; exact oLog_sh (oRun_o2 (oDropSwitch_o8 o))) (by rw [mt_28]; decide) (by rw [rk_28]; decide) (s_28 (oRun_o2 (oDropSwitch_o8 o)) (oRun_o2 (oDropSwitch_o11 o)) hP1 hR1.2 hdr) ?_
  refine w_ir l_138_21 (Or.inl rfl) ?_
  exact ⟨_, _, rfl, rfl, rfl, hR1, e1, f1⟩

theorem mx_139 : mxl 139 = 1 := by decide +kernel
theorem mt_139 : mtc 139 = 9 := by decide +kernel
theorem rk_139 (as : List AV) : rkA 139 as = 6 := rfl
theorem l_139_0 : look 139 0 = some (.aload_n 0, 1, 0, 0, 0, 0) := by decide +kernel
theorem l_139_1 : look 139 1 = some (.invokevirtual 284, 3, 162, 1, 0, 638) := by decide +kernel
theorem l_139_4 : look 139 4 = some (.aload_n 0, 1, 0, 0, 0, 0) := by decide +kernel
theorem l_139_5 : look 139 5 = some (.getfield 71, 3, 9, 11, 2, 549) := by decide +kernel
theorem l_139_8 : look 139 8 = some (.getfield 131, 3, 5, 2, 2, 451) := by decide +kernel
theorem l_139_11 : look 139 11 = some (.aload_n 0, 1, 0, 0, 0, 0) := by decide +kernel
theorem l_139_12 : look 139 12 = some (.getfield 57, 3, 9, 8, 2, 546) := by decide +kernel
theorem l_139_15 : look 139 15 = some (.getfield 131, 3, 5, 2, 2, 451) := by decide +kernel
theorem l_139_18 : look 139 18 = some (.invokevirtual 287, 3, 28, 2, 0, 787) := by decide +kernel
theorem l_139_21 : look 139 21 = some (.ireturn, 1, 0, 0, 0, 0) := by decide +kernel

theorem s_139 (o : oDropSwitch S T s q y) {ne np : Nat} {a : Nat → Nat} (K : KQ I s q h l a ne np) {su : Su} (Z : KS I s q h l a ne np su)  : CL xs 139 [vr s] (S, I, T, cc, zz) (RP S T cc zz (fun v9 I' => v9 = some (vi ((cntK (lacks (runA h l noOut ne).2) (runA h (supL l su) su.2.2.2 ne).2.1 (runA h (supL l su) su.2.2.2 ne).2.1.length : Nat) : Int)) ∧ cR I' (s + 75) h (supL l su) (runA h (supL l su) su.2.2.2 ne) ∧ I' s 13 = I s 12 ∧ mfg I I' s)) := by
  refine CL_start (r := 6) (ls := [vr s]) (rk_139 _) rfl ?_
  have hl4 := K.2.2.2.2.2.2.2.1.1
  have hne := K.2.2.1.2.2.1
  have hnp := K.2.2.1.2.2.2.1
  have hdr : okDr (runA h (supL l su) su.2.2.2 ne).2.1 := run_okDr (supL_ok K.2.2.2.2.2.2.2.1 Z.2.2.2.1) (okEv_1 (l' := (supL l su)) K.2.2.2.2.2.2.2.2.1 rfl) K.2.2.2.2.2.2.2.2.2 hne (Nat.le_refl ne)
  refine w_aln l_139_0 rfl ?_
  refine p_iv [] [] l_139_1 rfl rfl (Nat.le_of_ble_eq_true rfl) (by rw [mx_162]; exact Nat.le_of_ble_eq_true rfl) (by rw [mt_162]; exact oDropSwitch_sh o) (by rw [mt_162]; decide) (by rw [rk_162]; decide) (t_162 o K Z) (fun v I1 hv => ?_)
  obtain ⟨rfl, hR1, e1, f1⟩ := hv
  have hP1 := (K.2.2.2.1.2.fr f1.two.1 (Or.inl (by omega))).fr f1.two.2 (Or.inr (by omega))
  refine w_aln l_139_4 rfl ?_
  refine w_gr l_139_5 (oDropSwitch_sh o) (oDropSwitch_r11 o) ?_
  refine w_gr l_139_8 (oRun_sh (oDropSwitch_o11 o)) (oRun_r2 (oDropSwitch_o11 o)) ?_
  refine w_aln l_139_11 rfl ?_
  refine w_gr l_139_12 (oDropSwitch_sh o) (oDropSwitch_r8 o) ?_
  refine w_gr l_139_15 (oRun_sh (oDropSwitch_o8 o)) (oRun_r2 (oDropSwitch_o8 o)) ?_
  refine q_iv [vr (s + 32 + 14)] [] l_139_18 rfl rfl (Nat.le_of_ble_eq_true rfl) (by rw [mx_28]; exact Nat.le_of_ble_eq_true rfl) (by rw [mt_28]; exact oLog_sh (oRun_o2 (oDropSwitch_o11 o))) (by rw [mt_28]; decide) (by rw [rk_28]; decide) (s_28 (oRun_o2 (oDropSwitch_o11 o)) (oRun_o2 (oDropSwitch_o8 o)) hR1.2 hP1 hdr) ?_
  refine w_ir l_139_21 (Or.inl rfl) ?_
  exact ⟨_, _, rfl, rfl, rfl, hR1, e1, f1⟩

end CSA
