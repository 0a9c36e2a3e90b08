/-! the class: what the calls need; answers, 1 -/
/-- what a method does that throws x -/
def TH (x : Nat) (m : Mem) : Res → Mem → Prop := fun q m1 => q = .inr x ∧ m1 = m
section THR
variable {xs : List Int} {M r pc : Nat} {ls st : List AV} {S : List (Nat × Nat)} {I : Ix} {T : Nat → Nat → Nat} {cc zz : Nat} {Q : Res → Mem → Prop}
theorem t_iv {idx k j b d o x : Nat} {I' : Ix} {c' z' : Nat} (as rest : List AV) (h : look M pc = some (.invokevirtual idx, k, j, b, 0, d)) (hst : st = as.reverse ++ vr o :: rest) (h2 : as.length + 1 = b) (h3 : rest.length ≤ 4) (h4 : (lex (vr o :: as)).length ≤ mxl j) (hs : S[o]? = some (0, mtc j)) (hj : mtc j < 14) (hr : rkA j (vr o :: as) < r)
    (sp : CL xs j (vr o :: as) (S, I, T, cc, zz) (TH x (S, I', T, c', z'))) (hf : hfind M pc x = none) (kk : Q (.inr x) (S, I', T, c', z')) : WP xs M r pc ls st (S, I, T, cc, zz) Q :=
  w_iv as rest h rfl hst h2 h3 h4 hs hj hr (CL_mono sp (fun o m' ⟨h1, h2⟩ => by
    rw [h1, h2]
    show WX xs M r pc ls x _ Q
    unfold WX
    rw [hf]
    exact kk))
end THR
def pkC (h : Hi) (l : Li) (n : Nat) : Pk := fun p => pkA h l p n
/-- what the class answers the questions of the present from -/
def KQ (I : Ix) (s q : Nat) (h : Hi) (l : Li) (a : Nat → Nat) (ne np : Nat) : Prop := cLi I (q + 1) l ∧ I q 2 = (lRules l : Int) ∧ cH I (s + 21) h a ne np ∧ cR I (s + 32) h l (runA h l noOut ne) ∧ cP I (s + 46) (pkC h l ne) ∧ cLi I (s + 33) l ∧ okHi h ∧ okLi l ∧ okEv h l ne np ∧ okPk h ne
section KQS
variable {xs : List Int} {S : List (Nat × Nat)} {T : Nat → Nat → Nat} {cc zz s q y : Nat} {h : Hi} {l : Li} {I I' : Ix}

theorem mx_147 : mxl 147 = 2 := by decide +kernel
theorem mt_147 : mtc 147 = 9 := by decide +kernel
theorem rk_147 (as : List AV) : rkA 147 as = 0 := rfl
theorem l_147_0 : look 147 0 = some (.iload_n 1, 1, 0, 0, 0, 0) := by decide +kernel
theorem l_147_1 : look 147 1 = some (.ifCond .lt 17, 3, 0, 0, 0, 0) := by decide +kernel
theorem l_147_4 : look 147 4 = some (.iload_n 1, 1, 0, 0, 0, 0) := by decide +kernel
theorem l_147_5 : look 147 5 = some (.aload_n 0, 1, 0, 0, 0, 0) := by decide +kernel
theorem l_147_6 : look 147 6 = some (.getfield 35, 3, 9, 5, 2, 729) := by decide +kernel
theorem l_147_9 : look 147 9 = some (.getfield 113, 3, 6, 0, 2, 439) := by decide +kernel
theorem l_147_12 : look 147 12 = some (.getfield 117, 3, 1, 0, 0, 377) := by decide +kernel
theorem l_147_15 : look 147 15 = some (.if_icmp .lt 11, 3, 0, 0, 0, 0) := by decide +kernel
theorem l_147_18 : look 147 18 = some (.new 342, 3, 0, 0, 1, 152) := by decide +kernel
theorem l_147_21 : look 147 21 = some (.dup, 1, 0, 0, 0, 0) := by decide +kernel
theorem l_147_22 : look 147 22 = some (.invokespecial 344, 3, 0, 1, 99, 161) := by decide +kernel
theorem l_147_25 : look 147 25 = some (.athrow, 1, 0, 0, 0, 0) := by decide +kernel
theorem l_147_26 : look 147 26 = some (.return_, 1, 0, 0, 0, 0) := by decide +kernel
theorem s_147 (o : oDropSwitch S T s q y) {ne np : Nat} {a : Nat → Nat} (K : KQ I s q h l a ne np) {p : Nat} (hp : p < lPorts l) : CL xs 147 [vr s, vi ((p : Nat) : Int)] (S, I, T, cc, zz) (FN none (S, I, T, cc, zz)) := by
  refine CL_start (r := 0) (ls := [vr s, vi ((p : Nat) : Int)]) (rk_147 _) rfl ?_
  refine w_iln l_147_0 rfl ?_
  refine w_zlt 18 l_147_1 (by decide) (fun h1 => ?_) (fun h1 => ?_)
  · skip
    exfalso -- refine w_th l_147_18 ⟨hc.1, hc.2, Nat.le_of_ble_eq_true rfl⟩ ?_
    omega
  · skip
    refine w_iln l_147_4 rfl ?_
    refine w_aln l_147_5 rfl ?_
    refine w_gr l_147_6 (oDropSwitch_sh o) (oDropSwitch_r5 o) ?_
    refine w_gr l_147_9 (oSetup_sh (oDropSwitch_o5 o)) (oSetup_r0 (oDropSwitch_o5 o)) ?_
    refine w_gi (((lPorts l) : Nat) : Int) l_147_12 (oLimits_sh (oSetup_o0 (oDropSwitch_o5 o))) K.1.1 ?_
    refine w_clt 26 l_147_15 (by decide) (fun h2 => ?_) (fun h2 => ?_)
    · skip
      refine w_vr l_147_26 ?_
      exact ⟨rfl, rfl⟩
    · skip
      exfalso -- refine w_th l_147_18 ⟨hc.1, hc.2, Nat.le_of_ble_eq_true rfl⟩ ?_
      omega

theorem s_147n (o : oDropSwitch S T s q y) {ne np : Nat} {a : Nat → Nat} (K : KQ I s q h l a ne np) {p : Int} (hp : ¬ (0 ≤ p ∧ p < ((lPorts l : Nat) : Int))) (hc : 1 ≤ cc ∧ 6 ≤ zz) : CL xs 147 [vr s, vi p] (S, I, T, cc, zz) (TH 0 (S, I, T, cc - 1, zz - 6)) := by
  refine CL_start (r := 0) (ls := [vr s, vi p]) (rk_147 _) rfl ?_
  refine w_iln l_147_0 rfl ?_
  refine w_zlt 18 l_147_1 (by decide) (fun h1 => ?_) (fun h1 => ?_)
  · skip
    refine w_th l_147_18 ⟨hc.1, hc.2, Nat.le_of_ble_eq_true rfl⟩ ?_
    exact ⟨rfl, rfl⟩
  · skip
    refine w_iln l_147_4 rfl ?_
    refine w_aln l_147_5 rfl ?_
    refine w_gr l_147_6 (oDropSwitch_sh o) (oDropSwitch_r5 o) ?_
    refine w_gr l_147_9 (oSetup_sh (oDropSwitch_o5 o)) (oSetup_r0 (oDropSwitch_o5 o)) ?_
    refine w_gi (((lPorts l) : Nat) : Int) l_147_12 (oLimits_sh (oSetup_o0 (oDropSwitch_o5 o))) K.1.1 ?_
    refine w_clt 26 l_147_15 (by decide) (fun h2 => ?_) (fun h2 => ?_)
    · skip
      refine w_vr l_147_26 ?_
      exfalso
      omega
    · skip
      refine w_th l_147_18 ⟨hc.1, hc.2, Nat.le_of_ble_eq_true rfl⟩ ?_
      exact ⟨rfl, rfl⟩

theorem mx_149 : mxl 149 = 2 := by decide +kernel
theorem mt_149 : mtc 149 = 9 := by decide +kernel
theorem rk_149 (as : List AV) : rkA 149 as = 0 := rfl
theorem l_149_0 : look 149 0 = some (.iload_n 1, 1, 0, 0, 0, 0) := by decide +kernel
theorem l_149_1 : look 149 1 = some (.ifCond .lt 14, 3, 0, 0, 0, 0) := by decide +kernel
theorem l_149_4 : look 149 4 = some (.iload_n 1, 1, 0, 0, 0, 0) := by decide +kernel
theorem l_149_5 : look 149 5 = some (.aload_n 0, 1, 0, 0, 0, 0) := by decide +kernel
theorem l_149_6 : look 149 6 = some (.getfield 42, 3, 9, 6, 2, 730) := by decide +kernel
theorem l_149_9 : look 149 9 = some (.getfield 125, 3, 0, 0, 0, 507) := by decide +kernel
theorem l_149_12 : look 149 12 = some (.if_icmp .lt 11, 3, 0, 0, 0, 0) := by decide +kernel
theorem l_149_15 : look 149 15 = some (.new 342, 3, 0, 0, 1, 152) := by decide +kernel
theorem l_149_18 : look 149 18 = some (.dup, 1, 0, 0, 0, 0) := by decide +kernel
theorem l_149_19 : look 149 19 = some (.invokespecial 344, 3, 0, 1, 99, 161) := by decide +kernel
theorem l_149_22 : look 149 22 = some (.athrow, 1, 0, 0, 0, 0) := by decide +kernel
theorem l_149_23 : look 149 23 = some (.return_, 1, 0, 0, 0, 0) := by decide +kernel
theorem s_149 (o : oDropSwitch S T s q y) {ne np : Nat} {a : Nat → Nat} (K : KQ I s q h l a ne np) {p : Nat} (hp : p < ne) : CL xs 149 [vr s, vi ((p : Nat) : Int)] (S, I, T, cc, zz) (FN none (S, I, T, cc, zz)) := by
  refine CL_start (r := 0) (ls := [vr s, vi ((p : Nat) : Int)]) (rk_149 _) rfl ?_
  refine w_iln l_149_0 rfl ?_
  refine w_zlt 15 l_149_1 (by decide) (fun h1 => ?_) (fun h1 => ?_)
  · skip
    exfalso -- refine w_th l_149_15 ⟨hc.1, hc.2, Nat.le_of_ble_eq_true rfl⟩ ?_
    omega
  · skip
    refine w_iln l_149_4 rfl ?_
    refine w_aln l_149_5 rfl ?_
    refine w_gr l_149_6 (oDropSwitch_sh o) (oDropSwitch_r6 o) ?_
    refine w_gi ((ne : Nat) : Int) l_149_9 (oHistory_sh (oDropSwitch_o6 o)) K.2.2.1.1 ?_
    refine w_clt 23 l_149_12 (by decide) (fun h2 => ?_) (fun h2 => ?_)
    · skip
      refine w_vr l_149_23 ?_
      exact ⟨rfl, rfl⟩
    · skip
      exfalso -- refine w_th l_149_15 ⟨hc.1, hc.2, Nat.le_of_ble_eq_true rfl⟩ ?_
      omega

theorem s_149n (o : oDropSwitch S T s q y) {ne np : Nat} {a : Nat → Nat} (K : KQ I s q h l a ne np) {p : Int} (hp : ¬ (0 ≤ p ∧ p < ((ne : Nat) : Int))) (hc : 1 ≤ cc ∧ 6 ≤ zz) : CL xs 149 [vr s, vi p] (S, I, T, cc, zz) (TH 0 (S, I, T, cc - 1, zz - 6)) := by
  refine CL_start (r := 0) (ls := [vr s, vi p]) (rk_149 _) rfl ?_
  refine w_iln l_149_0 rfl ?_
  refine w_zlt 15 l_149_1 (by decide) (fun h1 => ?_) (fun h1 => ?_)
  · skip
    refine w_th l_149_15 ⟨hc.1, hc.2, Nat.le_of_ble_eq_true rfl⟩ ?_
    exact ⟨rfl, rfl⟩
  · skip
    refine w_iln l_149_4 rfl ?_
    refine w_aln l_149_5 rfl ?_
    refine w_gr l_149_6 (oDropSwitch_sh o) (oDropSwitch_r6 o) ?_
    refine w_gi ((ne : Nat) : Int) l_149_9 (oHistory_sh (oDropSwitch_o6 o)) K.2.2.1.1 ?_
    refine w_clt 23 l_149_12 (by decide) (fun h2 => ?_) (fun h2 => ?_)
    · skip
      refine w_vr l_149_23 ?_
      exfalso
      omega
    · skip
      refine w_th l_149_15 ⟨hc.1, hc.2, Nat.le_of_ble_eq_true rfl⟩ ?_
      exact ⟨rfl, rfl⟩

theorem mx_151 : mxl 151 = 2 := by decide +kernel
theorem mt_151 : mtc 151 = 9 := by decide +kernel
theorem rk_151 (as : List AV) : rkA 151 as = 0 := rfl
theorem l_151_0 : look 151 0 = some (.iload_n 1, 1, 0, 0, 0, 0) := by decide +kernel
theorem l_151_1 : look 151 1 = some (.ifCond .lt 14, 3, 0, 0, 0, 0) := by decide +kernel
theorem l_151_4 : look 151 4 = some (.iload_n 1, 1, 0, 0, 0, 0) := by decide +kernel
theorem l_151_5 : look 151 5 = some (.aload_n 0, 1, 0, 0, 0, 0) := by decide +kernel
theorem l_151_6 : look 151 6 = some (.getfield 42, 3, 9, 6, 2, 730) := by decide +kernel
theorem l_151_9 : look 151 9 = some (.getfield 128, 3, 0, 1, 0, 509) := by decide +kernel
theorem l_151_12 : look 151 12 = some (.if_icmp .lt 11, 3, 0, 0, 0, 0) := by decide +kernel
theorem l_151_15 : look 151 15 = some (.new 342, 3, 0, 0, 1, 152) := by decide +kernel
theorem l_151_18 : look 151 18 = some (.dup, 1, 0, 0, 0, 0) := by decide +kernel
theorem l_151_19 : look 151 19 = some (.invokespecial 344, 3, 0, 1, 99, 161) := by decide +kernel
theorem l_151_22 : look 151 22 = some (.athrow, 1, 0, 0, 0, 0) := by decide +kernel
theorem l_151_23 : look 151 23 = some (.return_, 1, 0, 0, 0, 0) := by decide +kernel
theorem s_151 (o : oDropSwitch S T s q y) {ne np : Nat} {a : Nat → Nat} (K : KQ I s q h l a ne np) {p : Nat} (hp : p < np) : CL xs 151 [vr s, vi ((p : Nat) : Int)] (S, I, T, cc, zz) (FN none (S, I, T, cc, zz)) := by
  refine CL_start (r := 0) (ls := [vr s, vi ((p : Nat) : Int)]) (rk_151 _) rfl ?_
  refine w_iln l_151_0 rfl ?_
  refine w_zlt 15 l_151_1 (by decide) (fun h1 => ?_) (fun h1 => ?_)
  · skip
    exfalso -- refine w_th l_151_15 ⟨hc.1, hc.2, Nat.le_of_ble_eq_true rfl⟩ ?_
    omega
  · skip
    refine w_iln l_151_4 rfl ?_
    refine w_aln l_151_5 rfl ?_
    refine w_gr l_151_6 (oDropSwitch_sh o) (oDropSwitch_r6 o) ?_
    refine w_gi ((np : Nat) : Int) l_151_9 (oHistory_sh (oDropSwitch_o6 o)) K.2.2.1.2.1 ?_
    refine w_clt 23 l_151_12 (by decide) (fun h2 => ?_) (fun h2 => ?_)
    · skip
      refine w_vr l_151_23 ?_
      exact ⟨rfl, rfl⟩
    · skip
      exfalso -- refine w_th l_151_15 ⟨hc.1, hc.2, Nat.le_of_ble_eq_true rfl⟩ ?_
      omega

theorem s_151n (o : oDropSwitch S T s q y) {ne np : Nat} {a : Nat → Nat} (K : KQ I s q h l a ne np) {p : Int} (hp : ¬ (0 ≤ p ∧ p < ((np : Nat) : Int))) (hc : 1 ≤ cc ∧ 6 ≤ zz) : CL xs 151 [vr s, vi p] (S, I, T, cc, zz) (TH 0 (S, I, T, cc - 1, zz - 6)) := by
  refine CL_start (r := 0) (ls := [vr s, vi p]) (rk_151 _) rfl ?_
  refine w_iln l_151_0 rfl ?_
  refine w_zlt 15 l_151_1 (by decide) (fun h1 => ?_) (fun h1 => ?_)
  · skip
    refine w_th l_151_15 ⟨hc.1, hc.2, Nat.le_of_ble_eq_true rfl⟩ ?_
    exact ⟨rfl, rfl⟩
  · skip
    refine w_iln l_151_4 rfl ?_
    refine w_aln l_151_5 rfl ?_
    refine w_gr l_151_6 (oDropSwitch_sh o) (oDropSwitch_r6 o) ?_
    refine w_gi ((np : Nat) : Int) l_151_9 (oHistory_sh (oDropSwitch_o6 o)) K.2.2.1.2.1 ?_
    refine w_clt 23 l_151_12 (by decide) (fun h2 => ?_) (fun h2 => ?_)
    · skip
      refine w_vr l_151_23 ?_
      exfalso
      omega
    · skip
      refine w_th l_151_15 ⟨hc.1, hc.2, Nat.le_of_ble_eq_true rfl⟩ ?_
      exact ⟨rfl, rfl⟩

theorem mx_152 : mxl 152 = 2 := by decide +kernel
theorem mt_152 : mtc 152 = 9 := by decide +kernel
theorem rk_152 (as : List AV) : rkA 152 as = 0 := rfl
theorem l_152_0 : look 152 0 = some (.iload_n 1, 1, 0, 0, 0, 0) := by decide +kernel
theorem l_152_1 : look 152 1 = some (.ifCond .lt 17, 3, 0, 0, 0, 0) := by decide +kernel
theorem l_152_4 : look 152 4 = some (.iload_n 1, 1, 0, 0, 0, 0) := by decide +kernel
theorem l_152_5 : look 152 5 = some (.aload_n 0, 1, 0, 0, 0, 0) := by decide +kernel
theorem l_152_6 : look 152 6 = some (.getfield 57, 3, 9, 8, 2, 732) := by decide +kernel
theorem l_152_9 : look 152 9 = some (.getfield 131, 3, 5, 2, 2, 639) := by decide +kernel
theorem l_152_12 : look 152 12 = some (.getfield 135, 3, 3, 0, 0, 614) := by decide +kernel
theorem l_152_15 : look 152 15 = some (.if_icmp .lt 11, 3, 0, 0, 0, 0) := by decide +kernel
theorem l_152_18 : look 152 18 = some (.new 342, 3, 0, 0, 1, 152) := by decide +kernel
theorem l_152_21 : look 152 21 = some (.dup, 1, 0, 0, 0, 0) := by decide +kernel
theorem l_152_22 : look 152 22 = some (.invokespecial 344, 3, 0, 1, 99, 161) := by decide +kernel
theorem l_152_25 : look 152 25 = some (.athrow, 1, 0, 0, 0, 0) := by decide +kernel
theorem l_152_26 : look 152 26 = some (.return_, 1, 0, 0, 0, 0) := by decide +kernel
theorem s_152 (o : oDropSwitch S T s q y) {ne np : Nat} {a : Nat → Nat} (K : KQ I s q h l a ne np) {p : Nat} (hp : p < (runA h l noOut ne).2.1.length) : CL xs 152 [vr s, vi ((p : Nat) : Int)] (S, I, T, cc, zz) (FN none (S, I, T, cc, zz)) := by
  refine CL_start (r := 0) (ls := [vr s, vi ((p : Nat) : Int)]) (rk_152 _) rfl ?_
  refine w_iln l_152_0 rfl ?_
  refine w_zlt 18 l_152_1 (by decide) (fun h1 => ?_) (fun h1 => ?_)
  · skip
    exfalso -- refine w_th l_152_18 ⟨hc.1, hc.2, Nat.le_of_ble_eq_true rfl⟩ ?_
    omega
  · skip
    refine w_iln l_152_4 rfl ?_
    refine w_aln l_152_5 rfl ?_
    refine w_gr l_152_6 (oDropSwitch_sh o) (oDropSwitch_r8 o) ?_
    refine w_gr l_152_9 (oRun_sh (oDropSwitch_o8 o)) (oRun_r2 (oDropSwitch_o8 o)) ?_
    refine w_gi (((runA h l noOut ne).2.1.length : Nat) : Int) l_152_12 (oLog_sh (oRun_o2 (oDropSwitch_o8 o))) K.2.2.2.1.2.1.1 ?_
    refine w_clt 26 l_152_15 (by decide) (fun h2 => ?_) (fun h2 => ?_)
    · skip
      refine w_vr l_152_26 ?_
      exact ⟨rfl, rfl⟩
    · skip
      exfalso -- refine w_th l_152_18 ⟨hc.1, hc.2, Nat.le_of_ble_eq_true rfl⟩ ?_
      omega

theorem s_152n (o : oDropSwitch S T s q y) {ne np : Nat} {a : Nat → Nat} (K : KQ I s q h l a ne np) {p : Int} (hp : ¬ (0 ≤ p ∧ p < (((runA h l noOut ne).2.1.length : Nat) : Int))) (hc : 1 ≤ cc ∧ 6 ≤ zz) : CL xs 152 [vr s, vi p] (S, I, T, cc, zz) (TH 0 (S, I, T, cc - 1, zz - 6)) := by
  refine CL_start (r := 0) (ls := [vr s, vi p]) (rk_152 _) rfl ?_
  refine w_iln l_152_0 rfl ?_
  refine w_zlt 18 l_152_1 (by decide) (fun h1 => ?_) (fun h1 => ?_)
  · skip
    refine w_th l_152_18 ⟨hc.1, hc.2, Nat.le_of_ble_eq_true rfl⟩ ?_
    exact ⟨rfl, rfl⟩
  · skip
    refine w_iln l_152_4 rfl ?_
    refine w_aln l_152_5 rfl ?_
    refine w_gr l_152_6 (oDropSwitch_sh o) (oDropSwitch_r8 o) ?_
    refine w_gr l_152_9 (oRun_sh (oDropSwitch_o8 o)) (oRun_r2 (oDropSwitch_o8 o)) ?_
    refine w_gi (((runA h l noOut ne).2.1.length : Nat) : Int) l_152_12 (oLog_sh (oRun_o2 (oDropSwitch_o8 o))) K.2.2.2.1.2.1.1 ?_
    refine w_clt 26 l_152_15 (by decide) (fun h2 => ?_) (fun h2 => ?_)
    · skip
      refine w_vr l_152_26 ?_
      exfalso
      omega
    · skip
      refine w_th l_152_18 ⟨hc.1, hc.2, Nat.le_of_ble_eq_true rfl⟩ ?_
      exact ⟨rfl, rfl⟩

theorem mx_153 : mxl 153 = 2 := by decide +kernel
theorem mt_153 : mtc 153 = 9 := by decide +kernel
theorem rk_153 (as : List AV) : rkA 153 as = 0 := rfl
theorem l_153_0 : look 153 0 = some (.iload_n 1, 1, 0, 0, 0, 0) := by decide +kernel
theorem l_153_1 : look 153 1 = some (.ifCond .lt 9, 3, 0, 0, 0, 0) := by decide +kernel
theorem l_153_4 : look 153 4 = some (.iload_n 1, 1, 0, 0, 0, 0) := by decide +kernel
theorem l_153_5 : look 153 5 = some (.bipush 64, 2, 0, 0, 0, 0) := by decide +kernel
theorem l_153_7 : look 153 7 = some (.if_icmp .lt 11, 3, 0, 0, 0, 0) := by decide +kernel
theorem l_153_10 : look 153 10 = some (.new 109, 3, 1, 0, 1, 231) := by decide +kernel
theorem l_153_13 : look 153 13 = some (.dup, 1, 0, 0, 0, 0) := by decide +kernel
theorem l_153_14 : look 153 14 = some (.invokespecial 111, 3, 0, 1, 99, 240) := by decide +kernel
theorem l_153_17 : look 153 17 = some (.athrow, 1, 0, 0, 0, 0) := by decide +kernel
theorem l_153_18 : look 153 18 = some (.return_, 1, 0, 0, 0, 0) := by decide +kernel
theorem s_153 (o : oDropSwitch S T s q y) {ne np : Nat} {a : Nat → Nat} (K : KQ I s q h l a ne np) {p : Nat} (hp : p < 64) : CL xs 153 [vr s, vi ((p : Nat) : Int)] (S, I, T, cc, zz) (FN none (S, I, T, cc, zz)) := by
  refine CL_start (r := 0) (ls := [vr s, vi ((p : Nat) : Int)]) (rk_153 _) rfl ?_
  refine w_iln l_153_0 rfl ?_
  refine w_zlt 10 l_153_1 (by decide) (fun h1 => ?_) (fun h1 => ?_)
  · skip
    exfalso -- refine w_th l_153_10 ⟨hc.1, hc.2, Nat.le_of_ble_eq_true rfl⟩ ?_
    omega
  · skip
    refine w_iln l_153_4 rfl ?_
    refine w_bp l_153_5 (by decide) ?_
    refine w_clt 18 l_153_7 (by decide) (fun h2 => ?_) (fun h2 => ?_)
    · skip
      refine w_vr l_153_18 ?_
      exact ⟨rfl, rfl⟩
    · skip
      exfalso -- refine w_th l_153_10 ⟨hc.1, hc.2, Nat.le_of_ble_eq_true rfl⟩ ?_
      omega

theorem s_153n (o : oDropSwitch S T s q y) {ne np : Nat} {a : Nat → Nat} (K : KQ I s q h l a ne np) {p : Int} (hp : ¬ (0 ≤ p ∧ p ≤ 63)) (hc : 1 ≤ cc ∧ 6 ≤ zz) : CL xs 153 [vr s, vi p] (S, I, T, cc, zz) (TH 1 (S, I, T, cc - 1, zz - 6)) := by
  refine CL_start (r := 0) (ls := [vr s, vi p]) (rk_153 _) rfl ?_
  refine w_iln l_153_0 rfl ?_
  refine w_zlt 10 l_153_1 (by decide) (fun h1 => ?_) (fun h1 => ?_)
  · skip
    refine w_th l_153_10 ⟨hc.1, hc.2, Nat.le_of_ble_eq_true rfl⟩ ?_
    exact ⟨rfl, rfl⟩
  · skip
    refine w_iln l_153_4 rfl ?_
    refine w_bp l_153_5 (by decide) ?_
    refine w_clt 18 l_153_7 (by decide) (fun h2 => ?_) (fun h2 => ?_)
    · skip
      refine w_vr l_153_18 ?_
      exfalso
      omega
    · skip
      refine w_th l_153_10 ⟨hc.1, hc.2, Nat.le_of_ble_eq_true rfl⟩ ?_
      exact ⟨rfl, rfl⟩

theorem mx_154 : mxl 154 = 2 := by decide +kernel
theorem mt_154 : mtc 154 = 9 := by decide +kernel
theorem rk_154 (as : List AV) : rkA 154 as = 0 := rfl
theorem l_154_0 : look 154 0 = some (.iload_n 1, 1, 0, 0, 0, 0) := by decide +kernel
theorem l_154_1 : look 154 1 = some (.iconst 1, 1, 0, 0, 0, 0) := by decide +kernel
theorem l_154_2 : look 154 2 = some (.if_icmp .lt 9, 3, 0, 0, 0, 0) := by decide +kernel
theorem l_154_5 : look 154 5 = some (.iload_n 1, 1, 0, 0, 0, 0) := by decide +kernel
theorem l_154_6 : look 154 6 = some (.bipush 10, 2, 0, 0, 0, 0) := by decide +kernel
theorem l_154_8 : look 154 8 = some (.if_icmp .le 11, 3, 0, 0, 0, 0) := by decide +kernel
theorem l_154_11 : look 154 11 = some (.new 109, 3, 1, 0, 1, 231) := by decide +kernel
theorem l_154_14 : look 154 14 = some (.dup, 1, 0, 0, 0, 0) := by decide +kernel
theorem l_154_15 : look 154 15 = some (.invokespecial 111, 3, 0, 1, 99, 240) := by decide +kernel
theorem l_154_18 : look 154 18 = some (.athrow, 1, 0, 0, 0, 0) := by decide +kernel
theorem l_154_19 : look 154 19 = some (.return_, 1, 0, 0, 0, 0) := by decide +kernel
theorem s_154 (o : oDropSwitch S T s q y) {ne np : Nat} {a : Nat → Nat} (K : KQ I s q h l a ne np) {p : Nat} (hp : 1 ≤ p ∧ p ≤ 10) : CL xs 154 [vr s, vi ((p : Nat) : Int)] (S, I, T, cc, zz) (FN none (S, I, T, cc, zz)) := by
  refine CL_start (r := 0) (ls := [vr s, vi ((p : Nat) : Int)]) (rk_154 _) rfl ?_
  refine w_iln l_154_0 rfl ?_
  refine w_ic l_154_1 (by decide) ?_
  refine w_clt 11 l_154_2 (by decide) (fun h1 => ?_) (fun h1 => ?_)
  · skip
    exfalso -- refine w_th l_154_11 ⟨hc.1, hc.2, Nat.le_of_ble_eq_true rfl⟩ ?_
    omega
  · skip
    refine w_iln l_154_5 rfl ?_
    refine w_bp l_154_6 (by decide) ?_
    refine w_cle 19 l_154_8 (by decide) (fun h2 => ?_) (fun h2 => ?_)
    · skip
      refine w_vr l_154_19 ?_
      exact ⟨rfl, rfl⟩
    · skip
      exfalso -- refine w_th l_154_11 ⟨hc.1, hc.2, Nat.le_of_ble_eq_true rfl⟩ ?_
      omega

theorem s_154n (o : oDropSwitch S T s q y) {ne np : Nat} {a : Nat → Nat} (K : KQ I s q h l a ne np) {p : Int} (hp : ¬ (1 ≤ p ∧ p ≤ 10)) (hc : 1 ≤ cc ∧ 6 ≤ zz) : CL xs 154 [vr s, vi p] (S, I, T, cc, zz) (TH 1 (S, I, T, cc - 1, zz - 6)) := by
  refine CL_start (r := 0) (ls := [vr s, vi p]) (rk_154 _) rfl ?_
  refine w_iln l_154_0 rfl ?_
  refine w_ic l_154_1 (by decide) ?_
  refine w_clt 11 l_154_2 (by decide) (fun h1 => ?_) (fun h1 => ?_)
  · skip
    refine w_th l_154_11 ⟨hc.1, hc.2, Nat.le_of_ble_eq_true rfl⟩ ?_
    exact ⟨rfl, rfl⟩
  · skip
    refine w_iln l_154_5 rfl ?_
    refine w_bp l_154_6 (by decide) ?_
    refine w_cle 19 l_154_8 (by decide) (fun h2 => ?_) (fun h2 => ?_)
    · skip
      refine w_vr l_154_19 ?_
      exfalso
      omega
    · skip
      refine w_th l_154_11 ⟨hc.1, hc.2, Nat.le_of_ble_eq_true rfl⟩ ?_
      exact ⟨rfl, rfl⟩

theorem mx_112 : mxl 112 = 2 := by decide +kernel
theorem mt_112 : mtc 112 = 9 := by decide +kernel
theorem rk_112 (as : List AV) : rkA 112 as = 1 := rfl
theorem l_112_0 : look 112 0 = some (.aload_n 0, 1, 0, 0, 0, 0) := by decide +kernel
theorem l_112_1 : look 112 1 = some (.iload_n 1, 1, 0, 0, 0, 0) := by decide +kernel
theorem l_112_2 : look 112 2 = some (.invokevirtual 150, 3, 147, 2, 0, 179) := by decide +kernel
theorem l_112_5 : look 112 5 = some (.aload_n 0, 1, 0, 0, 0, 0) := by decide +kernel
theorem l_112_6 : look 112 6 = some (.getfield 57, 3, 9, 8, 2, 732) := by decide +kernel
theorem l_112_9 : look 112 9 = some (.getfield 140, 3, 5, 1, 2, 637) := by decide +kernel
theorem l_112_12 : look 112 12 = some (.getfield 205, 3, 7, 3, 2, 580) := by decide +kernel
theorem l_112_15 : look 112 15 = some (.iload_n 1, 1, 0, 0, 0, 0) := by decide +kernel
theorem l_112_16 : look 112 16 = some (.iaload, 1, 0, 0, 0, 0) := by decide +kernel
theorem l_112_17 : look 112 17 = some (.ireturn, 1, 0, 0, 0, 0) := by decide +kernel
theorem s_112 (o : oDropSwitch S T s q y) {ne np : Nat} {a : Nat → Nat} (K : KQ I s q h l a ne np) {p : Nat} (hp : p < lPorts l) : CL xs 112 [vr s, vi ((p : Nat) : Int)] (S, I, T, cc, zz) (FN (some (vi ((fillP h (runA h l noOut ne).1 p : Nat) : Int))) (S, I, T, cc, zz)) := by
  refine CL_start (r := 1) (ls := [vr s, vi ((p : Nat) : Int)]) (rk_112 _) rfl ?_
  have hl4 := K.2.2.2.2.2.2.2.1.1
  have hok := (run_ok K.2.2.2.2.2.2.1 K.2.2.2.2.2.2.2.1 K.2.2.2.2.2.2.2.2.1 (out := noOut) ne (Nat.le_refl ne)).1
  have hRr := K.2.2.2.1
  have hne := K.2.2.1.2.2.1
  have hnp := K.2.2.1.2.2.2.1
  have hp4 : p < 4 := by omega
  refine w_aln l_112_0 rfl ?_
  refine w_iln l_112_1 rfl ?_
  refine q_iv [vi ((p : Nat) : Int)] [] l_112_2 rfl rfl (Nat.le_of_ble_eq_true rfl) (by rw [mx_147]; exact Nat.le_of_ble_eq_true rfl) (by rw [mt_147]; exact oDropSwitch_sh o) (by rw [mt_147]; decide) (by rw [rk_147]; decide) (s_147 o K hp) ?_
  refine w_aln l_112_5 rfl ?_
  refine w_gr l_112_6 (oDropSwitch_sh o) (oDropSwitch_r8 o) ?_
  refine w_gr l_112_9 (oRun_sh (oDropSwitch_o8 o)) (oRun_r1 (oDropSwitch_o8 o)) ?_
  refine w_gr l_112_12 (oState_sh (oRun_o1 (oDropSwitch_o8 o))) (oState_r3 (oRun_o1 (oDropSwitch_o8 o))) ?_
  refine w_iln l_112_15 rfl ?_
  refine w_ia p (((fillP h (runA h l noOut ne).1 p) : Nat) : Int) l_112_16 (oState_s3 (oRun_o1 (oDropSwitch_o8 o))) rfl (by omega) (hRr.1.2.2.2.1 p hp4) ?_
  refine w_ir l_112_17 (Or.inl rfl) ?_
  exact ⟨rfl, rfl⟩

theorem s_112n (o : oDropSwitch S T s q y) {ne np : Nat} {a : Nat → Nat} (K : KQ I s q h l a ne np) {p : Int} (hp : ¬ (0 ≤ p ∧ p < ((lPorts l : Nat) : Int))) (hc : 1 ≤ cc ∧ 6 ≤ zz) : CL xs 112 [vr s, vi p] (S, I, T, cc, zz) (TH 0 (S, I, T, cc - 1, zz - 6)) := by
  refine CL_start (r := 1) (ls := [vr s, vi p]) (rk_112 _) rfl ?_
  refine w_aln l_112_0 rfl ?_
  refine w_iln l_112_1 rfl ?_
  refine t_iv [vi p] [] l_112_2 rfl rfl (Nat.le_of_ble_eq_true rfl) (by rw [mx_147]; exact Nat.le_of_ble_eq_true rfl) (by rw [mt_147]; exact oDropSwitch_sh o) (by rw [mt_147]; decide) (by rw [rk_147]; decide) (s_147n o K hp hc) (by decide +kernel) ?_
  exact ⟨rfl, rfl⟩

theorem mx_113 : mxl 113 = 2 := by decide +kernel
theorem mt_113 : mtc 113 = 9 := by decide +kernel
theorem rk_113 (as : List AV) : rkA 113 as = 1 := rfl
theorem l_113_0 : look 113 0 = some (.aload_n 0, 1, 0, 0, 0, 0) := by decide +kernel
theorem l_113_1 : look 113 1 = some (.iload_n 1, 1, 0, 0, 0, 0) := by decide +kernel
theorem l_113_2 : look 113 2 = some (.invokevirtual 150, 3, 147, 2, 0, 179) := by decide +kernel
theorem l_113_5 : look 113 5 = some (.aload_n 0, 1, 0, 0, 0, 0) := by decide +kernel
theorem l_113_6 : look 113 6 = some (.getfield 57, 3, 9, 8, 2, 732) := by decide +kernel
theorem l_113_9 : look 113 9 = some (.getfield 140, 3, 5, 1, 2, 637) := by decide +kernel
theorem l_113_12 : look 113 12 = some (.getfield 208, 3, 7, 4, 2, 583) := by decide +kernel
theorem l_113_15 : look 113 15 = some (.iload_n 1, 1, 0, 0, 0, 0) := by decide +kernel
theorem l_113_16 : look 113 16 = some (.iaload, 1, 0, 0, 0, 0) := by decide +kernel
theorem l_113_17 : look 113 17 = some (.ireturn, 1, 0, 0, 0, 0) := by decide +kernel
theorem s_113 (o : oDropSwitch S T s q y) {ne np : Nat} {a : Nat → Nat} (K : KQ I s q h l a ne np) {p : Nat} (hp : p < lPorts l) : CL xs 113 [vr s, vi ((p : Nat) : Int)] (S, I, T, cc, zz) (FN (some (vi (((sQ (runA h l noOut ne).1 p).length : Nat) : Int))) (S, I, T, cc, zz)) := by
  refine CL_start (r := 1) (ls := [vr s, vi ((p : Nat) : Int)]) (rk_113 _) rfl ?_
  have hl4 := K.2.2.2.2.2.2.2.1.1
  have hok := (run_ok K.2.2.2.2.2.2.1 K.2.2.2.2.2.2.2.1 K.2.2.2.2.2.2.2.2.1 (out := noOut) ne (Nat.le_refl ne)).1
  have hRr := K.2.2.2.1
  have hne := K.2.2.1.2.2.1
  have hnp := K.2.2.1.2.2.2.1
  have hp4 : p < 4 := by omega
  refine w_aln l_113_0 rfl ?_
  refine w_iln l_113_1 rfl ?_
  refine q_iv [vi ((p : Nat) : Int)] [] l_113_2 rfl rfl (Nat.le_of_ble_eq_true rfl) (by rw [mx_147]; exact Nat.le_of_ble_eq_true rfl) (by rw [mt_147]; exact oDropSwitch_sh o) (by rw [mt_147]; decide) (by rw [rk_147]; decide) (s_147 o K hp) ?_
  refine w_aln l_113_5 rfl ?_
  refine w_gr l_113_6 (oDropSwitch_sh o) (oDropSwitch_r8 o) ?_
  refine w_gr l_113_9 (oRun_sh (oDropSwitch_o8 o)) (oRun_r1 (oDropSwitch_o8 o)) ?_
  refine w_gr l_113_12 (oState_sh (oRun_o1 (oDropSwitch_o8 o))) (oState_r4 (oRun_o1 (oDropSwitch_o8 o))) ?_
  refine w_iln l_113_15 rfl ?_
  refine w_ia p (((sQ (runA h l noOut ne).1 p).length : Nat) : Int) l_113_16 (oState_s4 (oRun_o1 (oDropSwitch_o8 o))) rfl (by omega) ((hRr.1.2.2.2.2.1 p hp4).1) ?_
  refine w_ir l_113_17 (Or.inl rfl) ?_
  exact ⟨rfl, rfl⟩

theorem s_113n (o : oDropSwitch S T s q y) {ne np : Nat} {a : Nat → Nat} (K : KQ I s q h l a ne np) {p : Int} (hp : ¬ (0 ≤ p ∧ p < ((lPorts l : Nat) : Int))) (hc : 1 ≤ cc ∧ 6 ≤ zz) : CL xs 113 [vr s, vi p] (S, I, T, cc, zz) (TH 0 (S, I, T, cc - 1, zz - 6)) := by
  refine CL_start (r := 1) (ls := [vr s, vi p]) (rk_113 _) rfl ?_
  refine w_aln l_113_0 rfl ?_
  refine w_iln l_113_1 rfl ?_
  refine t_iv [vi p] [] l_113_2 rfl rfl (Nat.le_of_ble_eq_true rfl) (by rw [mx_147]; exact Nat.le_of_ble_eq_true rfl) (by rw [mt_147]; exact oDropSwitch_sh o) (by rw [mt_147]; decide) (by rw [rk_147]; decide) (s_147n o K hp hc) (by decide +kernel) ?_
  exact ⟨rfl, rfl⟩

theorem mx_115 : mxl 115 = 2 := by decide +kernel
theorem mt_115 : mtc 115 = 9 := by decide +kernel
theorem rk_115 (as : List AV) : rkA 115 as = 1 := rfl
theorem l_115_0 : look 115 0 = some (.aload_n 0, 1, 0, 0, 0, 0) := by decide +kernel
theorem l_115_1 : look 115 1 = some (.iload_n 1, 1, 0, 0, 0, 0) := by decide +kernel
theorem l_115_2 : look 115 2 = some (.invokevirtual 150, 3, 147, 2, 0, 179) := by decide +kernel
theorem l_115_5 : look 115 5 = some (.aload_n 0, 1, 0, 0, 0, 0) := by decide +kernel
theorem l_115_6 : look 115 6 = some (.getfield 57, 3, 9, 8, 2, 732) := by decide +kernel
theorem l_115_9 : look 115 9 = some (.getfield 140, 3, 5, 1, 2, 637) := by decide +kernel
theorem l_115_12 : look 115 12 = some (.iload_n 1, 1, 0, 0, 0, 0) := by decide +kernel
theorem l_115_13 : look 115 13 = some (.invokevirtual 215, 3, 80, 2, 0, 1395) := by decide +kernel
theorem l_115_16 : look 115 16 = some (.ireturn, 1, 0, 0, 1, 0) := by decide +kernel
theorem s_115 (o : oDropSwitch S T s q y) {ne np : Nat} {a : Nat → Nat} (K : KQ I s q h l a ne np) {p : Nat} (hp : p < lPorts l) : CL xs 115 [vr s, vi ((p : Nat) : Int)] (S, I, T, cc, zz) (FN (some (vi (b2i (sUp (runA h l noOut ne).1 p)))) (S, I, T, cc, zz)) := by
  refine CL_start (r := 1) (ls := [vr s, vi ((p : Nat) : Int)]) (rk_115 _) rfl ?_
  have hl4 := K.2.2.2.2.2.2.2.1.1
  have hok := (run_ok K.2.2.2.2.2.2.1 K.2.2.2.2.2.2.2.1 K.2.2.2.2.2.2.2.2.1 (out := noOut) ne (Nat.le_refl ne)).1
  have hRr := K.2.2.2.1
  have hne := K.2.2.1.2.2.1
  have hnp := K.2.2.1.2.2.2.1
  have hp4 : p < 4 := by omega
  refine w_aln l_115_0 rfl ?_
  refine w_iln l_115_1 rfl ?_
  refine q_iv [vi ((p : Nat) : Int)] [] l_115_2 rfl rfl (Nat.le_of_ble_eq_true rfl) (by rw [mx_147]; exact Nat.le_of_ble_eq_true rfl) (by rw [mt_147]; exact oDropSwitch_sh o) (by rw [mt_147]; decide) (by rw [rk_147]; decide) (s_147 o K hp) ?_
  refine w_aln l_115_5 rfl ?_
  refine w_gr l_115_6 (oDropSwitch_sh o) (oDropSwitch_r8 o) ?_
  refine w_gr l_115_9 (oRun_sh (oDropSwitch_o8 o)) (oRun_r1 (oDropSwitch_o8 o)) ?_
  refine w_iln l_115_12 rfl ?_
  refine q_iv [vi ((p : Nat) : Int)] [] l_115_13 rfl rfl (Nat.le_of_ble_eq_true rfl) (by rw [mx_80]; exact Nat.le_of_ble_eq_true rfl) (by rw [mt_80]; exact oState_sh (oRun_o1 (oDropSwitch_o8 o))) (by rw [mt_80]; decide) (by rw [rk_80]; decide) (c_hasLink (oDropSwitch_o8 o) hRr hp4) ?_
  refine w_ir l_115_16 (Or.inr (Or.inl ⟨rfl, (b2i_r _).1, (b2i_r _).2⟩)) ?_
  exact ⟨rfl, rfl⟩

theorem s_115n (o : oDropSwitch S T s q y) {ne np : Nat} {a : Nat → Nat} (K : KQ I s q h l a ne np) {p : Int} (hp : ¬ (0 ≤ p ∧ p < ((lPorts l : Nat) : Int))) (hc : 1 ≤ cc ∧ 6 ≤ zz) : CL xs 115 [vr s, vi p] (S, I, T, cc, zz) (TH 0 (S, I, T, cc - 1, zz - 6)) := by
  refine CL_start (r := 1) (ls := [vr s, vi p]) (rk_115 _) rfl ?_
  refine w_aln l_115_0 rfl ?_
  refine w_iln l_115_1 rfl ?_
  refine t_iv [vi p] [] l_115_2 rfl rfl (Nat.le_of_ble_eq_true rfl) (by rw [mx_147]; exact Nat.le_of_ble_eq_true rfl) (by rw [mt_147]; exact oDropSwitch_sh o) (by rw [mt_147]; decide) (by rw [rk_147]; decide) (s_147n o K hp hc) (by decide +kernel) ?_
  exact ⟨rfl, rfl⟩

theorem mx_119 : mxl 119 = 2 := by decide +kernel
theorem mt_119 : mtc 119 = 9 := by decide +kernel
theorem rk_119 (as : List AV) : rkA 119 as = 1 := rfl
theorem l_119_0 : look 119 0 = some (.aload_n 0, 1, 0, 0, 0, 0) := by decide +kernel
theorem l_119_1 : look 119 1 = some (.iload_n 1, 1, 0, 0, 0, 0) := by decide +kernel
theorem l_119_2 : look 119 2 = some (.invokevirtual 150, 3, 147, 2, 0, 179) := by decide +kernel
theorem l_119_5 : look 119 5 = some (.aload_n 0, 1, 0, 0, 0, 0) := by decide +kernel
theorem l_119_6 : look 119 6 = some (.getfield 57, 3, 9, 8, 2, 732) := by decide +kernel
theorem l_119_9 : look 119 9 = some (.getfield 131, 3, 5, 2, 2, 639) := by decide +kernel
theorem l_119_12 : look 119 12 = some (.getfield 231, 3, 3, 3, 2, 618) := by decide +kernel
theorem l_119_15 : look 119 15 = some (.iload_n 1, 1, 0, 0, 0, 0) := by decide +kernel
theorem l_119_16 : look 119 16 = some (.iaload, 1, 0, 0, 0, 0) := by decide +kernel
theorem l_119_17 : look 119 17 = some (.ireturn, 1, 0, 0, 0, 0) := by decide +kernel
theorem s_119 (o : oDropSwitch S T s q y) {ne np : Nat} {a : Nat → Nat} (K : KQ I s q h l a ne np) {p : Nat} (hp : p < lPorts l) : CL xs 119 [vr s, vi ((p : Nat) : Int)] (S, I, T, cc, zz) (FN (some (vi (((runA h l noOut ne).2.2.2 p : Nat) : Int))) (S, I, T, cc, zz)) := by
  refine CL_start (r := 1) (ls := [vr s, vi ((p : Nat) : Int)]) (rk_119 _) rfl ?_
  have hl4 := K.2.2.2.2.2.2.2.1.1
  have hok := (run_ok K.2.2.2.2.2.2.1 K.2.2.2.2.2.2.2.1 K.2.2.2.2.2.2.2.2.1 (out := noOut) ne (Nat.le_refl ne)).1
  have hRr := K.2.2.2.1
  have hne := K.2.2.1.2.2.1
  have hnp := K.2.2.1.2.2.2.1
  have hp4 : p < 4 := by omega
  refine w_aln l_119_0 rfl ?_
  refine w_iln l_119_1 rfl ?_
  refine q_iv [vi ((p : Nat) : Int)] [] l_119_2 rfl rfl (Nat.le_of_ble_eq_true rfl) (by rw [mx_147]; exact Nat.le_of_ble_eq_true rfl) (by rw [mt_147]; exact oDropSwitch_sh o) (by rw [mt_147]; decide) (by rw [rk_147]; decide) (s_147 o K hp) ?_
  refine w_aln l_119_5 rfl ?_
  refine w_gr l_119_6 (oDropSwitch_sh o) (oDropSwitch_r8 o) ?_
  refine w_gr l_119_9 (oRun_sh (oDropSwitch_o8 o)) (oRun_r2 (oDropSwitch_o8 o)) ?_
  refine w_gr l_119_12 (oLog_sh (oRun_o2 (oDropSwitch_o8 o))) (oLog_r3 (oRun_o2 (oDropSwitch_o8 o))) ?_
  refine w_iln l_119_15 rfl ?_
  refine w_ia p ((((runA h l noOut ne).2.2.2 p) : Nat) : Int) l_119_16 (oLog_s3 (oRun_o2 (oDropSwitch_o8 o))) rfl (by omega) (hRr.2.2.2.2 p hp4) ?_
  refine w_ir l_119_17 (Or.inl rfl) ?_
  exact ⟨rfl, rfl⟩

theorem s_119n (o : oDropSwitch S T s q y) {ne np : Nat} {a : Nat → Nat} (K : KQ I s q h l a ne np) {p : Int} (hp : ¬ (0 ≤ p ∧ p < ((lPorts l : Nat) : Int))) (hc : 1 ≤ cc ∧ 6 ≤ zz) : CL xs 119 [vr s, vi p] (S, I, T, cc, zz) (TH 0 (S, I, T, cc - 1, zz - 6)) := by
  refine CL_start (r := 1) (ls := [vr s, vi p]) (rk_119 _) rfl ?_
  refine w_aln l_119_0 rfl ?_
  refine w_iln l_119_1 rfl ?_
  refine t_iv [vi p] [] l_119_2 rfl rfl (Nat.le_of_ble_eq_true rfl) (by rw [mx_147]; exact Nat.le_of_ble_eq_true rfl) (by rw [mt_147]; exact oDropSwitch_sh o) (by rw [mt_147]; decide) (by rw [rk_147]; decide) (s_147n o K hp hc) (by decide +kernel) ?_
  exact ⟨rfl, rfl⟩

end KQS
