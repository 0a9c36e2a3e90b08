/-! the class: a packet arrives, 2 -/
section DOO
variable {xs : List Int} {S : List (Nat × Nat)} {T : Nat → Nat → Nat} {cc zz s x : Nat} {h : Hi} {l : Li} {r : Ra} {I I' : Ix}

theorem lp_52a (o : oRun S T s x) {e ne np : Nat} {a : Nat → Nat} {k p u : Nat} {v3 : Int} (E : CE I s x e h l a ne np) (hR : cR I s h l r) (hok : okR h l np u r) (hk : k < np) (hp : p < lPorts l) (hu : u + 3 ≤ 360) :
    WP xs 52 3 49 [vr s, vi ((k : Nat) : Int), vi ((p : Nat) : Int), vi v3, vs 2, vs 2, vs 2] [] (S, I, T, cc, zz) (RP S T cc zz (fun v I' => v = some (vi (((arriveB h l e p k r).2 : Nat) : Int)) ∧ cR I' s h l (arriveB h l e p k r).1 ∧ fr I I' (s + 6) (s + 17))) := by
  have hp4 := E.p4 hp
  have hlt : r.2.1.length < 360 := by have h9 := ok_lt hok hp4; omega
  refine w_aln l_52_49 rfl ?_
  refine w_gr l_52_50 (oRun_sh o) (oRun_r0 o) ?_
  refine w_iln l_52_53 rfl ?_
  refine q_iv [vi ((p : Nat) : Int)] [] l_52_54 rfl rfl (Nat.le_of_ble_eq_true rfl) (by rw [mx_10]; exact Nat.le_of_ble_eq_true rfl) (by rw [mt_10]; exact oLimits_sh (oRun_o0 o)) (by rw [mt_10]; decide) (by rw [rk_10]; decide) (c_hasPol o E.L hp hp4) ?_
  refine w_beq 87 l_52_57 (by decide) (fun h1 => ?_) (fun h1 => ?_)
  · skip
    rw [show arriveB h l e p k r = arriveC h l e p k r by
      unfold arriveB policeA
      cases hpo : lPol l p
      · rfl
      · rw [hpo] at h1; cases h1]
    exact lp_52b o E hR hok hk hp hu (fr.rf _ _ _)
  · skip
    refine w_aln l_52_60 rfl ?_
    refine w_gr l_52_61 (oRun_sh o) (oRun_r1 o) ?_
    refine w_iln l_52_64 rfl ?_
    refine w_aln l_52_65 rfl ?_
    refine w_gr l_52_66 (oRun_sh o) (oRun_r3 o) ?_
    refine w_iln l_52_69 rfl ?_
    refine q_iv [vi ((k : Nat) : Int)] [vi ((p : Nat) : Int), vr (s + 6)] l_52_70 rfl rfl (Nat.le_of_ble_eq_true rfl) (by rw [mx_5]; exact Nat.le_of_ble_eq_true rfl) (by rw [mt_5]; exact oHistory_sh (oRun_o3 o)) (by rw [mt_5]; decide) (by rw [rk_5]; decide) (s_5r E.H (oRun_o3 o) hk) ?_
    refine p_iv [vi ((p : Nat) : Int), vi (((hSiz h k) : Nat) : Int)] [] l_52_73 rfl rfl (Nat.le_of_ble_eq_true rfl) (by rw [mx_82]; exact Nat.le_of_ble_eq_true rfl) (by rw [mt_82]; exact oState_sh (oRun_o1 o)) (by rw [mt_82]; decide) (by rw [rk_82]; decide) (c_spend o hR hp4 (by intro q; rw [q] at h1; cases h1) (E.ok k).1) (fun v I1 hv => ?_)
    obtain ⟨rfl, hR1, f1⟩ := hv
    refine w_bne 87 l_52_76 (by decide) (fun h2 => ?_) (fun h2 => ?_)
    · skip
      have hc : hSiz h k ≤ sTok r.1 p := of_decide_eq_true h2
      rw [if_pos hc] at hR1
      rw [show arriveB h l e p k r = arriveC h l e p k (setTok r.1 p (sTok r.1 p - hSiz h k), r.2) by
        unfold arriveB policeA
        cases hpo : lPol l p
        · rw [hpo] at h1; cases h1
        · simp only [if_neg (Nat.not_lt.mpr hc)]]
      exact lp_52b o E hR1 (show okR h l np u (setTok r.1 p (sTok r.1 p - hSiz h k), r.2) from ⟨hok.1, hok.2.1, hok.2.2⟩) hk hp hu f1
    · skip
      have hc : ¬ hSiz h k ≤ sTok r.1 p := of_decide_eq_false h2
      rw [if_neg hc] at hR1
      refine w_aln l_52_79 rfl ?_
      refine w_iln l_52_80 rfl ?_
      refine w_ic l_52_81 (by decide) ?_
      refine w_ic l_52_82 (by decide) ?_
      refine p_iv [vi ((k : Nat) : Int), vi 3, vi (-1)] [] l_52_83 rfl rfl (Nat.le_of_ble_eq_true rfl) (by rw [mx_53]; exact Nat.le_of_ble_eq_true rfl) (by rw [mt_53]; exact oRun_sh o) (by rw [mt_53]; decide) (by rw [rk_53]; decide) (s_53 o (E.fr f1) hR1 hk hlt) (fun v I2 hv => ?_)
      obtain ⟨rfl, hR2, f2⟩ := hv
      refine w_ir l_52_86 (Or.inl rfl) ?_
      rw [show arriveB h l e p k r = refA e k 3 (-1) r by
        unfold arriveB policeA
        cases hpo : lPol l p
        · rw [hpo] at h1; cases h1
        · simp only [if_pos (Nat.lt_of_not_le hc)]]
      exact ⟨_, _, rfl, rfl, rfl, hR2, f1.tr f2⟩

theorem ruleA_lt {h : Hi} {l : Li} {k q : Nat} (hr : ruleA h l k = some q) : q < lRules l := by
  unfold ruleA at hr
  rw [List.find?_range_eq_some] at hr
  exact List.mem_range.mp hr.2.1
theorem s_52 (o : oRun S T s x) {e ne np : Nat} {a : Nat → Nat} {k p u : Nat} (E : CE I s x e h l a ne np) (hR : cR I s h l r) (hok : okR h l np u r) (hk : k < np) (hp : p < lPorts l) (hu : u + 3 ≤ 360) : CL xs 52 [vr s, vi ((k : Nat) : Int), vi ((p : Nat) : Int)] (S, I, T, cc, zz) (RP S T cc zz (fun v I' => v = some (vi (((arriveA h l e p k r).2 : Nat) : Int)) ∧ cR I' s h l (arriveA h l e p k r).1 ∧ fr I I' (s + 6) (s + 17))) := by
  have hp4 := E.p4 hp
  have hlt : r.2.1.length < 360 := by have h9 := ok_lt hok hp4; omega
  cases hr : ruleA h l k with
  | none =>
    refine CL_start (r := 3) (ls := [vr s, vi ((k : Nat) : Int), vi ((p : Nat) : Int), vs 2, vs 2, vs 2, vs 2]) (rk_52 _) rfl ?_
    refine w_aln l_52_0 rfl ?_
    refine w_gr l_52_1 (oRun_sh o) (oRun_r1 o) ?_
    refine w_iln l_52_4 rfl ?_
    refine q_iv [vi ((p : Nat) : Int)] [] l_52_5 rfl rfl (Nat.le_of_ble_eq_true rfl) (by rw [mx_80]; exact Nat.le_of_ble_eq_true rfl) (by rw [mt_80]; exact oState_sh (oRun_o1 o)) (by rw [mt_80]; decide) (by rw [rk_80]; decide) (c_hasLink o hR hp4) ?_
    refine w_bne 19 l_52_8 (by decide) (fun h1 => ?_) (fun h1 => ?_)
    · skip
      refine w_aln l_52_19 rfl ?_
      refine w_iln l_52_20 rfl ?_
      refine q_iv [vi ((k : Nat) : Int)] [] l_52_21 rfl rfl (Nat.le_of_ble_eq_true rfl) (by rw [mx_54]; exact Nat.le_of_ble_eq_true rfl) (by rw [mt_54]; exact oRun_sh o) (by rw [mt_54]; decide) (by rw [rk_54]; decide) ((by have h9 := s_54 (xs := xs) (S := S) (T := T) (cc := cc) (zz := zz) o E hk; rw [hr] at h9; exact h9)) ?_
      refine w_isn l_52_24 ⟨Nat.le_of_ble_eq_true rfl, rfl⟩ ?_
      refine w_iln l_52_25 rfl ?_
      refine w_ic l_52_26 (by decide) ?_
      refine w_ceq 49 l_52_27 (by decide) (fun _ => ?_) (fun hx => absurd hx (by decide))
      rw [arrive_n h1 hr]
      exact lp_52a o E hR hok hk hp hu
    · skip
      refine w_aln l_52_11 rfl ?_
      refine w_iln l_52_12 rfl ?_
      refine w_ic l_52_13 (by decide) ?_
      refine w_ic l_52_14 (by decide) ?_
      refine p_iv [vi ((k : Nat) : Int), vi 1, vi (-1)] [] l_52_15 rfl rfl (Nat.le_of_ble_eq_true rfl) (by rw [mx_53]; exact Nat.le_of_ble_eq_true rfl) (by rw [mt_53]; exact oRun_sh o) (by rw [mt_53]; decide) (by rw [rk_53]; decide) (s_53 o E hR hk hlt) (fun v I2 hv => ?_)
      obtain ⟨rfl, hR2, f2⟩ := hv
      refine w_ir l_52_18 (Or.inl rfl) ?_
      rw [arrive_dn h1]
      exact ⟨_, _, rfl, rfl, rfl, hR2, f2⟩
  | some q =>
    have hq8 : q < 8 := by have h9 := ruleA_lt hr; have h8 := E.okl.2.1; omega
    refine CL_start (r := 3) (ls := [vr s, vi ((k : Nat) : Int), vi ((p : Nat) : Int), vs 2, vs 2, vs 2, vs 2]) (rk_52 _) rfl ?_
    refine w_aln l_52_0 rfl ?_
    refine w_gr l_52_1 (oRun_sh o) (oRun_r1 o) ?_
    refine w_iln l_52_4 rfl ?_
    refine q_iv [vi ((p : Nat) : Int)] [] l_52_5 rfl rfl (Nat.le_of_ble_eq_true rfl) (by rw [mx_80]; exact Nat.le_of_ble_eq_true rfl) (by rw [mt_80]; exact oState_sh (oRun_o1 o)) (by rw [mt_80]; decide) (by rw [rk_80]; decide) (c_hasLink o hR hp4) ?_
    refine w_bne 19 l_52_8 (by decide) (fun h1 => ?_) (fun h1 => ?_)
    · skip
      refine w_aln l_52_19 rfl ?_
      refine w_iln l_52_20 rfl ?_
      refine q_iv [vi ((k : Nat) : Int)] [] l_52_21 rfl rfl (Nat.le_of_ble_eq_true rfl) (by rw [mx_54]; exact Nat.le_of_ble_eq_true rfl) (by rw [mt_54]; exact oRun_sh o) (by rw [mt_54]; decide) (by rw [rk_54]; decide) ((by have h9 := s_54 (xs := xs) (S := S) (T := T) (cc := cc) (zz := zz) o E hk; rw [hr] at h9; exact h9)) ?_
      refine w_isn l_52_24 ⟨Nat.le_of_ble_eq_true rfl, rfl⟩ ?_
      refine w_iln l_52_25 rfl ?_
      refine w_ic l_52_26 (by decide) ?_
      refine w_ceq 49 l_52_27 (by decide) (fun hx => absurd hx (by intro hx; have h9 : ((q : Nat) : Int) = -1 := hx; omega)) (fun _ => ?_)
      refine w_aln l_52_30 rfl ?_
      refine w_gr l_52_31 (oRun_sh o) (oRun_r0 o) ?_
      refine w_iln l_52_34 rfl ?_
      refine q_iv [vi ((q : Nat) : Int)] [] l_52_35 rfl rfl (Nat.le_of_ble_eq_true rfl) (by rw [mx_11]; exact Nat.le_of_ble_eq_true rfl) (by rw [mt_11]; exact oLimits_sh (oRun_o0 o)) (by rw [mt_11]; decide) (by rw [rk_11]; decide) (c_isDrop o E.L hq8) ?_
      refine w_beq 49 l_52_38 (by decide) (fun h2 => ?_) (fun h2 => ?_)
      · skip
        rw [arrive_s h1 hr h2]
        exact lp_52a o E hR hok hk hp hu
      · skip
        refine w_aln l_52_41 rfl ?_
        refine w_iln l_52_42 rfl ?_
        refine w_ic l_52_43 (by decide) ?_
        refine w_iln l_52_44 rfl ?_
        refine p_iv [vi ((k : Nat) : Int), vi 2, vi ((q : Nat) : Int)] [] l_52_45 rfl rfl (Nat.le_of_ble_eq_true rfl) (by rw [mx_53]; exact Nat.le_of_ble_eq_true rfl) (by rw [mt_53]; exact oRun_sh o) (by rw [mt_53]; decide) (by rw [rk_53]; decide) (s_53 o E hR hk hlt) (fun v I2 hv => ?_)
        obtain ⟨rfl, hR2, f2⟩ := hv
        refine w_ir l_52_48 (Or.inl rfl) ?_
        rw [arrive_d h1 hr h2]
        exact ⟨_, _, rfl, rfl, rfl, hR2, f2⟩
    · skip
      refine w_aln l_52_11 rfl ?_
      refine w_iln l_52_12 rfl ?_
      refine w_ic l_52_13 (by decide) ?_
      refine w_ic l_52_14 (by decide) ?_
      refine p_iv [vi ((k : Nat) : Int), vi 1, vi (-1)] [] l_52_15 rfl rfl (Nat.le_of_ble_eq_true rfl) (by rw [mx_53]; exact Nat.le_of_ble_eq_true rfl) (by rw [mt_53]; exact oRun_sh o) (by rw [mt_53]; decide) (by rw [rk_53]; decide) (s_53 o E hR hk hlt) (fun v I2 hv => ?_)
      obtain ⟨rfl, hR2, f2⟩ := hv
      refine w_ir l_52_18 (Or.inl rfl) ?_
      rw [arrive_dn h1]
      exact ⟨_, _, rfl, rfl, rfl, hR2, f2⟩

end DOO
