/-! the class: a run's doings, 5 -/
section DOM
variable {xs : List Int} {S : List (Nat × Nat)} {T : Nat → Nat → Nat} {cc zz s x : Nat} {h : Hi} {l : Li} {r : Ra} {I I' : Ix}

theorem below_le {h : Hi} (ok : okHi h) (z : Nat) : ∀ q : List Cp, belowQ h z q ≤ 9 * q.length
  | [] => Nat.le_refl _
  | c :: r => by
    have h1 := below_le ok z r
    have h2 := (ok c.1).1
    show (if hRnk h c.1 < z then hSiz h c.1 else 0) + belowQ h z r ≤ 9 * (r.length + 1)
    split <;> omega

theorem s_56 (o : oRun S T s x) {e ne np : Nat} {a : Nat → Nat} {u k p : Nat} (E : CE I s x e h l a ne np) (hR : cR I s h l r) (hok : okR h l np u r) (hk : k < np) (hp : p < lPorts l) (hu : u < 360) : CL xs 56 [vr s, vi ((k : Nat) : Int), vi ((p : Nat) : Int)] (S, I, T, cc, zz) (RP S T cc zz (fun v I' => v = some (vi (((putA h l e k p r).2 : Nat) : Int)) ∧ cR I' s h l (putA h l e k p r).1 ∧ fr I I' (s + 6) (s + 17))) := by
  refine CL_start (r := 2) (ls := [vr s, vi ((k : Nat) : Int), vi ((p : Nat) : Int), vs 2, vs 2, vs 2, vs 2]) (rk_56 _) rfl ?_
  have hp4 := E.p4 hp
  have hb1 := hok.2.1 p
  have hb2 := (E.ok k).1
  have hb3 := (E.okl.2.2.1 p hp).1
  have hb4 := fillAll_4 E.okl hok
  have hb5 : fillP h r.1 0 ≤ 99 ∧ fillP h r.1 1 ≤ 99 ∧ fillP h r.1 2 ≤ 99 ∧ fillP h r.1 3 ≤ 99 := ⟨hok.2.1 0, hok.2.1 1, hok.2.1 2, hok.2.1 3⟩
  have hb6 := ok_lt hok hp4
  have hb7 := below_le E.ok (hRnk h k) (sQ r.1 p)
  have hb8 := ok_len hok E.ok p
  refine w_aln l_56_0 rfl ?_
  refine w_gr l_56_1 (oRun_sh o) (oRun_r3 o) ?_
  refine w_iln l_56_4 rfl ?_
  refine q_iv [vi ((k : Nat) : Int)] [] l_56_5 rfl rfl (Nat.le_of_ble_eq_true rfl) (by rw [mx_5]; exact Nat.le_of_ble_eq_true rfl) (by rw [mt_5]; exact oHistory_sh (oRun_o3 o)) (by rw [mt_5]; decide) (by rw [rk_5]; decide) (s_5r E.H (oRun_o3 o) hk) ?_
  refine w_isn l_56_8 ⟨Nat.le_of_ble_eq_true rfl, rfl⟩ ?_
  refine w_aln l_56_9 rfl ?_
  refine w_gr l_56_10 (oRun_sh o) (oRun_r1 o) ?_
  refine q_iv [] [] l_56_13 rfl rfl (Nat.le_of_ble_eq_true rfl) (by rw [mx_83]; exact Nat.le_of_ble_eq_true rfl) (by rw [mt_83]; exact oState_sh (oRun_o1 o)) (by rw [mt_83]; decide) (by rw [rk_83]; decide) (c_allUnits o E hR hok) ?_
  refine w_iln l_56_16 rfl ?_
  refine w_add (((fillAll h (lPorts l) r.1) + (hSiz h k) : Nat) : Int) l_56_17 (by unfold wr; omega) ?_
  refine w_aln l_56_18 rfl ?_
  refine w_gr l_56_19 (oRun_sh o) (oRun_r0 o) ?_
  refine w_gi (((lBuf l) : Nat) : Int) l_56_22 (oLimits_sh (oRun_o0 o)) E.L.2.2.1 ?_
  refine w_cle 46 l_56_25 (by decide) (fun h1 => ?_) (fun h1 => ?_)
  · skip
    refine w_aln l_56_46 rfl ?_
    refine w_gr l_56_47 (oRun_sh o) (oRun_r1 o) ?_
    refine w_gr l_56_50 (oState_sh (oRun_o1 o)) (oState_r3 (oRun_o1 o)) ?_
    refine w_iln l_56_53 rfl ?_
    refine w_ia p (((fillP h r.1 p) : Nat) : Int) l_56_54 (oState_s3 (oRun_o1 o)) rfl (by omega) (hR.1.2.2.2.1 p hp4) ?_
    refine w_iln l_56_55 rfl ?_
    refine w_add (((fillP h r.1 p) + (hSiz h k) : Nat) : Int) l_56_56 (by unfold wr; omega) ?_
    refine w_aln l_56_57 rfl ?_
    refine w_gr l_56_58 (oRun_sh o) (oRun_r0 o) ?_
    refine w_gr l_56_61 (oLimits_sh (oRun_o0 o)) (oLimits_r1 (oRun_o0 o)) ?_
    refine w_iln l_56_64 rfl ?_
    refine w_ia p (((lCap l p) : Nat) : Int) l_56_65 (oLimits_s1 (oRun_o0 o)) rfl (by omega) ((E.L.2.1 p hp).1) ?_
    refine w_sub (((fillP h r.1 p : Nat) : Int) + ((hSiz h k : Nat) : Int) - ((lCap l p : Nat) : Int)) l_56_66 (by unfold wr; omega) ?_
    refine w_is l_56_67 ⟨Nat.le_of_ble_eq_true rfl, rfl⟩ ?_
    refine w_il l_56_69 rfl ?_
    refine w_zle 110 l_56_71 (by decide) (fun h2 => ?_) (fun h2 => ?_)
    · skip
      refine w_aln l_56_110 rfl ?_
      refine w_gr l_56_111 (oRun_sh o) (oRun_r1 o) ?_
      refine w_gr l_56_114 (oState_sh (oRun_o1 o)) (oState_r4 (oRun_o1 o)) ?_
      refine w_iln l_56_117 rfl ?_
      refine w_ia p (((sQ r.1 p).length : Nat) : Int) l_56_118 (oState_s4 (oRun_o1 o)) rfl (by omega) ((hR.1.2.2.2.2.1 p hp4).1) ?_
      refine w_is l_56_119 ⟨Nat.le_of_ble_eq_true rfl, rfl⟩ ?_
      rw [show putA h l e k p r = (putEnd e k p (pushA h (lCap l p) (hSiz h k) e k p (sQ r.1 p).length r), 1) by unfold putA; rw [if_neg (by omega), if_neg (by omega)]]
      exact lp_56 o E hk hp (by omega) _ _ I r _ _ rfl rfl rfl hR hok (fr.rf _ _ _) (by omega) rfl
    · skip
      refine w_aln l_56_74 rfl ?_
      refine w_aln l_56_75 rfl ?_
      refine w_gr l_56_76 (oRun_sh o) (oRun_r3 o) ?_
      refine w_iln l_56_79 rfl ?_
      refine q_iv [vi ((k : Nat) : Int)] [vr s] l_56_80 rfl rfl (Nat.le_of_ble_eq_true rfl) (by rw [mx_6]; exact Nat.le_of_ble_eq_true rfl) (by rw [mt_6]; exact oHistory_sh (oRun_o3 o)) (by rw [mt_6]; decide) (by rw [rk_6]; decide) (s_6r E.H (oRun_o3 o) hk) ?_
      refine w_iln l_56_83 rfl ?_
      refine q_iv [vi (((hRnk h k) : Nat) : Int), vi ((p : Nat) : Int)] [] l_56_84 rfl rfl (Nat.le_of_ble_eq_true rfl) (by rw [mx_57]; exact Nat.le_of_ble_eq_true rfl) (by rw [mt_57]; exact oRun_sh o) (by rw [mt_57]; decide) (by rw [rk_57]; decide) (s_57 o E.H E.ok hR.1 hp4 (ok_hq hok)) ?_
      refine w_il l_56_87 rfl ?_
      refine w_cge 110 l_56_89 (by decide) (fun h3 => ?_) (fun h3 => ?_)
      · skip
        refine w_aln l_56_110 rfl ?_
        refine w_gr l_56_111 (oRun_sh o) (oRun_r1 o) ?_
        refine w_gr l_56_114 (oState_sh (oRun_o1 o)) (oState_r4 (oRun_o1 o)) ?_
        refine w_iln l_56_117 rfl ?_
        refine w_ia p (((sQ r.1 p).length : Nat) : Int) l_56_118 (oState_s4 (oRun_o1 o)) rfl (by omega) ((hR.1.2.2.2.2.1 p hp4).1) ?_
        refine w_is l_56_119 ⟨Nat.le_of_ble_eq_true rfl, rfl⟩ ?_
        rw [show putA h l e k p r = (putEnd e k p (pushA h (lCap l p) (hSiz h k) e k p (sQ r.1 p).length r), 1) by unfold putA; rw [if_neg (by omega), if_neg (by omega)]]
        exact lp_56 o E hk hp (by omega) _ _ I r _ _ rfl rfl rfl hR hok (fr.rf _ _ _) (by omega) rfl
      · skip
        refine w_aln l_56_92 rfl ?_
        refine w_gr l_56_93 (oRun_sh o) (oRun_r2 o) ?_
        refine w_aln l_56_96 rfl ?_
        refine w_gi ((e : Nat) : Int) l_56_97 (oRun_sh o) E.ev ?_
        refine w_iln l_56_100 rfl ?_
        refine w_iln l_56_101 rfl ?_
        refine w_bp l_56_102 (by decide) ?_
        refine w_ic l_56_104 (by decide) ?_
        refine p_iv [vi ((e : Nat) : Int), vi ((k : Nat) : Int), vi ((p : Nat) : Int), vi 7, vi (-1)] [] l_56_105 rfl rfl (Nat.le_of_ble_eq_true rfl) (by rw [mx_19]; exact Nat.le_of_ble_eq_true rfl) (by rw [mt_19]; exact oLog_sh (oRun_o2 o)) (by rw [mt_19]; decide) (by rw [rk_19]; decide) (c_addDrop o hR (by omega) (E.np hk) (by omega)) (fun v I1 hv => ?_)
        obtain ⟨rfl, hR1, f1⟩ := hv
        refine w_ic l_56_108 (by decide) ?_
        refine w_ir l_56_109 (Or.inl rfl) ?_
        rw [show putA h l e k p r = ((r.1, addDr r.2 e k p 7 (-1)), 0) by unfold putA; rw [if_neg (by omega), if_pos (by omega)]]
        exact ⟨_, _, rfl, rfl, rfl, hR1, f1⟩
  · skip
    refine w_aln l_56_28 rfl ?_
    refine w_gr l_56_29 (oRun_sh o) (oRun_r2 o) ?_
    refine w_aln l_56_32 rfl ?_
    refine w_gi ((e : Nat) : Int) l_56_33 (oRun_sh o) E.ev ?_
    refine w_iln l_56_36 rfl ?_
    refine w_iln l_56_37 rfl ?_
    refine w_bp l_56_38 (by decide) ?_
    refine w_ic l_56_40 (by decide) ?_
    refine p_iv [vi ((e : Nat) : Int), vi ((k : Nat) : Int), vi ((p : Nat) : Int), vi 6, vi (-1)] [] l_56_41 rfl rfl (Nat.le_of_ble_eq_true rfl) (by rw [mx_19]; exact Nat.le_of_ble_eq_true rfl) (by rw [mt_19]; exact oLog_sh (oRun_o2 o)) (by rw [mt_19]; decide) (by rw [rk_19]; decide) (c_addDrop o hR (by omega) (E.np hk) (by omega)) (fun v I1 hv => ?_)
    obtain ⟨rfl, hR1, f1⟩ := hv
    refine w_ic l_56_44 (by decide) ?_
    refine w_ir l_56_45 (Or.inl rfl) ?_
    rw [show putA h l e k p r = ((r.1, addDr r.2 e k p 6 (-1)), 0) by unfold putA; rw [if_pos (by omega)]]
    exact ⟨_, _, rfl, rfl, rfl, hR1, f1⟩

end DOM
