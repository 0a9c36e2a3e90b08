/-! the reference: a packet arrives, 2 -/
theorem arriveC_S {h : Hi} {l : Li} {e p k w : Nat} {r : Ra} (hv : validA l (setTab r.1 (hSrc h k) (some (p, sTime r.1))) (hTgt h k) = some w) (hwp : w ≠ p) (hw : w < lPorts l) :
    arriveC h l e p k r = if ways (fun o => o == w) (lPorts l) = 0 then refA e k 5 (-1) (setTab r.1 (hSrc h k) (some (p, sTime r.1)), r.2) else putsA h l e k (fun o => o == w) (lPorts l) (setTab r.1 (hSrc h k) (some (p, sTime r.1)), r.2) := by
  have h0 : ways (fun o => o == w) (lPorts l) ≠ 0 := fun h9 => by
    have := (ways_0 (lPorts l)).mp h9 w hw
    simp at this
  rw [if_neg h0]
  unfold arriveC
  rw [hv]
  exact if_neg hwp
theorem arriveC_N {h : Hi} {l : Li} {e p k : Nat} {r : Ra} (hv : validA l (setTab r.1 (hSrc h k) (some (p, sTime r.1))) (hTgt h k) = none) :
    arriveC h l e p k r = if ways (fun o => o != p && sUp (setTab r.1 (hSrc h k) (some (p, sTime r.1))) o) (lPorts l) = 0 then refA e k 5 (-1) (setTab r.1 (hSrc h k) (some (p, sTime r.1)), r.2) else putsA h l e k (fun o => o != p && sUp (setTab r.1 (hSrc h k) (some (p, sTime r.1))) o) (lPorts l) (setTab r.1 (hSrc h k) (some (p, sTime r.1)), r.2) := by
  unfold arriveC
  rw [hv]
  simp only
  rw [all_w]
  have h1 := ways_0 (way := fun o => o != p && sUp (setTab r.1 (hSrc h k) (some (p, sTime r.1))) o) (lPorts l)
  have h2 := wbits_0 (way := fun o => o != p && sUp (setTab r.1 (hSrc h k) (some (p, sTime r.1))) o) (lPorts l)
  by_cases h3 : ways (fun o => o != p && sUp (setTab r.1 (hSrc h k) (some (p, sTime r.1))) o) (lPorts l) = 0
  · rw [if_pos h3, if_pos (decide_eq_true (h2.mpr (h1.mp h3)))]
  · rw [if_neg h3, if_neg (fun q => h3 (h1.mpr (h2.mp (of_decide_eq_true q))))]
theorem arrive_rN {h : Hi} {l : Li} {e p k : Nat} {r : Ra} (hu : sUp r.1 p = true) (hr : ruleD h l k = none) : arriveA h l e p k r = arriveB h l e p k r := by
  unfold ruleD at hr
  cases hA : ruleA h l k with
  | none => exact arrive_n hu hA
  | some x =>
    rw [hA] at hr
    simp only at hr
    refine arrive_s hu hA ?_
    cases hd : lDrop l x
    · rfl
    · rw [if_pos hd] at hr; cases hr
theorem arrive_rS {h : Hi} {l : Li} {e p k x : Nat} {r : Ra} (hu : sUp r.1 p = true) (hr : ruleD h l k = some x) : arriveA h l e p k r = refA e k 2 x r := by
  unfold ruleD at hr
  cases hA : ruleA h l k with
  | none => rw [hA] at hr; cases hr
  | some y =>
    rw [hA] at hr
    simp only at hr
    cases hd : lDrop l y
    · rw [if_neg (by rw [hd]; decide)] at hr; cases hr
    · rw [if_pos hd] at hr
      injection hr with e
      rw [← e]
      exact arrive_d hu hA hd
section REL
variable {xs : List Int} {S : List (Nat × Nat)} {T : Nat → Nat → Nat} {cc zz s : Nat} {h : Hi} {l : Li} {r : Ra} {I I' : Ix}
theorem r_src (hm : oModel S T s) {ne np : Nat} {a : Nat → Nat} (H : mH I s h a ne np) {k : Nat} (hk : k < np) : CL xs 206 [vr s, vi ((k : Nat) : Int), vi 2] (S, I, T, cc, zz) (FN (some (vi ((hSrc h k : Nat) : Int))) (S, I, T, cc, zz)) := r_fact (f := 0) hm H hk (by decide)
theorem r_tgt (hm : oModel S T s) {ne np : Nat} {a : Nat → Nat} (H : mH I s h a ne np) {k : Nat} (hk : k < np) : CL xs 206 [vr s, vi ((k : Nat) : Int), vi 3] (S, I, T, cc, zz) (FN (some (vi ((hTgt h k : Nat) : Int))) (S, I, T, cc, zz)) := r_fact (f := 1) hm H hk (by decide)

theorem lp_222b {I0 : Ix} (hm : oModel S T s) {e ne np u p k : Nat} {a : Nat → Nat} {v3 : Int} (E : ME I0 s e h l a ne np) (hR : nR I s l r) (hok : okR h l np u r) (hT : okT l r.1) (hk : k < np) (hp : p < lPorts l) (hu : u + 3 ≤ 360) (f : mfc I0 I s 0 0) :
    WP xs 222 6 99 [vr s, vi ((p : Nat) : Int), vi ((k : Nat) : Int), vi v3, vs 2, vs 2, vs 2, vs 2, vs 2] [] (S, I, T, cc, zz) (RP S T cc zz (fun v I' => v = none ∧ nR I' s l (arriveC h l e p k r).1 ∧ mfc I0 I' s (((arriveC h l e p k r).2 : Nat) : Int) 0)) := by
  have hp4 := E.p4 hp
  have hk120 := E.np hk
  have hs64 := (E.ok k).2.2.2.1
  have ht64 := (E.ok k).2.2.2.2
  have hlt : r.2.1.length < 360 := by have h9 := ok_lt hok hp4; omega
  have hok2 : okR h l np u (setTab r.1 (hSrc h k) (some (p, sTime r.1)), r.2) := ⟨hok.1, hok.2.1, hok.2.2⟩
  obtain ⟨g1, g2⟩ := nS_learn (b := hSrc h k) (p := p) hR hp4
  cases hv : validA l (setTab r.1 (hSrc h k) (some (p, sTime r.1))) (hTgt h k) with
  | some w =>
    have hwl : w < lPorts l := by
      obtain ⟨t, ht⟩ := valid_t hv
      have e : sTab (setTab r.1 (hSrc h k) (some (p, sTime r.1))) (hTgt h k) = if hTgt h k = hSrc h k then some (p, sTime r.1) else sTab r.1 (hTgt h k) := rfl
      rw [e] at ht
      split at ht
      · injection ht with e; injection e with e1 e2; omega
      · exact hT _ _ _ ht
    refine w_aln l_222_99 rfl ?_
    refine w_iln l_222_100 rfl ?_
    refine w_ic l_222_101 (by decide) ?_
    refine q_iv [vi ((k : Nat) : Int), vi 2] [] l_222_102 rfl rfl (Nat.le_of_ble_eq_true rfl) (by rw [mx_206]; exact Nat.le_of_ble_eq_true rfl) (by rw [mt_206]; exact oModel_sh hm) (by rw [mt_206]; decide) (by rw [rk_206]; decide) (r_src hm (E.fr f.1).H hk) ?_
    refine w_is l_222_105 ⟨Nat.le_of_ble_eq_true rfl, rfl⟩ ?_
    refine w_aln l_222_107 rfl ?_
    refine w_iln l_222_108 rfl ?_
    refine w_ic l_222_109 (by decide) ?_
    refine q_iv [vi ((k : Nat) : Int), vi 3] [] l_222_110 rfl rfl (Nat.le_of_ble_eq_true rfl) (by rw [mx_206]; exact Nat.le_of_ble_eq_true rfl) (by rw [mt_206]; exact oModel_sh hm) (by rw [mt_206]; decide) (by rw [rk_206]; decide) (r_tgt hm (E.fr f.1).H hk) ?_
    refine w_is l_222_113 ⟨Nat.le_of_ble_eq_true rfl, rfl⟩ ?_
    refine w_aln l_222_115 rfl ?_
    refine w_gr l_222_116 (oModel_sh hm) (oModel_r61 hm) ?_
    refine w_il l_222_119 rfl ?_
    refine w_iln l_222_121 rfl ?_
    refine w_iS (hSrc h k) l_222_122 (oModel_s61 hm) rfl (by omega) ?_
    refine w_aln l_222_123 rfl ?_
    refine w_gr l_222_124 (oModel_sh hm) (oModel_r62 hm) ?_
    refine w_il l_222_127 rfl ?_
    refine w_aln l_222_129 rfl ?_
    refine w_gi (((sTime r.1) : Nat) : Int) l_222_130 (oModel_sh hm) ((up_no (by omega)).trans (hR.1.1.1)) ?_
    refine w_iS (hSrc h k) l_222_133 (oModel_s62 hm) rfl (by omega) ?_
    refine w_aln l_222_134 rfl ?_
    refine w_il l_222_135 rfl ?_
    refine q_iv [vi (((hTgt h k) : Nat) : Int)] [] l_222_137 rfl rfl (Nat.le_of_ble_eq_true rfl) (by rw [mx_221]; exact Nat.le_of_ble_eq_true rfl) (by rw [mt_221]; exact oModel_sh hm) (by rw [mt_221]; decide) (by rw [rk_221]; decide) (r_valid1 hm (E.fr (f.t0 g2).1) g1 hok2 ht64 hv) ?_
    refine w_zeq 163 l_222_140 (by decide) (fun hx => absurd hx (by decide)) (fun _ => ?_)
    refine w_aln l_222_143 rfl ?_
    refine w_gr l_222_144 (oModel_sh hm) (oModel_r61 hm) ?_
    refine w_il l_222_147 rfl ?_
    refine w_ia (hTgt h k) ((w : Nat) : Int) l_222_149 (oModel_s61 hm) rfl (by omega) (nS_way g1 ht64 hv) ?_
    refine w_iln l_222_150 rfl ?_
    refine w_cne 163 l_222_151 (by decide) (fun h1 => ?_) (fun h1 => ?_)
    · skip
      refine w_ic l_222_163 (by decide) ?_
      refine w_is l_222_164 ⟨Nat.le_of_ble_eq_true rfl, rfl⟩ ?_
      refine w_ic l_222_166 (by decide) ?_
      refine w_is l_222_167 ⟨Nat.le_of_ble_eq_true rfl, rfl⟩ ?_
      have hw3 : u + ways (fun o => o == w) (lPorts l) ≤ 360 := by
        have h7 := ways_1 (w := w) (lPorts l)
        have h9 : (if w < lPorts l then 1 else 0) ≤ 1 := by split <;> omega
        omega
      refine WP_mono (lp_222S hm (E.fr (f.t0 g2).1) hok2 hk hw3 (by omega) hv _ 0 _ _ (Nat.zero_add _) g1 (mfc.rf _ _)) ?_
      rintro q m' ⟨v, J, e1, e2, e3, e4, e5⟩
      rw [arriveC_S hv (by intro q; rw [q] at h1; exact h1 rfl) hwl]
      exact ⟨v, J, e1, e2, e3, e4, (f.t0 g2).t0 e5⟩
    · skip
      refine w_aln l_222_154 rfl ?_
      refine w_iln l_222_155 rfl ?_
      refine w_ic l_222_156 (by decide) ?_
      refine w_ic l_222_157 (by decide) ?_
      refine w_ic l_222_158 (by decide) ?_
      refine p_iv [vi ((k : Nat) : Int), vi (-1), vi 4, vi (-1)] [] l_222_159 rfl rfl (Nat.le_of_ble_eq_true rfl) (by rw [mx_211]; exact Nat.le_of_ble_eq_true rfl) (by rw [mt_211]; exact oModel_sh hm) (by rw [mt_211]; decide) (by rw [rk_211]; decide) (r_drops0 hm g1 (E.fr (f.t0 g2).1).ev (E.np hk) hlt) (fun v I1 hv => ?_)
      obtain ⟨rfl, hR1, f1⟩ := hv
      refine w_vr l_222_162 ?_
      have hwp : w = p := by omega
      rw [show arriveC h l e p k r = refA e k 4 (-1) (setTab r.1 (hSrc h k) (some (p, sTime r.1)), r.2) by unfold arriveC; rw [hv]; exact if_pos hwp]
      exact ⟨_, _, rfl, rfl, rfl, hR1, (f.t0 g2).t0 f1⟩
  | none =>
    refine w_aln l_222_99 rfl ?_
    refine w_iln l_222_100 rfl ?_
    refine w_ic l_222_101 (by decide) ?_
    refine q_iv [vi ((k : Nat) : Int), vi 2] [] l_222_102 rfl rfl (Nat.le_of_ble_eq_true rfl) (by rw [mx_206]; exact Nat.le_of_ble_eq_true rfl) (by rw [mt_206]; exact oModel_sh hm) (by rw [mt_206]; decide) (by rw [rk_206]; decide) (r_src hm (E.fr f.1).H hk) ?_
    refine w_is l_222_105 ⟨Nat.le_of_ble_eq_true rfl, rfl⟩ ?_
    refine w_aln l_222_107 rfl ?_
    refine w_iln l_222_108 rfl ?_
    refine w_ic l_222_109 (by decide) ?_
    refine q_iv [vi ((k : Nat) : Int), vi 3] [] l_222_110 rfl rfl (Nat.le_of_ble_eq_true rfl) (by rw [mx_206]; exact Nat.le_of_ble_eq_true rfl) (by rw [mt_206]; exact oModel_sh hm) (by rw [mt_206]; decide) (by rw [rk_206]; decide) (r_tgt hm (E.fr f.1).H hk) ?_
    refine w_is l_222_113 ⟨Nat.le_of_ble_eq_true rfl, rfl⟩ ?_
    refine w_aln l_222_115 rfl ?_
    refine w_gr l_222_116 (oModel_sh hm) (oModel_r61 hm) ?_
    refine w_il l_222_119 rfl ?_
    refine w_iln l_222_121 rfl ?_
    refine w_iS (hSrc h k) l_222_122 (oModel_s61 hm) rfl (by omega) ?_
    refine w_aln l_222_123 rfl ?_
    refine w_gr l_222_124 (oModel_sh hm) (oModel_r62 hm) ?_
    refine w_il l_222_127 rfl ?_
    refine w_aln l_222_129 rfl ?_
    refine w_gi (((sTime r.1) : Nat) : Int) l_222_130 (oModel_sh hm) ((up_no (by omega)).trans (hR.1.1.1)) ?_
    refine w_iS (hSrc h k) l_222_133 (oModel_s62 hm) rfl (by omega) ?_
    refine w_aln l_222_134 rfl ?_
    refine w_il l_222_135 rfl ?_
    refine q_iv [vi (((hTgt h k) : Nat) : Int)] [] l_222_137 rfl rfl (Nat.le_of_ble_eq_true rfl) (by rw [mx_221]; exact Nat.le_of_ble_eq_true rfl) (by rw [mt_221]; exact oModel_sh hm) (by rw [mt_221]; decide) (by rw [rk_221]; decide) (r_valid0 hm (E.fr (f.t0 g2).1) g1 hok2 ht64 hv) ?_
    refine w_zeq 163 l_222_140 (by decide) (fun _ => ?_) (fun hx => absurd hx (by decide))
    refine w_ic l_222_163 (by decide) ?_
    refine w_is l_222_164 ⟨Nat.le_of_ble_eq_true rfl, rfl⟩ ?_
    refine w_ic l_222_166 (by decide) ?_
    refine w_is l_222_167 ⟨Nat.le_of_ble_eq_true rfl, rfl⟩ ?_
    have hw3 : u + ways (fun o => o != p && sUp (setTab r.1 (hSrc h k) (some (p, sTime r.1))) o) (lPorts l) ≤ 360 := by
      have h9 := (ways_le (way := fun o => o != p && sUp (setTab r.1 (hSrc h k) (some (p, sTime r.1))) o) (p := p) (by simp) (lPorts l)).2 hp
      have h7 := E.okl.1
      omega
    refine WP_mono (lp_222N hm (E.fr (f.t0 g2).1) hok2 hk hw3 (by omega) hv _ 0 _ _ (Nat.zero_add _) g1 (mfc.rf _ _)) ?_
    rintro q m' ⟨v, J, e1, e2, e3, e4, e5⟩
    rw [arriveC_N hv]
    exact ⟨v, J, e1, e2, e3, e4, (f.t0 g2).t0 e5⟩

theorem lp_222a {I0 : Ix} (hm : oModel S T s) {e ne np u p k : Nat} {a : Nat → Nat} (E : ME I0 s e h l a ne np) (hR : nR I s l r) (hok : okR h l np u r) (hT : okT l r.1) (hk : k < np) (hp : p < lPorts l) (hu : u + 3 ≤ 360) (f : mfc I0 I s 0 0) :
    WP xs 222 6 38 [vr s, vi ((p : Nat) : Int), vi ((k : Nat) : Int), vi (-1), vs 2, vs 2, vs 2, vs 2, vs 2] [] (S, I, T, cc, zz) (RP S T cc zz (fun v I' => v = none ∧ nR I' s l (arriveB h l e p k r).1 ∧ mfc I0 I' s (((arriveB h l e p k r).2 : Nat) : Int) 0)) := by
  have hp4 := E.p4 hp
  have hk120 := E.np hk
  have hs9 := (E.ok k).1
  have hlt : r.2.1.length < 360 := by have h9 := ok_lt hok hp4; omega
  have gL := ((E.fr f.1).L.2.1 p hp).2.2
  have gt := hR.1.2.2.2.1 p hp
  unfold tokI at gt
  cases hpo : lPol l p with
  | none =>
    rw [hpo] at gL gt
    obtain ⟨gt, gt2⟩ := gt
    change I (s + 4) p = 0 ∧ I (s + 5) p = -1 at gL
    change I (s + 31) p = -1 at gt
    refine w_aln l_222_38 rfl ?_
    refine w_gr l_222_39 (oModel_sh hm) (oModel_r6 hm) ?_
    refine w_iln l_222_42 rfl ?_
    refine w_ia p (-1) l_222_43 (oModel_s6 hm) rfl (by omega) gL.2 ?_
    refine w_ic l_222_44 (by decide) ?_
    refine w_ceq 71 l_222_45 (by decide) (fun _ => ?_) (fun hx => absurd hx (by decide))
    refine w_aln l_222_71 rfl ?_
    refine w_gr l_222_72 (oModel_sh hm) (oModel_r60 hm) ?_
    refine w_iln l_222_75 rfl ?_
    refine w_dup2 l_222_76 rfl ?_
    refine w_ia p (-1) l_222_77 (oModel_s60 hm) rfl (by omega) gt ?_
    refine w_aln l_222_78 rfl ?_
    refine w_gr l_222_79 (oModel_sh hm) (oModel_r6 hm) ?_
    refine w_iln l_222_82 rfl ?_
    refine w_ia p (-1) l_222_83 (oModel_s6 hm) rfl (by omega) gL.2 ?_
    refine w_ic l_222_84 (by decide) ?_
    refine w_cne 92 l_222_85 (by decide) (fun hx => absurd hx (by decide)) (fun _ => ?_)
    refine w_ic l_222_88 (by decide) ?_
    refine w_go 97 l_222_89 (by decide) ?_
    refine w_sub (-1) l_222_97 (by decide) ?_
    refine w_iS p l_222_98 (oModel_s60 hm) rfl (by omega) ?_
    obtain ⟨g1, g2⟩ := nS_tk (v := -1) (p := p) (A := r.1) hR rfl rfl rfl (fun _ _ _ => rfl) (fun _ => ⟨by unfold tokI; rw [hpo], by decide⟩)
    rw [show arriveB h l e p k r = arriveC h l e p k r by unfold arriveB policeA; rw [hpo]]
    exact lp_222b hm E g1 hok hT hk hp hu (f.t0 g2)
  | some rb =>
    obtain ⟨ra, b⟩ := rb
    rw [hpo] at gL gt
    obtain ⟨gt, gt2⟩ := gt
    change I (s + 4) p = (ra : Int) ∧ I (s + 5) p = (b : Int) at gL
    change I (s + 31) p = ((sTok r.1 p : Nat) : Int) at gt
    change ((sTok r.1 p : Nat) : Int) ≤ 99 at gt2
    have hrb := E.okl.2.2.2.1 p ra b hpo
    refine w_aln l_222_38 rfl ?_
    refine w_gr l_222_39 (oModel_sh hm) (oModel_r6 hm) ?_
    refine w_iln l_222_42 rfl ?_
    refine w_ia p ((b : Nat) : Int) l_222_43 (oModel_s6 hm) rfl (by omega) gL.2 ?_
    refine w_ic l_222_44 (by decide) ?_
    refine w_ceq 71 l_222_45 (by decide) (fun hx => absurd hx (by omega)) (fun _ => ?_)
    refine w_aln l_222_48 rfl ?_
    refine w_gr l_222_49 (oModel_sh hm) (oModel_r60 hm) ?_
    refine w_iln l_222_52 rfl ?_
    refine w_ia p (((sTok r.1 p) : Nat) : Int) l_222_53 (oModel_s60 hm) rfl (by omega) gt ?_
    refine w_aln l_222_54 rfl ?_
    refine w_iln l_222_55 rfl ?_
    refine q_iv [vi ((k : Nat) : Int)] [vi (((sTok r.1 p) : Nat) : Int)] l_222_56 rfl rfl (Nat.le_of_ble_eq_true rfl) (by rw [mx_207]; exact Nat.le_of_ble_eq_true rfl) (by rw [mt_207]; exact oModel_sh hm) (by rw [mt_207]; decide) (by rw [rk_207]; decide) (s_207 hm (E.fr f.1).H hk) ?_
    refine w_cge 71 l_222_59 (by decide) (fun h1 => ?_) (fun h1 => ?_)
    · skip
      refine w_aln l_222_71 rfl ?_
      refine w_gr l_222_72 (oModel_sh hm) (oModel_r60 hm) ?_
      refine w_iln l_222_75 rfl ?_
      refine w_dup2 l_222_76 rfl ?_
      refine w_ia p (((sTok r.1 p) : Nat) : Int) l_222_77 (oModel_s60 hm) rfl (by omega) gt ?_
      refine w_aln l_222_78 rfl ?_
      refine w_gr l_222_79 (oModel_sh hm) (oModel_r6 hm) ?_
      refine w_iln l_222_82 rfl ?_
      refine w_ia p ((b : Nat) : Int) l_222_83 (oModel_s6 hm) rfl (by omega) gL.2 ?_
      refine w_ic l_222_84 (by decide) ?_
      refine w_cne 92 l_222_85 (by decide) (fun _ => ?_) (fun hx => absurd hx (by omega))
      refine w_aln l_222_92 rfl ?_
      refine w_iln l_222_93 rfl ?_
      refine q_iv [vi ((k : Nat) : Int)] [vi (((sTok r.1 p) : Nat) : Int), vi ((p : Nat) : Int), vr (s + 31)] l_222_94 rfl rfl (Nat.le_of_ble_eq_true rfl) (by rw [mx_207]; exact Nat.le_of_ble_eq_true rfl) (by rw [mt_207]; exact oModel_sh hm) (by rw [mt_207]; decide) (by rw [rk_207]; decide) (s_207 hm (E.fr f.1).H hk) ?_
      refine w_sub (((sTok r.1 p - hSiz h k) : Nat) : Int) l_222_97 (by unfold wr; omega) ?_
      refine w_iS p l_222_98 (oModel_s60 hm) rfl (by omega) ?_
      obtain ⟨g1, g2⟩ := nS_tk (v := ((sTok r.1 p - hSiz h k : Nat) : Int)) (p := p) (A := setTok r.1 p (sTok r.1 p - hSiz h k)) hR rfl rfl rfl (fun x hx hxp => by unfold tokI sTok setTok fu; simp only [if_neg hxp]) (fun _ => ⟨by unfold tokI; rw [hpo]; unfold sTok setTok fu; simp only [if_true], by omega⟩)
      rw [show arriveB h l e p k r = arriveC h l e p k (setTok r.1 p (sTok r.1 p - hSiz h k), r.2) by unfold arriveB policeA; rw [hpo]; simp only; rw [if_neg (by omega)]]
      exact lp_222b hm E g1 (show okR h l np u (setTok r.1 p (sTok r.1 p - hSiz h k), r.2) from ⟨hok.1, hok.2.1, hok.2.2⟩) hT hk hp hu (f.t0 g2)
    · skip
      refine w_aln l_222_62 rfl ?_
      refine w_iln l_222_63 rfl ?_
      refine w_ic l_222_64 (by decide) ?_
      refine w_ic l_222_65 (by decide) ?_
      refine w_ic l_222_66 (by decide) ?_
      refine p_iv [vi ((k : Nat) : Int), vi (-1), vi 3, vi (-1)] [] l_222_67 rfl rfl (Nat.le_of_ble_eq_true rfl) (by rw [mx_211]; exact Nat.le_of_ble_eq_true rfl) (by rw [mt_211]; exact oModel_sh hm) (by rw [mt_211]; decide) (by rw [rk_211]; decide) (r_drops0 hm hR (E.fr f.1).ev (E.np hk) hlt) (fun v I1 hv => ?_)
      obtain ⟨rfl, hR1, f1⟩ := hv
      refine w_vr l_222_70 ?_
      rw [show arriveB h l e p k r = refA e k 3 (-1) r by unfold arriveB policeA; rw [hpo]; simp only; rw [if_pos (by omega)]]
      exact ⟨_, _, rfl, rfl, rfl, hR1, f.t0 f1⟩

theorem s_222 (hm : oModel S T s) {e ne np u p k : Nat} {a : Nat → Nat} {cd : Nat → Cd} (E : ME I s e h l a ne np) (Cd : nC I s h l a np cd) (hR : nR I s l r) (hok : okR h l np u r) (hT : okT l r.1) (hk : k < np) (hp : p < lPorts l) (hu : u + 3 ≤ 360) (hz : I (s + 10) (7 * a k + 1) = ((hPort h (a k) : Nat) : Int)) :
    CL xs 222 [vr s, vi ((p : Nat) : Int), vi ((k : Nat) : Int)] (S, I, T, cc, zz) (RP S T cc zz (fun v I' => v = none ∧ nR I' s l (arriveA h l e p k r).1 ∧ mfc I I' s (((arriveA h l e p k r).2 : Nat) : Int) 0)) := by
  have hp4 := E.p4 hp
  have hlt : r.2.1.length < 360 := by have h9 := ok_lt hok hp4; omega
  cases hr : ruleD h l k with
  | none =>
    refine CL_start (r := 6) (ls := [vr s, vi ((p : Nat) : Int), vi ((k : Nat) : Int), vs 2, vs 2, vs 2, vs 2, vs 2, vs 2]) (rk_222 _) rfl ?_
    refine w_aln l_222_0 rfl ?_
    refine w_gr l_222_1 (oModel_sh hm) (oModel_r56 hm) ?_
    refine w_iln l_222_4 rfl ?_
    refine w_ba p (b2i (sUp r.1 p)) l_222_5 (Or.inr (oModel_s56 hm)) rfl (by omega) (hR.1.2.1 p hp4) ?_
    refine w_bne 18 l_222_6 (by decide) (fun h1 => ?_) (fun h1 => ?_)
    · skip
      refine w_aln l_222_18 rfl ?_
      refine w_iln l_222_19 rfl ?_
      refine p_iv [vi ((k : Nat) : Int)] [] l_222_20 rfl rfl (Nat.le_of_ble_eq_true rfl) (by rw [mx_220]; exact Nat.le_of_ble_eq_true rfl) (by rw [mt_220]; exact oModel_sh hm) (by rw [mt_220]; decide) (by rw [rk_220]; decide) ((by have h9 := s_220 (xs := xs) (T := T) (cc := cc) (zz := zz) hm E Cd hk hz; rw [hr] at h9; exact h9)) (fun v I1 hv => ?_)
      obtain ⟨rfl, f1⟩ := hv
      refine w_isn l_222_23 ⟨Nat.le_of_ble_eq_true rfl, rfl⟩ ?_
      refine w_iln l_222_24 rfl ?_
      refine w_ic l_222_25 (by decide) ?_
      refine w_ceq 38 l_222_26 (by decide) (fun _ => ?_) (fun hx => absurd hx (by decide))
      rw [arrive_rN h1 hr]
      exact lp_222a hm E (hR.f37 f1) hok hT hk hp hu (f37 f1)
    · skip
      refine w_aln l_222_9 rfl ?_
      refine w_iln l_222_10 rfl ?_
      refine w_ic l_222_11 (by decide) ?_
      refine w_ic l_222_12 (by decide) ?_
      refine w_ic l_222_13 (by decide) ?_
      refine p_iv [vi ((k : Nat) : Int), vi (-1), vi 1, vi (-1)] [] l_222_14 rfl rfl (Nat.le_of_ble_eq_true rfl) (by rw [mx_211]; exact Nat.le_of_ble_eq_true rfl) (by rw [mt_211]; exact oModel_sh hm) (by rw [mt_211]; decide) (by rw [rk_211]; decide) (r_drops0 hm hR E.ev (E.np hk) hlt) (fun v I1 hv => ?_)
      obtain ⟨rfl, hR1, f1⟩ := hv
      refine w_vr l_222_17 ?_
      rw [arrive_dn h1]
      exact ⟨_, _, rfl, rfl, rfl, hR1, f1⟩
  | some x =>
    refine CL_start (r := 6) (ls := [vr s, vi ((p : Nat) : Int), vi ((k : Nat) : Int), vs 2, vs 2, vs 2, vs 2, vs 2, vs 2]) (rk_222 _) rfl ?_
    refine w_aln l_222_0 rfl ?_
    refine w_gr l_222_1 (oModel_sh hm) (oModel_r56 hm) ?_
    refine w_iln l_222_4 rfl ?_
    refine w_ba p (b2i (sUp r.1 p)) l_222_5 (Or.inr (oModel_s56 hm)) rfl (by omega) (hR.1.2.1 p hp4) ?_
    refine w_bne 18 l_222_6 (by decide) (fun h1 => ?_) (fun h1 => ?_)
    · skip
      refine w_aln l_222_18 rfl ?_
      refine w_iln l_222_19 rfl ?_
      refine p_iv [vi ((k : Nat) : Int)] [] l_222_20 rfl rfl (Nat.le_of_ble_eq_true rfl) (by rw [mx_220]; exact Nat.le_of_ble_eq_true rfl) (by rw [mt_220]; exact oModel_sh hm) (by rw [mt_220]; decide) (by rw [rk_220]; decide) ((by have h9 := s_220 (xs := xs) (T := T) (cc := cc) (zz := zz) hm E Cd hk hz; rw [hr] at h9; exact h9)) (fun v I1 hv => ?_)
      obtain ⟨rfl, f1⟩ := hv
      refine w_isn l_222_23 ⟨Nat.le_of_ble_eq_true rfl, rfl⟩ ?_
      refine w_iln l_222_24 rfl ?_
      refine w_ic l_222_25 (by decide) ?_
      refine w_ceq 38 l_222_26 (by decide) (fun hx => absurd hx (by intro hx; have h9 : ((x : Nat) : Int) = -1 := hx; omega)) (fun _ => ?_)
      refine w_aln l_222_29 rfl ?_
      refine w_iln l_222_30 rfl ?_
      refine w_ic l_222_31 (by decide) ?_
      refine w_ic l_222_32 (by decide) ?_
      refine w_iln l_222_33 rfl ?_
      refine p_iv [vi ((k : Nat) : Int), vi (-1), vi 2, vi ((x : Nat) : Int)] [] l_222_34 rfl rfl (Nat.le_of_ble_eq_true rfl) (by rw [mx_211]; exact Nat.le_of_ble_eq_true rfl) (by rw [mt_211]; exact oModel_sh hm) (by rw [mt_211]; decide) (by rw [rk_211]; decide) (r_drops0 hm (hR.f37 f1) (E.fr (f37 f1).1).ev (E.np hk) hlt) (fun v I2 hv => ?_)
      obtain ⟨rfl, hR2, f2⟩ := hv
      refine w_vr l_222_37 ?_
      rw [arrive_rS h1 hr]
      exact ⟨_, _, rfl, rfl, rfl, hR2, (f37 f1).t0 f2⟩
    · skip
      refine w_aln l_222_9 rfl ?_
      refine w_iln l_222_10 rfl ?_
      refine w_ic l_222_11 (by decide) ?_
      refine w_ic l_222_12 (by decide) ?_
      refine w_ic l_222_13 (by decide) ?_
      refine p_iv [vi ((k : Nat) : Int), vi (-1), vi 1, vi (-1)] [] l_222_14 rfl rfl (Nat.le_of_ble_eq_true rfl) (by rw [mx_211]; exact Nat.le_of_ble_eq_true rfl) (by rw [mt_211]; exact oModel_sh hm) (by rw [mt_211]; decide) (by rw [rk_211]; decide) (r_drops0 hm hR E.ev (E.np hk) hlt) (fun v I1 hv => ?_)
      obtain ⟨rfl, hR1, f1⟩ := hv
      refine w_vr l_222_17 ?_
      rw [arrive_dn h1]
      exact ⟨_, _, rfl, rfl, rfl, hR1, f1⟩

end REL
