/-! the reference: a tick, an event -/
section REN
variable {xs : List Int} {S : List (Nat × Nat)} {T : Nat → Nat → Nat} {cc zz s : Nat} {h : Hi} {l : Li} {r : Ra} {I I' : Ix}

theorem lp_227s {I0 : Ix} {Q : Res → Mem → Prop} (hm : oModel S T s) {e ne np u p : Nat} {a : Nat → Nat} (E : ME I0 s e h l a ne np) (hp : p < lPorts l) (hu : u ≤ 360) {R : Ra} {D : Int} (K : ∀ J n', nR J s l R → mfc I0 J s 0 D → WP xs 227 4 160 [vr s, vi ((p : Nat) : Int), vi n'] [] (S, J, T, cc, zz) Q) : ∀ (rest kept : List Cp) (kk : Nat) (I : Ix) (r : Ra), kept.length = kk → sQ r.1 p = kept ++ rest → nR I s l r → okR h l np u r → mfc I0 I s 0 D → staleB l e p kept rest r = R →
    WP xs 227 4 104 [vr s, vi ((p : Nat) : Int), vi ((kk : Nat) : Int)] [] (S, I, T, cc, zz) Q := by
  intro rest
  induction rest with
  | nil =>
    intro kept kk I r hl2 hq hR hok f hX
    have hp4 := E.p4 hp
    have hlen : (sQ r.1 p).length = kk := by rw [hq, List.append_nil]; exact hl2
    have hll := ok_len hok E.ok p
    have hE : r = staleB l e p kept [] r := by
      unfold staleB
      show r = (setQ r.1 p (kept ++ []), r.2)
      rw [← hq, setQ_id]
    refine w_iln l_227_104 rfl ?_
    refine w_aln l_227_105 rfl ?_
    refine w_gr l_227_106 (oModel_sh hm) (oModel_r59 hm) ?_
    refine w_iln l_227_109 rfl ?_
    refine w_ia p (((sQ r.1 p).length : Nat) : Int) l_227_110 (oModel_s59 hm) rfl (by omega) ((hR.1.2.2.1 p hp4).1) ?_
    refine w_cge 160 l_227_111 (by decide) (fun _ => ?_) (fun hx => absurd hx (by omega))
    exact K I _ (by rw [← hX, ← hE]; exact hR) f
  | cons c rest ih =>
    intro kept kk I r hl2 hq hR hok f hX
    have hp4 := E.p4 hp
    have hlen : (sQ r.1 p).length = kk + (rest.length + 1) := by rw [hq, List.length_append]; show kept.length + (rest.length + 1) = _; omega
    have hll := ok_len hok E.ok p
    have ht := hR.1.1.2
    have hst : isStale l r.1 c = decide (lWait l ≤ sTime r.1 - c.2) := rfl
    have hge : (sQ r.1 p).getD kk (0, 0) = c := by rw [hq, ← hl2, getD_mid]
    have hge2 : ((sQ r.1 p).getD kk (0, 0)).2 = c.2 := by rw [hge]
    have hle := (hok.1 p _ (mem_g (show kk < (sQ r.1 p).length by omega))).2.2
    have h8 : r.2.1.length < 360 := by have h9 := ok_lt hok hp4; omega
    refine w_iln l_227_104 rfl ?_
    refine w_aln l_227_105 rfl ?_
    refine w_gr l_227_106 (oModel_sh hm) (oModel_r59 hm) ?_
    refine w_iln l_227_109 rfl ?_
    refine w_ia p (((sQ r.1 p).length : Nat) : Int) l_227_110 (oModel_s59 hm) rfl (by omega) ((hR.1.2.2.1 p hp4).1) ?_
    refine w_cge 160 l_227_111 (by decide) (fun hx => absurd hx (by omega)) (fun _ => ?_)
    refine w_aln l_227_114 rfl ?_
    refine w_gi (((sTime r.1) : Nat) : Int) l_227_115 (oModel_sh hm) hR.1.1.1 ?_
    refine w_aln l_227_118 rfl ?_
    refine w_gr l_227_119 (oModel_sh hm) (oModel_r58 hm) ?_
    refine w_bp l_227_122 (by decide) ?_
    refine w_iln l_227_124 rfl ?_
    refine w_mul ((100 * p : Nat) : Int) l_227_125 (by unfold wr; omega) ?_
    refine w_iln l_227_126 rfl ?_
    refine w_add ((100 * p + kk : Nat) : Int) l_227_127 (by unfold wr; omega) ?_
    refine w_ia (100 * p + kk) ((((sQ r.1 p).getD kk (0, 0)).2 : Nat) : Int) l_227_128 (oModel_s58 hm) rfl (by omega) (((hR.1.2.2.1 p hp4).2.2 kk (by omega)).2) ?_
    refine w_sub (((sTime r.1 - ((sQ r.1 p).getD kk (0, 0)).2) : Nat) : Int) l_227_129 (by unfold wr; omega) ?_
    refine w_aln l_227_130 rfl ?_
    refine w_gi (((lWait l) : Nat) : Int) l_227_131 (oModel_sh hm) ((E.fr f.1).L.2.2.2.1) ?_
    refine w_clt 154 l_227_134 (by decide) (fun h1 => ?_) (fun h1 => ?_)
    · skip
      refine w_inc ((kk + 1 : Nat) : Int) l_227_154 rfl rfl (by unfold wr; omega) ?_
      refine w_go 104 l_227_157 (by decide) ?_
      refine ih (kept ++ [c]) (kk + 1) I r (by rw [List.length_append]; show kept.length + 1 = _; omega) (by rw [hq, List.append_assoc]; rfl) hR hok f ?_
      rw [staleB_0 ?_]
      · exact hX
      · exact decide_eq_false (by omega)
    · skip
      refine w_aln l_227_137 rfl ?_
      refine w_aln l_227_138 rfl ?_
      refine w_iln l_227_139 rfl ?_
      refine w_iln l_227_140 rfl ?_
      refine p_iv [vi ((p : Nat) : Int), vi ((kk : Nat) : Int)] [vr s] l_227_141 rfl rfl (Nat.le_of_ble_eq_true rfl) (by rw [mx_212]; exact Nat.le_of_ble_eq_true rfl) (by rw [mt_212]; exact oModel_sh hm) (by rw [mt_212]; decide) (by rw [rk_212]; decide) (r_takesOut hm hR hp4 (i := kk) (by omega)) (fun v I1 hv => ?_)
      obtain ⟨rfl, hR1, f1⟩ := hv
      refine w_iln l_227_144 rfl ?_
      refine w_bp l_227_145 (by decide) ?_
      refine w_ic l_227_147 (by decide) ?_
      refine p_iv [vi ((((sQ r.1 p).getD kk (0, 0)).1 : Nat) : Int), vi ((p : Nat) : Int), vi 9, vi (-1)] [] l_227_148 rfl rfl (Nat.le_of_ble_eq_true rfl) (by rw [mx_211]; exact Nat.le_of_ble_eq_true rfl) (by rw [mt_211]; exact oModel_sh hm) (by rw [mt_211]; decide) (by rw [rk_211]; decide) (r_drops1 hm hR1 ((E.fr f.1).fr f1.1).ev (E.np (ok_hq hok kk (by omega))) h8 hp4) (fun v I2 hv => ?_)
      obtain ⟨rfl, hR2, f2⟩ := hv
      refine w_go 104 l_227_151 (by decide) ?_
      refine ih kept kk I2 (outDr e p kk 9 (-1) r) hl2 ?_ hR2 (ok_out hok hp4 (by omega)) ((f.t1 f1).t1 f2) ?_
      · show sQ (setQ r.1 p _) p = _
        rw [sQ_set, if_pos rfl, hq, ← hl2, er_mid]
      · rw [← hl2, staleB_1 hq ?_]
        · exact hX
        · exact decide_eq_true (by omega)
theorem lp_227b {I0 : Ix} (hm : oModel S T s) {e ne np u : Nat} {a : Nat → Nat} (E : ME I0 s e h l a ne np) (hok : okR h l np u r) (hu : u ≤ 360) (ht : sTime r.1 < 120) {D : Int} : ∀ d q I v2, q + d = lPorts l → nR I s l (stalesA l e q r) → mfc I0 I s 0 D → WP xs 227 4 94 [vr s, vi ((q : Nat) : Int), v2] [] (S, I, T, cc, zz) (RP S T cc zz (fun v I' => v = none ∧ nR I' s l ((sTime (stalesA l e (lPorts l) r).1 + 1, (stalesA l e (lPorts l) r).1.2.1, refillA l (stalesA l e (lPorts l) r).1, (stalesA l e (lPorts l) r).1.2.2.2), (stalesA l e (lPorts l) r).2) ∧ mfc I0 I' s 0 D)) := by
  intro d
  have hl4 := E.okl.1
  induction d with
  | zero =>
    intro q I v2 hq hR f
    refine w_iln l_227_94 rfl ?_
    refine w_aln l_227_95 rfl ?_
    refine w_gi (((lPorts l) : Nat) : Int) l_227_96 (oModel_sh hm) ((E.fr f.1).L.1) ?_
    refine w_cge 166 l_227_99 (by decide) (fun _ => ?_) (fun hx => absurd hx (by omega))
    refine w_ic l_227_166 (by decide) ?_
    refine w_isn l_227_167 ⟨Nat.le_of_ble_eq_true rfl, rfl⟩ ?_
    have e9 : q = lPorts l := by omega
    rw [e9] at hR
    exact lp_227c hm E (by rw [(stalesA_ok (e := e) hok (lPorts l) hl4).2]; exact ht) _ 0 I _ (Nat.zero_add _) (by rw [rf3_0]; exact hR) f
  | succ d ih =>
    intro q I v2 hq hR f
    refine w_iln l_227_94 rfl ?_
    refine w_aln l_227_95 rfl ?_
    refine w_gi (((lPorts l) : Nat) : Int) l_227_96 (oModel_sh hm) ((E.fr f.1).L.1) ?_
    refine w_cge 166 l_227_99 (by decide) (fun hx => absurd hx (by omega)) (fun _ => ?_)
    refine w_ic l_227_102 (by decide) ?_
    refine w_isn l_227_103 ⟨Nat.le_of_ble_eq_true rfl, rfl⟩ ?_
    refine lp_227s hm E (by omega) hu (R := stalesA l e (q + 1) r) (D := D) ?_ (sQ (stalesA l e q r).1 q) [] 0 I (stalesA l e q r) rfl rfl hR (stalesA_ok hok q (by omega)).1 f rfl
    intro J n' k1 k2
    refine w_inc ((q + 1 : Nat) : Int) l_227_160 rfl rfl (by unfold wr; omega) ?_
    refine w_go 94 l_227_163 (by decide) ?_
    exact ih (q + 1) J _ (by omega) k1 k2
theorem lp_227a {I0 : Ix} (hm : oModel S T s) {e ne np u : Nat} {a : Nat → Nat} (E : ME I0 s e h l a ne np) (hok : okR h l np u r) (hu : u ≤ 360) (ht : sTime r.1 < 120) : ∀ d q I (v2 : AV), q + d = lPorts l → nR I s l (delsA h l q r).1 → mfc I0 I s 0 (((delsA h l q r).2 : Nat) : Int) → WP xs 227 4 2 [vr s, vi ((q : Nat) : Int), v2] [] (S, I, T, cc, zz) (RP S T cc zz (fun v I' => v = none ∧ nR I' s l (tickA h l e r).1 ∧ mfc I0 I' s 0 (((tickA h l e r).2 : Nat) : Int))) := by
  intro d
  have hl4 := E.okl.1
  induction d with
  | zero =>
    intro q I v2 hq hR f
    refine w_iln l_227_2 rfl ?_
    refine w_aln l_227_3 rfl ?_
    refine w_gi (((lPorts l) : Nat) : Int) l_227_4 (oModel_sh hm) ((E.fr f.1).L.1) ?_
    refine w_cge 92 l_227_7 (by decide) (fun _ => ?_) (fun hx => absurd hx (by omega))
    refine w_ic l_227_92 (by decide) ?_
    refine w_isn l_227_93 ⟨Nat.le_of_ble_eq_true rfl, rfl⟩ ?_
    have e9 : q = lPorts l := by omega
    rw [e9] at hR f
    exact lp_227b hm E (delsA_ok hok E.ok (lPorts l) hl4).1 hu (by rw [(delsA_ok hok E.ok (lPorts l) hl4).2.1]; exact ht) _ 0 I _ (Nat.zero_add _) hR f
  | succ d ih =>
    intro q I v2 hq hR f
    obtain ⟨hokq, _, hdl⟩ := delsA_ok (l := l) hok E.ok q (by omega)
    have hll := ok_len hokq E.ok q
    have hsp9 := (E.okl.2.2.1 q (by omega)).2
    refine w_iln l_227_2 rfl ?_
    refine w_aln l_227_3 rfl ?_
    refine w_gi (((lPorts l) : Nat) : Int) l_227_4 (oModel_sh hm) ((E.fr f.1).L.1) ?_
    refine w_cge 92 l_227_7 (by decide) (fun hx => absurd hx (by omega)) (fun _ => ?_)
    refine w_ic l_227_10 (by decide) ?_
    refine w_isn l_227_11 ⟨Nat.le_of_ble_eq_true rfl, rfl⟩ ?_
    cases hup : sUp (delsA h l q r).1.1 q with
    | true =>
      refine lp_227i hm E (by omega) hu (R := (delsA h l (q + 1) r).1) _ 0 I (delsA h l q r).1 (delsA h l q r).2 rfl hup hR hokq f ?_ (by omega) (by rw [dels_t hup]; rfl)
      intro J n' k1 k2
      rw [Nat.sub_zero] at k2
      rw [dels_t hup] at k1
      refine w_inc ((q + 1 : Nat) : Int) l_227_86 rfl rfl (by unfold wr; omega) ?_
      refine w_go 2 l_227_89 (by decide) ?_
      have e9 := ih (q + 1) J (vi n') (by omega) (by rw [dels_t hup]; exact k1) (by rw [dels_t hup]; exact k2)
      exact e9
    | false =>
      refine w_iln l_227_12 rfl ?_
      refine w_aln l_227_13 rfl ?_
      refine w_gr l_227_14 (oModel_sh hm) (oModel_r4 hm) ?_
      refine w_iln l_227_17 rfl ?_
      refine w_ia q (((lSpeed l q) : Nat) : Int) l_227_18 (oModel_s4 hm) rfl (by omega) (((E.fr f.1).L.2.1 q (by omega)).2.1) ?_
      refine w_cge 86 l_227_19 (by decide) (fun h1 => ?_) (fun h1 => ?_)
      · skip
        refine w_inc ((q + 1 : Nat) : Int) l_227_86 rfl rfl (by unfold wr; omega) ?_
        refine w_go 2 l_227_89 (by decide) ?_
        exact ih (q + 1) I _ (by omega) (by rw [dels_f hup]; exact hR) (by rw [dels_f hup]; exact f)
      · skip
        refine w_aln l_227_22 rfl ?_
        refine w_gr l_227_23 (oModel_sh hm) (oModel_r56 hm) ?_
        refine w_iln l_227_26 rfl ?_
        refine w_ba q (b2i (sUp (delsA h l q r).1.1 q)) l_227_27 (Or.inr (oModel_s56 hm)) rfl (by omega) (hR.1.2.1 q (by omega)) ?_
        refine w_beq 86 l_227_28 (by decide) (fun _ => ?_) (fun hx => absurd hx (by rw [hup]; decide))
        refine w_inc ((q + 1 : Nat) : Int) l_227_86 rfl rfl (by unfold wr; omega) ?_
        refine w_go 2 l_227_89 (by decide) ?_
        exact ih (q + 1) I _ (by omega) (by rw [dels_f hup]; exact hR) (by rw [dels_f hup]; exact f)
end REN
