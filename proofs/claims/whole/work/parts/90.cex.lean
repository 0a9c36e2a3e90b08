/-! the class: explanations -/
theorem any_has {h : Hi} {L : Li} {ne : Nat} (hp : okPk h ne) {d : Dr} (hP : -1 ≤ d.2.2.1) : ∀ n, n ≤ ne → (anyF h L d n = true ↔ has (runA h L noOut n).2.1 d.2.1 d.2.2.1)
  | 0, _ => ⟨fun h0 => (by cases h0), fun ⟨_, h0, _⟩ => (by cases h0)⟩
  | n + 1, hn => by
    have g := any_has (L := L) hp (d := d) hP n (by omega)
    have hf := has_fate (uq_run (l := L) (out := noOut) hp (n + 1) hn) (k := d.2.1) hP
    have h1 : hasF (runA h L noOut (n + 1)).2 d.2.1 d.2.2.1 = true ↔ has (runA h L noOut (n + 1)).2.1 d.2.1 d.2.2.1 := by
      unfold hasF
      rw [decide_eq_true_iff]
      exact hf
    show (anyF h L d n || hasF (runA h L noOut (n + 1)).2 d.2.1 d.2.2.1) = true ↔ _
    rw [Bool.or_eq_true, h1]
    refine ⟨fun hh => hh.elim (fun h2 => ?_) id, Or.inr⟩
    obtain ⟨d', h3, h4⟩ := g.mp h2
    obtain ⟨D, g1, _⟩ := run_pre (h := h) (l := L) (out := noOut) (f := n) 1 (fun x hx => (hp x (by omega)).2)
    exact ⟨d', by rw [g1]; exact List.mem_append.mpr (Or.inl h3), h4⟩
theorem any_still {h : Hi} {L : Li} {ne : Nat} (hp : okPk h ne) {d : Dr} (hP : -1 ≤ d.2.2.1) : anyF h L d ne = still (runA h L noOut ne).2.1 (d.2.1 : Int) d.2.2.1 :=
  Bool.eq_iff_iff.mpr ((any_has hp hP ne (Nat.le_refl ne)).trans still_has.symm)
theorem evF_none {ev : Nat → Bool} {k : Int} : ∀ d e n, (∀ i, i < d → ev (e + i) = false) → evF ev k d e n = if k = -1 then (n : Int) else -1
  | 0, _, _, _ => rfl
  | d + 1, e, n, H => by
    unfold evF
    rw [if_neg (by rw [show ev e = false from H 0 (by omega)]; decide)]
    exact evF_none d (e + 1) n fun i hi => by rw [show e + 1 + i = e + (i + 1) by omega]; exact H (i + 1) (by omega)
def evG (ev : Nat → Bool) (k : Int) : Nat → Nat → Nat → Int
  | 0, _, _ => -1
  | d + 1, e, n => if ev e then (if (n : Int) = k then (e : Int) else evG ev k d (e + 1) (n + 1)) else evG ev k d (e + 1) n
theorem evG_F {ev : Nat → Bool} {k : Int} (hk : k ≠ -1) : ∀ d e n, evG ev k d e n = evF ev k d e n
  | 0, _, _ => (if_neg hk).symm
  | d + 1, e, n => by
    unfold evG evF
    rw [evG_F hk d, evG_F hk d]
theorem evG_neg {ev : Nat → Bool} {k : Int} (hk : k < 0) : ∀ d e n, evG ev k d e n = -1
  | 0, _, _ => rfl
  | d + 1, e, n => by
    unfold evG
    rw [evG_neg hk d, evG_neg hk d, if_neg (show ¬ ((n : Int) = k) by omega)]
    split <;> rfl
theorem evG_none {ev : Nat → Bool} {k : Int} : ∀ d e n, (∀ i, i < d → ev (e + i) = false) → evG ev k d e n = -1
  | 0, _, _, _ => rfl
  | d + 1, e, n, H => by
    unfold evG
    rw [if_neg (by rw [show ev e = false from H 0 (by omega)]; decide)]
    exact evG_none d (e + 1) n fun i hi => by rw [show e + 1 + i = e + (i + 1) by omega]; exact H (i + 1) (by omega)
theorem lcF_none {ok : Nat → Bool} : ∀ d c, (∀ i, i < d → ok (c + i) = false) → lcF ok d c = -1
  | 0, _, _ => rfl
  | d + 1, c, H => by
    unfold lcF
    rw [if_neg (by rw [show ok c = false from H 0 (by omega)]; decide)]
    exact lcF_none d (c + 1) fun i hi => by rw [show c + 1 + i = c + (i + 1) by omega]; exact H (i + 1) (by omega)
theorem cLi_cap {I : Ix} {s : Nat} {l : Li} (H : cLi I s l) {p c : Nat} : cLi (up I (s + 1) p (c : Int)) s (capL l p c) := by
  obtain ⟨h1, h2, h3⟩ := H
  refine ⟨(up_no (by omega)).trans h1, fun q hq => ?_, ?_⟩
  · obtain ⟨a1, a2, a3⟩ := h2 q hq
    refine ⟨?_, ?_, ?_⟩
    · show up I (s + 1) p (c : Int) (s + 1) q = ((lCap (capL l p c) q : Nat) : Int)
      unfold lCap capL
      by_cases e : q = p
      · rw [e, up_eq]
        show _ = (((if p = p then _ else _ : Nat × Nat).1 : Nat) : Int)
        rw [if_pos rfl]
      · rw [up_nj e]
        show _ = (((if q = p then _ else _ : Nat × Nat).1 : Nat) : Int)
        rw [if_neg e]
        exact a1
    · rw [up_no (by omega)]
      show _ = ((lSpeed (capL l p c) q : Nat) : Int)
      unfold lSpeed capL
      by_cases e : q = p
      · show _ = (((if q = p then _ else _ : Nat × Nat).2 : Nat) : Int)
        rw [if_pos e, e]
        rw [e] at a2
        exact a2
      · show _ = (((if q = p then _ else _ : Nat × Nat).2 : Nat) : Int)
        rw [if_neg e]
        exact a2
    · have e3 : up I (s + 1) p (c : Int) (s + 3) q = I (s + 3) q := up_no (by omega)
      have e4 : up I (s + 1) p (c : Int) (s + 4) q = I (s + 4) q := up_no (by omega)
      rw [e3, e4]
      exact a3
  · have e0 : ∀ y, up I (s + 1) p (c : Int) s y = I s y := fun y => up_no (by omega)
    rw [e0, e0, e0, e0, e0]
    exact h3
theorem cLi_rul {I : Ix} {s : Nat} {l : Li} (H : cLi I s l) {q : Nat} (hq : q < 8) : cLi (up I s 9 ((2 ^ q : Nat) : Int)) s (rulL l q) := by
  obtain ⟨h1, h2, h3, h4, h5, h6, h7⟩ := H
  have e : ∀ j, 0 < j → ∀ z, up I s 9 ((2 ^ q : Nat) : Int) (s + j) z = I (s + j) z := fun j hj z => up_no (by omega)
  refine ⟨(up_nj (by decide)).trans h1, fun p hp => ?_, (up_nj (by decide)).trans h3, (up_nj (by decide)).trans h4, (up_nj (by decide)).trans h5, ?_, ⟨2 ^ q, up_eq, ?_, bt_p8 q hq⟩⟩
  · rw [e 1 (by decide), e 2 (by decide), e 3 (by decide), e 4 (by decide)]
    exact h2 p hp
  · obtain ⟨d, g1, g2⟩ := h6
    exact ⟨d, (up_nj (by decide)).trans g1, g2⟩
  · rcases (show q = 0 ∨ q = 1 ∨ q = 2 ∨ q = 3 ∨ q = 4 ∨ q = 5 ∨ q = 6 ∨ q = 7 by omega) with e | e | e | e | e | e | e | e <;> subst e <;> decide
section CEX
variable {xs : List Int} {S : List (Nat × Nat)} {T : Nat → Nat → Nat} {cc zz s q y : Nat} {h : Hi} {l : Li} {I I' : Ix}

theorem mx_140 : mxl 140 = 5 := by decide +kernel
theorem mt_140 : mtc 140 = 9 := by decide +kernel
theorem rk_140 (as : List AV) : rkA 140 as = 6 := rfl
theorem l_140_0 : look 140 0 = some (.aload_n 0, 1, 0, 0, 0, 0) := by decide +kernel
theorem l_140_1 : look 140 1 = some (.iload_n 1, 1, 0, 0, 0, 0) := by decide +kernel
theorem l_140_2 : look 140 2 = some (.invokevirtual 237, 3, 152, 2, 0, 1262) := by decide +kernel
theorem l_140_5 : look 140 5 = some (.aload_n 0, 1, 0, 0, 0, 0) := by decide +kernel
theorem l_140_6 : look 140 6 = some (.getfield 57, 3, 9, 8, 2, 546) := by decide +kernel
theorem l_140_9 : look 140 9 = some (.getfield 131, 3, 5, 2, 2, 451) := by decide +kernel
theorem l_140_12 : look 140 12 = some (.iload_n 1, 1, 0, 0, 0, 0) := by decide +kernel
theorem l_140_13 : look 140 13 = some (.iconst 0, 1, 0, 0, 0, 0) := by decide +kernel
theorem l_140_14 : look 140 14 = some (.invokevirtual 240, 3, 24, 3, 0, 1266) := by decide +kernel
theorem l_140_17 : look 140 17 = some (.istore_n 2, 1, 0, 0, 0, 0) := by decide +kernel
theorem l_140_18 : look 140 18 = some (.iconst 0, 1, 0, 0, 0, 0) := by decide +kernel
theorem l_140_19 : look 140 19 = some (.istore_n 3, 1, 0, 0, 0, 0) := by decide +kernel
theorem l_140_20 : look 140 20 = some (.iconst 0, 1, 0, 0, 0, 0) := by decide +kernel
theorem l_140_21 : look 140 21 = some (.istore 4, 2, 0, 0, 0, 0) := by decide +kernel
theorem l_140_23 : look 140 23 = some (.iload 4, 2, 0, 0, 0, 0) := by decide +kernel
theorem l_140_25 : look 140 25 = some (.iload_n 2, 1, 0, 0, 0, 0) := by decide +kernel
theorem l_140_26 : look 140 26 = some (.if_icmp .gt 28, 3, 0, 0, 0, 0) := by decide +kernel
theorem l_140_29 : look 140 29 = some (.aload_n 0, 1, 0, 0, 0, 0) := by decide +kernel
theorem l_140_30 : look 140 30 = some (.iload 4, 2, 0, 0, 0, 0) := by decide +kernel
theorem l_140_32 : look 140 32 = some (.invokevirtual 291, 3, 163, 2, 0, 1406) := by decide +kernel
theorem l_140_35 : look 140 35 = some (.aload_n 0, 1, 0, 0, 0, 0) := by decide +kernel
theorem l_140_36 : look 140 36 = some (.iload 4, 2, 0, 0, 0, 0) := by decide +kernel
theorem l_140_38 : look 140 38 = some (.iload_n 1, 1, 0, 0, 0, 0) := by decide +kernel
theorem l_140_39 : look 140 39 = some (.invokevirtual 294, 3, 164, 3, 0, 1411) := by decide +kernel
theorem l_140_42 : look 140 42 = some (.ifCond .eq 6, 3, 0, 0, 0, 0) := by decide +kernel
theorem l_140_45 : look 140 45 = some (.iinc 3 1, 3, 0, 0, 0, 0) := by decide +kernel
theorem l_140_48 : look 140 48 = some (.iinc 4 1, 3, 0, 0, 0, 0) := by decide +kernel
theorem l_140_51 : look 140 51 = some (.goto (-28), 3, 0, 0, 0, 0) := by decide +kernel
theorem l_140_54 : look 140 54 = some (.iload_n 3, 1, 0, 0, 0, 0) := by decide +kernel
theorem l_140_55 : look 140 55 = some (.ireturn, 1, 0, 0, 0, 0) := by decide +kernel

theorem lp_140 {I0 : Ix} (hq : s < q ∧ q + 8 < s + 21) (ck : oCk S T s) (o : oDropSwitch S T s q y) {ne np : Nat} {a : Nat → Nat} (K0 : KQ I0 s q h l a ne np) (B0 : KB I0 s h l a ne np) (C0 : cCk I0 s h l ne) {k : Nat} (hk : k < (runA h l noOut ne).2.1.length) {R : Int} : ∀ d e m I, e + d = ((runA h l noOut ne).2.1.getD k dr0).1 + 1 → m ≤ e → evF (evB h l ne ((runA h l noOut ne).2.1.getD k dr0)) (-1) (ne - e) e m = R → KE I s h l ne → mfv I0 I s → WP xs 140 6 23 [vr s, vi ((k : Nat) : Int), vi ((((runA h l noOut ne).2.1.getD k dr0).1 : Nat) : Int), vi ((m : Nat) : Int), vi ((e : Nat) : Int)] [] (S, I, T, cc, zz) (RP S T cc zz (fun v I' => v = some (vi R) ∧ KE I' s h l ne ∧ mfv I0 I' s)) := by
  intro d
  have hne := K0.2.2.1.2.2.1
  have hln := K0.2.2.2.1.2.1.2
  have hpk := K0.2.2.2.2.2.2.2.2.2
  have hdm := mem_gd hk
  have hev9 : ((runA h l noOut ne).2.1.getD k dr0).1 < ne := run_ev (fun x hx => (hpk x hx).2) _ hdm
  induction d with
  | zero =>
    intro e m I he hm hR E fi
    have hd2 : ∃ d2, ne - (((runA h l noOut ne).2.1.getD k dr0).1 + 1) = d2 := ⟨_, rfl⟩
    obtain ⟨d2, hd2⟩ := hd2
    rw [show ne - e = d2 by omega] at hR
    refine w_il l_140_23 rfl ?_
    refine w_iln l_140_25 rfl ?_
    refine w_cgt 54 l_140_26 (by decide) (fun _ => ?_) (fun hx => absurd hx (by omega))
    refine w_iln l_140_54 rfl ?_
    refine w_ir l_140_55 (Or.inl rfl) ?_
    have e9 := evF_none (ev := (evB h l ne ((runA h l noOut ne).2.1.getD k dr0))) (k := -1) (ne - (((runA h l noOut ne).2.1.getD k dr0).1 + 1)) e m (fun i hi => ev_late hpk (by omega) hdm (by omega))
    rw [show ne - (((runA h l noOut ne).2.1.getD k dr0).1 + 1) = d2 by omega, hR, if_pos rfl] at e9
    exact ⟨_, _, rfl, rfl, by rw [e9], E, fi⟩
  | succ d ih =>
    intro e m I he hm hR E fi
    have K := KQ.fr hq K0 fi.frm (by omega)
    have B := B0.fr fi.frm (by omega)
    have C : cCk I s h l ne := C0.fr (fi.frm) (Or.inl (by omega))
    rw [show ne - e = ne - (e + 1) + 1 by omega] at hR
    refine w_il l_140_23 rfl ?_
    refine w_iln l_140_25 rfl ?_
    refine w_cgt 54 l_140_26 (by decide) (fun hx => absurd hx (by omega)) (fun _ => ?_)
    refine w_aln l_140_29 rfl ?_
    refine w_il l_140_30 rfl ?_
    refine p_iv [vi ((e : Nat) : Int)] [] l_140_32 rfl rfl (Nat.le_of_ble_eq_true rfl) (by rw [mx_163]; exact Nat.le_of_ble_eq_true rfl) (by rw [mt_163]; exact oDropSwitch_sh o) (by rw [mt_163]; decide) (by rw [rk_163]; decide) (s_163 hq ck o K B C E (e := e) (by omega)) (fun v I1 hv => ?_)
    obtain ⟨rfl, E1, hv1, f1⟩ := hv
    refine w_aln l_140_35 rfl ?_
    refine w_il l_140_36 rfl ?_
    refine w_iln l_140_38 rfl ?_
    refine q_iv [vi ((e : Nat) : Int), vi ((k : Nat) : Int)] [] l_140_39 rfl rfl (Nat.le_of_ble_eq_true rfl) (by rw [mx_164]; exact Nat.le_of_ble_eq_true rfl) (by rw [mt_164]; exact oDropSwitch_sh o) (by rw [mt_164]; decide) (by rw [rk_164]; decide) (s_164 o (e := e) (k := k) (by omega) (by omega)) ?_
    refine w_beq 48 l_140_42 (by decide) (fun h1 => ?_) (fun h1 => ?_)
    · skip
      refine w_inc ((e + 1 : Nat) : Int) l_140_48 rfl rfl (by unfold wr; omega) ?_
      refine w_go 23 l_140_51 (by decide) ?_
      have e8 : lb (I1 (s + 96) (e * 6 + k / 64)) (k % 64) = (evB h l ne ((runA h l noOut ne).2.1.getD k dr0)) e := E1.2.2 e (by omega) (hv1.trans (f1 s 12 (Or.inl (by omega)) (by omega) (by omega)).symm) k hk
      rw [e8] at h1
      exact ih (e + 1) m I1 (by omega) (by omega) (by rw [← hR, evF, if_neg (by rw [h1]; decide)]) E1 (fi.tr f1)
    · skip
      refine w_inc ((m + 1 : Nat) : Int) l_140_45 rfl rfl (by unfold wr; omega) ?_
      refine w_inc ((e + 1 : Nat) : Int) l_140_48 rfl rfl (by unfold wr; omega) ?_
      refine w_go 23 l_140_51 (by decide) ?_
      have e8 : lb (I1 (s + 96) (e * 6 + k / 64)) (k % 64) = (evB h l ne ((runA h l noOut ne).2.1.getD k dr0)) e := E1.2.2 e (by omega) (hv1.trans (f1 s 12 (Or.inl (by omega)) (by omega) (by omega)).symm) k hk
      rw [e8] at h1
      exact ih (e + 1) (m + 1) I1 (by omega) (by omega) (by rw [← hR, evF, if_pos h1, if_neg (by omega)]) E1 (fi.tr f1)
theorem s_140 (hq : s < q ∧ q + 8 < s + 21) (ck : oCk S T s) (o : oDropSwitch S T s q y) {ne np : Nat} {a : Nat → Nat} (K : KQ I s q h l a ne np) (B : KB I s h l a ne np) (C : cCk I s h l ne) (E : KE I s h l ne) {k : Nat} (hk : k < (runA h l noOut ne).2.1.length) : CL xs 140 [vr s, vi ((k : Nat) : Int)] (S, I, T, cc, zz) (RP S T cc zz (fun v I' => v = some (vi (evF (evB h l ne ((runA h l noOut ne).2.1.getD k dr0)) (-1) ne 0 0)) ∧ KE I' s h l ne ∧ mfv I I' s)) := by
  refine CL_start (r := 6) (ls := [vr s, vi ((k : Nat) : Int), vs 2, vs 2, vs 2]) (rk_140 _) rfl ?_
  have hne := K.2.2.1.2.2.1
  have hln := K.2.2.2.1.2.1.2
  have hpk := K.2.2.2.2.2.2.2.2.2
  have hdm := mem_gd hk
  have hev9 : ((runA h l noOut ne).2.1.getD k dr0).1 < ne := run_ev (fun x hx => (hpk x hx).2) _ hdm
  refine w_aln l_140_0 rfl ?_
  refine w_iln l_140_1 rfl ?_
  refine q_iv [vi ((k : Nat) : Int)] [] l_140_2 rfl rfl (Nat.le_of_ble_eq_true rfl) (by rw [mx_152]; exact Nat.le_of_ble_eq_true rfl) (by rw [mt_152]; exact oDropSwitch_sh o) (by rw [mt_152]; decide) (by rw [rk_152]; decide) (s_152 o K hk) ?_
  refine w_aln l_140_5 rfl ?_
  refine w_gr l_140_6 (oDropSwitch_sh o) (oDropSwitch_r8 o) ?_
  refine w_gr l_140_9 (oRun_sh (oDropSwitch_o8 o)) (oRun_r2 (oDropSwitch_o8 o)) ?_
  refine w_iln l_140_12 rfl ?_
  refine w_ic l_140_13 (by decide) ?_
  refine q_iv [vi ((k : Nat) : Int), vi 0] [] l_140_14 rfl rfl (Nat.le_of_ble_eq_true rfl) (by rw [mx_24]; exact Nat.le_of_ble_eq_true rfl) (by rw [mt_24]; exact oLog_sh (oRun_o2 (oDropSwitch_o8 o))) (by rw [mt_24]; decide) (by rw [rk_24]; decide) (t_part0 (oRun_o2 (oDropSwitch_o8 o)) K.2.2.2.1.2 hk) ?_
  refine w_isn l_140_17 ⟨Nat.le_of_ble_eq_true rfl, rfl⟩ ?_
  refine w_ic l_140_18 (by decide) ?_
  refine w_isn l_140_19 ⟨Nat.le_of_ble_eq_true rfl, rfl⟩ ?_
  refine w_ic l_140_20 (by decide) ?_
  refine w_is l_140_21 ⟨Nat.le_of_ble_eq_true rfl, rfl⟩ ?_
  exact lp_140 (I0 := I) hq ck o K B C hk (((runA h l noOut ne).2.1.getD k dr0).1 + 1) 0 0 I (Nat.zero_add _) (Nat.le_refl _) rfl E (mfv.rf I s)

theorem s_140n (o : oDropSwitch S T s q y) {ne np : Nat} {a : Nat → Nat} (K : KQ I s q h l a ne np) {k : Int} (hk : ¬ (0 ≤ k ∧ k < (((runA h l noOut ne).2.1.length : Nat) : Int))) (hc : 1 ≤ cc ∧ 6 ≤ zz) : CL xs 140 [vr s, vi k] (S, I, T, cc, zz) (TH 0 (S, I, T, cc - 1, zz - 6)) := by
  refine CL_start (r := 6) (ls := [vr s, vi k, vs 2, vs 2, vs 2]) (rk_140 _) rfl ?_
  refine w_aln l_140_0 rfl ?_
  refine w_iln l_140_1 rfl ?_
  refine t_iv [vi k] [] l_140_2 rfl rfl (Nat.le_of_ble_eq_true rfl) (by rw [mx_152]; exact Nat.le_of_ble_eq_true rfl) (by rw [mt_152]; exact oDropSwitch_sh o) (by rw [mt_152]; decide) (by rw [rk_152]; decide) (s_152n o K hk hc) (by decide +kernel) ?_
  exact ⟨rfl, rfl⟩

theorem mx_141 : mxl 141 = 6 := by decide +kernel
theorem mt_141 : mtc 141 = 9 := by decide +kernel
theorem rk_141 (as : List AV) : rkA 141 as = 6 := rfl
theorem l_141_0 : look 141 0 = some (.aload_n 0, 1, 0, 0, 0, 0) := by decide +kernel
theorem l_141_1 : look 141 1 = some (.iload_n 1, 1, 0, 0, 0, 0) := by decide +kernel
theorem l_141_2 : look 141 2 = some (.invokevirtual 237, 3, 152, 2, 0, 1262) := by decide +kernel
theorem l_141_5 : look 141 5 = some (.aload_n 0, 1, 0, 0, 0, 0) := by decide +kernel
theorem l_141_6 : look 141 6 = some (.getfield 57, 3, 9, 8, 2, 546) := by decide +kernel
theorem l_141_9 : look 141 9 = some (.getfield 131, 3, 5, 2, 2, 451) := by decide +kernel
theorem l_141_12 : look 141 12 = some (.iload_n 1, 1, 0, 0, 0, 0) := by decide +kernel
theorem l_141_13 : look 141 13 = some (.iconst 0, 1, 0, 0, 0, 0) := by decide +kernel
theorem l_141_14 : look 141 14 = some (.invokevirtual 240, 3, 24, 3, 0, 1266) := by decide +kernel
theorem l_141_17 : look 141 17 = some (.istore_n 3, 1, 0, 0, 0, 0) := by decide +kernel
theorem l_141_18 : look 141 18 = some (.iconst 0, 1, 0, 0, 0, 0) := by decide +kernel
theorem l_141_19 : look 141 19 = some (.istore 4, 2, 0, 0, 0, 0) := by decide +kernel
theorem l_141_21 : look 141 21 = some (.iconst 0, 1, 0, 0, 0, 0) := by decide +kernel
theorem l_141_22 : look 141 22 = some (.istore 5, 2, 0, 0, 0, 0) := by decide +kernel
theorem l_141_24 : look 141 24 = some (.iload 5, 2, 0, 0, 0, 0) := by decide +kernel
theorem l_141_26 : look 141 26 = some (.iload_n 3, 1, 0, 0, 0, 0) := by decide +kernel
theorem l_141_27 : look 141 27 = some (.if_icmp .gt 37, 3, 0, 0, 0, 0) := by decide +kernel
theorem l_141_30 : look 141 30 = some (.aload_n 0, 1, 0, 0, 0, 0) := by decide +kernel
theorem l_141_31 : look 141 31 = some (.iload 5, 2, 0, 0, 0, 0) := by decide +kernel
theorem l_141_33 : look 141 33 = some (.invokevirtual 291, 3, 163, 2, 0, 1406) := by decide +kernel
theorem l_141_36 : look 141 36 = some (.aload_n 0, 1, 0, 0, 0, 0) := by decide +kernel
theorem l_141_37 : look 141 37 = some (.iload 5, 2, 0, 0, 0, 0) := by decide +kernel
theorem l_141_39 : look 141 39 = some (.iload_n 1, 1, 0, 0, 0, 0) := by decide +kernel
theorem l_141_40 : look 141 40 = some (.invokevirtual 294, 3, 164, 3, 0, 1411) := by decide +kernel
theorem l_141_43 : look 141 43 = some (.ifCond .eq 15, 3, 0, 0, 0, 0) := by decide +kernel
theorem l_141_46 : look 141 46 = some (.iload 4, 2, 0, 0, 0, 0) := by decide +kernel
theorem l_141_48 : look 141 48 = some (.iload_n 2, 1, 0, 0, 0, 0) := by decide +kernel
theorem l_141_49 : look 141 49 = some (.if_icmp .ne 6, 3, 0, 0, 0, 0) := by decide +kernel
theorem l_141_52 : look 141 52 = some (.iload 5, 2, 0, 0, 0, 0) := by decide +kernel
theorem l_141_54 : look 141 54 = some (.ireturn, 1, 0, 0, 0, 0) := by decide +kernel
theorem l_141_55 : look 141 55 = some (.iinc 4 1, 3, 0, 0, 0, 0) := by decide +kernel
theorem l_141_58 : look 141 58 = some (.iinc 5 1, 3, 0, 0, 0, 0) := by decide +kernel
theorem l_141_61 : look 141 61 = some (.goto (-37), 3, 0, 0, 0, 0) := by decide +kernel
theorem l_141_64 : look 141 64 = some (.iconst (-1), 1, 0, 0, 0, 0) := by decide +kernel
theorem l_141_65 : look 141 65 = some (.ireturn, 1, 0, 0, 0, 0) := by decide +kernel

theorem lp_141 {I0 : Ix} (hq : s < q ∧ q + 8 < s + 21) (ck : oCk S T s) (o : oDropSwitch S T s q y) {ne np : Nat} {a : Nat → Nat} (K0 : KQ I0 s q h l a ne np) (B0 : KB I0 s h l a ne np) (C0 : cCk I0 s h l ne) {k : Nat} (hk : k < (runA h l noOut ne).2.1.length) {j : Int} {R : Int} : ∀ d e m I, e + d = ((runA h l noOut ne).2.1.getD k dr0).1 + 1 → m ≤ e → evG (evB h l ne ((runA h l noOut ne).2.1.getD k dr0)) j (ne - e) e m = R → KE I s h l ne → mfv I0 I s → WP xs 141 6 24 [vr s, vi ((k : Nat) : Int), vi j, vi ((((runA h l noOut ne).2.1.getD k dr0).1 : Nat) : Int), vi ((m : Nat) : Int), vi ((e : Nat) : Int)] [] (S, I, T, cc, zz) (RP S T cc zz (fun v I' => v = some (vi R) ∧ KE I' s h l ne ∧ mfv I0 I' s)) := by
  intro d
  have hne := K0.2.2.1.2.2.1
  have hln := K0.2.2.2.1.2.1.2
  have hpk := K0.2.2.2.2.2.2.2.2.2
  have hdm := mem_gd hk
  have hev9 : ((runA h l noOut ne).2.1.getD k dr0).1 < ne := run_ev (fun x hx => (hpk x hx).2) _ hdm
  induction d with
  | zero =>
    intro e m I he hm hR E fi
    have hd2 : ∃ d2, ne - (((runA h l noOut ne).2.1.getD k dr0).1 + 1) = d2 := ⟨_, rfl⟩
    obtain ⟨d2, hd2⟩ := hd2
    rw [show ne - e = d2 by omega] at hR
    refine w_il l_141_24 rfl ?_
    refine w_iln l_141_26 rfl ?_
    refine w_cgt 64 l_141_27 (by decide) (fun _ => ?_) (fun hx => absurd hx (by omega))
    refine w_ic l_141_64 (by decide) ?_
    refine w_ir l_141_65 (Or.inl rfl) ?_
    have e9 := evG_none (ev := (evB h l ne ((runA h l noOut ne).2.1.getD k dr0))) (k := j) (ne - (((runA h l noOut ne).2.1.getD k dr0).1 + 1)) e m (fun i hi => ev_late hpk (by omega) hdm (by omega))
    rw [show ne - (((runA h l noOut ne).2.1.getD k dr0).1 + 1) = d2 by omega, hR] at e9
    exact ⟨_, _, rfl, rfl, by rw [e9], E, fi⟩
  | succ d ih =>
    intro e m I he hm hR E fi
    have K := KQ.fr hq K0 fi.frm (by omega)
    have B := B0.fr fi.frm (by omega)
    have C : cCk I s h l ne := C0.fr (fi.frm) (Or.inl (by omega))
    rw [show ne - e = ne - (e + 1) + 1 by omega] at hR
    refine w_il l_141_24 rfl ?_
    refine w_iln l_141_26 rfl ?_
    refine w_cgt 64 l_141_27 (by decide) (fun hx => absurd hx (by omega)) (fun _ => ?_)
    refine w_aln l_141_30 rfl ?_
    refine w_il l_141_31 rfl ?_
    refine p_iv [vi ((e : Nat) : Int)] [] l_141_33 rfl rfl (Nat.le_of_ble_eq_true rfl) (by rw [mx_163]; exact Nat.le_of_ble_eq_true rfl) (by rw [mt_163]; exact oDropSwitch_sh o) (by rw [mt_163]; decide) (by rw [rk_163]; decide) (s_163 hq ck o K B C E (e := e) (by omega)) (fun v I1 hv => ?_)
    obtain ⟨rfl, E1, hv1, f1⟩ := hv
    refine w_aln l_141_36 rfl ?_
    refine w_il l_141_37 rfl ?_
    refine w_iln l_141_39 rfl ?_
    refine q_iv [vi ((e : Nat) : Int), vi ((k : Nat) : Int)] [] l_141_40 rfl rfl (Nat.le_of_ble_eq_true rfl) (by rw [mx_164]; exact Nat.le_of_ble_eq_true rfl) (by rw [mt_164]; exact oDropSwitch_sh o) (by rw [mt_164]; decide) (by rw [rk_164]; decide) (s_164 o (e := e) (k := k) (by omega) (by omega)) ?_
    refine w_beq 58 l_141_43 (by decide) (fun h1 => ?_) (fun h1 => ?_)
    · skip
      refine w_inc ((e + 1 : Nat) : Int) l_141_58 rfl rfl (by unfold wr; omega) ?_
      refine w_go 24 l_141_61 (by decide) ?_
      have e8 : lb (I1 (s + 96) (e * 6 + k / 64)) (k % 64) = (evB h l ne ((runA h l noOut ne).2.1.getD k dr0)) e := E1.2.2 e (by omega) (hv1.trans (f1 s 12 (Or.inl (by omega)) (by omega) (by omega)).symm) k hk
      rw [e8] at h1
      exact ih (e + 1) m I1 (by omega) (by omega) (by rw [← hR, evG, if_neg (by rw [h1]; decide)]) E1 (fi.tr f1)
    · skip
      refine w_il l_141_46 rfl ?_
      refine w_iln l_141_48 rfl ?_
      refine w_cne 55 l_141_49 (by decide) (fun h2 => ?_) (fun h2 => ?_)
      · skip
        refine w_inc ((m + 1 : Nat) : Int) l_141_55 rfl rfl (by unfold wr; omega) ?_
        refine w_inc ((e + 1 : Nat) : Int) l_141_58 rfl rfl (by unfold wr; omega) ?_
        refine w_go 24 l_141_61 (by decide) ?_
        have e8 : lb (I1 (s + 96) (e * 6 + k / 64)) (k % 64) = (evB h l ne ((runA h l noOut ne).2.1.getD k dr0)) e := E1.2.2 e (by omega) (hv1.trans (f1 s 12 (Or.inl (by omega)) (by omega) (by omega)).symm) k hk
        rw [e8] at h1
        exact ih (e + 1) (m + 1) I1 (by omega) (by omega) (by rw [← hR, evG, if_pos h1, if_neg h2]) E1 (fi.tr f1)
      · skip
        refine w_il l_141_52 rfl ?_
        refine w_ir l_141_54 (Or.inl rfl) ?_
        have e8 : lb (I1 (s + 96) (e * 6 + k / 64)) (k % 64) = (evB h l ne ((runA h l noOut ne).2.1.getD k dr0)) e := E1.2.2 e (by omega) (hv1.trans (f1 s 12 (Or.inl (by omega)) (by omega) (by omega)).symm) k hk
        rw [e8] at h1
        exact ⟨_, _, rfl, rfl, by rw [← hR, evG, if_pos h1, if_pos h2], E1, fi.tr f1⟩
theorem s_141 (hq : s < q ∧ q + 8 < s + 21) (ck : oCk S T s) (o : oDropSwitch S T s q y) {ne np : Nat} {a : Nat → Nat} (K : KQ I s q h l a ne np) (B : KB I s h l a ne np) (C : cCk I s h l ne) (E : KE I s h l ne) {k : Nat} (hk : k < (runA h l noOut ne).2.1.length) {j : Int} : CL xs 141 [vr s, vi ((k : Nat) : Int), vi j] (S, I, T, cc, zz) (RP S T cc zz (fun v I' => v = some (vi (evG (evB h l ne ((runA h l noOut ne).2.1.getD k dr0)) j ne 0 0)) ∧ KE I' s h l ne ∧ mfv I I' s)) := by
  refine CL_start (r := 6) (ls := [vr s, vi ((k : Nat) : Int), vi j, vs 2, vs 2, vs 2]) (rk_141 _) rfl ?_
  have hne := K.2.2.1.2.2.1
  have hln := K.2.2.2.1.2.1.2
  have hpk := K.2.2.2.2.2.2.2.2.2
  have hdm := mem_gd hk
  have hev9 : ((runA h l noOut ne).2.1.getD k dr0).1 < ne := run_ev (fun x hx => (hpk x hx).2) _ hdm
  refine w_aln l_141_0 rfl ?_
  refine w_iln l_141_1 rfl ?_
  refine q_iv [vi ((k : Nat) : Int)] [] l_141_2 rfl rfl (Nat.le_of_ble_eq_true rfl) (by rw [mx_152]; exact Nat.le_of_ble_eq_true rfl) (by rw [mt_152]; exact oDropSwitch_sh o) (by rw [mt_152]; decide) (by rw [rk_152]; decide) (s_152 o K hk) ?_
  refine w_aln l_141_5 rfl ?_
  refine w_gr l_141_6 (oDropSwitch_sh o) (oDropSwitch_r8 o) ?_
  refine w_gr l_141_9 (oRun_sh (oDropSwitch_o8 o)) (oRun_r2 (oDropSwitch_o8 o)) ?_
  refine w_iln l_141_12 rfl ?_
  refine w_ic l_141_13 (by decide) ?_
  refine q_iv [vi ((k : Nat) : Int), vi 0] [] l_141_14 rfl rfl (Nat.le_of_ble_eq_true rfl) (by rw [mx_24]; exact Nat.le_of_ble_eq_true rfl) (by rw [mt_24]; exact oLog_sh (oRun_o2 (oDropSwitch_o8 o))) (by rw [mt_24]; decide) (by rw [rk_24]; decide) (t_part0 (oRun_o2 (oDropSwitch_o8 o)) K.2.2.2.1.2 hk) ?_
  refine w_isn l_141_17 ⟨Nat.le_of_ble_eq_true rfl, rfl⟩ ?_
  refine w_ic l_141_18 (by decide) ?_
  refine w_is l_141_19 ⟨Nat.le_of_ble_eq_true rfl, rfl⟩ ?_
  refine w_ic l_141_21 (by decide) ?_
  refine w_is l_141_22 ⟨Nat.le_of_ble_eq_true rfl, rfl⟩ ?_
  exact lp_141 (I0 := I) hq ck o K B C hk (((runA h l noOut ne).2.1.getD k dr0).1 + 1) 0 0 I (Nat.zero_add _) (Nat.le_refl _) rfl E (mfv.rf I s)

theorem s_141n (o : oDropSwitch S T s q y) {ne np : Nat} {a : Nat → Nat} (K : KQ I s q h l a ne np) {k j : Int} (hk : ¬ (0 ≤ k ∧ k < (((runA h l noOut ne).2.1.length : Nat) : Int))) (hc : 1 ≤ cc ∧ 6 ≤ zz) : CL xs 141 [vr s, vi k, vi j] (S, I, T, cc, zz) (TH 0 (S, I, T, cc - 1, zz - 6)) := by
  refine CL_start (r := 6) (ls := [vr s, vi k, vi j, vs 2, vs 2, vs 2]) (rk_141 _) rfl ?_
  refine w_aln l_141_0 rfl ?_
  refine w_iln l_141_1 rfl ?_
  refine t_iv [vi k] [] l_141_2 rfl rfl (Nat.le_of_ble_eq_true rfl) (by rw [mx_152]; exact Nat.le_of_ble_eq_true rfl) (by rw [mt_152]; exact oDropSwitch_sh o) (by rw [mt_152]; decide) (by rw [rk_152]; decide) (s_152n o K hk hc) (by decide +kernel) ?_
  exact ⟨rfl, rfl⟩

end CEX
