/-! the class: explanations, 2 -/
theorem cap_none {h : Hi} {l : Li} {ne p c c' m : Nat} {d : Dr} (hp : okPk h ne) (hc : c ≤ c') (hm : m ≤ ne) (hP : -1 ≤ d.2.2.1) (hn : cntK (isCr (p : Int)) (runA h (capL l p c) noOut m).2.1 (runA h (capL l p c) noOut m).2.1.length = 0) (hh : hasF (runA h (capL l p c) noOut m).2 d.2.1 d.2.2.1 = true) : still (runA h (capL l p c') noOut ne).2.1 (d.2.1 : Int) d.2.2.1 = true := by
  rw [still_has]
  have hk : ∀ e, e < m → hKind h e ≤ 3 := fun e he => (hp e (by omega)).2
  have hno : nocr p (runA h (capL l p c) noOut m).2.1 := by
    intro d' hd' hq
    have h1 := cntK_0.mp hn d' hd'
    unfold isCr at h1
    rw [decide_eq_true hq, Bool.true_and, Bool.or_eq_false_iff, decide_eq_false_iff_not, decide_eq_false_iff_not] at h1
    exact h1
  have hC : capUp p (capL l p c) (capL l p c') := by
    refine ⟨rfl, fun x => ?_, fun x hx => ?_, ?_, rfl⟩
    · unfold lSpeed capL
      by_cases e : x = p
      · show (if x = p then _ else _ : Nat × Nat).2 = (if x = p then _ else _ : Nat × Nat).2
        rw [if_pos e, if_pos e]
      · show (if x = p then _ else _ : Nat × Nat).2 = (if x = p then _ else _ : Nat × Nat).2
        rw [if_neg e, if_neg e]
    · unfold lCap capL
      show (if x = p then _ else _ : Nat × Nat).1 = (if x = p then _ else _ : Nat × Nat).1
      rw [if_neg hx, if_neg hx]
    · unfold lCap capL
      show (if p = p then _ else _ : Nat × Nat).1 ≤ (if p = p then _ else _ : Nat × Nat).1
      rw [if_pos rfl, if_pos rfl]
      exact hc
  have e1 := run_cu hC (out := noOut) m hk hno
  have hf := has_fate (uq_run (l := capL l p c) (out := noOut) hp m hm) (k := d.2.1) hP
  unfold hasF at hh
  rw [decide_eq_true_iff] at hh
  obtain ⟨d', h3, h4⟩ := hf.mp hh
  obtain ⟨D, g1, _⟩ := run_pre (h := h) (l := capL l p c') (out := noOut) (f := m) (ne - m) (fun x hx => (hp x (by omega)).2)
  rw [show m + (ne - m) = ne by omega, e1] at g1
  exact ⟨d', by rw [g1]; exact List.mem_append.mpr (Or.inl h3), h4⟩
section CEY
variable {xs : List Int} {S : List (Nat × Nat)} {T : Nat → Nat → Nat} {cc zz s q y : Nat} {h : Hi} {l : Li} {I I' : Ix}

theorem mx_142 : mxl 142 = 4 := by decide +kernel
theorem mt_142 : mtc 142 = 9 := by decide +kernel
theorem rk_142 (as : List AV) : rkA 142 as = 6 := rfl
theorem l_142_0 : look 142 0 = some (.aload_n 0, 1, 0, 0, 0, 0) := by decide +kernel
theorem l_142_1 : look 142 1 = some (.iload_n 1, 1, 0, 0, 0, 0) := by decide +kernel
theorem l_142_2 : look 142 2 = some (.invokevirtual 237, 3, 152, 2, 0, 1262) := by decide +kernel
theorem l_142_5 : look 142 5 = some (.aload_n 0, 1, 0, 0, 0, 0) := by decide +kernel
theorem l_142_6 : look 142 6 = some (.getfield 57, 3, 9, 8, 2, 546) := by decide +kernel
theorem l_142_9 : look 142 9 = some (.getfield 131, 3, 5, 2, 2, 451) := by decide +kernel
theorem l_142_12 : look 142 12 = some (.iload_n 1, 1, 0, 0, 0, 0) := by decide +kernel
theorem l_142_13 : look 142 13 = some (.iconst 2, 1, 0, 0, 0, 0) := by decide +kernel
theorem l_142_14 : look 142 14 = some (.invokevirtual 240, 3, 24, 3, 0, 1266) := by decide +kernel
theorem l_142_17 : look 142 17 = some (.istore_n 2, 1, 0, 0, 0, 0) := by decide +kernel
theorem l_142_18 : look 142 18 = some (.iload_n 2, 1, 0, 0, 0, 0) := by decide +kernel
theorem l_142_19 : look 142 19 = some (.iconst (-1), 1, 0, 0, 0, 0) := by decide +kernel
theorem l_142_20 : look 142 20 = some (.if_icmp .ne 5, 3, 0, 0, 0, 0) := by decide +kernel
theorem l_142_23 : look 142 23 = some (.iconst (-1), 1, 0, 0, 0, 0) := by decide +kernel
theorem l_142_24 : look 142 24 = some (.ireturn, 1, 0, 0, 0, 0) := by decide +kernel
theorem l_142_25 : look 142 25 = some (.iconst 1, 1, 0, 0, 0, 0) := by decide +kernel
theorem l_142_26 : look 142 26 = some (.istore_n 3, 1, 0, 0, 0, 0) := by decide +kernel
theorem l_142_27 : look 142 27 = some (.iload_n 3, 1, 0, 0, 0, 0) := by decide +kernel
theorem l_142_28 : look 142 28 = some (.bipush 99, 2, 0, 0, 0, 0) := by decide +kernel
theorem l_142_30 : look 142 30 = some (.if_icmp .gt 65, 3, 0, 0, 0, 0) := by decide +kernel
theorem l_142_33 : look 142 33 = some (.aload_n 0, 1, 0, 0, 0, 0) := by decide +kernel
theorem l_142_34 : look 142 34 = some (.getfield 61, 3, 9, 9, 2, 547) := by decide +kernel
theorem l_142_37 : look 142 37 = some (.getfield 218, 3, 5, 0, 2, 447) := by decide +kernel
theorem l_142_40 : look 142 40 = some (.aload_n 0, 1, 0, 0, 0, 0) := by decide +kernel
theorem l_142_41 : look 142 41 = some (.getfield 35, 3, 9, 5, 2, 543) := by decide +kernel
theorem l_142_44 : look 142 44 = some (.getfield 113, 3, 6, 0, 2, 248) := by decide +kernel
theorem l_142_47 : look 142 47 = some (.invokevirtual 297, 3, 9, 2, 0, 512) := by decide +kernel
theorem l_142_50 : look 142 50 = some (.aload_n 0, 1, 0, 0, 0, 0) := by decide +kernel
theorem l_142_51 : look 142 51 = some (.getfield 61, 3, 9, 9, 2, 547) := by decide +kernel
theorem l_142_54 : look 142 54 = some (.getfield 218, 3, 5, 0, 2, 447) := by decide +kernel
theorem l_142_57 : look 142 57 = some (.getfield 301, 3, 1, 1, 2, 184) := by decide +kernel
theorem l_142_60 : look 142 60 = some (.iload_n 2, 1, 0, 0, 0, 0) := by decide +kernel
theorem l_142_61 : look 142 61 = some (.iload_n 3, 1, 0, 0, 0, 0) := by decide +kernel
theorem l_142_62 : look 142 62 = some (.iastore, 1, 0, 0, 0, 0) := by decide +kernel
theorem l_142_63 : look 142 63 = some (.aload_n 0, 1, 0, 0, 0, 0) := by decide +kernel
theorem l_142_64 : look 142 64 = some (.iload_n 1, 1, 0, 0, 0, 0) := by decide +kernel
theorem l_142_65 : look 142 65 = some (.invokevirtual 304, 3, 165, 2, 0, 1429) := by decide +kernel
theorem l_142_68 : look 142 68 = some (.ifCond .ne 5, 3, 0, 0, 0, 0) := by decide +kernel
theorem l_142_71 : look 142 71 = some (.iload_n 3, 1, 0, 0, 0, 0) := by decide +kernel
theorem l_142_72 : look 142 72 = some (.ireturn, 1, 0, 0, 0, 0) := by decide +kernel
theorem l_142_73 : look 142 73 = some (.aload_n 0, 1, 0, 0, 0, 0) := by decide +kernel
theorem l_142_74 : look 142 74 = some (.getfield 61, 3, 9, 9, 2, 547) := by decide +kernel
theorem l_142_77 : look 142 77 = some (.getfield 131, 3, 5, 2, 2, 451) := by decide +kernel
theorem l_142_80 : look 142 80 = some (.iload_n 2, 1, 0, 0, 0, 0) := by decide +kernel
theorem l_142_81 : look 142 81 = some (.invokevirtual 307, 3, 29, 2, 0, 1433) := by decide +kernel
theorem l_142_84 : look 142 84 = some (.ifCond .ne 5, 3, 0, 0, 0, 0) := by decide +kernel
theorem l_142_87 : look 142 87 = some (.iconst (-1), 1, 0, 0, 0, 0) := by decide +kernel
theorem l_142_88 : look 142 88 = some (.ireturn, 1, 0, 0, 0, 0) := by decide +kernel
theorem l_142_89 : look 142 89 = some (.iinc 3 1, 3, 0, 0, 0, 0) := by decide +kernel
theorem l_142_92 : look 142 92 = some (.goto (-65), 3, 0, 0, 0, 0) := by decide +kernel
theorem l_142_95 : look 142 95 = some (.iconst (-1), 1, 0, 0, 0, 0) := by decide +kernel
theorem l_142_96 : look 142 96 = some (.ireturn, 1, 0, 0, 0, 0) := by decide +kernel

theorem lp_142 {I0 : Ix} (hq : s < q ∧ q + 8 < s + 21) (o : oDropSwitch S T s q y) {ne np : Nat} {a : Nat → Nat} (K0 : KQ I0 s q h l a ne np) (B0 : KB I0 s h l a ne np) {k p : Nat} (hk : k < (runA h l noOut ne).2.1.length) (hp : p < lPorts l) (hP : ((runA h l noOut ne).2.1.getD k dr0).2.2.1 = ((p : Nat) : Int)) {R : Int} : ∀ d c I, c + d = 100 → 1 ≤ c → lcF (fun c => !still (runA h (capL l p c) noOut ne).2.1 ((((runA h l noOut ne).2.1.getD k dr0).2.1 : Nat) : Int) ((p : Nat) : Int)) d c = R → KE I s h l ne → mfv I0 I s → WP xs 142 6 27 [vr s, vi ((k : Nat) : Int), vi ((p : Nat) : Int), vi ((c : Nat) : Int)] [] (S, I, T, cc, zz) (RP S T cc zz (fun v I' => v = some (vi R) ∧ KE I' s h l ne ∧ mfv I0 I' s)) := by
  intro d
  have hne := K0.2.2.1.2.2.1
  have hln := K0.2.2.2.1.2.1.2
  have hpk := K0.2.2.2.2.2.2.2.2.2
  have hdr : okDr (runA h l noOut ne).2.1 := run_okDr K0.2.2.2.2.2.2.2.1 K0.2.2.2.2.2.2.2.2.1 K0.2.2.2.2.2.2.2.2.2 hne (Nat.le_refl ne)
  have hl4 := B0.2.2.2.1.1
  have hr8 := B0.2.2.2.1.2.1
  have hd1 := (hdr k hk).2.1
  induction d with
  | zero =>
    intro c I he hc hR E fi
    refine w_iln l_142_27 rfl ?_
    refine w_bp l_142_28 (by decide) ?_
    refine w_cgt 95 l_142_30 (by decide) (fun _ => ?_) (fun hx => absurd hx (by omega))
    refine w_ic l_142_95 (by decide) ?_
    refine w_ir l_142_96 (Or.inl rfl) ?_
    exact ⟨_, _, rfl, rfl, by rw [← hR]; rfl, E, fi⟩
  | succ d ih =>
    intro c I he hc hR E fi
    have K := KQ.fr hq K0 fi.frm (by omega)
    have B := B0.fr fi.frm (by omega)
    refine w_iln l_142_27 rfl ?_
    refine w_bp l_142_28 (by decide) ?_
    refine w_cgt 95 l_142_30 (by decide) (fun hx => absurd hx (by omega)) (fun _ => ?_)
    refine w_aln l_142_33 rfl ?_
    refine w_gr l_142_34 (oDropSwitch_sh o) (oDropSwitch_r9 o) ?_
    refine w_gr l_142_37 (oRun_sh (oDropSwitch_o9 o)) (oRun_r0 (oDropSwitch_o9 o)) ?_
    refine w_aln l_142_40 rfl ?_
    refine w_gr l_142_41 (oDropSwitch_sh o) (oDropSwitch_r5 o) ?_
    refine w_gr l_142_44 (oSetup_sh (oDropSwitch_o5 o)) (oSetup_r0 (oDropSwitch_o5 o)) ?_
    refine p_iv [vr (q + 1)] [] l_142_47 rfl rfl (Nat.le_of_ble_eq_true rfl) (by rw [mx_9]; exact Nat.le_of_ble_eq_true rfl) (by rw [mt_9]; exact oLimits_sh (oRun_o0 (oDropSwitch_o9 o))) (by rw [mt_9]; decide) (by rw [rk_9]; decide) (t_limits (oRun_o0 (oDropSwitch_o9 o)) (oSetup_o0 (oDropSwitch_o5 o)) (by omega) K.1 B.2.2.2.1.1) (fun v I1 hv => ?_)
    obtain ⟨rfl, hL1, f1⟩ := hv
    refine w_aln l_142_50 rfl ?_
    refine w_gr l_142_51 (oDropSwitch_sh o) (oDropSwitch_r9 o) ?_
    refine w_gr l_142_54 (oRun_sh (oDropSwitch_o9 o)) (oRun_r0 (oDropSwitch_o9 o)) ?_
    refine w_gr l_142_57 (oLimits_sh (oRun_o0 (oDropSwitch_o9 o))) (oLimits_r1 (oRun_o0 (oDropSwitch_o9 o))) ?_
    refine w_iln l_142_60 rfl ?_
    refine w_iln l_142_61 rfl ?_
    refine w_iS p l_142_62 (oLimits_s1 (oRun_o0 (oDropSwitch_o9 o))) rfl (by omega) ?_
    refine w_aln l_142_63 rfl ?_
    refine w_iln l_142_64 rfl ?_
    have fa : fr I (up I1 (s + 52 + 1 + 1) p ((c : Nat) : Int)) (s + 52) (s + 71) := (f1.mono (by omega) (by omega)).up (by omega) (by omega)
    have K2 := KQ.fr hq K fa (by omega)
    have B2 := B.fr fa (by omega)
    have hL2 : cLi (up I1 (s + 52 + 1 + 1) p ((c : Nat) : Int)) (s + 53) (capL l p c) := cLi_cap hL1
    have hT2 : tmR (up I1 (s + 52 + 1 + 1) p ((c : Nat) : Int)) s := fun b hb => by
      obtain ⟨t, g1, g2⟩ := E.1 b hb
      exact ⟨t, ((up_no (by omega)).trans (f1 _ (by omega) b)).trans g1, g2⟩
    refine p_iv [vi ((k : Nat) : Int)] [] l_142_65 rfl rfl (Nat.le_of_ble_eq_true rfl) (by rw [mx_165]; exact Nat.le_of_ble_eq_true rfl) (by rw [mt_165]; exact oDropSwitch_sh o) (by rw [mt_165]; decide) (by rw [rk_165]; decide) (s_165 o K2 B2 (capL_ok B.2.2.2.1 (by omega)) rfl B.2.2.2.2.2.1 hL2 hT2 hk) (fun v I2 hv => ?_)
    obtain ⟨rfl, hL3, f3, hT3, m, hm, hRm, hh⟩ := hv
    refine w_bne 73 l_142_68 (by decide) (fun h1 => ?_) (fun h1 => ?_)
    · skip
      refine w_aln l_142_73 rfl ?_
      refine w_gr l_142_74 (oDropSwitch_sh o) (oDropSwitch_r9 o) ?_
      refine w_gr l_142_77 (oRun_sh (oDropSwitch_o9 o)) (oRun_r2 (oDropSwitch_o9 o)) ?_
      refine w_iln l_142_80 rfl ?_
      refine q_iv [vi ((p : Nat) : Int)] [] l_142_81 rfl rfl (Nat.le_of_ble_eq_true rfl) (by rw [mx_29]; exact Nat.le_of_ble_eq_true rfl) (by rw [mt_29]; exact oLog_sh (oRun_o2 (oDropSwitch_o9 o))) (by rw [mt_29]; decide) (by rw [rk_29]; decide) (s_29 (oRun_o2 (oDropSwitch_o9 o)) hRm.2) ?_
      refine w_bne 89 l_142_84 (by decide) (fun h2 => ?_) (fun h2 => ?_)
      · skip
        refine w_inc ((c + 1 : Nat) : Int) l_142_89 rfl rfl (by unfold wr; omega) ?_
        refine w_go 27 l_142_92 (by decide) ?_
        have e8 := any_still (L := (capL l p c)) hpk (d := ((runA h l noOut ne).2.1.getD k dr0)) hd1
        rw [hP] at e8
        have fb := fa.tr f3
        have E2 := E.fr fb hT3
        have g2 := fi.tr (mfv.of fb)
        rw [e8] at h1
        exact ih (c + 1) I2 (by omega) (by omega) (by rw [← hR, lcF, if_neg (by show ¬ ((!still _ _ _) = true); rw [h1]; decide)]) E2 g2
      · skip
        refine w_ic l_142_87 (by decide) ?_
        refine w_ir l_142_88 (Or.inl rfl) ?_
        have e8 := any_still (L := (capL l p c)) hpk (d := ((runA h l noOut ne).2.1.getD k dr0)) hd1
        rw [hP] at e8
        have fb := fa.tr f3
        have E2 := E.fr fb hT3
        have g2 := fi.tr (mfv.of fb)
        rw [e8] at h1
        have hcr := of_decide_eq_false h2
        have hcr0 : cntK (isCr ((p : Nat) : Int)) (runA h (capL l p c) noOut m).2.1 (runA h (capL l p c) noOut m).2.1.length = 0 := Classical.byContradiction hcr
        have e9 := lcF_none (ok := (fun c => !still (runA h (capL l p c) noOut ne).2.1 ((((runA h l noOut ne).2.1.getD k dr0).2.1 : Nat) : Int) ((p : Nat) : Int))) (d + 1) c (fun i hi => by
          have g := cap_none (c' := c + i) (d := ((runA h l noOut ne).2.1.getD k dr0)) hpk (by omega) hm hd1 hcr0 (hh (by rw [e8]; exact h1))
          rw [hP] at g
          show (!still _ _ _) = false
          rw [g]
          rfl)
        exact ⟨_, _, rfl, rfl, by rw [← hR, e9], E2, g2⟩
    · skip
      refine w_iln l_142_71 rfl ?_
      refine w_ir l_142_72 (Or.inl rfl) ?_
      have e8 := any_still (L := (capL l p c)) hpk (d := ((runA h l noOut ne).2.1.getD k dr0)) hd1
      rw [hP] at e8
      have fb := fa.tr f3
      have E2 := E.fr fb hT3
      have g2 := fi.tr (mfv.of fb)
      rw [e8] at h1
      exact ⟨_, _, rfl, rfl, by rw [← hR, lcF, if_pos (by show (!still _ _ _) = true; rw [h1]; rfl)], E2, g2⟩
theorem s_142 (hq : s < q ∧ q + 8 < s + 21) (o : oDropSwitch S T s q y) {ne np : Nat} {a : Nat → Nat} (K : KQ I s q h l a ne np) (B : KB I s h l a ne np) (E : KE I s h l ne) {k p : Nat} (hk : k < (runA h l noOut ne).2.1.length) (hp : p < lPorts l) (hP : ((runA h l noOut ne).2.1.getD k dr0).2.2.1 = ((p : Nat) : Int)) : CL xs 142 [vr s, vi ((k : Nat) : Int)] (S, I, T, cc, zz) (RP S T cc zz (fun v I' => v = some (vi (lcF (fun c => !still (runA h (capL l p c) noOut ne).2.1 ((((runA h l noOut ne).2.1.getD k dr0).2.1 : Nat) : Int) ((p : Nat) : Int)) 99 1)) ∧ KE I' s h l ne ∧ mfv I I' s)) := by
  refine CL_start (r := 6) (ls := [vr s, vi ((k : Nat) : Int), vs 2, vs 2]) (rk_142 _) rfl ?_
  have hne := K.2.2.1.2.2.1
  have hln := K.2.2.2.1.2.1.2
  have hpk := K.2.2.2.2.2.2.2.2.2
  have hdr : okDr (runA h l noOut ne).2.1 := run_okDr K.2.2.2.2.2.2.2.1 K.2.2.2.2.2.2.2.2.1 K.2.2.2.2.2.2.2.2.2 hne (Nat.le_refl ne)
  have hl4 := B.2.2.2.1.1
  have hr8 := B.2.2.2.1.2.1
  have hd1 := (hdr k hk).2.1
  refine w_aln l_142_0 rfl ?_
  refine w_iln l_142_1 rfl ?_
  refine q_iv [vi ((k : Nat) : Int)] [] l_142_2 rfl rfl (Nat.le_of_ble_eq_true rfl) (by rw [mx_152]; exact Nat.le_of_ble_eq_true rfl) (by rw [mt_152]; exact oDropSwitch_sh o) (by rw [mt_152]; decide) (by rw [rk_152]; decide) (s_152 o K hk) ?_
  refine w_aln l_142_5 rfl ?_
  refine w_gr l_142_6 (oDropSwitch_sh o) (oDropSwitch_r8 o) ?_
  refine w_gr l_142_9 (oRun_sh (oDropSwitch_o8 o)) (oRun_r2 (oDropSwitch_o8 o)) ?_
  refine w_iln l_142_12 rfl ?_
  refine w_ic l_142_13 (by decide) ?_
  refine q_iv [vi ((k : Nat) : Int), vi 2] [] l_142_14 rfl rfl (Nat.le_of_ble_eq_true rfl) (by rw [mx_24]; exact Nat.le_of_ble_eq_true rfl) (by rw [mt_24]; exact oLog_sh (oRun_o2 (oDropSwitch_o8 o))) (by rw [mt_24]; decide) (by rw [rk_24]; decide) (by have g9 := t_part2 (xs := xs) (T := T) (cc := cc) (zz := zz) (oRun_o2 (oDropSwitch_o8 o)) K.2.2.2.1.2 hk; rw [hP] at g9; exact g9) ?_
  refine w_isn l_142_17 ⟨Nat.le_of_ble_eq_true rfl, rfl⟩ ?_
  refine w_iln l_142_18 rfl ?_
  refine w_ic l_142_19 (by decide) ?_
  refine w_cne 25 l_142_20 (by decide) (fun _ => ?_) (fun hx => absurd hx (by omega))
  refine w_ic l_142_25 (by decide) ?_
  refine w_isn l_142_26 ⟨Nat.le_of_ble_eq_true rfl, rfl⟩ ?_
  exact lp_142 (I0 := I) hq o K B hk hp hP 99 1 I rfl (Nat.le_refl _) rfl E (mfv.rf I s)

theorem s_142m (hq : s < q ∧ q + 8 < s + 21) (o : oDropSwitch S T s q y) {ne np : Nat} {a : Nat → Nat} (K : KQ I s q h l a ne np) (B : KB I s h l a ne np) (E : KE I s h l ne) {k : Nat} (hk : k < (runA h l noOut ne).2.1.length) (hP : ((runA h l noOut ne).2.1.getD k dr0).2.2.1 = -1) : CL xs 142 [vr s, vi ((k : Nat) : Int)] (S, I, T, cc, zz) (RP S T cc zz (fun v I' => v = some (vi (-1)) ∧ KE I' s h l ne ∧ mfv I I' s)) := by
  refine CL_start (r := 6) (ls := [vr s, vi ((k : Nat) : Int), vs 2, vs 2]) (rk_142 _) rfl ?_
  have hne := K.2.2.1.2.2.1
  have hln := K.2.2.2.1.2.1.2
  have hpk := K.2.2.2.2.2.2.2.2.2
  have hdr : okDr (runA h l noOut ne).2.1 := run_okDr K.2.2.2.2.2.2.2.1 K.2.2.2.2.2.2.2.2.1 K.2.2.2.2.2.2.2.2.2 hne (Nat.le_refl ne)
  have hl4 := B.2.2.2.1.1
  have hr8 := B.2.2.2.1.2.1
  have hd1 := (hdr k hk).2.1
  refine w_aln l_142_0 rfl ?_
  refine w_iln l_142_1 rfl ?_
  refine q_iv [vi ((k : Nat) : Int)] [] l_142_2 rfl rfl (Nat.le_of_ble_eq_true rfl) (by rw [mx_152]; exact Nat.le_of_ble_eq_true rfl) (by rw [mt_152]; exact oDropSwitch_sh o) (by rw [mt_152]; decide) (by rw [rk_152]; decide) (s_152 o K hk) ?_
  refine w_aln l_142_5 rfl ?_
  refine w_gr l_142_6 (oDropSwitch_sh o) (oDropSwitch_r8 o) ?_
  refine w_gr l_142_9 (oRun_sh (oDropSwitch_o8 o)) (oRun_r2 (oDropSwitch_o8 o)) ?_
  refine w_iln l_142_12 rfl ?_
  refine w_ic l_142_13 (by decide) ?_
  refine q_iv [vi ((k : Nat) : Int), vi 2] [] l_142_14 rfl rfl (Nat.le_of_ble_eq_true rfl) (by rw [mx_24]; exact Nat.le_of_ble_eq_true rfl) (by rw [mt_24]; exact oLog_sh (oRun_o2 (oDropSwitch_o8 o))) (by rw [mt_24]; decide) (by rw [rk_24]; decide) (by have g9 := t_part2 (xs := xs) (T := T) (cc := cc) (zz := zz) (oRun_o2 (oDropSwitch_o8 o)) K.2.2.2.1.2 hk; rw [hP] at g9; exact g9) ?_
  refine w_isn l_142_17 ⟨Nat.le_of_ble_eq_true rfl, rfl⟩ ?_
  refine w_iln l_142_18 rfl ?_
  refine w_ic l_142_19 (by decide) ?_
  refine w_cne 25 l_142_20 (by decide) (fun hx => absurd hx (by decide)) (fun _ => ?_)
  refine w_ic l_142_23 (by decide) ?_
  refine w_ir l_142_24 (Or.inl rfl) ?_
  exact ⟨_, _, rfl, rfl, rfl, E, mfv.rf I s⟩

theorem s_142n (o : oDropSwitch S T s q y) {ne np : Nat} {a : Nat → Nat} (K : KQ I s q h l a ne np) {k : Int} (hk : ¬ (0 ≤ k ∧ k < (((runA h l noOut ne).2.1.length : Nat) : Int))) (hc : 1 ≤ cc ∧ 6 ≤ zz) : CL xs 142 [vr s, vi k] (S, I, T, cc, zz) (TH 0 (S, I, T, cc - 1, zz - 6)) := by
  refine CL_start (r := 6) (ls := [vr s, vi k, vs 2, vs 2]) (rk_142 _) rfl ?_
  refine w_aln l_142_0 rfl ?_
  refine w_iln l_142_1 rfl ?_
  refine t_iv [vi k] [] l_142_2 rfl rfl (Nat.le_of_ble_eq_true rfl) (by rw [mx_152]; exact Nat.le_of_ble_eq_true rfl) (by rw [mt_152]; exact oDropSwitch_sh o) (by rw [mt_152]; decide) (by rw [rk_152]; decide) (s_152n o K hk hc) (by decide +kernel) ?_
  exact ⟨rfl, rfl⟩

theorem mx_143 : mxl 143 = 4 := by decide +kernel
theorem mt_143 : mtc 143 = 9 := by decide +kernel
theorem rk_143 (as : List AV) : rkA 143 as = 6 := rfl
theorem l_143_0 : look 143 0 = some (.aload_n 0, 1, 0, 0, 0, 0) := by decide +kernel
theorem l_143_1 : look 143 1 = some (.iload_n 1, 1, 0, 0, 0, 0) := by decide +kernel
theorem l_143_2 : look 143 2 = some (.invokevirtual 237, 3, 152, 2, 0, 1262) := by decide +kernel
theorem l_143_5 : look 143 5 = some (.iconst 0, 1, 0, 0, 0, 0) := by decide +kernel
theorem l_143_6 : look 143 6 = some (.istore_n 2, 1, 0, 0, 0, 0) := by decide +kernel
theorem l_143_7 : look 143 7 = some (.iconst 0, 1, 0, 0, 0, 0) := by decide +kernel
theorem l_143_8 : look 143 8 = some (.istore_n 3, 1, 0, 0, 0, 0) := by decide +kernel
theorem l_143_9 : look 143 9 = some (.iload_n 3, 1, 0, 0, 0, 0) := by decide +kernel
theorem l_143_10 : look 143 10 = some (.aload_n 0, 1, 0, 0, 0, 0) := by decide +kernel
theorem l_143_11 : look 143 11 = some (.getfield 35, 3, 9, 5, 2, 543) := by decide +kernel
theorem l_143_14 : look 143 14 = some (.getfield 122, 3, 6, 2, 0, 252) := by decide +kernel
theorem l_143_17 : look 143 17 = some (.if_icmp .ge 53, 3, 0, 0, 0, 0) := by decide +kernel
theorem l_143_20 : look 143 20 = some (.aload_n 0, 1, 0, 0, 0, 0) := by decide +kernel
theorem l_143_21 : look 143 21 = some (.getfield 61, 3, 9, 9, 2, 547) := by decide +kernel
theorem l_143_24 : look 143 24 = some (.getfield 218, 3, 5, 0, 2, 447) := by decide +kernel
theorem l_143_27 : look 143 27 = some (.aload_n 0, 1, 0, 0, 0, 0) := by decide +kernel
theorem l_143_28 : look 143 28 = some (.getfield 35, 3, 9, 5, 2, 543) := by decide +kernel
theorem l_143_31 : look 143 31 = some (.getfield 113, 3, 6, 0, 2, 248) := by decide +kernel
theorem l_143_34 : look 143 34 = some (.invokevirtual 297, 3, 9, 2, 0, 512) := by decide +kernel
theorem l_143_37 : look 143 37 = some (.aload_n 0, 1, 0, 0, 0, 0) := by decide +kernel
theorem l_143_38 : look 143 38 = some (.getfield 61, 3, 9, 9, 2, 547) := by decide +kernel
theorem l_143_41 : look 143 41 = some (.getfield 218, 3, 5, 0, 2, 447) := by decide +kernel
theorem l_143_44 : look 143 44 = some (.iconst 1, 1, 0, 0, 0, 0) := by decide +kernel
theorem l_143_45 : look 143 45 = some (.iload_n 3, 1, 0, 0, 0, 0) := by decide +kernel
theorem l_143_46 : look 143 46 = some (.ishl, 1, 0, 0, 0, 0) := by decide +kernel
theorem l_143_47 : look 143 47 = some (.putfield 310, 3, 1, 9, 0, 215) := by decide +kernel
theorem l_143_50 : look 143 50 = some (.aload_n 0, 1, 0, 0, 0, 0) := by decide +kernel
theorem l_143_51 : look 143 51 = some (.iload_n 1, 1, 0, 0, 0, 0) := by decide +kernel
theorem l_143_52 : look 143 52 = some (.invokevirtual 304, 3, 165, 2, 0, 1429) := by decide +kernel
theorem l_143_55 : look 143 55 = some (.ifCond .ne 9, 3, 0, 0, 0, 0) := by decide +kernel
theorem l_143_58 : look 143 58 = some (.iload_n 2, 1, 0, 0, 0, 0) := by decide +kernel
theorem l_143_59 : look 143 59 = some (.iconst 1, 1, 0, 0, 0, 0) := by decide +kernel
theorem l_143_60 : look 143 60 = some (.iload_n 3, 1, 0, 0, 0, 0) := by decide +kernel
theorem l_143_61 : look 143 61 = some (.ishl, 1, 0, 0, 0, 0) := by decide +kernel
theorem l_143_62 : look 143 62 = some (.ior, 1, 0, 0, 0, 0) := by decide +kernel
theorem l_143_63 : look 143 63 = some (.istore_n 2, 1, 0, 0, 0, 0) := by decide +kernel
theorem l_143_64 : look 143 64 = some (.iinc 3 1, 3, 0, 0, 0, 0) := by decide +kernel
theorem l_143_67 : look 143 67 = some (.goto (-58), 3, 0, 0, 0, 0) := by decide +kernel
theorem l_143_70 : look 143 70 = some (.iload_n 2, 1, 0, 0, 0, 0) := by decide +kernel
theorem l_143_71 : look 143 71 = some (.ireturn, 1, 0, 0, 0, 0) := by decide +kernel

theorem lp_143 {I0 : Ix} (hq : s < q ∧ q + 8 < s + 21) (o : oDropSwitch S T s q y) {ne np : Nat} {a : Nat → Nat} (K0 : KQ I0 s q h l a ne np) (B0 : KB I0 s h l a ne np) {k : Nat} (hk : k < (runA h l noOut ne).2.1.length) : ∀ d r I, r + d = lRules l → KE I s h l ne → mfv I0 I s → WP xs 143 6 9 [vr s, vi ((k : Nat) : Int), vi (((wbits (fun x => !still (runA h (rulL l x) noOut ne).2.1 ((((runA h l noOut ne).2.1.getD k dr0).2.1 : Nat) : Int) ((runA h l noOut ne).2.1.getD k dr0).2.2.1) r) : Nat) : Int), vi ((r : Nat) : Int)] [] (S, I, T, cc, zz) (RP S T cc zz (fun v I' => v = some (vi ((wbits (fun x => !still (runA h (rulL l x) noOut ne).2.1 ((((runA h l noOut ne).2.1.getD k dr0).2.1 : Nat) : Int) ((runA h l noOut ne).2.1.getD k dr0).2.2.1) (lRules l) : Nat) : Int)) ∧ KE I' s h l ne ∧ mfv I0 I' s)) := by
  intro d
  have hne := K0.2.2.1.2.2.1
  have hln := K0.2.2.2.1.2.1.2
  have hpk := K0.2.2.2.2.2.2.2.2.2
  have hdr : okDr (runA h l noOut ne).2.1 := run_okDr K0.2.2.2.2.2.2.2.1 K0.2.2.2.2.2.2.2.2.1 K0.2.2.2.2.2.2.2.2.2 hne (Nat.le_refl ne)
  have hl4 := B0.2.2.2.1.1
  have hr8 := B0.2.2.2.1.2.1
  have hd1 := (hdr k hk).2.1
  induction d with
  | zero =>
    intro r I he E fi
    have K := KQ.fr hq K0 fi.frm (by omega)
    have B := B0.fr fi.frm (by omega)
    refine w_iln l_143_9 rfl ?_
    refine w_aln l_143_10 rfl ?_
    refine w_gr l_143_11 (oDropSwitch_sh o) (oDropSwitch_r5 o) ?_
    refine w_gi (((lRules l) : Nat) : Int) l_143_14 (oSetup_sh (oDropSwitch_o5 o)) K.2.1 ?_
    refine w_cge 70 l_143_17 (by decide) (fun _ => ?_) (fun hx => absurd hx (by omega))
    refine w_iln l_143_70 rfl ?_
    refine w_ir l_143_71 (Or.inl rfl) ?_
    have e9 : r = lRules l := by omega
    rw [e9]
    exact ⟨_, _, rfl, rfl, rfl, E, fi⟩
  | succ d ih =>
    intro r I he E fi
    have K := KQ.fr hq K0 fi.frm (by omega)
    have B := B0.fr fi.frm (by omega)
    refine w_iln l_143_9 rfl ?_
    refine w_aln l_143_10 rfl ?_
    refine w_gr l_143_11 (oDropSwitch_sh o) (oDropSwitch_r5 o) ?_
    refine w_gi (((lRules l) : Nat) : Int) l_143_14 (oSetup_sh (oDropSwitch_o5 o)) K.2.1 ?_
    refine w_cge 70 l_143_17 (by decide) (fun hx => absurd hx (by omega)) (fun _ => ?_)
    refine w_aln l_143_20 rfl ?_
    refine w_gr l_143_21 (oDropSwitch_sh o) (oDropSwitch_r9 o) ?_
    refine w_gr l_143_24 (oRun_sh (oDropSwitch_o9 o)) (oRun_r0 (oDropSwitch_o9 o)) ?_
    refine w_aln l_143_27 rfl ?_
    refine w_gr l_143_28 (oDropSwitch_sh o) (oDropSwitch_r5 o) ?_
    refine w_gr l_143_31 (oSetup_sh (oDropSwitch_o5 o)) (oSetup_r0 (oDropSwitch_o5 o)) ?_
    refine p_iv [vr (q + 1)] [] l_143_34 rfl rfl (Nat.le_of_ble_eq_true rfl) (by rw [mx_9]; exact Nat.le_of_ble_eq_true rfl) (by rw [mt_9]; exact oLimits_sh (oRun_o0 (oDropSwitch_o9 o))) (by rw [mt_9]; decide) (by rw [rk_9]; decide) (t_limits (oRun_o0 (oDropSwitch_o9 o)) (oSetup_o0 (oDropSwitch_o5 o)) (by omega) K.1 B.2.2.2.1.1) (fun v I1 hv => ?_)
    obtain ⟨rfl, hL1, f1⟩ := hv
    refine w_aln l_143_37 rfl ?_
    refine w_gr l_143_38 (oDropSwitch_sh o) (oDropSwitch_r9 o) ?_
    refine w_gr l_143_41 (oRun_sh (oDropSwitch_o9 o)) (oRun_r0 (oDropSwitch_o9 o)) ?_
    refine w_ic l_143_44 (by decide) ?_
    refine w_iln l_143_45 rfl ?_
    refine w_shl (((2 ^ r) : Nat) : Int) l_143_46 (shl1 r (by omega)) ?_
    refine w_pi l_143_47 (oLimits_sh (oRun_o0 (oDropSwitch_o9 o))) ?_
    refine w_aln l_143_50 rfl ?_
    refine w_iln l_143_51 rfl ?_
    have fa : fr I (up I1 (s + 52 + 1) 9 ((2 ^ r : Nat) : Int)) (s + 52) (s + 71) := (f1.mono (by omega) (by omega)).up (by omega) (by omega)
    have K2 := KQ.fr hq K fa (by omega)
    have B2 := B.fr fa (by omega)
    have hL2 : cLi (up I1 (s + 52 + 1) 9 ((2 ^ r : Nat) : Int)) (s + 53) (rulL l r) := cLi_rul hL1 (by omega)
    have hT2 : tmR (up I1 (s + 52 + 1) 9 ((2 ^ r : Nat) : Int)) s := fun b hb => by
      obtain ⟨t, g1, g2⟩ := E.1 b hb
      exact ⟨t, ((up_no (by omega)).trans (f1 _ (by omega) b)).trans g1, g2⟩
    refine p_iv [vi ((k : Nat) : Int)] [] l_143_52 rfl rfl (Nat.le_of_ble_eq_true rfl) (by rw [mx_165]; exact Nat.le_of_ble_eq_true rfl) (by rw [mt_165]; exact oDropSwitch_sh o) (by rw [mt_165]; decide) (by rw [rk_165]; decide) (s_165 o K2 B2 (rulL_ok B.2.2.2.1) rfl B.2.2.2.2.2.1 hL2 hT2 hk) (fun v I2 hv => ?_)
    obtain ⟨rfl, hL3, f3, hT3, m, hm, hRm, hh⟩ := hv
    refine w_bne 64 l_143_55 (by decide) (fun h1 => ?_) (fun h1 => ?_)
    · skip
      refine w_inc ((r + 1 : Nat) : Int) l_143_64 rfl rfl (by unfold wr; omega) ?_
      refine w_go 9 l_143_67 (by decide) ?_
      have e8 := any_still (L := (rulL l r)) hpk (d := ((runA h l noOut ne).2.1.getD k dr0)) hd1
      have fb := fa.tr f3
      have E2 := E.fr fb hT3
      have g2 := fi.tr (mfv.of fb)
      rw [e8] at h1
      have e9 := ih (r + 1) I2 (by omega) E2 g2
      rw [wbits_f (way := (fun x => !still (runA h (rulL l x) noOut ne).2.1 ((((runA h l noOut ne).2.1.getD k dr0).2.1 : Nat) : Int) ((runA h l noOut ne).2.1.getD k dr0).2.2.1)) (show (!still _ _ _) = false by rw [h1]; rfl)] at e9
      exact e9
    · skip
      refine w_iln l_143_58 rfl ?_
      refine w_ic l_143_59 (by decide) ?_
      refine w_iln l_143_60 rfl ?_
      refine w_shl (((2 ^ r) : Nat) : Int) l_143_61 (shl1 r (by omega)) ?_
      refine w_or ((((wbits (fun x => !still (runA h (rulL l x) noOut ne).2.1 ((((runA h l noOut ne).2.1.getD k dr0).2.1 : Nat) : Int) ((runA h l noOut ne).2.1.getD k dr0).2.2.1) r) + 2 ^ r) : Nat) : Int) l_143_62 (or8 r (by omega) _ (wbits_lt _ r)) ?_
      refine w_isn l_143_63 ⟨Nat.le_of_ble_eq_true rfl, rfl⟩ ?_
      refine w_inc ((r + 1 : Nat) : Int) l_143_64 rfl rfl (by unfold wr; omega) ?_
      refine w_go 9 l_143_67 (by decide) ?_
      have e8 := any_still (L := (rulL l r)) hpk (d := ((runA h l noOut ne).2.1.getD k dr0)) hd1
      have fb := fa.tr f3
      have E2 := E.fr fb hT3
      have g2 := fi.tr (mfv.of fb)
      rw [e8] at h1
      have e9 := ih (r + 1) I2 (by omega) E2 g2
      rw [wbits_t (way := (fun x => !still (runA h (rulL l x) noOut ne).2.1 ((((runA h l noOut ne).2.1.getD k dr0).2.1 : Nat) : Int) ((runA h l noOut ne).2.1.getD k dr0).2.2.1)) (show (!still _ _ _) = true by rw [h1]; rfl)] at e9
      exact e9
theorem s_143 (hq : s < q ∧ q + 8 < s + 21) (o : oDropSwitch S T s q y) {ne np : Nat} {a : Nat → Nat} (K : KQ I s q h l a ne np) (B : KB I s h l a ne np) (E : KE I s h l ne) {k : Nat} (hk : k < (runA h l noOut ne).2.1.length) : CL xs 143 [vr s, vi ((k : Nat) : Int)] (S, I, T, cc, zz) (RP S T cc zz (fun v I' => v = some (vi ((wbits (fun x => !still (runA h (rulL l x) noOut ne).2.1 ((((runA h l noOut ne).2.1.getD k dr0).2.1 : Nat) : Int) ((runA h l noOut ne).2.1.getD k dr0).2.2.1) (lRules l) : Nat) : Int)) ∧ KE I' s h l ne ∧ mfv I I' s)) := by
  refine CL_start (r := 6) (ls := [vr s, vi ((k : Nat) : Int), vs 2, vs 2]) (rk_143 _) rfl ?_
  refine w_aln l_143_0 rfl ?_
  refine w_iln l_143_1 rfl ?_
  refine q_iv [vi ((k : Nat) : Int)] [] l_143_2 rfl rfl (Nat.le_of_ble_eq_true rfl) (by rw [mx_152]; exact Nat.le_of_ble_eq_true rfl) (by rw [mt_152]; exact oDropSwitch_sh o) (by rw [mt_152]; decide) (by rw [rk_152]; decide) (s_152 o K hk) ?_
  refine w_ic l_143_5 (by decide) ?_
  refine w_isn l_143_6 ⟨Nat.le_of_ble_eq_true rfl, rfl⟩ ?_
  refine w_ic l_143_7 (by decide) ?_
  refine w_isn l_143_8 ⟨Nat.le_of_ble_eq_true rfl, rfl⟩ ?_
  exact lp_143 (I0 := I) hq o K B hk (lRules l) 0 I (Nat.zero_add _) E (mfv.rf I s)

theorem s_143n (o : oDropSwitch S T s q y) {ne np : Nat} {a : Nat → Nat} (K : KQ I s q h l a ne np) {k : Int} (hk : ¬ (0 ≤ k ∧ k < (((runA h l noOut ne).2.1.length : Nat) : Int))) (hc : 1 ≤ cc ∧ 6 ≤ zz) : CL xs 143 [vr s, vi k] (S, I, T, cc, zz) (TH 0 (S, I, T, cc - 1, zz - 6)) := by
  refine CL_start (r := 6) (ls := [vr s, vi k, vs 2, vs 2]) (rk_143 _) rfl ?_
  refine w_aln l_143_0 rfl ?_
  refine w_iln l_143_1 rfl ?_
  refine t_iv [vi k] [] l_143_2 rfl rfl (Nat.le_of_ble_eq_true rfl) (by rw [mx_152]; exact Nat.le_of_ble_eq_true rfl) (by rw [mt_152]; exact oDropSwitch_sh o) (by rw [mt_152]; decide) (by rw [rk_152]; decide) (s_152n o K hk hc) (by decide +kernel) ?_
  exact ⟨rfl, rfl⟩

end CEY
