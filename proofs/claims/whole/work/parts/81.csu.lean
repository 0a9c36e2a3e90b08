/-! the class: what is supposed is run -/
/-- what the class's runs go by: events, packets, the rules that hold -/
def KB (I : Ix) (s : Nat) (h : Hi) (l : Li) (a : Nat → Nat) (ne np : Nat) : Prop := cH I (s + 21) h a ne np ∧ (∀ k, k < np → ∃ d : Nat, I (s + 30) k = (d : Int) ∧ d < 256 ∧ ∀ r, r < 8 → (bt d r ≠ 0 ↔ (r < lRules l ∧ hHol h k r = true))) ∧ okHi h ∧ okLi l ∧ okEv h l ne np ∧ (∀ p, lPorts l ≤ p → lPol l p = none) ∧ ∀ r, lIdle l r = false
theorem KB.fr {I J : Ix} {s : Nat} {h : Hi} {l : Li} {a : Nat → Nat} {ne np lo hi : Nat} (K : KB I s h l a ne np) (f : fr I J lo hi) (d : s + 30 < lo) : KB J s h l a ne np :=
  ⟨K.1.fr f (Or.inr (by omega)), fun k hk => by rw [f (s + 30) (by omega) k]; exact K.2.1 k hk, K.2.2⟩
/-- with other limits l' of the same ports and rules -/
theorem KB.CB {I : Ix} {s t : Nat} {h : Hi} {l l' : Li} {a : Nat → Nat} {ne np : Nat} (K : KB I s h l a ne np) (hL : cLi I (t + 1) l') (ht : s + 30 < t) (ok : okLi l') (e1 : l'.1 = l.1) : CB I t (s + 21) h l' a ne np := by
  obtain ⟨k1, k2, k3, k4, k5, k6, k7⟩ := K
  refine ⟨k1, hL, by omega, fun k hk => ?_, k3, ok, fun e he h1 => ?_⟩
  · obtain ⟨d, d1, d2, d3⟩ := k2 k hk
    refine ⟨d, d1, d2, fun r hr => ?_⟩
    rw [d3 r hr]
    unfold lRules
    rw [e1]
  · have := (k5 e he).1 h1
    unfold lPorts at this ⊢
    rw [e1]
    exact this
theorem okEv_1 {h : Hi} {l l' : Li} {ne np : Nat} (H : okEv h l ne np) (e1 : l'.1 = l.1) : okEv h l' ne np := fun e he => by
  obtain ⟨g1, g2, g3⟩ := H e he
  exact ⟨fun h9 => by have := g1 h9; unfold lPorts at this ⊢; rw [e1]; exact this, g2, g3⟩
theorem cLi.fr2 {I J : Ix} {t : Nat} {l : Li} (H : cLi I (t + 1) l) (f : frR I J t) : cLi J (t + 1) l := by
  have e : ∀ j, j ≤ 4 → ∀ y, J (t + 1 + j) y = I (t + 1 + j) y := fun j hj y => f (t + 1 + j) (by omega) y
  have e0 : ∀ y, J (t + 1) y = I (t + 1) y := fun y => f (t + 1) (by omega) y
  unfold cLi at H ⊢
  simp only [e0, e 1 (by decide), e 2 (by decide), e 3 (by decide), e 4 (by decide)]
  exact H
section CSU
variable {xs : List Int} {S : List (Nat × Nat)} {T : Nat → Nat → Nat} {cc zz s q y : Nat} {h : Hi} {l : Li} {I I' : Ix}

theorem mx_162 : mxl 162 = 2 := by decide +kernel
theorem mt_162 : mtc 162 = 9 := by decide +kernel
theorem rk_162 (as : List AV) : rkA 162 as = 5 := rfl
theorem l_162_0 : look 162 0 = some (.aload_n 0, 1, 0, 0, 0, 0) := by decide +kernel
theorem l_162_1 : look 162 1 = some (.getfield 77, 3, 9, 13, 0, 551) := by decide +kernel
theorem l_162_4 : look 162 4 = some (.aload_n 0, 1, 0, 0, 0, 0) := by decide +kernel
theorem l_162_5 : look 162 5 = some (.getfield 74, 3, 9, 12, 0, 550) := by decide +kernel
theorem l_162_8 : look 162 8 = some (.if_icmp .ne 4, 3, 0, 0, 0, 0) := by decide +kernel
theorem l_162_11 : look 162 11 = some (.return_, 1, 0, 0, 0, 0) := by decide +kernel
theorem l_162_12 : look 162 12 = some (.aload_n 0, 1, 0, 0, 0, 0) := by decide +kernel
theorem l_162_13 : look 162 13 = some (.aload_n 0, 1, 0, 0, 0, 0) := by decide +kernel
theorem l_162_14 : look 162 14 = some (.getfield 74, 3, 9, 12, 0, 550) := by decide +kernel
theorem l_162_17 : look 162 17 = some (.putfield 77, 3, 9, 13, 0, 551) := by decide +kernel
theorem l_162_20 : look 162 20 = some (.aload_n 0, 1, 0, 0, 0, 0) := by decide +kernel
theorem l_162_21 : look 162 21 = some (.getfield 71, 3, 9, 11, 2, 549) := by decide +kernel
theorem l_162_24 : look 162 24 = some (.getfield 218, 3, 5, 0, 2, 447) := by decide +kernel
theorem l_162_27 : look 162 27 = some (.aload_n 0, 1, 0, 0, 0, 0) := by decide +kernel
theorem l_162_28 : look 162 28 = some (.getfield 35, 3, 9, 5, 2, 543) := by decide +kernel
theorem l_162_31 : look 162 31 = some (.getfield 113, 3, 6, 0, 2, 248) := by decide +kernel
theorem l_162_34 : look 162 34 = some (.invokevirtual 297, 3, 9, 2, 0, 512) := by decide +kernel
theorem l_162_37 : look 162 37 = some (.aload_n 0, 1, 0, 0, 0, 0) := by decide +kernel
theorem l_162_38 : look 162 38 = some (.getfield 67, 3, 9, 10, 2, 548) := by decide +kernel
theorem l_162_41 : look 162 41 = some (.aload_n 0, 1, 0, 0, 0, 0) := by decide +kernel
theorem l_162_42 : look 162 42 = some (.getfield 71, 3, 9, 11, 2, 549) := by decide +kernel
theorem l_162_45 : look 162 45 = some (.getfield 218, 3, 5, 0, 2, 447) := by decide +kernel
theorem l_162_48 : look 162 48 = some (.invokevirtual 359, 3, 96, 2, 0, 642) := by decide +kernel
theorem l_162_51 : look 162 51 = some (.aload_n 0, 1, 0, 0, 0, 0) := by decide +kernel
theorem l_162_52 : look 162 52 = some (.getfield 71, 3, 9, 11, 2, 549) := by decide +kernel
theorem l_162_55 : look 162 55 = some (.invokevirtual 183, 3, 49, 1, 0, 519) := by decide +kernel
theorem l_162_58 : look 162 58 = some (.iconst 0, 1, 0, 0, 0, 0) := by decide +kernel
theorem l_162_59 : look 162 59 = some (.istore_n 1, 1, 0, 0, 0, 0) := by decide +kernel
theorem l_162_60 : look 162 60 = some (.iload_n 1, 1, 0, 0, 0, 0) := by decide +kernel
theorem l_162_61 : look 162 61 = some (.aload_n 0, 1, 0, 0, 0, 0) := by decide +kernel
theorem l_162_62 : look 162 62 = some (.getfield 42, 3, 9, 6, 2, 544) := by decide +kernel
theorem l_162_65 : look 162 65 = some (.getfield 125, 3, 0, 0, 0, 316) := by decide +kernel
theorem l_162_68 : look 162 68 = some (.if_icmp .ge 30, 3, 0, 0, 0, 0) := by decide +kernel
theorem l_162_71 : look 162 71 = some (.aload_n 0, 1, 0, 0, 0, 0) := by decide +kernel
theorem l_162_72 : look 162 72 = some (.getfield 67, 3, 9, 10, 2, 548) := by decide +kernel
theorem l_162_75 : look 162 75 = some (.getfield 277, 3, 8, 1, 2, 473) := by decide +kernel
theorem l_162_78 : look 162 78 = some (.iload_n 1, 1, 0, 0, 0, 0) := by decide +kernel
theorem l_162_79 : look 162 79 = some (.baload, 1, 0, 0, 0, 0) := by decide +kernel
theorem l_162_80 : look 162 80 = some (.ifCond .ne 12, 3, 0, 0, 0, 0) := by decide +kernel
theorem l_162_83 : look 162 83 = some (.aload_n 0, 1, 0, 0, 0, 0) := by decide +kernel
theorem l_162_84 : look 162 84 = some (.getfield 71, 3, 9, 11, 2, 549) := by decide +kernel
theorem l_162_87 : look 162 87 = some (.iload_n 1, 1, 0, 0, 0, 0) := by decide +kernel
theorem l_162_88 : look 162 88 = some (.invokevirtual 186, 3, 51, 2, 0, 650) := by decide +kernel
theorem l_162_91 : look 162 91 = some (.pop, 1, 0, 0, 0, 0) := by decide +kernel
theorem l_162_92 : look 162 92 = some (.iinc 1 1, 3, 0, 0, 0, 0) := by decide +kernel
theorem l_162_95 : look 162 95 = some (.goto (-35), 3, 0, 0, 0, 0) := by decide +kernel
theorem l_162_98 : look 162 98 = some (.return_, 1, 0, 0, 0, 0) := by decide +kernel

theorem lp_162 {I0 : Ix} (o : oDropSwitch S T s q y) {ne np : Nat} {a : Nat → Nat} {su : Su} (K : KB I0 s h l a ne np) (hS : cSu I0 (s + 72) su) (hsu : okSu su) : ∀ d e I pk, e + d = ne → cR I (s + 75) h (supL l su) (runA h (supL l su) su.2.2.2 e) → cP I (s + 89) pk → cLi I (s + 76) (supL l su) → fr I0 I (s + 75) (s + 94) → WP xs 162 5 60 [vr s, vi ((e : Nat) : Int)] [] (S, I, T, cc, zz) (RP S T cc zz (fun v I' => v = none ∧ cR I' (s + 75) h (supL l su) (runA h (supL l su) su.2.2.2 ne) ∧ fr I0 I' (s + 75) (s + 94))) := by
  intro d
  have hne := K.1.2.2.1
  induction d with
  | zero =>
    intro e I pk he hR hP hL f
    have KBc := K.fr f (by omega)
    refine w_iln l_162_60 rfl ?_
    refine w_aln l_162_61 rfl ?_
    refine w_gr l_162_62 (oDropSwitch_sh o) (oDropSwitch_r6 o) ?_
    refine w_gi ((ne : Nat) : Int) l_162_65 (oHistory_sh (oDropSwitch_o6 o)) KBc.1.1 ?_
    refine w_cge 98 l_162_68 (by decide) (fun _ => ?_) (fun hx => absurd hx (by omega))
    refine w_vr l_162_98 ?_
    have e9 : e = ne := by omega
    rw [e9] at hR
    exact ⟨_, _, rfl, rfl, rfl, hR, f⟩
  | succ d ih =>
    intro e I pk he hR hP hL f
    have KBc := K.fr f (by omega)
    have hLc : cLi I (s + 75 + 1) (supL l su) := hL
    have hok := run_ok K.2.2.1 (supL_ok K.2.2.2.1 hsu) (okEv_1 (l' := (supL l su)) K.2.2.2.2.1 rfl) (out := su.2.2.2) e (by omega)
    refine w_iln l_162_60 rfl ?_
    refine w_aln l_162_61 rfl ?_
    refine w_gr l_162_62 (oDropSwitch_sh o) (oDropSwitch_r6 o) ?_
    refine w_gi ((ne : Nat) : Int) l_162_65 (oHistory_sh (oDropSwitch_o6 o)) KBc.1.1 ?_
    refine w_cge 98 l_162_68 (by decide) (fun hx => absurd hx (by omega)) (fun _ => ?_)
    refine w_aln l_162_71 rfl ?_
    refine w_gr l_162_72 (oDropSwitch_sh o) (oDropSwitch_r10 o) ?_
    refine w_gr l_162_75 (oSuppositions_sh (oDropSwitch_o10 o)) (oSuppositions_r1 (oDropSwitch_o10 o)) ?_
    refine w_iln l_162_78 rfl ?_
    refine w_ba e (b2i (su.2.2.2 e)) l_162_79 (Or.inr (oSuppositions_s1 (oDropSwitch_o10 o))) rfl (by omega) ((hS.fr f (Or.inr (by omega))).2.2.2.2.2 e (by omega)) ?_
    refine w_bne 92 l_162_80 (by decide) (fun h1 => ?_) (fun h1 => ?_)
    · skip
      refine w_inc ((e + 1 : Nat) : Int) l_162_92 rfl rfl (by unfold wr; omega) ?_
      refine w_go 60 l_162_95 (by decide) ?_
      exact ih (e + 1) I pk (by omega) (by rw [run_o h1]; exact hR) hP hL f
    · skip
      refine w_aln l_162_83 rfl ?_
      refine w_gr l_162_84 (oDropSwitch_sh o) (oDropSwitch_r11 o) ?_
      refine w_iln l_162_87 rfl ?_
      refine p_iv [vi ((e : Nat) : Int)] [] l_162_88 rfl rfl (Nat.le_of_ble_eq_true rfl) (by rw [mx_51]; exact Nat.le_of_ble_eq_true rfl) (by rw [mt_51]; exact oRun_sh (oDropSwitch_o11 o)) (by rw [mt_51]; decide) (by rw [rk_51]; decide) (s_51 (oDropSwitch_o11 o) (KBc.CB hLc (by omega) (supL_ok K.2.2.2.1 hsu) rfl) hR hP hok.1 (by omega) (by omega) (by omega)) (fun v I1 hv => ?_)
      obtain ⟨rfl, hR1, hP1, f1⟩ := hv
      refine w_pop l_162_91 rfl ?_
      refine w_inc ((e + 1 : Nat) : Int) l_162_92 rfl rfl (by unfold wr; omega) ?_
      refine w_go 60 l_162_95 (by decide) ?_
      exact ih (e + 1) I1 _ (by omega) (by rw [run_s h1]; exact hR1) hP1 (hL.fr2 f1) (f.tr f1.fr)
theorem s_162v (o : oDropSwitch S T s q y) (hv : I s 13 = I s 12) : CL xs 162 [vr s] (S, I, T, cc, zz) (FN none (S, I, T, cc, zz)) := by
  refine CL_start (r := 5) (ls := [vr s, vs 2]) (rk_162 _) rfl ?_
  refine w_aln l_162_0 rfl ?_
  refine w_gi (I s 13) l_162_1 (oDropSwitch_sh o) rfl ?_
  refine w_aln l_162_4 rfl ?_
  refine w_gi (I s 12) l_162_5 (oDropSwitch_sh o) rfl ?_
  refine w_cne 12 l_162_8 (by decide) (fun hx => absurd hx (by exact fun h9 => h9 hv)) (fun _ => ?_)
  refine w_vr l_162_11 ?_
  exact ⟨rfl, rfl⟩

theorem s_162 (o : oDropSwitch S T s q y) {ne np : Nat} {a : Nat → Nat} {su : Su} (hq : s < q ∧ q + 8 < s + 21) (K : KB I s h l a ne np) (hL : cLi I (q + 1) l) (hS : cSu I (s + 72) su) (hsu : okSu su) (hT : ∀ b, b < 64 → ∃ t : Nat, I (s + 75 + 6 + 7) b = (t : Int) ∧ t ≤ 120) (hv : I s 13 ≠ I s 12) : CL xs 162 [vr s] (S, I, T, cc, zz) (RP S T cc zz (fun v I' => v = none ∧ cR I' (s + 75) h (supL l su) (runA h (supL l su) su.2.2.2 ne) ∧ I' s 13 = I s 12 ∧ ∀ y z, (y < s + 75 ∨ s + 94 < y) → (y = s → z ≠ 13) → I' y z = I y z)) := by
  refine CL_start (r := 5) (ls := [vr s, vs 2]) (rk_162 _) rfl ?_
  refine w_aln l_162_0 rfl ?_
  refine w_gi (I s 13) l_162_1 (oDropSwitch_sh o) rfl ?_
  refine w_aln l_162_4 rfl ?_
  refine w_gi (I s 12) l_162_5 (oDropSwitch_sh o) rfl ?_
  refine w_cne 12 l_162_8 (by decide) (fun _ => ?_) (fun hx => absurd hx (by exact fun h9 => hv h9))
  refine w_aln l_162_12 rfl ?_
  refine w_aln l_162_13 rfl ?_
  refine w_gi (I s 12) l_162_14 (oDropSwitch_sh o) rfl ?_
  refine w_pi l_162_17 (oDropSwitch_sh o) ?_
  have fu : fr I (up I s 13 (I s 12)) s s := (fr.rf _ _ _).up (Nat.le_refl _) (Nat.le_refl _)
  refine w_aln l_162_20 rfl ?_
  refine w_gr l_162_21 (oDropSwitch_sh o) (oDropSwitch_r11 o) ?_
  refine w_gr l_162_24 (oRun_sh (oDropSwitch_o11 o)) (oRun_r0 (oDropSwitch_o11 o)) ?_
  refine w_aln l_162_27 rfl ?_
  refine w_gr l_162_28 (oDropSwitch_sh o) (oDropSwitch_r5 o) ?_
  refine w_gr l_162_31 (oSetup_sh (oDropSwitch_o5 o)) (oSetup_r0 (oDropSwitch_o5 o)) ?_
  refine p_iv [vr (q + 1)] [] l_162_34 rfl rfl (Nat.le_of_ble_eq_true rfl) (by rw [mx_9]; exact Nat.le_of_ble_eq_true rfl) (by rw [mt_9]; exact oLimits_sh (oRun_o0 (oDropSwitch_o11 o))) (by rw [mt_9]; decide) (by rw [rk_9]; decide) (t_limits (oRun_o0 (oDropSwitch_o11 o)) (oSetup_o0 (oDropSwitch_o5 o)) (by omega) (hL.fr fu (Or.inl (by omega))) K.2.2.2.1.1) (fun v I1 hv => ?_)
  obtain ⟨rfl, hL1, f1⟩ := hv
  refine w_aln l_162_37 rfl ?_
  refine w_gr l_162_38 (oDropSwitch_sh o) (oDropSwitch_r10 o) ?_
  refine w_aln l_162_41 rfl ?_
  refine w_gr l_162_42 (oDropSwitch_sh o) (oDropSwitch_r11 o) ?_
  refine w_gr l_162_45 (oRun_sh (oDropSwitch_o11 o)) (oRun_r0 (oDropSwitch_o11 o)) ?_
  refine p_iv [vr (s + 75 + 1)] [] l_162_48 rfl rfl (Nat.le_of_ble_eq_true rfl) (by rw [mx_96]; exact Nat.le_of_ble_eq_true rfl) (by rw [mt_96]; exact oSuppositions_sh (oDropSwitch_o10 o)) (by rw [mt_96]; decide) (by rw [rk_96]; decide) (s_96 (oDropSwitch_o10 o) (oRun_o0 (oDropSwitch_o11 o)) (by omega) ((hS.fr fu (Or.inl (by omega))).fr f1 (Or.inr (by omega))) hL1 K.2.2.2.1.1 K.2.2.2.2.2.2) (fun v I2 hv => ?_)
  obtain ⟨rfl, hL2, f2⟩ := hv
  refine w_aln l_162_51 rfl ?_
  refine w_gr l_162_52 (oDropSwitch_sh o) (oDropSwitch_r11 o) ?_
  refine p_iv [] [] l_162_55 rfl rfl (Nat.le_of_ble_eq_true rfl) (by rw [mx_49]; exact Nat.le_of_ble_eq_true rfl) (by rw [mt_49]; exact oRun_sh (oDropSwitch_o11 o)) (by rw [mt_49]; decide) (by rw [rk_49]; decide) (s_49 (h := h) (oDropSwitch_o11 o) hL2 (supL_ok K.2.2.2.1 hsu) K.2.2.2.2.2.1 (fun b hb => by rw [f2 _ (by omega), f1 _ (by omega), fu _ (by omega)]; exact hT b hb)) (fun v I3 hv => ?_)
  obtain ⟨rfl, hR3, hP3, f3⟩ := hv
  refine w_ic l_162_58 (by decide) ?_
  refine w_isn l_162_59 ⟨Nat.le_of_ble_eq_true rfl, rfl⟩ ?_
  have fa : fr (up I s 13 (I s 12)) I3 (s + 75) (s + 94) := ((f1.mono (by omega) (by omega)).tr (f2.mono (by omega) (by omega))).tr (f3.mono (by omega) (by omega))
  have K3 := (show KB (up I s 13 (I s 12)) s h l a ne np from ⟨K.1.fr fu (Or.inl (by omega)), fun k hk => by rw [fu (s + 30) (by omega) k]; exact K.2.1 k hk, K.2.2⟩).fr fa (by omega)
  refine WP_mono (lp_162 (I0 := I3) o K3 ((hS.fr fu (Or.inl (by omega))).fr fa (Or.inr (by omega))) hsu ne 0 I3 _ (Nat.zero_add _) hR3 hP3 (hL2.fr f3 (Or.inr (by omega))) (fr.rf _ _ _)) ?_
  rintro q m' ⟨v, J, e1, e2, e3, e4, e5⟩
  refine ⟨v, J, e1, e2, e3, e4, ?_, fun y z hy1 hy2 => ?_⟩
  · rw [e5 s (by omega) 13, fa s (by omega) 13, up_eq]
  · rw [e5 y (by omega) z, fa y (by omega) z]
    by_cases hy : y = s
    · rw [hy, up_nj (hy2 hy)]
    · rw [up_no hy]

end CSU
