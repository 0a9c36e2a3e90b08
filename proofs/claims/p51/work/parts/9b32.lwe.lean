/-! the law: packets -/
section LWE
variable {xs : List Int} {Q : Res → Mem → Prop} {S : List (Nat × Nat)} {T : Nat → Nat → Nat} {cc zz ports rules space ne np c w1 w2 w3 iv : Nat} {l : Li} {h : Hi} {a : Nat → Nat} {cd : Nat → Cd} {q y : Nat} {nm : Nat → List Nat} {bf : Nat → Int}
variable {I : Ix} {x9 x10 x12 x13 : Int} {v11 v12 v13 v14 : AV}

theorem d7_344 (hlp : lPorts l = ports ∧ 2 ≤ ports ∧ ports ≤ 4) (hS : SHP np ports w1 w2 w3 S T) (H : LOK2 ports rules space l h a ne np c cd q y nm bf S I T) (R : RUN l h a ne np) (C : CTD l h ne np ports w1 w2 w3 (runA h l noOut ne).2.1.length I) {k : Nat} (hk : k < np) (KK : ∀ v14 : AV, WP xs 344 36 647 [vs 3, vr 0, vr 1, vr 2, vi ((np : Nat) : Int), vi (((runA h l noOut ne).2.1.length : Nat) : Int), vr w1, vr w2, vr w3, vi x9, vi x10, vi ((k : Nat) : Int), vi ((cN (fun p => decide (0 < (runA h l noOut ne).2.2.1 k (p + 1))) ports : Nat) : Int), vi ((ports : Nat) : Int), v14] [] (S, I, T, cc, zz) Q) : ∀ (z p : Nat), p + z = ports → ∀ v14 : AV, WP xs 344 36 583 [vs 3, vr 0, vr 1, vr 2, vi ((np : Nat) : Int), vi (((runA h l noOut ne).2.1.length : Nat) : Int), vr w1, vr w2, vr w3, vi x9, vi x10, vi ((k : Nat) : Int), vi ((cN (fun p => decide (0 < (runA h l noOut ne).2.2.1 k (p + 1))) p : Nat) : Int), vi ((p : Nat) : Int), v14] [] (S, I, T, cc, zz) Q := by
  obtain ⟨hm, L, W⟩ := H
  intro z
  induction z with
  | zero =>
    intro p hz v14
    have e : p = ports := by omega
    refine w_il l_344_583 rfl ?_
    refine w_aln l_344_585 rfl ?_
    refine w_gin ((ports : Nat) : Int) l_344_586 (by decide) hm.s1 hm.pt ?_
    exact w_cge 647 l_344_589 (by decide) (fun _ => by rw [e]; exact KK v14) (fun hx => absurd hx (by omega))
  | succ z ih =>
    intro p hz v14
    refine w_il l_344_583 rfl ?_
    refine w_aln l_344_585 rfl ?_
    refine w_gin ((ports : Nat) : Int) l_344_586 (by decide) hm.s1 hm.pt ?_
    refine w_cge 647 l_344_589 (by decide) (fun hx => absurd hx (by omega)) (fun _ => ?_)
    refine w_aln l_344_592 rfl ?_
    refine w_il l_344_593 rfl ?_
    refine w_il l_344_595 rfl ?_
    refine q_iv [vi ((k : Nat) : Int), vi ((p : Nat) : Int)] [] l_344_597 rfl rfl (Nat.le_of_ble_eq_true rfl) (by rw [mx_120]; exact Nat.le_of_ble_eq_true rfl) (by rw [mt_120]; exact oDropSwitch_sh W.o) (by rw [mt_120]; decide) (by rw [rk_120]; decide) (s_120 W.o W.X.K (k := k) (p := p) hk (by omega)) ?_
    refine w_is l_344_600 ⟨Nat.le_of_ble_eq_true rfl, rfl⟩ ?_
    refine w_il l_344_602 rfl ?_
    refine w_il l_344_604 rfl ?_
    have hb := cN_b (f := fun p => decide (0 < (runA h l noOut ne).2.2.1 k (p + 1))) p
    have hs := cN_s (fun p => decide (0 < (runA h l noOut ne).2.2.1 k (p + 1))) p
    have k617 : WP xs 344 36 617 [vs 3, vr 0, vr 1, vr 2, vi ((np : Nat) : Int), vi (((runA h l noOut ne).2.1.length : Nat) : Int), vr w1, vr w2, vr w3, vi x9, vi x10, vi ((k : Nat) : Int), vi ((cN (fun p => decide (0 < (runA h l noOut ne).2.2.1 k (p + 1))) (p + 1) : Nat) : Int), vi ((p : Nat) : Int), vi (((runA h l noOut ne).2.2.1 k (p + 1) : Nat) : Int)] [] (S, I, T, cc, zz) Q := by
      have hct := cnt_kp R.1 k (p : Int) (by omega)
      rw [show ((p : Int) + 1).toNat = p + 1 by omega] at hct
      refine w_al l_344_617 rfl ?_
      refine w_il l_344_619 rfl ?_
      refine w_aa6 k l_344_621 hS.2.1 rfl hk (hS.2.2.1 _ hk).2 ?_
      refine w_il l_344_622 rfl ?_
      refine w_ia p _ l_344_624 (hS.2.2.1 _ hk).1 rfl (by omega) (C.2.1 k hk p (by omega)) ?_
      refine w_il l_344_625 rfl ?_
      refine w_ic l_344_627 (by decide) ?_
      rw [hct]
      by_cases h3 : (runA h l noOut ne).2.2.1 k (p + 1) = 3
      · rw [if_pos h3]
        refine w_cne 635 l_344_628 (by decide) (fun hx => absurd hx (by omega)) (fun _ => ?_)
        refine w_ic l_344_631 (by decide) ?_
        refine w_go 636 l_344_632 (by decide) ?_
        refine w_ceq 641 l_344_636 (by decide) (fun _ => ?_) (fun hx => absurd rfl hx)
        refine w_inc ((p + 1 : Nat) : Int) l_344_641 rfl rfl (by unfold wr; omega) ?_
        refine w_go 583 l_344_644 (by decide) ?_
        exact ih (p + 1) (by omega) _
      · rw [if_neg h3]
        refine w_cne 635 l_344_628 (by decide) (fun _ => ?_) (fun hx => absurd hx (by omega))
        refine w_ic l_344_635 (by decide) ?_
        refine w_ceq 641 l_344_636 (by decide) (fun _ => ?_) (fun hx => absurd rfl hx)
        refine w_inc ((p + 1 : Nat) : Int) l_344_641 rfl rfl (by unfold wr; omega) ?_
        refine w_go 583 l_344_644 (by decide) ?_
        exact ih (p + 1) (by omega) _
    by_cases h2 : 0 < (runA h l noOut ne).2.2.1 k (p + 1)
    · rw [decide_eq_true h2] at hs
      refine w_zle 613 l_344_606 (by decide) (fun hx => absurd hx (by omega)) (fun _ => ?_)
      refine w_ic l_344_609 (by decide) ?_
      refine w_go 614 l_344_610 (by decide) ?_
      refine w_add ((cN (fun p => decide (0 < (runA h l noOut ne).2.2.1 k (p + 1))) (p + 1) : Nat) : Int) l_344_614 (by rw [hs]; simp only [if_true, if_false, Bool.false_eq_true]; unfold wr; omega) ?_
      refine w_is l_344_615 ⟨Nat.le_of_ble_eq_true rfl, rfl⟩ ?_
      exact k617
    · rw [decide_eq_false h2] at hs
      refine w_zle 613 l_344_606 (by decide) (fun _ => ?_) (fun hx => absurd hx (by omega))
      refine w_ic l_344_613 (by decide) ?_
      refine w_add ((cN (fun p => decide (0 < (runA h l noOut ne).2.2.1 k (p + 1))) (p + 1) : Nat) : Int) l_344_614 (by rw [hs]; simp only [if_true, if_false, Bool.false_eq_true]; unfold wr; omega) ?_
      refine w_is l_344_615 ⟨Nat.le_of_ble_eq_true rfl, rfl⟩ ?_
      exact k617

theorem d8_344 (H : LOK2 ports rules space l h a ne np c cd q y nm bf S I T) (h360 : (runA h l noOut ne).2.1.length ≤ 360) {k : Nat} (KK : WP xs 344 36 737 [vs 3, vr 0, vr 1, vr 2, vi ((np : Nat) : Int), vi (((runA h l noOut ne).2.1.length : Nat) : Int), vr w1, vr w2, vr w3, vi x9, vi x10, vi ((k : Nat) : Int), vi x12, vi ((cntK (isByD 8 ((k : Nat) : Int)) (runA h l noOut ne).2.1 (runA h l noOut ne).2.1.length : Nat) : Int), vi (((runA h l noOut ne).2.1.length : Nat) : Int)] [] (S, I, T, cc, zz) Q) : ∀ (z d : Nat), d + z = (runA h l noOut ne).2.1.length → WP xs 344 36 690 [vs 3, vr 0, vr 1, vr 2, vi ((np : Nat) : Int), vi (((runA h l noOut ne).2.1.length : Nat) : Int), vr w1, vr w2, vr w3, vi x9, vi x10, vi ((k : Nat) : Int), vi x12, vi ((cntK (isByD 8 ((k : Nat) : Int)) (runA h l noOut ne).2.1 d : Nat) : Int), vi ((d : Nat) : Int)] [] (S, I, T, cc, zz) Q := by
  obtain ⟨hm, L, W⟩ := H
  intro z
  induction z with
  | zero =>
    intro d hz
    have e : d = (runA h l noOut ne).2.1.length := by omega
    subst e
    refine w_il l_344_690 rfl ?_
    refine w_il l_344_692 rfl ?_
    exact w_cge 737 l_344_694 (by decide) (fun _ => KK) (fun hx => absurd hx (by omega))
  | succ z ih =>
    intro d hz
    have hd : d < (runA h l noOut ne).2.1.length := by omega
    have hb := cntK_b (f := isByD 8 ((k : Nat) : Int)) (g := (runA h l noOut ne).2.1) d
    refine w_il l_344_690 rfl ?_
    refine w_il l_344_692 rfl ?_
    refine w_cge 737 l_344_694 (by decide) (fun hx => absurd hx (by omega)) (fun _ => ?_)
    refine w_il l_344_697 rfl ?_
    refine w_aln l_344_699 rfl ?_
    refine w_il l_344_700 rfl ?_
    refine w_ic l_344_702 (by decide) ?_
    refine q_iv [vi ((d : Nat) : Int), vi 3] [vi ((cntK (isByD 8 ((k : Nat) : Int)) (runA h l noOut ne).2.1 d : Nat) : Int)] l_344_703 rfl rfl (Nat.le_of_ble_eq_true rfl) (by rw [mx_121]; exact Nat.le_of_ble_eq_true rfl) (by rw [mt_121]; exact oDropSwitch_sh W.o) (by rw [mt_121]; decide) (by rw [rk_121]; decide) (s_121_3 W.o W.X.K hd) ?_
    refine w_bp l_344_706 (by decide) ?_
    by_cases h8 : ((runA h l noOut ne).2.1.getD d dr0).2.2.2.1 = 8
    · refine w_cne 727 l_344_708 (by decide) (fun hx => absurd hx (by omega)) (fun _ => ?_)
      refine w_aln l_344_711 rfl ?_
      refine w_il l_344_712 rfl ?_
      refine w_ic l_344_714 (by decide) ?_
      refine q_iv [vi ((d : Nat) : Int), vi 4] [vi ((cntK (isByD 8 ((k : Nat) : Int)) (runA h l noOut ne).2.1 d : Nat) : Int)] l_344_715 rfl rfl (Nat.le_of_ble_eq_true rfl) (by rw [mx_121]; exact Nat.le_of_ble_eq_true rfl) (by rw [mt_121]; exact oDropSwitch_sh W.o) (by rw [mt_121]; decide) (by rw [rk_121]; decide) (s_121_4 W.o W.X.K hd) ?_
      refine w_il l_344_718 rfl ?_
      by_cases hk4 : ((runA h l noOut ne).2.1.getD d dr0).2.2.2.2 = ((k : Nat) : Int)
      · have hs : cntK (isByD 8 ((k : Nat) : Int)) (runA h l noOut ne).2.1 (d + 1) = cntK (isByD 8 ((k : Nat) : Int)) (runA h l noOut ne).2.1 d + 1 := cntK_t (by unfold isByD; rw [decide_eq_true (by omega), decide_eq_true hk4]; rfl)
        refine w_cne 727 l_344_720 (by decide) (fun hx => absurd hx (by omega)) (fun _ => ?_)
        refine w_ic l_344_723 (by decide) ?_
        refine w_go 728 l_344_724 (by decide) ?_
        refine w_add ((cntK (isByD 8 ((k : Nat) : Int)) (runA h l noOut ne).2.1 (d + 1) : Nat) : Int) l_344_728 (by rw [hs]; unfold wr; omega) ?_
        refine w_is l_344_729 ⟨Nat.le_of_ble_eq_true rfl, rfl⟩ ?_
        refine w_inc ((d + 1 : Nat) : Int) l_344_731 rfl rfl (by unfold wr; omega) ?_
        refine w_go 690 l_344_734 (by decide) ?_
        exact ih (d + 1) (by omega)
      · have hs : cntK (isByD 8 ((k : Nat) : Int)) (runA h l noOut ne).2.1 (d + 1) = cntK (isByD 8 ((k : Nat) : Int)) (runA h l noOut ne).2.1 d := cntK_f (by unfold isByD; rw [decide_eq_false hk4, Bool.and_false])
        refine w_cne 727 l_344_720 (by decide) (fun _ => ?_) (fun hx => absurd hx (by omega))
        refine w_ic l_344_727 (by decide) ?_
        refine w_add ((cntK (isByD 8 ((k : Nat) : Int)) (runA h l noOut ne).2.1 (d + 1) : Nat) : Int) l_344_728 (by rw [hs]; unfold wr; omega) ?_
        refine w_is l_344_729 ⟨Nat.le_of_ble_eq_true rfl, rfl⟩ ?_
        refine w_inc ((d + 1 : Nat) : Int) l_344_731 rfl rfl (by unfold wr; omega) ?_
        refine w_go 690 l_344_734 (by decide) ?_
        exact ih (d + 1) (by omega)
    · have hs : cntK (isByD 8 ((k : Nat) : Int)) (runA h l noOut ne).2.1 (d + 1) = cntK (isByD 8 ((k : Nat) : Int)) (runA h l noOut ne).2.1 d := cntK_f (by unfold isByD; rw [decide_eq_false (by omega), Bool.false_and])
      refine w_cne 727 l_344_708 (by decide) (fun _ => ?_) (fun hx => absurd hx (by omega))
      refine w_ic l_344_727 (by decide) ?_
      refine w_add ((cntK (isByD 8 ((k : Nat) : Int)) (runA h l noOut ne).2.1 (d + 1) : Nat) : Int) l_344_728 (by rw [hs]; unfold wr; omega) ?_
      refine w_is l_344_729 ⟨Nat.le_of_ble_eq_true rfl, rfl⟩ ?_
      refine w_inc ((d + 1 : Nat) : Int) l_344_731 rfl rfl (by unfold wr; omega) ?_
      refine w_go 690 l_344_734 (by decide) ?_
      exact ih (d + 1) (by omega)

theorem d9_344 (hlp : lPorts l = ports ∧ 2 ≤ ports ∧ ports ≤ 4) (hS : SHP np ports w1 w2 w3 S T) (H : LOK2 ports rules space l h a ne np c cd q y nm bf S I T) (R : RUN l h a ne np) (h360 : (runA h l noOut ne).2.1.length ≤ 360) (hnp : np ≤ 120) (C : CTD l h ne np ports w1 w2 w3 (runA h l noOut ne).2.1.length I) (KK : ∀ v12 v13 v14 : AV, WP xs 344 36 756 [vs 3, vr 0, vr 1, vr 2, vi ((np : Nat) : Int), vi (((runA h l noOut ne).2.1.length : Nat) : Int), vr w1, vr w2, vr w3, vi x9, vi x10, vi ((np : Nat) : Int), v12, v13, v14] [] (S, I, T, cc, zz) Q) : ∀ (z k : Nat), k + z = np → ∀ v12 v13 v14 : AV, WP xs 344 36 570 [vs 3, vr 0, vr 1, vr 2, vi ((np : Nat) : Int), vi (((runA h l noOut ne).2.1.length : Nat) : Int), vr w1, vr w2, vr w3, vi x9, vi x10, vi ((k : Nat) : Int), v12, v13, v14] [] (S, I, T, cc, zz) Q := by
  obtain ⟨hm, L, W⟩ := H
  intro z
  induction z with
  | zero =>
    intro k hz v12 v13 v14
    have e : k = np := by omega
    subst e
    refine w_il l_344_570 rfl ?_
    refine w_il l_344_572 rfl ?_
    exact w_cge 756 l_344_574 (by decide) (fun _ => KK v12 v13 v14) (fun hx => absurd hx (by omega))
  | succ z ih =>
    intro k hz v12 v13 v14
    have hk : k < np := by omega
    have H9 : LOK2 ports rules space l h a ne np c cd q y nm bf S I T := ⟨hm, L, W⟩
    refine w_il l_344_570 rfl ?_
    refine w_il l_344_572 rfl ?_
    refine w_cge 756 l_344_574 (by decide) (fun hx => absurd hx (by omega)) (fun _ => ?_)
    refine w_ic l_344_577 (by decide) ?_
    refine w_is l_344_578 ⟨Nat.le_of_ble_eq_true rfl, rfl⟩ ?_
    refine w_ic l_344_580 (by decide) ?_
    refine w_is l_344_581 ⟨Nat.le_of_ble_eq_true rfl, rfl⟩ ?_
    refine d7_344 hlp hS H9 R C hk (fun v14 => ?_) ports 0 (Nat.zero_add _) _
    have hcw := cnt_kp R.1 k (-1) (by decide)
    have hwa := W.X.W.2.2 k hk
    have hpv : I (2 + 21 + 3) (a k) = ((k : Nat) : Int) := by
      have := ((W.X.K.2.2.1.2.2.2.2.1 (a k) hwa.1).2.2.2 hwa.2.1).1
      rw [this, hwa.2.2]
    have k667 : WP xs 344 36 667 [vs 3, vr 0, vr 1, vr 2, vi ((np : Nat) : Int), vi (((runA h l noOut ne).2.1.length : Nat) : Int), vr w1, vr w2, vr w3, vi x9, vi x10, vi ((k : Nat) : Int), vi ((cN (fun p => decide (0 < (runA h l noOut ne).2.2.1 k (p + 1))) ports : Nat) : Int), vi ((ports : Nat) : Int), v14] [] (S, I, T, cc, zz) Q := by
      refine w_aln l_344_667 rfl ?_
      refine w_aln l_344_668 rfl ?_
      refine w_il l_344_669 rfl ?_
      refine q_iv [vi ((k : Nat) : Int)] [vr 2] l_344_671 rfl rfl (Nat.le_of_ble_eq_true rfl) (by rw [mx_111]; exact Nat.le_of_ble_eq_true rfl) (by rw [mt_111]; exact oDropSwitch_sh W.o) (by rw [mt_111]; decide) (by rw [rk_111]; decide) (s_111 W.o W.X.K hk) ?_
      refine q_iv [vi ((a k : Nat) : Int)] [] l_344_674 rfl rfl (Nat.le_of_ble_eq_true rfl) (by rw [mx_110]; exact Nat.le_of_ble_eq_true rfl) (by rw [mt_110]; exact oDropSwitch_sh W.o) (by rw [mt_110]; decide) (by rw [rk_110]; decide) (s_110 W.o W.X.K hwa.1 hpv) ?_
      refine w_il l_344_677 rfl ?_
      refine w_ceq 684 l_344_679 (by decide) (fun _ => ?_) (fun hx => absurd rfl hx)
      refine w_ic l_344_684 (by decide) ?_
      refine w_is l_344_685 ⟨Nat.le_of_ble_eq_true rfl, rfl⟩ ?_
      refine w_ic l_344_687 (by decide) ?_
      refine w_is l_344_688 ⟨Nat.le_of_ble_eq_true rfl, rfl⟩ ?_
      refine d8_344 H9 h360 (k := k) ?_ _ 0 (Nat.zero_add _)
      refine w_aln l_344_737 rfl ?_
      refine w_il l_344_738 rfl ?_
      refine q_iv [vi ((k : Nat) : Int)] [] l_344_740 rfl rfl (Nat.le_of_ble_eq_true rfl) (by rw [mx_125]; exact Nat.le_of_ble_eq_true rfl) (by rw [mt_125]; exact oDropSwitch_sh W.o) (by rw [mt_125]; decide) (by rw [rk_125]; decide) (s_125 W.o W.X.K hk) ?_
      refine w_il l_344_743 rfl ?_
      refine w_ceq 750 l_344_745 (by decide) (fun _ => ?_) (fun hx => absurd rfl hx)
      refine w_inc ((k + 1 : Nat) : Int) l_344_750 rfl rfl (by unfold wr; omega) ?_
      refine w_go 570 l_344_753 (by decide) ?_
      exact ih (k + 1) (by omega) _ _ _
    refine w_al l_344_647 rfl ?_
    refine w_il l_344_649 rfl ?_
    refine w_ia k _ l_344_651 hS.1 rfl hk (C.1 k hk) ?_
    rw [hcw]
    refine w_il l_344_652 rfl ?_
    rw [show ((-1 : Int) + 1).toNat = 0 from rfl]
    rcases R.2.1 k hk with ⟨f1, f2⟩ | ⟨f1, p, f2, f3⟩
    · have h0 : ¬ 0 < cN (fun p => decide (0 < (runA h l noOut ne).2.2.1 k (p + 1))) ports := fun q => by
        obtain ⟨p, g1, g2⟩ := (cN_pos ports).mp q
        have := f2 p (by omega)
        have g3 := of_decide_eq_true g2
        omega
      rw [if_pos f1]
      refine w_zle 661 l_344_654 (by decide) (fun _ => ?_) (fun hx => absurd hx (by omega))
      refine w_ic l_344_661 (by decide) ?_
      refine w_add 1 l_344_662 (by decide) ?_
      refine w_ic l_344_663 (by decide) ?_
      refine w_cne 682 l_344_664 (by decide) (fun hx => absurd rfl hx) (fun _ => k667)
    · have h0 : 0 < cN (fun p => decide (0 < (runA h l noOut ne).2.2.1 k (p + 1))) ports := (cN_pos ports).mpr ⟨p, by omega, decide_eq_true (by omega)⟩
      rw [if_neg (by omega)]
      refine w_zle 661 l_344_654 (by decide) (fun hx => absurd hx (by omega)) (fun _ => ?_)
      refine w_ic l_344_657 (by decide) ?_
      refine w_go 662 l_344_658 (by decide) ?_
      refine w_add 1 l_344_662 (by decide) ?_
      refine w_ic l_344_663 (by decide) ?_
      refine w_cne 682 l_344_664 (by decide) (fun hx => absurd rfl hx) (fun _ => k667)

end LWE
