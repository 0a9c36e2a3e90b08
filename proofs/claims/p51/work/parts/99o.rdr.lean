/-! the class's reader: rules, the whole text -/
theorem bt_or {d r q : Nat} : bt (d ||| 2 ^ r) q ≠ 0 ↔ (bt d q ≠ 0 ∨ q = r) := by
  rw [bt_tb, bt_tb, Nat.testBit_or, Nat.testBit_two_pow, Bool.or_eq_true, decide_eq_true_iff]
  constructor
  · rintro (h | h)
    · exact Or.inl h
    · exact Or.inr h.symm
  · rintro (h | h)
    · exact Or.inl h
    · exact Or.inr h.symm
theorem SU.rule {I J : Ix} {y tot : Nat} {P : Ps} {cs : Cd} {b : Bool} (Z : SU I y P cs tot) (h8 : lRules P.1 < 8) (hw : wfP cs 0) (hl : tot + cs.length ≤ 600) (e : ∀ j z, j ≤ 8 → (j = 0 → z ≠ 2) → (j = 1 → z ≠ 8) → (j = 7 → z ≠ lRules P.1 + 1) → J (y + j) z = I (y + j) z) (v2 : J y 2 = ((lRules P.1 + 1 : Nat) : Int)) (v7 : J (y + 7) (lRules P.1 + 1) = ((tot + cs.length : Nat) : Int))
    (v8 : ∃ d : Nat, J (y + 1) 8 = (d : Int) ∧ d < 256 ∧ ∀ r, r < 8 → (bt d r ≠ 0 ↔ (if r = lRules P.1 then b else lDrop P.1 r) = true)) : SU J y (psRule P b cs) [] (tot + cs.length) := by
  obtain ⟨z1, z2, z3, z4, z5, z6, z7, z8, z9⟩ := Z
  obtain ⟨a1, a2, a3, a4, a5, a6, a7⟩ := z1
  obtain ⟨o1, o2, o3, o4, o5⟩ := z4
  have e0 : ∀ j, j ≤ 8 → 1 < j → j ≠ 7 → ∀ z, J (y + j) z = I (y + j) z := fun j h1 h2 h3 z => e j z h1 (fun q => by omega) (fun q => by omega) (fun q => by omega)
  have e1 : ∀ z, z ≠ 8 → J (y + 1) z = I (y + 1) z := fun z hz => e 1 z (by decide) (fun q => by omega) (fun _ => hz) (fun q => by omega)
  have e7 : ∀ z, z ≠ lRules P.1 + 1 → J (y + 7) z = I (y + 7) z := fun z hz => e 7 z (by decide) (fun q => by omega) (fun q => by omega) (fun _ => hz)
  have hP : lPorts (psRule P b cs).1 = lPorts P.1 := rfl
  have hR : lRules (psRule P b cs).1 = lRules P.1 + 1 := rfl
  have hD : ∀ r, lDrop (psRule P b cs).1 r = if r = lRules P.1 then b else lDrop P.1 r := fun r => rfl
  have hc : ∀ r, (psRule P b cs).2.2 r = if r = lRules P.1 then cs else P.2.2 r := fun r => rfl
  refine ⟨⟨(e1 0 (by decide)).trans a1, fun p hp => ?_, (e1 5 (by decide)).trans a3, (e1 6 (by decide)).trans a4, (e1 7 (by decide)).trans a5, ?_, ?_⟩, ?_, fun p hp => (e0 6 (by decide) (by decide) (by decide) p).trans (z3 p hp), ⟨⟨o1.1, by rw [hR]; omega, o1.2.2⟩, o2, o3, fun r hr => ?_, o5⟩, fun r hr => ?_, ?_, ?_, fun j hj => absurd hj (Nat.not_lt_zero j), fun r hr => ?_⟩
  · rw [show y + 1 + 1 = y + 2 from rfl, show y + 1 + 2 = y + 3 from rfl, show y + 1 + 3 = y + 4 from rfl, show y + 1 + 4 = y + 5 from rfl, e0 2 (by decide) (by decide) (by decide), e0 3 (by decide) (by decide) (by decide), e0 4 (by decide) (by decide) (by decide), e0 5 (by decide) (by decide) (by decide)]
    exact a2 p hp
  · obtain ⟨d, d1, d2, d3⟩ := v8
    exact ⟨d, d1, d2, fun r hr => by rw [hD]; exact d3 r hr⟩
  · rw [e1 9 (by decide)]
    exact a7
  · rw [hR]; exact v2
  · rw [hR] at hr
    rw [hD, if_neg (by omega)]
    exact o4 r (by omega)
  · rw [hR] at hr
    rw [hc]
    by_cases hrr : r = lRules P.1
    · rw [if_pos hrr, hrr]
      refine ⟨hw, tot, (e7 _ (by omega)).trans z6, v7, hl, fun j hj => ⟨(e0 8 (by decide) (by decide) (by decide) _).trans (z8 j hj).1, (z8 j hj).2⟩⟩
    · rw [if_neg hrr]
      obtain ⟨g1, o', g2, g3, g4, g5⟩ := z5 r (by omega)
      exact ⟨g1, o', (e7 _ (by omega)).trans g2, (e7 _ (by omega)).trans g3, g4, fun j hj => ⟨(e0 8 (by decide) (by decide) (by decide) _).trans (g5 j hj).1, (g5 j hj).2⟩⟩
  · rw [hR]; exact v7
  · exact (e 0 5 (by decide) (fun _ => by decide) (fun q => by omega) (fun q => by omega)).trans z7
  · rw [hR] at hr
    by_cases hrr : r = lRules P.1 + 1
    · rw [hrr, v7]; exact Int.le_refl _
    · rw [e7 r hrr]
      have := z9 r (by omega)
      omega
theorem portL_ge {t : Nat → Int} {n : Nat} {P : Ps} {p : Nat} {a : Ps × Nat} (h : portL t n P p = .inr a) : p ≤ a.2 := by
  by_cases h4 : 4 ≤ lPorts P.1
  · unfold portL at h
    rw [if_pos h4] at h
    cases h
  · rw [portL_new h4] at h
    cases h1 : newR t n P (nxt t n p) with
    | inl e => rw [h1] at h; cases h
    | inr a1 =>
      obtain ⟨x, p2⟩ := a1
      rw [h1] at h
      cases h2 : numR t n 1 99 p2 with
      | inl e => simp only [h2] at h; cases h
      | inr a2 =>
        obtain ⟨c, p3⟩ := a2
        simp only [h2] at h
        cases h3 : numR t n 0 9 p3 with
        | inl e => simp only [h3] at h; cases h
        | inr a3 =>
          obtain ⟨sp, p4⟩ := a3
          simp only [h3] at h
          cases h
          have g3 : p4 = nxt t n p3 := (numR_ok h3).2.2.1
          have g2 : p3 = nxt t n p2 := (numR_ok h2).2.2.1
          have g1 : p2 = nxt t n (nxt t n p) := by
            unfold newR at h1
            cases hn : nameR t n (nxt t n p) with
            | inl e => rw [hn] at h1; cases h1
            | inr w =>
              simp only [hn] at h1
              split at h1
              · cases h1
              · cases h1; rfl
          have k1 := nxt_ge (t := t) (n := n) (p := p)
          have k2 := nxt_ge (t := t) (n := n) (p := nxt t n p)
          have k3 := nxt_ge (t := t) (n := n) (p := p2)
          have k4 := nxt_ge (t := t) (n := n) (p := p3)
          show p ≤ p4
          omega
theorem polL_ge {t : Nat → Int} {n : Nat} {P : Ps} {p : Nat} {a : Ps × Nat} (h : polL t n P p = .inr a) : p ≤ a.2 := by
  unfold polL at h
  cases h1 : portR t n P (nxt t n p) with
  | inl e => simp only [h1] at h; cases h
  | inr a1 =>
    obtain ⟨i, p2⟩ := a1
    simp only [h1] at h
    cases h2 : numR t n 0 99 p2 with
    | inl e => simp only [h2] at h; cases h
    | inr a2 =>
      obtain ⟨r, p3⟩ := a2
      simp only [h2] at h
      cases h3 : numR t n 0 99 p3 with
      | inl e => simp only [h3] at h; cases h
      | inr a3 =>
        obtain ⟨b, p4⟩ := a3
        simp only [h3] at h
        cases h
        have g3 : p4 = nxt t n p3 := (numR_ok h3).2.2.1
        have g2 : p3 = nxt t n p2 := (numR_ok h2).2.2.1
        have g1 : p2 = nxt t n (nxt t n p) := (portR_ok h1).2
        have k1 := nxt_ge (t := t) (n := n) (p := p)
        have k2 := nxt_ge (t := t) (n := n) (p := nxt t n p)
        have k3 := nxt_ge (t := t) (n := n) (p := p2)
        have k4 := nxt_ge (t := t) (n := n) (p := p3)
        show p ≤ p4
        omega
theorem limL_ge {t : Nat → Int} {n : Nat} {P : Ps} {p : Nat} {a : Ps × Nat} (h : limL t n P p = .inr a) : p ≤ a.2 := by
  have key : ∀ (g : Ps → Nat → Ps) lo hi, setL t n P g lo hi p = .inr a → p ≤ a.2 := fun g lo hi h => by
    unfold setL at h
    cases h2 : numR t n lo hi (nxt t n p) with
    | inl e => simp only [h2] at h; cases h
    | inr a2 =>
      obtain ⟨v, p2⟩ := a2
      simp only [h2] at h
      cases h
      have g2 : p2 = nxt t n (nxt t n p) := (numR_ok h2).2.2.1
      have k1 := nxt_ge (t := t) (n := n) (p := p)
      have k2 := nxt_ge (t := t) (n := n) (p := nxt t n p)
      show p ≤ p2
      omega
  unfold limL at h
  split at h
  · exact key _ _ _ h
  · split at h
    · exact key _ _ _ h
    · split at h
      · exact key _ _ _ h
      · cases h
section RDR
variable {xs : List Int} {S : List (Nat × Nat)} {T : Nat → Nat → Nat} {cc zz s x y : Nat} {I I' : Ix} {t : Nat → Int} {n : Nat}

theorem mx_71 : mxl 71 = 2 := by decide +kernel
theorem mt_71 : mtc 71 = 6 := by decide +kernel
theorem rk_71 (as : List AV) : rkA 71 as = 0 := rfl
theorem l_71_0 : look 71 0 = some (.aload_n 0, 1, 0, 0, 0, 0) := by decide +kernel
theorem l_71_1 : look 71 1 = some (.getfield 32, 3, 6, 2, 0, 442) := by decide +kernel
theorem l_71_4 : look 71 4 = some (.bipush 8, 2, 0, 0, 0, 0) := by decide +kernel
theorem l_71_6 : look 71 6 = some (.if_icmp .lt 4, 3, 0, 0, 0, 0) := by decide +kernel
theorem l_71_9 : look 71 9 = some (.return_, 1, 0, 0, 0, 0) := by decide +kernel
theorem l_71_10 : look 71 10 = some (.iload_n 1, 1, 0, 0, 0, 0) := by decide +kernel
theorem l_71_11 : look 71 11 = some (.ifCond .eq 21, 3, 0, 0, 0, 0) := by decide +kernel
theorem l_71_14 : look 71 14 = some (.aload_n 0, 1, 0, 0, 0, 0) := by decide +kernel
theorem l_71_15 : look 71 15 = some (.getfield 12, 3, 6, 0, 2, 438) := by decide +kernel
theorem l_71_18 : look 71 18 = some (.dup, 1, 0, 0, 0, 0) := by decide +kernel
theorem l_71_19 : look 71 19 = some (.getfield 54, 3, 1, 8, 0, 405) := by decide +kernel
theorem l_71_22 : look 71 22 = some (.iconst 1, 1, 0, 0, 0, 0) := by decide +kernel
theorem l_71_23 : look 71 23 = some (.aload_n 0, 1, 0, 0, 0, 0) := by decide +kernel
theorem l_71_24 : look 71 24 = some (.getfield 32, 3, 6, 2, 0, 442) := by decide +kernel
theorem l_71_27 : look 71 27 = some (.ishl, 1, 0, 0, 0, 0) := by decide +kernel
theorem l_71_28 : look 71 28 = some (.ior, 1, 0, 0, 0, 0) := by decide +kernel
theorem l_71_29 : look 71 29 = some (.putfield 54, 3, 1, 8, 0, 405) := by decide +kernel
theorem l_71_32 : look 71 32 = some (.aload_n 0, 1, 0, 0, 0, 0) := by decide +kernel
theorem l_71_33 : look 71 33 = some (.dup, 1, 0, 0, 0, 0) := by decide +kernel
theorem l_71_34 : look 71 34 = some (.getfield 32, 3, 6, 2, 0, 442) := by decide +kernel
theorem l_71_37 : look 71 37 = some (.iconst 1, 1, 0, 0, 0, 0) := by decide +kernel
theorem l_71_38 : look 71 38 = some (.iadd, 1, 0, 0, 0, 0) := by decide +kernel
theorem l_71_39 : look 71 39 = some (.putfield 32, 3, 6, 2, 0, 442) := by decide +kernel
theorem l_71_42 : look 71 42 = some (.aload_n 0, 1, 0, 0, 0, 0) := by decide +kernel
theorem l_71_43 : look 71 43 = some (.getfield 22, 3, 6, 3, 2, 445) := by decide +kernel
theorem l_71_46 : look 71 46 = some (.aload_n 0, 1, 0, 0, 0, 0) := by decide +kernel
theorem l_71_47 : look 71 47 = some (.getfield 32, 3, 6, 2, 0, 442) := by decide +kernel
theorem l_71_50 : look 71 50 = some (.aload_n 0, 1, 0, 0, 0, 0) := by decide +kernel
theorem l_71_51 : look 71 51 = some (.getfield 36, 3, 6, 5, 0, 447) := by decide +kernel
theorem l_71_54 : look 71 54 = some (.iastore, 1, 0, 0, 0, 0) := by decide +kernel
theorem l_71_55 : look 71 55 = some (.return_, 1, 0, 0, 0, 0) := by decide +kernel
theorem s_71_1 (os : oSetup S T y) {P : Ps} {cs : Cd} {tot : Nat} (Z : SU I y P cs tot) (h8 : lRules P.1 < 8) (hw : wfP cs 0) (hl : tot + cs.length ≤ 600) : CL xs 71 [vr y, vi 1] (S, I, T, cc, zz) (RP S T cc zz (fun v I' => v = none ∧ SU I' y (psRule P true cs) [] (tot + cs.length) ∧ (∀ z w, z ≠ y → z ≠ y + 1 → z ≠ y + 7 → I' z w = I z w) ∧ I' (y + 7) 0 = I (y + 7) 0)) := by
  refine CL_start (r := 0) (ls := [vr y, vi 1]) (rk_71 _) rfl ?_
  obtain ⟨d9, d1, d2, d3⟩ := Z.1.2.2.2.2.2.1
  refine w_aln l_71_0 rfl ?_
  refine w_gi (((lRules P.1) : Nat) : Int) l_71_1 (oSetup_sh os) Z.2.1 ?_
  refine w_bp l_71_4 (by decide) ?_
  refine w_clt 10 l_71_6 (by decide) (fun _ => ?_) (fun hx => absurd hx (by omega))
  refine w_iln l_71_10 rfl ?_
  refine w_zeq 32 l_71_11 (by decide) (fun hx => absurd hx (by decide)) (fun _ => ?_)
  refine w_aln l_71_14 rfl ?_
  refine w_gr l_71_15 (oSetup_sh os) (oSetup_r0 os) ?_
  refine w_dup l_71_18 rfl ?_
  refine w_gi ((d9 : Nat) : Int) l_71_19 (oLimits_sh (oSetup_o0 os)) d1 ?_
  refine w_ic l_71_22 (by decide) ?_
  refine w_aln l_71_23 rfl ?_
  refine w_gi (((lRules P.1) : Nat) : Int) l_71_24 (oSetup_sh os) Z.2.1 ?_
  refine w_shl (((2 ^ lRules P.1) : Nat) : Int) l_71_27 (shl1 _ (by omega)) ?_
  refine w_or (((d9 ||| 2 ^ lRules P.1) : Nat) : Int) l_71_28 (or_nn (by omega) (Nat.lt_of_lt_of_le (Nat.pow_lt_pow_right (by decide) h8 : 2 ^ lRules P.1 < 2 ^ 8) (by decide))) ?_
  refine w_pi l_71_29 (oLimits_sh (oSetup_o0 os)) ?_
  refine w_aln l_71_32 rfl ?_
  refine w_dup l_71_33 rfl ?_
  refine w_gi (((lRules P.1) : Nat) : Int) l_71_34 (oSetup_sh os) ((up_no (by omega)).trans (Z.2.1)) ?_
  refine w_ic l_71_37 (by decide) ?_
  refine w_add (((lRules P.1 + 1) : Nat) : Int) l_71_38 (by unfold wr; omega) ?_
  refine w_pi l_71_39 (oSetup_sh os) ?_
  refine w_aln l_71_42 rfl ?_
  refine w_gr l_71_43 (oSetup_sh os) (oSetup_r3 os) ?_
  refine w_aln l_71_46 rfl ?_
  refine w_gi (((lRules P.1 + 1) : Nat) : Int) l_71_47 (oSetup_sh os) up_eq ?_
  refine w_aln l_71_50 rfl ?_
  refine w_gi (((tot + cs.length) : Nat) : Int) l_71_51 (oSetup_sh os) ((up_nj (by omega)).trans ((up_no (by omega)).trans (Z.2.2.2.2.2.2.1))) ?_
  refine w_iS (lRules P.1 + 1) l_71_54 (oSetup_s3 os) rfl (by omega) ?_
  refine w_vr l_71_55 ?_
  refine ⟨_, _, rfl, rfl, rfl, Z.rule (b := true) h8 hw hl (fun j z hj h2 h3 h4 => ?_) ?_ ?_ ?_, fun z w h2 h3 h4 => ?_, ?_⟩
  · repeat (rw [up_out (by omega)])
  · repeat (first | exact up_eq | rw [up_no (by omega)])
  · exact up_eq
  · refine ⟨d9 ||| 2 ^ lRules P.1, ?_, Nat.or_lt_two_pow (n := 8) d2 (Nat.pow_lt_pow_right (by decide) h8), fun r hr => ?_⟩
    · repeat (first | exact up_eq | rw [up_no (by omega)])
    · rw [bt_or]
      by_cases hrr : r = lRules P.1
      · rw [if_pos hrr]
        exact ⟨fun _ => rfl, fun _ => Or.inr hrr⟩
      · rw [if_neg hrr, ← d3 r hr]
        exact ⟨fun h => h.resolve_right hrr, Or.inl⟩
  · repeat (rw [up_no (by omega)])
  · repeat (rw [up_out (by omega)])

theorem s_71_0 (os : oSetup S T y) {P : Ps} {cs : Cd} {tot : Nat} (Z : SU I y P cs tot) (h8 : lRules P.1 < 8) (hw : wfP cs 0) (hl : tot + cs.length ≤ 600) : CL xs 71 [vr y, vi 0] (S, I, T, cc, zz) (RP S T cc zz (fun v I' => v = none ∧ SU I' y (psRule P false cs) [] (tot + cs.length) ∧ (∀ z w, z ≠ y → z ≠ y + 1 → z ≠ y + 7 → I' z w = I z w) ∧ I' (y + 7) 0 = I (y + 7) 0)) := by
  refine CL_start (r := 0) (ls := [vr y, vi 0]) (rk_71 _) rfl ?_
  obtain ⟨d9, d1, d2, d3⟩ := Z.1.2.2.2.2.2.1
  refine w_aln l_71_0 rfl ?_
  refine w_gi (((lRules P.1) : Nat) : Int) l_71_1 (oSetup_sh os) Z.2.1 ?_
  refine w_bp l_71_4 (by decide) ?_
  refine w_clt 10 l_71_6 (by decide) (fun _ => ?_) (fun hx => absurd hx (by omega))
  refine w_iln l_71_10 rfl ?_
  refine w_zeq 32 l_71_11 (by decide) (fun _ => ?_) (fun hx => absurd hx (by decide))
  refine w_aln l_71_32 rfl ?_
  refine w_dup l_71_33 rfl ?_
  refine w_gi (((lRules P.1) : Nat) : Int) l_71_34 (oSetup_sh os) Z.2.1 ?_
  refine w_ic l_71_37 (by decide) ?_
  refine w_add (((lRules P.1 + 1) : Nat) : Int) l_71_38 (by unfold wr; omega) ?_
  refine w_pi l_71_39 (oSetup_sh os) ?_
  refine w_aln l_71_42 rfl ?_
  refine w_gr l_71_43 (oSetup_sh os) (oSetup_r3 os) ?_
  refine w_aln l_71_46 rfl ?_
  refine w_gi (((lRules P.1 + 1) : Nat) : Int) l_71_47 (oSetup_sh os) up_eq ?_
  refine w_aln l_71_50 rfl ?_
  refine w_gi (((tot + cs.length) : Nat) : Int) l_71_51 (oSetup_sh os) ((up_nj (by omega)).trans (Z.2.2.2.2.2.2.1)) ?_
  refine w_iS (lRules P.1 + 1) l_71_54 (oSetup_s3 os) rfl (by omega) ?_
  refine w_vr l_71_55 ?_
  refine ⟨_, _, rfl, rfl, rfl, Z.rule (b := false) h8 hw hl (fun j z hj h2 h3 h4 => ?_) ?_ ?_ ?_, fun z w h2 h3 h4 => ?_, ?_⟩
  · repeat (rw [up_out (by omega)])
  · repeat (first | exact up_eq | rw [up_no (by omega)])
  · exact up_eq
  · refine ⟨d9, ?_, d2, fun r hr => ?_⟩
    · repeat (first | exact d1 | rw [up_no (by omega)])
    · by_cases hrr : r = lRules P.1
      · rw [if_pos hrr, d3 r hr, hrr, Z.2.2.2.1.2.2.2.1 _ (Nat.le_refl _)]
      · rw [if_neg hrr, ← d3 r hr]
  · repeat (rw [up_no (by omega)])
  · repeat (rw [up_out (by omega)])

theorem mx_42 : mxl 42 = 2 := by decide +kernel
theorem mt_42 : mtc 42 = 4 := by decide +kernel
theorem rk_42 (as : List AV) : rkA 42 as = 31 := rfl
theorem l_42_0 : look 42 0 = some (.aload_n 0, 1, 0, 0, 0, 0) := by decide +kernel
theorem l_42_1 : look 42 1 = some (.getfield 12, 3, 4, 0, 2, 461) := by decide +kernel
theorem l_42_4 : look 42 4 = some (.getfield 152, 3, 6, 2, 0, 444) := by decide +kernel
theorem l_42_7 : look 42 7 = some (.bipush 8, 2, 0, 0, 0, 0) := by decide +kernel
theorem l_42_9 : look 42 9 = some (.if_icmp .lt 9, 3, 0, 0, 0, 0) := by decide +kernel
theorem l_42_12 : look 42 12 = some (.aload_n 0, 1, 0, 0, 0, 0) := by decide +kernel
theorem l_42_13 : look 42 13 = some (.iconst 4, 1, 0, 0, 0, 0) := by decide +kernel
theorem l_42_14 : look 42 14 = some (.invokevirtual 94, 3, 33, 2, 0, 1066) := by decide +kernel
theorem l_42_17 : look 42 17 = some (.ireturn, 1, 0, 0, 1, 0) := by decide +kernel
theorem l_42_18 : look 42 18 = some (.aload_n 0, 1, 0, 0, 0, 0) := by decide +kernel
theorem l_42_19 : look 42 19 = some (.ldc 67, 2, 3, 0, 0, 1092) := by decide +kernel
theorem l_42_21 : look 42 21 = some (.invokevirtual 52, 3, 34, 2, 0, 1056) := by decide +kernel
theorem l_42_24 : look 42 24 = some (.istore_n 1, 1, 0, 0, 0, 0) := by decide +kernel
theorem l_42_25 : look 42 25 = some (.aload_n 0, 1, 0, 0, 0, 0) := by decide +kernel
theorem l_42_26 : look 42 26 = some (.invokevirtual 44, 3, 32, 1, 0, 1051) := by decide +kernel
theorem l_42_29 : look 42 29 = some (.aload_n 0, 1, 0, 0, 0, 0) := by decide +kernel
theorem l_42_30 : look 42 30 = some (.ldc 155, 2, 4, 0, 0, 1097) := by decide +kernel
theorem l_42_32 : look 42 32 = some (.invokevirtual 52, 3, 34, 2, 0, 1056) := by decide +kernel
theorem l_42_35 : look 42 35 = some (.ifCond .ne 9, 3, 0, 0, 0, 0) := by decide +kernel
theorem l_42_38 : look 42 38 = some (.aload_n 0, 1, 0, 0, 0, 0) := by decide +kernel
theorem l_42_39 : look 42 39 = some (.iconst 1, 1, 0, 0, 0, 0) := by decide +kernel
theorem l_42_40 : look 42 40 = some (.invokevirtual 94, 3, 33, 2, 0, 1066) := by decide +kernel
theorem l_42_43 : look 42 43 = some (.ireturn, 1, 0, 0, 1, 0) := by decide +kernel
theorem l_42_44 : look 42 44 = some (.aload_n 0, 1, 0, 0, 0, 0) := by decide +kernel
theorem l_42_45 : look 42 45 = some (.invokevirtual 44, 3, 32, 1, 0, 1051) := by decide +kernel
theorem l_42_48 : look 42 48 = some (.aload_n 0, 1, 0, 0, 0, 0) := by decide +kernel
theorem l_42_49 : look 42 49 = some (.iconst 0, 1, 0, 0, 0, 0) := by decide +kernel
theorem l_42_50 : look 42 50 = some (.invokevirtual 157, 3, 43, 2, 0, 1098) := by decide +kernel
theorem l_42_53 : look 42 53 = some (.ifCond .ne 5, 3, 0, 0, 0, 0) := by decide +kernel
theorem l_42_56 : look 42 56 = some (.iconst 0, 1, 0, 0, 0, 0) := by decide +kernel
theorem l_42_57 : look 42 57 = some (.ireturn, 1, 0, 0, 1, 0) := by decide +kernel
theorem l_42_58 : look 42 58 = some (.aload_n 0, 1, 0, 0, 0, 0) := by decide +kernel
theorem l_42_59 : look 42 59 = some (.getfield 12, 3, 4, 0, 2, 461) := by decide +kernel
theorem l_42_62 : look 42 62 = some (.iload_n 1, 1, 0, 0, 0, 0) := by decide +kernel
theorem l_42_63 : look 42 63 = some (.invokevirtual 160, 3, 71, 2, 0, 1138) := by decide +kernel
theorem l_42_66 : look 42 66 = some (.iconst 1, 1, 0, 0, 0, 0) := by decide +kernel
theorem l_42_67 : look 42 67 = some (.ireturn, 1, 0, 0, 1, 0) := by decide +kernel
theorem s_42 (o : oReader S T s x y) (hsy : s < y) (hxy : x < y) {P : Ps} {tot : Nat} {p : Nat} (H : RT I s x t n p) (Z : SU I y P [] tot) (hb : 2 * tot ≤ p) : CL xs 42 [vr s] (S, I, T, cc, zz) (RP S T cc zz (fun v I' => fR I I' s y ∧ RO I s v I' (rulL' t n P (isWL t n (strB 3) p) p) (fun a => rTk I' s t n a.2 ∧ ∃ tot', SU I' y a.1 [] tot' ∧ 2 * tot' ≤ a.2))) := by
  have hpn := H.2.2.2.2
  have h600 := H.1.2.1
  have h4 := Z.2.2.2.1.1.1
  by_cases h8 : 8 ≤ lRules P.1
  · skip
    refine CL_start (r := 31) (ls := [vr s, vs 2]) (rk_42 _) rfl ?_
    refine w_aln l_42_0 rfl ?_
    refine w_gr l_42_1 (oReader_sh o) (oReader_r0 o) ?_
    refine w_gi (((lRules P.1) : Nat) : Int) l_42_4 (oSetup_sh (oReader_o0 o)) Z.2.1 ?_
    refine w_bp l_42_7 (by decide) ?_
    refine w_clt 18 l_42_9 (by decide) (fun hx => absurd hx (by omega)) (fun _ => ?_)
    refine w_aln l_42_12 rfl ?_
    refine w_ic l_42_13 (by decide) ?_
    refine q_iv [vi 4] [] l_42_14 rfl rfl (Nat.le_of_ble_eq_true rfl) (by rw [mx_33]; exact Nat.le_of_ble_eq_true rfl) (by rw [mt_33]; exact oReader_sh o) (by rw [mt_33]; decide) (by rw [rk_33]; decide) (s_33 (k := 4) o H.2.2.1) ?_
    refine w_ir l_42_17 (by decide) ?_
    have hR9 : rulL' t n P (isWL t n (strB 3) p) p = .inl (4, p) := by
      unfold rulL'
      rw [if_pos h8]
    exact ⟨_, _, rfl, rfl, (((fS.rf I s).up (by decide)).up (by decide)).R y, by rw [hR9]; exact ⟨rfl, (up_nj (by decide)).trans up_eq, up_eq⟩⟩
  have hng1 := nxt_ge (t := t) (n := n) (p := p)
  have hnl1 := nxt_le (t := t) hpn
  have hng2 := nxt_ge (t := t) (n := n) (p := nxt t n p)
  have hnl2 := nxt_le (t := t) hnl1
  rcases Bool.eq_false_or_eq_true (isWL t n (strB 4) (nxt t n p)) with hwi | hwi
  · cases hf1 : condR t n (atomR t n P 5) (nxt t n (nxt t n p)) with
    | inl e9 =>
      refine CL_start (r := 31) (ls := [vr s, vs 2]) (rk_42 _) rfl ?_
      refine w_aln l_42_0 rfl ?_
      refine w_gr l_42_1 (oReader_sh o) (oReader_r0 o) ?_
      refine w_gi (((lRules P.1) : Nat) : Int) l_42_4 (oSetup_sh (oReader_o0 o)) Z.2.1 ?_
      refine w_bp l_42_7 (by decide) ?_
      refine w_clt 18 l_42_9 (by decide) (fun _ => ?_) (fun hx => absurd hx (by omega))
      refine w_aln l_42_18 rfl ?_
      refine w_ldc l_42_19 (by decide) ?_
      refine q_iv [vs (2 * 3 + 4)] [] l_42_21 rfl rfl (Nat.le_of_ble_eq_true rfl) (by rw [mx_34]; exact Nat.le_of_ble_eq_true rfl) (by rw [mt_34]; exact oReader_sh o) (by rw [mt_34]; decide) (by rw [rk_34]; decide) (s_34 o H (q := 3) (by decide)) ?_
      refine w_isn l_42_24 ⟨Nat.le_of_ble_eq_true rfl, rfl⟩ ?_
      refine w_aln l_42_25 rfl ?_
      refine p_iv [] [] l_42_26 rfl rfl (Nat.le_of_ble_eq_true rfl) (by rw [mx_32]; exact Nat.le_of_ble_eq_true rfl) (by rw [mt_32]; exact oReader_sh o) (by rw [mt_32]; decide) (by rw [rk_32]; decide) (s_32 o H.1 (tEnd_le H.2.2.2.2) H.2.1) (fun v I1 hv => ?_)
      obtain ⟨rfl, hk1, f1⟩ := hv
      have H1 : RT I1 s x t n (nxt t n p) := ⟨H.1.fS (oReader_ne o) f1.S, hk1⟩
      have Z1 := Z.fS hsy f1.S
      have F1 := (fR.rf I s y).tr (f1.S.R y)
      have B1 : I1 s 1 = I s 1 ∧ I1 s 2 = I s 2 := ⟨(f1 s 1 (fun _ => by decide)), (f1 s 2 (fun _ => by decide))⟩
      refine w_aln l_42_29 rfl ?_
      refine w_ldc l_42_30 (by decide) ?_
      refine q_iv [vs (2 * 4 + 4)] [] l_42_32 rfl rfl (Nat.le_of_ble_eq_true rfl) (by rw [mx_34]; exact Nat.le_of_ble_eq_true rfl) (by rw [mt_34]; exact oReader_sh o) (by rw [mt_34]; decide) (by rw [rk_34]; decide) (s_34 o H1 (q := 4) (by decide)) ?_
      refine w_bne 44 l_42_35 (by decide) (fun _ => ?_) (fun hx => absurd hx (by rw [hwi]; decide))
      refine w_aln l_42_44 rfl ?_
      refine p_iv [] [] l_42_45 rfl rfl (Nat.le_of_ble_eq_true rfl) (by rw [mx_32]; exact Nat.le_of_ble_eq_true rfl) (by rw [mt_32]; exact oReader_sh o) (by rw [mt_32]; decide) (by rw [rk_32]; decide) (s_32 o H1.1 (tEnd_le H1.2.2.2.2) H1.2.1) (fun v I2 hv => ?_)
      obtain ⟨rfl, hk2, f2⟩ := hv
      have H2 : RT I2 s x t n (nxt t n (nxt t n p)) := ⟨H1.1.fS (oReader_ne o) f2.S, hk2⟩
      have Z2 := Z1.fS hsy f2.S
      have F2 := F1.tr (f2.S.R y)
      have B2 : I2 s 1 = I s 1 ∧ I2 s 2 = I s 2 := ⟨(f2 s 1 (fun _ => by decide)).trans B1.1, (f2 s 2 (fun _ => by decide)).trans B1.2⟩
      refine w_aln l_42_48 rfl ?_
      refine w_ic l_42_49 (by decide) ?_
      refine p_iv [vi 0] [] l_42_50 rfl rfl (Nat.le_of_ble_eq_true rfl) (by rw [mx_43]; exact Nat.le_of_ble_eq_true rfl) (by rw [mt_43]; exact oReader_sh o) (by rw [mt_43]; decide) (show rkA 43 [vr s, vi ((0 : Nat) : Int)] < 31 by rw [rk_43 (by decide)]; decide) (by have g9 := a_cond (xs := xs) (cc := cc) (zz := zz) (t := t) (n := n) o hsy hxy (tot := tot) Z2.2.2.2.1.1.1 I2 (nxt t n (nxt t n p)) [] H2 Z2 (by show 2 * tot + 0 ≤ _; omega); rw [hf1] at g9; exact g9) (fun v I3 hv => ?_)
      obtain ⟨f3, rfl, e1, e2⟩ := hv
      have F3 := F2.tr f3
      refine w_zne 58 l_42_53 (by decide) (fun hx => absurd hx (by decide)) (fun _ => ?_)
      refine w_ic l_42_56 (by decide) ?_
      refine w_ir l_42_57 (by decide) ?_
      have hR9 : rulL' t n P (isWL t n (strB 3) p) p = .inl e9 := by
        unfold rulL'
        rw [if_neg (by omega), if_pos hwi, hf1]
      exact ⟨_, _, rfl, rfl, F3, by rw [hR9]; exact ⟨rfl, e1, e2⟩⟩
    | inr a9 =>
      obtain ⟨p2, cs⟩ := a9
      have hok := cond_ok (atom_ok h4 5) _ hnl2 _ hf1
      have hok1 : nxt t n (nxt t n p) + 2 * cs.length ≤ p2 := hok.1
      have hok2 : p2 ≤ n := hok.2.1
      have hwf : wfP cs 0 := by
        have h1 := hok.2.2.1 0 (by decide) [] (show (0 + 1 : Nat) = 1 from rfl)
        rw [List.append_nil] at h1
        exact h1
      rcases Bool.eq_false_or_eq_true (isWL t n (strB 3) p) with hwd | hwd
      · skip
        refine CL_start (r := 31) (ls := [vr s, vs 2]) (rk_42 _) rfl ?_
        refine w_aln l_42_0 rfl ?_
        refine w_gr l_42_1 (oReader_sh o) (oReader_r0 o) ?_
        refine w_gi (((lRules P.1) : Nat) : Int) l_42_4 (oSetup_sh (oReader_o0 o)) Z.2.1 ?_
        refine w_bp l_42_7 (by decide) ?_
        refine w_clt 18 l_42_9 (by decide) (fun _ => ?_) (fun hx => absurd hx (by omega))
        refine w_aln l_42_18 rfl ?_
        refine w_ldc l_42_19 (by decide) ?_
        refine q_iv [vs (2 * 3 + 4)] [] l_42_21 rfl rfl (Nat.le_of_ble_eq_true rfl) (by rw [mx_34]; exact Nat.le_of_ble_eq_true rfl) (by rw [mt_34]; exact oReader_sh o) (by rw [mt_34]; decide) (by rw [rk_34]; decide) (by have g9 := s_34 (xs := xs) (cc := cc) (zz := zz) o H (q := 3) (by decide); rw [hwd] at g9; exact g9) ?_
        refine w_isn l_42_24 ⟨Nat.le_of_ble_eq_true rfl, rfl⟩ ?_
        refine w_aln l_42_25 rfl ?_
        refine p_iv [] [] l_42_26 rfl rfl (Nat.le_of_ble_eq_true rfl) (by rw [mx_32]; exact Nat.le_of_ble_eq_true rfl) (by rw [mt_32]; exact oReader_sh o) (by rw [mt_32]; decide) (by rw [rk_32]; decide) (s_32 o H.1 (tEnd_le H.2.2.2.2) H.2.1) (fun v I1 hv => ?_)
        obtain ⟨rfl, hk1, f1⟩ := hv
        have H1 : RT I1 s x t n (nxt t n p) := ⟨H.1.fS (oReader_ne o) f1.S, hk1⟩
        have Z1 := Z.fS hsy f1.S
        have F1 := (fR.rf I s y).tr (f1.S.R y)
        have B1 : I1 s 1 = I s 1 ∧ I1 s 2 = I s 2 := ⟨(f1 s 1 (fun _ => by decide)), (f1 s 2 (fun _ => by decide))⟩
        refine w_aln l_42_29 rfl ?_
        refine w_ldc l_42_30 (by decide) ?_
        refine q_iv [vs (2 * 4 + 4)] [] l_42_32 rfl rfl (Nat.le_of_ble_eq_true rfl) (by rw [mx_34]; exact Nat.le_of_ble_eq_true rfl) (by rw [mt_34]; exact oReader_sh o) (by rw [mt_34]; decide) (by rw [rk_34]; decide) (s_34 o H1 (q := 4) (by decide)) ?_
        refine w_bne 44 l_42_35 (by decide) (fun _ => ?_) (fun hx => absurd hx (by rw [hwi]; decide))
        refine w_aln l_42_44 rfl ?_
        refine p_iv [] [] l_42_45 rfl rfl (Nat.le_of_ble_eq_true rfl) (by rw [mx_32]; exact Nat.le_of_ble_eq_true rfl) (by rw [mt_32]; exact oReader_sh o) (by rw [mt_32]; decide) (by rw [rk_32]; decide) (s_32 o H1.1 (tEnd_le H1.2.2.2.2) H1.2.1) (fun v I2 hv => ?_)
        obtain ⟨rfl, hk2, f2⟩ := hv
        have H2 : RT I2 s x t n (nxt t n (nxt t n p)) := ⟨H1.1.fS (oReader_ne o) f2.S, hk2⟩
        have Z2 := Z1.fS hsy f2.S
        have F2 := F1.tr (f2.S.R y)
        have B2 : I2 s 1 = I s 1 ∧ I2 s 2 = I s 2 := ⟨(f2 s 1 (fun _ => by decide)).trans B1.1, (f2 s 2 (fun _ => by decide)).trans B1.2⟩
        refine w_aln l_42_48 rfl ?_
        refine w_ic l_42_49 (by decide) ?_
        refine p_iv [vi 0] [] l_42_50 rfl rfl (Nat.le_of_ble_eq_true rfl) (by rw [mx_43]; exact Nat.le_of_ble_eq_true rfl) (by rw [mt_43]; exact oReader_sh o) (by rw [mt_43]; decide) (show rkA 43 [vr s, vi ((0 : Nat) : Int)] < 31 by rw [rk_43 (by decide)]; decide) (by have g9 := a_cond (xs := xs) (cc := cc) (zz := zz) (t := t) (n := n) o hsy hxy (tot := tot) Z2.2.2.2.1.1.1 I2 (nxt t n (nxt t n p)) [] H2 Z2 (by show 2 * tot + 0 ≤ _; omega); rw [hf1] at g9; exact g9) (fun v I3 hv => ?_)
        obtain ⟨f3, rfl, b3, hk3, Z3⟩ := hv
        have F3 := F2.tr f3
        have Z3 : SU I3 y P cs tot := Z3
        have hk3 : rTk I3 s t n p2 := hk3
        refine w_zne 58 l_42_53 (by decide) (fun _ => ?_) (fun hx => absurd hx (by decide))
        refine w_aln l_42_58 rfl ?_
        refine w_gr l_42_59 (oReader_sh o) (oReader_r0 o) ?_
        refine w_iln l_42_62 rfl ?_
        refine p_iv [vi 1] [] l_42_63 rfl rfl (Nat.le_of_ble_eq_true rfl) (by rw [mx_71]; exact Nat.le_of_ble_eq_true rfl) (by rw [mt_71]; exact oSetup_sh (oReader_o0 o)) (by rw [mt_71]; decide) (by rw [rk_71]; decide) (s_71_1 (oReader_o0 o) Z3 (by omega) hwf (by omega)) (fun v I9 hv => ?_)
        obtain ⟨rfl, Z9, f9, e70⟩ := hv
        refine w_ic l_42_66 (by decide) ?_
        refine w_ir l_42_67 (by decide) ?_
        have hR9 : rulL' t n P (isWL t n (strB 3) p) p = .inr (psRule P true cs, p2) := by
          unfold rulL'
          rw [if_neg (by omega), if_pos hwi, hf1, hwd]
        exact ⟨_, _, rfl, rfl, F3.tr (fun z w h1 h2 => by
          by_cases hz : z = y + 7
          · have hw0 : w = 0 := by omega
            rw [hz, hw0]; exact e70
          · exact f9 z w (by omega) (by omega) hz), by rw [hR9]; exact ⟨rfl, ⟨(f9 s 1 (by omega) (by omega) (by omega)).trans (b3.1.trans B2.1), (f9 s 2 (by omega) (by omega) (by omega)).trans (b3.2.trans B2.2)⟩, ⟨(f9 s 5 (by omega) (by omega) (by omega)).trans hk3.1, (f9 s 6 (by omega) (by omega) (by omega)).trans hk3.2.1, (f9 s 7 (by omega) (by omega) (by omega)).trans hk3.2.2.1, hk3.2.2.2⟩, _, Z9, by show 2 * (tot + cs.length) ≤ p2; omega⟩⟩
      · skip
        refine CL_start (r := 31) (ls := [vr s, vs 2]) (rk_42 _) rfl ?_
        refine w_aln l_42_0 rfl ?_
        refine w_gr l_42_1 (oReader_sh o) (oReader_r0 o) ?_
        refine w_gi (((lRules P.1) : Nat) : Int) l_42_4 (oSetup_sh (oReader_o0 o)) Z.2.1 ?_
        refine w_bp l_42_7 (by decide) ?_
        refine w_clt 18 l_42_9 (by decide) (fun _ => ?_) (fun hx => absurd hx (by omega))
        refine w_aln l_42_18 rfl ?_
        refine w_ldc l_42_19 (by decide) ?_
        refine q_iv [vs (2 * 3 + 4)] [] l_42_21 rfl rfl (Nat.le_of_ble_eq_true rfl) (by rw [mx_34]; exact Nat.le_of_ble_eq_true rfl) (by rw [mt_34]; exact oReader_sh o) (by rw [mt_34]; decide) (by rw [rk_34]; decide) (by have g9 := s_34 (xs := xs) (cc := cc) (zz := zz) o H (q := 3) (by decide); rw [hwd] at g9; exact g9) ?_
        refine w_isn l_42_24 ⟨Nat.le_of_ble_eq_true rfl, rfl⟩ ?_
        refine w_aln l_42_25 rfl ?_
        refine p_iv [] [] l_42_26 rfl rfl (Nat.le_of_ble_eq_true rfl) (by rw [mx_32]; exact Nat.le_of_ble_eq_true rfl) (by rw [mt_32]; exact oReader_sh o) (by rw [mt_32]; decide) (by rw [rk_32]; decide) (s_32 o H.1 (tEnd_le H.2.2.2.2) H.2.1) (fun v I1 hv => ?_)
        obtain ⟨rfl, hk1, f1⟩ := hv
        have H1 : RT I1 s x t n (nxt t n p) := ⟨H.1.fS (oReader_ne o) f1.S, hk1⟩
        have Z1 := Z.fS hsy f1.S
        have F1 := (fR.rf I s y).tr (f1.S.R y)
        have B1 : I1 s 1 = I s 1 ∧ I1 s 2 = I s 2 := ⟨(f1 s 1 (fun _ => by decide)), (f1 s 2 (fun _ => by decide))⟩
        refine w_aln l_42_29 rfl ?_
        refine w_ldc l_42_30 (by decide) ?_
        refine q_iv [vs (2 * 4 + 4)] [] l_42_32 rfl rfl (Nat.le_of_ble_eq_true rfl) (by rw [mx_34]; exact Nat.le_of_ble_eq_true rfl) (by rw [mt_34]; exact oReader_sh o) (by rw [mt_34]; decide) (by rw [rk_34]; decide) (s_34 o H1 (q := 4) (by decide)) ?_
        refine w_bne 44 l_42_35 (by decide) (fun _ => ?_) (fun hx => absurd hx (by rw [hwi]; decide))
        refine w_aln l_42_44 rfl ?_
        refine p_iv [] [] l_42_45 rfl rfl (Nat.le_of_ble_eq_true rfl) (by rw [mx_32]; exact Nat.le_of_ble_eq_true rfl) (by rw [mt_32]; exact oReader_sh o) (by rw [mt_32]; decide) (by rw [rk_32]; decide) (s_32 o H1.1 (tEnd_le H1.2.2.2.2) H1.2.1) (fun v I2 hv => ?_)
        obtain ⟨rfl, hk2, f2⟩ := hv
        have H2 : RT I2 s x t n (nxt t n (nxt t n p)) := ⟨H1.1.fS (oReader_ne o) f2.S, hk2⟩
        have Z2 := Z1.fS hsy f2.S
        have F2 := F1.tr (f2.S.R y)
        have B2 : I2 s 1 = I s 1 ∧ I2 s 2 = I s 2 := ⟨(f2 s 1 (fun _ => by decide)).trans B1.1, (f2 s 2 (fun _ => by decide)).trans B1.2⟩
        refine w_aln l_42_48 rfl ?_
        refine w_ic l_42_49 (by decide) ?_
        refine p_iv [vi 0] [] l_42_50 rfl rfl (Nat.le_of_ble_eq_true rfl) (by rw [mx_43]; exact Nat.le_of_ble_eq_true rfl) (by rw [mt_43]; exact oReader_sh o) (by rw [mt_43]; decide) (show rkA 43 [vr s, vi ((0 : Nat) : Int)] < 31 by rw [rk_43 (by decide)]; decide) (by have g9 := a_cond (xs := xs) (cc := cc) (zz := zz) (t := t) (n := n) o hsy hxy (tot := tot) Z2.2.2.2.1.1.1 I2 (nxt t n (nxt t n p)) [] H2 Z2 (by show 2 * tot + 0 ≤ _; omega); rw [hf1] at g9; exact g9) (fun v I3 hv => ?_)
        obtain ⟨f3, rfl, b3, hk3, Z3⟩ := hv
        have F3 := F2.tr f3
        have Z3 : SU I3 y P cs tot := Z3
        have hk3 : rTk I3 s t n p2 := hk3
        refine w_zne 58 l_42_53 (by decide) (fun _ => ?_) (fun hx => absurd hx (by decide))
        refine w_aln l_42_58 rfl ?_
        refine w_gr l_42_59 (oReader_sh o) (oReader_r0 o) ?_
        refine w_iln l_42_62 rfl ?_
        refine p_iv [vi 0] [] l_42_63 rfl rfl (Nat.le_of_ble_eq_true rfl) (by rw [mx_71]; exact Nat.le_of_ble_eq_true rfl) (by rw [mt_71]; exact oSetup_sh (oReader_o0 o)) (by rw [mt_71]; decide) (by rw [rk_71]; decide) (s_71_0 (oReader_o0 o) Z3 (by omega) hwf (by omega)) (fun v I9 hv => ?_)
        obtain ⟨rfl, Z9, f9, e70⟩ := hv
        refine w_ic l_42_66 (by decide) ?_
        refine w_ir l_42_67 (by decide) ?_
        have hR9 : rulL' t n P (isWL t n (strB 3) p) p = .inr (psRule P false cs, p2) := by
          unfold rulL'
          rw [if_neg (by omega), if_pos hwi, hf1, hwd]
        exact ⟨_, _, rfl, rfl, F3.tr (fun z w h1 h2 => by
          by_cases hz : z = y + 7
          · have hw0 : w = 0 := by omega
            rw [hz, hw0]; exact e70
          · exact f9 z w (by omega) (by omega) hz), by rw [hR9]; exact ⟨rfl, ⟨(f9 s 1 (by omega) (by omega) (by omega)).trans (b3.1.trans B2.1), (f9 s 2 (by omega) (by omega) (by omega)).trans (b3.2.trans B2.2)⟩, ⟨(f9 s 5 (by omega) (by omega) (by omega)).trans hk3.1, (f9 s 6 (by omega) (by omega) (by omega)).trans hk3.2.1, (f9 s 7 (by omega) (by omega) (by omega)).trans hk3.2.2.1, hk3.2.2.2⟩, _, Z9, by show 2 * (tot + cs.length) ≤ p2; omega⟩⟩
  · skip
    refine CL_start (r := 31) (ls := [vr s, vs 2]) (rk_42 _) rfl ?_
    refine w_aln l_42_0 rfl ?_
    refine w_gr l_42_1 (oReader_sh o) (oReader_r0 o) ?_
    refine w_gi (((lRules P.1) : Nat) : Int) l_42_4 (oSetup_sh (oReader_o0 o)) Z.2.1 ?_
    refine w_bp l_42_7 (by decide) ?_
    refine w_clt 18 l_42_9 (by decide) (fun _ => ?_) (fun hx => absurd hx (by omega))
    refine w_aln l_42_18 rfl ?_
    refine w_ldc l_42_19 (by decide) ?_
    refine q_iv [vs (2 * 3 + 4)] [] l_42_21 rfl rfl (Nat.le_of_ble_eq_true rfl) (by rw [mx_34]; exact Nat.le_of_ble_eq_true rfl) (by rw [mt_34]; exact oReader_sh o) (by rw [mt_34]; decide) (by rw [rk_34]; decide) (s_34 o H (q := 3) (by decide)) ?_
    refine w_isn l_42_24 ⟨Nat.le_of_ble_eq_true rfl, rfl⟩ ?_
    refine w_aln l_42_25 rfl ?_
    refine p_iv [] [] l_42_26 rfl rfl (Nat.le_of_ble_eq_true rfl) (by rw [mx_32]; exact Nat.le_of_ble_eq_true rfl) (by rw [mt_32]; exact oReader_sh o) (by rw [mt_32]; decide) (by rw [rk_32]; decide) (s_32 o H.1 (tEnd_le H.2.2.2.2) H.2.1) (fun v I1 hv => ?_)
    obtain ⟨rfl, hk1, f1⟩ := hv
    have H1 : RT I1 s x t n (nxt t n p) := ⟨H.1.fS (oReader_ne o) f1.S, hk1⟩
    have Z1 := Z.fS hsy f1.S
    have F1 := (fR.rf I s y).tr (f1.S.R y)
    have B1 : I1 s 1 = I s 1 ∧ I1 s 2 = I s 2 := ⟨(f1 s 1 (fun _ => by decide)), (f1 s 2 (fun _ => by decide))⟩
    refine w_aln l_42_29 rfl ?_
    refine w_ldc l_42_30 (by decide) ?_
    refine q_iv [vs (2 * 4 + 4)] [] l_42_32 rfl rfl (Nat.le_of_ble_eq_true rfl) (by rw [mx_34]; exact Nat.le_of_ble_eq_true rfl) (by rw [mt_34]; exact oReader_sh o) (by rw [mt_34]; decide) (by rw [rk_34]; decide) (s_34 o H1 (q := 4) (by decide)) ?_
    refine w_bne 44 l_42_35 (by decide) (fun hx => absurd hx (by rw [hwi]; decide)) (fun _ => ?_)
    refine w_aln l_42_38 rfl ?_
    refine w_ic l_42_39 (by decide) ?_
    refine q_iv [vi 1] [] l_42_40 rfl rfl (Nat.le_of_ble_eq_true rfl) (by rw [mx_33]; exact Nat.le_of_ble_eq_true rfl) (by rw [mt_33]; exact oReader_sh o) (by rw [mt_33]; decide) (by rw [rk_33]; decide) (s_33 (k := 1) o H1.2.2.1) ?_
    refine w_ir l_42_43 (by decide) ?_
    have hR9 : rulL' t n P (isWL t n (strB 3) p) p = .inl (1, nxt t n p) := by
      unfold rulL'
      rw [if_neg (by omega), if_neg (by rw [hwi]; decide)]
    exact ⟨_, _, rfl, rfl, F1.tr ((((fS.rf I1 s).up (by decide)).up (by decide)).R y), by rw [hR9]; exact ⟨rfl, (up_nj (by decide)).trans up_eq, up_eq⟩⟩
end RDR
