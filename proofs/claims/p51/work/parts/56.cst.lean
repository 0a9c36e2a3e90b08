/-! the class: a run starts -/
def lo0 : Lo := ([], (fun _ _ => 0), fun _ => 0)
def pk0 : Pk := fun _ => (0, -1)
section CST
variable {xs : List Int} {S : List (Nat × Nat)} {T : Nat → Nat → Nat} {cc zz s x : Nat} {h : Hi} {l : Li} {A : Sa} {I I' : Ix}

theorem t_copy (o : oState S T s) {y : Nat} (oy : oState S T y) (hsy : y + 7 < s ∨ s + 7 < y) (hA : cS I y h l A) : CL xs 79 [vr s, vr y] (S, I, T, cc, zz) (RP S T cc zz (fun v I' => v = none ∧ cS I' s h l A ∧ fr I I' s (s + 7))) := by
  obtain ⟨h1, h2, h3, h4, h5, h6⟩ := hA
  obtain ⟨a1, a2, a3, a4⟩ := h5 0 (by decide)
  obtain ⟨b1, b2, b3, b4⟩ := h5 1 (by decide)
  obtain ⟨c1, c2, c3, c4⟩ := h5 2 (by decide)
  obtain ⟨d1, d2, d3, d4⟩ := h5 3 (by decide)
  refine CL_mono (s_79 o oy hsy a1 b1 c1 d1 a2 b2 c2 d2) ?_
  rintro q m' ⟨rfl, rfl⟩
  refine ⟨none, _, rfl, rfl, rfl, ⟨?_, ?_, fun p hp hl => ?_, fun p hp => ?_, fun p hp => ?_, fun a ha => ?_⟩, ?_⟩
  · rw [cpy_no (by omega), cpy_no (by omega), cpy_no (by omega), cpy_no (by omega), cpy_no (by omega), cpy_no (by omega), cpy_no (by omega), cpy_no (by omega), cpy_no (by omega), cpy_no (by omega), cpy_no (by omega), cpy_no (by omega), cpy_no (by omega), up_nj (by decide), up_eq]
    exact h1
  · obtain ⟨d, e1, e2⟩ := h2
    exact ⟨d, by rw [cpy_no (by omega), cpy_no (by omega), cpy_no (by omega), cpy_no (by omega), cpy_no (by omega), cpy_no (by omega), cpy_no (by omega), cpy_no (by omega), cpy_no (by omega), cpy_no (by omega), cpy_no (by omega), cpy_no (by omega), cpy_no (by omega), up_eq]; exact e1, e2⟩
  · have g := h3 p hp hl
    rw [cpy_no (by omega), cpy_no (by omega), cpy_no (by omega), cpy_no (by omega), cpy_no (by omega), cpy_no (by omega), cpy_no (by omega), cpy_no (by omega), cpy_no (by omega), cpy_no (by omega), cpy_no (by omega), cpy_no (by omega), cpy_in (Nat.zero_le _) (by omega), up_no (by omega), up_no (by omega), Nat.sub_zero, Nat.zero_add]
    exact g
  · have g := h4 p hp
    rw [cpy_no (by omega), cpy_no (by omega), cpy_no (by omega), cpy_no (by omega), cpy_no (by omega), cpy_no (by omega), cpy_no (by omega), cpy_no (by omega), cpy_no (by omega), cpy_no (by omega), cpy_no (by omega), cpy_in (Nat.zero_le _) (by omega), cpy_no (by omega), up_no (by omega), up_no (by omega), Nat.sub_zero, Nat.zero_add]
    exact g
  · obtain ⟨g1, g2, g3, g4⟩ := h5 p hp
    refine ⟨?_, g2, fun k hk => ?_, fun k hk => ?_⟩
    · rw [cpy_no (by omega), cpy_no (by omega), cpy_no (by omega), cpy_no (by omega), cpy_no (by omega), cpy_no (by omega), cpy_no (by omega), cpy_no (by omega), cpy_no (by omega), cpy_no (by omega), cpy_in (Nat.zero_le _) (by omega), cpy_no (by omega), cpy_no (by omega), up_no (by omega), up_no (by omega), Nat.sub_zero, Nat.zero_add]
      exact g1
    · rw [List.length_map] at hk
      have g := g3 k (by rw [List.length_map]; exact hk)
      rw [← g]
      clear h1 h2 h3 h4 h6 g g3 g4
      rcases four hp with rfl | rfl | rfl | rfl
      · repeat (first | rw [cpy_no (by omega)] | rw [cpy_nr (by omega)])
        rw [cpy_in (by omega) (by omega)]
        repeat (first | rw [cpy_no (by omega)] | rw [up_no (by omega)])
        exact congrArg (I (y + 4)) (by omega)
      · repeat (first | rw [cpy_no (by omega)] | rw [cpy_nr (by omega)])
        rw [cpy_in (by omega) (by omega)]
        repeat (first | rw [cpy_no (by omega)] | rw [up_no (by omega)])
        exact congrArg (I (y + 4)) (by omega)
      · repeat (first | rw [cpy_no (by omega)] | rw [cpy_nr (by omega)])
        rw [cpy_in (by omega) (by omega)]
        repeat (first | rw [cpy_no (by omega)] | rw [up_no (by omega)])
        exact congrArg (I (y + 4)) (by omega)
      · repeat (first | rw [cpy_no (by omega)] | rw [cpy_nr (by omega)])
        rw [cpy_in (by omega) (by omega)]
        repeat (first | rw [cpy_no (by omega)] | rw [up_no (by omega)])
        exact congrArg (I (y + 4)) (by omega)
    · rw [List.length_map] at hk
      have g := g4 k (by rw [List.length_map]; exact hk)
      rw [← g]
      clear h1 h2 h3 h4 h6 g g3 g4
      rcases four hp with rfl | rfl | rfl | rfl
      · repeat (first | rw [cpy_no (by omega)] | rw [cpy_nr (by omega)])
        rw [cpy_in (by omega) (by omega)]
        repeat (first | rw [cpy_no (by omega)] | rw [up_no (by omega)])
        exact congrArg (I (y + 5)) (by omega)
      · repeat (first | rw [cpy_no (by omega)] | rw [cpy_nr (by omega)])
        rw [cpy_in (by omega) (by omega)]
        repeat (first | rw [cpy_no (by omega)] | rw [up_no (by omega)])
        exact congrArg (I (y + 5)) (by omega)
      · repeat (first | rw [cpy_no (by omega)] | rw [cpy_nr (by omega)])
        rw [cpy_in (by omega) (by omega)]
        repeat (first | rw [cpy_no (by omega)] | rw [up_no (by omega)])
        exact congrArg (I (y + 5)) (by omega)
      · repeat (first | rw [cpy_no (by omega)] | rw [cpy_nr (by omega)])
        rw [cpy_in (by omega) (by omega)]
        repeat (first | rw [cpy_no (by omega)] | rw [up_no (by omega)])
        exact congrArg (I (y + 5)) (by omega)
  · have g := h6 a ha
    unfold cT at g ⊢
    have e6 : ∀ v : Int, I (y + 6) a = v → (cpy (cpy (cpy (cpy (cpy (cpy (cpy (cpy (cpy (cpy (cpy (cpy (cpy (up (up I s 0 (I y 0)) s 1 (I y 1)) (y + 1) 0 (s + 1) 0 4) (y + 2) 0 (s + 2) 0 4) (y + 3) 0 (s + 3) 0 4) (y + 4) 0 (s + 4) 0 (sQ A 0).length) (y + 5) 0 (s + 5) 0 (sQ A 0).length) (y + 4) 120 (s + 4) 120 (sQ A 1).length) (y + 5) 120 (s + 5) 120 (sQ A 1).length) (y + 4) 240 (s + 4) 240 (sQ A 2).length) (y + 5) 240 (s + 5) 240 (sQ A 2).length) (y + 4) 360 (s + 4) 360 (sQ A 3).length) (y + 5) 360 (s + 5) 360 (sQ A 3).length) (y + 6) 0 (s + 6) 0 64) (y + 7) 0 (s + 7) 0 64) (s + 6) a = v := by
      intro v hv
      rw [cpy_no (by omega), cpy_in (Nat.zero_le _) (by omega), cpy_no (by omega), cpy_no (by omega), cpy_no (by omega), cpy_no (by omega), cpy_no (by omega), cpy_no (by omega), cpy_no (by omega), cpy_no (by omega), cpy_no (by omega), cpy_no (by omega), cpy_no (by omega), up_no (by omega), up_no (by omega), Nat.sub_zero, Nat.zero_add]
      exact hv
    have e7 : ∀ v : Int, I (y + 7) a = v → (cpy (cpy (cpy (cpy (cpy (cpy (cpy (cpy (cpy (cpy (cpy (cpy (cpy (up (up I s 0 (I y 0)) s 1 (I y 1)) (y + 1) 0 (s + 1) 0 4) (y + 2) 0 (s + 2) 0 4) (y + 3) 0 (s + 3) 0 4) (y + 4) 0 (s + 4) 0 (sQ A 0).length) (y + 5) 0 (s + 5) 0 (sQ A 0).length) (y + 4) 120 (s + 4) 120 (sQ A 1).length) (y + 5) 120 (s + 5) 120 (sQ A 1).length) (y + 4) 240 (s + 4) 240 (sQ A 2).length) (y + 5) 240 (s + 5) 240 (sQ A 2).length) (y + 4) 360 (s + 4) 360 (sQ A 3).length) (y + 5) 360 (s + 5) 360 (sQ A 3).length) (y + 6) 0 (s + 6) 0 64) (y + 7) 0 (s + 7) 0 64) (s + 7) a = v := by
      intro v hv
      rw [cpy_in (Nat.zero_le _) (by omega), cpy_no (by omega), cpy_no (by omega), cpy_no (by omega), cpy_no (by omega), cpy_no (by omega), cpy_no (by omega), cpy_no (by omega), cpy_no (by omega), cpy_no (by omega), cpy_no (by omega), cpy_no (by omega), cpy_no (by omega), up_no (by omega), up_no (by omega), Nat.sub_zero, Nat.zero_add]
      exact hv
    refine ⟨?_, ?_⟩
    · obtain ⟨t, t1, t2⟩ := g.1
      exact ⟨t, e7 _ t1, t2⟩
    · have g2 := g.2
      cases hT : sTab A a with
      | none =>
        rw [hT] at g2
        exact e6 _ g2
      | some wt =>
        obtain ⟨w, t⟩ := wt
        rw [hT] at g2
        exact ⟨e6 _ g2.1, g2.2.1, e7 _ g2.2.2⟩
  · repeat (refine fr.cpy ?_ (by omega) (by omega))
    repeat (refine fr.up ?_ (by omega) (by omega))
    exact fr.rf _ _ _

theorem t_clear (o : oLog S T s) : CL xs 18 [vr s] (S, I, T, cc, zz) (RP S T cc zz (fun v I' => v = none ∧ cL I' s lo0 ∧ cP I' s pk0 ∧ fr I I' s (s + 5))) := by
  refine CL_mono (s_18 o) ?_
  rintro q m' ⟨rfl, rfl⟩
  refine ⟨none, _, rfl, rfl, rfl, ⟨⟨?_, Nat.zero_le _⟩, fun j hj => (by cases hj), fun k hk t ht => ?_, fun p hp => ?_⟩, fun p hp => ⟨?_, ?_⟩, ?_⟩
  · rw [fl_no (by omega), fl_no (by omega), fl_no (by omega), fl_no (by omega), up_eq]; rfl
  · rw [fl_no (by omega), fl_no (by omega), fl_no (by omega), fl_in (by omega)]; rfl
  · rw [fl_no (by omega), fl_no (by omega), fl_in hp]; rfl
  · rw [fl_no (by omega), fl_in hp]; rfl
  · rw [fl_in hp]; rfl
  · exact (((((fr.rf I s (s + 5)).up (by omega) (by omega)).fl (by omega) (by omega)).fl (by omega) (by omega)).fl (by omega) (by omega)).fl (by omega) (by omega)
theorem t_start (o : oState S T s) {y : Nat} (oy : oLimits S T y) (hsy : y + 4 < s ∨ s + 7 < y) (hL : cLi I y l) (okl : okLi l) (hpn : ∀ p, lPorts l ≤ p → lPol l p = none) (hT : ∀ a, a < 64 → ∃ t : Nat, I (s + 7) a = (t : Int) ∧ t ≤ 120) : CL xs 78 [vr s, vr y] (S, I, T, cc, zz) (RP S T cc zz (fun v I' => v = none ∧ cS I' s h l (beginA l).1 ∧ fr I I' s (s + 7))) := by
  refine CL_mono (s_78 o oy hsy) ?_
  rintro q m' ⟨rfl, rfl⟩
  refine ⟨none, _, rfl, rfl, rfl, ⟨⟨?_, Nat.zero_le _⟩, ⟨0, ?_, by decide, fun p hp => ?_⟩, fun p hp hl => ?_, fun p hp => ?_, fun p hp => ⟨?_, Nat.zero_le _, fun k hk => (by cases hk), fun k hk => (by cases hk)⟩, fun a ha => ?_⟩, ?_⟩
  · rw [fl_no (by omega)]
    simp [up]; rfl
  · rw [fl_no (by omega)]
    simp [up]
  · have h9 : bt 0 p = 0 := by unfold bt; rw [Nat.zero_div]
    exact ⟨fun _ => rfl, fun _ => h9⟩
  · rw [fl_no (by omega)]
    have e : sTok (beginA l).1 p = match lPol l p with
      | some (_, b) => b
      | none => 0 := rfl
    have hpl : p < lPorts l := Nat.lt_of_not_le fun q => hl (hpn p q)
    have g := (hL.2.1 p hpl).2.2
    rw [e]
    cases hpo : lPol l p with
    | none => exact absurd hpo hl
    | some rb =>
      obtain ⟨ra, b⟩ := rb
      rw [hpo] at g
      have g2 : I (y + 4) p = (b : Int) := g.2
      refine ⟨?_, (okl.2.2.2.1 p ra b hpo).2⟩
      rw [← g2]
      rcases four hp with rfl | rfl | rfl | rfl <;> simp [up]
  · rw [fl_no (by omega)]
    rcases four hp with rfl | rfl | rfl | rfl <;> simp [up] <;> rfl
  · rw [fl_no (by omega)]
    rcases four hp with rfl | rfl | rfl | rfl <;> simp [up] <;> rfl
  · refine ⟨?_, ?_⟩
    · obtain ⟨t, t1, t2⟩ := hT a ha
      refine ⟨t, ?_, t2⟩
      rw [fl_no (by omega)]
      simp [up]
      exact t1
    · show _ = -1
      rw [fl_in ha]
  · refine fr.fl ?_ (by omega) (by omega)
    repeat (refine fr.up ?_ (by omega) (by omega))
    exact fr.rf _ _ _

theorem mx_49 : mxl 49 = 1 := by decide +kernel
theorem mt_49 : mtc 49 = 5 := by decide +kernel
theorem rk_49 (as : List AV) : rkA 49 as = 2 := rfl
theorem l_49_0 : look 49 0 = some (.aload_n 0, 1, 0, 0, 0, 0) := by decide +kernel
theorem l_49_1 : look 49 1 = some (.getfield 21, 3, 5, 1, 2, 636) := by decide +kernel
theorem l_49_4 : look 49 4 = some (.aload_n 0, 1, 0, 0, 0, 0) := by decide +kernel
theorem l_49_5 : look 49 5 = some (.getfield 12, 3, 5, 0, 2, 634) := by decide +kernel
theorem l_49_8 : look 49 8 = some (.invokevirtual 36, 3, 78, 2, 0, 709) := by decide +kernel
theorem l_49_11 : look 49 11 = some (.aload_n 0, 1, 0, 0, 0, 0) := by decide +kernel
theorem l_49_12 : look 49 12 = some (.getfield 28, 3, 5, 2, 2, 638) := by decide +kernel
theorem l_49_15 : look 49 15 = some (.invokevirtual 40, 3, 18, 1, 0, 714) := by decide +kernel
theorem l_49_18 : look 49 18 = some (.return_, 1, 0, 0, 0, 0) := by decide +kernel
theorem s_49 (o : oRun S T s x) (hL : cLi I (s + 1) l) (okl : okLi l) (hpn : ∀ p, lPorts l ≤ p → lPol l p = none) (hT : ∀ a, a < 64 → ∃ t : Nat, I (s + 6 + 7) a = (t : Int) ∧ t ≤ 120) : CL xs 49 [vr s] (S, I, T, cc, zz) (RP S T cc zz (fun v I' => v = none ∧ cR I' s h l (beginA l) ∧ cP I' (s + 14) pk0 ∧ fr I I' (s + 6) (s + 19))) := by
  refine CL_start (r := 2) (ls := [vr s]) (rk_49 _) rfl ?_
  refine w_aln l_49_0 rfl ?_
  refine w_gr l_49_1 (oRun_sh o) (oRun_r1 o) ?_
  refine w_aln l_49_4 rfl ?_
  refine w_gr l_49_5 (oRun_sh o) (oRun_r0 o) ?_
  refine p_iv [vr (s + 1)] [] l_49_8 rfl rfl (Nat.le_of_ble_eq_true rfl) (by rw [mx_78]; exact Nat.le_of_ble_eq_true rfl) (by rw [mt_78]; exact oState_sh (oRun_o1 o)) (by rw [mt_78]; decide) (by rw [rk_78]; decide) (t_start (h := h) (oRun_o1 o) (oRun_o0 o) (by omega) hL okl hpn hT) (fun v I1 hv => ?_)
  obtain ⟨rfl, hS1, f1⟩ := hv
  refine w_aln l_49_11 rfl ?_
  refine w_gr l_49_12 (oRun_sh o) (oRun_r2 o) ?_
  refine p_iv [] [] l_49_15 rfl rfl (Nat.le_of_ble_eq_true rfl) (by rw [mx_18]; exact Nat.le_of_ble_eq_true rfl) (by rw [mt_18]; exact oLog_sh (oRun_o2 o)) (by rw [mt_18]; decide) (by rw [rk_18]; decide) (t_clear (oRun_o2 o)) (fun v I2 hv => ?_)
  obtain ⟨rfl, hL2, hP2, f2⟩ := hv
  refine w_vr l_49_18 ?_
  exact ⟨_, _, rfl, rfl, rfl, ⟨hS1.fr f2 (Or.inr (by omega)), hL2⟩, hP2, (f1.mono (by omega) (by omega)).tr (f2.mono (by omega) (by omega))⟩

end CST
