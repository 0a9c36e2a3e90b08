/-! the class: load -/
section LDT
variable {S : List (Nat × Nat)} {T T2 : Nat → Nat → Nat} {s q y : Nat}
theorem oSetup_T {z : Nat} (e : ∀ z w, s + 2 < z → T2 z w = T z w) (hz : s + 2 < z) : oSetup S T2 z = oSetup S T z := by
  unfold oSetup oLimits
  simp (disch := omega) only [e]
theorem oHistory_T {z : Nat} (e : ∀ z w, s + 2 < z → T2 z w = T z w) (hz : s + 2 < z) : oHistory S T2 z = oHistory S T z := by
  unfold oHistory
  simp (disch := omega) only [e]
theorem oState_T {z : Nat} (e : ∀ z w, s + 2 < z → T2 z w = T z w) (hz : s + 2 < z) : oState S T2 z = oState S T z := by
  unfold oState
  simp (disch := omega) only [e]
theorem oRun_T {z x : Nat} (e : ∀ z w, s + 2 < z → T2 z w = T z w) (hz : s + 2 < z) (hx : s + 2 < x) : oRun S T2 z x = oRun S T z x := by
  unfold oRun oLimits oState oLog oHistory
  simp (disch := omega) only [e]
theorem oSuppositions_T {z : Nat} (e : ∀ z w, s + 2 < z → T2 z w = T z w) (hz : s + 2 < z) : oSuppositions S T2 z = oSuppositions S T z := by
  unfold oSuppositions
  simp (disch := omega) only [e]
theorem oLine_T {z : Nat} (e : ∀ z w, s + 2 < z → T2 z w = T z w) (hz : s + 2 < z) : oLine S T2 z = oLine S T z := by
  unfold oLine
  simp (disch := omega) only [e]
/-- the settings change places -/
theorem oDropSwitch_sw (o : oDropSwitch S T s q y) (e : ∀ z w, s + 2 < z → T2 z w = T z w) (e5 : T2 s 5 = y + 1) (e0 : T2 (s + 2) 0 = q + 1) (es : ∀ w, w ≠ 5 → T2 s w = T s w) (er : ∀ w, w ≠ 0 → T2 (s + 2) w = T (s + 2) w) (hq : s + 2 < q) (hy : s + 2 < y) : oDropSwitch S T2 s y q := by
  obtain ⟨a1, a2, a3, a4, a5, a6, a7, a8, a9, a10, a11, a12, a13, a14, a15, a16, a17, a18, a19, a20, a21, a22, a23, a24, a25⟩ := o
  obtain ⟨b1, b2, b3, b4, b5⟩ := a4
  exact ⟨a1, a2, (es 0 (by decide)).trans a3, ⟨b1, by rw [oSetup_T e hq]; exact a6, e0, b4, (er 3 (by decide)).trans b5⟩, (es 4 (by decide)).trans a5, by rw [oSetup_T e hy]; exact b2, e5, by rw [oHistory_T e (by omega)]; exact a8, (es 6 (by decide)).trans a9, a10, (es 7 (by decide)).trans a11, by rw [oRun_T e (by omega) (by omega)]; exact a12, (es 8 (by decide)).trans a13, by rw [oRun_T e (by omega) (by omega)]; exact a14, (es 9 (by decide)).trans a15, by rw [oSuppositions_T e (by omega)]; exact a16, (es 10 (by decide)).trans a17, by rw [oRun_T e (by omega) (by omega)]; exact a18, (es 11 (by decide)).trans a19, a20, (es 14 (by decide)).trans a21, a22, (es 15 (by decide)).trans a23, by rw [oLine_T e (by omega)]; exact a24, (es 16 (by decide)).trans a25⟩
theorem oCk_T (ck : oCk S T s) (e : ∀ z w, s + 2 < z → T2 z w = T z w) : oCk S T2 s := fun c hc => ⟨(e _ _ (by omega)).trans (ck c hc).1, by rw [oState_T e (by omega)]; exact (ck c hc).2⟩
end LDT
section LDC
variable {xs : List Int} {S : List (Nat × Nat)} {T : Nat → Nat → Nat} {cc zz s q y : Nat} {I I' : Ix}
/-- what reading the text may change -/
def fD (I J : Ix) (s y : Nat) : Prop := ∀ z w, (z = s → w ≠ 1 ∧ w ≠ 2 ∧ w ≠ 3) → (z = s + 2 → w = 0 ∨ w = 3) → (z < y ∨ y + 8 < z ∨ (z = y + 7 ∧ w = 0)) → J z w = I z w
/-- what a load that is done may change -/
def fE (I J : Ix) (s y : Nat) : Prop := ∀ z w, (z = s → w ≠ 1 ∧ w ≠ 2 ∧ w ≠ 3 ∧ w ≠ 12) → (z = s + 2 → w = 0 ∨ w = 3) → (z = s + 21 → 1 < w) → (z < y ∨ y + 8 < z ∨ (z = y + 7 ∧ w = 0)) → (z < s + 32 ∨ (s + 51 < z ∧ z < s + 73) ∨ (s + 74 < z ∧ z < s + 99) ∨ s + 106 < z) → J z w = I z w
/-- the two settings' places -/
def dQ (s q y : Nat) : Prop := s + 2 < q ∧ s + 2 < y ∧ q + 8 < s + 21 ∧ y + 8 < s + 21 ∧ (q + 8 < y ∨ y + 8 < q)
theorem SB.ld {J : Ix} {l : Li} {cd : Nat → Cd} {c tot : Nat} {P : Ps} (N : SB I s q l cd c) (D : dQ s q y) (Z : SU J y P [] tot) (f : fD I J s y) : SB J s y P.1 P.2.2 c := by
  obtain ⟨hq, n1, n2, n3, n4, n5, n6, n7, n8, n9, n10, n11, n12⟩ := N
  obtain ⟨z1, z2, z3, z4, z5, z6⟩ := Z
  obtain ⟨d1, d2, d3, d4, d5⟩ := D
  have e0 : ∀ z, z ≠ 1 → z ≠ 2 → z ≠ 3 → J s z = I s z := fun z h1 h2 h3 => f s z (fun _ => ⟨h1, h2, h3⟩) (fun e => by omega) (by omega)
  have e : ∀ z, s + 20 < z → ∀ w, J z w = I z w := fun z hz w => f z w (fun e => by omega) (fun e => by omega) (by omega)
  refine ⟨⟨by omega, by omega⟩, z1, z2, z4.1, z4.2.1, z4.2.2.1, z5, fun b hb => ?_, ?_, fun b hb => ?_, ?_, ?_, fun k hk => ?_⟩
  · obtain ⟨t, t1, t2⟩ := n7 b hb
    exact ⟨t, (e _ (by omega) _).trans t1, t2⟩
  · intro b hb
    obtain ⟨t, t1, t2⟩ := n8 b hb
    exact ⟨t, (e _ (by omega) _).trans t1, t2⟩
  · obtain ⟨t, t1, t2⟩ := n9 b hb
    exact ⟨t, (e _ (by omega) _).trans t1, t2⟩
  · rw [e0 12 (by decide) (by decide) (by decide)]; exact n10
  · rw [e0 13 (by decide) (by decide) (by decide)]; exact n11
  · rw [e (s + 95) (by omega)]; exact n12 k hk

theorem mx_101 : mxl 101 = 3 := by decide +kernel
theorem mt_101 : mtc 101 = 9 := by decide +kernel
theorem rk_101 (as : List AV) : rkA 101 as = 33 := rfl
theorem l_101_0 : look 101 0 = some (.aload_n 0, 1, 0, 0, 0, 0) := by decide +kernel
theorem l_101_1 : look 101 1 = some (.getfield 28, 3, 9, 4, 2, 728) := by decide +kernel
theorem l_101_4 : look 101 4 = some (.aload_n 0, 1, 0, 0, 0, 0) := by decide +kernel
theorem l_101_5 : look 101 5 = some (.getfield 13, 3, 9, 1, 0, 725) := by decide +kernel
theorem l_101_8 : look 101 8 = some (.invokevirtual 103, 3, 31, 2, 0, 1045) := by decide +kernel
theorem l_101_11 : look 101 11 = some (.istore_n 1, 1, 0, 0, 0, 0) := by decide +kernel
theorem l_101_12 : look 101 12 = some (.aload_n 0, 1, 0, 0, 0, 0) := by decide +kernel
theorem l_101_13 : look 101 13 = some (.iconst 0, 1, 0, 0, 0, 0) := by decide +kernel
theorem l_101_14 : look 101 14 = some (.putfield 13, 3, 9, 1, 0, 725) := by decide +kernel
theorem l_101_17 : look 101 17 = some (.aload_n 0, 1, 0, 0, 0, 0) := by decide +kernel
theorem l_101_18 : look 101 18 = some (.aload_n 0, 1, 0, 0, 0, 0) := by decide +kernel
theorem l_101_19 : look 101 19 = some (.getfield 28, 3, 9, 4, 2, 728) := by decide +kernel
theorem l_101_22 : look 101 22 = some (.getfield 107, 3, 4, 1, 0, 464) := by decide +kernel
theorem l_101_25 : look 101 25 = some (.putfield 17, 3, 9, 2, 0, 726) := by decide +kernel
theorem l_101_28 : look 101 28 = some (.aload_n 0, 1, 0, 0, 0, 0) := by decide +kernel
theorem l_101_29 : look 101 29 = some (.aload_n 0, 1, 0, 0, 0, 0) := by decide +kernel
theorem l_101_30 : look 101 30 = some (.getfield 28, 3, 9, 4, 2, 728) := by decide +kernel
theorem l_101_33 : look 101 33 = some (.getfield 108, 3, 4, 2, 0, 466) := by decide +kernel
theorem l_101_36 : look 101 36 = some (.putfield 20, 3, 9, 3, 0, 727) := by decide +kernel
theorem l_101_39 : look 101 39 = some (.iload_n 1, 1, 0, 0, 0, 0) := by decide +kernel
theorem l_101_40 : look 101 40 = some (.ifCond .ne 11, 3, 0, 0, 0, 0) := by decide +kernel
theorem l_101_43 : look 101 43 = some (.new 109, 3, 1, 0, 1, 231) := by decide +kernel
theorem l_101_46 : look 101 46 = some (.dup, 1, 0, 0, 0, 0) := by decide +kernel
theorem l_101_47 : look 101 47 = some (.invokespecial 111, 3, 0, 1, 99, 240) := by decide +kernel
theorem l_101_50 : look 101 50 = some (.athrow, 1, 0, 0, 0, 0) := by decide +kernel
theorem l_101_51 : look 101 51 = some (.aload_n 0, 1, 0, 0, 0, 0) := by decide +kernel
theorem l_101_52 : look 101 52 = some (.getfield 28, 3, 9, 4, 2, 728) := by decide +kernel
theorem l_101_55 : look 101 55 = some (.getfield 112, 3, 4, 0, 2, 462) := by decide +kernel
theorem l_101_58 : look 101 58 = some (.astore_n 2, 1, 0, 0, 0, 0) := by decide +kernel
theorem l_101_59 : look 101 59 = some (.aload_n 0, 1, 0, 0, 0, 0) := by decide +kernel
theorem l_101_60 : look 101 60 = some (.getfield 28, 3, 9, 4, 2, 728) := by decide +kernel
theorem l_101_63 : look 101 63 = some (.aload_n 0, 1, 0, 0, 0, 0) := by decide +kernel
theorem l_101_64 : look 101 64 = some (.getfield 35, 3, 9, 5, 2, 729) := by decide +kernel
theorem l_101_67 : look 101 67 = some (.putfield 112, 3, 4, 0, 2, 462) := by decide +kernel
theorem l_101_70 : look 101 70 = some (.aload_n 0, 1, 0, 0, 0, 0) := by decide +kernel
theorem l_101_71 : look 101 71 = some (.aload_n 2, 1, 0, 0, 0, 0) := by decide +kernel
theorem l_101_72 : look 101 72 = some (.putfield 35, 3, 9, 5, 2, 729) := by decide +kernel
theorem l_101_75 : look 101 75 = some (.aload_n 0, 1, 0, 0, 0, 0) := by decide +kernel
theorem l_101_76 : look 101 76 = some (.invokevirtual 96, 3, 157, 1, 0, 683) := by decide +kernel
theorem l_101_79 : look 101 79 = some (.aload_n 0, 1, 0, 0, 0, 0) := by decide +kernel
theorem l_101_80 : look 101 80 = some (.getfield 35, 3, 9, 5, 2, 729) := by decide +kernel
theorem l_101_83 : look 101 83 = some (.getfield 113, 3, 6, 0, 2, 439) := by decide +kernel
theorem l_101_86 : look 101 86 = some (.getfield 117, 3, 1, 0, 0, 377) := by decide +kernel
theorem l_101_89 : look 101 89 = some (.ireturn, 1, 0, 0, 0, 0) := by decide +kernel
theorem s_101n (o : oDropSwitch S T s q y) (D : dQ s q y) {bf : Nat → Int} {n : Nat} (H : cIn I s bf n) (h70 : I (y + 7) 0 = 0) {e9 : Nat × Nat} (hR : textR bf n = .inl e9) (hc : 1 ≤ cc ∧ 6 ≤ zz) : CL xs 101 [vr s] (S, I, T, cc, zz) (fun r m1 => ∃ J, r = .inr 1 ∧ m1 = (S, J, T, cc - 1, zz - 6) ∧ J s 1 = 0 ∧ J s 2 = ((e9.2 : Nat) : Int) ∧ J s 3 = ((e9.1 : Nat) : Int) ∧ fD I J s y) := by
  obtain ⟨d1, d2, d3, d4, d5⟩ := id D
  have h600 := H.2.1
  refine CL_start (r := 33) (ls := [vr s, vs 2, vs 2]) (rk_101 _) rfl ?_
  refine w_aln l_101_0 rfl ?_
  refine w_gr l_101_1 (oDropSwitch_sh o) (oDropSwitch_r4 o) ?_
  refine w_aln l_101_4 rfl ?_
  refine w_gi ((n : Nat) : Int) l_101_5 (oDropSwitch_sh o) H.1 ?_
  refine p_iv [vi ((n : Nat) : Int)] [] l_101_8 rfl rfl (Nat.le_of_ble_eq_true rfl) (by rw [mx_31]; exact Nat.le_of_ble_eq_true rfl) (by rw [mt_31]; exact oReader_sh (oDropSwitch_o4 o)) (by rw [mt_31]; decide) (by rw [rk_31]; decide) (by have g9 := (s_31 (t := bf) (n := n) (oDropSwitch_o4 o) (by omega) (by omega) H.2.1 H.2.2 h70 : CL xs 31 [vr (s + 2), vi ((n : Nat) : Int)] (S, I, T, cc, zz) _); rw [hR] at g9; exact g9) (fun v I1 hv => ?_)
  obtain ⟨f1, rfl, e1, e2⟩ := hv
  refine w_isn l_101_11 ⟨Nat.le_of_ble_eq_true rfl, rfl⟩ ?_
  refine w_aln l_101_12 rfl ?_
  refine w_ic l_101_13 (by decide) ?_
  refine w_pi l_101_14 (oDropSwitch_sh o) ?_
  refine w_aln l_101_17 rfl ?_
  refine w_aln l_101_18 rfl ?_
  refine w_gr l_101_19 (oDropSwitch_sh o) (oDropSwitch_r4 o) ?_
  refine w_gi ((e9.2 : Nat) : Int) l_101_22 (oReader_sh (oDropSwitch_o4 o)) ((up_no (by omega)).trans (e1)) ?_
  refine w_pi l_101_25 (oDropSwitch_sh o) ?_
  refine w_aln l_101_28 rfl ?_
  refine w_aln l_101_29 rfl ?_
  refine w_gr l_101_30 (oDropSwitch_sh o) (oDropSwitch_r4 o) ?_
  refine w_gi ((e9.1 : Nat) : Int) l_101_33 (oReader_sh (oDropSwitch_o4 o)) ((up_no (by omega)).trans ((up_no (by omega)).trans (e2))) ?_
  refine w_pi l_101_36 (oDropSwitch_sh o) ?_
  refine w_iln l_101_39 rfl ?_
  refine w_zne 51 l_101_40 (by decide) (fun hx => absurd hx (by decide)) (fun _ => ?_)
  refine w_th l_101_43 ⟨hc.1, hc.2, Nat.le_of_ble_eq_true rfl⟩ ?_
  refine ⟨_, rfl, rfl, ?_, ?_, ?_, fun z w g1 g2 g3 => ?_⟩
  · repeat (first | exact up_eq | rw [up_nj (by decide)])
  · repeat (first | exact up_eq | rw [up_nj (by decide)])
  · repeat (first | exact up_eq | rw [up_nj (by decide)])
  · repeat (rw [up_out (by omega)])
    exact f1 z w g2 g3
theorem s_101 (o : oDropSwitch S T s q y) (D : dQ s q y) {bf : Nat → Int} {n : Nat} (H : cIn I s bf n) (h70 : I (y + 7) 0 = 0) (ck : oCk S T s) {P : Ps} (hR : textR bf n = .inr P) {h h2 : Hi} {l : Li} {a a2 : Nat → Nat} {ne np c : Nat} {su : Su} {cd : Nat → Cd} (X : XC I s q h l a ne np su cd c) (hcc : c + 1 < 100000) (ok2 : okHi h2) : CL xs 101 [vr s] (S, I, T, cc, zz) (fun r m1 => ∃ T2 J, r = .inl (some (vi ((lPorts P.1 : Nat) : Int))) ∧ m1 = (S, J, T2, cc, zz) ∧ oDropSwitch S T2 s y q ∧ oCk S T2 s ∧ (∀ z w, z ≠ s → z ≠ s + 2 → T2 z w = T z w) ∧ XC J s y h2 P.1 a2 0 (arr h2 0) su0 P.2.2 (c + 1) ∧ okPs P ∧ cNm J y P.1 P.2.1 ∧ J s 1 = 0 ∧ J s 2 = -1 ∧ J s 3 = 0 ∧ fE I J s y) := by
  obtain ⟨d1, d2, d3, d4, d5⟩ := id D
  have h600 := H.2.1
  have key : ∀ (T2 : Nat → Nat → Nat) (J : Ix), (∀ z w, z ≠ s → z ≠ s + 2 → T2 z w = T z w) → T2 s 5 = y + 1 → T2 (s + 2) 0 = q + 1 → (∀ w, w ≠ 5 → T2 s w = T s w) → (∀ w, w ≠ 0 → T2 (s + 2) w = T (s + 2) w) → J s 1 = 0 → J s 2 = -1 → J s 3 = 0 → fD I J s y → (∃ tot, SU J y P [] tot) → WP xs 101 33 75 [vr s, vi 1, vr y] [] (S, J, T2, cc, zz) (fun r m1 => ∃ T2 J, r = .inl (some (vi ((lPorts P.1 : Nat) : Int))) ∧ m1 = (S, J, T2, cc, zz) ∧ oDropSwitch S T2 s y q ∧ oCk S T2 s ∧ (∀ z w, z ≠ s → z ≠ s + 2 → T2 z w = T z w) ∧ XC J s y h2 P.1 a2 0 (arr h2 0) su0 P.2.2 (c + 1) ∧ okPs P ∧ cNm J y P.1 P.2.1 ∧ J s 1 = 0 ∧ J s 2 = -1 ∧ J s 3 = 0 ∧ fE I J s y) := by
    intro T2 J e e5 e0 es er j1 j2 j3 fD ⟨tot3, Z3⟩
    have o2 : oDropSwitch S T2 s y q := oDropSwitch_sw o (fun z w h => e z w (by omega) (by omega)) e5 e0 es er d1 d2
    have ck2 : oCk S T2 s := oCk_T ck (fun z w h => e z w (by omega) (by omega))
    refine w_aln l_101_75 rfl ?_
    refine p_iv [] [] l_101_76 rfl rfl (Nat.le_of_ble_eq_true rfl) (by rw [mx_157]; exact Nat.le_of_ble_eq_true rfl) (by rw [mt_157]; exact oDropSwitch_sh o2) (by rw [mt_157]; decide) (by rw [rk_157]; decide) (s_157 (h := h2) (a := a2) o2 ck2 (SB.ld (X.sb hcc) D Z3 fD) ok2) (fun v J9 hv => ?_)
    obtain ⟨rfl, X9, f9⟩ := hv
    have h9 : J9 (y + 1) 0 = ((lPorts P.1 : Nat) : Int) := (f9 _ _ (by omega) (by omega) (by omega)).trans Z3.1.1
    refine w_aln l_101_79 rfl ?_
    refine w_gr l_101_80 (oDropSwitch_sh o2) (oDropSwitch_r5 o2) ?_
    refine w_gr l_101_83 (oSetup_sh (oDropSwitch_o5 o2)) (oSetup_r0 (oDropSwitch_o5 o2)) ?_
    refine w_gi (((lPorts P.1) : Nat) : Int) l_101_86 (oLimits_sh (oSetup_o0 (oDropSwitch_o5 o2))) h9 ?_
    refine w_ir l_101_89 (Or.inl rfl) ?_
    refine ⟨_, _, rfl, rfl, o2, ck2, e, X9, Z3.2.2.2.1, fun p hp => ⟨Z3.2.2.2.1.2.2.2.2 p hp, (f9 _ _ (by omega) (by omega) (by omega)).trans (Z3.2.2.1 p hp)⟩, (f9 _ _ (by omega) (by omega) (by omega)).trans j1, (f9 _ _ (by omega) (by omega) (by omega)).trans j2, (f9 _ _ (by omega) (by omega) (by omega)).trans j3, fun z w g1 g2 g3 g4 g5 => (f9 z w (by omega) (by omega) (by omega)).trans (fD z w (by omega) (by omega) (by omega))⟩
  refine CL_start (r := 33) (ls := [vr s, vs 2, vs 2]) (rk_101 _) rfl ?_
  refine w_aln l_101_0 rfl ?_
  refine w_gr l_101_1 (oDropSwitch_sh o) (oDropSwitch_r4 o) ?_
  refine w_aln l_101_4 rfl ?_
  refine w_gi ((n : Nat) : Int) l_101_5 (oDropSwitch_sh o) H.1 ?_
  refine p_iv [vi ((n : Nat) : Int)] [] l_101_8 rfl rfl (Nat.le_of_ble_eq_true rfl) (by rw [mx_31]; exact Nat.le_of_ble_eq_true rfl) (by rw [mt_31]; exact oReader_sh (oDropSwitch_o4 o)) (by rw [mt_31]; decide) (by rw [rk_31]; decide) (by have g9 := (s_31 (t := bf) (n := n) (oDropSwitch_o4 o) (by omega) (by omega) H.2.1 H.2.2 h70 : CL xs 31 [vr (s + 2), vi ((n : Nat) : Int)] (S, I, T, cc, zz) _); rw [hR] at g9; exact g9) (fun v I1 hv => ?_)
  obtain ⟨f1, rfl, e1, e2, tot, Z⟩ := hv
  refine w_isn l_101_11 ⟨Nat.le_of_ble_eq_true rfl, rfl⟩ ?_
  refine w_aln l_101_12 rfl ?_
  refine w_ic l_101_13 (by decide) ?_
  refine w_pi l_101_14 (oDropSwitch_sh o) ?_
  refine w_aln l_101_17 rfl ?_
  refine w_aln l_101_18 rfl ?_
  refine w_gr l_101_19 (oDropSwitch_sh o) (oDropSwitch_r4 o) ?_
  refine w_gi (-1) l_101_22 (oReader_sh (oDropSwitch_o4 o)) ((up_no (by omega)).trans (e1)) ?_
  refine w_pi l_101_25 (oDropSwitch_sh o) ?_
  refine w_aln l_101_28 rfl ?_
  refine w_aln l_101_29 rfl ?_
  refine w_gr l_101_30 (oDropSwitch_sh o) (oDropSwitch_r4 o) ?_
  refine w_gi 0 l_101_33 (oReader_sh (oDropSwitch_o4 o)) ((up_no (by omega)).trans ((up_no (by omega)).trans (e2))) ?_
  refine w_pi l_101_36 (oDropSwitch_sh o) ?_
  refine w_iln l_101_39 rfl ?_
  refine w_zne 51 l_101_40 (by decide) (fun _ => ?_) (fun hx => absurd hx (by decide))
  refine w_aln l_101_51 rfl ?_
  refine w_gr l_101_52 (oDropSwitch_sh o) (oDropSwitch_r4 o) ?_
  refine w_gr l_101_55 (oReader_sh (oDropSwitch_o4 o)) (oReader_r0 (oDropSwitch_o4 o)) ?_
  refine w_ran l_101_58 ⟨Nat.le_of_ble_eq_true rfl, rfl⟩ ?_
  refine w_aln l_101_59 rfl ?_
  refine w_gr l_101_60 (oDropSwitch_sh o) (oDropSwitch_r4 o) ?_
  refine w_aln l_101_63 rfl ?_
  refine w_gr l_101_64 (oDropSwitch_sh o) (oDropSwitch_r5 o) ?_
  refine w_pr l_101_67 (oReader_sh (oDropSwitch_o4 o)) (Or.inl rfl) ?_
  refine w_aln l_101_70 rfl ?_
  refine w_aln l_101_71 rfl ?_
  refine w_pr l_101_72 (oDropSwitch_sh o) (Or.inl rfl) ?_
  refine key _ _ (fun z w h h9 => ?_) ?_ ?_ (fun w h => ?_) (fun w h => ?_) ?_ ?_ ?_ (fun z w g1 g2 g3 => ?_) ⟨tot, Z.eq (fun j hj w => by repeat (rw [up_out (by omega)]))⟩
  · show (if z = s ∧ w = 5 then _ else if z = s + 2 ∧ w = 0 then _ else T z w) = _
    rw [if_neg (by omega), if_neg (by omega)]
  · show (if s = s ∧ 5 = 5 then _ else _) = _
    rw [if_pos ⟨rfl, rfl⟩]
  · show (if s + 2 = s ∧ 0 = 5 then _ else if s + 2 = s + 2 ∧ 0 = 0 then _ else _) = _
    rw [if_neg (by omega), if_pos ⟨rfl, rfl⟩]
  · show (if s = s ∧ w = 5 then _ else if s = s + 2 ∧ w = 0 then _ else T s w) = _
    rw [if_neg (by omega), if_neg (by omega)]
  · show (if s + 2 = s ∧ w = 5 then _ else if s + 2 = s + 2 ∧ w = 0 then _ else T (s + 2) w) = _
    rw [if_neg (by omega), if_neg (by omega)]
  · repeat (first | exact up_eq | rw [up_nj (by decide)])
  · repeat (first | exact up_eq | rw [up_nj (by decide)])
  · repeat (first | exact up_eq | rw [up_nj (by decide)])
  · repeat (rw [up_out (by omega)])
    exact f1 z w g2 g3
end LDC
