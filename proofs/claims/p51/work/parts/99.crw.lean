/-! the class: rewind, begun anew -/
theorem cH_cut {I J : Ix} {x : Nat} {h : Hi} {a : Nat → Nat} {ne np m : Nat} (H : cH I x h a ne np) (W : HW h a ne np) (hm : m ≤ ne) (e0 : J x 0 = (m : Int)) (e1 : J x 1 = ((arr h m : Nat) : Int)) (e : ∀ j, 0 < j ∧ j ≤ 8 → ∀ z, J (x + j) z = I (x + j) z) : cH J x h a m (arr h m) := by
  obtain ⟨h1, h2, h3, h4, h5, h6⟩ := H
  have W' := W.cut hm
  have hnp : arr h m ≤ np := by rw [W.2.1]; exact arr_mono ne hm
  refine ⟨e0, e1, by omega, arr_e m, fun x' hx => ?_, fun k hk => ?_⟩
  · rw [e 1 (by decide), e 2 (by decide), e 3 (by decide)]
    obtain ⟨c1, c2, c3, c4⟩ := h5 x' (by omega)
    refine ⟨c1, c2, c3, fun q => ⟨(c4 q).1, ?_⟩⟩
    rw [(W'.1 x' hx).1 q]
    have := arr_mono (h := h) (m := x' + 1) m (by omega)
    have e9 : arr h (x' + 1) = arr h x' + 1 := if_pos q
    omega
  · rw [e 4 (by decide), e 5 (by decide), e 6 (by decide), e 7 (by decide), e 8 (by decide)]
    obtain ⟨q1, q2, q3⟩ := h6 k (by omega)
    exact ⟨q1, (W'.2.2 k hk).1, q3⟩
theorem okEv_cut {h : Hi} {l : Li} {a : Nat → Nat} {ne np m : Nat} (hev : okEv h l ne np) (W : HW h a ne np) (hm : m ≤ ne) : okEv h l m (arr h m) := fun x' hx => by
  obtain ⟨c1, c2, c3⟩ := hev x' (by omega)
  refine ⟨c1, fun q => ?_, c3⟩
  rw [((W.cut hm).1 x' hx).1 q]
  have := arr_mono (h := h) (m := x' + 1) m (by omega)
  have e9 : arr h (x' + 1) = arr h x' + 1 := if_pos q
  omega
/-- what a rewind and a beginning change -/
def mfR (I J : Ix) (s : Nat) : Prop := ∀ y z, (y = s → z ≠ 12) → (y = s + 21 → 1 < z) → (y < s + 32 ∨ (s + 51 < y ∧ y < s + 73) ∨ (s + 74 < y ∧ y < s + 99) ∨ s + 106 < y) → J y z = I y z
theorem mfR.K {I J : Ix} {s : Nat} (f : mfR I J s) : mfK I J s := fun y z a b => f y z (fun e => (a e).1) (by omega) (by omega)
section CRW
variable {xs : List Int} {S : List (Nat × Nat)} {T : Nat → Nat → Nat} {cc zz s q y : Nat} {h : Hi} {l : Li} {I I' : Ix}
/-- what a beginning needs -/
def SB (I : Ix) (s q : Nat) (l : Li) (cd : Nat → Cd) (c : Nat) : Prop := (s < q ∧ q + 8 < s + 21) ∧ cLi I (q + 1) l ∧ I q 2 = (lRules l : Int) ∧ okLi l ∧ (∀ p, lPorts l ≤ p → lPol l p = none) ∧ (∀ r, lIdle l r = false) ∧ cC I q l cd ∧ (∀ b, b < 64 → ∃ t : Nat, I (s + 32 + 6 + 7) b = (t : Int) ∧ t ≤ 120) ∧ tmR I s ∧ (∀ b, b < 64 → ∃ t : Nat, I (s + 75 + 6 + 7) b = (t : Int) ∧ t ≤ 120) ∧ (I s 12 = (c : Int) ∧ 1 ≤ c ∧ c + 1 < 100000) ∧ (0 ≤ I s 13 ∧ I s 13 ≤ (c : Int)) ∧ ∀ e, e < 120 → 0 ≤ I (s + 95) e ∧ I (s + 95) e ≤ (c : Int)
/-- the state after a rewind or a beginning, told at J, with m events left -/
theorem XC.rw {J : Ix} {a : Nat → Nat} {m c : Nat} {cd : Nat → Cd} (N : SB I s q l cd c) (ok : okHi h) (f : mfR I J s) (h12 : J s 12 = ((c + 1 : Nat) : Int)) (hS : cSu J (s + 72) su0) (hR : cR J (s + 32) h l (runA h l noOut m)) (hP : cP J (s + 46) (pkC h l m)) (hL : cLi J (s + 33) l) (hC : cCk J s h l m) (hH : cH J (s + 21) h a m (arr h m)) (hev : okEv h l m (arr h m)) (W : HW h a m (arr h m)) (D : HC h l a (arr h m) cd) (hb : ∀ k, k < arr h m → ∃ d : Nat, J (s + 30) k = (d : Int) ∧ d < 256 ∧ ∀ r, r < 8 → (bt d r ≠ 0 ↔ (r < lRules l ∧ hHol h k r = true))) (hpk : ∀ e, e < m → J (s + 24) e = pkO h e) : XC J s q h l a m (arr h m) su0 cd (c + 1) := by
  obtain ⟨hq, n1, n2, n3, n4, n5, n6, n7, n8, n9, n10, n11, n12⟩ := N
  have e0 : ∀ z, z ≠ 12 → J s z = I s z := fun z hz => f s z (fun _ => hz) (by omega) (by omega)
  have e : ∀ y, y ≠ s → y ≠ s + 21 → (y < s + 32 ∨ (s + 51 < y ∧ y < s + 73) ∨ (s + 74 < y ∧ y < s + 99) ∨ s + 106 < y) → ∀ z, J y z = I y z := fun y h1 h2 h3 z => f y z (fun q => absurd q h1) (fun q => absurd q h2) h3
  have B : KB J s h l a m (arr h m) := ⟨hH, hb, ok, n3, hev, n4, n5⟩
  refine ⟨hq, ⟨cLi_eq n1 fun j hj z => e _ (by omega) (by omega) (by omega) z, (e q (by omega) (by omega) (by omega) 2).trans n2, hH, hR, hP, hL, ok, n3, hev, W.1⟩, B, ⟨hq, B, hS, ⟨fun p v hv => (by cases hv), fun v hv => (by cases hv), fun v hv => (by cases hv), fun v hv => (by cases hv)⟩, fun b hb => ?_, fun hh => ?_⟩, hC, ⟨fun b hb => ?_, fun x hx => ?_, fun x hx hv => ?_⟩, n6.eq fun j hj z => e _ (by omega) (by omega) (by omega) z, W, D, hpk, ⟨h12, by omega, n10.2.2⟩, ?_⟩
  · rw [e _ (by omega) (by omega) (by omega)]; exact n9 b hb
  · rw [h12, e0 13 (by decide)] at hh
    omega
  · rw [e _ (by omega) (by omega) (by omega)]; exact n8 b hb
  · rw [e _ (by omega) (by omega) (by omega), h12]
    have := n12 x hx
    omega
  · rw [e _ (by omega) (by omega) (by omega), h12] at hv
    have := n12 x (by have := hH.2.2.1; omega)
    omega
  · rw [e0 13 (by decide)]; omega
theorem XC.sb {a : Nat → Nat} {ne np c : Nat} {su : Su} {cd : Nat → Cd} (X : XC I s q h l a ne np su cd c) (hc : c + 1 < 100000) : SB I s q l cd c := by
  have h12 := X.ch
  exact ⟨X.hq, X.K.1, X.K.2.1, X.B.2.2.2.1, X.B.2.2.2.2.2.1, X.B.2.2.2.2.2.2, X.R, X.K.2.2.2.1.tim, X.E.1, X.Z.2.2.2.2.1, ⟨h12.1, h12.2.1, hc⟩, X.at, fun e he => by rw [← h12.1]; exact X.E.2.1 e he⟩

theorem mx_157 : mxl 157 = 1 := by decide +kernel
theorem mt_157 : mtc 157 = 9 := by decide +kernel
theorem rk_157 (as : List AV) : rkA 157 as = 3 := rfl
theorem l_157_0 : look 157 0 = some (.aload_n 0, 1, 0, 0, 0, 0) := by decide +kernel
theorem l_157_1 : look 157 1 = some (.getfield 42, 3, 9, 6, 2, 730) := by decide +kernel
theorem l_157_4 : look 157 4 = some (.iconst 0, 1, 0, 0, 0, 0) := by decide +kernel
theorem l_157_5 : look 157 5 = some (.invokevirtual 177, 3, 3, 2, 0, 687) := by decide +kernel
theorem l_157_8 : look 157 8 = some (.aload_n 0, 1, 0, 0, 0, 0) := by decide +kernel
theorem l_157_9 : look 157 9 = some (.getfield 67, 3, 9, 10, 2, 734) := by decide +kernel
theorem l_157_12 : look 157 12 = some (.invokevirtual 180, 3, 92, 1, 0, 691) := by decide +kernel
theorem l_157_15 : look 157 15 = some (.aload_n 0, 1, 0, 0, 0, 0) := by decide +kernel
theorem l_157_16 : look 157 16 = some (.dup, 1, 0, 0, 0, 0) := by decide +kernel
theorem l_157_17 : look 157 17 = some (.getfield 74, 3, 9, 12, 0, 736) := by decide +kernel
theorem l_157_20 : look 157 20 = some (.iconst 1, 1, 0, 0, 0, 0) := by decide +kernel
theorem l_157_21 : look 157 21 = some (.iadd, 1, 0, 0, 0, 0) := by decide +kernel
theorem l_157_22 : look 157 22 = some (.putfield 74, 3, 9, 12, 0, 736) := by decide +kernel
theorem l_157_25 : look 157 25 = some (.aload_n 0, 1, 0, 0, 0, 0) := by decide +kernel
theorem l_157_26 : look 157 26 = some (.getfield 57, 3, 9, 8, 2, 732) := by decide +kernel
theorem l_157_29 : look 157 29 = some (.getfield 218, 3, 5, 0, 2, 635) := by decide +kernel
theorem l_157_32 : look 157 32 = some (.aload_n 0, 1, 0, 0, 0, 0) := by decide +kernel
theorem l_157_33 : look 157 33 = some (.getfield 35, 3, 9, 5, 2, 729) := by decide +kernel
theorem l_157_36 : look 157 36 = some (.getfield 113, 3, 6, 0, 2, 439) := by decide +kernel
theorem l_157_39 : look 157 39 = some (.invokevirtual 297, 3, 9, 2, 0, 698) := by decide +kernel
theorem l_157_42 : look 157 42 = some (.aload_n 0, 1, 0, 0, 0, 0) := by decide +kernel
theorem l_157_43 : look 157 43 = some (.getfield 57, 3, 9, 8, 2, 732) := by decide +kernel
theorem l_157_46 : look 157 46 = some (.invokevirtual 183, 3, 49, 1, 0, 705) := by decide +kernel
theorem l_157_49 : look 157 49 = some (.aload_n 0, 1, 0, 0, 0, 0) := by decide +kernel
theorem l_157_50 : look 157 50 = some (.getfield 48, 3, 9, 7, 2, 731) := by decide +kernel
theorem l_157_53 : look 157 53 = some (.iconst 0, 1, 0, 0, 0, 0) := by decide +kernel
theorem l_157_54 : look 157 54 = some (.aaload, 1, 0, 0, 0, 0) := by decide +kernel
theorem l_157_55 : look 157 55 = some (.aload_n 0, 1, 0, 0, 0, 0) := by decide +kernel
theorem l_157_56 : look 157 56 = some (.getfield 57, 3, 9, 8, 2, 732) := by decide +kernel
theorem l_157_59 : look 157 59 = some (.getfield 140, 3, 5, 1, 2, 637) := by decide +kernel
theorem l_157_62 : look 157 62 = some (.invokevirtual 348, 3, 79, 2, 0, 719) := by decide +kernel
theorem l_157_65 : look 157 65 = some (.return_, 1, 0, 0, 0, 0) := by decide +kernel
theorem s_3z {x : Nat} (oh : oHistory S T x) : CL xs 3 [vr x, vi 0] (S, I, T, cc, zz) (FN none (S, (up (up I x 0 ((0 : Nat) : Int)) x 1 ((arr h 0 : Nat) : Int)), T, cc, zz)) := by
  refine CL_start (r := 0) (ls := [vr x, vi 0, vs 2]) (rk_3 _) rfl ?_
  refine w_aln l_3_0 rfl ?_
  refine w_iln l_3_1 rfl ?_
  refine w_pi l_3_2 (oHistory_sh oh) ?_
  refine w_aln l_3_5 rfl ?_
  refine w_ic l_3_6 (by decide) ?_
  refine w_pi l_3_7 (oHistory_sh oh) ?_
  refine w_ic l_3_10 (by decide) ?_
  refine w_isn l_3_11 ⟨Nat.le_of_ble_eq_true rfl, rfl⟩ ?_
  refine w_iln l_3_12 rfl ?_
  refine w_iln l_3_13 rfl ?_
  refine w_cge 42 l_3_14 (by decide) (fun _ => ?_) (fun hx => absurd hx (by decide))
  refine w_vr l_3_42 ?_
  exact ⟨rfl, rfl⟩
theorem s_157 (o : oDropSwitch S T s q y) (ck : oCk S T s) {a : Nat → Nat} {c : Nat} {cd : Nat → Cd} (N : SB I s q l cd c) (ok : okHi h) : CL xs 157 [vr s] (S, I, T, cc, zz) (RP S T cc zz (fun v I' => v = none ∧ XC I' s q h l a 0 (arr h 0) su0 cd (c + 1) ∧ mfR I I' s)) := by
  refine CL_start (r := 3) (ls := [vr s]) (rk_157 _) rfl ?_
  obtain ⟨hq, n1, n2, n3, n4, n5, n6, n7, n8, n9, n10, n11, n12⟩ := id N
  have eU : ∀ y z, (y = s + 21 → 1 < z) → (up (up I (s + 21) 0 ((0 : Nat) : Int)) (s + 21) 1 ((arr h 0 : Nat) : Int)) y z = I y z := fun y z hy => (up_out (by omega)).trans (up_out (by omega))
  refine w_aln l_157_0 rfl ?_
  refine w_gr l_157_1 (oDropSwitch_sh o) (oDropSwitch_r6 o) ?_
  refine w_ic l_157_4 (by decide) ?_
  refine q_iv [vi 0] [] l_157_5 rfl rfl (Nat.le_of_ble_eq_true rfl) (by rw [mx_3]; exact Nat.le_of_ble_eq_true rfl) (by rw [mt_3]; exact oHistory_sh (oDropSwitch_o6 o)) (by rw [mt_3]; decide) (by rw [rk_3]; decide) (s_3z (h := h) (oDropSwitch_o6 o)) ?_
  refine w_aln l_157_8 rfl ?_
  refine w_gr l_157_9 (oDropSwitch_sh o) (oDropSwitch_r10 o) ?_
  refine p_iv [] [] l_157_12 rfl rfl (Nat.le_of_ble_eq_true rfl) (by rw [mx_92]; exact Nat.le_of_ble_eq_true rfl) (by rw [mt_92]; exact oSuppositions_sh (oDropSwitch_o10 o)) (by rw [mt_92]; decide) (by rw [rk_92]; decide) (r_92 (oDropSwitch_o10 o)) (fun v I2 hv => ?_)
  obtain ⟨rfl, hS2, f2⟩ := hv
  have e2 : ∀ y z, (y = s + 21 → 1 < z) → (y < s + 73 ∨ s + 74 < y) → I2 y z = I y z := fun y z h1 h2 => (f2 y (by omega) z).trans (eU y z h1)
  refine w_aln l_157_15 rfl ?_
  refine w_dup l_157_16 rfl ?_
  refine w_gi ((c : Nat) : Int) l_157_17 (oDropSwitch_sh o) ((e2 s 12 (by omega) (by omega)).trans n10.1) ?_
  refine w_ic l_157_20 (by decide) ?_
  refine w_add (((c + 1) : Nat) : Int) l_157_21 (by unfold wr; omega) ?_
  refine w_pi l_157_22 (oDropSwitch_sh o) ?_
  refine w_aln l_157_25 rfl ?_
  refine w_gr l_157_26 (oDropSwitch_sh o) (oDropSwitch_r8 o) ?_
  refine w_gr l_157_29 (oRun_sh (oDropSwitch_o8 o)) (oRun_r0 (oDropSwitch_o8 o)) ?_
  refine w_aln l_157_32 rfl ?_
  refine w_gr l_157_33 (oDropSwitch_sh o) (oDropSwitch_r5 o) ?_
  refine w_gr l_157_36 (oSetup_sh (oDropSwitch_o5 o)) (oSetup_r0 (oDropSwitch_o5 o)) ?_
  have e3 : ∀ y z, (y = s → z ≠ 12) → (y = s + 21 → 1 < z) → (y < s + 73 ∨ s + 74 < y) → (up I2 s 12 ((c + 1 : Nat) : Int)) y z = I y z := fun y z h0 h1 h2 => (up_out (by omega)).trans (e2 y z h1 h2)
  have hL0 : cLi (up I2 s 12 ((c + 1 : Nat) : Int)) (q + 1) l := cLi_eq n1 fun j hj z => e3 _ z (by omega) (by omega) (by omega)
  refine p_iv [vr (q + 1)] [] l_157_39 rfl rfl (Nat.le_of_ble_eq_true rfl) (by rw [mx_9]; exact Nat.le_of_ble_eq_true rfl) (by rw [mt_9]; exact oLimits_sh (oRun_o0 (oDropSwitch_o8 o))) (by rw [mt_9]; decide) (by rw [rk_9]; decide) (t_limits (oRun_o0 (oDropSwitch_o8 o)) (oSetup_o0 (oDropSwitch_o5 o)) (by omega) hL0 n3.1) (fun v I4 hv => ?_)
  obtain ⟨rfl, hL4, f4⟩ := hv
  refine w_aln l_157_42 rfl ?_
  refine w_gr l_157_43 (oDropSwitch_sh o) (oDropSwitch_r8 o) ?_
  have e4 : ∀ y z, (y = s → z ≠ 12) → (y = s + 21 → 1 < z) → (y < s + 73 ∨ s + 74 < y) → (y < s + 33 ∨ s + 37 < y) → I4 y z = I y z := fun y z h0 h1 h2 h3 => (f4 y (by omega) z).trans (e3 y z h0 h1 h2)
  have hT4 : ∀ b, b < 64 → ∃ t : Nat, I4 (s + 32 + 6 + 7) b = (t : Int) ∧ t ≤ 120 := fun b hb => by rw [e4 _ _ (by omega) (by omega) (by omega) (by omega)]; exact n7 b hb
  refine p_iv [] [] l_157_46 rfl rfl (Nat.le_of_ble_eq_true rfl) (by rw [mx_49]; exact Nat.le_of_ble_eq_true rfl) (by rw [mt_49]; exact oRun_sh (oDropSwitch_o8 o)) (by rw [mt_49]; decide) (by rw [rk_49]; decide) (s_49 (h := h) (oDropSwitch_o8 o) hL4 n3 n4 hT4) (fun v I5 hv => ?_)
  obtain ⟨rfl, hR5, hP5, f5⟩ := hv
  refine w_aln l_157_49 rfl ?_
  refine w_gr l_157_50 (oDropSwitch_sh o) (oDropSwitch_r7 o) ?_
  refine w_ic l_157_53 (by decide) ?_
  refine w_aa (v := (s + 99 + 8 * 0)) 0 l_157_54 (oDropSwitch_s7 o) rfl (by omega) ((ck 0 (by decide)).1) ?_
  refine w_aln l_157_55 rfl ?_
  refine w_gr l_157_56 (oDropSwitch_sh o) (oDropSwitch_r8 o) ?_
  refine w_gr l_157_59 (oRun_sh (oDropSwitch_o8 o)) (oRun_r1 (oDropSwitch_o8 o)) ?_
  refine p_iv [vr (s + 32 + 6)] [] l_157_62 rfl rfl (Nat.le_of_ble_eq_true rfl) (by rw [mx_79]; exact Nat.le_of_ble_eq_true rfl) (by rw [mt_79]; exact oState_sh (ck 0 (by decide)).2) (by rw [mt_79]; decide) (by rw [rk_79]; decide) (t_copy (ck 0 (by decide)).2 (oRun_o1 (oDropSwitch_o8 o)) (by omega) hR5.1) (fun v I6 hv => ?_)
  obtain ⟨rfl, hS6, f6⟩ := hv
  refine w_vr l_157_65 ?_
  have f35 : ∀ y, (y < s + 33 ∨ (s + 51 < y ∧ y < s + 99) ∨ s + 106 < y) → ∀ z, I6 y z = (up I2 s 12 ((c + 1 : Nat) : Int)) y z := fun y hy z => (f6 y (by omega) z).trans ((f5 y (by omega) z).trans (f4 y (by omega) z))
  have f9 : mfR I I6 s := fun y z h1 h2 h3 => (f35 y (by omega) z).trans (e3 y z h1 h2 (by omega))
  have hH0 : cH I6 (s + 21) h a 0 (arr h 0) := ⟨(f35 _ (by omega) 0).trans ((up_no (by omega)).trans ((f2 _ (by omega) 0).trans ((up_nj (by decide)).trans up_eq))), (f35 _ (by omega) 1).trans ((up_no (by omega)).trans ((f2 _ (by omega) 1).trans up_eq)), by decide, Nat.le_refl _, fun e he => absurd he (Nat.not_lt_zero _), fun k hk => absurd hk (Nat.not_lt_zero _)⟩
  exact ⟨_, _, rfl, rfl, rfl, XC.rw N ok f9 ((f35 s (by omega) 12).trans up_eq) (cSu_eq hS2 fun j hj z => (f35 _ (by omega) z).trans (up_no (by omega))) ⟨cS_eq hR5.1 fun j hj z => f6 _ (by omega) z, cL_eq hR5.2 fun j hj z => f6 _ (by omega) z⟩ (cP_eq hP5 fun j hj z => f6 _ (by omega) z) (cLi_eq hL4 fun j hj z => (f6 _ (by omega) z).trans (f5 _ (by omega) z)) (fun c' hc' hn' => by
    have e8 : c' = 0 := by omega
    subst e8
    exact cS_eq hS6 fun j hj z => rfl) hH0 (fun e he => absurd he (Nat.not_lt_zero _)) ⟨fun e he => absurd he (Nat.not_lt_zero _), rfl, fun k hk => absurd hk (Nat.not_lt_zero _)⟩ (fun r hr k hk => absurd hk (Nat.not_lt_zero _)) (fun k hk => absurd hk (Nat.not_lt_zero _)) (fun e he => absurd he (Nat.not_lt_zero _)), f9⟩

end CRW
