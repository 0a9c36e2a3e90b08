/-! the law: its loop, its start -/
theorem oModel_ex {S S' : List (Nat × Nat)} {T T' : Nat → Nat → Nat} {s : Nat} (h : oModel S T s) (e : ex S S') (f : ∀ w, T' s w = T s w) : oModel S' T' s := by
  obtain ⟨h0, h1, h2, h3, h4, h5, h6, h7, h8, h9, h10, h11, h12, h13, h14, h15, h16, h17, h18, h19, h20, h21, h22, h23, h24, h25, h26, h27, h28, h29, h30, h31, h32, h33, h34, h35, h36, h37, h38, h39, h40, h41, h42, h43, h44, h45, h46, h47, h48, h49, h50, h51, h52, h53, h54, h55, h56, h57, h58, h59, h60, h61, h62, h63, h64, h65, h66, h67, h68, h69, h70, h71, h72, h73, h74, h75, h76, h77, h78⟩ := h
  exact ⟨e _ _ h0, e _ _ h1, (f _).trans h2, e _ _ h3, (f _).trans h4, e _ _ h5, (f _).trans h6, e _ _ h7, (f _).trans h8, e _ _ h9, (f _).trans h10, e _ _ h11, (f _).trans h12, e _ _ h13, (f _).trans h14, e _ _ h15, (f _).trans h16, e _ _ h17, (f _).trans h18, e _ _ h19, (f _).trans h20, e _ _ h21, (f _).trans h22, e _ _ h23, (f _).trans h24, e _ _ h25, (f _).trans h26, e _ _ h27, (f _).trans h28, e _ _ h29, (f _).trans h30, e _ _ h31, (f _).trans h32, e _ _ h33, (f _).trans h34, e _ _ h35, (f _).trans h36, e _ _ h37, (f _).trans h38, e _ _ h39, (f _).trans h40, e _ _ h41, (f _).trans h42, e _ _ h43, (f _).trans h44, e _ _ h45, (f _).trans h46, e _ _ h47, (f _).trans h48, e _ _ h49, (f _).trans h50, e _ _ h51, (f _).trans h52, e _ _ h53, (f _).trans h54, e _ _ h55, (f _).trans h56, e _ _ h57, (f _).trans h58, e _ _ h59, (f _).trans h60, e _ _ h61, (f _).trans h62, e _ _ h63, (f _).trans h64, e _ _ h65, (f _).trans h66, e _ _ h67, (f _).trans h68, e _ _ h69, (f _).trans h70, e _ _ h71, (f _).trans h72, e _ _ h73, (f _).trans h74, e _ _ h75, (f _).trans h76, e _ _ h77, (f _).trans h78⟩
theorem l_344_0 : look 344 0 = some (.new 8, 3, 9, 17, 0, 149) := by decide +kernel
theorem l_344_3 : look 344 3 = some (.dup, 1, 0, 0, 0, 0) := by decide +kernel
theorem l_344_4 : look 344 4 = some (.invokespecial 135, 3, 98, 1, 2, 151) := by decide +kernel
theorem l_344_7 : look 344 7 = some (.astore_n 1, 1, 0, 0, 0, 0) := by decide +kernel
theorem l_344_8 : look 344 8 = some (.new 136, 3, 10, 76, 0, 1495) := by decide +kernel
theorem l_344_11 : look 344 11 = some (.dup, 1, 0, 0, 0, 0) := by decide +kernel
theorem l_344_12 : look 344 12 = some (.invokespecial 138, 3, 167, 1, 2, 1497) := by decide +kernel
theorem l_344_15 : look 344 15 = some (.astore_n 2, 1, 0, 0, 0, 0) := by decide +kernel
theorem l_344_16 : look 344 16 = some (.iconst 1, 1, 0, 0, 0, 0) := by decide +kernel
theorem l_344_17 : look 344 17 = some (.newarray .long, 2, 2, 0, 0, 0) := by decide +kernel
theorem l_344_19 : look 344 19 = some (.astore_n 3, 1, 0, 0, 0, 0) := by decide +kernel
theorem l_344_20 : look 344 20 = some (.iconst 0, 1, 0, 0, 0, 0) := by decide +kernel
theorem l_344_21 : look 344 21 = some (.istore 4, 2, 0, 0, 0, 0) := by decide +kernel
theorem l_344_23 : look 344 23 = some (.iload 4, 2, 0, 0, 0, 0) := by decide +kernel
theorem l_344_25 : look 344 25 = some (.aload_n 0, 1, 0, 0, 0, 0) := by decide +kernel
theorem l_344_26 : look 344 26 = some (.arraylength, 1, 0, 0, 0, 0) := by decide +kernel
theorem l_344_27 : look 344 27 = some (.bipush 6, 2, 0, 0, 0, 0) := by decide +kernel
theorem l_344_29 : look 344 29 = some (.isub, 1, 0, 0, 0, 0) := by decide +kernel
theorem l_344_30 : look 344 30 = some (.if_icmp .gt 2690, 3, 0, 0, 0, 0) := by decide +kernel
theorem l_344_33 : look 344 33 = some (.aload_n 0, 1, 0, 0, 0, 0) := by decide +kernel
theorem l_344_34 : look 344 34 = some (.iload 4, 2, 0, 0, 0, 0) := by decide +kernel
theorem l_344_36 : look 344 36 = some (.iaload, 1, 0, 0, 0, 0) := by decide +kernel
theorem l_344_37 : look 344 37 = some (.bipush 63, 2, 0, 0, 0, 0) := by decide +kernel
theorem l_344_39 : look 344 39 = some (.iand, 1, 0, 0, 0, 0) := by decide +kernel
theorem l_344_40 : look 344 40 = some (.tableswitch 2674 0 47 #[208, 281, 306, 350, 363, 376, 432, 536, 580, 664, 720, 776, 832, 888, 944, 1000, 1068, 1131, 1187, 1243, 1256, 1312, 1380, 1448, 1504, 1560, 1616, 1672, 1685, 1741, 1809, 1877, 1933, 2013, 2069, 2082, 2095, 2151, 2219, 2275, 2288, 2301, 2357, 2425, 2481, 2537, 2593, 2649], 208, 0, 0, 0, 0) := by decide +kernel
theorem l_344_2714 : look 344 2714 = some (.iinc 4 6, 3, 0, 0, 0, 0) := by decide +kernel
theorem l_344_2717 : look 344 2717 = some (.goto (-2694), 3, 0, 0, 0, 0) := by decide +kernel
theorem l_344_2720 : look 344 2720 = some (.iconst 1, 1, 0, 0, 0, 0) := by decide +kernel
theorem l_344_2721 : look 344 2721 = some (.ireturn, 1, 0, 0, 1, 0) := by decide +kernel
theorem rk_344 (as : List AV) : rkA 344 as = 35 := rfl
section LWL
variable {xs : List Int} {S : List (Nat × Nat)} {T : Nat → Nat → Nat} {I : Ix} {cc zz s c i : Nat} {v5 v6 : AV} {Q : Res → Mem → Prop}
theorem sw_344 (IV : INV S T I s c) (hb : 1 ≤ cc ∧ 6 ≤ zz) (hc : c + 1 < 100000) (hi : i + 5 < xs.length) (hxl : xs.length ≤ 100000) (KK : KKP xs S s i cc zz c Q) {z : Int} : WP xs 344 35 40 [vs 3, vr s, vr (s + 163), vr (s + 203), vi ((i : Nat) : Int), v5, v6] [vi z] (S, I, T, cc, zz) Q := by
  by_cases hz : z < 0 ∨ 47 < z
  · exact w_swd 2714 l_344_40 hz (by decide) (KK _ _ _ _ _ _ _ IV (by omega) (by omega) (by omega))
  obtain ⟨d, rfl⟩ := nn (show 0 ≤ z by omega)
  have hd : d < 48 := by omega
  clear hz
  by_cases e0 : d = 0
  · subst e0
    exact w_swi 248 l_344_40 (by decide) rfl (by decide) (cs_0 IV hb hc hi hxl KK)
  by_cases e1 : d = 1
  · subst e1
    exact w_swi 321 l_344_40 (by decide) rfl (by decide) (cs_1 IV hb hc hi hxl KK)
  by_cases e2 : d = 2
  · subst e2
    exact w_swi 346 l_344_40 (by decide) rfl (by decide) (cs_2 IV hb hc hi hxl KK)
  by_cases e3 : d = 3
  · subst e3
    exact w_swi 390 l_344_40 (by decide) rfl (by decide) (cs_3 IV hb hc hi hxl KK)
  by_cases e4 : d = 4
  · subst e4
    exact w_swi 403 l_344_40 (by decide) rfl (by decide) (cs_4 IV hb hc hi hxl KK)
  by_cases e5 : d = 5
  · subst e5
    exact w_swi 416 l_344_40 (by decide) rfl (by decide) (cs_5 IV hb hc hi hxl KK)
  by_cases e6 : d = 6
  · subst e6
    exact w_swi 472 l_344_40 (by decide) rfl (by decide) (cs_6 IV hb hc hi hxl KK)
  by_cases e7 : d = 7
  · subst e7
    exact w_swi 576 l_344_40 (by decide) rfl (by decide) (cs_7 IV hb hc hi hxl KK)
  by_cases e8 : d = 8
  · subst e8
    exact w_swi 620 l_344_40 (by decide) rfl (by decide) ((Classical.em (xs.getD (i + 2) 0 = 0)).elim (fun hz => cs_8_0 IV hb hc hi hxl hz KK) (fun hz => cs_8_1 IV hb hc hi hxl hz KK))
  by_cases e9 : d = 9
  · subst e9
    exact w_swi 704 l_344_40 (by decide) rfl (by decide) (cs_9 IV hb hc hi hxl KK)
  by_cases e10 : d = 10
  · subst e10
    exact w_swi 760 l_344_40 (by decide) rfl (by decide) (cs_10 IV hb hc hi hxl KK)
  by_cases e11 : d = 11
  · subst e11
    exact w_swi 816 l_344_40 (by decide) rfl (by decide) (cs_11 IV hb hc hi hxl KK)
  by_cases e12 : d = 12
  · subst e12
    exact w_swi 872 l_344_40 (by decide) rfl (by decide) (cs_12 IV hb hc hi hxl KK)
  by_cases e13 : d = 13
  · subst e13
    exact w_swi 928 l_344_40 (by decide) rfl (by decide) (cs_13 IV hb hc hi hxl KK)
  by_cases e14 : d = 14
  · subst e14
    exact w_swi 984 l_344_40 (by decide) rfl (by decide) (cs_14 IV hb hc hi hxl KK)
  by_cases e15 : d = 15
  · subst e15
    exact w_swi 1040 l_344_40 (by decide) rfl (by decide) (cs_15 IV hb hc hi hxl KK)
  by_cases e16 : d = 16
  · subst e16
    exact w_swi 1108 l_344_40 (by decide) rfl (by decide) (cs_16 IV hb hc hi hxl KK)
  by_cases e17 : d = 17
  · subst e17
    exact w_swi 1171 l_344_40 (by decide) rfl (by decide) (cs_17 IV hb hc hi hxl KK)
  by_cases e18 : d = 18
  · subst e18
    exact w_swi 1227 l_344_40 (by decide) rfl (by decide) (cs_18 IV hb hc hi hxl KK)
  by_cases e19 : d = 19
  · subst e19
    exact w_swi 1283 l_344_40 (by decide) rfl (by decide) (cs_19 IV hb hc hi hxl KK)
  by_cases e20 : d = 20
  · subst e20
    exact w_swi 1296 l_344_40 (by decide) rfl (by decide) (cs_20 IV hb hc hi hxl KK)
  by_cases e21 : d = 21
  · subst e21
    exact w_swi 1352 l_344_40 (by decide) rfl (by decide) (cs_21 IV hb hc hi hxl KK)
  by_cases e22 : d = 22
  · subst e22
    exact w_swi 1420 l_344_40 (by decide) rfl (by decide) (cs_22 IV hb hc hi hxl KK)
  by_cases e23 : d = 23
  · subst e23
    exact w_swi 1488 l_344_40 (by decide) rfl (by decide) (cs_23 IV hb hc hi hxl KK)
  by_cases e24 : d = 24
  · subst e24
    exact w_swi 1544 l_344_40 (by decide) rfl (by decide) (cs_24 IV hb hc hi hxl KK)
  by_cases e25 : d = 25
  · subst e25
    exact w_swi 1600 l_344_40 (by decide) rfl (by decide) (cs_25 IV hb hc hi hxl KK)
  by_cases e26 : d = 26
  · subst e26
    exact w_swi 1656 l_344_40 (by decide) rfl (by decide) (cs_26 IV hb hc hi hxl KK)
  by_cases e27 : d = 27
  · subst e27
    exact w_swi 1712 l_344_40 (by decide) rfl (by decide) (cs_27 IV hb hc hi hxl KK)
  by_cases e28 : d = 28
  · subst e28
    exact w_swi 1725 l_344_40 (by decide) rfl (by decide) (cs_28 IV hb hc hi hxl KK)
  by_cases e29 : d = 29
  · subst e29
    exact w_swi 1781 l_344_40 (by decide) rfl (by decide) (cs_29 IV hb hc hi hxl KK)
  by_cases e30 : d = 30
  · subst e30
    exact w_swi 1849 l_344_40 (by decide) rfl (by decide) (cs_30 IV hb hc hi hxl KK)
  by_cases e31 : d = 31
  · subst e31
    exact w_swi 1917 l_344_40 (by decide) rfl (by decide) (cs_31 IV hb hc hi hxl KK)
  by_cases e32 : d = 32
  · subst e32
    exact w_swi 1973 l_344_40 (by decide) rfl (by decide) (cs_32 IV hb hc hi hxl KK)
  by_cases e33 : d = 33
  · subst e33
    exact w_swi 2053 l_344_40 (by decide) rfl (by decide) (cs_33 IV hb hc hi hxl KK)
  by_cases e34 : d = 34
  · subst e34
    exact w_swi 2109 l_344_40 (by decide) rfl (by decide) (cs_34 IV hb hc hi hxl KK)
  by_cases e35 : d = 35
  · subst e35
    exact w_swi 2122 l_344_40 (by decide) rfl (by decide) (cs_35 IV hb hc hi hxl KK)
  by_cases e36 : d = 36
  · subst e36
    exact w_swi 2135 l_344_40 (by decide) rfl (by decide) (cs_36 IV hb hc hi hxl KK)
  by_cases e37 : d = 37
  · subst e37
    exact w_swi 2191 l_344_40 (by decide) rfl (by decide) (cs_37 IV hb hc hi hxl KK)
  by_cases e38 : d = 38
  · subst e38
    exact w_swi 2259 l_344_40 (by decide) rfl (by decide) (cs_38 IV hb hc hi hxl KK)
  by_cases e39 : d = 39
  · subst e39
    exact w_swi 2315 l_344_40 (by decide) rfl (by decide) (cs_39 IV hb hc hi hxl KK)
  by_cases e40 : d = 40
  · subst e40
    exact w_swi 2328 l_344_40 (by decide) rfl (by decide) (cs_40 IV hb hc hi hxl KK)
  by_cases e41 : d = 41
  · subst e41
    exact w_swi 2341 l_344_40 (by decide) rfl (by decide) (cs_41 IV hb hc hi hxl KK)
  by_cases e42 : d = 42
  · subst e42
    exact w_swi 2397 l_344_40 (by decide) rfl (by decide) (cs_42 IV hb hc hi hxl KK)
  by_cases e43 : d = 43
  · subst e43
    exact w_swi 2465 l_344_40 (by decide) rfl (by decide) (cs_43 IV hb hc hi hxl KK)
  by_cases e44 : d = 44
  · subst e44
    exact w_swi 2521 l_344_40 (by decide) rfl (by decide) (cs_44 IV hb hc hi hxl KK)
  by_cases e45 : d = 45
  · subst e45
    exact w_swi 2577 l_344_40 (by decide) rfl (by decide) (cs_45 IV hb hc hi hxl KK)
  by_cases e46 : d = 46
  · subst e46
    exact w_swi 2633 l_344_40 (by decide) rfl (by decide) (cs_46 IV hb hc hi hxl KK)
  by_cases e47 : d = 47
  · subst e47
    exact w_swi 2689 l_344_40 (by decide) rfl (by decide) (cs_47 IV hb hc hi hxl KK)
  omega
theorem lp_344 (hxl : xs.length ≤ 3072) : ∀ (d i c : Nat) (S : List (Nat × Nat)) (T : Nat → Nat → Nat) (I : Ix) (cc zz : Nat) (v5 v6 : AV), INV S T I s c → xs.length < i + 6 + 6 * d → i ≤ xs.length + 6 → d ≤ cc → 6 * d ≤ zz → c + d < 100000 → WP xs 344 35 23 [vs 3, vr s, vr (s + 163), vr (s + 203), vi ((i : Nat) : Int), v5, v6] [] (S, I, T, cc, zz) (fun o _ => o = .inl (some (vi 1))) := by
  intro d
  induction d with
  | zero =>
    intro i c S T I cc zz v5 v6 IV hl hil h1 h2 h3
    refine w_il l_344_23 rfl ?_
    refine w_asn l_344_25 rfl ?_
    refine w_lxs l_344_26 ?_
    refine w_bp l_344_27 (by decide) ?_
    refine w_sub ((xs.length : Int) - 6) l_344_29 (by unfold wr; omega) ?_
    refine w_cgt 2720 l_344_30 (by decide) (fun _ => ?_) (fun hx => absurd hx (by omega))
    refine w_ic l_344_2720 (by decide) ?_
    exact w_ir l_344_2721 (by decide) rfl
  | succ d ih =>
    intro i c S T I cc zz v5 v6 IV hl hil h1 h2 h3
    refine w_il l_344_23 rfl ?_
    refine w_asn l_344_25 rfl ?_
    refine w_lxs l_344_26 ?_
    refine w_bp l_344_27 (by decide) ?_
    refine w_sub ((xs.length : Int) - 6) l_344_29 (by unfold wr; omega) ?_
    refine w_cgt 2720 l_344_30 (by decide) (fun hg => ?_) (fun hg => ?_)
    · refine w_ic l_344_2720 (by decide) ?_
      exact w_ir l_344_2721 (by decide) rfl
    · refine w_asn l_344_33 rfl ?_
      refine w_il l_344_34 rfl ?_
      refine w_xs i (xs.getD i 0) l_344_36 rfl (by omega) rfl ?_
      refine w_bp l_344_37 (by decide) ?_
      refine w_and _ l_344_39 rfl ?_
      refine sw_344 IV (by omega) (by omega) (by omega) (by omega) (fun I' T' c' cc' zz' v5' v6' IV' e1 e2 e3 => ?_)
      refine w_inc ((i + 6 : Nat) : Int) l_344_2714 rfl rfl (by unfold wr; omega) ?_
      refine w_go 23 l_344_2717 (by decide) ?_
      exact ih (i + 6) c' S T' I' cc' zz' v5' v6' IV' (by omega) (by omega) (by omega) (by omega) (by omega)
def h_0 : Hi := ((fun _ => (0, 0, 0)), (fun _ => (0, 0, 1, 0)), fun _ _ => false)
theorem h_0ok : okHi h_0 := fun _ => ⟨show 1 ≤ 9 by decide, show 1 ≤ 1 by decide, show 0 ≤ 3 by decide, show 0 < 64 by decide, show 0 < 64 by decide⟩
/-- the start of both -/
theorem INV_0 {S S' : List (Nat × Nat)} {T T' : Nat → Nat → Nat} {I I' : Ix} {s : Nat} {a : Nat → Nat} (o : oDropSwitch S T s (s + 12) (s + 3)) (ck : oCk S T s) (X : XC I s (s + 12) h_0 ps0.1 a 0 (arr h_0 0) su0 ps0.2.2 2) (n1 : I s 1 = 0) (n2 : I s 2 = -1) (n3 : I s 3 = 0) (n4 : I (s + 97) 1 = 0) (n5 : I (s + 12 + 7) 0 = 0) (n6 : I (s + 3 + 7) 0 = 0) (e : ex S S') (f : ∀ z w, z < s + 163 → I' z w = I z w ∧ T' z w = T z w) (hm : oModel S' T' (s + 163)) (h203 : S'[s + 203]? = some (2, 1))
    (m1 : I' (s + 163) 7 = 400 ∧ I' (s + 163) 8 = 100 ∧ I' (s + 163) 9 = 99 ∧ I' (s + 163) 23 = -1 ∧ I' (s + 163) 44 = -1 ∧ I' (s + 163) 45 = -1 ∧ I' (s + 163) 46 = -1) (m2 : ∀ w, (w ≠ 7 ∧ w ≠ 8 ∧ w ≠ 9 ∧ w ≠ 23 ∧ w ≠ 44 ∧ w ≠ 45 ∧ w ≠ 46) → I' (s + 163) w = 0) (m3 : ∀ w, I' (s + 163 + 24) w = 0) (m4 : ∀ p, p < 4 → I' (s + 163 + 23) p = -1) : INV S' T' I' s 2 := by
  refine ⟨hm, h203, s + 12, s + 3, h_0, ps0.1, a, 0, 0, su0, ps0.2.2, (fun _ => []), [], (fun _ => 0), 0, -1, 0, ?_, ?_⟩
  · refine ⟨⟨oDropSwitch_ex o e (fun z w h1 _ => (f z w (by omega)).2) (by omega) (by omega), fun c hc => ⟨(f _ _ (by omega)).2.trans (ck c hc).1, oState_ex (ck c hc).2 e (fun w => (f _ w (by omega)).2)⟩, by unfold dQ; omega⟩, X.eq ⟨(f _ _ (by omega)).1, (f _ _ (by omega)).1, fun b z _ _ => (f b z (by omega)).1, fun b z _ _ => (f b z (by omega)).1, fun b z _ _ => (f b z (by omega)).1⟩, fun p hp => absurd hp (Nat.not_lt_zero p), ⟨(f _ _ (by omega)).1.trans n1, by decide, fun j hj => absurd hj (Nat.not_lt_zero j)⟩, ⟨(f _ _ (by omega)).1.trans n4, by decide, fun j hj => absurd hj (Nat.not_lt_zero j)⟩, ⟨(f _ _ (by omega)).1.trans n2, (f _ _ (by omega)).1.trans n3⟩, (f _ _ (by omega)).1.trans n5, (f _ _ (by omega)).1.trans n6⟩
  · obtain ⟨a1, a2, a3, a4, a5, a6, a7⟩ := m1
    refine ⟨⟨⟨by decide, by decide, fun x hx => absurd hx (Nat.not_lt_zero x), fun x hx => absurd hx (Nat.not_lt_zero x)⟩, ⟨m2 1 (by decide), fun p hp => absurd hp (Nat.not_lt_zero p), a1, a3, a2, m2 10 (by decide), fun p hp => absurd hp (Nat.not_lt_zero p), fun r => rfl⟩, fun r hr => absurd hr (Nat.not_lt_zero r), h_0ok, X.K.2.2.2.2.2.2.2.1, fun x hx => absurd hx (Nat.not_lt_zero x), fun x hx => absurd hx (Nat.not_lt_zero x), m2 15 (by decide), m2 16 (by decide)⟩, ⟨m4, a5, a6, a7, ⟨0, m2 47 (by decide), by decide, fun r hr => ?_⟩, fun x hx => m3 x⟩, fun p hp => absurd hp (Nat.not_lt_zero p), ⟨m2 20 (by decide), by decide, fun j hj => absurd hj (Nat.not_lt_zero j)⟩, ⟨m2 75 (by decide), by decide, fun j hj => absurd hj (Nat.not_lt_zero j)⟩, ⟨a4, m2 24 (by decide)⟩, fun x hx => absurd hx (Nat.not_lt_zero x), okB_0 _⟩
    exact ⟨fun q => absurd (by unfold bt; simp) q, fun q => by cases q⟩
end LWL
theorem law_AM (xs : List Int) (hxl : xs.length ≤ 3072) : CL xs 344 [vs 3] ([], (fun _ _ => 0), (fun _ _ => 0), 601024, 7293034) (fun o _ => o = .inl (some (vi 1))) := by
  refine CL_start (r := 35) (ls := [vs 3, vs 2, vs 2, vs 2, vs 2, vs 2, vs 2]) (rk_344 _) rfl ?_
  refine w_nw l_344_0 (by decide) (by decide) ?_
  refine w_dup l_344_3 rfl ?_
  refine w_cs (o := 0) [] [vr 0] l_344_4 (by decide) rfl rfl (Nat.le_of_ble_eq_true rfl) (by rw [mx_98]; exact Nat.le_of_ble_eq_true rfl) (by rw [rk_98]; decide) (CL_mono (nc_98 (o := 0) (h := h_0) (a := fun _ => 0) rfl rfl (by decide) (by decide) h_0ok) fun r m1 hr => ?_)
  obtain ⟨S1, I1, T1, rfl, rfl, hL, o1, ck1, X1, n1, n2, n3, n4, n5, n6⟩ := hr
  show WP xs 344 35 7 [vs 3, vs 2, vs 2, vs 2, vs 2, vs 2, vs 2] [vr 0] (S1, I1, T1, 600861, 7268892) _
  have hL1 : S1.length = 163 := by omega
  refine w_ran l_344_7 ⟨Nat.le_of_ble_eq_true rfl, rfl⟩ ?_
  refine w_nw l_344_8 (by decide) (by decide) ?_
  rw [hL1]
  refine w_dup l_344_11 rfl ?_
  refine w_cs (o := 163) [] [vr 163] l_344_12 (by decide) rfl rfl (Nat.le_of_ble_eq_true rfl) (by rw [mx_167]; exact Nat.le_of_ble_eq_true rfl) (by rw [rk_167]; decide) (CL_mono (nc_167 (o := 163) (ap_e hL1.symm) (by rw [List.length_append, hL1]; rfl) (by decide) (by decide)) fun r m1 hr => ?_)
  obtain ⟨I2, T2, rfl, rfl, f, hm, a1, a2, a3, a4⟩ := hr
  show WP xs 344 35 15 [vs 3, vr 0, vs 2, vs 2, vs 2, vs 2, vs 2] [vr 163] (S1 ++ [(0, 10)] ++ [(2, 4), (1, 4), (1, 4), (1, 4), (1, 4), (4, 8), (1, 8), (1, 8), (1, 900), (1, 840), (1, 120), (3, 600), (2, 4), (1, 4), (1, 4), (1, 4), (1, 4), (4, 8), (1, 8), (1, 8), (1, 900), (1, 300), (1, 4), (4, 120), (1, 4), (4, 120), (4, 4), (1, 400), (1, 400), (1, 4), (1, 4), (1, 64), (1, 64), (1, 480), (1, 4), (1, 2000), (4, 300), (4, 600), (1, 900)], I2, T2, 600821, 7259596) _
  refine w_ran l_344_15 ⟨Nat.le_of_ble_eq_true rfl, rfl⟩ ?_
  refine w_ic l_344_16 (by decide) ?_
  refine w_na (n := 1) l_344_17 (fun _ _ _ _ => rfl) (by decide) (by decide) (by decide) ?_
  have hL2 : (S1 ++ [(0, 10)] ++ [(2, 4), (1, 4), (1, 4), (1, 4), (1, 4), (4, 8), (1, 8), (1, 8), (1, 900), (1, 840), (1, 120), (3, 600), (2, 4), (1, 4), (1, 4), (1, 4), (1, 4), (4, 8), (1, 8), (1, 8), (1, 900), (1, 300), (1, 4), (4, 120), (1, 4), (4, 120), (4, 4), (1, 400), (1, 400), (1, 4), (1, 4), (1, 64), (1, 64), (1, 480), (1, 4), (1, 2000), (4, 300), (4, 600), (1, 900)] : List (Nat × Nat)).length = 203 := by rw [List.length_append, List.length_append, hL1]; rfl
  rw [hL2]
  refine w_ran l_344_19 ⟨Nat.le_of_ble_eq_true rfl, rfl⟩ ?_
  refine w_ic l_344_20 (by decide) ?_
  refine w_is l_344_21 ⟨Nat.le_of_ble_eq_true rfl, rfl⟩ ?_
  refine lp_344 (s := 0) hxl 512 0 2 _ _ _ _ _ (vs 2) (vs 2) ?_ (by omega) (by omega) (by decide) (by decide) (by decide)
  have zz0 : ∀ w, zr 163 I1 163 w = 0 := fun w => zr_e
  refine INV_0 (s := 0) o1 ck1 X1 n1 n2 n3 n4 n5 n6 (((ex_rf _).ap _).ap _ |>.ap _) (fun z w h1 => ⟨?_, ?_⟩) (oModel_ex hm ((ex_rf _).ap _) (fun w => zt_o (by decide))) (ap_e hL2.symm) ?_ (fun w hw => ?_) (fun w => ?_) (fun p hp => ?_)
  · rw [zr_o (by omega), (f z w (by omega)).1, zr_o (by omega)]
  · rw [zt_o (by omega), (f z w (by omega)).2, zt_o (by omega)]
  · exact a1
  · exact (zr_o (by decide)).trans ((a2 w hw).trans (zz0 w))
  · exact (zr_o (by decide)).trans (a3 187 w (by decide) (by decide) (by decide))
  · exact (zr_o (by decide)).trans (a4 p hp)
