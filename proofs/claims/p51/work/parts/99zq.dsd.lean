/-! constructor of the class: its States, begun anew -/
section DSD
variable {xs : List Int} {S : List (Nat × Nat)} {I : Ix} {T : Nat → Nat → Nat} {cc zz o : Nat} {Q : Res → Mem → Prop}
theorem lp_98 : ∀ (d k : Nat) (S : List (Nat × Nat)) (I : Ix) (T : Nat → Nat → Nat) (cc zz : Nat), d + k = 8 → S.length = o + 99 + 8 * k → S[o]? = some (0, 9) → S[o + 31]? = some (5, 8) → T o 7 = o + 31 + 1 → 8 * d ≤ cc → 1109 * d ≤ zz →
    (∀ S' I' T', ex S S' → S'.length = o + 163 → (∀ z w, z < o + 99 + 8 * k → I' z w = I z w) → (∀ z w, z < o + 99 + 8 * k → z ≠ o + 31 → T' z w = T z w) → (∀ c, c < k → T' (o + 31) c = T (o + 31) c) → (∀ c, k ≤ c → c < 8 → T' (o + 31) c = o + 99 + 8 * c + 1 ∧ oState S' T' (o + 99 + 8 * c)) → (∀ z w, o + 99 + 8 * k ≤ z → z < o + 163 → I' z w = 0) → WP xs 98 4 195 [vr o, vi 8] [] (S', I', T', cc - 8 * d, zz - 1109 * d) Q) → WP xs 98 4 170 [vr o, vi ((k : Nat) : Int)] [] (S, I, T, cc, zz) Q := by
  intro d
  induction d with
  | zero =>
    intro k S I T cc zz hk hL hs h31 h7 hc hz h
    have e8 : k = 8 := by omega
    subst e8
    refine w_iln l_98_170 rfl ?_
    refine w_bp l_98_171 (by decide) ?_
    refine w_cge 195 l_98_173 (by decide) (fun _ => ?_) (fun hx => absurd hx (by decide))
    exact h S I T (ex_rf _) (by omega) (fun _ _ _ => rfl) (fun _ _ _ _ => rfl) (fun _ _ => rfl) (fun c h1 h2 => absurd h1 (by omega)) (fun z w h1 h2 => absurd h1 (by omega))
  | succ d ih =>
    intro k S I T cc zz hk hL hs h31 h7 hc hz h
    refine w_iln l_98_170 rfl ?_
    refine w_bp l_98_171 (by decide) ?_
    refine w_cge 195 l_98_173 (by decide) (fun hx => absurd hx (by omega)) (fun _ => ?_)
    refine w_aln l_98_176 rfl ?_
    refine w_gr l_98_177 hs h7 ?_
    refine w_iln l_98_180 rfl ?_
    refine w_nw l_98_181 (by omega) (by omega) ?_
    rw [hL]
    refine w_dup l_98_184 rfl ?_
    refine q_cs [] [vr (o + 99 + 8 * k), vi ((k : Nat) : Int), vr (o + 31)] l_98_185 (by decide) rfl rfl (Nat.le_of_ble_eq_true rfl) (by rw [mx_77]; exact Nat.le_of_ble_eq_true rfl) (by rw [rk_77]; decide) (nc_77 (o := o + 99 + 8 * k) (ap_e hL.symm) (by rw [List.length_append, hL]; rfl) (by omega) (by omega)) (fun I1 T1 f1 g1 z1 p1 => ?_)
    refine w_aS k l_98_188 (ap_l (ap_l h31)) (ap_l (ap_e hL.symm)) rfl (by omega) ?_
    refine w_inc (((k + 1 : Nat) : Nat) : Int) l_98_189 rfl rfl (by unfold wr; omega) ?_
    refine w_go 170 l_98_192 (by decide) ?_
    refine ih (k + 1) _ _ _ _ _ (by omega) (by rw [List.length_append, List.length_append, hL]; simp only [List.length_cons, List.length_nil]; omega) (ap_l (ap_l hs)) (ap_l (ap_l h31)) ?_ (by omega) (by omega) (fun S' I' T' e' hL' fI fT fC st zz' => ?_)
    · rw [ut_o (by omega), (f1 o 7 (by omega)).2, zt_o (by omega)]; exact h7
    · have h' := h S' I' T' (fun j x hx => e' j x (ap_l (ap_l hx))) hL' (fun z w hz => ?_) (fun z w hz h1 => ?_) (fun c hc => ?_) (fun c h1 h2 => ?_) (fun z w h1 h2 => ?_)
      · rw [show cc - 8 * (d + 1) = cc - 1 - 7 - 8 * d by omega, show zz - 1109 * (d + 1) = zz - 9 - 1100 - 1109 * d by omega] at h'
        exact h'
      · rw [fI z w (by omega), (f1 z w (by omega)).1, zr_o (by omega)]
      · rw [fT z w (by omega) h1, ut_o (by omega), (f1 z w (by omega)).2, zt_o (by omega)]
      · rw [fC c (by omega), ut_o (by omega), (f1 _ _ (by omega)).2, zt_o (by omega)]
      · by_cases hck : c = k
        · subst hck
          refine ⟨?_, oState_ex p1 e' (fun w => (fT _ w (by omega) (by omega)).trans (ut_o (by omega)))⟩
          rw [fC c (by omega), ut_e]
        · exact st c (by omega) h2
      · by_cases h3 : o + 99 + 8 * (k + 1) ≤ z
        · exact zz' z w h3 h2
        · rw [fI z w (by omega)]
          by_cases h4 : z = o + 99 + 8 * k
          · rw [h4, g1, zr_e]
          · exact z1 z w (by omega) (by simp only [List.length_cons, List.length_nil]; omega)
theorem oDropSwitch_ex {S' : List (Nat × Nat)} {T' : Nat → Nat → Nat} {s q y : Nat} (h : oDropSwitch S T s q y) (e : ex S S') (f : ∀ z w, z < s + 99 → z ≠ s + 31 → T' z w = T z w) (hq : q + 8 < s + 21) (hy : y + 8 < s + 21) : oDropSwitch S' T' s q y := by
  obtain ⟨h1, h2, h3, h4, h5, h6, h7, h8, h9, h10, h11, h12, h13, h14, h15, h16, h17, h18, h19, h20, h21, h22, h23, h24, h25⟩ := h
  have f0 : ∀ w, T' s w = T s w := fun w => f s w (by omega) (by omega)
  exact ⟨e _ _ h1, e _ _ h2, (f0 _).trans h3, oReader_ex h4 e (fun w => f _ w (by omega) (by omega)) (fun j w a b => f _ w (by omega) (by omega)), (f0 _).trans h5, oSetup_ex h6 e (fun j w a b => f _ w (by omega) (by omega)), (f0 _).trans h7, oHistory_ex h8 e (fun w => f _ w (by omega) (by omega)), (f0 _).trans h9, e _ _ h10, (f0 _).trans h11, oRun_ex h12 e (fun j w a b => f _ w (by omega) (by omega)) (fun w => f _ w (by omega) (by omega)), (f0 _).trans h13, oRun_ex h14 e (fun j w a b => f _ w (by omega) (by omega)) (fun w => f _ w (by omega) (by omega)), (f0 _).trans h15, oSuppositions_ex h16 e (fun w => f _ w (by omega) (by omega)), (f0 _).trans h17, oRun_ex h18 e (fun j w a b => f _ w (by omega) (by omega)) (fun w => f _ w (by omega) (by omega)), (f0 _).trans h19, e _ _ h20, (f0 _).trans h21, e _ _ h22, (f0 _).trans h23, oLine_ex h24 e (fun w => f _ w (by omega) (by omega)), (f0 _).trans h25⟩
theorem nc_98 (hs : S[o]? = some (0, 9)) (hL : S.length = o + 1) (hc : 162 ≤ cc) (hz : 24125 ≤ zz) {h : Hi} (ok : okHi h) {a : Nat → Nat} : CL xs 98 [vr o] (S, I, T, cc, zz) (fun r m1 => ∃ S' I' T', r = .inl none ∧ m1 = (S', I', T', cc - 162, zz - 24125) ∧ S'.length = o + 163 ∧ oDropSwitch S' T' o (o + 12) (o + 3) ∧ oCk S' T' o ∧ XC I' o (o + 12) h ps0.1 a 0 (arr h 0) su0 ps0.2.2 2 ∧ I' o 1 = 0 ∧ I' o 2 = -1 ∧ I' o 3 = 0 ∧ I' (o + 97) 1 = 0 ∧ I' (o + 12 + 7) 0 = 0 ∧ I' (o + 3 + 7) 0 = 0 ∧ ex S S') := by
  refine CL_start (r := 4) (ls := [vr o, vs 2]) (rk_98 _) rfl ?_
  refine st_98 hs hL (by omega) (by omega) (fun S1 I1 T1 hL1 x1 F1 F2 F3 Z0 b1 b2 b3 b12 b13 => ?_)
  refine w_ic l_98_168 (by decide) ?_
  refine w_isn l_98_169 ⟨Nat.le_of_ble_eq_true rfl, rfl⟩ ?_
  refine lp_98 (o := o) 8 0 _ _ _ _ _ rfl (by omega) (oDropSwitch_sh F1) (oDropSwitch_s7 F1) (oDropSwitch_r7 F1) (by omega) (by omega) (fun S' I' T' e' hL' fI fT fC st z0 => ?_)
  have G1 : oDropSwitch S' T' o (o + 12) (o + 3) := oDropSwitch_ex F1 e' (fun z w h1 h2 => fT z w (by omega) h2) (by omega) (by omega)
  have ck : oCk S' T' o := fun c hc => st c (by omega) hc
  have gI : ∀ z w, z < o + 99 → I' z w = I1 z w := fun z w h1 => fI z w (by omega)
  have gZ : ∀ z w, o + 21 ≤ z → z ≤ o + 98 → I' z w = 0 := fun z w h1 h2 => (gI z w (by omega)).trans (Z0 z w h1 h2)
  have H2 : SU I' (o + 3) ps0 [] 0 := F2.eq (fun j hj w => gI _ _ (by omega))
  have H3 : SU I' (o + 12) ps0 [] 0 := F3.eq (fun j hj w => gI _ _ (by omega))
  have N : SB I' o (o + 12) ps0.1 ps0.2.2 1 := by
    obtain ⟨y1, y2, y3, y4, y5, y6, y7, y8⟩ := H3
    have ze : ∀ z, o + 21 ≤ z → z ≤ o + 98 → ∀ b, b < 64 → ∃ t : Nat, I' z b = (t : Int) ∧ t ≤ 120 := fun z h1 h2 b hb => ⟨0, gZ z b h1 h2, by decide⟩
    refine ⟨⟨by omega, by omega⟩, y1, y2, y4.1, y4.2.1, y4.2.2.1, y5, ze _ (by omega) (by omega), ze _ (by omega) (by omega), ze _ (by omega) (by omega), ⟨(gI o 12 (by omega)).trans b12, by decide, by decide⟩, ?_, fun e he => ?_⟩
    · rw [gI o 13 (by omega), b13]; decide
    · rw [gZ _ _ (by omega) (by omega)]; decide
  refine w_aln l_98_195 rfl ?_
  refine p_iv [] [] l_98_196 rfl rfl (Nat.le_of_ble_eq_true rfl) (by rw [mx_157]; exact Nat.le_of_ble_eq_true rfl) (by rw [mt_157]; exact oDropSwitch_sh G1) (by rw [mt_157]; decide) (by rw [rk_157]; decide) (s_157 (h := h) (a := a) G1 ck N ok) (fun v I2 hv => ?_)
  obtain ⟨rfl, X, fR⟩ := hv
  refine w_vr l_98_199 ?_
  refine ⟨S', I2, T', rfl, ?_, hL', G1, ck, X, ?_, ?_, ?_, ?_, ?_, ?_, fun j x hx => e' j x (x1 j x hx)⟩
  · rw [show cc - 98 - 8 * 8 = cc - 162 by omega, show zz - 15253 - 1109 * 8 = zz - 24125 by omega]
  · rw [fR o 1 (by omega) (by omega) (by omega), gI o 1 (by omega), b1]
  · rw [fR o 2 (by omega) (by omega) (by omega), gI o 2 (by omega), b2]
  · rw [fR o 3 (by omega) (by omega) (by omega), gI o 3 (by omega), b3]
  · rw [fR _ _ (by omega) (by omega) (by omega), gZ _ _ (by omega) (by omega)]
  · rw [fR _ _ (by omega) (by omega) (by omega)]; exact H3.2.2.2.2.2.1
  · rw [fR _ _ (by omega) (by omega) (by omega)]; exact H2.2.2.2.2.2.1
end DSD
