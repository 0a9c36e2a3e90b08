/-! constructor of the reader -/
section EXS
variable {S S' : List (Nat × Nat)} {T T' : Nat → Nat → Nat} {o x q : Nat}
theorem oSetup_ex (h : oSetup S T o) (e : ex S S') (f : ∀ j w, o ≤ j → j ≤ o + 1 → T' j w = T j w) : oSetup S' T' o := by
  obtain ⟨h0, h1, h2, h3, h4, h5, h6, h7, h8⟩ := h
  have f0 : ∀ w, T' o w = T o w := fun w => f o w (by omega) (by omega)
  exact ⟨e _ _ h0, oLimits_ex h1 e (fun w => f _ w (by omega) (by omega)), (f0 0).trans h2, e _ _ h3, (f0 1).trans h4, e _ _ h5, (f0 3).trans h6, e _ _ h7, (f0 4).trans h8⟩
theorem oReader_ex (h : oReader S T o x q) (e : ex S S') (f : ∀ w, T' o w = T o w) (g : ∀ j w, q ≤ j → j ≤ q + 1 → T' j w = T j w) : oReader S' T' o x q := by
  obtain ⟨h0, h1, h2, h3, h4⟩ := h
  exact ⟨e _ _ h0, oSetup_ex h1 e g, (f 0).trans h2, e _ _ h3, (f 3).trans h4⟩
theorem oRun_ex (h : oRun S T o x) (e : ex S S') (f : ∀ j w, o ≤ j → j ≤ o + 14 → T' j w = T j w) (g : ∀ w, T' x w = T x w) : oRun S' T' o x := by
  obtain ⟨h0, h1, h2, h3, h4, h5, h6, h7, h8⟩ := h
  have f0 : ∀ w, T' o w = T o w := fun w => f o w (by omega) (by omega)
  exact ⟨e _ _ h0, oLimits_ex h1 e (fun w => f _ w (by omega) (by omega)), (f0 0).trans h2, oState_ex h3 e (fun w => f _ w (by omega) (by omega)), (f0 1).trans h4, oLog_ex h5 e (fun w => f _ w (by omega) (by omega)), (f0 2).trans h6, oHistory_ex h7 e g, (f0 3).trans h8⟩
end EXS
section RDC
variable {xs : List Int} {S : List (Nat × Nat)} {I : Ix} {T : Nat → Nat → Nat} {cc zz o x : Nat}

theorem mx_30 : mxl 30 = 2 := by decide +kernel
theorem mt_30 : mtc 30 = 4 := by decide +kernel
theorem rk_30 (as : List AV) : rkA 30 as = 3 := rfl
theorem l_30_0 : look 30 0 = some (.aload_n 0, 1, 0, 0, 0, 0) := by decide +kernel
theorem l_30_1 : look 30 1 = some (.invokespecial 3, 3, 0, 1, 4, 362) := by decide +kernel
theorem l_30_4 : look 30 4 = some (.aload_n 0, 1, 0, 0, 0, 0) := by decide +kernel
theorem l_30_5 : look 30 5 = some (.new 9, 3, 6, 6, 0, 363) := by decide +kernel
theorem l_30_8 : look 30 8 = some (.dup, 1, 0, 0, 0, 0) := by decide +kernel
theorem l_30_9 : look 30 9 = some (.invokespecial 11, 3, 65, 1, 2, 365) := by decide +kernel
theorem l_30_12 : look 30 12 = some (.putfield 12, 3, 4, 0, 2, 461) := by decide +kernel
theorem l_30_15 : look 30 15 = some (.aload_n 0, 1, 0, 0, 0, 0) := by decide +kernel
theorem l_30_16 : look 30 16 = some (.iconst (-1), 1, 0, 0, 0, 0) := by decide +kernel
theorem l_30_17 : look 30 17 = some (.putfield 18, 3, 4, 1, 0, 463) := by decide +kernel
theorem l_30_20 : look 30 20 = some (.aload_n 0, 1, 0, 0, 0, 0) := by decide +kernel
theorem l_30_21 : look 30 21 = some (.iconst 0, 1, 0, 0, 0, 0) := by decide +kernel
theorem l_30_22 : look 30 22 = some (.putfield 22, 3, 4, 2, 0, 465) := by decide +kernel
theorem l_30_25 : look 30 25 = some (.aload_n 0, 1, 0, 0, 0, 0) := by decide +kernel
theorem l_30_26 : look 30 26 = some (.aload_n 1, 1, 0, 0, 0, 0) := by decide +kernel
theorem l_30_27 : look 30 27 = some (.putfield 25, 3, 4, 3, 12, 467) := by decide +kernel
theorem l_30_30 : look 30 30 = some (.return_, 1, 0, 0, 0, 0) := by decide +kernel
theorem nc_30 (hs : S[o]? = some (0, 4)) (hL : S.length = o + 1) (hx : S[x]? = some (3, 600)) (hxo : x < o) (hc : 9 ≤ cc) (hz : 645 ≤ zz) : CL xs 30 [vr o, vr x] (S, I, T, cc, zz) (NX S o [(0, 6), (0, 1), (1, 4), (1, 4), (1, 4), (1, 4), (1, 4), (1, 9), (1, 600)] 9 645 I T cc zz (fun I' T' => oReader (S ++ [(0, 6), (0, 1), (1, 4), (1, 4), (1, 4), (1, 4), (1, 4), (1, 9), (1, 600)]) T' o x (o + 1) ∧ SU I' (o + 1) ps0 [] 0 ∧ (∀ z w, o + 2 < z → z ≤ o + 9 → I' z w = 0) ∧ I' o 1 = -1 ∧ I' o 2 = 0 ∧ ∀ w, w ≠ 1 → w ≠ 2 → I' o w = I o w)) := by
  refine CL_start (r := 3) (ls := [vr o, vr x]) (rk_30 _) rfl ?_
  refine w_aln l_30_0 rfl ?_
  refine w_oi l_30_1 (Nat.le_of_ble_eq_true rfl) ?_
  refine w_aln l_30_4 rfl ?_
  refine w_nw l_30_5 (by omega) (by omega) ?_
  rw [hL]
  refine w_dup l_30_8 rfl ?_
  refine q_cx [] [vr (o + 1), vr o] l_30_9 (by decide) rfl rfl (Nat.le_of_ble_eq_true rfl) (by rw [mx_65]; exact Nat.le_of_ble_eq_true rfl) (by rw [rk_65]; decide) (nc_65 (o := o + 1) (ap_e (by omega)) (by simp only [List.length_append, List.length_cons, List.length_nil]; omega) (by omega) (by omega)) (fun I1 T1 f1 p1 => ?_)
  obtain ⟨p1, Z1, y1⟩ := p1
  have eS : S ++ [(0, 6)] ++ [(0, 1), (1, 4), (1, 4), (1, 4), (1, 4), (1, 4), (1, 9), (1, 600)] = S ++ [(0, 6), (0, 1), (1, 4), (1, 4), (1, 4), (1, 4), (1, 4), (1, 9), (1, 600)] := by simp only [List.append_assoc, List.cons_append, List.nil_append]
  rw [eS] at p1 ⊢
  refine w_pR l_30_12 (ap_l hs) (by decide) ?_
  refine w_aln l_30_15 rfl ?_
  refine w_ic l_30_16 (by decide) ?_
  refine w_pi l_30_17 (ap_l hs) ?_
  refine w_aln l_30_20 rfl ?_
  refine w_ic l_30_21 (by decide) ?_
  refine w_pi l_30_22 (ap_l hs) ?_
  refine w_aln l_30_25 rfl ?_
  refine w_aln l_30_26 rfl ?_
  refine w_pR l_30_27 (ap_l hs) (by decide) ?_
  refine w_vr l_30_30 ?_
  have eT : ∀ z w, z ≠ o → ut (ut T1 o 0 (o + 1 + 1)) o 3 (x + 1) z w = T1 z w := fun z w h => by
    rw [ut_o (by omega), ut_o (by omega)]
  refine NX_i rfl (by omega) (by omega) (fun z w hz => ⟨?_, ?_⟩) ⟨⟨ap_l hs, oSetup_ex p1 (ex_rf _) (fun j w h1 h2 => eT j w (by omega)), ?_, ap_l hx, ut_e⟩, Z1.eq (fun j hj w => by rw [up_no (by omega), up_no (by omega)]), fun z w h1 h2 => ?_, ?_, up_eq, fun w h1 h2 => ?_⟩
  · rw [up_no (by omega), up_no (by omega), (f1 z w (by omega)).1, zr_o (by omega)]
  · rw [eT z w (by omega), (f1 z w (by omega)).2, zt_o (by omega)]
  · rw [ut_o (by omega), ut_e]
  · rw [up_no (by omega), up_no (by omega)]; exact y1 z w (by omega) (by omega)
  · rw [up_nj (by decide)]; exact up_eq
  · rw [up_nj (by omega), up_nj (by omega), (f1 o w (by omega)).1, zr_o (by omega)]

end RDC
