/-! constructors of what holds objects: a run -/
section QCS
variable {xs : List Int} {M r pc : Nat} {ls st : List AV} {S : List (Nat × Nat)} {I : Ix} {T : Nat → Nat → Nat} {cc zz : Nat} {Q : Res → Mem → Prop}
theorem q_cs {idx j b d o c0 n m : Nat} {L : List (Nat × Nat)} {P : (Nat → Nat → Nat) → Prop} (as rest : List AV) (h : look M pc = some (.invokespecial idx, 3, j, b, c0, d)) (hc : c0 = 2 ∨ c0 = 3) (hst : st = as.reverse ++ vr o :: rest) (h2 : as.length + 1 = b) (h3 : rest.length ≤ 4) (h4 : (lex (vr o :: as)).length ≤ mxl j) (hr : rkA j (vr o :: as) < r) (sp : CL xs j (vr o :: as) (S, I, T, cc, zz) (NC S o L n m I T cc zz P)) (kk : ∀ I' T', (∀ z w, z < o → I' z w = I z w ∧ T' z w = T z w) → (∀ w, I' o w = I o w) → (∀ z w, o < z → z ≤ o + L.length → I' z w = 0) → P T' → WP xs M r (pc + 3) ls rest (S ++ L, I', T', cc - n, zz - m) Q) : WP xs M r pc ls st (S, I, T, cc, zz) Q :=
  w_cs as rest h hc hst h2 h3 h4 hr (CL_mono sp (fun q m1 ⟨I', T', h1, h5, f, g, z, p⟩ => by rw [h1, h5]; exact kk I' T' f g z p))
end QCS
/-- shapes that were there stay -/
def ex (S S' : List (Nat × Nat)) : Prop := ∀ (j : Nat) (x : Nat × Nat), S[j]? = some x → S'[j]? = some x
theorem ex_rf (S : List (Nat × Nat)) : ex S S := fun _ _ h => h
theorem ex.ap {S S' : List (Nat × Nat)} (h : ex S S') (L : List (Nat × Nat)) : ex S (S' ++ L) := fun j x q => ap_l (h j x q)
section EXT
variable {S S' : List (Nat × Nat)} {T T' : Nat → Nat → Nat} {o : Nat}

theorem oLimits_ex (h : oLimits S T o) (e : ex S S') (f : ∀ w, T' o w = T o w) : oLimits S' T' o := by
  unfold oLimits at h ⊢
  rw [f, f, f, f]
  obtain ⟨h0, h1, g1, h2, g2, h3, g3, h4, g4⟩ := h
  exact ⟨e _ _ h0, e _ _ h1, g1, e _ _ h2, g2, e _ _ h3, g3, e _ _ h4, g4⟩

theorem oState_ex (h : oState S T o) (e : ex S S') (f : ∀ w, T' o w = T o w) : oState S' T' o := by
  unfold oState at h ⊢
  rw [f, f, f, f, f, f, f]
  obtain ⟨h0, h1, g1, h2, g2, h3, g3, h4, g4, h5, g5, h6, g6, h7, g7⟩ := h
  exact ⟨e _ _ h0, e _ _ h1, g1, e _ _ h2, g2, e _ _ h3, g3, e _ _ h4, g4, e _ _ h5, g5, e _ _ h6, g6, e _ _ h7, g7⟩

theorem oLog_ex (h : oLog S T o) (e : ex S S') (f : ∀ w, T' o w = T o w) : oLog S' T' o := by
  unfold oLog at h ⊢
  rw [f, f, f, f, f]
  obtain ⟨h0, h1, g1, h2, g2, h3, g3, h4, g4, h5, g5⟩ := h
  exact ⟨e _ _ h0, e _ _ h1, g1, e _ _ h2, g2, e _ _ h3, g3, e _ _ h4, g4, e _ _ h5, g5⟩

theorem oHistory_ex (h : oHistory S T o) (e : ex S S') (f : ∀ w, T' o w = T o w) : oHistory S' T' o := by
  unfold oHistory at h ⊢
  rw [f, f, f, f, f, f, f, f, f]
  obtain ⟨h0, h1, g1, h2, g2, h3, g3, h4, g4, h5, g5, h6, g6, h7, g7, h8, g8, h9, g9⟩ := h
  exact ⟨e _ _ h0, e _ _ h1, g1, e _ _ h2, g2, e _ _ h3, g3, e _ _ h4, g4, e _ _ h5, g5, e _ _ h6, g6, e _ _ h7, g7, e _ _ h8, g8, e _ _ h9, g9⟩

theorem oSuppositions_ex (h : oSuppositions S T o) (e : ex S S') (f : ∀ w, T' o w = T o w) : oSuppositions S' T' o := by
  unfold oSuppositions at h ⊢
  rw [f, f]
  obtain ⟨h0, h1, g1, h2, g2⟩ := h
  exact ⟨e _ _ h0, e _ _ h1, g1, e _ _ h2, g2⟩

theorem oLine_ex (h : oLine S T o) (e : ex S S') (f : ∀ w, T' o w = T o w) : oLine S' T' o := by
  unfold oLine at h ⊢
  rw [f]
  obtain ⟨h0, h1, g1⟩ := h
  exact ⟨e _ _ h0, e _ _ h1, g1⟩

end EXT
section RUNC
variable {xs : List Int} {S : List (Nat × Nat)} {I : Ix} {T : Nat → Nat → Nat} {cc zz o x : Nat}

theorem mx_48 : mxl 48 = 2 := by decide +kernel
theorem mt_48 : mtc 48 = 5 := by decide +kernel
theorem rk_48 (as : List AV) : rkA 48 as = 1 := rfl
theorem l_48_0 : look 48 0 = some (.aload_n 0, 1, 0, 0, 0, 0) := by decide +kernel
theorem l_48_1 : look 48 1 = some (.invokespecial 3, 3, 0, 1, 4, 562) := by decide +kernel
theorem l_48_4 : look 48 4 = some (.aload_n 0, 1, 0, 0, 0, 0) := by decide +kernel
theorem l_48_5 : look 48 5 = some (.new 9, 3, 1, 10, 0, 563) := by decide +kernel
theorem l_48_8 : look 48 8 = some (.dup, 1, 0, 0, 0, 0) := by decide +kernel
theorem l_48_9 : look 48 9 = some (.invokespecial 11, 3, 7, 1, 3, 564) := by decide +kernel
theorem l_48_12 : look 48 12 = some (.putfield 12, 3, 5, 0, 12, 634) := by decide +kernel
theorem l_48_15 : look 48 15 = some (.aload_n 0, 1, 0, 0, 0, 0) := by decide +kernel
theorem l_48_16 : look 48 16 = some (.new 18, 3, 7, 9, 0, 565) := by decide +kernel
theorem l_48_19 : look 48 19 = some (.dup, 1, 0, 0, 0, 0) := by decide +kernel
theorem l_48_20 : look 48 20 = some (.invokespecial 20, 3, 77, 1, 3, 567) := by decide +kernel
theorem l_48_23 : look 48 23 = some (.putfield 21, 3, 5, 1, 12, 636) := by decide +kernel
theorem l_48_26 : look 48 26 = some (.aload_n 0, 1, 0, 0, 0, 0) := by decide +kernel
theorem l_48_27 : look 48 27 = some (.new 25, 3, 3, 6, 0, 607) := by decide +kernel
theorem l_48_30 : look 48 30 = some (.dup, 1, 0, 0, 0, 0) := by decide +kernel
theorem l_48_31 : look 48 31 = some (.invokespecial 27, 3, 17, 1, 3, 609) := by decide +kernel
theorem l_48_34 : look 48 34 = some (.putfield 28, 3, 5, 2, 12, 638) := by decide +kernel
theorem l_48_37 : look 48 37 = some (.aload_n 0, 1, 0, 0, 0, 0) := by decide +kernel
theorem l_48_38 : look 48 38 = some (.aload_n 1, 1, 0, 0, 0, 0) := by decide +kernel
theorem l_48_39 : look 48 39 = some (.putfield 32, 3, 5, 3, 12, 640) := by decide +kernel
theorem l_48_42 : look 48 42 = some (.return_, 1, 0, 0, 0, 0) := by decide +kernel
theorem nc_48 (hs : S[o]? = some (0, 5)) (hL : S.length = o + 1) (hh : oHistory S T x) (hxo : x < o) (hc : 19 ≤ cc) (hz : 3553 ≤ zz) : CL xs 48 [vr o, vr x] (S, I, T, cc, zz) (NC S o [(0, 1), (1, 4), (1, 4), (1, 4), (1, 4), (0, 7), (1, 4), (1, 4), (1, 4), (1, 480), (1, 480), (1, 64), (1, 64), (0, 3), (1, 1800), (1, 600), (1, 4), (1, 4), (1, 4)] 19 3553 I T cc zz (fun T' => oRun (S ++ [(0, 1), (1, 4), (1, 4), (1, 4), (1, 4), (0, 7), (1, 4), (1, 4), (1, 4), (1, 480), (1, 480), (1, 64), (1, 64), (0, 3), (1, 1800), (1, 600), (1, 4), (1, 4), (1, 4)]) T' o x)) := by
  refine CL_start (r := 1) (ls := [vr o, vr x]) (rk_48 _) rfl ?_
  refine w_aln l_48_0 rfl ?_
  refine w_oi l_48_1 (Nat.le_of_ble_eq_true rfl) ?_
  refine w_aln l_48_4 rfl ?_
  refine w_nw l_48_5 (by omega) (by omega) ?_
  rw [show List.length (α := Nat × Nat) (S) = o + 1 from (by omega)]
  refine w_dup l_48_8 rfl ?_
  refine q_cs [] [vr (o + 1), vr o] l_48_9 (by decide) rfl rfl (Nat.le_of_ble_eq_true rfl) (by rw [mx_7]; exact Nat.le_of_ble_eq_true rfl) (by rw [rk_7]; decide) (nc_7 (o := o + 1) (ap_e (by omega)) (by simp only [List.length_append, List.length_cons, List.length_nil]; omega) (by omega) (by omega)) (fun I1 T1 f1 g1 z1 p1 => ?_)
  refine w_pR l_48_12 (ap_l (ap_l hs)) (by decide) ?_
  refine w_aln l_48_15 rfl ?_
  refine w_nw l_48_16 (by omega) (by omega) ?_
  rw [show List.length (α := Nat × Nat) (S ++ [(0, 1)] ++ [(1, 4), (1, 4), (1, 4), (1, 4)]) = o + 6 from (by simp only [List.length_append, List.length_cons, List.length_nil]; omega)]
  refine w_dup l_48_19 rfl ?_
  refine q_cs [] [vr (o + 6), vr o] l_48_20 (by decide) rfl rfl (Nat.le_of_ble_eq_true rfl) (by rw [mx_77]; exact Nat.le_of_ble_eq_true rfl) (by rw [rk_77]; decide) (nc_77 (o := o + 6) (ap_e (by simp only [List.length_append, List.length_cons, List.length_nil]; omega)) (by simp only [List.length_append, List.length_cons, List.length_nil]; omega) (by omega) (by omega)) (fun I2 T2 f2 g2 z2 p2 => ?_)
  refine w_pR l_48_23 (ap_l (ap_l (ap_l (ap_l hs)))) (by decide) ?_
  refine w_aln l_48_26 rfl ?_
  refine w_nw l_48_27 (by omega) (by omega) ?_
  rw [show List.length (α := Nat × Nat) (S ++ [(0, 1)] ++ [(1, 4), (1, 4), (1, 4), (1, 4)] ++ [(0, 7)] ++ [(1, 4), (1, 4), (1, 4), (1, 480), (1, 480), (1, 64), (1, 64)]) = o + 14 from (by simp only [List.length_append, List.length_cons, List.length_nil]; omega)]
  refine w_dup l_48_30 rfl ?_
  refine q_cs [] [vr (o + 14), vr o] l_48_31 (by decide) rfl rfl (Nat.le_of_ble_eq_true rfl) (by rw [mx_17]; exact Nat.le_of_ble_eq_true rfl) (by rw [rk_17]; decide) (nc_17 (o := o + 14) (ap_e (by simp only [List.length_append, List.length_cons, List.length_nil]; omega)) (by simp only [List.length_append, List.length_cons, List.length_nil]; omega) (by omega) (by omega)) (fun I3 T3 f3 g3 z3 p3 => ?_)
  refine w_pR l_48_34 (ap_l (ap_l (ap_l (ap_l (ap_l (ap_l hs)))))) (by decide) ?_
  refine w_aln l_48_37 rfl ?_
  refine w_aln l_48_38 rfl ?_
  refine w_pR l_48_39 (ap_l (ap_l (ap_l (ap_l (ap_l (ap_l hs)))))) (by decide) ?_
  refine w_vr l_48_42 ?_
  have eS : S ++ [(0, 1)] ++ [(1, 4), (1, 4), (1, 4), (1, 4)] ++ [(0, 7)] ++ [(1, 4), (1, 4), (1, 4), (1, 480), (1, 480), (1, 64), (1, 64)] ++ [(0, 3)] ++ [(1, 1800), (1, 600), (1, 4), (1, 4), (1, 4)] = S ++ [(0, 1), (1, 4), (1, 4), (1, 4), (1, 4), (0, 7), (1, 4), (1, 4), (1, 4), (1, 480), (1, 480), (1, 64), (1, 64), (0, 3), (1, 1800), (1, 600), (1, 4), (1, 4), (1, 4)] := by simp only [List.append_assoc, List.cons_append, List.nil_append]
  rw [eS]
  have hI : ∀ z w, z < o + 1 → I3 z w = I z w := fun z w hz => by
    rw [(f3 z w (by omega)).1, zr_o (by omega), (f2 z w (by omega)).1, zr_o (by omega), (f1 z w (by omega)).1, zr_o (by omega)]
  have hZ : ∀ z w, o < z → z ≤ o + 19 → I3 z w = 0 := fun z w h1 h2 => by
    by_cases a3 : z < o + 14
    · rw [(f3 z w (by omega)).1, zr_o (by omega)]
      by_cases a2 : z < o + 6
      · rw [(f2 z w (by omega)).1, zr_o (by omega)]
        by_cases a1 : z = o + 1
        · rw [a1, g1, zr_e]
        · exact z1 z w (by omega) (by simp only [List.length_cons, List.length_nil]; omega)
      · by_cases a1 : z = o + 6
        · rw [a1, g2, zr_e]
        · exact z2 z w (by omega) (by simp only [List.length_cons, List.length_nil]; omega)
    · by_cases a1 : z = o + 14
      · rw [a1, g3, zr_e]
      · exact z3 z w (by omega) (by simp only [List.length_cons, List.length_nil]; omega)
  have eT : ∀ z w, o < z → z < o + 6 → ut (ut T3 o 2 (o + 14 + 1)) o 3 (x + 1) z w = T1 z w := fun z w h1 h2 => by
    rw [ut_o (by omega), ut_o (by omega), (f3 z w (by omega)).2, zt_o (by omega), ut_o (by omega), (f2 z w (by omega)).2, zt_o (by omega), ut_o (by omega)]
  have eT2 : ∀ z w, o + 5 < z → z < o + 14 → ut (ut T3 o 2 (o + 14 + 1)) o 3 (x + 1) z w = T2 z w := fun z w h1 h2 => by
    rw [ut_o (by omega), ut_o (by omega), (f3 z w (by omega)).2, zt_o (by omega), ut_o (by omega)]
  have eTl : ∀ z w, z < o → ut (ut T3 o 2 (o + 14 + 1)) o 3 (x + 1) z w = T z w := fun z w h1 => by
    rw [ut_o (by omega), ut_o (by omega), (f3 z w (by omega)).2, zt_o (by omega), ut_o (by omega), (f2 z w (by omega)).2, zt_o (by omega), ut_o (by omega), (f1 z w (by omega)).2, zt_o (by omega)]
  have hx : x ≠ o := fun e => by
    have h1 := oHistory_sh hh
    rw [e, hs] at h1
    cases h1
  refine NC_i rfl (by omega) (by omega) (fun z w hz => ⟨hI z w (by omega), eTl z w hz⟩) (fun w => hI o w (by omega)) (fun z w h1 h2 => hZ z w h1 h2) ?_
  have ee : ∀ S2 L2, S2 ++ L2 = S ++ [(0, 1), (1, 4), (1, 4), (1, 4), (1, 4), (0, 7), (1, 4), (1, 4), (1, 4), (1, 480), (1, 480), (1, 64), (1, 64), (0, 3), (1, 1800), (1, 600), (1, 4), (1, 4), (1, 4)] → ex S2 (S ++ [(0, 1), (1, 4), (1, 4), (1, 4), (1, 4), (0, 7), (1, 4), (1, 4), (1, 4), (1, 480), (1, 480), (1, 64), (1, 64), (0, 3), (1, 1800), (1, 600), (1, 4), (1, 4), (1, 4)]) := fun S2 L2 h => h ▸ (ex_rf S2).ap L2
  refine ⟨ap_l hs, oLimits_ex p1 (ee _ [(0, 7), (1, 4), (1, 4), (1, 4), (1, 480), (1, 480), (1, 64), (1, 64), (0, 3), (1, 1800), (1, 600), (1, 4), (1, 4), (1, 4)] (by simp only [List.append_assoc, List.cons_append, List.nil_append])) (fun w => eT _ w (by omega) (by omega)), ?_, oState_ex p2 (ee _ [(0, 3), (1, 1800), (1, 600), (1, 4), (1, 4), (1, 4)] (by simp only [List.append_assoc, List.cons_append, List.nil_append])) (fun w => eT2 _ w (by omega) (by omega)), ?_, oLog_ex p3 (ee _ [] (by simp only [List.append_assoc, List.cons_append, List.nil_append, List.append_nil])) (fun w => by rw [ut_o (by omega), ut_o (by omega)]), ?_, oHistory_ex hh (fun j y q => ap_l q) (fun w => eTl x w hxo), ?_⟩
  · rw [ut_o (by omega), ut_o (by omega), (f3 o 0 (by omega)).2, zt_o (by omega), ut_o (by omega), (f2 o 0 (by omega)).2, zt_o (by omega), ut_e]
  · rw [ut_o (by omega), ut_o (by omega), (f3 o 1 (by omega)).2, zt_o (by omega), ut_e]
  · rw [ut_o (by omega), ut_e]
  · rw [ut_e]
end RUNC
