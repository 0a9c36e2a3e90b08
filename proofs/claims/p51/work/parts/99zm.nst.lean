/-! constructors: settings, reader -/
/-- what a constructor leaves whose fields are set -/
def NX (S : List (Nat × Nat)) (o : Nat) (L : List (Nat × Nat)) (n m : Nat) (I : Ix) (T : Nat → Nat → Nat) (cc zz : Nat) (P : Ix → (Nat → Nat → Nat) → Prop) : Res → Mem → Prop := fun q m1 => ∃ I' T', q = .inl none ∧ m1 = (S ++ L, I', T', cc - n, zz - m) ∧ (∀ z w, z < o → I' z w = I z w ∧ T' z w = T z w) ∧ P I' T'
theorem NX_i {S S' : List (Nat × Nat)} {o : Nat} {L : List (Nat × Nat)} {n m c' z' : Nat} {I I' : Ix} {T T' : Nat → Nat → Nat} {cc zz : Nat} {P : Ix → (Nat → Nat → Nat) → Prop} (hS : S' = S ++ L) (hc : c' = cc - n) (hz : z' = zz - m) (h1 : ∀ z w, z < o → I' z w = I z w ∧ T' z w = T z w) (h4 : P I' T') : NX S o L n m I T cc zz P (.inl none) (S', I', T', c', z') := ⟨I', T', rfl, by rw [hS, hc, hz], h1, h4⟩
section QCX
variable {xs : List Int} {M r pc : Nat} {ls st : List AV} {S : List (Nat × Nat)} {I : Ix} {T : Nat → Nat → Nat} {cc zz : Nat} {Q : Res → Mem → Prop}
theorem q_cx {idx j b d o c0 n m : Nat} {L : List (Nat × Nat)} {P : Ix → (Nat → Nat → Nat) → Prop} (as rest : List AV) (h : look M pc = some (.invokespecial idx, 3, j, b, c0, d)) (hc : c0 = 2 ∨ c0 = 3) (hst : st = as.reverse ++ vr o :: rest) (h2 : as.length + 1 = b) (h3 : rest.length ≤ 4) (h4 : (lex (vr o :: as)).length ≤ mxl j) (hr : rkA j (vr o :: as) < r) (sp : CL xs j (vr o :: as) (S, I, T, cc, zz) (NX S o L n m I T cc zz P)) (kk : ∀ I' T', (∀ z w, z < o → I' z w = I z w ∧ T' z w = T z w) → P I' T' → WP xs M r (pc + 3) ls rest (S ++ L, I', T', cc - n, zz - m) Q) : WP xs M r pc ls st (S, I, T, cc, zz) Q :=
  w_cs as rest h hc hst h2 h3 h4 hr (CL_mono sp (fun q m1 ⟨I', T', h1, h5, f, p⟩ => by rw [h1, h5]; exact kk I' T' f p))
end QCX
section SETC
variable {xs : List Int} {S : List (Nat × Nat)} {I : Ix} {T : Nat → Nat → Nat} {cc zz o x : Nat}

theorem mx_65 : mxl 65 = 1 := by decide +kernel
theorem mt_65 : mtc 65 = 6 := by decide +kernel
theorem rk_65 (as : List AV) : rkA 65 as = 2 := rfl
theorem l_65_0 : look 65 0 = some (.aload_n 0, 1, 0, 0, 0, 0) := by decide +kernel
theorem l_65_1 : look 65 1 = some (.invokespecial 3, 3, 0, 1, 4, 368) := by decide +kernel
theorem l_65_4 : look 65 4 = some (.aload_n 0, 1, 0, 0, 0, 0) := by decide +kernel
theorem l_65_5 : look 65 5 = some (.new 9, 3, 1, 10, 0, 369) := by decide +kernel
theorem l_65_8 : look 65 8 = some (.dup, 1, 0, 0, 0, 0) := by decide +kernel
theorem l_65_9 : look 65 9 = some (.invokespecial 11, 3, 7, 1, 3, 371) := by decide +kernel
theorem l_65_12 : look 65 12 = some (.putfield 12, 3, 6, 0, 12, 438) := by decide +kernel
theorem l_65_15 : look 65 15 = some (.aload_n 0, 1, 0, 0, 0, 0) := by decide +kernel
theorem l_65_16 : look 65 16 = some (.iconst 4, 1, 0, 0, 0, 0) := by decide +kernel
theorem l_65_17 : look 65 17 = some (.newarray .int, 2, 1, 0, 0, 0) := by decide +kernel
theorem l_65_19 : look 65 19 = some (.putfield 18, 3, 6, 1, 12, 441) := by decide +kernel
theorem l_65_22 : look 65 22 = some (.aload_n 0, 1, 0, 0, 0, 0) := by decide +kernel
theorem l_65_23 : look 65 23 = some (.bipush 9, 2, 0, 0, 0, 0) := by decide +kernel
theorem l_65_25 : look 65 25 = some (.newarray .int, 2, 1, 0, 0, 0) := by decide +kernel
theorem l_65_27 : look 65 27 = some (.putfield 22, 3, 6, 3, 12, 445) := by decide +kernel
theorem l_65_30 : look 65 30 = some (.aload_n 0, 1, 0, 0, 0, 0) := by decide +kernel
theorem l_65_31 : look 65 31 = some (.sipush 600, 3, 0, 0, 0, 0) := by decide +kernel
theorem l_65_34 : look 65 34 = some (.newarray .int, 2, 1, 0, 0, 0) := by decide +kernel
theorem l_65_36 : look 65 36 = some (.putfield 25, 3, 6, 4, 12, 446) := by decide +kernel
theorem l_65_39 : look 65 39 = some (.aload_n 0, 1, 0, 0, 0, 0) := by decide +kernel
theorem l_65_40 : look 65 40 = some (.invokevirtual 28, 3, 66, 1, 0, 430) := by decide +kernel
theorem l_65_43 : look 65 43 = some (.return_, 1, 0, 0, 0, 0) := by decide +kernel
theorem nc_65 (hs : S[o]? = some (0, 6)) (hL : S.length = o + 1) (hc : 8 ≤ cc) (hz : 639 ≤ zz) : CL xs 65 [vr o] (S, I, T, cc, zz) (NX S o [(0, 1), (1, 4), (1, 4), (1, 4), (1, 4), (1, 4), (1, 9), (1, 600)] 8 639 I T cc zz (fun I' T' => oSetup (S ++ [(0, 1), (1, 4), (1, 4), (1, 4), (1, 4), (1, 4), (1, 9), (1, 600)]) T' o ∧ SU I' o ps0 [] 0 ∧ ∀ z w, o + 1 < z → z ≤ o + 8 → I' z w = 0)) := by
  refine CL_start (r := 2) (ls := [vr o]) (rk_65 _) rfl ?_
  refine w_aln l_65_0 rfl ?_
  refine w_oi l_65_1 (Nat.le_of_ble_eq_true rfl) ?_
  refine w_aln l_65_4 rfl ?_
  refine w_nw l_65_5 (by omega) (by omega) ?_
  rw [show List.length (α := Nat × Nat) (S) = o + 1 from (by omega)]
  refine w_dup l_65_8 rfl ?_
  refine q_cs [] [vr (o + 1), vr o] l_65_9 (by decide) rfl rfl (Nat.le_of_ble_eq_true rfl) (by rw [mx_7]; exact Nat.le_of_ble_eq_true rfl) (by rw [rk_7]; decide) (nc_7 (o := o + 1) (ap_e (by omega)) (by simp only [List.length_append, List.length_cons, List.length_nil]; omega) (by omega) (by omega)) (fun I1 T1 f1 g1 z1 p1 => ?_)
  refine w_pR l_65_12 (ap_l (ap_l hs)) (by decide) ?_
  refine w_aln l_65_15 rfl ?_
  refine w_ic l_65_16 (by decide) ?_
  refine w_na (n := 4) l_65_17 (fun _ _ _ _ => rfl) (by omega) (by omega) (by decide) ?_
  rw [show List.length (α := Nat × Nat) (S ++ [(0, 1)] ++ [(1, 4), (1, 4), (1, 4), (1, 4)]) = o + 6 from (by simp only [List.length_append, List.length_cons, List.length_nil]; omega)]
  refine w_pR l_65_19 (ap_l (ap_l (ap_l hs))) (by decide) ?_
  refine w_aln l_65_22 rfl ?_
  refine w_bp l_65_23 (by decide) ?_
  refine w_na (n := 9) l_65_25 (fun _ _ _ _ => rfl) (by omega) (by omega) (by decide) ?_
  rw [show List.length (α := Nat × Nat) (S ++ [(0, 1)] ++ [(1, 4), (1, 4), (1, 4), (1, 4)] ++ [(1, 4)]) = o + 7 from (by simp only [List.length_append, List.length_cons, List.length_nil]; omega)]
  refine w_pR l_65_27 (ap_l (ap_l (ap_l (ap_l hs)))) (by decide) ?_
  refine w_aln l_65_30 rfl ?_
  refine w_sp l_65_31 (by decide) ?_
  refine w_na (n := 600) l_65_34 (fun _ _ _ _ => rfl) (by omega) (by omega) (by decide) ?_
  rw [show List.length (α := Nat × Nat) (S ++ [(0, 1)] ++ [(1, 4), (1, 4), (1, 4), (1, 4)] ++ [(1, 4)] ++ [(1, 9)]) = o + 8 from (by simp only [List.length_append, List.length_cons, List.length_nil]; omega)]
  refine w_pR l_65_36 (ap_l (ap_l (ap_l (ap_l (ap_l hs))))) (by decide) ?_
  refine w_aln l_65_39 rfl ?_
  have eS : S ++ [(0, 1)] ++ [(1, 4), (1, 4), (1, 4), (1, 4)] ++ [(1, 4)] ++ [(1, 9)] ++ [(1, 600)] = S ++ [(0, 1), (1, 4), (1, 4), (1, 4), (1, 4), (1, 4), (1, 9), (1, 600)] := by simp only [List.append_assoc, List.cons_append, List.nil_append]
  rw [eS]
  generalize hT : ut (zt (o + 8) (ut (zt (o + 7) (ut (zt (o + 6) (ut T1 o 0 (o + 1 + 1))) o 1 (o + 6 + 1))) o 3 (o + 7 + 1))) o 4 (o + 8 + 1) = T2
  have eT : ∀ z w, z < o + 6 → z ≠ o → T2 z w = T1 z w := fun z w h1 h2 => by
    rw [← hT, ut_o (by omega), zt_o (by omega), ut_o (by omega), zt_o (by omega), ut_o (by omega), zt_o (by omega), ut_o (by omega)]
  have os : oSetup (S ++ [(0, 1), (1, 4), (1, 4), (1, 4), (1, 4), (1, 4), (1, 9), (1, 600)]) T2 o := by
    refine ⟨ap_l hs, oLimits_ex p1 ?_ (fun w => eT _ w (by omega) (by omega)), ?_, by rw [ap_r (j := 5) (by omega)]; rfl, ?_, by rw [ap_r (j := 6) (by omega)]; rfl, ?_, by rw [ap_r (j := 7) (by omega)]; rfl, ?_⟩
    · rw [← eS]; exact (((ex_rf _).ap _).ap _).ap _
    · rw [← hT, ut_o (by omega), zt_o (by omega), ut_o (by omega), zt_o (by omega), ut_o (by omega), zt_o (by omega), ut_e]
    · rw [← hT, ut_o (by omega), zt_o (by omega), ut_o (by omega), zt_o (by omega), ut_e]
    · rw [← hT, ut_o (by omega), zt_o (by omega), ut_e]
    · rw [← hT, ut_e]
  refine p_iv [] [] l_65_40 rfl rfl (Nat.le_of_ble_eq_true rfl) (by rw [mx_66]; exact Nat.le_of_ble_eq_true rfl) (by rw [mt_66]; exact oSetup_sh os) (by rw [mt_66]; decide) (by rw [rk_66]; decide) (s_66 os (by rw [zr_o (by omega), zr_e])) (fun v I2 hv => ?_)
  obtain ⟨rfl, Z2, f2⟩ := hv
  refine w_vr l_65_43 ?_
  refine NX_i rfl (by omega) (by omega) (fun z w hz => ⟨?_, ?_⟩) ⟨os, Z2, fun z w h1 h2 => ?_⟩
  · rw [f2 z w (by omega), zr_o (by omega), zr_o (by omega), zr_o (by omega), (f1 z w (by omega)).1, zr_o (by omega)]
  · rw [eT z w (by omega) (by omega), (f1 z w (by omega)).2, zt_o (by omega)]
  · rw [f2 z w (by omega)]
    by_cases a8 : z = o + 8
    · rw [a8, zr_e]
    by_cases a7 : z = o + 7
    · rw [a7, zr_o (by omega), zr_e]
    by_cases a6 : z = o + 6
    · rw [a6, zr_o (by omega), zr_o (by omega), zr_e]
    rw [zr_o (by omega), zr_o (by omega), zr_o (by omega)]
    exact z1 z w (by omega) (by simp only [List.length_cons, List.length_nil]; omega)

end SETC
