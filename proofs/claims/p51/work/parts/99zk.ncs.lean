/-! constructors of objects that hold rows alone -/
/-- what a constructor leaves: more shapes; what was there before stays; what is new is 0 -/
def NC (S : List (Nat × Nat)) (o : Nat) (L : List (Nat × Nat)) (n m : Nat) (I : Ix) (T : Nat → Nat → Nat) (cc zz : Nat) (P : (Nat → Nat → Nat) → Prop) : Res → Mem → Prop := fun q m1 => ∃ I' T', q = .inl none ∧ m1 = (S ++ L, I', T', cc - n, zz - m) ∧ (∀ z w, z < o → I' z w = I z w ∧ T' z w = T z w) ∧ (∀ w, I' o w = I o w) ∧ (∀ z w, o < z → z ≤ o + L.length → I' z w = 0) ∧ P T'
theorem NC_i {S S' : List (Nat × Nat)} {o : Nat} {L : List (Nat × Nat)} {n m c' z' : Nat} {I I' : Ix} {T T' : Nat → Nat → Nat} {cc zz : Nat} {P : (Nat → Nat → Nat) → Prop} (hS : S' = S ++ L) (hc : c' = cc - n) (hz : z' = zz - m) (h1 : ∀ z w, z < o → I' z w = I z w ∧ T' z w = T z w) (h2 : ∀ w, I' o w = I o w) (h3 : ∀ z w, o < z → z ≤ o + L.length → I' z w = 0) (h4 : P T') : NC S o L n m I T cc zz P (.inl none) (S', I', T', c', z') := ⟨I', T', rfl, by rw [hS, hc, hz], h1, h2, h3, h4⟩
section NCS
variable {xs : List Int} {S : List (Nat × Nat)} {I : Ix} {T : Nat → Nat → Nat} {cc zz o : Nat}

theorem mx_7 : mxl 7 = 1 := by decide +kernel
theorem mt_7 : mtc 7 = 1 := by decide +kernel
theorem rk_7 (as : List AV) : rkA 7 as = 0 := rfl
theorem l_7_0 : look 7 0 = some (.aload_n 0, 1, 0, 0, 0, 0) := by decide +kernel
theorem l_7_1 : look 7 1 = some (.invokespecial 3, 3, 0, 1, 4, 374) := by decide +kernel
theorem l_7_4 : look 7 4 = some (.aload_n 0, 1, 0, 0, 0, 0) := by decide +kernel
theorem l_7_5 : look 7 5 = some (.iconst 4, 1, 0, 0, 0, 0) := by decide +kernel
theorem l_7_6 : look 7 6 = some (.newarray .int, 2, 1, 0, 0, 0) := by decide +kernel
theorem l_7_8 : look 7 8 = some (.putfield 9, 3, 1, 1, 12, 380) := by decide +kernel
theorem l_7_11 : look 7 11 = some (.aload_n 0, 1, 0, 0, 0, 0) := by decide +kernel
theorem l_7_12 : look 7 12 = some (.iconst 4, 1, 0, 0, 0, 0) := by decide +kernel
theorem l_7_13 : look 7 13 = some (.newarray .int, 2, 1, 0, 0, 0) := by decide +kernel
theorem l_7_15 : look 7 15 = some (.putfield 15, 3, 1, 2, 12, 383) := by decide +kernel
theorem l_7_18 : look 7 18 = some (.aload_n 0, 1, 0, 0, 0, 0) := by decide +kernel
theorem l_7_19 : look 7 19 = some (.iconst 4, 1, 0, 0, 0, 0) := by decide +kernel
theorem l_7_20 : look 7 20 = some (.newarray .int, 2, 1, 0, 0, 0) := by decide +kernel
theorem l_7_22 : look 7 22 = some (.putfield 18, 3, 1, 3, 12, 386) := by decide +kernel
theorem l_7_25 : look 7 25 = some (.aload_n 0, 1, 0, 0, 0, 0) := by decide +kernel
theorem l_7_26 : look 7 26 = some (.iconst 4, 1, 0, 0, 0, 0) := by decide +kernel
theorem l_7_27 : look 7 27 = some (.newarray .int, 2, 1, 0, 0, 0) := by decide +kernel
theorem l_7_29 : look 7 29 = some (.putfield 21, 3, 1, 4, 12, 390) := by decide +kernel
theorem l_7_32 : look 7 32 = some (.return_, 1, 0, 0, 0, 0) := by decide +kernel
theorem nc_7 (hs : S[o]? = some (0, 1)) (hL : S.length = o + 1) (hc : 4 ≤ cc) (hz : 16 ≤ zz) : CL xs 7 [vr o] (S, I, T, cc, zz) (NC S o [(1, 4), (1, 4), (1, 4), (1, 4)] 4 16 I T cc zz (fun T' => oLimits (S ++ [(1, 4), (1, 4), (1, 4), (1, 4)]) T' o)) := by
  refine CL_start (r := 0) (ls := [vr o]) (rk_7 _) rfl ?_
  refine w_aln l_7_0 rfl ?_
  refine w_oi l_7_1 (Nat.le_of_ble_eq_true rfl) ?_
  refine w_aln l_7_4 rfl ?_
  refine w_ic l_7_5 (by decide) ?_
  refine w_na (n := 4) l_7_6 (fun _ _ _ _ => rfl) (by omega) (by omega) (by decide) ?_
  refine w_pR l_7_8 (ap_l hs) (by decide) ?_
  refine w_aln l_7_11 rfl ?_
  refine w_ic l_7_12 (by decide) ?_
  refine w_na (n := 4) l_7_13 (fun _ _ _ _ => rfl) (by omega) (by omega) (by decide) ?_
  refine w_pR l_7_15 (ap_l (ap_l hs)) (by decide) ?_
  refine w_aln l_7_18 rfl ?_
  refine w_ic l_7_19 (by decide) ?_
  refine w_na (n := 4) l_7_20 (fun _ _ _ _ => rfl) (by omega) (by omega) (by decide) ?_
  refine w_pR l_7_22 (ap_l (ap_l (ap_l hs))) (by decide) ?_
  refine w_aln l_7_25 rfl ?_
  refine w_ic l_7_26 (by decide) ?_
  refine w_na (n := 4) l_7_27 (fun _ _ _ _ => rfl) (by omega) (by omega) (by decide) ?_
  refine w_pR l_7_29 (ap_l (ap_l (ap_l (ap_l hs)))) (by decide) ?_
  refine w_vr l_7_32 ?_
  refine NC_i (by simp only [List.append_assoc, List.cons_append, List.nil_append]) (by omega) (by omega) (fun z w hz => ⟨?_, ?_⟩) (fun w => ?_) (fun z w h1 h2 => ?_) ?_
  · repeat (rw [zr_o (by simp only [List.length_append, List.length_cons, List.length_nil, hL]; omega)])
  · repeat (first | rw [ut_o (by omega)] | rw [zt_o (by simp only [List.length_append, List.length_cons, List.length_nil, hL]; omega)])
  · repeat (rw [zr_o (by simp only [List.length_append, List.length_cons, List.length_nil, hL]; omega)])
  · have hz : z = o + 1 ∨ z = o + 2 ∨ z = o + 3 ∨ z = o + 4 := by simp only [List.length_cons, List.length_nil] at h2; omega
    rcases hz with e | e | e | e <;> subst e
    all_goals (repeat (first | rw [zr_o (by simp only [List.length_append, List.length_cons, List.length_nil, hL]; omega)] | (simp only [zr, List.length_append, List.length_cons, List.length_nil, hL]; simp; done)))
  · refine ⟨ap_l hs, ?_, ?_, ?_, ?_, ?_, ?_, ?_, ?_⟩
    · rw [ap_r (j := 0) (by omega)]; rfl
    · repeat (first | rw [ut_o (by omega)] | rw [zt_o (by simp only [List.length_append, List.length_cons, List.length_nil, hL]; omega)] | (rw [ut_e]; simp only [List.length_append, List.length_cons, List.length_nil, hL]; done))
    · rw [ap_r (j := 1) (by omega)]; rfl
    · repeat (first | rw [ut_o (by omega)] | rw [zt_o (by simp only [List.length_append, List.length_cons, List.length_nil, hL]; omega)] | (rw [ut_e]; simp only [List.length_append, List.length_cons, List.length_nil, hL]; done))
    · rw [ap_r (j := 2) (by omega)]; rfl
    · repeat (first | rw [ut_o (by omega)] | rw [zt_o (by simp only [List.length_append, List.length_cons, List.length_nil, hL]; omega)] | (rw [ut_e]; simp only [List.length_append, List.length_cons, List.length_nil, hL]; done))
    · rw [ap_r (j := 3) (by omega)]; rfl
    · repeat (first | rw [ut_o (by omega)] | rw [zt_o (by simp only [List.length_append, List.length_cons, List.length_nil, hL]; omega)] | (rw [ut_e]; simp only [List.length_append, List.length_cons, List.length_nil, hL]; done))

theorem mx_12 : mxl 12 = 1 := by decide +kernel
theorem mt_12 : mtc 12 = 2 := by decide +kernel
theorem rk_12 (as : List AV) : rkA 12 as = 0 := rfl
theorem l_12_0 : look 12 0 = some (.aload_n 0, 1, 0, 0, 0, 0) := by decide +kernel
theorem l_12_1 : look 12 1 = some (.invokespecial 3, 3, 0, 1, 4, 672) := by decide +kernel
theorem l_12_4 : look 12 4 = some (.aload_n 0, 1, 0, 0, 0, 0) := by decide +kernel
theorem l_12_5 : look 12 5 = some (.sipush 600, 3, 0, 0, 0, 0) := by decide +kernel
theorem l_12_8 : look 12 8 = some (.newarray .byte, 2, 3, 0, 0, 0) := by decide +kernel
theorem l_12_10 : look 12 10 = some (.putfield 11, 3, 2, 0, 12, 673) := by decide +kernel
theorem l_12_13 : look 12 13 = some (.return_, 1, 0, 0, 0, 0) := by decide +kernel
theorem nc_12 (hs : S[o]? = some (0, 2)) (hL : S.length = o + 1) (hc : 1 ≤ cc) (hz : 600 ≤ zz) : CL xs 12 [vr o] (S, I, T, cc, zz) (NC S o [(3, 600)] 1 600 I T cc zz (fun T' => oLine (S ++ [(3, 600)]) T' o)) := by
  refine CL_start (r := 0) (ls := [vr o]) (rk_12 _) rfl ?_
  refine w_aln l_12_0 rfl ?_
  refine w_oi l_12_1 (Nat.le_of_ble_eq_true rfl) ?_
  refine w_aln l_12_4 rfl ?_
  refine w_sp l_12_5 (by decide) ?_
  refine w_na (n := 600) l_12_8 (fun _ _ _ _ => rfl) (by omega) (by omega) (by decide) ?_
  refine w_pR l_12_10 (ap_l hs) (by decide) ?_
  refine w_vr l_12_13 ?_
  refine NC_i (by simp only [List.append_assoc, List.cons_append, List.nil_append]) (by omega) (by omega) (fun z w hz => ⟨?_, ?_⟩) (fun w => ?_) (fun z w h1 h2 => ?_) ?_
  · repeat (rw [zr_o (by simp only [List.length_append, List.length_cons, List.length_nil, hL]; omega)])
  · repeat (first | rw [ut_o (by omega)] | rw [zt_o (by simp only [List.length_append, List.length_cons, List.length_nil, hL]; omega)])
  · repeat (rw [zr_o (by simp only [List.length_append, List.length_cons, List.length_nil, hL]; omega)])
  · have hz : z = o + 1 := by simp only [List.length_cons, List.length_nil] at h2; omega
    subst hz
    all_goals (repeat (first | rw [zr_o (by simp only [List.length_append, List.length_cons, List.length_nil, hL]; omega)] | (simp only [zr, List.length_append, List.length_cons, List.length_nil, hL]; simp; done)))
  · refine ⟨ap_l hs, ?_, ?_⟩
    · rw [ap_r (j := 0) (by omega)]; rfl
    · repeat (first | rw [ut_o (by omega)] | rw [zt_o (by simp only [List.length_append, List.length_cons, List.length_nil, hL]; omega)] | (rw [ut_e]; simp only [List.length_append, List.length_cons, List.length_nil, hL]; done))

theorem mx_17 : mxl 17 = 1 := by decide +kernel
theorem mt_17 : mtc 17 = 3 := by decide +kernel
theorem rk_17 (as : List AV) : rkA 17 as = 0 := rfl
theorem l_17_0 : look 17 0 = some (.aload_n 0, 1, 0, 0, 0, 0) := by decide +kernel
theorem l_17_1 : look 17 1 = some (.invokespecial 3, 3, 0, 1, 4, 612) := by decide +kernel
theorem l_17_4 : look 17 4 = some (.aload_n 0, 1, 0, 0, 0, 0) := by decide +kernel
theorem l_17_5 : look 17 5 = some (.sipush 1800, 3, 0, 0, 0, 0) := by decide +kernel
theorem l_17_8 : look 17 8 = some (.newarray .int, 2, 1, 0, 0, 0) := by decide +kernel
theorem l_17_10 : look 17 10 = some (.putfield 9, 3, 3, 1, 12, 615) := by decide +kernel
theorem l_17_13 : look 17 13 = some (.aload_n 0, 1, 0, 0, 0, 0) := by decide +kernel
theorem l_17_14 : look 17 14 = some (.sipush 600, 3, 0, 0, 0, 0) := by decide +kernel
theorem l_17_17 : look 17 17 = some (.newarray .int, 2, 1, 0, 0, 0) := by decide +kernel
theorem l_17_19 : look 17 19 = some (.putfield 15, 3, 3, 2, 12, 616) := by decide +kernel
theorem l_17_22 : look 17 22 = some (.aload_n 0, 1, 0, 0, 0, 0) := by decide +kernel
theorem l_17_23 : look 17 23 = some (.iconst 4, 1, 0, 0, 0, 0) := by decide +kernel
theorem l_17_24 : look 17 24 = some (.newarray .int, 2, 1, 0, 0, 0) := by decide +kernel
theorem l_17_26 : look 17 26 = some (.putfield 18, 3, 3, 3, 12, 617) := by decide +kernel
theorem l_17_29 : look 17 29 = some (.aload_n 0, 1, 0, 0, 0, 0) := by decide +kernel
theorem l_17_30 : look 17 30 = some (.iconst 4, 1, 0, 0, 0, 0) := by decide +kernel
theorem l_17_31 : look 17 31 = some (.newarray .int, 2, 1, 0, 0, 0) := by decide +kernel
theorem l_17_33 : look 17 33 = some (.putfield 21, 3, 3, 4, 12, 619) := by decide +kernel
theorem l_17_36 : look 17 36 = some (.aload_n 0, 1, 0, 0, 0, 0) := by decide +kernel
theorem l_17_37 : look 17 37 = some (.iconst 4, 1, 0, 0, 0, 0) := by decide +kernel
theorem l_17_38 : look 17 38 = some (.newarray .int, 2, 1, 0, 0, 0) := by decide +kernel
theorem l_17_40 : look 17 40 = some (.putfield 24, 3, 3, 5, 12, 620) := by decide +kernel
theorem l_17_43 : look 17 43 = some (.return_, 1, 0, 0, 0, 0) := by decide +kernel
theorem nc_17 (hs : S[o]? = some (0, 3)) (hL : S.length = o + 1) (hc : 5 ≤ cc) (hz : 2412 ≤ zz) : CL xs 17 [vr o] (S, I, T, cc, zz) (NC S o [(1, 1800), (1, 600), (1, 4), (1, 4), (1, 4)] 5 2412 I T cc zz (fun T' => oLog (S ++ [(1, 1800), (1, 600), (1, 4), (1, 4), (1, 4)]) T' o)) := by
  refine CL_start (r := 0) (ls := [vr o]) (rk_17 _) rfl ?_
  refine w_aln l_17_0 rfl ?_
  refine w_oi l_17_1 (Nat.le_of_ble_eq_true rfl) ?_
  refine w_aln l_17_4 rfl ?_
  refine w_sp l_17_5 (by decide) ?_
  refine w_na (n := 1800) l_17_8 (fun _ _ _ _ => rfl) (by omega) (by omega) (by decide) ?_
  refine w_pR l_17_10 (ap_l hs) (by decide) ?_
  refine w_aln l_17_13 rfl ?_
  refine w_sp l_17_14 (by decide) ?_
  refine w_na (n := 600) l_17_17 (fun _ _ _ _ => rfl) (by omega) (by omega) (by decide) ?_
  refine w_pR l_17_19 (ap_l (ap_l hs)) (by decide) ?_
  refine w_aln l_17_22 rfl ?_
  refine w_ic l_17_23 (by decide) ?_
  refine w_na (n := 4) l_17_24 (fun _ _ _ _ => rfl) (by omega) (by omega) (by decide) ?_
  refine w_pR l_17_26 (ap_l (ap_l (ap_l hs))) (by decide) ?_
  refine w_aln l_17_29 rfl ?_
  refine w_ic l_17_30 (by decide) ?_
  refine w_na (n := 4) l_17_31 (fun _ _ _ _ => rfl) (by omega) (by omega) (by decide) ?_
  refine w_pR l_17_33 (ap_l (ap_l (ap_l (ap_l hs)))) (by decide) ?_
  refine w_aln l_17_36 rfl ?_
  refine w_ic l_17_37 (by decide) ?_
  refine w_na (n := 4) l_17_38 (fun _ _ _ _ => rfl) (by omega) (by omega) (by decide) ?_
  refine w_pR l_17_40 (ap_l (ap_l (ap_l (ap_l (ap_l hs))))) (by decide) ?_
  refine w_vr l_17_43 ?_
  refine NC_i (by simp only [List.append_assoc, List.cons_append, List.nil_append]) (by omega) (by omega) (fun z w hz => ⟨?_, ?_⟩) (fun w => ?_) (fun z w h1 h2 => ?_) ?_
  · repeat (rw [zr_o (by simp only [List.length_append, List.length_cons, List.length_nil, hL]; omega)])
  · repeat (first | rw [ut_o (by omega)] | rw [zt_o (by simp only [List.length_append, List.length_cons, List.length_nil, hL]; omega)])
  · repeat (rw [zr_o (by simp only [List.length_append, List.length_cons, List.length_nil, hL]; omega)])
  · have hz : z = o + 1 ∨ z = o + 2 ∨ z = o + 3 ∨ z = o + 4 ∨ z = o + 5 := by simp only [List.length_cons, List.length_nil] at h2; omega
    rcases hz with e | e | e | e | e <;> subst e
    all_goals (repeat (first | rw [zr_o (by simp only [List.length_append, List.length_cons, List.length_nil, hL]; omega)] | (simp only [zr, List.length_append, List.length_cons, List.length_nil, hL]; simp; done)))
  · refine ⟨ap_l hs, ?_, ?_, ?_, ?_, ?_, ?_, ?_, ?_, ?_, ?_⟩
    · rw [ap_r (j := 0) (by omega)]; rfl
    · repeat (first | rw [ut_o (by omega)] | rw [zt_o (by simp only [List.length_append, List.length_cons, List.length_nil, hL]; omega)] | (rw [ut_e]; simp only [List.length_append, List.length_cons, List.length_nil, hL]; done))
    · rw [ap_r (j := 1) (by omega)]; rfl
    · repeat (first | rw [ut_o (by omega)] | rw [zt_o (by simp only [List.length_append, List.length_cons, List.length_nil, hL]; omega)] | (rw [ut_e]; simp only [List.length_append, List.length_cons, List.length_nil, hL]; done))
    · rw [ap_r (j := 2) (by omega)]; rfl
    · repeat (first | rw [ut_o (by omega)] | rw [zt_o (by simp only [List.length_append, List.length_cons, List.length_nil, hL]; omega)] | (rw [ut_e]; simp only [List.length_append, List.length_cons, List.length_nil, hL]; done))
    · rw [ap_r (j := 3) (by omega)]; rfl
    · repeat (first | rw [ut_o (by omega)] | rw [zt_o (by simp only [List.length_append, List.length_cons, List.length_nil, hL]; omega)] | (rw [ut_e]; simp only [List.length_append, List.length_cons, List.length_nil, hL]; done))
    · rw [ap_r (j := 4) (by omega)]; rfl
    · repeat (first | rw [ut_o (by omega)] | rw [zt_o (by simp only [List.length_append, List.length_cons, List.length_nil, hL]; omega)] | (rw [ut_e]; simp only [List.length_append, List.length_cons, List.length_nil, hL]; done))

theorem mx_77 : mxl 77 = 1 := by decide +kernel
theorem mt_77 : mtc 77 = 7 := by decide +kernel
theorem rk_77 (as : List AV) : rkA 77 as = 0 := rfl
theorem l_77_0 : look 77 0 = some (.aload_n 0, 1, 0, 0, 0, 0) := by decide +kernel
theorem l_77_1 : look 77 1 = some (.invokespecial 3, 3, 0, 1, 4, 570) := by decide +kernel
theorem l_77_4 : look 77 4 = some (.aload_n 0, 1, 0, 0, 0, 0) := by decide +kernel
theorem l_77_5 : look 77 5 = some (.iconst 4, 1, 0, 0, 0, 0) := by decide +kernel
theorem l_77_6 : look 77 6 = some (.newarray .int, 2, 1, 0, 0, 0) := by decide +kernel
theorem l_77_8 : look 77 8 = some (.putfield 9, 3, 7, 2, 12, 575) := by decide +kernel
theorem l_77_11 : look 77 11 = some (.aload_n 0, 1, 0, 0, 0, 0) := by decide +kernel
theorem l_77_12 : look 77 12 = some (.iconst 4, 1, 0, 0, 0, 0) := by decide +kernel
theorem l_77_13 : look 77 13 = some (.newarray .int, 2, 1, 0, 0, 0) := by decide +kernel
theorem l_77_15 : look 77 15 = some (.putfield 15, 3, 7, 3, 12, 577) := by decide +kernel
theorem l_77_18 : look 77 18 = some (.aload_n 0, 1, 0, 0, 0, 0) := by decide +kernel
theorem l_77_19 : look 77 19 = some (.iconst 4, 1, 0, 0, 0, 0) := by decide +kernel
theorem l_77_20 : look 77 20 = some (.newarray .int, 2, 1, 0, 0, 0) := by decide +kernel
theorem l_77_22 : look 77 22 = some (.putfield 18, 3, 7, 4, 12, 581) := by decide +kernel
theorem l_77_25 : look 77 25 = some (.aload_n 0, 1, 0, 0, 0, 0) := by decide +kernel
theorem l_77_26 : look 77 26 = some (.sipush 480, 3, 0, 0, 0, 0) := by decide +kernel
theorem l_77_29 : look 77 29 = some (.newarray .int, 2, 1, 0, 0, 0) := by decide +kernel
theorem l_77_31 : look 77 31 = some (.putfield 21, 3, 7, 5, 12, 584) := by decide +kernel
theorem l_77_34 : look 77 34 = some (.aload_n 0, 1, 0, 0, 0, 0) := by decide +kernel
theorem l_77_35 : look 77 35 = some (.sipush 480, 3, 0, 0, 0, 0) := by decide +kernel
theorem l_77_38 : look 77 38 = some (.newarray .int, 2, 1, 0, 0, 0) := by decide +kernel
theorem l_77_40 : look 77 40 = some (.putfield 24, 3, 7, 6, 12, 585) := by decide +kernel
theorem l_77_43 : look 77 43 = some (.aload_n 0, 1, 0, 0, 0, 0) := by decide +kernel
theorem l_77_44 : look 77 44 = some (.bipush 64, 2, 0, 0, 0, 0) := by decide +kernel
theorem l_77_46 : look 77 46 = some (.newarray .int, 2, 1, 0, 0, 0) := by decide +kernel
theorem l_77_48 : look 77 48 = some (.putfield 27, 3, 7, 7, 12, 586) := by decide +kernel
theorem l_77_51 : look 77 51 = some (.aload_n 0, 1, 0, 0, 0, 0) := by decide +kernel
theorem l_77_52 : look 77 52 = some (.bipush 64, 2, 0, 0, 0, 0) := by decide +kernel
theorem l_77_54 : look 77 54 = some (.newarray .int, 2, 1, 0, 0, 0) := by decide +kernel
theorem l_77_56 : look 77 56 = some (.putfield 30, 3, 7, 8, 12, 587) := by decide +kernel
theorem l_77_59 : look 77 59 = some (.return_, 1, 0, 0, 0, 0) := by decide +kernel
theorem nc_77 (hs : S[o]? = some (0, 7)) (hL : S.length = o + 1) (hc : 7 ≤ cc) (hz : 1100 ≤ zz) : CL xs 77 [vr o] (S, I, T, cc, zz) (NC S o [(1, 4), (1, 4), (1, 4), (1, 480), (1, 480), (1, 64), (1, 64)] 7 1100 I T cc zz (fun T' => oState (S ++ [(1, 4), (1, 4), (1, 4), (1, 480), (1, 480), (1, 64), (1, 64)]) T' o)) := by
  refine CL_start (r := 0) (ls := [vr o]) (rk_77 _) rfl ?_
  refine w_aln l_77_0 rfl ?_
  refine w_oi l_77_1 (Nat.le_of_ble_eq_true rfl) ?_
  refine w_aln l_77_4 rfl ?_
  refine w_ic l_77_5 (by decide) ?_
  refine w_na (n := 4) l_77_6 (fun _ _ _ _ => rfl) (by omega) (by omega) (by decide) ?_
  refine w_pR l_77_8 (ap_l hs) (by decide) ?_
  refine w_aln l_77_11 rfl ?_
  refine w_ic l_77_12 (by decide) ?_
  refine w_na (n := 4) l_77_13 (fun _ _ _ _ => rfl) (by omega) (by omega) (by decide) ?_
  refine w_pR l_77_15 (ap_l (ap_l hs)) (by decide) ?_
  refine w_aln l_77_18 rfl ?_
  refine w_ic l_77_19 (by decide) ?_
  refine w_na (n := 4) l_77_20 (fun _ _ _ _ => rfl) (by omega) (by omega) (by decide) ?_
  refine w_pR l_77_22 (ap_l (ap_l (ap_l hs))) (by decide) ?_
  refine w_aln l_77_25 rfl ?_
  refine w_sp l_77_26 (by decide) ?_
  refine w_na (n := 480) l_77_29 (fun _ _ _ _ => rfl) (by omega) (by omega) (by decide) ?_
  refine w_pR l_77_31 (ap_l (ap_l (ap_l (ap_l hs)))) (by decide) ?_
  refine w_aln l_77_34 rfl ?_
  refine w_sp l_77_35 (by decide) ?_
  refine w_na (n := 480) l_77_38 (fun _ _ _ _ => rfl) (by omega) (by omega) (by decide) ?_
  refine w_pR l_77_40 (ap_l (ap_l (ap_l (ap_l (ap_l hs))))) (by decide) ?_
  refine w_aln l_77_43 rfl ?_
  refine w_bp l_77_44 (by decide) ?_
  refine w_na (n := 64) l_77_46 (fun _ _ _ _ => rfl) (by omega) (by omega) (by decide) ?_
  refine w_pR l_77_48 (ap_l (ap_l (ap_l (ap_l (ap_l (ap_l hs)))))) (by decide) ?_
  refine w_aln l_77_51 rfl ?_
  refine w_bp l_77_52 (by decide) ?_
  refine w_na (n := 64) l_77_54 (fun _ _ _ _ => rfl) (by omega) (by omega) (by decide) ?_
  refine w_pR l_77_56 (ap_l (ap_l (ap_l (ap_l (ap_l (ap_l (ap_l hs))))))) (by decide) ?_
  refine w_vr l_77_59 ?_
  refine NC_i (by simp only [List.append_assoc, List.cons_append, List.nil_append]) (by omega) (by omega) (fun z w hz => ⟨?_, ?_⟩) (fun w => ?_) (fun z w h1 h2 => ?_) ?_
  · repeat (rw [zr_o (by simp only [List.length_append, List.length_cons, List.length_nil, hL]; omega)])
  · repeat (first | rw [ut_o (by omega)] | rw [zt_o (by simp only [List.length_append, List.length_cons, List.length_nil, hL]; omega)])
  · repeat (rw [zr_o (by simp only [List.length_append, List.length_cons, List.length_nil, hL]; omega)])
  · have hz : z = o + 1 ∨ z = o + 2 ∨ z = o + 3 ∨ z = o + 4 ∨ z = o + 5 ∨ z = o + 6 ∨ z = o + 7 := by simp only [List.length_cons, List.length_nil] at h2; omega
    rcases hz with e | e | e | e | e | e | e <;> subst e
    all_goals (repeat (first | rw [zr_o (by simp only [List.length_append, List.length_cons, List.length_nil, hL]; omega)] | (simp only [zr, List.length_append, List.length_cons, List.length_nil, hL]; simp; done)))
  · refine ⟨ap_l hs, ?_, ?_, ?_, ?_, ?_, ?_, ?_, ?_, ?_, ?_, ?_, ?_, ?_, ?_⟩
    · rw [ap_r (j := 0) (by omega)]; rfl
    · repeat (first | rw [ut_o (by omega)] | rw [zt_o (by simp only [List.length_append, List.length_cons, List.length_nil, hL]; omega)] | (rw [ut_e]; simp only [List.length_append, List.length_cons, List.length_nil, hL]; done))
    · rw [ap_r (j := 1) (by omega)]; rfl
    · repeat (first | rw [ut_o (by omega)] | rw [zt_o (by simp only [List.length_append, List.length_cons, List.length_nil, hL]; omega)] | (rw [ut_e]; simp only [List.length_append, List.length_cons, List.length_nil, hL]; done))
    · rw [ap_r (j := 2) (by omega)]; rfl
    · repeat (first | rw [ut_o (by omega)] | rw [zt_o (by simp only [List.length_append, List.length_cons, List.length_nil, hL]; omega)] | (rw [ut_e]; simp only [List.length_append, List.length_cons, List.length_nil, hL]; done))
    · rw [ap_r (j := 3) (by omega)]; rfl
    · repeat (first | rw [ut_o (by omega)] | rw [zt_o (by simp only [List.length_append, List.length_cons, List.length_nil, hL]; omega)] | (rw [ut_e]; simp only [List.length_append, List.length_cons, List.length_nil, hL]; done))
    · rw [ap_r (j := 4) (by omega)]; rfl
    · repeat (first | rw [ut_o (by omega)] | rw [zt_o (by simp only [List.length_append, List.length_cons, List.length_nil, hL]; omega)] | (rw [ut_e]; simp only [List.length_append, List.length_cons, List.length_nil, hL]; done))
    · rw [ap_r (j := 5) (by omega)]; rfl
    · repeat (first | rw [ut_o (by omega)] | rw [zt_o (by simp only [List.length_append, List.length_cons, List.length_nil, hL]; omega)] | (rw [ut_e]; simp only [List.length_append, List.length_cons, List.length_nil, hL]; done))
    · rw [ap_r (j := 6) (by omega)]; rfl
    · repeat (first | rw [ut_o (by omega)] | rw [zt_o (by simp only [List.length_append, List.length_cons, List.length_nil, hL]; omega)] | (rw [ut_e]; simp only [List.length_append, List.length_cons, List.length_nil, hL]; done))

theorem mx_91 : mxl 91 = 1 := by decide +kernel
theorem mt_91 : mtc 91 = 8 := by decide +kernel
theorem rk_91 (as : List AV) : rkA 91 as = 0 := rfl
theorem l_91_0 : look 91 0 = some (.aload_n 0, 1, 0, 0, 0, 0) := by decide +kernel
theorem l_91_1 : look 91 1 = some (.invokespecial 3, 3, 0, 1, 4, 658) := by decide +kernel
theorem l_91_4 : look 91 4 = some (.aload_n 0, 1, 0, 0, 0, 0) := by decide +kernel
theorem l_91_5 : look 91 5 = some (.bipush 15, 2, 0, 0, 0, 0) := by decide +kernel
theorem l_91_7 : look 91 7 = some (.newarray .int, 2, 1, 0, 0, 0) := by decide +kernel
theorem l_91_9 : look 91 9 = some (.putfield 11, 3, 8, 0, 12, 659) := by decide +kernel
theorem l_91_12 : look 91 12 = some (.aload_n 0, 1, 0, 0, 0, 0) := by decide +kernel
theorem l_91_13 : look 91 13 = some (.bipush 120, 2, 0, 0, 0, 0) := by decide +kernel
theorem l_91_15 : look 91 15 = some (.newarray .boolean, 2, 4, 0, 0, 0) := by decide +kernel
theorem l_91_17 : look 91 17 = some (.putfield 15, 3, 8, 1, 12, 660) := by decide +kernel
theorem l_91_20 : look 91 20 = some (.return_, 1, 0, 0, 0, 0) := by decide +kernel
theorem nc_91 (hs : S[o]? = some (0, 8)) (hL : S.length = o + 1) (hc : 2 ≤ cc) (hz : 135 ≤ zz) : CL xs 91 [vr o] (S, I, T, cc, zz) (NC S o [(1, 15), (4, 120)] 2 135 I T cc zz (fun T' => oSuppositions (S ++ [(1, 15), (4, 120)]) T' o)) := by
  refine CL_start (r := 0) (ls := [vr o]) (rk_91 _) rfl ?_
  refine w_aln l_91_0 rfl ?_
  refine w_oi l_91_1 (Nat.le_of_ble_eq_true rfl) ?_
  refine w_aln l_91_4 rfl ?_
  refine w_bp l_91_5 (by decide) ?_
  refine w_na (n := 15) l_91_7 (fun _ _ _ _ => rfl) (by omega) (by omega) (by decide) ?_
  refine w_pR l_91_9 (ap_l hs) (by decide) ?_
  refine w_aln l_91_12 rfl ?_
  refine w_bp l_91_13 (by decide) ?_
  refine w_na (n := 120) l_91_15 (fun _ _ _ _ => rfl) (by omega) (by omega) (by decide) ?_
  refine w_pR l_91_17 (ap_l (ap_l hs)) (by decide) ?_
  refine w_vr l_91_20 ?_
  refine NC_i (by simp only [List.append_assoc, List.cons_append, List.nil_append]) (by omega) (by omega) (fun z w hz => ⟨?_, ?_⟩) (fun w => ?_) (fun z w h1 h2 => ?_) ?_
  · repeat (rw [zr_o (by simp only [List.length_append, List.length_cons, List.length_nil, hL]; omega)])
  · repeat (first | rw [ut_o (by omega)] | rw [zt_o (by simp only [List.length_append, List.length_cons, List.length_nil, hL]; omega)])
  · repeat (rw [zr_o (by simp only [List.length_append, List.length_cons, List.length_nil, hL]; omega)])
  · have hz : z = o + 1 ∨ z = o + 2 := by simp only [List.length_cons, List.length_nil] at h2; omega
    rcases hz with e | e <;> subst e
    all_goals (repeat (first | rw [zr_o (by simp only [List.length_append, List.length_cons, List.length_nil, hL]; omega)] | (simp only [zr, List.length_append, List.length_cons, List.length_nil, hL]; simp; done)))
  · refine ⟨ap_l hs, ?_, ?_, ?_, ?_⟩
    · rw [ap_r (j := 0) (by omega)]; rfl
    · repeat (first | rw [ut_o (by omega)] | rw [zt_o (by simp only [List.length_append, List.length_cons, List.length_nil, hL]; omega)] | (rw [ut_e]; simp only [List.length_append, List.length_cons, List.length_nil, hL]; done))
    · rw [ap_r (j := 1) (by omega)]; rfl
    · repeat (first | rw [ut_o (by omega)] | rw [zt_o (by simp only [List.length_append, List.length_cons, List.length_nil, hL]; omega)] | (rw [ut_e]; simp only [List.length_append, List.length_cons, List.length_nil, hL]; done))

theorem mx_0 : mxl 0 = 1 := by decide +kernel
theorem mt_0 : mtc 0 = 0 := by decide +kernel
theorem rk_0 (as : List AV) : rkA 0 as = 0 := rfl
theorem l_0_0 : look 0 0 = some (.aload_n 0, 1, 0, 0, 0, 0) := by decide +kernel
theorem l_0_1 : look 0 1 = some (.invokespecial 3, 3, 0, 1, 4, 505) := by decide +kernel
theorem l_0_4 : look 0 4 = some (.aload_n 0, 1, 0, 0, 0, 0) := by decide +kernel
theorem l_0_5 : look 0 5 = some (.bipush 120, 2, 0, 0, 0, 0) := by decide +kernel
theorem l_0_7 : look 0 7 = some (.newarray .int, 2, 1, 0, 0, 0) := by decide +kernel
theorem l_0_9 : look 0 9 = some (.putfield 9, 3, 0, 2, 12, 510) := by decide +kernel
theorem l_0_12 : look 0 12 = some (.aload_n 0, 1, 0, 0, 0, 0) := by decide +kernel
theorem l_0_13 : look 0 13 = some (.bipush 120, 2, 0, 0, 0, 0) := by decide +kernel
theorem l_0_15 : look 0 15 = some (.newarray .int, 2, 1, 0, 0, 0) := by decide +kernel
theorem l_0_17 : look 0 17 = some (.putfield 15, 3, 0, 3, 12, 512) := by decide +kernel
theorem l_0_20 : look 0 20 = some (.aload_n 0, 1, 0, 0, 0, 0) := by decide +kernel
theorem l_0_21 : look 0 21 = some (.bipush 120, 2, 0, 0, 0, 0) := by decide +kernel
theorem l_0_23 : look 0 23 = some (.newarray .int, 2, 1, 0, 0, 0) := by decide +kernel
theorem l_0_25 : look 0 25 = some (.putfield 18, 3, 0, 4, 12, 514) := by decide +kernel
theorem l_0_28 : look 0 28 = some (.aload_n 0, 1, 0, 0, 0, 0) := by decide +kernel
theorem l_0_29 : look 0 29 = some (.bipush 120, 2, 0, 0, 0, 0) := by decide +kernel
theorem l_0_31 : look 0 31 = some (.newarray .int, 2, 1, 0, 0, 0) := by decide +kernel
theorem l_0_33 : look 0 33 = some (.putfield 21, 3, 0, 5, 12, 517) := by decide +kernel
theorem l_0_36 : look 0 36 = some (.aload_n 0, 1, 0, 0, 0, 0) := by decide +kernel
theorem l_0_37 : look 0 37 = some (.bipush 120, 2, 0, 0, 0, 0) := by decide +kernel
theorem l_0_39 : look 0 39 = some (.newarray .int, 2, 1, 0, 0, 0) := by decide +kernel
theorem l_0_41 : look 0 41 = some (.putfield 24, 3, 0, 6, 12, 519) := by decide +kernel
theorem l_0_44 : look 0 44 = some (.aload_n 0, 1, 0, 0, 0, 0) := by decide +kernel
theorem l_0_45 : look 0 45 = some (.bipush 120, 2, 0, 0, 0, 0) := by decide +kernel
theorem l_0_47 : look 0 47 = some (.newarray .int, 2, 1, 0, 0, 0) := by decide +kernel
theorem l_0_49 : look 0 49 = some (.putfield 27, 3, 0, 7, 12, 522) := by decide +kernel
theorem l_0_52 : look 0 52 = some (.aload_n 0, 1, 0, 0, 0, 0) := by decide +kernel
theorem l_0_53 : look 0 53 = some (.bipush 120, 2, 0, 0, 0, 0) := by decide +kernel
theorem l_0_55 : look 0 55 = some (.newarray .int, 2, 1, 0, 0, 0) := by decide +kernel
theorem l_0_57 : look 0 57 = some (.putfield 30, 3, 0, 8, 12, 525) := by decide +kernel
theorem l_0_60 : look 0 60 = some (.aload_n 0, 1, 0, 0, 0, 0) := by decide +kernel
theorem l_0_61 : look 0 61 = some (.bipush 120, 2, 0, 0, 0, 0) := by decide +kernel
theorem l_0_63 : look 0 63 = some (.newarray .int, 2, 1, 0, 0, 0) := by decide +kernel
theorem l_0_65 : look 0 65 = some (.putfield 33, 3, 0, 9, 12, 527) := by decide +kernel
theorem l_0_68 : look 0 68 = some (.aload_n 0, 1, 0, 0, 0, 0) := by decide +kernel
theorem l_0_69 : look 0 69 = some (.bipush 120, 2, 0, 0, 0, 0) := by decide +kernel
theorem l_0_71 : look 0 71 = some (.newarray .int, 2, 1, 0, 0, 0) := by decide +kernel
theorem l_0_73 : look 0 73 = some (.putfield 36, 3, 0, 10, 12, 529) := by decide +kernel
theorem l_0_76 : look 0 76 = some (.return_, 1, 0, 0, 0, 0) := by decide +kernel
theorem nc_0 (hs : S[o]? = some (0, 0)) (hL : S.length = o + 1) (hc : 9 ≤ cc) (hz : 1080 ≤ zz) : CL xs 0 [vr o] (S, I, T, cc, zz) (NC S o [(1, 120), (1, 120), (1, 120), (1, 120), (1, 120), (1, 120), (1, 120), (1, 120), (1, 120)] 9 1080 I T cc zz (fun T' => oHistory (S ++ [(1, 120), (1, 120), (1, 120), (1, 120), (1, 120), (1, 120), (1, 120), (1, 120), (1, 120)]) T' o)) := by
  refine CL_start (r := 0) (ls := [vr o]) (rk_0 _) rfl ?_
  refine w_aln l_0_0 rfl ?_
  refine w_oi l_0_1 (Nat.le_of_ble_eq_true rfl) ?_
  refine w_aln l_0_4 rfl ?_
  refine w_bp l_0_5 (by decide) ?_
  refine w_na (n := 120) l_0_7 (fun _ _ _ _ => rfl) (by omega) (by omega) (by decide) ?_
  refine w_pR l_0_9 (ap_l hs) (by decide) ?_
  refine w_aln l_0_12 rfl ?_
  refine w_bp l_0_13 (by decide) ?_
  refine w_na (n := 120) l_0_15 (fun _ _ _ _ => rfl) (by omega) (by omega) (by decide) ?_
  refine w_pR l_0_17 (ap_l (ap_l hs)) (by decide) ?_
  refine w_aln l_0_20 rfl ?_
  refine w_bp l_0_21 (by decide) ?_
  refine w_na (n := 120) l_0_23 (fun _ _ _ _ => rfl) (by omega) (by omega) (by decide) ?_
  refine w_pR l_0_25 (ap_l (ap_l (ap_l hs))) (by decide) ?_
  refine w_aln l_0_28 rfl ?_
  refine w_bp l_0_29 (by decide) ?_
  refine w_na (n := 120) l_0_31 (fun _ _ _ _ => rfl) (by omega) (by omega) (by decide) ?_
  refine w_pR l_0_33 (ap_l (ap_l (ap_l (ap_l hs)))) (by decide) ?_
  refine w_aln l_0_36 rfl ?_
  refine w_bp l_0_37 (by decide) ?_
  refine w_na (n := 120) l_0_39 (fun _ _ _ _ => rfl) (by omega) (by omega) (by decide) ?_
  refine w_pR l_0_41 (ap_l (ap_l (ap_l (ap_l (ap_l hs))))) (by decide) ?_
  refine w_aln l_0_44 rfl ?_
  refine w_bp l_0_45 (by decide) ?_
  refine w_na (n := 120) l_0_47 (fun _ _ _ _ => rfl) (by omega) (by omega) (by decide) ?_
  refine w_pR l_0_49 (ap_l (ap_l (ap_l (ap_l (ap_l (ap_l hs)))))) (by decide) ?_
  refine w_aln l_0_52 rfl ?_
  refine w_bp l_0_53 (by decide) ?_
  refine w_na (n := 120) l_0_55 (fun _ _ _ _ => rfl) (by omega) (by omega) (by decide) ?_
  refine w_pR l_0_57 (ap_l (ap_l (ap_l (ap_l (ap_l (ap_l (ap_l hs))))))) (by decide) ?_
  refine w_aln l_0_60 rfl ?_
  refine w_bp l_0_61 (by decide) ?_
  refine w_na (n := 120) l_0_63 (fun _ _ _ _ => rfl) (by omega) (by omega) (by decide) ?_
  refine w_pR l_0_65 (ap_l (ap_l (ap_l (ap_l (ap_l (ap_l (ap_l (ap_l hs)))))))) (by decide) ?_
  refine w_aln l_0_68 rfl ?_
  refine w_bp l_0_69 (by decide) ?_
  refine w_na (n := 120) l_0_71 (fun _ _ _ _ => rfl) (by omega) (by omega) (by decide) ?_
  refine w_pR l_0_73 (ap_l (ap_l (ap_l (ap_l (ap_l (ap_l (ap_l (ap_l (ap_l hs))))))))) (by decide) ?_
  refine w_vr l_0_76 ?_
  refine NC_i (by simp only [List.append_assoc, List.cons_append, List.nil_append]) (by omega) (by omega) (fun z w hz => ⟨?_, ?_⟩) (fun w => ?_) (fun z w h1 h2 => ?_) ?_
  · repeat (rw [zr_o (by simp only [List.length_append, List.length_cons, List.length_nil, hL]; omega)])
  · repeat (first | rw [ut_o (by omega)] | rw [zt_o (by simp only [List.length_append, List.length_cons, List.length_nil, hL]; omega)])
  · repeat (rw [zr_o (by simp only [List.length_append, List.length_cons, List.length_nil, hL]; omega)])
  · have hz : z = o + 1 ∨ z = o + 2 ∨ z = o + 3 ∨ z = o + 4 ∨ z = o + 5 ∨ z = o + 6 ∨ z = o + 7 ∨ z = o + 8 ∨ z = o + 9 := by simp only [List.length_cons, List.length_nil] at h2; omega
    rcases hz with e | e | e | e | e | e | e | e | e <;> subst e
    all_goals (repeat (first | rw [zr_o (by simp only [List.length_append, List.length_cons, List.length_nil, hL]; omega)] | (simp only [zr, List.length_append, List.length_cons, List.length_nil, hL]; simp; done)))
  · refine ⟨ap_l hs, ?_, ?_, ?_, ?_, ?_, ?_, ?_, ?_, ?_, ?_, ?_, ?_, ?_, ?_, ?_, ?_, ?_, ?_⟩
    · rw [ap_r (j := 0) (by omega)]; rfl
    · repeat (first | rw [ut_o (by omega)] | rw [zt_o (by simp only [List.length_append, List.length_cons, List.length_nil, hL]; omega)] | (rw [ut_e]; simp only [List.length_append, List.length_cons, List.length_nil, hL]; done))
    · rw [ap_r (j := 1) (by omega)]; rfl
    · repeat (first | rw [ut_o (by omega)] | rw [zt_o (by simp only [List.length_append, List.length_cons, List.length_nil, hL]; omega)] | (rw [ut_e]; simp only [List.length_append, List.length_cons, List.length_nil, hL]; done))
    · rw [ap_r (j := 2) (by omega)]; rfl
    · repeat (first | rw [ut_o (by omega)] | rw [zt_o (by simp only [List.length_append, List.length_cons, List.length_nil, hL]; omega)] | (rw [ut_e]; simp only [List.length_append, List.length_cons, List.length_nil, hL]; done))
    · rw [ap_r (j := 3) (by omega)]; rfl
    · repeat (first | rw [ut_o (by omega)] | rw [zt_o (by simp only [List.length_append, List.length_cons, List.length_nil, hL]; omega)] | (rw [ut_e]; simp only [List.length_append, List.length_cons, List.length_nil, hL]; done))
    · rw [ap_r (j := 4) (by omega)]; rfl
    · repeat (first | rw [ut_o (by omega)] | rw [zt_o (by simp only [List.length_append, List.length_cons, List.length_nil, hL]; omega)] | (rw [ut_e]; simp only [List.length_append, List.length_cons, List.length_nil, hL]; done))
    · rw [ap_r (j := 5) (by omega)]; rfl
    · repeat (first | rw [ut_o (by omega)] | rw [zt_o (by simp only [List.length_append, List.length_cons, List.length_nil, hL]; omega)] | (rw [ut_e]; simp only [List.length_append, List.length_cons, List.length_nil, hL]; done))
    · rw [ap_r (j := 6) (by omega)]; rfl
    · repeat (first | rw [ut_o (by omega)] | rw [zt_o (by simp only [List.length_append, List.length_cons, List.length_nil, hL]; omega)] | (rw [ut_e]; simp only [List.length_append, List.length_cons, List.length_nil, hL]; done))
    · rw [ap_r (j := 7) (by omega)]; rfl
    · repeat (first | rw [ut_o (by omega)] | rw [zt_o (by simp only [List.length_append, List.length_cons, List.length_nil, hL]; omega)] | (rw [ut_e]; simp only [List.length_append, List.length_cons, List.length_nil, hL]; done))
    · rw [ap_r (j := 8) (by omega)]; rfl
    · repeat (first | rw [ut_o (by omega)] | rw [zt_o (by simp only [List.length_append, List.length_cons, List.length_nil, hL]; omega)] | (rw [ut_e]; simp only [List.length_append, List.length_cons, List.length_nil, hL]; done))

end NCS
