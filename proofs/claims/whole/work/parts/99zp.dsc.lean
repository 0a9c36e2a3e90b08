/-! constructor of the class, up to its States -/
section DSC
variable {xs : List Int} {S : List (Nat × Nat)} {I : Ix} {T : Nat → Nat → Nat} {cc zz o : Nat} {Q : Res → Mem → Prop}

theorem mx_98 : mxl 98 = 2 := by decide +kernel
theorem mt_98 : mtc 98 = 9 := by decide +kernel
theorem rk_98 (as : List AV) : rkA 98 as = 4 := rfl
theorem l_98_0 : look 98 0 = some (.aload_n 0, 1, 0, 0, 0, 0) := by decide +kernel
theorem l_98_1 : look 98 1 = some (.invokespecial 3, 3, 0, 1, 4, 154) := by decide +kernel
theorem l_98_4 : look 98 4 = some (.aload_n 0, 1, 0, 0, 0, 0) := by decide +kernel
theorem l_98_5 : look 98 5 = some (.sipush 600, 3, 0, 0, 0, 0) := by decide +kernel
theorem l_98_8 : look 98 8 = some (.newarray .byte, 2, 3, 0, 0, 0) := by decide +kernel
theorem l_98_10 : look 98 10 = some (.putfield 9, 3, 9, 0, 12, 538) := by decide +kernel
theorem l_98_13 : look 98 13 = some (.aload_n 0, 1, 0, 0, 0, 0) := by decide +kernel
theorem l_98_14 : look 98 14 = some (.iconst 0, 1, 0, 0, 0, 0) := by decide +kernel
theorem l_98_15 : look 98 15 = some (.putfield 13, 3, 9, 1, 0, 539) := by decide +kernel
theorem l_98_18 : look 98 18 = some (.aload_n 0, 1, 0, 0, 0, 0) := by decide +kernel
theorem l_98_19 : look 98 19 = some (.iconst (-1), 1, 0, 0, 0, 0) := by decide +kernel
theorem l_98_20 : look 98 20 = some (.putfield 17, 3, 9, 2, 0, 540) := by decide +kernel
theorem l_98_23 : look 98 23 = some (.aload_n 0, 1, 0, 0, 0, 0) := by decide +kernel
theorem l_98_24 : look 98 24 = some (.iconst 0, 1, 0, 0, 0, 0) := by decide +kernel
theorem l_98_25 : look 98 25 = some (.putfield 20, 3, 9, 3, 0, 541) := by decide +kernel
theorem l_98_28 : look 98 28 = some (.aload_n 0, 1, 0, 0, 0, 0) := by decide +kernel
theorem l_98_29 : look 98 29 = some (.new 23, 3, 4, 11, 0, 157) := by decide +kernel
theorem l_98_32 : look 98 32 = some (.dup, 1, 0, 0, 0, 0) := by decide +kernel
theorem l_98_33 : look 98 33 = some (.aload_n 0, 1, 0, 0, 0, 0) := by decide +kernel
theorem l_98_34 : look 98 34 = some (.getfield 9, 3, 9, 0, 2, 538) := by decide +kernel
theorem l_98_37 : look 98 37 = some (.invokespecial 25, 3, 30, 2, 2, 159) := by decide +kernel
theorem l_98_40 : look 98 40 = some (.putfield 28, 3, 9, 4, 12, 542) := by decide +kernel
theorem l_98_43 : look 98 43 = some (.aload_n 0, 1, 0, 0, 0, 0) := by decide +kernel
theorem l_98_44 : look 98 44 = some (.new 32, 3, 6, 6, 0, 307) := by decide +kernel
theorem l_98_47 : look 98 47 = some (.dup, 1, 0, 0, 0, 0) := by decide +kernel
theorem l_98_48 : look 98 48 = some (.invokespecial 34, 3, 65, 1, 2, 308) := by decide +kernel
theorem l_98_51 : look 98 51 = some (.putfield 35, 3, 9, 5, 2, 543) := by decide +kernel
theorem l_98_54 : look 98 54 = some (.aload_n 0, 1, 0, 0, 0, 0) := by decide +kernel
theorem l_98_55 : look 98 55 = some (.new 39, 3, 0, 11, 0, 309) := by decide +kernel
theorem l_98_58 : look 98 58 = some (.dup, 1, 0, 0, 0, 0) := by decide +kernel
theorem l_98_59 : look 98 59 = some (.invokespecial 41, 3, 0, 1, 3, 311) := by decide +kernel
theorem l_98_62 : look 98 62 = some (.putfield 42, 3, 9, 6, 12, 544) := by decide +kernel
theorem l_98_65 : look 98 65 = some (.aload_n 0, 1, 0, 0, 0, 0) := by decide +kernel
theorem l_98_66 : look 98 66 = some (.bipush 8, 2, 0, 0, 0, 0) := by decide +kernel
theorem l_98_68 : look 98 68 = some (.anewarray 46, 3, 5, 0, 0, 365) := by decide +kernel
theorem l_98_71 : look 98 71 = some (.putfield 48, 3, 9, 7, 12, 545) := by decide +kernel
theorem l_98_74 : look 98 74 = some (.aload_n 0, 1, 0, 0, 0, 0) := by decide +kernel
theorem l_98_75 : look 98 75 = some (.new 52, 3, 5, 5, 0, 367) := by decide +kernel
theorem l_98_78 : look 98 78 = some (.dup, 1, 0, 0, 0, 0) := by decide +kernel
theorem l_98_79 : look 98 79 = some (.aload_n 0, 1, 0, 0, 0, 0) := by decide +kernel
theorem l_98_80 : look 98 80 = some (.getfield 42, 3, 9, 6, 2, 544) := by decide +kernel
theorem l_98_83 : look 98 83 = some (.invokespecial 54, 3, 48, 2, 2, 369) := by decide +kernel
theorem l_98_86 : look 98 86 = some (.putfield 57, 3, 9, 8, 12, 546) := by decide +kernel
theorem l_98_89 : look 98 89 = some (.aload_n 0, 1, 0, 0, 0, 0) := by decide +kernel
theorem l_98_90 : look 98 90 = some (.new 52, 3, 5, 5, 0, 367) := by decide +kernel
theorem l_98_93 : look 98 93 = some (.dup, 1, 0, 0, 0, 0) := by decide +kernel
theorem l_98_94 : look 98 94 = some (.aload_n 0, 1, 0, 0, 0, 0) := by decide +kernel
theorem l_98_95 : look 98 95 = some (.getfield 42, 3, 9, 6, 2, 544) := by decide +kernel
theorem l_98_98 : look 98 98 = some (.invokespecial 54, 3, 48, 2, 2, 369) := by decide +kernel
theorem l_98_101 : look 98 101 = some (.putfield 61, 3, 9, 9, 12, 547) := by decide +kernel
theorem l_98_104 : look 98 104 = some (.aload_n 0, 1, 0, 0, 0, 0) := by decide +kernel
theorem l_98_105 : look 98 105 = some (.new 64, 3, 8, 2, 0, 465) := by decide +kernel
theorem l_98_108 : look 98 108 = some (.dup, 1, 0, 0, 0, 0) := by decide +kernel
theorem l_98_109 : look 98 109 = some (.invokespecial 66, 3, 91, 1, 3, 467) := by decide +kernel
theorem l_98_112 : look 98 112 = some (.putfield 67, 3, 9, 10, 12, 548) := by decide +kernel
theorem l_98_115 : look 98 115 = some (.aload_n 0, 1, 0, 0, 0, 0) := by decide +kernel
theorem l_98_116 : look 98 116 = some (.new 52, 3, 5, 5, 0, 367) := by decide +kernel
theorem l_98_119 : look 98 119 = some (.dup, 1, 0, 0, 0, 0) := by decide +kernel
theorem l_98_120 : look 98 120 = some (.aload_n 0, 1, 0, 0, 0, 0) := by decide +kernel
theorem l_98_121 : look 98 121 = some (.getfield 42, 3, 9, 6, 2, 544) := by decide +kernel
theorem l_98_124 : look 98 124 = some (.invokespecial 54, 3, 48, 2, 2, 369) := by decide +kernel
theorem l_98_127 : look 98 127 = some (.putfield 71, 3, 9, 11, 12, 549) := by decide +kernel
theorem l_98_130 : look 98 130 = some (.aload_n 0, 1, 0, 0, 0, 0) := by decide +kernel
theorem l_98_131 : look 98 131 = some (.iconst 1, 1, 0, 0, 0, 0) := by decide +kernel
theorem l_98_132 : look 98 132 = some (.putfield 74, 3, 9, 12, 0, 550) := by decide +kernel
theorem l_98_135 : look 98 135 = some (.aload_n 0, 1, 0, 0, 0, 0) := by decide +kernel
theorem l_98_136 : look 98 136 = some (.iconst 0, 1, 0, 0, 0, 0) := by decide +kernel
theorem l_98_137 : look 98 137 = some (.putfield 77, 3, 9, 13, 0, 551) := by decide +kernel
theorem l_98_140 : look 98 140 = some (.aload_n 0, 1, 0, 0, 0, 0) := by decide +kernel
theorem l_98_141 : look 98 141 = some (.bipush 120, 2, 0, 0, 0, 0) := by decide +kernel
theorem l_98_143 : look 98 143 = some (.newarray .int, 2, 1, 0, 0, 0) := by decide +kernel
theorem l_98_145 : look 98 145 = some (.putfield 80, 3, 9, 14, 12, 552) := by decide +kernel
theorem l_98_148 : look 98 148 = some (.aload_n 0, 1, 0, 0, 0, 0) := by decide +kernel
theorem l_98_149 : look 98 149 = some (.sipush 720, 3, 0, 0, 0, 0) := by decide +kernel
theorem l_98_152 : look 98 152 = some (.newarray .long, 2, 2, 0, 0, 0) := by decide +kernel
theorem l_98_154 : look 98 154 = some (.putfield 84, 3, 9, 15, 12, 553) := by decide +kernel
theorem l_98_157 : look 98 157 = some (.aload_n 0, 1, 0, 0, 0, 0) := by decide +kernel
theorem l_98_158 : look 98 158 = some (.new 88, 3, 2, 2, 0, 480) := by decide +kernel
theorem l_98_161 : look 98 161 = some (.dup, 1, 0, 0, 0, 0) := by decide +kernel
theorem l_98_162 : look 98 162 = some (.invokespecial 90, 3, 12, 1, 3, 482) := by decide +kernel
theorem l_98_165 : look 98 165 = some (.putfield 91, 3, 9, 16, 12, 554) := by decide +kernel
theorem l_98_168 : look 98 168 = some (.iconst 0, 1, 0, 0, 0, 0) := by decide +kernel
theorem l_98_169 : look 98 169 = some (.istore_n 1, 1, 0, 0, 0, 0) := by decide +kernel
theorem l_98_170 : look 98 170 = some (.iload_n 1, 1, 0, 0, 0, 0) := by decide +kernel
theorem l_98_171 : look 98 171 = some (.bipush 8, 2, 0, 0, 0, 0) := by decide +kernel
theorem l_98_173 : look 98 173 = some (.if_icmp .ge 22, 3, 0, 0, 0, 0) := by decide +kernel
theorem l_98_176 : look 98 176 = some (.aload_n 0, 1, 0, 0, 0, 0) := by decide +kernel
theorem l_98_177 : look 98 177 = some (.getfield 48, 3, 9, 7, 2, 545) := by decide +kernel
theorem l_98_180 : look 98 180 = some (.iload_n 1, 1, 0, 0, 0, 0) := by decide +kernel
theorem l_98_181 : look 98 181 = some (.new 46, 3, 7, 9, 0, 365) := by decide +kernel
theorem l_98_184 : look 98 184 = some (.dup, 1, 0, 0, 0, 0) := by decide +kernel
theorem l_98_185 : look 98 185 = some (.invokespecial 95, 3, 77, 1, 3, 496) := by decide +kernel
theorem l_98_188 : look 98 188 = some (.aastore, 1, 0, 0, 0, 0) := by decide +kernel
theorem l_98_189 : look 98 189 = some (.iinc 1 1, 3, 0, 0, 0, 0) := by decide +kernel
theorem l_98_192 : look 98 192 = some (.goto (-22), 3, 0, 0, 0, 0) := by decide +kernel
theorem l_98_195 : look 98 195 = some (.aload_n 0, 1, 0, 0, 0, 0) := by decide +kernel
theorem l_98_196 : look 98 196 = some (.invokevirtual 96, 3, 157, 1, 0, 497) := by decide +kernel
theorem l_98_199 : look 98 199 = some (.return_, 1, 0, 0, 0, 0) := by decide +kernel

theorem st_98 (hs : S[o]? = some (0, 9)) (hL : S.length = o + 1) (hc : 98 ≤ cc) (hz : 15256 ≤ zz) (kk : ∀ I' T' c' z', cc = c' + 98 → WP xs 98 4 168 [vr o, vs 2] [] (S ++ [(3, 600), (0, 4), (0, 6), (0, 1), (1, 4), (1, 4), (1, 4), (1, 4), (1, 4), (1, 9), (1, 600), (0, 6), (0, 1), (1, 4), (1, 4), (1, 4), (1, 4), (1, 4), (1, 9), (1, 600), (0, 0), (1, 120), (1, 120), (1, 120), (1, 120), (1, 120), (1, 120), (1, 120), (1, 120), (1, 120), (5, 8), (0, 5), (0, 1), (1, 4), (1, 4), (1, 4), (1, 4), (0, 7), (1, 4), (1, 4), (1, 4), (1, 480), (1, 480), (1, 64), (1, 64), (0, 3), (1, 1800), (1, 600), (1, 4), (1, 4), (1, 4), (0, 5), (0, 1), (1, 4), (1, 4), (1, 4), (1, 4), (0, 7), (1, 4), (1, 4), (1, 4), (1, 480), (1, 480), (1, 64), (1, 64), (0, 3), (1, 1800), (1, 600), (1, 4), (1, 4), (1, 4), (0, 8), (1, 15), (4, 120), (0, 5), (0, 1), (1, 4), (1, 4), (1, 4), (1, 4), (0, 7), (1, 4), (1, 4), (1, 4), (1, 480), (1, 480), (1, 64), (1, 64), (0, 3), (1, 1800), (1, 600), (1, 4), (1, 4), (1, 4), (1, 120), (2, 720), (0, 2), (3, 600)], I', T', c', z') Q) : WP xs 98 4 0 [vr o, vs 2] [] (S, I, T, cc, zz) Q := by
  refine w_aln l_98_0 rfl ?_
  refine w_oi l_98_1 (Nat.le_of_ble_eq_true rfl) ?_
  refine w_aln l_98_4 rfl ?_
  refine w_sp l_98_5 (by decide) ?_
  refine w_na (n := 600) l_98_8 (fun _ _ _ _ => rfl) (by omega) (by omega) (by decide) ?_
  rw [hL]
  refine w_pR l_98_10 (ap_l hs) (by decide) ?_
  generalize hT1 : ut (zt (o + 1) T) o 0 (o + 1 + 1) = T1
  have eT1 : ∀ z w, z < o + 1 → z ≠ o → T1 z w = T z w := fun z w h1 h2 => by rw [← hT1, ut_o (by omega), zt_o (by omega)]
  have u1 : ∀ w, w ≠ 0 → T1 o w = T o w := fun w h1 => by rw [← hT1, ut_o (by omega), zt_o (by omega)]
  generalize hI1 : zr (o + 1) I = I1
  have eI1 : ∀ z w, z < o + 1 → I1 z w = I z w := fun z w h1 => by rw [← hI1, zr_o (by omega)]
  have zI1 : ∀ z w, o + 1 ≤ z → z < o + 2 → I1 z w = 0 := fun z w h1 h2 => by rw [← hI1, show z = o + 1 by omega, zr_e]
  have v1 : T1 o 0 = o + 1 + 1 := by rw [← hT1, ut_e]
  refine w_aln l_98_13 rfl ?_
  refine w_ic l_98_14 (by decide) ?_
  refine w_pi l_98_15 (ap_l hs) ?_
  refine w_aln l_98_18 rfl ?_
  refine w_ic l_98_19 (by decide) ?_
  refine w_pi l_98_20 (ap_l hs) ?_
  refine w_aln l_98_23 rfl ?_
  refine w_ic l_98_24 (by decide) ?_
  refine w_pi l_98_25 (ap_l hs) ?_
  refine w_aln l_98_28 rfl ?_
  refine w_nw l_98_29 (by omega) (by omega) ?_
  rw [show List.length (α := Nat × Nat) (S ++ [(3, 600)]) = o + 2 from (by simp only [List.length_append, List.length_cons, List.length_nil]; omega), show (S ++ [(3, 600)] ++ [(0, 4)] : List (Nat × Nat)) = S ++ [(3, 600), (0, 4)] from (by simp only [List.append_assoc, List.cons_append, List.nil_append])]
  refine w_dup l_98_32 rfl ?_
  refine w_aln l_98_33 rfl ?_
  refine w_gr l_98_34 (ap_l hs) (by rw [zt_o (by omega)]; exact v1) ?_
  refine q_cx [vr (o + 1)] [vr (o + 2), vr o] l_98_37 (by decide) rfl rfl (Nat.le_of_ble_eq_true rfl) (by rw [mx_30]; exact Nat.le_of_ble_eq_true rfl) (by rw [rk_30]; decide) (nc_30 (o := o + 2) (x := o + 1) (by rw [ap_r (j := 1) (by omega)]; rfl) (by simp only [List.length_append, List.length_cons, List.length_nil]; omega) (by rw [ap_r (j := 0) (by omega)]; rfl) (by omega) (by omega) (by omega)) (fun J1 U1 f1 p1 => ?_)
  rw [show (S ++ [(3, 600), (0, 4)] ++ [(0, 6), (0, 1), (1, 4), (1, 4), (1, 4), (1, 4), (1, 4), (1, 9), (1, 600)] : List (Nat × Nat)) = S ++ [(3, 600), (0, 4), (0, 6), (0, 1), (1, 4), (1, 4), (1, 4), (1, 4), (1, 4), (1, 9), (1, 600)] from (by simp only [List.append_assoc, List.cons_append, List.nil_append])] at p1 ⊢
  refine w_pR l_98_40 (ap_l hs) (by decide) ?_
  generalize hT2 : ut (U1) o 4 (o + 2 + 1) = T2
  have eT2 : ∀ z w, z < o + 2 → z ≠ o → T2 z w = T1 z w := fun z w h1 h2 => by rw [← hT2, ut_o (by omega), (f1 z w (by omega)).2, zt_o (by omega)]
  have u2 : ∀ w, w ≠ 4 → T2 o w = T1 o w := fun w h1 => by rw [← hT2, ut_o (by omega), (f1 o w (by omega)).2, zt_o (by omega)]
  have w2 : ∀ z w, z ≠ o → T2 z w = U1 z w := fun z w h1 => by rw [← hT2, ut_o (by omega)]
  have eI2 : ∀ z w, z < o + 2 → J1 z w = (up (up (up I1 o 1 0) o 2 (-1)) o 3 0) z w := fun z w h1 => by rw [(f1 z w (by omega)).1, zr_o (by omega)]
  have v2 : T2 o 4 = o + 2 + 1 := by rw [← hT2, ut_e]
  refine w_aln l_98_43 rfl ?_
  refine w_nw l_98_44 (by omega) (by omega) ?_
  rw [show List.length (α := Nat × Nat) (S ++ [(3, 600), (0, 4), (0, 6), (0, 1), (1, 4), (1, 4), (1, 4), (1, 4), (1, 4), (1, 9), (1, 600)]) = o + 12 from (by simp only [List.length_append, List.length_cons, List.length_nil]; omega), show (S ++ [(3, 600), (0, 4), (0, 6), (0, 1), (1, 4), (1, 4), (1, 4), (1, 4), (1, 4), (1, 9), (1, 600)] ++ [(0, 6)] : List (Nat × Nat)) = S ++ [(3, 600), (0, 4), (0, 6), (0, 1), (1, 4), (1, 4), (1, 4), (1, 4), (1, 4), (1, 9), (1, 600), (0, 6)] from (by simp only [List.append_assoc, List.cons_append, List.nil_append])]
  refine w_dup l_98_47 rfl ?_
  refine q_cx [] [vr (o + 12), vr o] l_98_48 (by decide) rfl rfl (Nat.le_of_ble_eq_true rfl) (by rw [mx_65]; exact Nat.le_of_ble_eq_true rfl) (by rw [rk_65]; decide) (nc_65 (o := o + 12) (by rw [ap_r (j := 11) (by omega)]; rfl) (by simp only [List.length_append, List.length_cons, List.length_nil]; omega) (by omega) (by omega)) (fun J2 U2 f2 p2 => ?_)
  rw [show (S ++ [(3, 600), (0, 4), (0, 6), (0, 1), (1, 4), (1, 4), (1, 4), (1, 4), (1, 4), (1, 9), (1, 600), (0, 6)] ++ [(0, 1), (1, 4), (1, 4), (1, 4), (1, 4), (1, 4), (1, 9), (1, 600)] : List (Nat × Nat)) = S ++ [(3, 600), (0, 4), (0, 6), (0, 1), (1, 4), (1, 4), (1, 4), (1, 4), (1, 4), (1, 9), (1, 600), (0, 6), (0, 1), (1, 4), (1, 4), (1, 4), (1, 4), (1, 4), (1, 9), (1, 600)] from (by simp only [List.append_assoc, List.cons_append, List.nil_append])] at p2 ⊢
  refine w_pR l_98_51 (ap_l hs) (by decide) ?_
  generalize hT3 : ut (U2) o 5 (o + 12 + 1) = T3
  have eT3 : ∀ z w, z < o + 12 → z ≠ o → T3 z w = T2 z w := fun z w h1 h2 => by rw [← hT3, ut_o (by omega), (f2 z w (by omega)).2, zt_o (by omega)]
  have u3 : ∀ w, w ≠ 5 → T3 o w = T2 o w := fun w h1 => by rw [← hT3, ut_o (by omega), (f2 o w (by omega)).2, zt_o (by omega)]
  have w3 : ∀ z w, z ≠ o → T3 z w = U2 z w := fun z w h1 => by rw [← hT3, ut_o (by omega)]
  have eI3 : ∀ z w, z < o + 12 → J2 z w = J1 z w := fun z w h1 => by rw [(f2 z w (by omega)).1, zr_o (by omega)]
  have v3 : T3 o 5 = o + 12 + 1 := by rw [← hT3, ut_e]
  refine w_aln l_98_54 rfl ?_
  refine w_nw l_98_55 (by omega) (by omega) ?_
  rw [show List.length (α := Nat × Nat) (S ++ [(3, 600), (0, 4), (0, 6), (0, 1), (1, 4), (1, 4), (1, 4), (1, 4), (1, 4), (1, 9), (1, 600), (0, 6), (0, 1), (1, 4), (1, 4), (1, 4), (1, 4), (1, 4), (1, 9), (1, 600)]) = o + 21 from (by simp only [List.length_append, List.length_cons, List.length_nil]; omega), show (S ++ [(3, 600), (0, 4), (0, 6), (0, 1), (1, 4), (1, 4), (1, 4), (1, 4), (1, 4), (1, 9), (1, 600), (0, 6), (0, 1), (1, 4), (1, 4), (1, 4), (1, 4), (1, 4), (1, 9), (1, 600)] ++ [(0, 0)] : List (Nat × Nat)) = S ++ [(3, 600), (0, 4), (0, 6), (0, 1), (1, 4), (1, 4), (1, 4), (1, 4), (1, 4), (1, 9), (1, 600), (0, 6), (0, 1), (1, 4), (1, 4), (1, 4), (1, 4), (1, 4), (1, 9), (1, 600), (0, 0)] from (by simp only [List.append_assoc, List.cons_append, List.nil_append])]
  refine w_dup l_98_58 rfl ?_
  refine q_cs [] [vr (o + 21), vr o] l_98_59 (by decide) rfl rfl (Nat.le_of_ble_eq_true rfl) (by rw [mx_0]; exact Nat.le_of_ble_eq_true rfl) (by rw [rk_0]; decide) (nc_0 (o := o + 21) (by rw [ap_r (j := 20) (by omega)]; rfl) (by simp only [List.length_append, List.length_cons, List.length_nil]; omega) (by omega) (by omega)) (fun J3 U3 f3 g3 z3 p3 => ?_)
  rw [show (S ++ [(3, 600), (0, 4), (0, 6), (0, 1), (1, 4), (1, 4), (1, 4), (1, 4), (1, 4), (1, 9), (1, 600), (0, 6), (0, 1), (1, 4), (1, 4), (1, 4), (1, 4), (1, 4), (1, 9), (1, 600), (0, 0)] ++ [(1, 120), (1, 120), (1, 120), (1, 120), (1, 120), (1, 120), (1, 120), (1, 120), (1, 120)] : List (Nat × Nat)) = S ++ [(3, 600), (0, 4), (0, 6), (0, 1), (1, 4), (1, 4), (1, 4), (1, 4), (1, 4), (1, 9), (1, 600), (0, 6), (0, 1), (1, 4), (1, 4), (1, 4), (1, 4), (1, 4), (1, 9), (1, 600), (0, 0), (1, 120), (1, 120), (1, 120), (1, 120), (1, 120), (1, 120), (1, 120), (1, 120), (1, 120)] from (by simp only [List.append_assoc, List.cons_append, List.nil_append])] at p3 ⊢
  refine w_pR l_98_62 (ap_l hs) (by decide) ?_
  generalize hT4 : ut (U3) o 6 (o + 21 + 1) = T4
  have eT4 : ∀ z w, z < o + 21 → z ≠ o → T4 z w = T3 z w := fun z w h1 h2 => by rw [← hT4, ut_o (by omega), (f3 z w (by omega)).2, zt_o (by omega)]
  have u4 : ∀ w, w ≠ 6 → T4 o w = T3 o w := fun w h1 => by rw [← hT4, ut_o (by omega), (f3 o w (by omega)).2, zt_o (by omega)]
  have w4 : ∀ z w, z ≠ o → T4 z w = U3 z w := fun z w h1 => by rw [← hT4, ut_o (by omega)]
  have eI4 : ∀ z w, z < o + 21 → J3 z w = J2 z w := fun z w h1 => by rw [(f3 z w (by omega)).1, zr_o (by omega)]
  have zI4 : ∀ z w, o + 21 ≤ z → z < o + 31 → J3 z w = 0 := fun z w h1 h2 => by
    by_cases h3 : z = o + 21
    · rw [h3, g3, zr_e]
    · exact z3 z w (by omega) (by simp only [List.length_cons, List.length_nil]; omega)
  have v4 : T4 o 6 = o + 21 + 1 := by rw [← hT4, ut_e]
  have pH := p3
  refine w_aln l_98_65 rfl ?_
  refine w_bp l_98_66 (by decide) ?_
  refine w_na (n := 8) l_98_68 (fun _ _ _ _ => rfl) (by omega) (by omega) (by decide) ?_
  rw [show List.length (α := Nat × Nat) (S ++ [(3, 600), (0, 4), (0, 6), (0, 1), (1, 4), (1, 4), (1, 4), (1, 4), (1, 4), (1, 9), (1, 600), (0, 6), (0, 1), (1, 4), (1, 4), (1, 4), (1, 4), (1, 4), (1, 9), (1, 600), (0, 0), (1, 120), (1, 120), (1, 120), (1, 120), (1, 120), (1, 120), (1, 120), (1, 120), (1, 120)]) = o + 31 from (by simp only [List.length_append, List.length_cons, List.length_nil]; omega), show (S ++ [(3, 600), (0, 4), (0, 6), (0, 1), (1, 4), (1, 4), (1, 4), (1, 4), (1, 4), (1, 9), (1, 600), (0, 6), (0, 1), (1, 4), (1, 4), (1, 4), (1, 4), (1, 4), (1, 9), (1, 600), (0, 0), (1, 120), (1, 120), (1, 120), (1, 120), (1, 120), (1, 120), (1, 120), (1, 120), (1, 120)] ++ [(5, 8)] : List (Nat × Nat)) = S ++ [(3, 600), (0, 4), (0, 6), (0, 1), (1, 4), (1, 4), (1, 4), (1, 4), (1, 4), (1, 9), (1, 600), (0, 6), (0, 1), (1, 4), (1, 4), (1, 4), (1, 4), (1, 4), (1, 9), (1, 600), (0, 0), (1, 120), (1, 120), (1, 120), (1, 120), (1, 120), (1, 120), (1, 120), (1, 120), (1, 120), (5, 8)] from (by simp only [List.append_assoc, List.cons_append, List.nil_append])]
  refine w_pR l_98_71 (ap_l hs) (by decide) ?_
  generalize hT5 : ut (zt (o + 31) T4) o 7 (o + 31 + 1) = T5
  have eT5 : ∀ z w, z < o + 31 → z ≠ o → T5 z w = T4 z w := fun z w h1 h2 => by rw [← hT5, ut_o (by omega), zt_o (by omega)]
  have u5 : ∀ w, w ≠ 7 → T5 o w = T4 o w := fun w h1 => by rw [← hT5, ut_o (by omega), zt_o (by omega)]
  generalize hI5 : zr (o + 31) J3 = I5
  have eI5 : ∀ z w, z < o + 31 → I5 z w = J3 z w := fun z w h1 => by rw [← hI5, zr_o (by omega)]
  have zI5 : ∀ z w, o + 31 ≤ z → z < o + 32 → I5 z w = 0 := fun z w h1 h2 => by rw [← hI5, show z = o + 31 by omega, zr_e]
  have v5 : T5 o 7 = o + 31 + 1 := by rw [← hT5, ut_e]
  refine w_aln l_98_74 rfl ?_
  refine w_nw l_98_75 (by omega) (by omega) ?_
  rw [show List.length (α := Nat × Nat) (S ++ [(3, 600), (0, 4), (0, 6), (0, 1), (1, 4), (1, 4), (1, 4), (1, 4), (1, 4), (1, 9), (1, 600), (0, 6), (0, 1), (1, 4), (1, 4), (1, 4), (1, 4), (1, 4), (1, 9), (1, 600), (0, 0), (1, 120), (1, 120), (1, 120), (1, 120), (1, 120), (1, 120), (1, 120), (1, 120), (1, 120), (5, 8)]) = o + 32 from (by simp only [List.length_append, List.length_cons, List.length_nil]; omega), show (S ++ [(3, 600), (0, 4), (0, 6), (0, 1), (1, 4), (1, 4), (1, 4), (1, 4), (1, 4), (1, 9), (1, 600), (0, 6), (0, 1), (1, 4), (1, 4), (1, 4), (1, 4), (1, 4), (1, 9), (1, 600), (0, 0), (1, 120), (1, 120), (1, 120), (1, 120), (1, 120), (1, 120), (1, 120), (1, 120), (1, 120), (5, 8)] ++ [(0, 5)] : List (Nat × Nat)) = S ++ [(3, 600), (0, 4), (0, 6), (0, 1), (1, 4), (1, 4), (1, 4), (1, 4), (1, 4), (1, 9), (1, 600), (0, 6), (0, 1), (1, 4), (1, 4), (1, 4), (1, 4), (1, 4), (1, 9), (1, 600), (0, 0), (1, 120), (1, 120), (1, 120), (1, 120), (1, 120), (1, 120), (1, 120), (1, 120), (1, 120), (5, 8), (0, 5)] from (by simp only [List.append_assoc, List.cons_append, List.nil_append])]
  refine w_dup l_98_78 rfl ?_
  refine w_aln l_98_79 rfl ?_
  refine w_gr l_98_80 (ap_l hs) (by rw [zt_o (by omega), u5 _ (by decide)]; exact v4) ?_
  refine q_cs [vr (o + 21)] [vr (o + 32), vr o] l_98_83 (by decide) rfl rfl (Nat.le_of_ble_eq_true rfl) (by rw [mx_48]; exact Nat.le_of_ble_eq_true rfl) (by rw [rk_48]; decide) (nc_48 (o := o + 32) (x := o + 21) (by rw [ap_r (j := 31) (by omega)]; rfl) (by simp only [List.length_append, List.length_cons, List.length_nil]; omega) (oHistory_ex pH (by rw [show (S ++ [(3, 600), (0, 4), (0, 6), (0, 1), (1, 4), (1, 4), (1, 4), (1, 4), (1, 4), (1, 9), (1, 600), (0, 6), (0, 1), (1, 4), (1, 4), (1, 4), (1, 4), (1, 4), (1, 9), (1, 600), (0, 0), (1, 120), (1, 120), (1, 120), (1, 120), (1, 120), (1, 120), (1, 120), (1, 120), (1, 120), (5, 8), (0, 5)] : List (Nat × Nat)) = (S ++ [(3, 600), (0, 4), (0, 6), (0, 1), (1, 4), (1, 4), (1, 4), (1, 4), (1, 4), (1, 9), (1, 600), (0, 6), (0, 1), (1, 4), (1, 4), (1, 4), (1, 4), (1, 4), (1, 9), (1, 600), (0, 0), (1, 120), (1, 120), (1, 120), (1, 120), (1, 120), (1, 120), (1, 120), (1, 120), (1, 120)]) ++ [(5, 8), (0, 5)] from (by simp only [List.append_assoc, List.cons_append, List.nil_append])]; exact (ex_rf _).ap _) (fun w => by rw [zt_o (by omega), eT5 _ _ (by omega) (by omega), w4 _ _ (by omega)])) (by omega) (by omega) (by omega)) (fun J4 U4 f4 g4 z4 p4 => ?_)
  rw [show (S ++ [(3, 600), (0, 4), (0, 6), (0, 1), (1, 4), (1, 4), (1, 4), (1, 4), (1, 4), (1, 9), (1, 600), (0, 6), (0, 1), (1, 4), (1, 4), (1, 4), (1, 4), (1, 4), (1, 9), (1, 600), (0, 0), (1, 120), (1, 120), (1, 120), (1, 120), (1, 120), (1, 120), (1, 120), (1, 120), (1, 120), (5, 8), (0, 5)] ++ [(0, 1), (1, 4), (1, 4), (1, 4), (1, 4), (0, 7), (1, 4), (1, 4), (1, 4), (1, 480), (1, 480), (1, 64), (1, 64), (0, 3), (1, 1800), (1, 600), (1, 4), (1, 4), (1, 4)] : List (Nat × Nat)) = S ++ [(3, 600), (0, 4), (0, 6), (0, 1), (1, 4), (1, 4), (1, 4), (1, 4), (1, 4), (1, 9), (1, 600), (0, 6), (0, 1), (1, 4), (1, 4), (1, 4), (1, 4), (1, 4), (1, 9), (1, 600), (0, 0), (1, 120), (1, 120), (1, 120), (1, 120), (1, 120), (1, 120), (1, 120), (1, 120), (1, 120), (5, 8), (0, 5), (0, 1), (1, 4), (1, 4), (1, 4), (1, 4), (0, 7), (1, 4), (1, 4), (1, 4), (1, 480), (1, 480), (1, 64), (1, 64), (0, 3), (1, 1800), (1, 600), (1, 4), (1, 4), (1, 4)] from (by simp only [List.append_assoc, List.cons_append, List.nil_append])] at p4 ⊢
  refine w_pR l_98_86 (ap_l hs) (by decide) ?_
  generalize hT6 : ut (U4) o 8 (o + 32 + 1) = T6
  have eT6 : ∀ z w, z < o + 32 → z ≠ o → T6 z w = T5 z w := fun z w h1 h2 => by rw [← hT6, ut_o (by omega), (f4 z w (by omega)).2, zt_o (by omega)]
  have u6 : ∀ w, w ≠ 8 → T6 o w = T5 o w := fun w h1 => by rw [← hT6, ut_o (by omega), (f4 o w (by omega)).2, zt_o (by omega)]
  have w6 : ∀ z w, z ≠ o → T6 z w = U4 z w := fun z w h1 => by rw [← hT6, ut_o (by omega)]
  have eI6 : ∀ z w, z < o + 32 → J4 z w = I5 z w := fun z w h1 => by rw [(f4 z w (by omega)).1, zr_o (by omega)]
  have zI6 : ∀ z w, o + 32 ≤ z → z < o + 52 → J4 z w = 0 := fun z w h1 h2 => by
    by_cases h3 : z = o + 32
    · rw [h3, g4, zr_e]
    · exact z4 z w (by omega) (by simp only [List.length_cons, List.length_nil]; omega)
  have v6 : T6 o 8 = o + 32 + 1 := by rw [← hT6, ut_e]
  refine w_aln l_98_89 rfl ?_
  refine w_nw l_98_90 (by omega) (by omega) ?_
  rw [show List.length (α := Nat × Nat) (S ++ [(3, 600), (0, 4), (0, 6), (0, 1), (1, 4), (1, 4), (1, 4), (1, 4), (1, 4), (1, 9), (1, 600), (0, 6), (0, 1), (1, 4), (1, 4), (1, 4), (1, 4), (1, 4), (1, 9), (1, 600), (0, 0), (1, 120), (1, 120), (1, 120), (1, 120), (1, 120), (1, 120), (1, 120), (1, 120), (1, 120), (5, 8), (0, 5), (0, 1), (1, 4), (1, 4), (1, 4), (1, 4), (0, 7), (1, 4), (1, 4), (1, 4), (1, 480), (1, 480), (1, 64), (1, 64), (0, 3), (1, 1800), (1, 600), (1, 4), (1, 4), (1, 4)]) = o + 52 from (by simp only [List.length_append, List.length_cons, List.length_nil]; omega), show (S ++ [(3, 600), (0, 4), (0, 6), (0, 1), (1, 4), (1, 4), (1, 4), (1, 4), (1, 4), (1, 9), (1, 600), (0, 6), (0, 1), (1, 4), (1, 4), (1, 4), (1, 4), (1, 4), (1, 9), (1, 600), (0, 0), (1, 120), (1, 120), (1, 120), (1, 120), (1, 120), (1, 120), (1, 120), (1, 120), (1, 120), (5, 8), (0, 5), (0, 1), (1, 4), (1, 4), (1, 4), (1, 4), (0, 7), (1, 4), (1, 4), (1, 4), (1, 480), (1, 480), (1, 64), (1, 64), (0, 3), (1, 1800), (1, 600), (1, 4), (1, 4), (1, 4)] ++ [(0, 5)] : List (Nat × Nat)) = S ++ [(3, 600), (0, 4), (0, 6), (0, 1), (1, 4), (1, 4), (1, 4), (1, 4), (1, 4), (1, 9), (1, 600), (0, 6), (0, 1), (1, 4), (1, 4), (1, 4), (1, 4), (1, 4), (1, 9), (1, 600), (0, 0), (1, 120), (1, 120), (1, 120), (1, 120), (1, 120), (1, 120), (1, 120), (1, 120), (1, 120), (5, 8), (0, 5), (0, 1), (1, 4), (1, 4), (1, 4), (1, 4), (0, 7), (1, 4), (1, 4), (1, 4), (1, 480), (1, 480), (1, 64), (1, 64), (0, 3), (1, 1800), (1, 600), (1, 4), (1, 4), (1, 4), (0, 5)] from (by simp only [List.append_assoc, List.cons_append, List.nil_append])]
  refine w_dup l_98_93 rfl ?_
  refine w_aln l_98_94 rfl ?_
  refine w_gr l_98_95 (ap_l hs) (by rw [zt_o (by omega), u6 _ (by decide), u5 _ (by decide)]; exact v4) ?_
  refine q_cs [vr (o + 21)] [vr (o + 52), vr o] l_98_98 (by decide) rfl rfl (Nat.le_of_ble_eq_true rfl) (by rw [mx_48]; exact Nat.le_of_ble_eq_true rfl) (by rw [rk_48]; decide) (nc_48 (o := o + 52) (x := o + 21) (by rw [ap_r (j := 51) (by omega)]; rfl) (by simp only [List.length_append, List.length_cons, List.length_nil]; omega) (oHistory_ex pH (by rw [show (S ++ [(3, 600), (0, 4), (0, 6), (0, 1), (1, 4), (1, 4), (1, 4), (1, 4), (1, 4), (1, 9), (1, 600), (0, 6), (0, 1), (1, 4), (1, 4), (1, 4), (1, 4), (1, 4), (1, 9), (1, 600), (0, 0), (1, 120), (1, 120), (1, 120), (1, 120), (1, 120), (1, 120), (1, 120), (1, 120), (1, 120), (5, 8), (0, 5), (0, 1), (1, 4), (1, 4), (1, 4), (1, 4), (0, 7), (1, 4), (1, 4), (1, 4), (1, 480), (1, 480), (1, 64), (1, 64), (0, 3), (1, 1800), (1, 600), (1, 4), (1, 4), (1, 4), (0, 5)] : List (Nat × Nat)) = (S ++ [(3, 600), (0, 4), (0, 6), (0, 1), (1, 4), (1, 4), (1, 4), (1, 4), (1, 4), (1, 9), (1, 600), (0, 6), (0, 1), (1, 4), (1, 4), (1, 4), (1, 4), (1, 4), (1, 9), (1, 600), (0, 0), (1, 120), (1, 120), (1, 120), (1, 120), (1, 120), (1, 120), (1, 120), (1, 120), (1, 120)]) ++ [(5, 8), (0, 5), (0, 1), (1, 4), (1, 4), (1, 4), (1, 4), (0, 7), (1, 4), (1, 4), (1, 4), (1, 480), (1, 480), (1, 64), (1, 64), (0, 3), (1, 1800), (1, 600), (1, 4), (1, 4), (1, 4), (0, 5)] from (by simp only [List.append_assoc, List.cons_append, List.nil_append])]; exact (ex_rf _).ap _) (fun w => by rw [zt_o (by omega), eT6 _ _ (by omega) (by omega), eT5 _ _ (by omega) (by omega), w4 _ _ (by omega)])) (by omega) (by omega) (by omega)) (fun J5 U5 f5 g5 z5 p5 => ?_)
  rw [show (S ++ [(3, 600), (0, 4), (0, 6), (0, 1), (1, 4), (1, 4), (1, 4), (1, 4), (1, 4), (1, 9), (1, 600), (0, 6), (0, 1), (1, 4), (1, 4), (1, 4), (1, 4), (1, 4), (1, 9), (1, 600), (0, 0), (1, 120), (1, 120), (1, 120), (1, 120), (1, 120), (1, 120), (1, 120), (1, 120), (1, 120), (5, 8), (0, 5), (0, 1), (1, 4), (1, 4), (1, 4), (1, 4), (0, 7), (1, 4), (1, 4), (1, 4), (1, 480), (1, 480), (1, 64), (1, 64), (0, 3), (1, 1800), (1, 600), (1, 4), (1, 4), (1, 4), (0, 5)] ++ [(0, 1), (1, 4), (1, 4), (1, 4), (1, 4), (0, 7), (1, 4), (1, 4), (1, 4), (1, 480), (1, 480), (1, 64), (1, 64), (0, 3), (1, 1800), (1, 600), (1, 4), (1, 4), (1, 4)] : List (Nat × Nat)) = S ++ [(3, 600), (0, 4), (0, 6), (0, 1), (1, 4), (1, 4), (1, 4), (1, 4), (1, 4), (1, 9), (1, 600), (0, 6), (0, 1), (1, 4), (1, 4), (1, 4), (1, 4), (1, 4), (1, 9), (1, 600), (0, 0), (1, 120), (1, 120), (1, 120), (1, 120), (1, 120), (1, 120), (1, 120), (1, 120), (1, 120), (5, 8), (0, 5), (0, 1), (1, 4), (1, 4), (1, 4), (1, 4), (0, 7), (1, 4), (1, 4), (1, 4), (1, 480), (1, 480), (1, 64), (1, 64), (0, 3), (1, 1800), (1, 600), (1, 4), (1, 4), (1, 4), (0, 5), (0, 1), (1, 4), (1, 4), (1, 4), (1, 4), (0, 7), (1, 4), (1, 4), (1, 4), (1, 480), (1, 480), (1, 64), (1, 64), (0, 3), (1, 1800), (1, 600), (1, 4), (1, 4), (1, 4)] from (by simp only [List.append_assoc, List.cons_append, List.nil_append])] at p5 ⊢
  refine w_pR l_98_101 (ap_l hs) (by decide) ?_
  generalize hT7 : ut (U5) o 9 (o + 52 + 1) = T7
  have eT7 : ∀ z w, z < o + 52 → z ≠ o → T7 z w = T6 z w := fun z w h1 h2 => by rw [← hT7, ut_o (by omega), (f5 z w (by omega)).2, zt_o (by omega)]
  have u7 : ∀ w, w ≠ 9 → T7 o w = T6 o w := fun w h1 => by rw [← hT7, ut_o (by omega), (f5 o w (by omega)).2, zt_o (by omega)]
  have w7 : ∀ z w, z ≠ o → T7 z w = U5 z w := fun z w h1 => by rw [← hT7, ut_o (by omega)]
  have eI7 : ∀ z w, z < o + 52 → J5 z w = J4 z w := fun z w h1 => by rw [(f5 z w (by omega)).1, zr_o (by omega)]
  have zI7 : ∀ z w, o + 52 ≤ z → z < o + 72 → J5 z w = 0 := fun z w h1 h2 => by
    by_cases h3 : z = o + 52
    · rw [h3, g5, zr_e]
    · exact z5 z w (by omega) (by simp only [List.length_cons, List.length_nil]; omega)
  have v7 : T7 o 9 = o + 52 + 1 := by rw [← hT7, ut_e]
  refine w_aln l_98_104 rfl ?_
  refine w_nw l_98_105 (by omega) (by omega) ?_
  rw [show List.length (α := Nat × Nat) (S ++ [(3, 600), (0, 4), (0, 6), (0, 1), (1, 4), (1, 4), (1, 4), (1, 4), (1, 4), (1, 9), (1, 600), (0, 6), (0, 1), (1, 4), (1, 4), (1, 4), (1, 4), (1, 4), (1, 9), (1, 600), (0, 0), (1, 120), (1, 120), (1, 120), (1, 120), (1, 120), (1, 120), (1, 120), (1, 120), (1, 120), (5, 8), (0, 5), (0, 1), (1, 4), (1, 4), (1, 4), (1, 4), (0, 7), (1, 4), (1, 4), (1, 4), (1, 480), (1, 480), (1, 64), (1, 64), (0, 3), (1, 1800), (1, 600), (1, 4), (1, 4), (1, 4), (0, 5), (0, 1), (1, 4), (1, 4), (1, 4), (1, 4), (0, 7), (1, 4), (1, 4), (1, 4), (1, 480), (1, 480), (1, 64), (1, 64), (0, 3), (1, 1800), (1, 600), (1, 4), (1, 4), (1, 4)]) = o + 72 from (by simp only [List.length_append, List.length_cons, List.length_nil]; omega), show (S ++ [(3, 600), (0, 4), (0, 6), (0, 1), (1, 4), (1, 4), (1, 4), (1, 4), (1, 4), (1, 9), (1, 600), (0, 6), (0, 1), (1, 4), (1, 4), (1, 4), (1, 4), (1, 4), (1, 9), (1, 600), (0, 0), (1, 120), (1, 120), (1, 120), (1, 120), (1, 120), (1, 120), (1, 120), (1, 120), (1, 120), (5, 8), (0, 5), (0, 1), (1, 4), (1, 4), (1, 4), (1, 4), (0, 7), (1, 4), (1, 4), (1, 4), (1, 480), (1, 480), (1, 64), (1, 64), (0, 3), (1, 1800), (1, 600), (1, 4), (1, 4), (1, 4), (0, 5), (0, 1), (1, 4), (1, 4), (1, 4), (1, 4), (0, 7), (1, 4), (1, 4), (1, 4), (1, 480), (1, 480), (1, 64), (1, 64), (0, 3), (1, 1800), (1, 600), (1, 4), (1, 4), (1, 4)] ++ [(0, 8)] : List (Nat × Nat)) = S ++ [(3, 600), (0, 4), (0, 6), (0, 1), (1, 4), (1, 4), (1, 4), (1, 4), (1, 4), (1, 9), (1, 600), (0, 6), (0, 1), (1, 4), (1, 4), (1, 4), (1, 4), (1, 4), (1, 9), (1, 600), (0, 0), (1, 120), (1, 120), (1, 120), (1, 120), (1, 120), (1, 120), (1, 120), (1, 120), (1, 120), (5, 8), (0, 5), (0, 1), (1, 4), (1, 4), (1, 4), (1, 4), (0, 7), (1, 4), (1, 4), (1, 4), (1, 480), (1, 480), (1, 64), (1, 64), (0, 3), (1, 1800), (1, 600), (1, 4), (1, 4), (1, 4), (0, 5), (0, 1), (1, 4), (1, 4), (1, 4), (1, 4), (0, 7), (1, 4), (1, 4), (1, 4), (1, 480), (1, 480), (1, 64), (1, 64), (0, 3), (1, 1800), (1, 600), (1, 4), (1, 4), (1, 4), (0, 8)] from (by simp only [List.append_assoc, List.cons_append, List.nil_append])]
  refine w_dup l_98_108 rfl ?_
  refine q_cs [] [vr (o + 72), vr o] l_98_109 (by decide) rfl rfl (Nat.le_of_ble_eq_true rfl) (by rw [mx_91]; exact Nat.le_of_ble_eq_true rfl) (by rw [rk_91]; decide) (nc_91 (o := o + 72) (by rw [ap_r (j := 71) (by omega)]; rfl) (by simp only [List.length_append, List.length_cons, List.length_nil]; omega) (by omega) (by omega)) (fun J6 U6 f6 g6 z6 p6 => ?_)
  rw [show (S ++ [(3, 600), (0, 4), (0, 6), (0, 1), (1, 4), (1, 4), (1, 4), (1, 4), (1, 4), (1, 9), (1, 600), (0, 6), (0, 1), (1, 4), (1, 4), (1, 4), (1, 4), (1, 4), (1, 9), (1, 600), (0, 0), (1, 120), (1, 120), (1, 120), (1, 120), (1, 120), (1, 120), (1, 120), (1, 120), (1, 120), (5, 8), (0, 5), (0, 1), (1, 4), (1, 4), (1, 4), (1, 4), (0, 7), (1, 4), (1, 4), (1, 4), (1, 480), (1, 480), (1, 64), (1, 64), (0, 3), (1, 1800), (1, 600), (1, 4), (1, 4), (1, 4), (0, 5), (0, 1), (1, 4), (1, 4), (1, 4), (1, 4), (0, 7), (1, 4), (1, 4), (1, 4), (1, 480), (1, 480), (1, 64), (1, 64), (0, 3), (1, 1800), (1, 600), (1, 4), (1, 4), (1, 4), (0, 8)] ++ [(1, 15), (4, 120)] : List (Nat × Nat)) = S ++ [(3, 600), (0, 4), (0, 6), (0, 1), (1, 4), (1, 4), (1, 4), (1, 4), (1, 4), (1, 9), (1, 600), (0, 6), (0, 1), (1, 4), (1, 4), (1, 4), (1, 4), (1, 4), (1, 9), (1, 600), (0, 0), (1, 120), (1, 120), (1, 120), (1, 120), (1, 120), (1, 120), (1, 120), (1, 120), (1, 120), (5, 8), (0, 5), (0, 1), (1, 4), (1, 4), (1, 4), (1, 4), (0, 7), (1, 4), (1, 4), (1, 4), (1, 480), (1, 480), (1, 64), (1, 64), (0, 3), (1, 1800), (1, 600), (1, 4), (1, 4), (1, 4), (0, 5), (0, 1), (1, 4), (1, 4), (1, 4), (1, 4), (0, 7), (1, 4), (1, 4), (1, 4), (1, 480), (1, 480), (1, 64), (1, 64), (0, 3), (1, 1800), (1, 600), (1, 4), (1, 4), (1, 4), (0, 8), (1, 15), (4, 120)] from (by simp only [List.append_assoc, List.cons_append, List.nil_append])] at p6 ⊢
  refine w_pR l_98_112 (ap_l hs) (by decide) ?_
  generalize hT8 : ut (U6) o 10 (o + 72 + 1) = T8
  have eT8 : ∀ z w, z < o + 72 → z ≠ o → T8 z w = T7 z w := fun z w h1 h2 => by rw [← hT8, ut_o (by omega), (f6 z w (by omega)).2, zt_o (by omega)]
  have u8 : ∀ w, w ≠ 10 → T8 o w = T7 o w := fun w h1 => by rw [← hT8, ut_o (by omega), (f6 o w (by omega)).2, zt_o (by omega)]
  have w8 : ∀ z w, z ≠ o → T8 z w = U6 z w := fun z w h1 => by rw [← hT8, ut_o (by omega)]
  have eI8 : ∀ z w, z < o + 72 → J6 z w = J5 z w := fun z w h1 => by rw [(f6 z w (by omega)).1, zr_o (by omega)]
  have zI8 : ∀ z w, o + 72 ≤ z → z < o + 75 → J6 z w = 0 := fun z w h1 h2 => by
    by_cases h3 : z = o + 72
    · rw [h3, g6, zr_e]
    · exact z6 z w (by omega) (by simp only [List.length_cons, List.length_nil]; omega)
  have v8 : T8 o 10 = o + 72 + 1 := by rw [← hT8, ut_e]
  refine w_aln l_98_115 rfl ?_
  refine w_nw l_98_116 (by omega) (by omega) ?_
  rw [show List.length (α := Nat × Nat) (S ++ [(3, 600), (0, 4), (0, 6), (0, 1), (1, 4), (1, 4), (1, 4), (1, 4), (1, 4), (1, 9), (1, 600), (0, 6), (0, 1), (1, 4), (1, 4), (1, 4), (1, 4), (1, 4), (1, 9), (1, 600), (0, 0), (1, 120), (1, 120), (1, 120), (1, 120), (1, 120), (1, 120), (1, 120), (1, 120), (1, 120), (5, 8), (0, 5), (0, 1), (1, 4), (1, 4), (1, 4), (1, 4), (0, 7), (1, 4), (1, 4), (1, 4), (1, 480), (1, 480), (1, 64), (1, 64), (0, 3), (1, 1800), (1, 600), (1, 4), (1, 4), (1, 4), (0, 5), (0, 1), (1, 4), (1, 4), (1, 4), (1, 4), (0, 7), (1, 4), (1, 4), (1, 4), (1, 480), (1, 480), (1, 64), (1, 64), (0, 3), (1, 1800), (1, 600), (1, 4), (1, 4), (1, 4), (0, 8), (1, 15), (4, 120)]) = o + 75 from (by simp only [List.length_append, List.length_cons, List.length_nil]; omega), show (S ++ [(3, 600), (0, 4), (0, 6), (0, 1), (1, 4), (1, 4), (1, 4), (1, 4), (1, 4), (1, 9), (1, 600), (0, 6), (0, 1), (1, 4), (1, 4), (1, 4), (1, 4), (1, 4), (1, 9), (1, 600), (0, 0), (1, 120), (1, 120), (1, 120), (1, 120), (1, 120), (1, 120), (1, 120), (1, 120), (1, 120), (5, 8), (0, 5), (0, 1), (1, 4), (1, 4), (1, 4), (1, 4), (0, 7), (1, 4), (1, 4), (1, 4), (1, 480), (1, 480), (1, 64), (1, 64), (0, 3), (1, 1800), (1, 600), (1, 4), (1, 4), (1, 4), (0, 5), (0, 1), (1, 4), (1, 4), (1, 4), (1, 4), (0, 7), (1, 4), (1, 4), (1, 4), (1, 480), (1, 480), (1, 64), (1, 64), (0, 3), (1, 1800), (1, 600), (1, 4), (1, 4), (1, 4), (0, 8), (1, 15), (4, 120)] ++ [(0, 5)] : List (Nat × Nat)) = S ++ [(3, 600), (0, 4), (0, 6), (0, 1), (1, 4), (1, 4), (1, 4), (1, 4), (1, 4), (1, 9), (1, 600), (0, 6), (0, 1), (1, 4), (1, 4), (1, 4), (1, 4), (1, 4), (1, 9), (1, 600), (0, 0), (1, 120), (1, 120), (1, 120), (1, 120), (1, 120), (1, 120), (1, 120), (1, 120), (1, 120), (5, 8), (0, 5), (0, 1), (1, 4), (1, 4), (1, 4), (1, 4), (0, 7), (1, 4), (1, 4), (1, 4), (1, 480), (1, 480), (1, 64), (1, 64), (0, 3), (1, 1800), (1, 600), (1, 4), (1, 4), (1, 4), (0, 5), (0, 1), (1, 4), (1, 4), (1, 4), (1, 4), (0, 7), (1, 4), (1, 4), (1, 4), (1, 480), (1, 480), (1, 64), (1, 64), (0, 3), (1, 1800), (1, 600), (1, 4), (1, 4), (1, 4), (0, 8), (1, 15), (4, 120), (0, 5)] from (by simp only [List.append_assoc, List.cons_append, List.nil_append])]
  refine w_dup l_98_119 rfl ?_
  refine w_aln l_98_120 rfl ?_
  refine w_gr l_98_121 (ap_l hs) (by rw [zt_o (by omega), u8 _ (by decide), u7 _ (by decide), u6 _ (by decide), u5 _ (by decide)]; exact v4) ?_
  refine q_cs [vr (o + 21)] [vr (o + 75), vr o] l_98_124 (by decide) rfl rfl (Nat.le_of_ble_eq_true rfl) (by rw [mx_48]; exact Nat.le_of_ble_eq_true rfl) (by rw [rk_48]; decide) (nc_48 (o := o + 75) (x := o + 21) (by rw [ap_r (j := 74) (by omega)]; rfl) (by simp only [List.length_append, List.length_cons, List.length_nil]; omega) (oHistory_ex pH (by rw [show (S ++ [(3, 600), (0, 4), (0, 6), (0, 1), (1, 4), (1, 4), (1, 4), (1, 4), (1, 4), (1, 9), (1, 600), (0, 6), (0, 1), (1, 4), (1, 4), (1, 4), (1, 4), (1, 4), (1, 9), (1, 600), (0, 0), (1, 120), (1, 120), (1, 120), (1, 120), (1, 120), (1, 120), (1, 120), (1, 120), (1, 120), (5, 8), (0, 5), (0, 1), (1, 4), (1, 4), (1, 4), (1, 4), (0, 7), (1, 4), (1, 4), (1, 4), (1, 480), (1, 480), (1, 64), (1, 64), (0, 3), (1, 1800), (1, 600), (1, 4), (1, 4), (1, 4), (0, 5), (0, 1), (1, 4), (1, 4), (1, 4), (1, 4), (0, 7), (1, 4), (1, 4), (1, 4), (1, 480), (1, 480), (1, 64), (1, 64), (0, 3), (1, 1800), (1, 600), (1, 4), (1, 4), (1, 4), (0, 8), (1, 15), (4, 120), (0, 5)] : List (Nat × Nat)) = (S ++ [(3, 600), (0, 4), (0, 6), (0, 1), (1, 4), (1, 4), (1, 4), (1, 4), (1, 4), (1, 9), (1, 600), (0, 6), (0, 1), (1, 4), (1, 4), (1, 4), (1, 4), (1, 4), (1, 9), (1, 600), (0, 0), (1, 120), (1, 120), (1, 120), (1, 120), (1, 120), (1, 120), (1, 120), (1, 120), (1, 120)]) ++ [(5, 8), (0, 5), (0, 1), (1, 4), (1, 4), (1, 4), (1, 4), (0, 7), (1, 4), (1, 4), (1, 4), (1, 480), (1, 480), (1, 64), (1, 64), (0, 3), (1, 1800), (1, 600), (1, 4), (1, 4), (1, 4), (0, 5), (0, 1), (1, 4), (1, 4), (1, 4), (1, 4), (0, 7), (1, 4), (1, 4), (1, 4), (1, 480), (1, 480), (1, 64), (1, 64), (0, 3), (1, 1800), (1, 600), (1, 4), (1, 4), (1, 4), (0, 8), (1, 15), (4, 120), (0, 5)] from (by simp only [List.append_assoc, List.cons_append, List.nil_append])]; exact (ex_rf _).ap _) (fun w => by rw [zt_o (by omega), eT8 _ _ (by omega) (by omega), eT7 _ _ (by omega) (by omega), eT6 _ _ (by omega) (by omega), eT5 _ _ (by omega) (by omega), w4 _ _ (by omega)])) (by omega) (by omega) (by omega)) (fun J7 U7 f7 g7 z7 p7 => ?_)
  rw [show (S ++ [(3, 600), (0, 4), (0, 6), (0, 1), (1, 4), (1, 4), (1, 4), (1, 4), (1, 4), (1, 9), (1, 600), (0, 6), (0, 1), (1, 4), (1, 4), (1, 4), (1, 4), (1, 4), (1, 9), (1, 600), (0, 0), (1, 120), (1, 120), (1, 120), (1, 120), (1, 120), (1, 120), (1, 120), (1, 120), (1, 120), (5, 8), (0, 5), (0, 1), (1, 4), (1, 4), (1, 4), (1, 4), (0, 7), (1, 4), (1, 4), (1, 4), (1, 480), (1, 480), (1, 64), (1, 64), (0, 3), (1, 1800), (1, 600), (1, 4), (1, 4), (1, 4), (0, 5), (0, 1), (1, 4), (1, 4), (1, 4), (1, 4), (0, 7), (1, 4), (1, 4), (1, 4), (1, 480), (1, 480), (1, 64), (1, 64), (0, 3), (1, 1800), (1, 600), (1, 4), (1, 4), (1, 4), (0, 8), (1, 15), (4, 120), (0, 5)] ++ [(0, 1), (1, 4), (1, 4), (1, 4), (1, 4), (0, 7), (1, 4), (1, 4), (1, 4), (1, 480), (1, 480), (1, 64), (1, 64), (0, 3), (1, 1800), (1, 600), (1, 4), (1, 4), (1, 4)] : List (Nat × Nat)) = S ++ [(3, 600), (0, 4), (0, 6), (0, 1), (1, 4), (1, 4), (1, 4), (1, 4), (1, 4), (1, 9), (1, 600), (0, 6), (0, 1), (1, 4), (1, 4), (1, 4), (1, 4), (1, 4), (1, 9), (1, 600), (0, 0), (1, 120), (1, 120), (1, 120), (1, 120), (1, 120), (1, 120), (1, 120), (1, 120), (1, 120), (5, 8), (0, 5), (0, 1), (1, 4), (1, 4), (1, 4), (1, 4), (0, 7), (1, 4), (1, 4), (1, 4), (1, 480), (1, 480), (1, 64), (1, 64), (0, 3), (1, 1800), (1, 600), (1, 4), (1, 4), (1, 4), (0, 5), (0, 1), (1, 4), (1, 4), (1, 4), (1, 4), (0, 7), (1, 4), (1, 4), (1, 4), (1, 480), (1, 480), (1, 64), (1, 64), (0, 3), (1, 1800), (1, 600), (1, 4), (1, 4), (1, 4), (0, 8), (1, 15), (4, 120), (0, 5), (0, 1), (1, 4), (1, 4), (1, 4), (1, 4), (0, 7), (1, 4), (1, 4), (1, 4), (1, 480), (1, 480), (1, 64), (1, 64), (0, 3), (1, 1800), (1, 600), (1, 4), (1, 4), (1, 4)] from (by simp only [List.append_assoc, List.cons_append, List.nil_append])] at p7 ⊢
  refine w_pR l_98_127 (ap_l hs) (by decide) ?_
  generalize hT9 : ut (U7) o 11 (o + 75 + 1) = T9
  have eT9 : ∀ z w, z < o + 75 → z ≠ o → T9 z w = T8 z w := fun z w h1 h2 => by rw [← hT9, ut_o (by omega), (f7 z w (by omega)).2, zt_o (by omega)]
  have u9 : ∀ w, w ≠ 11 → T9 o w = T8 o w := fun w h1 => by rw [← hT9, ut_o (by omega), (f7 o w (by omega)).2, zt_o (by omega)]
  have w9 : ∀ z w, z ≠ o → T9 z w = U7 z w := fun z w h1 => by rw [← hT9, ut_o (by omega)]
  have eI9 : ∀ z w, z < o + 75 → J7 z w = J6 z w := fun z w h1 => by rw [(f7 z w (by omega)).1, zr_o (by omega)]
  have zI9 : ∀ z w, o + 75 ≤ z → z < o + 95 → J7 z w = 0 := fun z w h1 h2 => by
    by_cases h3 : z = o + 75
    · rw [h3, g7, zr_e]
    · exact z7 z w (by omega) (by simp only [List.length_cons, List.length_nil]; omega)
  have v9 : T9 o 11 = o + 75 + 1 := by rw [← hT9, ut_e]
  refine w_aln l_98_130 rfl ?_
  refine w_ic l_98_131 (by decide) ?_
  refine w_pi l_98_132 (ap_l hs) ?_
  refine w_aln l_98_135 rfl ?_
  refine w_ic l_98_136 (by decide) ?_
  refine w_pi l_98_137 (ap_l hs) ?_
  refine w_aln l_98_140 rfl ?_
  refine w_bp l_98_141 (by decide) ?_
  refine w_na (n := 120) l_98_143 (fun _ _ _ _ => rfl) (by omega) (by omega) (by decide) ?_
  rw [show List.length (α := Nat × Nat) (S ++ [(3, 600), (0, 4), (0, 6), (0, 1), (1, 4), (1, 4), (1, 4), (1, 4), (1, 4), (1, 9), (1, 600), (0, 6), (0, 1), (1, 4), (1, 4), (1, 4), (1, 4), (1, 4), (1, 9), (1, 600), (0, 0), (1, 120), (1, 120), (1, 120), (1, 120), (1, 120), (1, 120), (1, 120), (1, 120), (1, 120), (5, 8), (0, 5), (0, 1), (1, 4), (1, 4), (1, 4), (1, 4), (0, 7), (1, 4), (1, 4), (1, 4), (1, 480), (1, 480), (1, 64), (1, 64), (0, 3), (1, 1800), (1, 600), (1, 4), (1, 4), (1, 4), (0, 5), (0, 1), (1, 4), (1, 4), (1, 4), (1, 4), (0, 7), (1, 4), (1, 4), (1, 4), (1, 480), (1, 480), (1, 64), (1, 64), (0, 3), (1, 1800), (1, 600), (1, 4), (1, 4), (1, 4), (0, 8), (1, 15), (4, 120), (0, 5), (0, 1), (1, 4), (1, 4), (1, 4), (1, 4), (0, 7), (1, 4), (1, 4), (1, 4), (1, 480), (1, 480), (1, 64), (1, 64), (0, 3), (1, 1800), (1, 600), (1, 4), (1, 4), (1, 4)]) = o + 95 from (by simp only [List.length_append, List.length_cons, List.length_nil]; omega), show (S ++ [(3, 600), (0, 4), (0, 6), (0, 1), (1, 4), (1, 4), (1, 4), (1, 4), (1, 4), (1, 9), (1, 600), (0, 6), (0, 1), (1, 4), (1, 4), (1, 4), (1, 4), (1, 4), (1, 9), (1, 600), (0, 0), (1, 120), (1, 120), (1, 120), (1, 120), (1, 120), (1, 120), (1, 120), (1, 120), (1, 120), (5, 8), (0, 5), (0, 1), (1, 4), (1, 4), (1, 4), (1, 4), (0, 7), (1, 4), (1, 4), (1, 4), (1, 480), (1, 480), (1, 64), (1, 64), (0, 3), (1, 1800), (1, 600), (1, 4), (1, 4), (1, 4), (0, 5), (0, 1), (1, 4), (1, 4), (1, 4), (1, 4), (0, 7), (1, 4), (1, 4), (1, 4), (1, 480), (1, 480), (1, 64), (1, 64), (0, 3), (1, 1800), (1, 600), (1, 4), (1, 4), (1, 4), (0, 8), (1, 15), (4, 120), (0, 5), (0, 1), (1, 4), (1, 4), (1, 4), (1, 4), (0, 7), (1, 4), (1, 4), (1, 4), (1, 480), (1, 480), (1, 64), (1, 64), (0, 3), (1, 1800), (1, 600), (1, 4), (1, 4), (1, 4)] ++ [(1, 120)] : List (Nat × Nat)) = S ++ [(3, 600), (0, 4), (0, 6), (0, 1), (1, 4), (1, 4), (1, 4), (1, 4), (1, 4), (1, 9), (1, 600), (0, 6), (0, 1), (1, 4), (1, 4), (1, 4), (1, 4), (1, 4), (1, 9), (1, 600), (0, 0), (1, 120), (1, 120), (1, 120), (1, 120), (1, 120), (1, 120), (1, 120), (1, 120), (1, 120), (5, 8), (0, 5), (0, 1), (1, 4), (1, 4), (1, 4), (1, 4), (0, 7), (1, 4), (1, 4), (1, 4), (1, 480), (1, 480), (1, 64), (1, 64), (0, 3), (1, 1800), (1, 600), (1, 4), (1, 4), (1, 4), (0, 5), (0, 1), (1, 4), (1, 4), (1, 4), (1, 4), (0, 7), (1, 4), (1, 4), (1, 4), (1, 480), (1, 480), (1, 64), (1, 64), (0, 3), (1, 1800), (1, 600), (1, 4), (1, 4), (1, 4), (0, 8), (1, 15), (4, 120), (0, 5), (0, 1), (1, 4), (1, 4), (1, 4), (1, 4), (0, 7), (1, 4), (1, 4), (1, 4), (1, 480), (1, 480), (1, 64), (1, 64), (0, 3), (1, 1800), (1, 600), (1, 4), (1, 4), (1, 4), (1, 120)] from (by simp only [List.append_assoc, List.cons_append, List.nil_append])]
  refine w_pR l_98_145 (ap_l hs) (by decide) ?_
  generalize hT10 : ut (zt (o + 95) T9) o 14 (o + 95 + 1) = T10
  have eT10 : ∀ z w, z < o + 95 → z ≠ o → T10 z w = T9 z w := fun z w h1 h2 => by rw [← hT10, ut_o (by omega), zt_o (by omega)]
  have u10 : ∀ w, w ≠ 14 → T10 o w = T9 o w := fun w h1 => by rw [← hT10, ut_o (by omega), zt_o (by omega)]
  generalize hI10 : zr (o + 95) (up (up J7 o 12 1) o 13 0) = I10
  have eI10 : ∀ z w, z < o + 95 → I10 z w = (up (up J7 o 12 1) o 13 0) z w := fun z w h1 => by rw [← hI10, zr_o (by omega)]
  have zI10 : ∀ z w, o + 95 ≤ z → z < o + 96 → I10 z w = 0 := fun z w h1 h2 => by rw [← hI10, show z = o + 95 by omega, zr_e]
  have v10 : T10 o 14 = o + 95 + 1 := by rw [← hT10, ut_e]
  refine w_aln l_98_148 rfl ?_
  refine w_sp l_98_149 (by decide) ?_
  refine w_na (n := 720) l_98_152 (fun _ _ _ _ => rfl) (by omega) (by omega) (by decide) ?_
  rw [show List.length (α := Nat × Nat) (S ++ [(3, 600), (0, 4), (0, 6), (0, 1), (1, 4), (1, 4), (1, 4), (1, 4), (1, 4), (1, 9), (1, 600), (0, 6), (0, 1), (1, 4), (1, 4), (1, 4), (1, 4), (1, 4), (1, 9), (1, 600), (0, 0), (1, 120), (1, 120), (1, 120), (1, 120), (1, 120), (1, 120), (1, 120), (1, 120), (1, 120), (5, 8), (0, 5), (0, 1), (1, 4), (1, 4), (1, 4), (1, 4), (0, 7), (1, 4), (1, 4), (1, 4), (1, 480), (1, 480), (1, 64), (1, 64), (0, 3), (1, 1800), (1, 600), (1, 4), (1, 4), (1, 4), (0, 5), (0, 1), (1, 4), (1, 4), (1, 4), (1, 4), (0, 7), (1, 4), (1, 4), (1, 4), (1, 480), (1, 480), (1, 64), (1, 64), (0, 3), (1, 1800), (1, 600), (1, 4), (1, 4), (1, 4), (0, 8), (1, 15), (4, 120), (0, 5), (0, 1), (1, 4), (1, 4), (1, 4), (1, 4), (0, 7), (1, 4), (1, 4), (1, 4), (1, 480), (1, 480), (1, 64), (1, 64), (0, 3), (1, 1800), (1, 600), (1, 4), (1, 4), (1, 4), (1, 120)]) = o + 96 from (by simp only [List.length_append, List.length_cons, List.length_nil]; omega), show (S ++ [(3, 600), (0, 4), (0, 6), (0, 1), (1, 4), (1, 4), (1, 4), (1, 4), (1, 4), (1, 9), (1, 600), (0, 6), (0, 1), (1, 4), (1, 4), (1, 4), (1, 4), (1, 4), (1, 9), (1, 600), (0, 0), (1, 120), (1, 120), (1, 120), (1, 120), (1, 120), (1, 120), (1, 120), (1, 120), (1, 120), (5, 8), (0, 5), (0, 1), (1, 4), (1, 4), (1, 4), (1, 4), (0, 7), (1, 4), (1, 4), (1, 4), (1, 480), (1, 480), (1, 64), (1, 64), (0, 3), (1, 1800), (1, 600), (1, 4), (1, 4), (1, 4), (0, 5), (0, 1), (1, 4), (1, 4), (1, 4), (1, 4), (0, 7), (1, 4), (1, 4), (1, 4), (1, 480), (1, 480), (1, 64), (1, 64), (0, 3), (1, 1800), (1, 600), (1, 4), (1, 4), (1, 4), (0, 8), (1, 15), (4, 120), (0, 5), (0, 1), (1, 4), (1, 4), (1, 4), (1, 4), (0, 7), (1, 4), (1, 4), (1, 4), (1, 480), (1, 480), (1, 64), (1, 64), (0, 3), (1, 1800), (1, 600), (1, 4), (1, 4), (1, 4), (1, 120)] ++ [(2, 720)] : List (Nat × Nat)) = S ++ [(3, 600), (0, 4), (0, 6), (0, 1), (1, 4), (1, 4), (1, 4), (1, 4), (1, 4), (1, 9), (1, 600), (0, 6), (0, 1), (1, 4), (1, 4), (1, 4), (1, 4), (1, 4), (1, 9), (1, 600), (0, 0), (1, 120), (1, 120), (1, 120), (1, 120), (1, 120), (1, 120), (1, 120), (1, 120), (1, 120), (5, 8), (0, 5), (0, 1), (1, 4), (1, 4), (1, 4), (1, 4), (0, 7), (1, 4), (1, 4), (1, 4), (1, 480), (1, 480), (1, 64), (1, 64), (0, 3), (1, 1800), (1, 600), (1, 4), (1, 4), (1, 4), (0, 5), (0, 1), (1, 4), (1, 4), (1, 4), (1, 4), (0, 7), (1, 4), (1, 4), (1, 4), (1, 480), (1, 480), (1, 64), (1, 64), (0, 3), (1, 1800), (1, 600), (1, 4), (1, 4), (1, 4), (0, 8), (1, 15), (4, 120), (0, 5), (0, 1), (1, 4), (1, 4), (1, 4), (1, 4), (0, 7), (1, 4), (1, 4), (1, 4), (1, 480), (1, 480), (1, 64), (1, 64), (0, 3), (1, 1800), (1, 600), (1, 4), (1, 4), (1, 4), (1, 120), (2, 720)] from (by simp only [List.append_assoc, List.cons_append, List.nil_append])]
  refine w_pR l_98_154 (ap_l hs) (by decide) ?_
  generalize hT11 : ut (zt (o + 96) T10) o 15 (o + 96 + 1) = T11
  have eT11 : ∀ z w, z < o + 96 → z ≠ o → T11 z w = T10 z w := fun z w h1 h2 => by rw [← hT11, ut_o (by omega), zt_o (by omega)]
  have u11 : ∀ w, w ≠ 15 → T11 o w = T10 o w := fun w h1 => by rw [← hT11, ut_o (by omega), zt_o (by omega)]
  generalize hI11 : zr (o + 96) I10 = I11
  have eI11 : ∀ z w, z < o + 96 → I11 z w = I10 z w := fun z w h1 => by rw [← hI11, zr_o (by omega)]
  have zI11 : ∀ z w, o + 96 ≤ z → z < o + 97 → I11 z w = 0 := fun z w h1 h2 => by rw [← hI11, show z = o + 96 by omega, zr_e]
  have v11 : T11 o 15 = o + 96 + 1 := by rw [← hT11, ut_e]
  refine w_aln l_98_157 rfl ?_
  refine w_nw l_98_158 (by omega) (by omega) ?_
  rw [show List.length (α := Nat × Nat) (S ++ [(3, 600), (0, 4), (0, 6), (0, 1), (1, 4), (1, 4), (1, 4), (1, 4), (1, 4), (1, 9), (1, 600), (0, 6), (0, 1), (1, 4), (1, 4), (1, 4), (1, 4), (1, 4), (1, 9), (1, 600), (0, 0), (1, 120), (1, 120), (1, 120), (1, 120), (1, 120), (1, 120), (1, 120), (1, 120), (1, 120), (5, 8), (0, 5), (0, 1), (1, 4), (1, 4), (1, 4), (1, 4), (0, 7), (1, 4), (1, 4), (1, 4), (1, 480), (1, 480), (1, 64), (1, 64), (0, 3), (1, 1800), (1, 600), (1, 4), (1, 4), (1, 4), (0, 5), (0, 1), (1, 4), (1, 4), (1, 4), (1, 4), (0, 7), (1, 4), (1, 4), (1, 4), (1, 480), (1, 480), (1, 64), (1, 64), (0, 3), (1, 1800), (1, 600), (1, 4), (1, 4), (1, 4), (0, 8), (1, 15), (4, 120), (0, 5), (0, 1), (1, 4), (1, 4), (1, 4), (1, 4), (0, 7), (1, 4), (1, 4), (1, 4), (1, 480), (1, 480), (1, 64), (1, 64), (0, 3), (1, 1800), (1, 600), (1, 4), (1, 4), (1, 4), (1, 120), (2, 720)]) = o + 97 from (by simp only [List.length_append, List.length_cons, List.length_nil]; omega), show (S ++ [(3, 600), (0, 4), (0, 6), (0, 1), (1, 4), (1, 4), (1, 4), (1, 4), (1, 4), (1, 9), (1, 600), (0, 6), (0, 1), (1, 4), (1, 4), (1, 4), (1, 4), (1, 4), (1, 9), (1, 600), (0, 0), (1, 120), (1, 120), (1, 120), (1, 120), (1, 120), (1, 120), (1, 120), (1, 120), (1, 120), (5, 8), (0, 5), (0, 1), (1, 4), (1, 4), (1, 4), (1, 4), (0, 7), (1, 4), (1, 4), (1, 4), (1, 480), (1, 480), (1, 64), (1, 64), (0, 3), (1, 1800), (1, 600), (1, 4), (1, 4), (1, 4), (0, 5), (0, 1), (1, 4), (1, 4), (1, 4), (1, 4), (0, 7), (1, 4), (1, 4), (1, 4), (1, 480), (1, 480), (1, 64), (1, 64), (0, 3), (1, 1800), (1, 600), (1, 4), (1, 4), (1, 4), (0, 8), (1, 15), (4, 120), (0, 5), (0, 1), (1, 4), (1, 4), (1, 4), (1, 4), (0, 7), (1, 4), (1, 4), (1, 4), (1, 480), (1, 480), (1, 64), (1, 64), (0, 3), (1, 1800), (1, 600), (1, 4), (1, 4), (1, 4), (1, 120), (2, 720)] ++ [(0, 2)] : List (Nat × Nat)) = S ++ [(3, 600), (0, 4), (0, 6), (0, 1), (1, 4), (1, 4), (1, 4), (1, 4), (1, 4), (1, 9), (1, 600), (0, 6), (0, 1), (1, 4), (1, 4), (1, 4), (1, 4), (1, 4), (1, 9), (1, 600), (0, 0), (1, 120), (1, 120), (1, 120), (1, 120), (1, 120), (1, 120), (1, 120), (1, 120), (1, 120), (5, 8), (0, 5), (0, 1), (1, 4), (1, 4), (1, 4), (1, 4), (0, 7), (1, 4), (1, 4), (1, 4), (1, 480), (1, 480), (1, 64), (1, 64), (0, 3), (1, 1800), (1, 600), (1, 4), (1, 4), (1, 4), (0, 5), (0, 1), (1, 4), (1, 4), (1, 4), (1, 4), (0, 7), (1, 4), (1, 4), (1, 4), (1, 480), (1, 480), (1, 64), (1, 64), (0, 3), (1, 1800), (1, 600), (1, 4), (1, 4), (1, 4), (0, 8), (1, 15), (4, 120), (0, 5), (0, 1), (1, 4), (1, 4), (1, 4), (1, 4), (0, 7), (1, 4), (1, 4), (1, 4), (1, 480), (1, 480), (1, 64), (1, 64), (0, 3), (1, 1800), (1, 600), (1, 4), (1, 4), (1, 4), (1, 120), (2, 720), (0, 2)] from (by simp only [List.append_assoc, List.cons_append, List.nil_append])]
  refine w_dup l_98_161 rfl ?_
  refine q_cs [] [vr (o + 97), vr o] l_98_162 (by decide) rfl rfl (Nat.le_of_ble_eq_true rfl) (by rw [mx_12]; exact Nat.le_of_ble_eq_true rfl) (by rw [rk_12]; decide) (nc_12 (o := o + 97) (by rw [ap_r (j := 96) (by omega)]; rfl) (by simp only [List.length_append, List.length_cons, List.length_nil]; omega) (by omega) (by omega)) (fun J8 U8 f8 g8 z8 p8 => ?_)
  rw [show (S ++ [(3, 600), (0, 4), (0, 6), (0, 1), (1, 4), (1, 4), (1, 4), (1, 4), (1, 4), (1, 9), (1, 600), (0, 6), (0, 1), (1, 4), (1, 4), (1, 4), (1, 4), (1, 4), (1, 9), (1, 600), (0, 0), (1, 120), (1, 120), (1, 120), (1, 120), (1, 120), (1, 120), (1, 120), (1, 120), (1, 120), (5, 8), (0, 5), (0, 1), (1, 4), (1, 4), (1, 4), (1, 4), (0, 7), (1, 4), (1, 4), (1, 4), (1, 480), (1, 480), (1, 64), (1, 64), (0, 3), (1, 1800), (1, 600), (1, 4), (1, 4), (1, 4), (0, 5), (0, 1), (1, 4), (1, 4), (1, 4), (1, 4), (0, 7), (1, 4), (1, 4), (1, 4), (1, 480), (1, 480), (1, 64), (1, 64), (0, 3), (1, 1800), (1, 600), (1, 4), (1, 4), (1, 4), (0, 8), (1, 15), (4, 120), (0, 5), (0, 1), (1, 4), (1, 4), (1, 4), (1, 4), (0, 7), (1, 4), (1, 4), (1, 4), (1, 480), (1, 480), (1, 64), (1, 64), (0, 3), (1, 1800), (1, 600), (1, 4), (1, 4), (1, 4), (1, 120), (2, 720), (0, 2)] ++ [(3, 600)] : List (Nat × Nat)) = S ++ [(3, 600), (0, 4), (0, 6), (0, 1), (1, 4), (1, 4), (1, 4), (1, 4), (1, 4), (1, 9), (1, 600), (0, 6), (0, 1), (1, 4), (1, 4), (1, 4), (1, 4), (1, 4), (1, 9), (1, 600), (0, 0), (1, 120), (1, 120), (1, 120), (1, 120), (1, 120), (1, 120), (1, 120), (1, 120), (1, 120), (5, 8), (0, 5), (0, 1), (1, 4), (1, 4), (1, 4), (1, 4), (0, 7), (1, 4), (1, 4), (1, 4), (1, 480), (1, 480), (1, 64), (1, 64), (0, 3), (1, 1800), (1, 600), (1, 4), (1, 4), (1, 4), (0, 5), (0, 1), (1, 4), (1, 4), (1, 4), (1, 4), (0, 7), (1, 4), (1, 4), (1, 4), (1, 480), (1, 480), (1, 64), (1, 64), (0, 3), (1, 1800), (1, 600), (1, 4), (1, 4), (1, 4), (0, 8), (1, 15), (4, 120), (0, 5), (0, 1), (1, 4), (1, 4), (1, 4), (1, 4), (0, 7), (1, 4), (1, 4), (1, 4), (1, 480), (1, 480), (1, 64), (1, 64), (0, 3), (1, 1800), (1, 600), (1, 4), (1, 4), (1, 4), (1, 120), (2, 720), (0, 2), (3, 600)] from (by simp only [List.append_assoc, List.cons_append, List.nil_append])] at p8 ⊢
  refine w_pR l_98_165 (ap_l hs) (by decide) ?_
  generalize hT12 : ut (U8) o 16 (o + 97 + 1) = T12
  have eT12 : ∀ z w, z < o + 97 → z ≠ o → T12 z w = T11 z w := fun z w h1 h2 => by rw [← hT12, ut_o (by omega), (f8 z w (by omega)).2, zt_o (by omega)]
  have u12 : ∀ w, w ≠ 16 → T12 o w = T11 o w := fun w h1 => by rw [← hT12, ut_o (by omega), (f8 o w (by omega)).2, zt_o (by omega)]
  have w12 : ∀ z w, z ≠ o → T12 z w = U8 z w := fun z w h1 => by rw [← hT12, ut_o (by omega)]
  have eI12 : ∀ z w, z < o + 97 → J8 z w = I11 z w := fun z w h1 => by rw [(f8 z w (by omega)).1, zr_o (by omega)]
  have zI12 : ∀ z w, o + 97 ≤ z → z < o + 99 → J8 z w = 0 := fun z w h1 h2 => by
    by_cases h3 : z = o + 97
    · rw [h3, g8, zr_e]
    · exact z8 z w (by omega) (by simp only [List.length_cons, List.length_nil]; omega)
  have v12 : T12 o 16 = o + 97 + 1 := by rw [← hT12, ut_e]
  exact kk _ _ _ _ (by omega)
end DSC
