/-! constructor of the class, up to its States, a part at a time -/
/-- what a stage leaves: more shapes, the lower places as they were, the field b of o at the new part -/
def sgE (S S' : List (Nat × Nat)) (I I' : Ix) (T T' : Nat → Nat → Nat) (o cur cur' b : Nat) : Prop := ex S S' ∧ S'.length = o + cur' ∧ (∀ z w, z < o + cur → z ≠ o → I' z w = I z w ∧ T' z w = T z w) ∧ (∀ w, w ≠ b → T' o w = T o w) ∧ T' o b = o + cur + 1
theorem F_up {o a b : Nat} {I1 I2 I3 : Ix} {T1 T2 T3 : Nat → Nat → Nat} (f2 : ∀ z w, z < o + b → z ≠ o → I3 z w = I2 z w ∧ T3 z w = T2 z w) (f1 : ∀ z w, z < o + a → z ≠ o → I2 z w = I1 z w ∧ T2 z w = T1 z w) (h : a ≤ b) : ∀ z w, z < o + a → z ≠ o → I3 z w = I1 z w ∧ T3 z w = T1 z w := fun z w h1 h2 => ⟨(f2 z w (by omega) h2).1.trans (f1 z w h1 h2).1, (f2 z w (by omega) h2).2.trans (f1 z w h1 h2).2⟩
theorem F_w {o a x : Nat} {I1 I3 : Ix} {T1 T3 : Nat → Nat → Nat} (F : ∀ z w, z < o + a → z ≠ o → I3 z w = I1 z w ∧ T3 z w = T1 z w) (h0 : 0 < x ∧ x < a) : ∀ w, T3 (o + x) w = T1 (o + x) w := fun w => (F _ w (by omega) (by omega)).2
theorem F_j {o a x d : Nat} {I1 I3 : Ix} {T1 T3 : Nat → Nat → Nat} (F : ∀ z w, z < o + a → z ≠ o → I3 z w = I1 z w ∧ T3 z w = T1 z w) (h0 : 0 < x ∧ x + d < a) : ∀ j w, o + x ≤ j → j ≤ o + x + d → T3 j w = T1 j w := fun j w h1 h2 => (F _ w (by omega) (by omega)).2
theorem F_s {o a x : Nat} {I1 I3 : Ix} {T1 T3 : Nat → Nat → Nat} (F : ∀ z w, z < o + a → z ≠ o → I3 z w = I1 z w ∧ T3 z w = T1 z w) (h0 : 0 < x ∧ x + 8 < a) : ∀ j, j ≤ 8 → ∀ w, I3 (o + x + j) w = I1 (o + x + j) w := fun j hj w => (F _ w (by omega) (by omega)).1
theorem F_z {o a x b c : Nat} {I1 I3 : Ix} {T1 T3 : Nat → Nat → Nat} (F : ∀ z w, z < o + a → z ≠ o → I3 z w = I1 z w ∧ T3 z w = T1 z w) (q : ∀ z w, o + x ≤ z → z < o + b → I1 z w = 0) (r : ∀ z w, o + b ≤ z → z < o + c → I3 z w = 0) (h0 : 0 < x ∧ b ≤ a) : ∀ z w, o + x ≤ z → z < o + c → I3 z w = 0 := fun z w h1 h2 => (Nat.lt_or_ge z (o + b)).elim (fun h3 => (F z w (by omega) (by omega)).1.trans (q z w h1 h3)) (fun h3 => r z w h3 h2)
theorem up_c3 {I J : Ix} {o a b c w : Nat} {u v x : Int} (h : J o w = I o w) : (up (up (up J o a u) o b v) o c x) o w = (up (up (up I o a u) o b v) o c x) o w := by
  unfold up
  simp only [h]
theorem up_c2 {I J : Ix} {o a b w : Nat} {u v : Int} (h : J o w = I o w) : (up (up J o a u) o b v) o w = (up (up I o a u) o b v) o w := by
  unfold up
  simp only [h]
section DSC
variable {xs : List Int} {S : List (Nat × Nat)} {I : Ix} {T : Nat → Nat → Nat} {cc zz o : Nat} {Q : Res → Mem → Prop}

theorem mx_98 : mxl 98 = 2 := by decide +kernel
theorem mt_98 : mtc 98 = 9 := by decide +kernel
theorem rk_98 (as : List AV) : rkA 98 as = 4 := rfl
theorem l_98_0 : look 98 0 = some (.aload_n 0, 1, 0, 0, 0, 0) := by decide +kernel
theorem l_98_1 : look 98 1 = some (.invokespecial 3, 3, 0, 1, 4, 356) := by decide +kernel
theorem l_98_4 : look 98 4 = some (.aload_n 0, 1, 0, 0, 0, 0) := by decide +kernel
theorem l_98_5 : look 98 5 = some (.sipush 600, 3, 0, 0, 0, 0) := by decide +kernel
theorem l_98_8 : look 98 8 = some (.newarray .byte, 2, 3, 0, 0, 0) := by decide +kernel
theorem l_98_10 : look 98 10 = some (.putfield 9, 3, 9, 0, 12, 724) := by decide +kernel
theorem l_98_13 : look 98 13 = some (.aload_n 0, 1, 0, 0, 0, 0) := by decide +kernel
theorem l_98_14 : look 98 14 = some (.iconst 0, 1, 0, 0, 0, 0) := by decide +kernel
theorem l_98_15 : look 98 15 = some (.putfield 13, 3, 9, 1, 0, 725) := by decide +kernel
theorem l_98_18 : look 98 18 = some (.aload_n 0, 1, 0, 0, 0, 0) := by decide +kernel
theorem l_98_19 : look 98 19 = some (.iconst (-1), 1, 0, 0, 0, 0) := by decide +kernel
theorem l_98_20 : look 98 20 = some (.putfield 17, 3, 9, 2, 0, 726) := by decide +kernel
theorem l_98_23 : look 98 23 = some (.aload_n 0, 1, 0, 0, 0, 0) := by decide +kernel
theorem l_98_24 : look 98 24 = some (.iconst 0, 1, 0, 0, 0, 0) := by decide +kernel
theorem l_98_25 : look 98 25 = some (.putfield 20, 3, 9, 3, 0, 727) := by decide +kernel
theorem l_98_28 : look 98 28 = some (.aload_n 0, 1, 0, 0, 0, 0) := by decide +kernel
theorem l_98_29 : look 98 29 = some (.new 23, 3, 4, 11, 0, 357) := by decide +kernel
theorem l_98_32 : look 98 32 = some (.dup, 1, 0, 0, 0, 0) := by decide +kernel
theorem l_98_33 : look 98 33 = some (.aload_n 0, 1, 0, 0, 0, 0) := by decide +kernel
theorem l_98_34 : look 98 34 = some (.getfield 9, 3, 9, 0, 2, 724) := by decide +kernel
theorem l_98_37 : look 98 37 = some (.invokespecial 25, 3, 30, 2, 2, 359) := by decide +kernel
theorem l_98_40 : look 98 40 = some (.putfield 28, 3, 9, 4, 12, 728) := by decide +kernel
theorem l_98_43 : look 98 43 = some (.aload_n 0, 1, 0, 0, 0, 0) := by decide +kernel
theorem l_98_44 : look 98 44 = some (.new 32, 3, 6, 6, 0, 498) := by decide +kernel
theorem l_98_47 : look 98 47 = some (.dup, 1, 0, 0, 0, 0) := by decide +kernel
theorem l_98_48 : look 98 48 = some (.invokespecial 34, 3, 65, 1, 2, 499) := by decide +kernel
theorem l_98_51 : look 98 51 = some (.putfield 35, 3, 9, 5, 2, 729) := by decide +kernel
theorem l_98_54 : look 98 54 = some (.aload_n 0, 1, 0, 0, 0, 0) := by decide +kernel
theorem l_98_55 : look 98 55 = some (.new 39, 3, 0, 11, 0, 500) := by decide +kernel
theorem l_98_58 : look 98 58 = some (.dup, 1, 0, 0, 0, 0) := by decide +kernel
theorem l_98_59 : look 98 59 = some (.invokespecial 41, 3, 0, 1, 3, 502) := by decide +kernel
theorem l_98_62 : look 98 62 = some (.putfield 42, 3, 9, 6, 12, 730) := by decide +kernel
theorem l_98_65 : look 98 65 = some (.aload_n 0, 1, 0, 0, 0, 0) := by decide +kernel
theorem l_98_66 : look 98 66 = some (.bipush 8, 2, 0, 0, 0, 0) := by decide +kernel
theorem l_98_68 : look 98 68 = some (.anewarray 46, 3, 5, 0, 0, 555) := by decide +kernel
theorem l_98_71 : look 98 71 = some (.putfield 48, 3, 9, 7, 12, 731) := by decide +kernel
theorem l_98_74 : look 98 74 = some (.aload_n 0, 1, 0, 0, 0, 0) := by decide +kernel
theorem l_98_75 : look 98 75 = some (.new 52, 3, 5, 5, 0, 557) := by decide +kernel
theorem l_98_78 : look 98 78 = some (.dup, 1, 0, 0, 0, 0) := by decide +kernel
theorem l_98_79 : look 98 79 = some (.aload_n 0, 1, 0, 0, 0, 0) := by decide +kernel
theorem l_98_80 : look 98 80 = some (.getfield 42, 3, 9, 6, 2, 730) := by decide +kernel
theorem l_98_83 : look 98 83 = some (.invokespecial 54, 3, 48, 2, 2, 559) := by decide +kernel
theorem l_98_86 : look 98 86 = some (.putfield 57, 3, 9, 8, 12, 732) := by decide +kernel
theorem l_98_89 : look 98 89 = some (.aload_n 0, 1, 0, 0, 0, 0) := by decide +kernel
theorem l_98_90 : look 98 90 = some (.new 52, 3, 5, 5, 0, 557) := by decide +kernel
theorem l_98_93 : look 98 93 = some (.dup, 1, 0, 0, 0, 0) := by decide +kernel
theorem l_98_94 : look 98 94 = some (.aload_n 0, 1, 0, 0, 0, 0) := by decide +kernel
theorem l_98_95 : look 98 95 = some (.getfield 42, 3, 9, 6, 2, 730) := by decide +kernel
theorem l_98_98 : look 98 98 = some (.invokespecial 54, 3, 48, 2, 2, 559) := by decide +kernel
theorem l_98_101 : look 98 101 = some (.putfield 61, 3, 9, 9, 12, 733) := by decide +kernel
theorem l_98_104 : look 98 104 = some (.aload_n 0, 1, 0, 0, 0, 0) := by decide +kernel
theorem l_98_105 : look 98 105 = some (.new 64, 3, 8, 2, 0, 653) := by decide +kernel
theorem l_98_108 : look 98 108 = some (.dup, 1, 0, 0, 0, 0) := by decide +kernel
theorem l_98_109 : look 98 109 = some (.invokespecial 66, 3, 91, 1, 3, 655) := by decide +kernel
theorem l_98_112 : look 98 112 = some (.putfield 67, 3, 9, 10, 12, 734) := by decide +kernel
theorem l_98_115 : look 98 115 = some (.aload_n 0, 1, 0, 0, 0, 0) := by decide +kernel
theorem l_98_116 : look 98 116 = some (.new 52, 3, 5, 5, 0, 557) := by decide +kernel
theorem l_98_119 : look 98 119 = some (.dup, 1, 0, 0, 0, 0) := by decide +kernel
theorem l_98_120 : look 98 120 = some (.aload_n 0, 1, 0, 0, 0, 0) := by decide +kernel
theorem l_98_121 : look 98 121 = some (.getfield 42, 3, 9, 6, 2, 730) := by decide +kernel
theorem l_98_124 : look 98 124 = some (.invokespecial 54, 3, 48, 2, 2, 559) := by decide +kernel
theorem l_98_127 : look 98 127 = some (.putfield 71, 3, 9, 11, 12, 735) := by decide +kernel
theorem l_98_130 : look 98 130 = some (.aload_n 0, 1, 0, 0, 0, 0) := by decide +kernel
theorem l_98_131 : look 98 131 = some (.iconst 1, 1, 0, 0, 0, 0) := by decide +kernel
theorem l_98_132 : look 98 132 = some (.putfield 74, 3, 9, 12, 0, 736) := by decide +kernel
theorem l_98_135 : look 98 135 = some (.aload_n 0, 1, 0, 0, 0, 0) := by decide +kernel
theorem l_98_136 : look 98 136 = some (.iconst 0, 1, 0, 0, 0, 0) := by decide +kernel
theorem l_98_137 : look 98 137 = some (.putfield 77, 3, 9, 13, 0, 737) := by decide +kernel
theorem l_98_140 : look 98 140 = some (.aload_n 0, 1, 0, 0, 0, 0) := by decide +kernel
theorem l_98_141 : look 98 141 = some (.bipush 120, 2, 0, 0, 0, 0) := by decide +kernel
theorem l_98_143 : look 98 143 = some (.newarray .int, 2, 1, 0, 0, 0) := by decide +kernel
theorem l_98_145 : look 98 145 = some (.putfield 80, 3, 9, 14, 12, 738) := by decide +kernel
theorem l_98_148 : look 98 148 = some (.aload_n 0, 1, 0, 0, 0, 0) := by decide +kernel
theorem l_98_149 : look 98 149 = some (.sipush 720, 3, 0, 0, 0, 0) := by decide +kernel
theorem l_98_152 : look 98 152 = some (.newarray .long, 2, 2, 0, 0, 0) := by decide +kernel
theorem l_98_154 : look 98 154 = some (.putfield 84, 3, 9, 15, 12, 739) := by decide +kernel
theorem l_98_157 : look 98 157 = some (.aload_n 0, 1, 0, 0, 0, 0) := by decide +kernel
theorem l_98_158 : look 98 158 = some (.new 88, 3, 2, 2, 0, 667) := by decide +kernel
theorem l_98_161 : look 98 161 = some (.dup, 1, 0, 0, 0, 0) := by decide +kernel
theorem l_98_162 : look 98 162 = some (.invokespecial 90, 3, 12, 1, 3, 669) := by decide +kernel
theorem l_98_165 : look 98 165 = some (.putfield 91, 3, 9, 16, 12, 740) := by decide +kernel
theorem l_98_168 : look 98 168 = some (.iconst 0, 1, 0, 0, 0, 0) := by decide +kernel
theorem l_98_169 : look 98 169 = some (.istore_n 1, 1, 0, 0, 0, 0) := by decide +kernel
theorem l_98_170 : look 98 170 = some (.iload_n 1, 1, 0, 0, 0, 0) := by decide +kernel
theorem l_98_171 : look 98 171 = some (.bipush 8, 2, 0, 0, 0, 0) := by decide +kernel
theorem l_98_173 : look 98 173 = some (.if_icmp .ge 22, 3, 0, 0, 0, 0) := by decide +kernel
theorem l_98_176 : look 98 176 = some (.aload_n 0, 1, 0, 0, 0, 0) := by decide +kernel
theorem l_98_177 : look 98 177 = some (.getfield 48, 3, 9, 7, 2, 731) := by decide +kernel
theorem l_98_180 : look 98 180 = some (.iload_n 1, 1, 0, 0, 0, 0) := by decide +kernel
theorem l_98_181 : look 98 181 = some (.new 46, 3, 7, 9, 0, 555) := by decide +kernel
theorem l_98_184 : look 98 184 = some (.dup, 1, 0, 0, 0, 0) := by decide +kernel
theorem l_98_185 : look 98 185 = some (.invokespecial 95, 3, 77, 1, 3, 682) := by decide +kernel
theorem l_98_188 : look 98 188 = some (.aastore, 1, 0, 0, 0, 0) := by decide +kernel
theorem l_98_189 : look 98 189 = some (.iinc 1 1, 3, 0, 0, 0, 0) := by decide +kernel
theorem l_98_192 : look 98 192 = some (.goto (-22), 3, 0, 0, 0, 0) := by decide +kernel
theorem l_98_195 : look 98 195 = some (.aload_n 0, 1, 0, 0, 0, 0) := by decide +kernel
theorem l_98_196 : look 98 196 = some (.invokevirtual 96, 3, 157, 1, 0, 683) := by decide +kernel
theorem l_98_199 : look 98 199 = some (.return_, 1, 0, 0, 0, 0) := by decide +kernel
theorem sg_98_1 (hs : S[o]? = some (0, 9)) (hL : S.length = o + 1) (hc : 1 ≤ cc) (hz : 600 ≤ zz) (kk : ∀ S' I' T', sgE S S' I I' T T' o 1 2 0 → (∀ w, I' o w = I o w) → (S'[o + 1]? = some (3, 600)) → (∀ z w, o + 1 ≤ z → z < o + 2 → I' z w = 0) → WP xs 98 4 13 [vr o, vs 2] [] (S', I', T', cc - 1, zz - 600) Q) : WP xs 98 4 0 [vr o, vs 2] [] (S, I, T, cc, zz) Q := by
  refine w_aln l_98_0 rfl ?_
  refine w_oi l_98_1 (Nat.le_of_ble_eq_true rfl) ?_
  refine w_aln l_98_4 rfl ?_
  refine w_sp l_98_5 (by decide) ?_
  refine w_na (n := 600) l_98_8 (fun _ _ _ _ => rfl) (by omega) (by omega) (by decide) ?_
  rw [hL]
  refine w_pR l_98_10 (ap_l hs) (by decide) ?_
  refine kk _ _ _ ⟨(ex_rf _).ap _, by rw [List.length_append, hL]; rfl, fun z w h1 h2 => ⟨by rw [zr_o (by omega)], by rw [ut_o (by omega), zt_o (by omega)]⟩, fun w h1 => by rw [ut_o (by omega), zt_o (by omega)], ut_e⟩ (fun w => by rw [zr_o (by omega)]) (ap_e hL.symm) (fun z w h1 h2 => by rw [show z = o + 1 by omega, zr_e])

theorem sg_98_2 (hs : S[o]? = some (0, 9)) (hL : S.length = o + 2) (hx : S[o + 1]? = some (3, 600)) (hg : T o 0 = o + 1 + 1) (hc : 10 ≤ cc) (hz : 656 ≤ zz) (kk : ∀ S' I' T', sgE S S' I I' T T' o 2 12 4 → (∀ w, I' o w = (up (up (up I o 1 0) o 2 (-1)) o 3 0) o w) → (oReader S' T' (o + 2) (o + 1) (o + 3)) → (SU I' (o + 3) ps0 [] 0) → WP xs 98 4 43 [vr o, vs 2] [] (S', I', T', cc - 1 - 9, zz - 11 - 645) Q) : WP xs 98 4 13 [vr o, vs 2] [] (S, I, T, cc, zz) Q := by
  refine w_aln l_98_13 rfl ?_
  refine w_ic l_98_14 (by decide) ?_
  refine w_pi l_98_15 hs ?_
  refine w_aln l_98_18 rfl ?_
  refine w_ic l_98_19 (by decide) ?_
  refine w_pi l_98_20 hs ?_
  refine w_aln l_98_23 rfl ?_
  refine w_ic l_98_24 (by decide) ?_
  refine w_pi l_98_25 hs ?_
  refine w_aln l_98_28 rfl ?_
  refine w_nw l_98_29 (by omega) (by omega) ?_
  rw [hL]
  refine w_dup l_98_32 rfl ?_
  refine w_aln l_98_33 rfl ?_
  refine w_gr (v := o + 1) l_98_34 (ap_l hs) (by rw [zt_o (by omega)]; exact hg) ?_
  refine q_cx [vr (o + 1)] [vr (o + 2), vr o] l_98_37 (by decide) rfl rfl (Nat.le_of_ble_eq_true rfl) (by rw [mx_30]; exact Nat.le_of_ble_eq_true rfl) (by rw [rk_30]; decide) (nc_30 (o := o + 2) (x := o + 1) (ap_e hL.symm) (by rw [List.length_append, hL]; rfl) (ap_l hx) (by omega) (by omega) (by omega)) (fun J U f p => ?_)
  refine w_pR l_98_40 (ap_l (ap_l hs)) (by decide) ?_
  refine kk _ _ _ ⟨((ex_rf _).ap _).ap _, by rw [List.length_append, List.length_append, hL]; simp only [List.length_cons, List.length_nil], fun z w h1 h2 => ⟨by rw [(f z w (by omega)).1, zr_o (by omega), up_no h2, up_no h2, up_no h2], by rw [ut_o (by omega), (f z w (by omega)).2, zt_o (by omega)]⟩, fun w h1 => by rw [ut_o (by omega), (f o w (by omega)).2, zt_o (by omega)], ut_e⟩ (fun w => by rw [(f o w (by omega)).1, zr_o (by omega)]) (oReader_ex p.1 (ex_rf _) (fun w => ut_o (by omega)) (fun j w h1 h2 => ut_o (by omega))) p.2.1

theorem sg_98_3 (hs : S[o]? = some (0, 9)) (hL : S.length = o + 12) (hc : 9 ≤ cc) (hz : 645 ≤ zz) (kk : ∀ S' I' T', sgE S S' I I' T T' o 12 21 5 → (∀ w, I' o w = I o w) → (oSetup S' T' (o + 12)) → (SU I' (o + 12) ps0 [] 0) → WP xs 98 4 54 [vr o, vs 2] [] (S', I', T', cc - 1 - 8, zz - 6 - 639) Q) : WP xs 98 4 43 [vr o, vs 2] [] (S, I, T, cc, zz) Q := by
  refine w_aln l_98_43 rfl ?_
  refine w_nw l_98_44 (by omega) (by omega) ?_
  rw [hL]
  refine w_dup l_98_47 rfl ?_
  refine q_cx [] [vr (o + 12), vr o] l_98_48 (by decide) rfl rfl (Nat.le_of_ble_eq_true rfl) (by rw [mx_65]; exact Nat.le_of_ble_eq_true rfl) (by rw [rk_65]; decide) (nc_65 (o := o + 12) (ap_e hL.symm) (by rw [List.length_append, hL]; rfl) (by omega) (by omega)) (fun J U f p => ?_)
  refine w_pR l_98_51 (ap_l (ap_l hs)) (by decide) ?_
  refine kk _ _ _ ⟨((ex_rf _).ap _).ap _, by rw [List.length_append, List.length_append, hL]; simp only [List.length_cons, List.length_nil], fun z w h1 h2 => ⟨by rw [(f z w (by omega)).1, zr_o (by omega)], by rw [ut_o (by omega), (f z w (by omega)).2, zt_o (by omega)]⟩, fun w h1 => by rw [ut_o (by omega), (f o w (by omega)).2, zt_o (by omega)], ut_e⟩ (fun w => by rw [(f o w (by omega)).1, zr_o (by omega)]) (oSetup_ex p.1 (ex_rf _) (fun j w h1 h2 => ut_o (by omega))) p.2.1

theorem sg_98_4 (hs : S[o]? = some (0, 9)) (hL : S.length = o + 21) (hc : 10 ≤ cc) (hz : 1091 ≤ zz) (kk : ∀ S' I' T', sgE S S' I I' T T' o 21 31 6 → (∀ w, I' o w = I o w) → (oHistory S' T' (o + 21)) → (∀ z w, o + 21 ≤ z → z < o + 31 → I' z w = 0) → WP xs 98 4 65 [vr o, vs 2] [] (S', I', T', cc - 1 - 9, zz - 11 - 1080) Q) : WP xs 98 4 54 [vr o, vs 2] [] (S, I, T, cc, zz) Q := by
  refine w_aln l_98_54 rfl ?_
  refine w_nw l_98_55 (by omega) (by omega) ?_
  rw [hL]
  refine w_dup l_98_58 rfl ?_
  refine q_cs [] [vr (o + 21), vr o] l_98_59 (by decide) rfl rfl (Nat.le_of_ble_eq_true rfl) (by rw [mx_0]; exact Nat.le_of_ble_eq_true rfl) (by rw [rk_0]; decide) (nc_0 (o := o + 21) (ap_e hL.symm) (by rw [List.length_append, hL]; rfl) (by omega) (by omega)) (fun J U f g z1 p => ?_)
  refine w_pR l_98_62 (ap_l (ap_l hs)) (by decide) ?_
  refine kk _ _ _ ⟨((ex_rf _).ap _).ap _, by rw [List.length_append, List.length_append, hL]; simp only [List.length_cons, List.length_nil], fun z w h1 h2 => ⟨by rw [(f z w (by omega)).1, zr_o (by omega)], by rw [ut_o (by omega), (f z w (by omega)).2, zt_o (by omega)]⟩, fun w h1 => by rw [ut_o (by omega), (f o w (by omega)).2, zt_o (by omega)], ut_e⟩ (fun w => by rw [(f o w (by omega)).1, zr_o (by omega)]) (oHistory_ex p (ex_rf _) (fun w => ut_o (by omega))) (fun z w h1 h2 => by
      by_cases h3 : z = o + 21
      · rw [h3, g, zr_e]
      · exact z1 z w (by omega) (by simp only [List.length_cons, List.length_nil]; omega))

theorem sg_98_5 (hs : S[o]? = some (0, 9)) (hL : S.length = o + 31) (hc : 1 ≤ cc) (hz : 8 ≤ zz) (kk : ∀ S' I' T', sgE S S' I I' T T' o 31 32 7 → (∀ w, I' o w = I o w) → (S'[o + 31]? = some (5, 8)) → (∀ z w, o + 31 ≤ z → z < o + 32 → I' z w = 0) → WP xs 98 4 74 [vr o, vs 2] [] (S', I', T', cc - 1, zz - 8) Q) : WP xs 98 4 65 [vr o, vs 2] [] (S, I, T, cc, zz) Q := by
  refine w_aln l_98_65 rfl ?_
  refine w_bp l_98_66 (by decide) ?_
  refine w_na (n := 8) l_98_68 (fun _ _ _ _ => rfl) (by omega) (by omega) (by decide) ?_
  rw [hL]
  refine w_pR l_98_71 (ap_l hs) (by decide) ?_
  refine kk _ _ _ ⟨(ex_rf _).ap _, by rw [List.length_append, hL]; rfl, fun z w h1 h2 => ⟨by rw [zr_o (by omega)], by rw [ut_o (by omega), zt_o (by omega)]⟩, fun w h1 => by rw [ut_o (by omega), zt_o (by omega)], ut_e⟩ (fun w => by rw [zr_o (by omega)]) (ap_e hL.symm) (fun z w h1 h2 => by rw [show z = o + 31 by omega, zr_e])

theorem sg_98_6 (hs : S[o]? = some (0, 9)) (hL : S.length = o + 32) (hh : oHistory S T (o + 21)) (hg : T o 6 = o + 21 + 1) (hc : 20 ≤ cc) (hz : 3558 ≤ zz) (kk : ∀ S' I' T', sgE S S' I I' T T' o 32 52 8 → (∀ w, I' o w = I o w) → (oRun S' T' (o + 32) (o + 21)) → (∀ z w, o + 32 ≤ z → z < o + 52 → I' z w = 0) → WP xs 98 4 89 [vr o, vs 2] [] (S', I', T', cc - 1 - 19, zz - 5 - 3553) Q) : WP xs 98 4 74 [vr o, vs 2] [] (S, I, T, cc, zz) Q := by
  refine w_aln l_98_74 rfl ?_
  refine w_nw l_98_75 (by omega) (by omega) ?_
  rw [hL]
  refine w_dup l_98_78 rfl ?_
  refine w_aln l_98_79 rfl ?_
  refine w_gr (v := o + 21) l_98_80 (ap_l hs) (by rw [zt_o (by omega)]; exact hg) ?_
  refine q_cs [vr (o + 21)] [vr (o + 32), vr o] l_98_83 (by decide) rfl rfl (Nat.le_of_ble_eq_true rfl) (by rw [mx_48]; exact Nat.le_of_ble_eq_true rfl) (by rw [rk_48]; decide) (nc_48 (o := o + 32) (x := o + 21) (ap_e hL.symm) (by rw [List.length_append, hL]; rfl) (oHistory_ex hh ((ex_rf _).ap _) (fun w => zt_o (by omega))) (by omega) (by omega) (by omega)) (fun J U f g z1 p => ?_)
  refine w_pR l_98_86 (ap_l (ap_l hs)) (by decide) ?_
  refine kk _ _ _ ⟨((ex_rf _).ap _).ap _, by rw [List.length_append, List.length_append, hL]; simp only [List.length_cons, List.length_nil], fun z w h1 h2 => ⟨by rw [(f z w (by omega)).1, zr_o (by omega)], by rw [ut_o (by omega), (f z w (by omega)).2, zt_o (by omega)]⟩, fun w h1 => by rw [ut_o (by omega), (f o w (by omega)).2, zt_o (by omega)], ut_e⟩ (fun w => by rw [(f o w (by omega)).1, zr_o (by omega)]) (oRun_ex p (ex_rf _) (fun j w h1 h2 => ut_o (by omega)) (fun w => ut_o (by omega))) (fun z w h1 h2 => by
      by_cases h3 : z = o + 32
      · rw [h3, g, zr_e]
      · exact z1 z w (by omega) (by simp only [List.length_cons, List.length_nil]; omega))

theorem sg_98_7 (hs : S[o]? = some (0, 9)) (hL : S.length = o + 52) (hh : oHistory S T (o + 21)) (hg : T o 6 = o + 21 + 1) (hc : 20 ≤ cc) (hz : 3558 ≤ zz) (kk : ∀ S' I' T', sgE S S' I I' T T' o 52 72 9 → (∀ w, I' o w = I o w) → (oRun S' T' (o + 52) (o + 21)) → (∀ z w, o + 52 ≤ z → z < o + 72 → I' z w = 0) → WP xs 98 4 104 [vr o, vs 2] [] (S', I', T', cc - 1 - 19, zz - 5 - 3553) Q) : WP xs 98 4 89 [vr o, vs 2] [] (S, I, T, cc, zz) Q := by
  refine w_aln l_98_89 rfl ?_
  refine w_nw l_98_90 (by omega) (by omega) ?_
  rw [hL]
  refine w_dup l_98_93 rfl ?_
  refine w_aln l_98_94 rfl ?_
  refine w_gr (v := o + 21) l_98_95 (ap_l hs) (by rw [zt_o (by omega)]; exact hg) ?_
  refine q_cs [vr (o + 21)] [vr (o + 52), vr o] l_98_98 (by decide) rfl rfl (Nat.le_of_ble_eq_true rfl) (by rw [mx_48]; exact Nat.le_of_ble_eq_true rfl) (by rw [rk_48]; decide) (nc_48 (o := o + 52) (x := o + 21) (ap_e hL.symm) (by rw [List.length_append, hL]; rfl) (oHistory_ex hh ((ex_rf _).ap _) (fun w => zt_o (by omega))) (by omega) (by omega) (by omega)) (fun J U f g z1 p => ?_)
  refine w_pR l_98_101 (ap_l (ap_l hs)) (by decide) ?_
  refine kk _ _ _ ⟨((ex_rf _).ap _).ap _, by rw [List.length_append, List.length_append, hL]; simp only [List.length_cons, List.length_nil], fun z w h1 h2 => ⟨by rw [(f z w (by omega)).1, zr_o (by omega)], by rw [ut_o (by omega), (f z w (by omega)).2, zt_o (by omega)]⟩, fun w h1 => by rw [ut_o (by omega), (f o w (by omega)).2, zt_o (by omega)], ut_e⟩ (fun w => by rw [(f o w (by omega)).1, zr_o (by omega)]) (oRun_ex p (ex_rf _) (fun j w h1 h2 => ut_o (by omega)) (fun w => ut_o (by omega))) (fun z w h1 h2 => by
      by_cases h3 : z = o + 52
      · rw [h3, g, zr_e]
      · exact z1 z w (by omega) (by simp only [List.length_cons, List.length_nil]; omega))

theorem sg_98_8 (hs : S[o]? = some (0, 9)) (hL : S.length = o + 72) (hc : 3 ≤ cc) (hz : 137 ≤ zz) (kk : ∀ S' I' T', sgE S S' I I' T T' o 72 75 10 → (∀ w, I' o w = I o w) → (oSuppositions S' T' (o + 72)) → (∀ z w, o + 72 ≤ z → z < o + 75 → I' z w = 0) → WP xs 98 4 115 [vr o, vs 2] [] (S', I', T', cc - 1 - 2, zz - 2 - 135) Q) : WP xs 98 4 104 [vr o, vs 2] [] (S, I, T, cc, zz) Q := by
  refine w_aln l_98_104 rfl ?_
  refine w_nw l_98_105 (by omega) (by omega) ?_
  rw [hL]
  refine w_dup l_98_108 rfl ?_
  refine q_cs [] [vr (o + 72), vr o] l_98_109 (by decide) rfl rfl (Nat.le_of_ble_eq_true rfl) (by rw [mx_91]; exact Nat.le_of_ble_eq_true rfl) (by rw [rk_91]; decide) (nc_91 (o := o + 72) (ap_e hL.symm) (by rw [List.length_append, hL]; rfl) (by omega) (by omega)) (fun J U f g z1 p => ?_)
  refine w_pR l_98_112 (ap_l (ap_l hs)) (by decide) ?_
  refine kk _ _ _ ⟨((ex_rf _).ap _).ap _, by rw [List.length_append, List.length_append, hL]; simp only [List.length_cons, List.length_nil], fun z w h1 h2 => ⟨by rw [(f z w (by omega)).1, zr_o (by omega)], by rw [ut_o (by omega), (f z w (by omega)).2, zt_o (by omega)]⟩, fun w h1 => by rw [ut_o (by omega), (f o w (by omega)).2, zt_o (by omega)], ut_e⟩ (fun w => by rw [(f o w (by omega)).1, zr_o (by omega)]) (oSuppositions_ex p (ex_rf _) (fun w => ut_o (by omega))) (fun z w h1 h2 => by
      by_cases h3 : z = o + 72
      · rw [h3, g, zr_e]
      · exact z1 z w (by omega) (by simp only [List.length_cons, List.length_nil]; omega))

theorem sg_98_9 (hs : S[o]? = some (0, 9)) (hL : S.length = o + 75) (hh : oHistory S T (o + 21)) (hg : T o 6 = o + 21 + 1) (hc : 20 ≤ cc) (hz : 3558 ≤ zz) (kk : ∀ S' I' T', sgE S S' I I' T T' o 75 95 11 → (∀ w, I' o w = I o w) → (oRun S' T' (o + 75) (o + 21)) → (∀ z w, o + 75 ≤ z → z < o + 95 → I' z w = 0) → WP xs 98 4 130 [vr o, vs 2] [] (S', I', T', cc - 1 - 19, zz - 5 - 3553) Q) : WP xs 98 4 115 [vr o, vs 2] [] (S, I, T, cc, zz) Q := by
  refine w_aln l_98_115 rfl ?_
  refine w_nw l_98_116 (by omega) (by omega) ?_
  rw [hL]
  refine w_dup l_98_119 rfl ?_
  refine w_aln l_98_120 rfl ?_
  refine w_gr (v := o + 21) l_98_121 (ap_l hs) (by rw [zt_o (by omega)]; exact hg) ?_
  refine q_cs [vr (o + 21)] [vr (o + 75), vr o] l_98_124 (by decide) rfl rfl (Nat.le_of_ble_eq_true rfl) (by rw [mx_48]; exact Nat.le_of_ble_eq_true rfl) (by rw [rk_48]; decide) (nc_48 (o := o + 75) (x := o + 21) (ap_e hL.symm) (by rw [List.length_append, hL]; rfl) (oHistory_ex hh ((ex_rf _).ap _) (fun w => zt_o (by omega))) (by omega) (by omega) (by omega)) (fun J U f g z1 p => ?_)
  refine w_pR l_98_127 (ap_l (ap_l hs)) (by decide) ?_
  refine kk _ _ _ ⟨((ex_rf _).ap _).ap _, by rw [List.length_append, List.length_append, hL]; simp only [List.length_cons, List.length_nil], fun z w h1 h2 => ⟨by rw [(f z w (by omega)).1, zr_o (by omega)], by rw [ut_o (by omega), (f z w (by omega)).2, zt_o (by omega)]⟩, fun w h1 => by rw [ut_o (by omega), (f o w (by omega)).2, zt_o (by omega)], ut_e⟩ (fun w => by rw [(f o w (by omega)).1, zr_o (by omega)]) (oRun_ex p (ex_rf _) (fun j w h1 h2 => ut_o (by omega)) (fun w => ut_o (by omega))) (fun z w h1 h2 => by
      by_cases h3 : z = o + 75
      · rw [h3, g, zr_e]
      · exact z1 z w (by omega) (by simp only [List.length_cons, List.length_nil]; omega))

theorem sg_98_10 (hs : S[o]? = some (0, 9)) (hL : S.length = o + 95) (hc : 1 ≤ cc) (hz : 120 ≤ zz) (kk : ∀ S' I' T', sgE S S' I I' T T' o 95 96 14 → (∀ w, I' o w = (up (up I o 12 1) o 13 0) o w) → (S'[o + 95]? = some (1, 120)) → (∀ z w, o + 95 ≤ z → z < o + 96 → I' z w = 0) → WP xs 98 4 148 [vr o, vs 2] [] (S', I', T', cc - 1, zz - 120) Q) : WP xs 98 4 130 [vr o, vs 2] [] (S, I, T, cc, zz) Q := by
  refine w_aln l_98_130 rfl ?_
  refine w_ic l_98_131 (by decide) ?_
  refine w_pi l_98_132 hs ?_
  refine w_aln l_98_135 rfl ?_
  refine w_ic l_98_136 (by decide) ?_
  refine w_pi l_98_137 hs ?_
  refine w_aln l_98_140 rfl ?_
  refine w_bp l_98_141 (by decide) ?_
  refine w_na (n := 120) l_98_143 (fun _ _ _ _ => rfl) (by omega) (by omega) (by decide) ?_
  rw [hL]
  refine w_pR l_98_145 (ap_l hs) (by decide) ?_
  refine kk _ _ _ ⟨(ex_rf _).ap _, by rw [List.length_append, hL]; rfl, fun z w h1 h2 => ⟨by rw [zr_o (by omega), up_no h2, up_no h2], by rw [ut_o (by omega), zt_o (by omega)]⟩, fun w h1 => by rw [ut_o (by omega), zt_o (by omega)], ut_e⟩ (fun w => by rw [zr_o (by omega)]) (ap_e hL.symm) (fun z w h1 h2 => by rw [show z = o + 95 by omega, zr_e])

theorem sg_98_11 (hs : S[o]? = some (0, 9)) (hL : S.length = o + 96) (hc : 1 ≤ cc) (hz : 720 ≤ zz) (kk : ∀ S' I' T', sgE S S' I I' T T' o 96 97 15 → (∀ w, I' o w = I o w) → (S'[o + 96]? = some (2, 720)) → (∀ z w, o + 96 ≤ z → z < o + 97 → I' z w = 0) → WP xs 98 4 157 [vr o, vs 2] [] (S', I', T', cc - 1, zz - 720) Q) : WP xs 98 4 148 [vr o, vs 2] [] (S, I, T, cc, zz) Q := by
  refine w_aln l_98_148 rfl ?_
  refine w_sp l_98_149 (by decide) ?_
  refine w_na (n := 720) l_98_152 (fun _ _ _ _ => rfl) (by omega) (by omega) (by decide) ?_
  rw [hL]
  refine w_pR l_98_154 (ap_l hs) (by decide) ?_
  refine kk _ _ _ ⟨(ex_rf _).ap _, by rw [List.length_append, hL]; rfl, fun z w h1 h2 => ⟨by rw [zr_o (by omega)], by rw [ut_o (by omega), zt_o (by omega)]⟩, fun w h1 => by rw [ut_o (by omega), zt_o (by omega)], ut_e⟩ (fun w => by rw [zr_o (by omega)]) (ap_e hL.symm) (fun z w h1 h2 => by rw [show z = o + 96 by omega, zr_e])

theorem sg_98_12 (hs : S[o]? = some (0, 9)) (hL : S.length = o + 97) (hc : 2 ≤ cc) (hz : 602 ≤ zz) (kk : ∀ S' I' T', sgE S S' I I' T T' o 97 99 16 → (∀ w, I' o w = I o w) → (oLine S' T' (o + 97)) → (∀ z w, o + 97 ≤ z → z < o + 99 → I' z w = 0) → WP xs 98 4 168 [vr o, vs 2] [] (S', I', T', cc - 1 - 1, zz - 2 - 600) Q) : WP xs 98 4 157 [vr o, vs 2] [] (S, I, T, cc, zz) Q := by
  refine w_aln l_98_157 rfl ?_
  refine w_nw l_98_158 (by omega) (by omega) ?_
  rw [hL]
  refine w_dup l_98_161 rfl ?_
  refine q_cs [] [vr (o + 97), vr o] l_98_162 (by decide) rfl rfl (Nat.le_of_ble_eq_true rfl) (by rw [mx_12]; exact Nat.le_of_ble_eq_true rfl) (by rw [rk_12]; decide) (nc_12 (o := o + 97) (ap_e hL.symm) (by rw [List.length_append, hL]; rfl) (by omega) (by omega)) (fun J U f g z1 p => ?_)
  refine w_pR l_98_165 (ap_l (ap_l hs)) (by decide) ?_
  refine kk _ _ _ ⟨((ex_rf _).ap _).ap _, by rw [List.length_append, List.length_append, hL]; simp only [List.length_cons, List.length_nil], fun z w h1 h2 => ⟨by rw [(f z w (by omega)).1, zr_o (by omega)], by rw [ut_o (by omega), (f z w (by omega)).2, zt_o (by omega)]⟩, fun w h1 => by rw [ut_o (by omega), (f o w (by omega)).2, zt_o (by omega)], ut_e⟩ (fun w => by rw [(f o w (by omega)).1, zr_o (by omega)]) (oLine_ex p (ex_rf _) (fun w => ut_o (by omega))) (fun z w h1 h2 => by
      by_cases h3 : z = o + 97
      · rw [h3, g, zr_e]
      · exact z1 z w (by omega) (by simp only [List.length_cons, List.length_nil]; omega))

set_option maxHeartbeats 4000000 in
theorem sh_98_1 (hs : S[o]? = some (0, 9)) (hL : S.length = o + 1) (hc : 30 ≤ cc) (hz : 2992 ≤ zz) (kk : ∀ S' I' T', (ex S S') → (S'.length = o + 31) → (∀ z w, z < o + 1 → z ≠ o → I' z w = I z w ∧ T' z w = T z w) → (∀ w, w ≠ 0 ∧ w ≠ 4 ∧ w ≠ 5 ∧ w ≠ 6 → T' o w = T o w) → (∀ w, I' o w = (up (up (up I o 1 0) o 2 (-1)) o 3 0) o w) → (T' o 0 = o + 1 + 1) → (S'[o + 1]? = some (3, 600)) → (T' o 4 = o + 2 + 1) → (oReader S' T' (o + 2) (o + 1) (o + 3)) → (SU I' (o + 3) ps0 [] 0) → (T' o 5 = o + 12 + 1) → (oSetup S' T' (o + 12)) → (SU I' (o + 12) ps0 [] 0) → (T' o 6 = o + 21 + 1) → (oHistory S' T' (o + 21)) → (∀ z w, o + 21 ≤ z → z < o + 31 → I' z w = 0) → WP xs 98 4 65 [vr o, vs 2] [] (S', I', T', cc - 30, zz - 2992) Q) : WP xs 98 4 0 [vr o, vs 2] [] (S, I, T, cc, zz) Q := by
  refine sg_98_1 hs hL (by omega) (by omega) (fun S1 I1 T1 G1 io1 p1 q1 => ?_)
  obtain ⟨y1, L1, f1, u1, v1⟩ := G1
  have x1 : ex S S1 := fun j w h => y1 j w (h)
  have a1 : S1[o + 1]? = some (3, 600) := p1
  have r1 : T1 o 0 = o + 1 + 1 := v1
  refine sg_98_2 (x1 _ _ hs) L1 a1 r1 (by omega) (by omega) (fun S2 I2 T2 G2 io2 p2 q2 => ?_)
  obtain ⟨y2, L2, f2, u2, v2⟩ := G2
  have x2 : ex S S2 := fun j w h => y2 j w (x1 j w h)
  refine sg_98_3 (x2 _ _ hs) L2 (by omega) (by omega) (fun S3 I3 T3 G3 io3 p3 q3 => ?_)
  obtain ⟨y3, L3, f3, u3, v3⟩ := G3
  have x3 : ex S S3 := fun j w h => y3 j w (x2 j w h)
  refine sg_98_4 (x3 _ _ hs) L3 (by omega) (by omega) (fun S4 I4 T4 G4 io4 p4 q4 => ?_)
  obtain ⟨y4, L4, f4, u4, v4⟩ := G4
  have x4 : ex S S4 := fun j w h => y4 j w (x3 j w h)
  have Y4 : ex S4 S4 := ex_rf _
  have F4 : ∀ z w, z < o + 31 → z ≠ o → I4 z w = I4 z w ∧ T4 z w = T4 z w := fun _ _ _ _ => ⟨rfl, rfl⟩
  have Y3 : ex S3 S4 := fun j w h => Y4 j w (y4 j w h)
  have F3 : ∀ z w, z < o + 21 → z ≠ o → I4 z w = I3 z w ∧ T4 z w = T3 z w := F_up F4 f4 (by decide)
  have Y2 : ex S2 S4 := fun j w h => Y3 j w (y3 j w h)
  have F2 : ∀ z w, z < o + 12 → z ≠ o → I4 z w = I2 z w ∧ T4 z w = T2 z w := F_up F3 f3 (by decide)
  have Y1 : ex S1 S4 := fun j w h => Y2 j w (y2 j w h)
  have F1 : ∀ z w, z < o + 2 → z ≠ o → I4 z w = I1 z w ∧ T4 z w = T1 z w := F_up F2 f2 (by decide)
  have ZR : ∀ z w, o + 21 ≤ z → z < o + 31 → I4 z w = 0 := q4
  rw [show cc - 1 - 1 - 9 - 1 - 8 - 1 - 9 = cc - 30 by omega, show zz - 600 - 11 - 645 - 6 - 639 - 11 - 1080 = zz - 2992 by omega]
  exact kk _ _ _ x4 L4 (F_up F1 f1 (by decide)) (fun w h => (u4 w h.2.2.2).trans ((u3 w h.2.2.1).trans ((u2 w h.2.1).trans ((u1 w h.1))))) (fun w => ((io4 w).trans ((io3 w).trans ((io2 w)))).trans (up_c3 ((io1 w)))) ((u4 0 (by decide)).trans ((u3 0 (by decide)).trans ((u2 0 (by decide)).trans (v1)))) (Y1 _ _ p1) ((u4 4 (by decide)).trans ((u3 4 (by decide)).trans (v2))) (oReader_ex p2 Y2 (F_w F2 (by decide)) (F_j (x := 3) (d := 1) F2 (by decide))) (q2.eq (F_s F2 (by decide))) ((u4 5 (by decide)).trans (v3)) (oSetup_ex p3 Y3 (F_j (d := 1) F3 (by decide))) (q3.eq (F_s F3 (by decide))) (v4) (oHistory_ex p4 Y4 (F_w F4 (by decide))) ZR

set_option maxHeartbeats 4000000 in
theorem sh_98_2 (hs : S[o]? = some (0, 9)) (hL : S.length = o + 31) (h0 : oHistory S T (o + 21)) (g0 : T o 6 = o + 21 + 1) (hc : 44 ≤ cc) (hz : 7261 ≤ zz) (kk : ∀ S' I' T', (ex S S') → (S'.length = o + 75) → (∀ z w, z < o + 31 → z ≠ o → I' z w = I z w ∧ T' z w = T z w) → (∀ w, w ≠ 7 ∧ w ≠ 8 ∧ w ≠ 9 ∧ w ≠ 10 → T' o w = T o w) → (∀ w, I' o w = I o w) → (T' o 7 = o + 31 + 1) → (S'[o + 31]? = some (5, 8)) → (T' o 8 = o + 32 + 1) → (oRun S' T' (o + 32) (o + 21)) → (T' o 9 = o + 52 + 1) → (oRun S' T' (o + 52) (o + 21)) → (T' o 10 = o + 72 + 1) → (oSuppositions S' T' (o + 72)) → (∀ z w, o + 31 ≤ z → z < o + 75 → I' z w = 0) → WP xs 98 4 115 [vr o, vs 2] [] (S', I', T', cc - 44, zz - 7261) Q) : WP xs 98 4 65 [vr o, vs 2] [] (S, I, T, cc, zz) Q := by
  refine sg_98_5 hs hL (by omega) (by omega) (fun S5 I5 T5 G5 io5 p5 q5 => ?_)
  obtain ⟨y5, L5, f5, u5, v5⟩ := G5
  have x5 : ex S S5 := fun j w h => y5 j w (h)
  have h5 : oHistory S5 T5 (o + 21) := oHistory_ex h0 y5 (fun w => (f5 _ _ (by omega) (by omega)).2)
  have g5 : T5 o 6 = o + 21 + 1 := (u5 6 (by decide)).trans g0
  refine sg_98_6 (x5 _ _ hs) L5 h5 g5 (by omega) (by omega) (fun S6 I6 T6 G6 io6 p6 q6 => ?_)
  obtain ⟨y6, L6, f6, u6, v6⟩ := G6
  have x6 : ex S S6 := fun j w h => y6 j w (x5 j w h)
  have h6 : oHistory S6 T6 (o + 21) := oHistory_ex h5 y6 (fun w => (f6 _ _ (by omega) (by omega)).2)
  have g6 : T6 o 6 = o + 21 + 1 := (u6 6 (by decide)).trans g5
  refine sg_98_7 (x6 _ _ hs) L6 h6 g6 (by omega) (by omega) (fun S7 I7 T7 G7 io7 p7 q7 => ?_)
  obtain ⟨y7, L7, f7, u7, v7⟩ := G7
  have x7 : ex S S7 := fun j w h => y7 j w (x6 j w h)
  have h7 : oHistory S7 T7 (o + 21) := oHistory_ex h6 y7 (fun w => (f7 _ _ (by omega) (by omega)).2)
  have g7 : T7 o 6 = o + 21 + 1 := (u7 6 (by decide)).trans g6
  refine sg_98_8 (x7 _ _ hs) L7 (by omega) (by omega) (fun S8 I8 T8 G8 io8 p8 q8 => ?_)
  obtain ⟨y8, L8, f8, u8, v8⟩ := G8
  have x8 : ex S S8 := fun j w h => y8 j w (x7 j w h)
  have h8 : oHistory S8 T8 (o + 21) := oHistory_ex h7 y8 (fun w => (f8 _ _ (by omega) (by omega)).2)
  have g8 : T8 o 6 = o + 21 + 1 := (u8 6 (by decide)).trans g7
  have Y8 : ex S8 S8 := ex_rf _
  have F8 : ∀ z w, z < o + 75 → z ≠ o → I8 z w = I8 z w ∧ T8 z w = T8 z w := fun _ _ _ _ => ⟨rfl, rfl⟩
  have Y7 : ex S7 S8 := fun j w h => Y8 j w (y8 j w h)
  have F7 : ∀ z w, z < o + 72 → z ≠ o → I8 z w = I7 z w ∧ T8 z w = T7 z w := F_up F8 f8 (by decide)
  have Y6 : ex S6 S8 := fun j w h => Y7 j w (y7 j w h)
  have F6 : ∀ z w, z < o + 52 → z ≠ o → I8 z w = I6 z w ∧ T8 z w = T6 z w := F_up F7 f7 (by decide)
  have Y5 : ex S5 S8 := fun j w h => Y6 j w (y6 j w h)
  have F5 : ∀ z w, z < o + 32 → z ≠ o → I8 z w = I5 z w ∧ T8 z w = T5 z w := F_up F6 f6 (by decide)
  have ZR : ∀ z w, o + 31 ≤ z → z < o + 75 → I8 z w = 0 := (F_z F5 q5 (F_z F6 q6 (F_z F7 q7 q8 (by decide)) (by decide)) (by decide))
  rw [show cc - 1 - 1 - 19 - 1 - 19 - 1 - 2 = cc - 44 by omega, show zz - 8 - 5 - 3553 - 5 - 3553 - 2 - 135 = zz - 7261 by omega]
  exact kk _ _ _ x8 L8 (F_up F5 f5 (by decide)) (fun w h => (u8 w h.2.2.2).trans ((u7 w h.2.2.1).trans ((u6 w h.2.1).trans ((u5 w h.1))))) (fun w => (io8 w).trans ((io7 w).trans ((io6 w).trans ((io5 w))))) ((u8 7 (by decide)).trans ((u7 7 (by decide)).trans ((u6 7 (by decide)).trans (v5)))) (Y5 _ _ p5) ((u8 8 (by decide)).trans ((u7 8 (by decide)).trans (v6))) (oRun_ex p6 Y6 (F_j (d := 14) F6 (by decide)) (F_w F6 (by decide))) ((u8 9 (by decide)).trans (v7)) (oRun_ex p7 Y7 (F_j (d := 14) F7 (by decide)) (F_w F7 (by decide))) (v8) (oSuppositions_ex p8 Y8 (F_w F8 (by decide))) ZR

set_option maxHeartbeats 4000000 in
theorem sh_98_3 (hs : S[o]? = some (0, 9)) (hL : S.length = o + 75) (h0 : oHistory S T (o + 21)) (g0 : T o 6 = o + 21 + 1) (hc : 24 ≤ cc) (hz : 5000 ≤ zz) (kk : ∀ S' I' T', (ex S S') → (S'.length = o + 99) → (∀ z w, z < o + 75 → z ≠ o → I' z w = I z w ∧ T' z w = T z w) → (∀ w, w ≠ 11 ∧ w ≠ 14 ∧ w ≠ 15 ∧ w ≠ 16 → T' o w = T o w) → (∀ w, I' o w = (up (up I o 12 1) o 13 0) o w) → (T' o 11 = o + 75 + 1) → (oRun S' T' (o + 75) (o + 21)) → (T' o 14 = o + 95 + 1) → (S'[o + 95]? = some (1, 120)) → (T' o 15 = o + 96 + 1) → (S'[o + 96]? = some (2, 720)) → (T' o 16 = o + 97 + 1) → (oLine S' T' (o + 97)) → (∀ z w, o + 75 ≤ z → z < o + 99 → I' z w = 0) → WP xs 98 4 168 [vr o, vs 2] [] (S', I', T', cc - 24, zz - 5000) Q) : WP xs 98 4 115 [vr o, vs 2] [] (S, I, T, cc, zz) Q := by
  refine sg_98_9 hs hL h0 g0 (by omega) (by omega) (fun S9 I9 T9 G9 io9 p9 q9 => ?_)
  obtain ⟨y9, L9, f9, u9, v9⟩ := G9
  have x9 : ex S S9 := fun j w h => y9 j w (h)
  have h9 : oHistory S9 T9 (o + 21) := oHistory_ex h0 y9 (fun w => (f9 _ _ (by omega) (by omega)).2)
  have g9 : T9 o 6 = o + 21 + 1 := (u9 6 (by decide)).trans g0
  refine sg_98_10 (x9 _ _ hs) L9 (by omega) (by omega) (fun S10 I10 T10 G10 io10 p10 q10 => ?_)
  obtain ⟨y10, L10, f10, u10, v10⟩ := G10
  have x10 : ex S S10 := fun j w h => y10 j w (x9 j w h)
  have h10 : oHistory S10 T10 (o + 21) := oHistory_ex h9 y10 (fun w => (f10 _ _ (by omega) (by omega)).2)
  have g10 : T10 o 6 = o + 21 + 1 := (u10 6 (by decide)).trans g9
  refine sg_98_11 (x10 _ _ hs) L10 (by omega) (by omega) (fun S11 I11 T11 G11 io11 p11 q11 => ?_)
  obtain ⟨y11, L11, f11, u11, v11⟩ := G11
  have x11 : ex S S11 := fun j w h => y11 j w (x10 j w h)
  have h11 : oHistory S11 T11 (o + 21) := oHistory_ex h10 y11 (fun w => (f11 _ _ (by omega) (by omega)).2)
  have g11 : T11 o 6 = o + 21 + 1 := (u11 6 (by decide)).trans g10
  refine sg_98_12 (x11 _ _ hs) L11 (by omega) (by omega) (fun S12 I12 T12 G12 io12 p12 q12 => ?_)
  obtain ⟨y12, L12, f12, u12, v12⟩ := G12
  have x12 : ex S S12 := fun j w h => y12 j w (x11 j w h)
  have h12 : oHistory S12 T12 (o + 21) := oHistory_ex h11 y12 (fun w => (f12 _ _ (by omega) (by omega)).2)
  have g12 : T12 o 6 = o + 21 + 1 := (u12 6 (by decide)).trans g11
  have Y12 : ex S12 S12 := ex_rf _
  have F12 : ∀ z w, z < o + 99 → z ≠ o → I12 z w = I12 z w ∧ T12 z w = T12 z w := fun _ _ _ _ => ⟨rfl, rfl⟩
  have Y11 : ex S11 S12 := fun j w h => Y12 j w (y12 j w h)
  have F11 : ∀ z w, z < o + 97 → z ≠ o → I12 z w = I11 z w ∧ T12 z w = T11 z w := F_up F12 f12 (by decide)
  have Y10 : ex S10 S12 := fun j w h => Y11 j w (y11 j w h)
  have F10 : ∀ z w, z < o + 96 → z ≠ o → I12 z w = I10 z w ∧ T12 z w = T10 z w := F_up F11 f11 (by decide)
  have Y9 : ex S9 S12 := fun j w h => Y10 j w (y10 j w h)
  have F9 : ∀ z w, z < o + 95 → z ≠ o → I12 z w = I9 z w ∧ T12 z w = T9 z w := F_up F10 f10 (by decide)
  have ZR : ∀ z w, o + 75 ≤ z → z < o + 99 → I12 z w = 0 := (F_z F9 q9 (F_z F10 q10 (F_z F11 q11 q12 (by decide)) (by decide)) (by decide))
  rw [show cc - 1 - 19 - 1 - 1 - 1 - 1 = cc - 24 by omega, show zz - 5 - 3553 - 120 - 720 - 2 - 600 = zz - 5000 by omega]
  exact kk _ _ _ x12 L12 (F_up F9 f9 (by decide)) (fun w h => (u12 w h.2.2.2).trans ((u11 w h.2.2.1).trans ((u10 w h.2.1).trans ((u9 w h.1))))) (fun w => ((io12 w).trans ((io11 w).trans ((io10 w)))).trans (up_c2 ((io9 w)))) ((u12 11 (by decide)).trans ((u11 11 (by decide)).trans ((u10 11 (by decide)).trans (v9)))) (oRun_ex p9 Y9 (F_j (d := 14) F9 (by decide)) (F_w F9 (by decide))) ((u12 14 (by decide)).trans ((u11 14 (by decide)).trans (v10))) (Y10 _ _ p10) ((u12 15 (by decide)).trans (v11)) (Y11 _ _ p11) (v12) (oLine_ex p12 Y12 (F_w F12 (by decide))) ZR

theorem st_98 (hs : S[o]? = some (0, 9)) (hL : S.length = o + 1) (hc : 98 ≤ cc) (hz : 15253 ≤ zz) (kk : ∀ S' I' T', S'.length = o + 99 → ex S S' → oDropSwitch S' T' o (o + 12) (o + 3) → SU I' (o + 3) ps0 [] 0 → SU I' (o + 12) ps0 [] 0 → (∀ z w, o + 21 ≤ z → z ≤ o + 98 → I' z w = 0) → I' o 1 = 0 → I' o 2 = -1 → I' o 3 = 0 → I' o 12 = 1 → I' o 13 = 0 → WP xs 98 4 168 [vr o, vs 2] [] (S', I', T', cc - 98, zz - 15253) Q) : WP xs 98 4 0 [vr o, vs 2] [] (S, I, T, cc, zz) Q := by
  refine sh_98_1 hs hL (by omega) (by omega) (fun S1 I1 T1 x1 L1 f1 u1 i1 t0 s0 t4 r4 su4 t5 r5 su5 t6 r6 Z1 => ?_)
  refine sh_98_2 (x1 _ _ hs) L1 r6 t6 (by omega) (by omega) (fun S2 I2 T2 x2 L2 f2 u2 i2 t7 s7 t8 r8 t9 r9 t10 r10 Z2 => ?_)
  have r6b : oHistory S2 T2 (o + 21) := oHistory_ex r6 x2 (F_w f2 (by decide))
  refine sh_98_3 (x2 _ _ (x1 _ _ hs)) L2 r6b ((u2 6 (by decide)).trans t6) (by omega) (by omega) (fun S3 I3 T3 x3 L3 f3 u3 i3 t11 r11 t14 s14 t15 s15 t16 r16 Z3 => ?_)
  have Y1 : ex S1 S3 := fun j w h => x3 j w (x2 j w h)
  have F1 : ∀ z w, z < o + 31 → z ≠ o → I3 z w = I1 z w ∧ T3 z w = T1 z w := F_up f3 f2 (by decide)
  have F2 : ∀ z w, z < o + 75 → z ≠ o → I3 z w = I2 z w ∧ T3 z w = T2 z w := f3
  have V1 : ∀ w, (w ≠ 11 ∧ w ≠ 14 ∧ w ≠ 15 ∧ w ≠ 16) → (w ≠ 7 ∧ w ≠ 8 ∧ w ≠ 9 ∧ w ≠ 10) → T3 o w = T1 o w := fun w h1 h2 => (u3 w h1).trans (u2 w h2)
  have H1 : oDropSwitch S3 T3 o (o + 12) (o + 3) := by
    refine ⟨x3 _ _ (x2 _ _ (x1 _ _ hs)), Y1 _ _ s0, (V1 0 (by decide) (by decide)).trans t0, oReader_ex r4 Y1 (F_w F1 (by decide)) (F_j (x := 3) (d := 1) F1 (by decide)), (V1 4 (by decide) (by decide)).trans t4, oSetup_ex r5 Y1 (F_j (d := 1) F1 (by decide)), (V1 5 (by decide) (by decide)).trans t5, oHistory_ex r6 Y1 (F_w F1 (by decide)), (V1 6 (by decide) (by decide)).trans t6, x3 _ _ s7, (u3 7 (by decide)).trans t7, oRun_ex r8 x3 (F_j (d := 14) F2 (by decide)) (F_w F2 (by decide)), (u3 8 (by decide)).trans t8, oRun_ex r9 x3 (F_j (d := 14) F2 (by decide)) (F_w F2 (by decide)), (u3 9 (by decide)).trans t9, oSuppositions_ex r10 x3 (F_w F2 (by decide)), (u3 10 (by decide)).trans t10, r11, t11, s14, t14, s15, t15, r16, t16⟩
  have H2 : SU I3 (o + 3) ps0 [] 0 := su4.eq (F_s F1 (by decide))
  have H3 : SU I3 (o + 12) ps0 [] 0 := su5.eq (F_s F1 (by decide))
  have H4 : ∀ z w, o + 21 ≤ z → z ≤ o + 98 → I3 z w = 0 := fun z w h1 h2 => F_z F1 Z1 (F_z F2 Z2 Z3 (by decide)) (by decide) z w h1 (by omega)
  have N0 : ∀ w, I3 o w = (up (up I2 o 12 1) o 13 0) o w := i3
  have N1 : ∀ w, I2 o w = (up (up (up I o 1 0) o 2 (-1)) o 3 0) o w := fun w => (i2 w).trans (i1 w)
  rw [show cc - 30 - 44 - 24 = cc - 98 by omega, show zz - 2992 - 7261 - 5000 = zz - 15253 by omega]
  exact kk _ _ _ L3 (fun j w h => Y1 j w (x1 j w h)) H1 H2 H3 H4 (by rw [N0, up_nj (by decide), up_nj (by decide), N1, up_nj (by decide), up_nj (by decide), up_eq]) (by rw [N0, up_nj (by decide), up_nj (by decide), N1, up_nj (by decide), up_eq]) (by rw [N0, up_nj (by decide), up_nj (by decide), N1, up_eq]) (by rw [N0, up_nj (by decide), up_eq]) (by rw [N0, up_eq])
end DSC
