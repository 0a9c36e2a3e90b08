/-! the law's covers of the class's calls -/
theorem WX_h {xs : List Int} {M r pc x h' k : Nat} {ls : List AV} {m : Mem} {Q : Res → Mem → Prop} {h : Nat × Nat × Nat × Nat} (e1 : hfind M pc x = some h) (e2 : hst M h.2.2.1 = some (k, h')) (hk : k < ls.length ∧ prevOk ls k = true) (kk : WP xs M r h' (ls.set k (vs 2)) [] m Q) : WX xs M r pc ls x m Q := by
  unfold WX
  rw [e1]
  simp only [e2]
  exact ⟨hk, kk⟩
section COV
variable {xs : List Int} {S : List (Nat × Nat)} {T : Nat → Nat → Nat} {I : Ix} {cc zz s q y w : Nat}

theorem mx_307 : mxl 307 = 3 := by decide +kernel
theorem mt_307 : mtc 307 = 99 := by decide +kernel
theorem rk_307 (as : List AV) : rkA 307 as = 34 := rfl
theorem l_307_0 : look 307 0 = some (.aload_n 1, 1, 0, 0, 0, 0) := by decide +kernel
theorem l_307_1 : look 307 1 = some (.iconst 0, 1, 0, 0, 0, 0) := by decide +kernel
theorem l_307_2 : look 307 2 = some (.aload_n 0, 1, 0, 0, 0, 0) := by decide +kernel
theorem l_307_3 : look 307 3 = some (.invokevirtual 7, 3, 101, 1, 0, 815) := by decide +kernel
theorem l_307_6 : look 307 6 = some (.i2l, 1, 0, 0, 0, 0) := by decide +kernel
theorem l_307_7 : look 307 7 = some (.lastore, 1, 0, 0, 0, 0) := by decide +kernel
theorem l_307_8 : look 307 8 = some (.goto 6, 3, 0, 0, 0, 0) := by decide +kernel
theorem l_307_11 : look 307 11 = some (.astore_n 2, 1, 0, 0, 0, 0) := by decide +kernel
theorem l_307_12 : look 307 12 = some (.iconst 1, 1, 0, 0, 0, 0) := by decide +kernel
theorem l_307_13 : look 307 13 = some (.ireturn, 1, 0, 0, 0, 0) := by decide +kernel
theorem l_307_14 : look 307 14 = some (.iconst 0, 1, 0, 0, 0, 0) := by decide +kernel
theorem l_307_15 : look 307 15 = some (.ireturn, 1, 0, 0, 0, 0) := by decide +kernel

theorem wk_307 (o : oDropSwitch S T s q y) (ho : S[w]? = some (2, 1)) {P : Int → Ix → (Nat → Nat → Nat) → Prop} (sp : CL xs 101 [vr s] (S, I, T, cc, zz) (VP S cc zz P)) : CL xs 307 [vr s, vr w] (S, I, T, cc, zz) (WV S w cc zz P) := by
  refine CL_start (r := 34) (ls := [vr s, vr w, vs 2]) (rk_307 _) rfl ?_
  refine w_aln l_307_0 rfl ?_
  refine w_ic l_307_1 (by decide) ?_
  refine w_aln l_307_2 rfl ?_
  refine w_iv [] [vi 0, vr w] l_307_3 rfl rfl rfl (Nat.le_of_ble_eq_true rfl) (by rw [mx_101]; exact Nat.le_of_ble_eq_true rfl) (by rw [mt_101]; exact oDropSwitch_sh o) (by rw [mt_101]; decide) (by rw [rk_101]; decide) (CL_mono sp fun r m1 hr => ?_)
  obtain ⟨V, I1, T1, rfl, rfl, hP⟩ := hr
  show WP xs 307 34 (3 + 3) [vr s, vr w, vs 2] [vi V, vi 0, vr w] (S, I1, T1, cc, zz) _
  refine w_i2l l_307_6 ?_
  refine w_lS 0 l_307_7 ho rfl (by decide) ?_
  refine w_go 14 l_307_8 (by decide) ?_
  refine w_ic l_307_14 (by decide) ?_
  refine w_ir l_307_15 (Or.inl rfl) ?_
  exact ⟨V, I1, T1, rfl, rfl, hP⟩

theorem wx_307_1 (o : oDropSwitch S T s q y) {P : Ix → Prop} (sp : CL xs 101 [vr s] (S, I, T, cc, zz) (XP S T cc zz 1 P)) : CL xs 307 [vr s, vr w] (S, I, T, cc, zz) (WXP S T cc zz 1 P) := by
  refine CL_start (r := 34) (ls := [vr s, vr w, vs 2]) (rk_307 _) rfl ?_
  refine w_aln l_307_0 rfl ?_
  refine w_ic l_307_1 (by decide) ?_
  refine w_aln l_307_2 rfl ?_
  refine w_iv [] [vi 0, vr w] l_307_3 rfl rfl rfl (Nat.le_of_ble_eq_true rfl) (by rw [mx_101]; exact Nat.le_of_ble_eq_true rfl) (by rw [mt_101]; exact oDropSwitch_sh o) (by rw [mt_101]; decide) (by rw [rk_101]; decide) (CL_mono sp fun r m1 hr => ?_)
  obtain ⟨I1, rfl, rfl, hP⟩ := hr
  show WX xs 307 34 3 [vr s, vr w, vs 2] 1 (S, I1, T, cc - 1, zz - 6) _
  refine WX_h (h := (0, 8, 11, 13)) (k := 2) (h' := 12) (by decide +kernel) (by decide +kernel) ⟨Nat.le_of_ble_eq_true rfl, rfl⟩ ?_
  refine w_ic l_307_12 (by decide) ?_
  refine w_ir l_307_13 (Or.inl rfl) ?_
  exact ⟨I1, rfl, rfl, hP⟩

theorem mx_308 : mxl 308 = 4 := by decide +kernel
theorem mt_308 : mtc 308 = 99 := by decide +kernel
theorem rk_308 (as : List AV) : rkA 308 as = 1 := rfl
theorem l_308_0 : look 308 0 = some (.aload_n 2, 1, 0, 0, 0, 0) := by decide +kernel
theorem l_308_1 : look 308 1 = some (.iconst 0, 1, 0, 0, 0, 0) := by decide +kernel
theorem l_308_2 : look 308 2 = some (.aload_n 0, 1, 0, 0, 0, 0) := by decide +kernel
theorem l_308_3 : look 308 3 = some (.iload_n 1, 1, 0, 0, 0, 0) := by decide +kernel
theorem l_308_4 : look 308 4 = some (.invokevirtual 15, 3, 104, 2, 0, 1041) := by decide +kernel
theorem l_308_7 : look 308 7 = some (.i2l, 1, 0, 0, 0, 0) := by decide +kernel
theorem l_308_8 : look 308 8 = some (.lastore, 1, 0, 0, 0, 0) := by decide +kernel
theorem l_308_9 : look 308 9 = some (.goto 6, 3, 0, 0, 0, 0) := by decide +kernel
theorem l_308_12 : look 308 12 = some (.astore_n 3, 1, 0, 0, 0, 0) := by decide +kernel
theorem l_308_13 : look 308 13 = some (.iconst 1, 1, 0, 0, 0, 0) := by decide +kernel
theorem l_308_14 : look 308 14 = some (.ireturn, 1, 0, 0, 0, 0) := by decide +kernel
theorem l_308_15 : look 308 15 = some (.iconst 0, 1, 0, 0, 0, 0) := by decide +kernel
theorem l_308_16 : look 308 16 = some (.ireturn, 1, 0, 0, 0, 0) := by decide +kernel

theorem wk_308 (o : oDropSwitch S T s q y) (ho : S[w]? = some (2, 1)) {p0 : Int} {P : Int → Ix → (Nat → Nat → Nat) → Prop} (sp : CL xs 104 [vr s, vi p0] (S, I, T, cc, zz) (VP S cc zz P)) : CL xs 308 [vr s, vi p0, vr w] (S, I, T, cc, zz) (WV S w cc zz P) := by
  refine CL_start (r := 1) (ls := [vr s, vi p0, vr w, vs 2]) (rk_308 _) rfl ?_
  refine w_aln l_308_0 rfl ?_
  refine w_ic l_308_1 (by decide) ?_
  refine w_aln l_308_2 rfl ?_
  refine w_iln l_308_3 rfl ?_
  refine w_iv [vi p0] [vi 0, vr w] l_308_4 rfl rfl rfl (Nat.le_of_ble_eq_true rfl) (by rw [mx_104]; exact Nat.le_of_ble_eq_true rfl) (by rw [mt_104]; exact oDropSwitch_sh o) (by rw [mt_104]; decide) (by rw [rk_104]; decide) (CL_mono sp fun r m1 hr => ?_)
  obtain ⟨V, I1, T1, rfl, rfl, hP⟩ := hr
  show WP xs 308 1 (4 + 3) [vr s, vi p0, vr w, vs 2] [vi V, vi 0, vr w] (S, I1, T1, cc, zz) _
  refine w_i2l l_308_7 ?_
  refine w_lS 0 l_308_8 ho rfl (by decide) ?_
  refine w_go 15 l_308_9 (by decide) ?_
  refine w_ic l_308_15 (by decide) ?_
  refine w_ir l_308_16 (Or.inl rfl) ?_
  exact ⟨V, I1, T1, rfl, rfl, hP⟩

theorem wx_308_3 (o : oDropSwitch S T s q y) {p0 : Int} {P : Ix → Prop} (sp : CL xs 104 [vr s, vi p0] (S, I, T, cc, zz) (XP S T cc zz 3 P)) : CL xs 308 [vr s, vi p0, vr w] (S, I, T, cc, zz) (WXP S T cc zz 1 P) := by
  refine CL_start (r := 1) (ls := [vr s, vi p0, vr w, vs 2]) (rk_308 _) rfl ?_
  refine w_aln l_308_0 rfl ?_
  refine w_ic l_308_1 (by decide) ?_
  refine w_aln l_308_2 rfl ?_
  refine w_iln l_308_3 rfl ?_
  refine w_iv [vi p0] [vi 0, vr w] l_308_4 rfl rfl rfl (Nat.le_of_ble_eq_true rfl) (by rw [mx_104]; exact Nat.le_of_ble_eq_true rfl) (by rw [mt_104]; exact oDropSwitch_sh o) (by rw [mt_104]; decide) (by rw [rk_104]; decide) (CL_mono sp fun r m1 hr => ?_)
  obtain ⟨I1, rfl, rfl, hP⟩ := hr
  show WX xs 308 1 4 [vr s, vi p0, vr w, vs 2] 3 (S, I1, T, cc - 1, zz - 6) _
  refine WX_h (h := (0, 9, 12, 19)) (k := 3) (h' := 13) (by decide +kernel) (by decide +kernel) ⟨Nat.le_of_ble_eq_true rfl, rfl⟩ ?_
  refine w_ic l_308_13 (by decide) ?_
  refine w_ir l_308_14 (Or.inl rfl) ?_
  exact ⟨I1, rfl, rfl, hP⟩

theorem mx_309 : mxl 309 = 8 := by decide +kernel
theorem mt_309 : mtc 309 = 99 := by decide +kernel
theorem rk_309 (as : List AV) : rkA 309 as = 7 := rfl
theorem l_309_0 : look 309 0 = some (.aload 6, 2, 0, 0, 0, 0) := by decide +kernel
theorem l_309_2 : look 309 2 = some (.iconst 0, 1, 0, 0, 0, 0) := by decide +kernel
theorem l_309_3 : look 309 3 = some (.aload_n 0, 1, 0, 0, 0, 0) := by decide +kernel
theorem l_309_4 : look 309 4 = some (.iload_n 1, 1, 0, 0, 0, 0) := by decide +kernel
theorem l_309_5 : look 309 5 = some (.iload_n 2, 1, 0, 0, 0, 0) := by decide +kernel
theorem l_309_6 : look 309 6 = some (.iload_n 3, 1, 0, 0, 0, 0) := by decide +kernel
theorem l_309_7 : look 309 7 = some (.iload 4, 2, 0, 0, 0, 0) := by decide +kernel
theorem l_309_9 : look 309 9 = some (.iload 5, 2, 0, 0, 0, 0) := by decide +kernel
theorem l_309_11 : look 309 11 = some (.invokevirtual 21, 3, 105, 6, 0, 1065) := by decide +kernel
theorem l_309_14 : look 309 14 = some (.i2l, 1, 0, 0, 0, 0) := by decide +kernel
theorem l_309_15 : look 309 15 = some (.lastore, 1, 0, 0, 0, 0) := by decide +kernel
theorem l_309_16 : look 309 16 = some (.goto 15, 3, 0, 0, 0, 0) := by decide +kernel
theorem l_309_19 : look 309 19 = some (.astore 7, 2, 0, 0, 0, 0) := by decide +kernel
theorem l_309_21 : look 309 21 = some (.iconst 1, 1, 0, 0, 0, 0) := by decide +kernel
theorem l_309_22 : look 309 22 = some (.ireturn, 1, 0, 0, 0, 0) := by decide +kernel
theorem l_309_23 : look 309 23 = some (.astore 7, 2, 0, 0, 0, 0) := by decide +kernel
theorem l_309_25 : look 309 25 = some (.iconst 2, 1, 0, 0, 0, 0) := by decide +kernel
theorem l_309_26 : look 309 26 = some (.ireturn, 1, 0, 0, 0, 0) := by decide +kernel
theorem l_309_27 : look 309 27 = some (.astore 7, 2, 0, 0, 0, 0) := by decide +kernel
theorem l_309_29 : look 309 29 = some (.iconst 3, 1, 0, 0, 0, 0) := by decide +kernel
theorem l_309_30 : look 309 30 = some (.ireturn, 1, 0, 0, 0, 0) := by decide +kernel
theorem l_309_31 : look 309 31 = some (.iconst 0, 1, 0, 0, 0, 0) := by decide +kernel
theorem l_309_32 : look 309 32 = some (.ireturn, 1, 0, 0, 0, 0) := by decide +kernel

theorem wk_309 (o : oDropSwitch S T s q y) (ho : S[w]? = some (2, 1)) {p0 p1 p2 p3 p4 : Int} {P : Int → Ix → (Nat → Nat → Nat) → Prop} (sp : CL xs 105 [vr s, vi p0, vi p1, vi p2, vi p3, vi p4] (S, I, T, cc, zz) (VP S cc zz P)) : CL xs 309 [vr s, vi p0, vi p1, vi p2, vi p3, vi p4, vr w] (S, I, T, cc, zz) (WV S w cc zz P) := by
  refine CL_start (r := 7) (ls := [vr s, vi p0, vi p1, vi p2, vi p3, vi p4, vr w, vs 2]) (rk_309 _) rfl ?_
  refine w_al l_309_0 rfl ?_
  refine w_ic l_309_2 (by decide) ?_
  refine w_aln l_309_3 rfl ?_
  refine w_iln l_309_4 rfl ?_
  refine w_iln l_309_5 rfl ?_
  refine w_iln l_309_6 rfl ?_
  refine w_il l_309_7 rfl ?_
  refine w_il l_309_9 rfl ?_
  refine w_iv [vi p0, vi p1, vi p2, vi p3, vi p4] [vi 0, vr w] l_309_11 rfl rfl rfl (Nat.le_of_ble_eq_true rfl) (by rw [mx_105]; exact Nat.le_of_ble_eq_true rfl) (by rw [mt_105]; exact oDropSwitch_sh o) (by rw [mt_105]; decide) (by rw [rk_105]; decide) (CL_mono sp fun r m1 hr => ?_)
  obtain ⟨V, I1, T1, rfl, rfl, hP⟩ := hr
  show WP xs 309 7 (11 + 3) [vr s, vi p0, vi p1, vi p2, vi p3, vi p4, vr w, vs 2] [vi V, vi 0, vr w] (S, I1, T1, cc, zz) _
  refine w_i2l l_309_14 ?_
  refine w_lS 0 l_309_15 ho rfl (by decide) ?_
  refine w_go 31 l_309_16 (by decide) ?_
  refine w_ic l_309_31 (by decide) ?_
  refine w_ir l_309_32 (Or.inl rfl) ?_
  exact ⟨V, I1, T1, rfl, rfl, hP⟩

theorem wx_309_0 (o : oDropSwitch S T s q y) {p0 p1 p2 p3 p4 : Int} {P : Ix → Prop} (sp : CL xs 105 [vr s, vi p0, vi p1, vi p2, vi p3, vi p4] (S, I, T, cc, zz) (XP S T cc zz 0 P)) : CL xs 309 [vr s, vi p0, vi p1, vi p2, vi p3, vi p4, vr w] (S, I, T, cc, zz) (WXP S T cc zz 1 P) := by
  refine CL_start (r := 7) (ls := [vr s, vi p0, vi p1, vi p2, vi p3, vi p4, vr w, vs 2]) (rk_309 _) rfl ?_
  refine w_al l_309_0 rfl ?_
  refine w_ic l_309_2 (by decide) ?_
  refine w_aln l_309_3 rfl ?_
  refine w_iln l_309_4 rfl ?_
  refine w_iln l_309_5 rfl ?_
  refine w_iln l_309_6 rfl ?_
  refine w_il l_309_7 rfl ?_
  refine w_il l_309_9 rfl ?_
  refine w_iv [vi p0, vi p1, vi p2, vi p3, vi p4] [vi 0, vr w] l_309_11 rfl rfl rfl (Nat.le_of_ble_eq_true rfl) (by rw [mx_105]; exact Nat.le_of_ble_eq_true rfl) (by rw [mt_105]; exact oDropSwitch_sh o) (by rw [mt_105]; decide) (by rw [rk_105]; decide) (CL_mono sp fun r m1 hr => ?_)
  obtain ⟨I1, rfl, rfl, hP⟩ := hr
  show WX xs 309 7 11 [vr s, vi p0, vi p1, vi p2, vi p3, vi p4, vr w, vs 2] 0 (S, I1, T, cc - 1, zz - 6) _
  refine WX_h (h := (0, 16, 19, 25)) (k := 7) (h' := 21) (by decide +kernel) (by decide +kernel) ⟨Nat.le_of_ble_eq_true rfl, rfl⟩ ?_
  refine w_ic l_309_21 (by decide) ?_
  refine w_ir l_309_22 (Or.inl rfl) ?_
  exact ⟨I1, rfl, rfl, hP⟩

theorem wx_309_1 (o : oDropSwitch S T s q y) {p0 p1 p2 p3 p4 : Int} {P : Ix → Prop} (sp : CL xs 105 [vr s, vi p0, vi p1, vi p2, vi p3, vi p4] (S, I, T, cc, zz) (XP S T cc zz 1 P)) : CL xs 309 [vr s, vi p0, vi p1, vi p2, vi p3, vi p4, vr w] (S, I, T, cc, zz) (WXP S T cc zz 2 P) := by
  refine CL_start (r := 7) (ls := [vr s, vi p0, vi p1, vi p2, vi p3, vi p4, vr w, vs 2]) (rk_309 _) rfl ?_
  refine w_al l_309_0 rfl ?_
  refine w_ic l_309_2 (by decide) ?_
  refine w_aln l_309_3 rfl ?_
  refine w_iln l_309_4 rfl ?_
  refine w_iln l_309_5 rfl ?_
  refine w_iln l_309_6 rfl ?_
  refine w_il l_309_7 rfl ?_
  refine w_il l_309_9 rfl ?_
  refine w_iv [vi p0, vi p1, vi p2, vi p3, vi p4] [vi 0, vr w] l_309_11 rfl rfl rfl (Nat.le_of_ble_eq_true rfl) (by rw [mx_105]; exact Nat.le_of_ble_eq_true rfl) (by rw [mt_105]; exact oDropSwitch_sh o) (by rw [mt_105]; decide) (by rw [rk_105]; decide) (CL_mono sp fun r m1 hr => ?_)
  obtain ⟨I1, rfl, rfl, hP⟩ := hr
  show WX xs 309 7 11 [vr s, vi p0, vi p1, vi p2, vi p3, vi p4, vr w, vs 2] 1 (S, I1, T, cc - 1, zz - 6) _
  refine WX_h (h := (0, 16, 23, 13)) (k := 7) (h' := 25) (by decide +kernel) (by decide +kernel) ⟨Nat.le_of_ble_eq_true rfl, rfl⟩ ?_
  refine w_ic l_309_25 (by decide) ?_
  refine w_ir l_309_26 (Or.inl rfl) ?_
  exact ⟨I1, rfl, rfl, hP⟩

theorem wx_309_2 (o : oDropSwitch S T s q y) {p0 p1 p2 p3 p4 : Int} {P : Ix → Prop} (sp : CL xs 105 [vr s, vi p0, vi p1, vi p2, vi p3, vi p4] (S, I, T, cc, zz) (XP S T cc zz 2 P)) : CL xs 309 [vr s, vi p0, vi p1, vi p2, vi p3, vi p4, vr w] (S, I, T, cc, zz) (WXP S T cc zz 3 P) := by
  refine CL_start (r := 7) (ls := [vr s, vi p0, vi p1, vi p2, vi p3, vi p4, vr w, vs 2]) (rk_309 _) rfl ?_
  refine w_al l_309_0 rfl ?_
  refine w_ic l_309_2 (by decide) ?_
  refine w_aln l_309_3 rfl ?_
  refine w_iln l_309_4 rfl ?_
  refine w_iln l_309_5 rfl ?_
  refine w_iln l_309_6 rfl ?_
  refine w_il l_309_7 rfl ?_
  refine w_il l_309_9 rfl ?_
  refine w_iv [vi p0, vi p1, vi p2, vi p3, vi p4] [vi 0, vr w] l_309_11 rfl rfl rfl (Nat.le_of_ble_eq_true rfl) (by rw [mx_105]; exact Nat.le_of_ble_eq_true rfl) (by rw [mt_105]; exact oDropSwitch_sh o) (by rw [mt_105]; decide) (by rw [rk_105]; decide) (CL_mono sp fun r m1 hr => ?_)
  obtain ⟨I1, rfl, rfl, hP⟩ := hr
  show WX xs 309 7 11 [vr s, vi p0, vi p1, vi p2, vi p3, vi p4, vr w, vs 2] 2 (S, I1, T, cc - 1, zz - 6) _
  refine WX_h (h := (0, 16, 27, 27)) (k := 7) (h' := 29) (by decide +kernel) (by decide +kernel) ⟨Nat.le_of_ble_eq_true rfl, rfl⟩ ?_
  refine w_ic l_309_29 (by decide) ?_
  refine w_ir l_309_30 (Or.inl rfl) ?_
  exact ⟨I1, rfl, rfl, hP⟩

theorem mx_310 : mxl 310 = 3 := by decide +kernel
theorem mt_310 : mtc 310 = 99 := by decide +kernel
theorem rk_310 (as : List AV) : rkA 310 as = 7 := rfl
theorem l_310_0 : look 310 0 = some (.aload_n 1, 1, 0, 0, 0, 0) := by decide +kernel
theorem l_310_1 : look 310 1 = some (.iconst 0, 1, 0, 0, 0, 0) := by decide +kernel
theorem l_310_2 : look 310 2 = some (.aload_n 0, 1, 0, 0, 0, 0) := by decide +kernel
theorem l_310_3 : look 310 3 = some (.invokevirtual 29, 3, 106, 1, 0, 1147) := by decide +kernel
theorem l_310_6 : look 310 6 = some (.i2l, 1, 0, 0, 0, 0) := by decide +kernel
theorem l_310_7 : look 310 7 = some (.lastore, 1, 0, 0, 0, 0) := by decide +kernel
theorem l_310_8 : look 310 8 = some (.goto 6, 3, 0, 0, 0, 0) := by decide +kernel
theorem l_310_11 : look 310 11 = some (.astore_n 2, 1, 0, 0, 0, 0) := by decide +kernel
theorem l_310_12 : look 310 12 = some (.iconst 1, 1, 0, 0, 0, 0) := by decide +kernel
theorem l_310_13 : look 310 13 = some (.ireturn, 1, 0, 0, 0, 0) := by decide +kernel
theorem l_310_14 : look 310 14 = some (.iconst 0, 1, 0, 0, 0, 0) := by decide +kernel
theorem l_310_15 : look 310 15 = some (.ireturn, 1, 0, 0, 0, 0) := by decide +kernel

theorem wk_310 (o : oDropSwitch S T s q y) (ho : S[w]? = some (2, 1)) {P : Int → Ix → (Nat → Nat → Nat) → Prop} (sp : CL xs 106 [vr s] (S, I, T, cc, zz) (VP S cc zz P)) : CL xs 310 [vr s, vr w] (S, I, T, cc, zz) (WV S w cc zz P) := by
  refine CL_start (r := 7) (ls := [vr s, vr w, vs 2]) (rk_310 _) rfl ?_
  refine w_aln l_310_0 rfl ?_
  refine w_ic l_310_1 (by decide) ?_
  refine w_aln l_310_2 rfl ?_
  refine w_iv [] [vi 0, vr w] l_310_3 rfl rfl rfl (Nat.le_of_ble_eq_true rfl) (by rw [mx_106]; exact Nat.le_of_ble_eq_true rfl) (by rw [mt_106]; exact oDropSwitch_sh o) (by rw [mt_106]; decide) (by rw [rk_106]; decide) (CL_mono sp fun r m1 hr => ?_)
  obtain ⟨V, I1, T1, rfl, rfl, hP⟩ := hr
  show WP xs 310 7 (3 + 3) [vr s, vr w, vs 2] [vi V, vi 0, vr w] (S, I1, T1, cc, zz) _
  refine w_i2l l_310_6 ?_
  refine w_lS 0 l_310_7 ho rfl (by decide) ?_
  refine w_go 14 l_310_8 (by decide) ?_
  refine w_ic l_310_14 (by decide) ?_
  refine w_ir l_310_15 (Or.inl rfl) ?_
  exact ⟨V, I1, T1, rfl, rfl, hP⟩

theorem wx_310_2 (o : oDropSwitch S T s q y) {P : Ix → Prop} (sp : CL xs 106 [vr s] (S, I, T, cc, zz) (XP S T cc zz 2 P)) : CL xs 310 [vr s, vr w] (S, I, T, cc, zz) (WXP S T cc zz 1 P) := by
  refine CL_start (r := 7) (ls := [vr s, vr w, vs 2]) (rk_310 _) rfl ?_
  refine w_aln l_310_0 rfl ?_
  refine w_ic l_310_1 (by decide) ?_
  refine w_aln l_310_2 rfl ?_
  refine w_iv [] [vi 0, vr w] l_310_3 rfl rfl rfl (Nat.le_of_ble_eq_true rfl) (by rw [mx_106]; exact Nat.le_of_ble_eq_true rfl) (by rw [mt_106]; exact oDropSwitch_sh o) (by rw [mt_106]; decide) (by rw [rk_106]; decide) (CL_mono sp fun r m1 hr => ?_)
  obtain ⟨I1, rfl, rfl, hP⟩ := hr
  show WX xs 310 7 3 [vr s, vr w, vs 2] 2 (S, I1, T, cc - 1, zz - 6) _
  refine WX_h (h := (0, 8, 11, 27)) (k := 2) (h' := 12) (by decide +kernel) (by decide +kernel) ⟨Nat.le_of_ble_eq_true rfl, rfl⟩ ?_
  refine w_ic l_310_12 (by decide) ?_
  refine w_ir l_310_13 (Or.inl rfl) ?_
  exact ⟨I1, rfl, rfl, hP⟩

theorem mx_311 : mxl 311 = 5 := by decide +kernel
theorem mt_311 : mtc 311 = 99 := by decide +kernel
theorem rk_311 (as : List AV) : rkA 311 as = 7 := rfl
theorem l_311_0 : look 311 0 = some (.aload_n 3, 1, 0, 0, 0, 0) := by decide +kernel
theorem l_311_1 : look 311 1 = some (.iconst 0, 1, 0, 0, 0, 0) := by decide +kernel
theorem l_311_2 : look 311 2 = some (.aload_n 0, 1, 0, 0, 0, 0) := by decide +kernel
theorem l_311_3 : look 311 3 = some (.iload_n 1, 1, 0, 0, 0, 0) := by decide +kernel
theorem l_311_4 : look 311 4 = some (.iload_n 2, 1, 0, 0, 0, 0) := by decide +kernel
theorem l_311_5 : look 311 5 = some (.invokevirtual 32, 3, 107, 3, 0, 1155) := by decide +kernel
theorem l_311_8 : look 311 8 = some (.i2l, 1, 0, 0, 0, 0) := by decide +kernel
theorem l_311_9 : look 311 9 = some (.lastore, 1, 0, 0, 0, 0) := by decide +kernel
theorem l_311_10 : look 311 10 = some (.goto 11, 3, 0, 0, 0, 0) := by decide +kernel
theorem l_311_13 : look 311 13 = some (.astore 4, 2, 0, 0, 0, 0) := by decide +kernel
theorem l_311_15 : look 311 15 = some (.iconst 1, 1, 0, 0, 0, 0) := by decide +kernel
theorem l_311_16 : look 311 16 = some (.ireturn, 1, 0, 0, 0, 0) := by decide +kernel
theorem l_311_17 : look 311 17 = some (.astore 4, 2, 0, 0, 0, 0) := by decide +kernel
theorem l_311_19 : look 311 19 = some (.iconst 2, 1, 0, 0, 0, 0) := by decide +kernel
theorem l_311_20 : look 311 20 = some (.ireturn, 1, 0, 0, 0, 0) := by decide +kernel
theorem l_311_21 : look 311 21 = some (.iconst 0, 1, 0, 0, 0, 0) := by decide +kernel
theorem l_311_22 : look 311 22 = some (.ireturn, 1, 0, 0, 0, 0) := by decide +kernel

theorem wk_311 (o : oDropSwitch S T s q y) (ho : S[w]? = some (2, 1)) {p0 p1 : Int} {P : Int → Ix → (Nat → Nat → Nat) → Prop} (sp : CL xs 107 [vr s, vi p0, vi p1] (S, I, T, cc, zz) (VP S cc zz P)) : CL xs 311 [vr s, vi p0, vi p1, vr w] (S, I, T, cc, zz) (WV S w cc zz P) := by
  refine CL_start (r := 7) (ls := [vr s, vi p0, vi p1, vr w, vs 2]) (rk_311 _) rfl ?_
  refine w_aln l_311_0 rfl ?_
  refine w_ic l_311_1 (by decide) ?_
  refine w_aln l_311_2 rfl ?_
  refine w_iln l_311_3 rfl ?_
  refine w_iln l_311_4 rfl ?_
  refine w_iv [vi p0, vi p1] [vi 0, vr w] l_311_5 rfl rfl rfl (Nat.le_of_ble_eq_true rfl) (by rw [mx_107]; exact Nat.le_of_ble_eq_true rfl) (by rw [mt_107]; exact oDropSwitch_sh o) (by rw [mt_107]; decide) (by rw [rk_107]; decide) (CL_mono sp fun r m1 hr => ?_)
  obtain ⟨V, I1, T1, rfl, rfl, hP⟩ := hr
  show WP xs 311 7 (5 + 3) [vr s, vi p0, vi p1, vr w, vs 2] [vi V, vi 0, vr w] (S, I1, T1, cc, zz) _
  refine w_i2l l_311_8 ?_
  refine w_lS 0 l_311_9 ho rfl (by decide) ?_
  refine w_go 21 l_311_10 (by decide) ?_
  refine w_ic l_311_21 (by decide) ?_
  refine w_ir l_311_22 (Or.inl rfl) ?_
  exact ⟨V, I1, T1, rfl, rfl, hP⟩

theorem wx_311_0 (o : oDropSwitch S T s q y) {p0 p1 : Int} {P : Ix → Prop} (sp : CL xs 107 [vr s, vi p0, vi p1] (S, I, T, cc, zz) (XP S T cc zz 0 P)) : CL xs 311 [vr s, vi p0, vi p1, vr w] (S, I, T, cc, zz) (WXP S T cc zz 1 P) := by
  refine CL_start (r := 7) (ls := [vr s, vi p0, vi p1, vr w, vs 2]) (rk_311 _) rfl ?_
  refine w_aln l_311_0 rfl ?_
  refine w_ic l_311_1 (by decide) ?_
  refine w_aln l_311_2 rfl ?_
  refine w_iln l_311_3 rfl ?_
  refine w_iln l_311_4 rfl ?_
  refine w_iv [vi p0, vi p1] [vi 0, vr w] l_311_5 rfl rfl rfl (Nat.le_of_ble_eq_true rfl) (by rw [mx_107]; exact Nat.le_of_ble_eq_true rfl) (by rw [mt_107]; exact oDropSwitch_sh o) (by rw [mt_107]; decide) (by rw [rk_107]; decide) (CL_mono sp fun r m1 hr => ?_)
  obtain ⟨I1, rfl, rfl, hP⟩ := hr
  show WX xs 311 7 5 [vr s, vi p0, vi p1, vr w, vs 2] 0 (S, I1, T, cc - 1, zz - 6) _
  refine WX_h (h := (0, 10, 13, 25)) (k := 4) (h' := 15) (by decide +kernel) (by decide +kernel) ⟨Nat.le_of_ble_eq_true rfl, rfl⟩ ?_
  refine w_ic l_311_15 (by decide) ?_
  refine w_ir l_311_16 (Or.inl rfl) ?_
  exact ⟨I1, rfl, rfl, hP⟩

theorem wx_311_2 (o : oDropSwitch S T s q y) {p0 p1 : Int} {P : Ix → Prop} (sp : CL xs 107 [vr s, vi p0, vi p1] (S, I, T, cc, zz) (XP S T cc zz 2 P)) : CL xs 311 [vr s, vi p0, vi p1, vr w] (S, I, T, cc, zz) (WXP S T cc zz 2 P) := by
  refine CL_start (r := 7) (ls := [vr s, vi p0, vi p1, vr w, vs 2]) (rk_311 _) rfl ?_
  refine w_aln l_311_0 rfl ?_
  refine w_ic l_311_1 (by decide) ?_
  refine w_aln l_311_2 rfl ?_
  refine w_iln l_311_3 rfl ?_
  refine w_iln l_311_4 rfl ?_
  refine w_iv [vi p0, vi p1] [vi 0, vr w] l_311_5 rfl rfl rfl (Nat.le_of_ble_eq_true rfl) (by rw [mx_107]; exact Nat.le_of_ble_eq_true rfl) (by rw [mt_107]; exact oDropSwitch_sh o) (by rw [mt_107]; decide) (by rw [rk_107]; decide) (CL_mono sp fun r m1 hr => ?_)
  obtain ⟨I1, rfl, rfl, hP⟩ := hr
  show WX xs 311 7 5 [vr s, vi p0, vi p1, vr w, vs 2] 2 (S, I1, T, cc - 1, zz - 6) _
  refine WX_h (h := (0, 10, 17, 27)) (k := 4) (h' := 19) (by decide +kernel) (by decide +kernel) ⟨Nat.le_of_ble_eq_true rfl, rfl⟩ ?_
  refine w_ic l_311_19 (by decide) ?_
  refine w_ir l_311_20 (Or.inl rfl) ?_
  exact ⟨I1, rfl, rfl, hP⟩

theorem mx_312 : mxl 312 = 4 := by decide +kernel
theorem mt_312 : mtc 312 = 99 := by decide +kernel
theorem rk_312 (as : List AV) : rkA 312 as = 6 := rfl
theorem l_312_0 : look 312 0 = some (.aload_n 2, 1, 0, 0, 0, 0) := by decide +kernel
theorem l_312_1 : look 312 1 = some (.iconst 0, 1, 0, 0, 0, 0) := by decide +kernel
theorem l_312_2 : look 312 2 = some (.aload_n 0, 1, 0, 0, 0, 0) := by decide +kernel
theorem l_312_3 : look 312 3 = some (.iload_n 1, 1, 0, 0, 0, 0) := by decide +kernel
theorem l_312_4 : look 312 4 = some (.invokevirtual 36, 3, 108, 2, 0, 1162) := by decide +kernel
theorem l_312_7 : look 312 7 = some (.i2l, 1, 0, 0, 0, 0) := by decide +kernel
theorem l_312_8 : look 312 8 = some (.lastore, 1, 0, 0, 0, 0) := by decide +kernel
theorem l_312_9 : look 312 9 = some (.goto 6, 3, 0, 0, 0, 0) := by decide +kernel
theorem l_312_12 : look 312 12 = some (.astore_n 3, 1, 0, 0, 0, 0) := by decide +kernel
theorem l_312_13 : look 312 13 = some (.iconst 1, 1, 0, 0, 0, 0) := by decide +kernel
theorem l_312_14 : look 312 14 = some (.ireturn, 1, 0, 0, 0, 0) := by decide +kernel
theorem l_312_15 : look 312 15 = some (.iconst 0, 1, 0, 0, 0, 0) := by decide +kernel
theorem l_312_16 : look 312 16 = some (.ireturn, 1, 0, 0, 0, 0) := by decide +kernel

theorem wk_312 (o : oDropSwitch S T s q y) (ho : S[w]? = some (2, 1)) {p0 : Int} {P : Int → Ix → (Nat → Nat → Nat) → Prop} (sp : CL xs 108 [vr s, vi p0] (S, I, T, cc, zz) (VP S cc zz P)) : CL xs 312 [vr s, vi p0, vr w] (S, I, T, cc, zz) (WV S w cc zz P) := by
  refine CL_start (r := 6) (ls := [vr s, vi p0, vr w, vs 2]) (rk_312 _) rfl ?_
  refine w_aln l_312_0 rfl ?_
  refine w_ic l_312_1 (by decide) ?_
  refine w_aln l_312_2 rfl ?_
  refine w_iln l_312_3 rfl ?_
  refine w_iv [vi p0] [vi 0, vr w] l_312_4 rfl rfl rfl (Nat.le_of_ble_eq_true rfl) (by rw [mx_108]; exact Nat.le_of_ble_eq_true rfl) (by rw [mt_108]; exact oDropSwitch_sh o) (by rw [mt_108]; decide) (by rw [rk_108]; decide) (CL_mono sp fun r m1 hr => ?_)
  obtain ⟨V, I1, T1, rfl, rfl, hP⟩ := hr
  show WP xs 312 6 (4 + 3) [vr s, vi p0, vr w, vs 2] [vi V, vi 0, vr w] (S, I1, T1, cc, zz) _
  refine w_i2l l_312_7 ?_
  refine w_lS 0 l_312_8 ho rfl (by decide) ?_
  refine w_go 15 l_312_9 (by decide) ?_
  refine w_ic l_312_15 (by decide) ?_
  refine w_ir l_312_16 (Or.inl rfl) ?_
  exact ⟨V, I1, T1, rfl, rfl, hP⟩

theorem wx_312_1 (o : oDropSwitch S T s q y) {p0 : Int} {P : Ix → Prop} (sp : CL xs 108 [vr s, vi p0] (S, I, T, cc, zz) (XP S T cc zz 1 P)) : CL xs 312 [vr s, vi p0, vr w] (S, I, T, cc, zz) (WXP S T cc zz 1 P) := by
  refine CL_start (r := 6) (ls := [vr s, vi p0, vr w, vs 2]) (rk_312 _) rfl ?_
  refine w_aln l_312_0 rfl ?_
  refine w_ic l_312_1 (by decide) ?_
  refine w_aln l_312_2 rfl ?_
  refine w_iln l_312_3 rfl ?_
  refine w_iv [vi p0] [vi 0, vr w] l_312_4 rfl rfl rfl (Nat.le_of_ble_eq_true rfl) (by rw [mx_108]; exact Nat.le_of_ble_eq_true rfl) (by rw [mt_108]; exact oDropSwitch_sh o) (by rw [mt_108]; decide) (by rw [rk_108]; decide) (CL_mono sp fun r m1 hr => ?_)
  obtain ⟨I1, rfl, rfl, hP⟩ := hr
  show WX xs 312 6 4 [vr s, vi p0, vr w, vs 2] 1 (S, I1, T, cc - 1, zz - 6) _
  refine WX_h (h := (0, 9, 12, 13)) (k := 3) (h' := 13) (by decide +kernel) (by decide +kernel) ⟨Nat.le_of_ble_eq_true rfl, rfl⟩ ?_
  refine w_ic l_312_13 (by decide) ?_
  refine w_ir l_312_14 (Or.inl rfl) ?_
  exact ⟨I1, rfl, rfl, hP⟩

theorem mx_313 : mxl 313 = 4 := by decide +kernel
theorem mt_313 : mtc 313 = 99 := by decide +kernel
theorem rk_313 (as : List AV) : rkA 313 as = 2 := rfl
theorem l_313_0 : look 313 0 = some (.aload_n 2, 1, 0, 0, 0, 0) := by decide +kernel
theorem l_313_1 : look 313 1 = some (.iconst 0, 1, 0, 0, 0, 0) := by decide +kernel
theorem l_313_2 : look 313 2 = some (.aload_n 0, 1, 0, 0, 0, 0) := by decide +kernel
theorem l_313_3 : look 313 3 = some (.iload_n 1, 1, 0, 0, 0, 0) := by decide +kernel
theorem l_313_4 : look 313 4 = some (.invokevirtual 39, 3, 109, 2, 0, 1169) := by decide +kernel
theorem l_313_7 : look 313 7 = some (.i2l, 1, 0, 0, 0, 0) := by decide +kernel
theorem l_313_8 : look 313 8 = some (.lastore, 1, 0, 0, 0, 0) := by decide +kernel
theorem l_313_9 : look 313 9 = some (.goto 6, 3, 0, 0, 0, 0) := by decide +kernel
theorem l_313_12 : look 313 12 = some (.astore_n 3, 1, 0, 0, 0, 0) := by decide +kernel
theorem l_313_13 : look 313 13 = some (.iconst 1, 1, 0, 0, 0, 0) := by decide +kernel
theorem l_313_14 : look 313 14 = some (.ireturn, 1, 0, 0, 0, 0) := by decide +kernel
theorem l_313_15 : look 313 15 = some (.iconst 0, 1, 0, 0, 0, 0) := by decide +kernel
theorem l_313_16 : look 313 16 = some (.ireturn, 1, 0, 0, 0, 0) := by decide +kernel

theorem wk_313 (o : oDropSwitch S T s q y) (ho : S[w]? = some (2, 1)) {p0 : Int} {P : Int → Ix → (Nat → Nat → Nat) → Prop} (sp : CL xs 109 [vr s, vi p0] (S, I, T, cc, zz) (VP S cc zz P)) : CL xs 313 [vr s, vi p0, vr w] (S, I, T, cc, zz) (WV S w cc zz P) := by
  refine CL_start (r := 2) (ls := [vr s, vi p0, vr w, vs 2]) (rk_313 _) rfl ?_
  refine w_aln l_313_0 rfl ?_
  refine w_ic l_313_1 (by decide) ?_
  refine w_aln l_313_2 rfl ?_
  refine w_iln l_313_3 rfl ?_
  refine w_iv [vi p0] [vi 0, vr w] l_313_4 rfl rfl rfl (Nat.le_of_ble_eq_true rfl) (by rw [mx_109]; exact Nat.le_of_ble_eq_true rfl) (by rw [mt_109]; exact oDropSwitch_sh o) (by rw [mt_109]; decide) (by rw [rk_109]; decide) (CL_mono sp fun r m1 hr => ?_)
  obtain ⟨V, I1, T1, rfl, rfl, hP⟩ := hr
  show WP xs 313 2 (4 + 3) [vr s, vi p0, vr w, vs 2] [vi V, vi 0, vr w] (S, I1, T1, cc, zz) _
  refine w_i2l l_313_7 ?_
  refine w_lS 0 l_313_8 ho rfl (by decide) ?_
  refine w_go 15 l_313_9 (by decide) ?_
  refine w_ic l_313_15 (by decide) ?_
  refine w_ir l_313_16 (Or.inl rfl) ?_
  exact ⟨V, I1, T1, rfl, rfl, hP⟩

theorem wx_313_0 (o : oDropSwitch S T s q y) {p0 : Int} {P : Ix → Prop} (sp : CL xs 109 [vr s, vi p0] (S, I, T, cc, zz) (XP S T cc zz 0 P)) : CL xs 313 [vr s, vi p0, vr w] (S, I, T, cc, zz) (WXP S T cc zz 1 P) := by
  refine CL_start (r := 2) (ls := [vr s, vi p0, vr w, vs 2]) (rk_313 _) rfl ?_
  refine w_aln l_313_0 rfl ?_
  refine w_ic l_313_1 (by decide) ?_
  refine w_aln l_313_2 rfl ?_
  refine w_iln l_313_3 rfl ?_
  refine w_iv [vi p0] [vi 0, vr w] l_313_4 rfl rfl rfl (Nat.le_of_ble_eq_true rfl) (by rw [mx_109]; exact Nat.le_of_ble_eq_true rfl) (by rw [mt_109]; exact oDropSwitch_sh o) (by rw [mt_109]; decide) (by rw [rk_109]; decide) (CL_mono sp fun r m1 hr => ?_)
  obtain ⟨I1, rfl, rfl, hP⟩ := hr
  show WX xs 313 2 4 [vr s, vi p0, vr w, vs 2] 0 (S, I1, T, cc - 1, zz - 6) _
  refine WX_h (h := (0, 9, 12, 25)) (k := 3) (h' := 13) (by decide +kernel) (by decide +kernel) ⟨Nat.le_of_ble_eq_true rfl, rfl⟩ ?_
  refine w_ic l_313_13 (by decide) ?_
  refine w_ir l_313_14 (Or.inl rfl) ?_
  exact ⟨I1, rfl, rfl, hP⟩

theorem mx_314 : mxl 314 = 4 := by decide +kernel
theorem mt_314 : mtc 314 = 99 := by decide +kernel
theorem rk_314 (as : List AV) : rkA 314 as = 2 := rfl
theorem l_314_0 : look 314 0 = some (.aload_n 2, 1, 0, 0, 0, 0) := by decide +kernel
theorem l_314_1 : look 314 1 = some (.iconst 0, 1, 0, 0, 0, 0) := by decide +kernel
theorem l_314_2 : look 314 2 = some (.aload_n 0, 1, 0, 0, 0, 0) := by decide +kernel
theorem l_314_3 : look 314 3 = some (.iload_n 1, 1, 0, 0, 0, 0) := by decide +kernel
theorem l_314_4 : look 314 4 = some (.invokevirtual 42, 3, 110, 2, 0, 1180) := by decide +kernel
theorem l_314_7 : look 314 7 = some (.i2l, 1, 0, 0, 0, 0) := by decide +kernel
theorem l_314_8 : look 314 8 = some (.lastore, 1, 0, 0, 0, 0) := by decide +kernel
theorem l_314_9 : look 314 9 = some (.goto 6, 3, 0, 0, 0, 0) := by decide +kernel
theorem l_314_12 : look 314 12 = some (.astore_n 3, 1, 0, 0, 0, 0) := by decide +kernel
theorem l_314_13 : look 314 13 = some (.iconst 1, 1, 0, 0, 0, 0) := by decide +kernel
theorem l_314_14 : look 314 14 = some (.ireturn, 1, 0, 0, 0, 0) := by decide +kernel
theorem l_314_15 : look 314 15 = some (.iconst 0, 1, 0, 0, 0, 0) := by decide +kernel
theorem l_314_16 : look 314 16 = some (.ireturn, 1, 0, 0, 0, 0) := by decide +kernel

theorem wk_314 (o : oDropSwitch S T s q y) (ho : S[w]? = some (2, 1)) {p0 : Int} {P : Int → Ix → (Nat → Nat → Nat) → Prop} (sp : CL xs 110 [vr s, vi p0] (S, I, T, cc, zz) (VP S cc zz P)) : CL xs 314 [vr s, vi p0, vr w] (S, I, T, cc, zz) (WV S w cc zz P) := by
  refine CL_start (r := 2) (ls := [vr s, vi p0, vr w, vs 2]) (rk_314 _) rfl ?_
  refine w_aln l_314_0 rfl ?_
  refine w_ic l_314_1 (by decide) ?_
  refine w_aln l_314_2 rfl ?_
  refine w_iln l_314_3 rfl ?_
  refine w_iv [vi p0] [vi 0, vr w] l_314_4 rfl rfl rfl (Nat.le_of_ble_eq_true rfl) (by rw [mx_110]; exact Nat.le_of_ble_eq_true rfl) (by rw [mt_110]; exact oDropSwitch_sh o) (by rw [mt_110]; decide) (by rw [rk_110]; decide) (CL_mono sp fun r m1 hr => ?_)
  obtain ⟨V, I1, T1, rfl, rfl, hP⟩ := hr
  show WP xs 314 2 (4 + 3) [vr s, vi p0, vr w, vs 2] [vi V, vi 0, vr w] (S, I1, T1, cc, zz) _
  refine w_i2l l_314_7 ?_
  refine w_lS 0 l_314_8 ho rfl (by decide) ?_
  refine w_go 15 l_314_9 (by decide) ?_
  refine w_ic l_314_15 (by decide) ?_
  refine w_ir l_314_16 (Or.inl rfl) ?_
  exact ⟨V, I1, T1, rfl, rfl, hP⟩

theorem wx_314_0 (o : oDropSwitch S T s q y) {p0 : Int} {P : Ix → Prop} (sp : CL xs 110 [vr s, vi p0] (S, I, T, cc, zz) (XP S T cc zz 0 P)) : CL xs 314 [vr s, vi p0, vr w] (S, I, T, cc, zz) (WXP S T cc zz 1 P) := by
  refine CL_start (r := 2) (ls := [vr s, vi p0, vr w, vs 2]) (rk_314 _) rfl ?_
  refine w_aln l_314_0 rfl ?_
  refine w_ic l_314_1 (by decide) ?_
  refine w_aln l_314_2 rfl ?_
  refine w_iln l_314_3 rfl ?_
  refine w_iv [vi p0] [vi 0, vr w] l_314_4 rfl rfl rfl (Nat.le_of_ble_eq_true rfl) (by rw [mx_110]; exact Nat.le_of_ble_eq_true rfl) (by rw [mt_110]; exact oDropSwitch_sh o) (by rw [mt_110]; decide) (by rw [rk_110]; decide) (CL_mono sp fun r m1 hr => ?_)
  obtain ⟨I1, rfl, rfl, hP⟩ := hr
  show WX xs 314 2 4 [vr s, vi p0, vr w, vs 2] 0 (S, I1, T, cc - 1, zz - 6) _
  refine WX_h (h := (0, 9, 12, 25)) (k := 3) (h' := 13) (by decide +kernel) (by decide +kernel) ⟨Nat.le_of_ble_eq_true rfl, rfl⟩ ?_
  refine w_ic l_314_13 (by decide) ?_
  refine w_ir l_314_14 (Or.inl rfl) ?_
  exact ⟨I1, rfl, rfl, hP⟩

theorem mx_315 : mxl 315 = 4 := by decide +kernel
theorem mt_315 : mtc 315 = 99 := by decide +kernel
theorem rk_315 (as : List AV) : rkA 315 as = 2 := rfl
theorem l_315_0 : look 315 0 = some (.aload_n 2, 1, 0, 0, 0, 0) := by decide +kernel
theorem l_315_1 : look 315 1 = some (.iconst 0, 1, 0, 0, 0, 0) := by decide +kernel
theorem l_315_2 : look 315 2 = some (.aload_n 0, 1, 0, 0, 0, 0) := by decide +kernel
theorem l_315_3 : look 315 3 = some (.iload_n 1, 1, 0, 0, 0, 0) := by decide +kernel
theorem l_315_4 : look 315 4 = some (.invokevirtual 45, 3, 111, 2, 0, 1187) := by decide +kernel
theorem l_315_7 : look 315 7 = some (.i2l, 1, 0, 0, 0, 0) := by decide +kernel
theorem l_315_8 : look 315 8 = some (.lastore, 1, 0, 0, 0, 0) := by decide +kernel
theorem l_315_9 : look 315 9 = some (.goto 6, 3, 0, 0, 0, 0) := by decide +kernel
theorem l_315_12 : look 315 12 = some (.astore_n 3, 1, 0, 0, 0, 0) := by decide +kernel
theorem l_315_13 : look 315 13 = some (.iconst 1, 1, 0, 0, 0, 0) := by decide +kernel
theorem l_315_14 : look 315 14 = some (.ireturn, 1, 0, 0, 0, 0) := by decide +kernel
theorem l_315_15 : look 315 15 = some (.iconst 0, 1, 0, 0, 0, 0) := by decide +kernel
theorem l_315_16 : look 315 16 = some (.ireturn, 1, 0, 0, 0, 0) := by decide +kernel

theorem wk_315 (o : oDropSwitch S T s q y) (ho : S[w]? = some (2, 1)) {p0 : Int} {P : Int → Ix → (Nat → Nat → Nat) → Prop} (sp : CL xs 111 [vr s, vi p0] (S, I, T, cc, zz) (VP S cc zz P)) : CL xs 315 [vr s, vi p0, vr w] (S, I, T, cc, zz) (WV S w cc zz P) := by
  refine CL_start (r := 2) (ls := [vr s, vi p0, vr w, vs 2]) (rk_315 _) rfl ?_
  refine w_aln l_315_0 rfl ?_
  refine w_ic l_315_1 (by decide) ?_
  refine w_aln l_315_2 rfl ?_
  refine w_iln l_315_3 rfl ?_
  refine w_iv [vi p0] [vi 0, vr w] l_315_4 rfl rfl rfl (Nat.le_of_ble_eq_true rfl) (by rw [mx_111]; exact Nat.le_of_ble_eq_true rfl) (by rw [mt_111]; exact oDropSwitch_sh o) (by rw [mt_111]; decide) (by rw [rk_111]; decide) (CL_mono sp fun r m1 hr => ?_)
  obtain ⟨V, I1, T1, rfl, rfl, hP⟩ := hr
  show WP xs 315 2 (4 + 3) [vr s, vi p0, vr w, vs 2] [vi V, vi 0, vr w] (S, I1, T1, cc, zz) _
  refine w_i2l l_315_7 ?_
  refine w_lS 0 l_315_8 ho rfl (by decide) ?_
  refine w_go 15 l_315_9 (by decide) ?_
  refine w_ic l_315_15 (by decide) ?_
  refine w_ir l_315_16 (Or.inl rfl) ?_
  exact ⟨V, I1, T1, rfl, rfl, hP⟩

theorem wx_315_0 (o : oDropSwitch S T s q y) {p0 : Int} {P : Ix → Prop} (sp : CL xs 111 [vr s, vi p0] (S, I, T, cc, zz) (XP S T cc zz 0 P)) : CL xs 315 [vr s, vi p0, vr w] (S, I, T, cc, zz) (WXP S T cc zz 1 P) := by
  refine CL_start (r := 2) (ls := [vr s, vi p0, vr w, vs 2]) (rk_315 _) rfl ?_
  refine w_aln l_315_0 rfl ?_
  refine w_ic l_315_1 (by decide) ?_
  refine w_aln l_315_2 rfl ?_
  refine w_iln l_315_3 rfl ?_
  refine w_iv [vi p0] [vi 0, vr w] l_315_4 rfl rfl rfl (Nat.le_of_ble_eq_true rfl) (by rw [mx_111]; exact Nat.le_of_ble_eq_true rfl) (by rw [mt_111]; exact oDropSwitch_sh o) (by rw [mt_111]; decide) (by rw [rk_111]; decide) (CL_mono sp fun r m1 hr => ?_)
  obtain ⟨I1, rfl, rfl, hP⟩ := hr
  show WX xs 315 2 4 [vr s, vi p0, vr w, vs 2] 0 (S, I1, T, cc - 1, zz - 6) _
  refine WX_h (h := (0, 9, 12, 25)) (k := 3) (h' := 13) (by decide +kernel) (by decide +kernel) ⟨Nat.le_of_ble_eq_true rfl, rfl⟩ ?_
  refine w_ic l_315_13 (by decide) ?_
  refine w_ir l_315_14 (Or.inl rfl) ?_
  exact ⟨I1, rfl, rfl, hP⟩

theorem mx_316 : mxl 316 = 4 := by decide +kernel
theorem mt_316 : mtc 316 = 99 := by decide +kernel
theorem rk_316 (as : List AV) : rkA 316 as = 2 := rfl
theorem l_316_0 : look 316 0 = some (.aload_n 2, 1, 0, 0, 0, 0) := by decide +kernel
theorem l_316_1 : look 316 1 = some (.iconst 0, 1, 0, 0, 0, 0) := by decide +kernel
theorem l_316_2 : look 316 2 = some (.aload_n 0, 1, 0, 0, 0, 0) := by decide +kernel
theorem l_316_3 : look 316 3 = some (.iload_n 1, 1, 0, 0, 0, 0) := by decide +kernel
theorem l_316_4 : look 316 4 = some (.invokevirtual 48, 3, 112, 2, 0, 1198) := by decide +kernel
theorem l_316_7 : look 316 7 = some (.i2l, 1, 0, 0, 0, 0) := by decide +kernel
theorem l_316_8 : look 316 8 = some (.lastore, 1, 0, 0, 0, 0) := by decide +kernel
theorem l_316_9 : look 316 9 = some (.goto 6, 3, 0, 0, 0, 0) := by decide +kernel
theorem l_316_12 : look 316 12 = some (.astore_n 3, 1, 0, 0, 0, 0) := by decide +kernel
theorem l_316_13 : look 316 13 = some (.iconst 1, 1, 0, 0, 0, 0) := by decide +kernel
theorem l_316_14 : look 316 14 = some (.ireturn, 1, 0, 0, 0, 0) := by decide +kernel
theorem l_316_15 : look 316 15 = some (.iconst 0, 1, 0, 0, 0, 0) := by decide +kernel
theorem l_316_16 : look 316 16 = some (.ireturn, 1, 0, 0, 0, 0) := by decide +kernel

theorem wk_316 (o : oDropSwitch S T s q y) (ho : S[w]? = some (2, 1)) {p0 : Int} {P : Int → Ix → (Nat → Nat → Nat) → Prop} (sp : CL xs 112 [vr s, vi p0] (S, I, T, cc, zz) (VP S cc zz P)) : CL xs 316 [vr s, vi p0, vr w] (S, I, T, cc, zz) (WV S w cc zz P) := by
  refine CL_start (r := 2) (ls := [vr s, vi p0, vr w, vs 2]) (rk_316 _) rfl ?_
  refine w_aln l_316_0 rfl ?_
  refine w_ic l_316_1 (by decide) ?_
  refine w_aln l_316_2 rfl ?_
  refine w_iln l_316_3 rfl ?_
  refine w_iv [vi p0] [vi 0, vr w] l_316_4 rfl rfl rfl (Nat.le_of_ble_eq_true rfl) (by rw [mx_112]; exact Nat.le_of_ble_eq_true rfl) (by rw [mt_112]; exact oDropSwitch_sh o) (by rw [mt_112]; decide) (by rw [rk_112]; decide) (CL_mono sp fun r m1 hr => ?_)
  obtain ⟨V, I1, T1, rfl, rfl, hP⟩ := hr
  show WP xs 316 2 (4 + 3) [vr s, vi p0, vr w, vs 2] [vi V, vi 0, vr w] (S, I1, T1, cc, zz) _
  refine w_i2l l_316_7 ?_
  refine w_lS 0 l_316_8 ho rfl (by decide) ?_
  refine w_go 15 l_316_9 (by decide) ?_
  refine w_ic l_316_15 (by decide) ?_
  refine w_ir l_316_16 (Or.inl rfl) ?_
  exact ⟨V, I1, T1, rfl, rfl, hP⟩

theorem wx_316_0 (o : oDropSwitch S T s q y) {p0 : Int} {P : Ix → Prop} (sp : CL xs 112 [vr s, vi p0] (S, I, T, cc, zz) (XP S T cc zz 0 P)) : CL xs 316 [vr s, vi p0, vr w] (S, I, T, cc, zz) (WXP S T cc zz 1 P) := by
  refine CL_start (r := 2) (ls := [vr s, vi p0, vr w, vs 2]) (rk_316 _) rfl ?_
  refine w_aln l_316_0 rfl ?_
  refine w_ic l_316_1 (by decide) ?_
  refine w_aln l_316_2 rfl ?_
  refine w_iln l_316_3 rfl ?_
  refine w_iv [vi p0] [vi 0, vr w] l_316_4 rfl rfl rfl (Nat.le_of_ble_eq_true rfl) (by rw [mx_112]; exact Nat.le_of_ble_eq_true rfl) (by rw [mt_112]; exact oDropSwitch_sh o) (by rw [mt_112]; decide) (by rw [rk_112]; decide) (CL_mono sp fun r m1 hr => ?_)
  obtain ⟨I1, rfl, rfl, hP⟩ := hr
  show WX xs 316 2 4 [vr s, vi p0, vr w, vs 2] 0 (S, I1, T, cc - 1, zz - 6) _
  refine WX_h (h := (0, 9, 12, 25)) (k := 3) (h' := 13) (by decide +kernel) (by decide +kernel) ⟨Nat.le_of_ble_eq_true rfl, rfl⟩ ?_
  refine w_ic l_316_13 (by decide) ?_
  refine w_ir l_316_14 (Or.inl rfl) ?_
  exact ⟨I1, rfl, rfl, hP⟩

theorem mx_317 : mxl 317 = 4 := by decide +kernel
theorem mt_317 : mtc 317 = 99 := by decide +kernel
theorem rk_317 (as : List AV) : rkA 317 as = 2 := rfl
theorem l_317_0 : look 317 0 = some (.aload_n 2, 1, 0, 0, 0, 0) := by decide +kernel
theorem l_317_1 : look 317 1 = some (.iconst 0, 1, 0, 0, 0, 0) := by decide +kernel
theorem l_317_2 : look 317 2 = some (.aload_n 0, 1, 0, 0, 0, 0) := by decide +kernel
theorem l_317_3 : look 317 3 = some (.iload_n 1, 1, 0, 0, 0, 0) := by decide +kernel
theorem l_317_4 : look 317 4 = some (.invokevirtual 51, 3, 113, 2, 0, 1205) := by decide +kernel
theorem l_317_7 : look 317 7 = some (.i2l, 1, 0, 0, 0, 0) := by decide +kernel
theorem l_317_8 : look 317 8 = some (.lastore, 1, 0, 0, 0, 0) := by decide +kernel
theorem l_317_9 : look 317 9 = some (.goto 6, 3, 0, 0, 0, 0) := by decide +kernel
theorem l_317_12 : look 317 12 = some (.astore_n 3, 1, 0, 0, 0, 0) := by decide +kernel
theorem l_317_13 : look 317 13 = some (.iconst 1, 1, 0, 0, 0, 0) := by decide +kernel
theorem l_317_14 : look 317 14 = some (.ireturn, 1, 0, 0, 0, 0) := by decide +kernel
theorem l_317_15 : look 317 15 = some (.iconst 0, 1, 0, 0, 0, 0) := by decide +kernel
theorem l_317_16 : look 317 16 = some (.ireturn, 1, 0, 0, 0, 0) := by decide +kernel

theorem wk_317 (o : oDropSwitch S T s q y) (ho : S[w]? = some (2, 1)) {p0 : Int} {P : Int → Ix → (Nat → Nat → Nat) → Prop} (sp : CL xs 113 [vr s, vi p0] (S, I, T, cc, zz) (VP S cc zz P)) : CL xs 317 [vr s, vi p0, vr w] (S, I, T, cc, zz) (WV S w cc zz P) := by
  refine CL_start (r := 2) (ls := [vr s, vi p0, vr w, vs 2]) (rk_317 _) rfl ?_
  refine w_aln l_317_0 rfl ?_
  refine w_ic l_317_1 (by decide) ?_
  refine w_aln l_317_2 rfl ?_
  refine w_iln l_317_3 rfl ?_
  refine w_iv [vi p0] [vi 0, vr w] l_317_4 rfl rfl rfl (Nat.le_of_ble_eq_true rfl) (by rw [mx_113]; exact Nat.le_of_ble_eq_true rfl) (by rw [mt_113]; exact oDropSwitch_sh o) (by rw [mt_113]; decide) (by rw [rk_113]; decide) (CL_mono sp fun r m1 hr => ?_)
  obtain ⟨V, I1, T1, rfl, rfl, hP⟩ := hr
  show WP xs 317 2 (4 + 3) [vr s, vi p0, vr w, vs 2] [vi V, vi 0, vr w] (S, I1, T1, cc, zz) _
  refine w_i2l l_317_7 ?_
  refine w_lS 0 l_317_8 ho rfl (by decide) ?_
  refine w_go 15 l_317_9 (by decide) ?_
  refine w_ic l_317_15 (by decide) ?_
  refine w_ir l_317_16 (Or.inl rfl) ?_
  exact ⟨V, I1, T1, rfl, rfl, hP⟩

theorem wx_317_0 (o : oDropSwitch S T s q y) {p0 : Int} {P : Ix → Prop} (sp : CL xs 113 [vr s, vi p0] (S, I, T, cc, zz) (XP S T cc zz 0 P)) : CL xs 317 [vr s, vi p0, vr w] (S, I, T, cc, zz) (WXP S T cc zz 1 P) := by
  refine CL_start (r := 2) (ls := [vr s, vi p0, vr w, vs 2]) (rk_317 _) rfl ?_
  refine w_aln l_317_0 rfl ?_
  refine w_ic l_317_1 (by decide) ?_
  refine w_aln l_317_2 rfl ?_
  refine w_iln l_317_3 rfl ?_
  refine w_iv [vi p0] [vi 0, vr w] l_317_4 rfl rfl rfl (Nat.le_of_ble_eq_true rfl) (by rw [mx_113]; exact Nat.le_of_ble_eq_true rfl) (by rw [mt_113]; exact oDropSwitch_sh o) (by rw [mt_113]; decide) (by rw [rk_113]; decide) (CL_mono sp fun r m1 hr => ?_)
  obtain ⟨I1, rfl, rfl, hP⟩ := hr
  show WX xs 317 2 4 [vr s, vi p0, vr w, vs 2] 0 (S, I1, T, cc - 1, zz - 6) _
  refine WX_h (h := (0, 9, 12, 25)) (k := 3) (h' := 13) (by decide +kernel) (by decide +kernel) ⟨Nat.le_of_ble_eq_true rfl, rfl⟩ ?_
  refine w_ic l_317_13 (by decide) ?_
  refine w_ir l_317_14 (Or.inl rfl) ?_
  exact ⟨I1, rfl, rfl, hP⟩

theorem mx_318 : mxl 318 = 5 := by decide +kernel
theorem mt_318 : mtc 318 = 99 := by decide +kernel
theorem rk_318 (as : List AV) : rkA 318 as = 2 := rfl
theorem l_318_0 : look 318 0 = some (.aload_n 3, 1, 0, 0, 0, 0) := by decide +kernel
theorem l_318_1 : look 318 1 = some (.iconst 0, 1, 0, 0, 0, 0) := by decide +kernel
theorem l_318_2 : look 318 2 = some (.aload_n 0, 1, 0, 0, 0, 0) := by decide +kernel
theorem l_318_3 : look 318 3 = some (.iload_n 1, 1, 0, 0, 0, 0) := by decide +kernel
theorem l_318_4 : look 318 4 = some (.iload_n 2, 1, 0, 0, 0, 0) := by decide +kernel
theorem l_318_5 : look 318 5 = some (.invokevirtual 54, 3, 114, 3, 0, 1212) := by decide +kernel
theorem l_318_8 : look 318 8 = some (.i2l, 1, 0, 0, 0, 0) := by decide +kernel
theorem l_318_9 : look 318 9 = some (.lastore, 1, 0, 0, 0, 0) := by decide +kernel
theorem l_318_10 : look 318 10 = some (.goto 7, 3, 0, 0, 0, 0) := by decide +kernel
theorem l_318_13 : look 318 13 = some (.astore 4, 2, 0, 0, 0, 0) := by decide +kernel
theorem l_318_15 : look 318 15 = some (.iconst 1, 1, 0, 0, 0, 0) := by decide +kernel
theorem l_318_16 : look 318 16 = some (.ireturn, 1, 0, 0, 0, 0) := by decide +kernel
theorem l_318_17 : look 318 17 = some (.iconst 0, 1, 0, 0, 0, 0) := by decide +kernel
theorem l_318_18 : look 318 18 = some (.ireturn, 1, 0, 0, 0, 0) := by decide +kernel

theorem wk_318 (o : oDropSwitch S T s q y) (ho : S[w]? = some (2, 1)) {p0 p1 : Int} {P : Int → Ix → (Nat → Nat → Nat) → Prop} (sp : CL xs 114 [vr s, vi p0, vi p1] (S, I, T, cc, zz) (VP S cc zz P)) : CL xs 318 [vr s, vi p0, vi p1, vr w] (S, I, T, cc, zz) (WV S w cc zz P) := by
  refine CL_start (r := 2) (ls := [vr s, vi p0, vi p1, vr w, vs 2]) (rk_318 _) rfl ?_
  refine w_aln l_318_0 rfl ?_
  refine w_ic l_318_1 (by decide) ?_
  refine w_aln l_318_2 rfl ?_
  refine w_iln l_318_3 rfl ?_
  refine w_iln l_318_4 rfl ?_
  refine w_iv [vi p0, vi p1] [vi 0, vr w] l_318_5 rfl rfl rfl (Nat.le_of_ble_eq_true rfl) (by rw [mx_114]; exact Nat.le_of_ble_eq_true rfl) (by rw [mt_114]; exact oDropSwitch_sh o) (by rw [mt_114]; decide) (by rw [rk_114]; decide) (CL_mono sp fun r m1 hr => ?_)
  obtain ⟨V, I1, T1, rfl, rfl, hP⟩ := hr
  show WP xs 318 2 (5 + 3) [vr s, vi p0, vi p1, vr w, vs 2] [vi V, vi 0, vr w] (S, I1, T1, cc, zz) _
  refine w_i2l l_318_8 ?_
  refine w_lS 0 l_318_9 ho rfl (by decide) ?_
  refine w_go 17 l_318_10 (by decide) ?_
  refine w_ic l_318_17 (by decide) ?_
  refine w_ir l_318_18 (Or.inl rfl) ?_
  exact ⟨V, I1, T1, rfl, rfl, hP⟩

theorem wx_318_0 (o : oDropSwitch S T s q y) {p0 p1 : Int} {P : Ix → Prop} (sp : CL xs 114 [vr s, vi p0, vi p1] (S, I, T, cc, zz) (XP S T cc zz 0 P)) : CL xs 318 [vr s, vi p0, vi p1, vr w] (S, I, T, cc, zz) (WXP S T cc zz 1 P) := by
  refine CL_start (r := 2) (ls := [vr s, vi p0, vi p1, vr w, vs 2]) (rk_318 _) rfl ?_
  refine w_aln l_318_0 rfl ?_
  refine w_ic l_318_1 (by decide) ?_
  refine w_aln l_318_2 rfl ?_
  refine w_iln l_318_3 rfl ?_
  refine w_iln l_318_4 rfl ?_
  refine w_iv [vi p0, vi p1] [vi 0, vr w] l_318_5 rfl rfl rfl (Nat.le_of_ble_eq_true rfl) (by rw [mx_114]; exact Nat.le_of_ble_eq_true rfl) (by rw [mt_114]; exact oDropSwitch_sh o) (by rw [mt_114]; decide) (by rw [rk_114]; decide) (CL_mono sp fun r m1 hr => ?_)
  obtain ⟨I1, rfl, rfl, hP⟩ := hr
  show WX xs 318 2 5 [vr s, vi p0, vi p1, vr w, vs 2] 0 (S, I1, T, cc - 1, zz - 6) _
  refine WX_h (h := (0, 10, 13, 25)) (k := 4) (h' := 15) (by decide +kernel) (by decide +kernel) ⟨Nat.le_of_ble_eq_true rfl, rfl⟩ ?_
  refine w_ic l_318_15 (by decide) ?_
  refine w_ir l_318_16 (Or.inl rfl) ?_
  exact ⟨I1, rfl, rfl, hP⟩

theorem mx_319 : mxl 319 = 4 := by decide +kernel
theorem mt_319 : mtc 319 = 99 := by decide +kernel
theorem rk_319 (as : List AV) : rkA 319 as = 2 := rfl
theorem l_319_0 : look 319 0 = some (.aload_n 2, 1, 0, 0, 0, 0) := by decide +kernel
theorem l_319_1 : look 319 1 = some (.iconst 0, 1, 0, 0, 0, 0) := by decide +kernel
theorem l_319_2 : look 319 2 = some (.aload_n 0, 1, 0, 0, 0, 0) := by decide +kernel
theorem l_319_3 : look 319 3 = some (.iload_n 1, 1, 0, 0, 0, 0) := by decide +kernel
theorem l_319_4 : look 319 4 = some (.invokevirtual 58, 3, 115, 2, 0, 1220) := by decide +kernel
theorem l_319_7 : look 319 7 = some (.ifCond .eq 7, 3, 0, 0, 0, 0) := by decide +kernel
theorem l_319_10 : look 319 10 = some (.lconst 1, 1, 0, 0, 0, 0) := by decide +kernel
theorem l_319_11 : look 319 11 = some (.goto 4, 3, 0, 0, 0, 0) := by decide +kernel
theorem l_319_14 : look 319 14 = some (.lconst 0, 1, 0, 0, 0, 0) := by decide +kernel
theorem l_319_15 : look 319 15 = some (.lastore, 1, 0, 0, 0, 0) := by decide +kernel
theorem l_319_16 : look 319 16 = some (.goto 6, 3, 0, 0, 0, 0) := by decide +kernel
theorem l_319_19 : look 319 19 = some (.astore_n 3, 1, 0, 0, 0, 0) := by decide +kernel
theorem l_319_20 : look 319 20 = some (.iconst 1, 1, 0, 0, 0, 0) := by decide +kernel
theorem l_319_21 : look 319 21 = some (.ireturn, 1, 0, 0, 0, 0) := by decide +kernel
theorem l_319_22 : look 319 22 = some (.iconst 0, 1, 0, 0, 0, 0) := by decide +kernel
theorem l_319_23 : look 319 23 = some (.ireturn, 1, 0, 0, 0, 0) := by decide +kernel

theorem wk_319 (o : oDropSwitch S T s q y) (ho : S[w]? = some (2, 1)) {p0 : Int} {P : Int → Ix → (Nat → Nat → Nat) → Prop} (hV : ∀ V I1 T1, P V I1 T1 → V = 0 ∨ V = 1) (sp : CL xs 115 [vr s, vi p0] (S, I, T, cc, zz) (VP S cc zz P)) : CL xs 319 [vr s, vi p0, vr w] (S, I, T, cc, zz) (WV S w cc zz P) := by
  refine CL_start (r := 2) (ls := [vr s, vi p0, vr w, vs 2]) (rk_319 _) rfl ?_
  refine w_aln l_319_0 rfl ?_
  refine w_ic l_319_1 (by decide) ?_
  refine w_aln l_319_2 rfl ?_
  refine w_iln l_319_3 rfl ?_
  refine w_iv [vi p0] [vi 0, vr w] l_319_4 rfl rfl rfl (Nat.le_of_ble_eq_true rfl) (by rw [mx_115]; exact Nat.le_of_ble_eq_true rfl) (by rw [mt_115]; exact oDropSwitch_sh o) (by rw [mt_115]; decide) (by rw [rk_115]; decide) (CL_mono sp fun r m1 hr => ?_)
  obtain ⟨V, I1, T1, rfl, rfl, hP⟩ := hr
  show WP xs 319 2 (4 + 3) [vr s, vi p0, vr w, vs 2] [vi V, vi 0, vr w] (S, I1, T1, cc, zz) _
  refine w_zeq 14 l_319_7 (by decide) (fun h0 => ?_) (fun h0 => ?_)
  · refine w_lc l_319_14 ?_
    refine w_lS 0 l_319_15 ho rfl (by decide) ?_
    refine w_go 22 l_319_16 (by decide) ?_
    refine w_ic l_319_22 (by decide) ?_
    refine w_ir l_319_23 (Or.inl rfl) ?_
    exact ⟨V, I1, T1, rfl, by rw [h0]; rfl, hP⟩
  · refine w_lc l_319_10 ?_
    refine w_go 15 l_319_11 (by decide) ?_
    refine w_lS 0 l_319_15 ho rfl (by decide) ?_
    refine w_go 22 l_319_16 (by decide) ?_
    refine w_ic l_319_22 (by decide) ?_
    refine w_ir l_319_23 (Or.inl rfl) ?_
    have h1 : V = 1 := (hV V I1 T1 hP).resolve_left h0
    exact ⟨V, I1, T1, rfl, by rw [h1]; rfl, hP⟩

theorem wx_319_0 (o : oDropSwitch S T s q y) {p0 : Int} {P : Ix → Prop} (sp : CL xs 115 [vr s, vi p0] (S, I, T, cc, zz) (XP S T cc zz 0 P)) : CL xs 319 [vr s, vi p0, vr w] (S, I, T, cc, zz) (WXP S T cc zz 1 P) := by
  refine CL_start (r := 2) (ls := [vr s, vi p0, vr w, vs 2]) (rk_319 _) rfl ?_
  refine w_aln l_319_0 rfl ?_
  refine w_ic l_319_1 (by decide) ?_
  refine w_aln l_319_2 rfl ?_
  refine w_iln l_319_3 rfl ?_
  refine w_iv [vi p0] [vi 0, vr w] l_319_4 rfl rfl rfl (Nat.le_of_ble_eq_true rfl) (by rw [mx_115]; exact Nat.le_of_ble_eq_true rfl) (by rw [mt_115]; exact oDropSwitch_sh o) (by rw [mt_115]; decide) (by rw [rk_115]; decide) (CL_mono sp fun r m1 hr => ?_)
  obtain ⟨I1, rfl, rfl, hP⟩ := hr
  show WX xs 319 2 4 [vr s, vi p0, vr w, vs 2] 0 (S, I1, T, cc - 1, zz - 6) _
  refine WX_h (h := (0, 16, 19, 25)) (k := 3) (h' := 20) (by decide +kernel) (by decide +kernel) ⟨Nat.le_of_ble_eq_true rfl, rfl⟩ ?_
  refine w_ic l_319_20 (by decide) ?_
  refine w_ir l_319_21 (Or.inl rfl) ?_
  exact ⟨I1, rfl, rfl, hP⟩

theorem mx_320 : mxl 320 = 4 := by decide +kernel
theorem mt_320 : mtc 320 = 99 := by decide +kernel
theorem rk_320 (as : List AV) : rkA 320 as = 2 := rfl
theorem l_320_0 : look 320 0 = some (.aload_n 2, 1, 0, 0, 0, 0) := by decide +kernel
theorem l_320_1 : look 320 1 = some (.iconst 0, 1, 0, 0, 0, 0) := by decide +kernel
theorem l_320_2 : look 320 2 = some (.aload_n 0, 1, 0, 0, 0, 0) := by decide +kernel
theorem l_320_3 : look 320 3 = some (.iload_n 1, 1, 0, 0, 0, 0) := by decide +kernel
theorem l_320_4 : look 320 4 = some (.invokevirtual 62, 3, 116, 2, 0, 1228) := by decide +kernel
theorem l_320_7 : look 320 7 = some (.i2l, 1, 0, 0, 0, 0) := by decide +kernel
theorem l_320_8 : look 320 8 = some (.lastore, 1, 0, 0, 0, 0) := by decide +kernel
theorem l_320_9 : look 320 9 = some (.goto 6, 3, 0, 0, 0, 0) := by decide +kernel
theorem l_320_12 : look 320 12 = some (.astore_n 3, 1, 0, 0, 0, 0) := by decide +kernel
theorem l_320_13 : look 320 13 = some (.iconst 1, 1, 0, 0, 0, 0) := by decide +kernel
theorem l_320_14 : look 320 14 = some (.ireturn, 1, 0, 0, 0, 0) := by decide +kernel
theorem l_320_15 : look 320 15 = some (.iconst 0, 1, 0, 0, 0, 0) := by decide +kernel
theorem l_320_16 : look 320 16 = some (.ireturn, 1, 0, 0, 0, 0) := by decide +kernel

theorem wk_320 (o : oDropSwitch S T s q y) (ho : S[w]? = some (2, 1)) {p0 : Int} {P : Int → Ix → (Nat → Nat → Nat) → Prop} (sp : CL xs 116 [vr s, vi p0] (S, I, T, cc, zz) (VP S cc zz P)) : CL xs 320 [vr s, vi p0, vr w] (S, I, T, cc, zz) (WV S w cc zz P) := by
  refine CL_start (r := 2) (ls := [vr s, vi p0, vr w, vs 2]) (rk_320 _) rfl ?_
  refine w_aln l_320_0 rfl ?_
  refine w_ic l_320_1 (by decide) ?_
  refine w_aln l_320_2 rfl ?_
  refine w_iln l_320_3 rfl ?_
  refine w_iv [vi p0] [vi 0, vr w] l_320_4 rfl rfl rfl (Nat.le_of_ble_eq_true rfl) (by rw [mx_116]; exact Nat.le_of_ble_eq_true rfl) (by rw [mt_116]; exact oDropSwitch_sh o) (by rw [mt_116]; decide) (by rw [rk_116]; decide) (CL_mono sp fun r m1 hr => ?_)
  obtain ⟨V, I1, T1, rfl, rfl, hP⟩ := hr
  show WP xs 320 2 (4 + 3) [vr s, vi p0, vr w, vs 2] [vi V, vi 0, vr w] (S, I1, T1, cc, zz) _
  refine w_i2l l_320_7 ?_
  refine w_lS 0 l_320_8 ho rfl (by decide) ?_
  refine w_go 15 l_320_9 (by decide) ?_
  refine w_ic l_320_15 (by decide) ?_
  refine w_ir l_320_16 (Or.inl rfl) ?_
  exact ⟨V, I1, T1, rfl, rfl, hP⟩

theorem wx_320_0 (o : oDropSwitch S T s q y) {p0 : Int} {P : Ix → Prop} (sp : CL xs 116 [vr s, vi p0] (S, I, T, cc, zz) (XP S T cc zz 0 P)) : CL xs 320 [vr s, vi p0, vr w] (S, I, T, cc, zz) (WXP S T cc zz 1 P) := by
  refine CL_start (r := 2) (ls := [vr s, vi p0, vr w, vs 2]) (rk_320 _) rfl ?_
  refine w_aln l_320_0 rfl ?_
  refine w_ic l_320_1 (by decide) ?_
  refine w_aln l_320_2 rfl ?_
  refine w_iln l_320_3 rfl ?_
  refine w_iv [vi p0] [vi 0, vr w] l_320_4 rfl rfl rfl (Nat.le_of_ble_eq_true rfl) (by rw [mx_116]; exact Nat.le_of_ble_eq_true rfl) (by rw [mt_116]; exact oDropSwitch_sh o) (by rw [mt_116]; decide) (by rw [rk_116]; decide) (CL_mono sp fun r m1 hr => ?_)
  obtain ⟨I1, rfl, rfl, hP⟩ := hr
  show WX xs 320 2 4 [vr s, vi p0, vr w, vs 2] 0 (S, I1, T, cc - 1, zz - 6) _
  refine WX_h (h := (0, 9, 12, 25)) (k := 3) (h' := 13) (by decide +kernel) (by decide +kernel) ⟨Nat.le_of_ble_eq_true rfl, rfl⟩ ?_
  refine w_ic l_320_13 (by decide) ?_
  refine w_ir l_320_14 (Or.inl rfl) ?_
  exact ⟨I1, rfl, rfl, hP⟩

theorem mx_321 : mxl 321 = 4 := by decide +kernel
theorem mt_321 : mtc 321 = 99 := by decide +kernel
theorem rk_321 (as : List AV) : rkA 321 as = 2 := rfl
theorem l_321_0 : look 321 0 = some (.aload_n 2, 1, 0, 0, 0, 0) := by decide +kernel
theorem l_321_1 : look 321 1 = some (.iconst 0, 1, 0, 0, 0, 0) := by decide +kernel
theorem l_321_2 : look 321 2 = some (.aload_n 0, 1, 0, 0, 0, 0) := by decide +kernel
theorem l_321_3 : look 321 3 = some (.iload_n 1, 1, 0, 0, 0, 0) := by decide +kernel
theorem l_321_4 : look 321 4 = some (.invokevirtual 65, 3, 117, 2, 0, 1236) := by decide +kernel
theorem l_321_7 : look 321 7 = some (.i2l, 1, 0, 0, 0, 0) := by decide +kernel
theorem l_321_8 : look 321 8 = some (.lastore, 1, 0, 0, 0, 0) := by decide +kernel
theorem l_321_9 : look 321 9 = some (.goto 6, 3, 0, 0, 0, 0) := by decide +kernel
theorem l_321_12 : look 321 12 = some (.astore_n 3, 1, 0, 0, 0, 0) := by decide +kernel
theorem l_321_13 : look 321 13 = some (.iconst 1, 1, 0, 0, 0, 0) := by decide +kernel
theorem l_321_14 : look 321 14 = some (.ireturn, 1, 0, 0, 0, 0) := by decide +kernel
theorem l_321_15 : look 321 15 = some (.iconst 0, 1, 0, 0, 0, 0) := by decide +kernel
theorem l_321_16 : look 321 16 = some (.ireturn, 1, 0, 0, 0, 0) := by decide +kernel

theorem wk_321 (o : oDropSwitch S T s q y) (ho : S[w]? = some (2, 1)) {p0 : Int} {P : Int → Ix → (Nat → Nat → Nat) → Prop} (sp : CL xs 117 [vr s, vi p0] (S, I, T, cc, zz) (VP S cc zz P)) : CL xs 321 [vr s, vi p0, vr w] (S, I, T, cc, zz) (WV S w cc zz P) := by
  refine CL_start (r := 2) (ls := [vr s, vi p0, vr w, vs 2]) (rk_321 _) rfl ?_
  refine w_aln l_321_0 rfl ?_
  refine w_ic l_321_1 (by decide) ?_
  refine w_aln l_321_2 rfl ?_
  refine w_iln l_321_3 rfl ?_
  refine w_iv [vi p0] [vi 0, vr w] l_321_4 rfl rfl rfl (Nat.le_of_ble_eq_true rfl) (by rw [mx_117]; exact Nat.le_of_ble_eq_true rfl) (by rw [mt_117]; exact oDropSwitch_sh o) (by rw [mt_117]; decide) (by rw [rk_117]; decide) (CL_mono sp fun r m1 hr => ?_)
  obtain ⟨V, I1, T1, rfl, rfl, hP⟩ := hr
  show WP xs 321 2 (4 + 3) [vr s, vi p0, vr w, vs 2] [vi V, vi 0, vr w] (S, I1, T1, cc, zz) _
  refine w_i2l l_321_7 ?_
  refine w_lS 0 l_321_8 ho rfl (by decide) ?_
  refine w_go 15 l_321_9 (by decide) ?_
  refine w_ic l_321_15 (by decide) ?_
  refine w_ir l_321_16 (Or.inl rfl) ?_
  exact ⟨V, I1, T1, rfl, rfl, hP⟩

theorem wx_321_1 (o : oDropSwitch S T s q y) {p0 : Int} {P : Ix → Prop} (sp : CL xs 117 [vr s, vi p0] (S, I, T, cc, zz) (XP S T cc zz 1 P)) : CL xs 321 [vr s, vi p0, vr w] (S, I, T, cc, zz) (WXP S T cc zz 1 P) := by
  refine CL_start (r := 2) (ls := [vr s, vi p0, vr w, vs 2]) (rk_321 _) rfl ?_
  refine w_aln l_321_0 rfl ?_
  refine w_ic l_321_1 (by decide) ?_
  refine w_aln l_321_2 rfl ?_
  refine w_iln l_321_3 rfl ?_
  refine w_iv [vi p0] [vi 0, vr w] l_321_4 rfl rfl rfl (Nat.le_of_ble_eq_true rfl) (by rw [mx_117]; exact Nat.le_of_ble_eq_true rfl) (by rw [mt_117]; exact oDropSwitch_sh o) (by rw [mt_117]; decide) (by rw [rk_117]; decide) (CL_mono sp fun r m1 hr => ?_)
  obtain ⟨I1, rfl, rfl, hP⟩ := hr
  show WX xs 321 2 4 [vr s, vi p0, vr w, vs 2] 1 (S, I1, T, cc - 1, zz - 6) _
  refine WX_h (h := (0, 9, 12, 13)) (k := 3) (h' := 13) (by decide +kernel) (by decide +kernel) ⟨Nat.le_of_ble_eq_true rfl, rfl⟩ ?_
  refine w_ic l_321_13 (by decide) ?_
  refine w_ir l_321_14 (Or.inl rfl) ?_
  exact ⟨I1, rfl, rfl, hP⟩

theorem mx_322 : mxl 322 = 4 := by decide +kernel
theorem mt_322 : mtc 322 = 99 := by decide +kernel
theorem rk_322 (as : List AV) : rkA 322 as = 2 := rfl
theorem l_322_0 : look 322 0 = some (.aload_n 2, 1, 0, 0, 0, 0) := by decide +kernel
theorem l_322_1 : look 322 1 = some (.iconst 0, 1, 0, 0, 0, 0) := by decide +kernel
theorem l_322_2 : look 322 2 = some (.aload_n 0, 1, 0, 0, 0, 0) := by decide +kernel
theorem l_322_3 : look 322 3 = some (.iload_n 1, 1, 0, 0, 0, 0) := by decide +kernel
theorem l_322_4 : look 322 4 = some (.invokevirtual 68, 3, 119, 2, 0, 1243) := by decide +kernel
theorem l_322_7 : look 322 7 = some (.i2l, 1, 0, 0, 0, 0) := by decide +kernel
theorem l_322_8 : look 322 8 = some (.lastore, 1, 0, 0, 0, 0) := by decide +kernel
theorem l_322_9 : look 322 9 = some (.goto 6, 3, 0, 0, 0, 0) := by decide +kernel
theorem l_322_12 : look 322 12 = some (.astore_n 3, 1, 0, 0, 0, 0) := by decide +kernel
theorem l_322_13 : look 322 13 = some (.iconst 1, 1, 0, 0, 0, 0) := by decide +kernel
theorem l_322_14 : look 322 14 = some (.ireturn, 1, 0, 0, 0, 0) := by decide +kernel
theorem l_322_15 : look 322 15 = some (.iconst 0, 1, 0, 0, 0, 0) := by decide +kernel
theorem l_322_16 : look 322 16 = some (.ireturn, 1, 0, 0, 0, 0) := by decide +kernel

theorem wk_322 (o : oDropSwitch S T s q y) (ho : S[w]? = some (2, 1)) {p0 : Int} {P : Int → Ix → (Nat → Nat → Nat) → Prop} (sp : CL xs 119 [vr s, vi p0] (S, I, T, cc, zz) (VP S cc zz P)) : CL xs 322 [vr s, vi p0, vr w] (S, I, T, cc, zz) (WV S w cc zz P) := by
  refine CL_start (r := 2) (ls := [vr s, vi p0, vr w, vs 2]) (rk_322 _) rfl ?_
  refine w_aln l_322_0 rfl ?_
  refine w_ic l_322_1 (by decide) ?_
  refine w_aln l_322_2 rfl ?_
  refine w_iln l_322_3 rfl ?_
  refine w_iv [vi p0] [vi 0, vr w] l_322_4 rfl rfl rfl (Nat.le_of_ble_eq_true rfl) (by rw [mx_119]; exact Nat.le_of_ble_eq_true rfl) (by rw [mt_119]; exact oDropSwitch_sh o) (by rw [mt_119]; decide) (by rw [rk_119]; decide) (CL_mono sp fun r m1 hr => ?_)
  obtain ⟨V, I1, T1, rfl, rfl, hP⟩ := hr
  show WP xs 322 2 (4 + 3) [vr s, vi p0, vr w, vs 2] [vi V, vi 0, vr w] (S, I1, T1, cc, zz) _
  refine w_i2l l_322_7 ?_
  refine w_lS 0 l_322_8 ho rfl (by decide) ?_
  refine w_go 15 l_322_9 (by decide) ?_
  refine w_ic l_322_15 (by decide) ?_
  refine w_ir l_322_16 (Or.inl rfl) ?_
  exact ⟨V, I1, T1, rfl, rfl, hP⟩

theorem wx_322_0 (o : oDropSwitch S T s q y) {p0 : Int} {P : Ix → Prop} (sp : CL xs 119 [vr s, vi p0] (S, I, T, cc, zz) (XP S T cc zz 0 P)) : CL xs 322 [vr s, vi p0, vr w] (S, I, T, cc, zz) (WXP S T cc zz 1 P) := by
  refine CL_start (r := 2) (ls := [vr s, vi p0, vr w, vs 2]) (rk_322 _) rfl ?_
  refine w_aln l_322_0 rfl ?_
  refine w_ic l_322_1 (by decide) ?_
  refine w_aln l_322_2 rfl ?_
  refine w_iln l_322_3 rfl ?_
  refine w_iv [vi p0] [vi 0, vr w] l_322_4 rfl rfl rfl (Nat.le_of_ble_eq_true rfl) (by rw [mx_119]; exact Nat.le_of_ble_eq_true rfl) (by rw [mt_119]; exact oDropSwitch_sh o) (by rw [mt_119]; decide) (by rw [rk_119]; decide) (CL_mono sp fun r m1 hr => ?_)
  obtain ⟨I1, rfl, rfl, hP⟩ := hr
  show WX xs 322 2 4 [vr s, vi p0, vr w, vs 2] 0 (S, I1, T, cc - 1, zz - 6) _
  refine WX_h (h := (0, 9, 12, 25)) (k := 3) (h' := 13) (by decide +kernel) (by decide +kernel) ⟨Nat.le_of_ble_eq_true rfl, rfl⟩ ?_
  refine w_ic l_322_13 (by decide) ?_
  refine w_ir l_322_14 (Or.inl rfl) ?_
  exact ⟨I1, rfl, rfl, hP⟩

theorem mx_323 : mxl 323 = 5 := by decide +kernel
theorem mt_323 : mtc 323 = 99 := by decide +kernel
theorem rk_323 (as : List AV) : rkA 323 as = 2 := rfl
theorem l_323_0 : look 323 0 = some (.aload_n 3, 1, 0, 0, 0, 0) := by decide +kernel
theorem l_323_1 : look 323 1 = some (.iconst 0, 1, 0, 0, 0, 0) := by decide +kernel
theorem l_323_2 : look 323 2 = some (.aload_n 0, 1, 0, 0, 0, 0) := by decide +kernel
theorem l_323_3 : look 323 3 = some (.iload_n 1, 1, 0, 0, 0, 0) := by decide +kernel
theorem l_323_4 : look 323 4 = some (.iload_n 2, 1, 0, 0, 0, 0) := by decide +kernel
theorem l_323_5 : look 323 5 = some (.invokevirtual 71, 3, 120, 3, 0, 1250) := by decide +kernel
theorem l_323_8 : look 323 8 = some (.i2l, 1, 0, 0, 0, 0) := by decide +kernel
theorem l_323_9 : look 323 9 = some (.lastore, 1, 0, 0, 0, 0) := by decide +kernel
theorem l_323_10 : look 323 10 = some (.goto 7, 3, 0, 0, 0, 0) := by decide +kernel
theorem l_323_13 : look 323 13 = some (.astore 4, 2, 0, 0, 0, 0) := by decide +kernel
theorem l_323_15 : look 323 15 = some (.iconst 1, 1, 0, 0, 0, 0) := by decide +kernel
theorem l_323_16 : look 323 16 = some (.ireturn, 1, 0, 0, 0, 0) := by decide +kernel
theorem l_323_17 : look 323 17 = some (.iconst 0, 1, 0, 0, 0, 0) := by decide +kernel
theorem l_323_18 : look 323 18 = some (.ireturn, 1, 0, 0, 0, 0) := by decide +kernel

theorem wk_323 (o : oDropSwitch S T s q y) (ho : S[w]? = some (2, 1)) {p0 p1 : Int} {P : Int → Ix → (Nat → Nat → Nat) → Prop} (sp : CL xs 120 [vr s, vi p0, vi p1] (S, I, T, cc, zz) (VP S cc zz P)) : CL xs 323 [vr s, vi p0, vi p1, vr w] (S, I, T, cc, zz) (WV S w cc zz P) := by
  refine CL_start (r := 2) (ls := [vr s, vi p0, vi p1, vr w, vs 2]) (rk_323 _) rfl ?_
  refine w_aln l_323_0 rfl ?_
  refine w_ic l_323_1 (by decide) ?_
  refine w_aln l_323_2 rfl ?_
  refine w_iln l_323_3 rfl ?_
  refine w_iln l_323_4 rfl ?_
  refine w_iv [vi p0, vi p1] [vi 0, vr w] l_323_5 rfl rfl rfl (Nat.le_of_ble_eq_true rfl) (by rw [mx_120]; exact Nat.le_of_ble_eq_true rfl) (by rw [mt_120]; exact oDropSwitch_sh o) (by rw [mt_120]; decide) (by rw [rk_120]; decide) (CL_mono sp fun r m1 hr => ?_)
  obtain ⟨V, I1, T1, rfl, rfl, hP⟩ := hr
  show WP xs 323 2 (5 + 3) [vr s, vi p0, vi p1, vr w, vs 2] [vi V, vi 0, vr w] (S, I1, T1, cc, zz) _
  refine w_i2l l_323_8 ?_
  refine w_lS 0 l_323_9 ho rfl (by decide) ?_
  refine w_go 17 l_323_10 (by decide) ?_
  refine w_ic l_323_17 (by decide) ?_
  refine w_ir l_323_18 (Or.inl rfl) ?_
  exact ⟨V, I1, T1, rfl, rfl, hP⟩

theorem wx_323_0 (o : oDropSwitch S T s q y) {p0 p1 : Int} {P : Ix → Prop} (sp : CL xs 120 [vr s, vi p0, vi p1] (S, I, T, cc, zz) (XP S T cc zz 0 P)) : CL xs 323 [vr s, vi p0, vi p1, vr w] (S, I, T, cc, zz) (WXP S T cc zz 1 P) := by
  refine CL_start (r := 2) (ls := [vr s, vi p0, vi p1, vr w, vs 2]) (rk_323 _) rfl ?_
  refine w_aln l_323_0 rfl ?_
  refine w_ic l_323_1 (by decide) ?_
  refine w_aln l_323_2 rfl ?_
  refine w_iln l_323_3 rfl ?_
  refine w_iln l_323_4 rfl ?_
  refine w_iv [vi p0, vi p1] [vi 0, vr w] l_323_5 rfl rfl rfl (Nat.le_of_ble_eq_true rfl) (by rw [mx_120]; exact Nat.le_of_ble_eq_true rfl) (by rw [mt_120]; exact oDropSwitch_sh o) (by rw [mt_120]; decide) (by rw [rk_120]; decide) (CL_mono sp fun r m1 hr => ?_)
  obtain ⟨I1, rfl, rfl, hP⟩ := hr
  show WX xs 323 2 5 [vr s, vi p0, vi p1, vr w, vs 2] 0 (S, I1, T, cc - 1, zz - 6) _
  refine WX_h (h := (0, 10, 13, 25)) (k := 4) (h' := 15) (by decide +kernel) (by decide +kernel) ⟨Nat.le_of_ble_eq_true rfl, rfl⟩ ?_
  refine w_ic l_323_15 (by decide) ?_
  refine w_ir l_323_16 (Or.inl rfl) ?_
  exact ⟨I1, rfl, rfl, hP⟩

theorem mx_324 : mxl 324 = 5 := by decide +kernel
theorem mt_324 : mtc 324 = 99 := by decide +kernel
theorem rk_324 (as : List AV) : rkA 324 as = 2 := rfl
theorem l_324_0 : look 324 0 = some (.aload_n 3, 1, 0, 0, 0, 0) := by decide +kernel
theorem l_324_1 : look 324 1 = some (.iconst 0, 1, 0, 0, 0, 0) := by decide +kernel
theorem l_324_2 : look 324 2 = some (.aload_n 0, 1, 0, 0, 0, 0) := by decide +kernel
theorem l_324_3 : look 324 3 = some (.iload_n 1, 1, 0, 0, 0, 0) := by decide +kernel
theorem l_324_4 : look 324 4 = some (.iload_n 2, 1, 0, 0, 0, 0) := by decide +kernel
theorem l_324_5 : look 324 5 = some (.invokevirtual 74, 3, 121, 3, 0, 1258) := by decide +kernel
theorem l_324_8 : look 324 8 = some (.i2l, 1, 0, 0, 0, 0) := by decide +kernel
theorem l_324_9 : look 324 9 = some (.lastore, 1, 0, 0, 0, 0) := by decide +kernel
theorem l_324_10 : look 324 10 = some (.goto 11, 3, 0, 0, 0, 0) := by decide +kernel
theorem l_324_13 : look 324 13 = some (.astore 4, 2, 0, 0, 0, 0) := by decide +kernel
theorem l_324_15 : look 324 15 = some (.iconst 1, 1, 0, 0, 0, 0) := by decide +kernel
theorem l_324_16 : look 324 16 = some (.ireturn, 1, 0, 0, 0, 0) := by decide +kernel
theorem l_324_17 : look 324 17 = some (.astore 4, 2, 0, 0, 0, 0) := by decide +kernel
theorem l_324_19 : look 324 19 = some (.iconst 2, 1, 0, 0, 0, 0) := by decide +kernel
theorem l_324_20 : look 324 20 = some (.ireturn, 1, 0, 0, 0, 0) := by decide +kernel
theorem l_324_21 : look 324 21 = some (.iconst 0, 1, 0, 0, 0, 0) := by decide +kernel
theorem l_324_22 : look 324 22 = some (.ireturn, 1, 0, 0, 0, 0) := by decide +kernel

theorem wk_324 (o : oDropSwitch S T s q y) (ho : S[w]? = some (2, 1)) {p0 p1 : Int} {P : Int → Ix → (Nat → Nat → Nat) → Prop} (sp : CL xs 121 [vr s, vi p0, vi p1] (S, I, T, cc, zz) (VP S cc zz P)) : CL xs 324 [vr s, vi p0, vi p1, vr w] (S, I, T, cc, zz) (WV S w cc zz P) := by
  refine CL_start (r := 2) (ls := [vr s, vi p0, vi p1, vr w, vs 2]) (rk_324 _) rfl ?_
  refine w_aln l_324_0 rfl ?_
  refine w_ic l_324_1 (by decide) ?_
  refine w_aln l_324_2 rfl ?_
  refine w_iln l_324_3 rfl ?_
  refine w_iln l_324_4 rfl ?_
  refine w_iv [vi p0, vi p1] [vi 0, vr w] l_324_5 rfl rfl rfl (Nat.le_of_ble_eq_true rfl) (by rw [mx_121]; exact Nat.le_of_ble_eq_true rfl) (by rw [mt_121]; exact oDropSwitch_sh o) (by rw [mt_121]; decide) (by rw [rk_121]; decide) (CL_mono sp fun r m1 hr => ?_)
  obtain ⟨V, I1, T1, rfl, rfl, hP⟩ := hr
  show WP xs 324 2 (5 + 3) [vr s, vi p0, vi p1, vr w, vs 2] [vi V, vi 0, vr w] (S, I1, T1, cc, zz) _
  refine w_i2l l_324_8 ?_
  refine w_lS 0 l_324_9 ho rfl (by decide) ?_
  refine w_go 21 l_324_10 (by decide) ?_
  refine w_ic l_324_21 (by decide) ?_
  refine w_ir l_324_22 (Or.inl rfl) ?_
  exact ⟨V, I1, T1, rfl, rfl, hP⟩

theorem wx_324_0 (o : oDropSwitch S T s q y) {p0 p1 : Int} {P : Ix → Prop} (sp : CL xs 121 [vr s, vi p0, vi p1] (S, I, T, cc, zz) (XP S T cc zz 0 P)) : CL xs 324 [vr s, vi p0, vi p1, vr w] (S, I, T, cc, zz) (WXP S T cc zz 1 P) := by
  refine CL_start (r := 2) (ls := [vr s, vi p0, vi p1, vr w, vs 2]) (rk_324 _) rfl ?_
  refine w_aln l_324_0 rfl ?_
  refine w_ic l_324_1 (by decide) ?_
  refine w_aln l_324_2 rfl ?_
  refine w_iln l_324_3 rfl ?_
  refine w_iln l_324_4 rfl ?_
  refine w_iv [vi p0, vi p1] [vi 0, vr w] l_324_5 rfl rfl rfl (Nat.le_of_ble_eq_true rfl) (by rw [mx_121]; exact Nat.le_of_ble_eq_true rfl) (by rw [mt_121]; exact oDropSwitch_sh o) (by rw [mt_121]; decide) (by rw [rk_121]; decide) (CL_mono sp fun r m1 hr => ?_)
  obtain ⟨I1, rfl, rfl, hP⟩ := hr
  show WX xs 324 2 5 [vr s, vi p0, vi p1, vr w, vs 2] 0 (S, I1, T, cc - 1, zz - 6) _
  refine WX_h (h := (0, 10, 13, 25)) (k := 4) (h' := 15) (by decide +kernel) (by decide +kernel) ⟨Nat.le_of_ble_eq_true rfl, rfl⟩ ?_
  refine w_ic l_324_15 (by decide) ?_
  refine w_ir l_324_16 (Or.inl rfl) ?_
  exact ⟨I1, rfl, rfl, hP⟩

theorem wx_324_3 (o : oDropSwitch S T s q y) {p0 p1 : Int} {P : Ix → Prop} (sp : CL xs 121 [vr s, vi p0, vi p1] (S, I, T, cc, zz) (XP S T cc zz 3 P)) : CL xs 324 [vr s, vi p0, vi p1, vr w] (S, I, T, cc, zz) (WXP S T cc zz 2 P) := by
  refine CL_start (r := 2) (ls := [vr s, vi p0, vi p1, vr w, vs 2]) (rk_324 _) rfl ?_
  refine w_aln l_324_0 rfl ?_
  refine w_ic l_324_1 (by decide) ?_
  refine w_aln l_324_2 rfl ?_
  refine w_iln l_324_3 rfl ?_
  refine w_iln l_324_4 rfl ?_
  refine w_iv [vi p0, vi p1] [vi 0, vr w] l_324_5 rfl rfl rfl (Nat.le_of_ble_eq_true rfl) (by rw [mx_121]; exact Nat.le_of_ble_eq_true rfl) (by rw [mt_121]; exact oDropSwitch_sh o) (by rw [mt_121]; decide) (by rw [rk_121]; decide) (CL_mono sp fun r m1 hr => ?_)
  obtain ⟨I1, rfl, rfl, hP⟩ := hr
  show WX xs 324 2 5 [vr s, vi p0, vi p1, vr w, vs 2] 3 (S, I1, T, cc - 1, zz - 6) _
  refine WX_h (h := (0, 10, 17, 19)) (k := 4) (h' := 19) (by decide +kernel) (by decide +kernel) ⟨Nat.le_of_ble_eq_true rfl, rfl⟩ ?_
  refine w_ic l_324_19 (by decide) ?_
  refine w_ir l_324_20 (Or.inl rfl) ?_
  exact ⟨I1, rfl, rfl, hP⟩

theorem mx_325 : mxl 325 = 4 := by decide +kernel
theorem mt_325 : mtc 325 = 99 := by decide +kernel
theorem rk_325 (as : List AV) : rkA 325 as = 2 := rfl
theorem l_325_0 : look 325 0 = some (.aload_n 2, 1, 0, 0, 0, 0) := by decide +kernel
theorem l_325_1 : look 325 1 = some (.iconst 0, 1, 0, 0, 0, 0) := by decide +kernel
theorem l_325_2 : look 325 2 = some (.aload_n 0, 1, 0, 0, 0, 0) := by decide +kernel
theorem l_325_3 : look 325 3 = some (.iload_n 1, 1, 0, 0, 0, 0) := by decide +kernel
theorem l_325_4 : look 325 4 = some (.invokevirtual 77, 3, 122, 2, 0, 1270) := by decide +kernel
theorem l_325_7 : look 325 7 = some (.i2l, 1, 0, 0, 0, 0) := by decide +kernel
theorem l_325_8 : look 325 8 = some (.lastore, 1, 0, 0, 0, 0) := by decide +kernel
theorem l_325_9 : look 325 9 = some (.goto 6, 3, 0, 0, 0, 0) := by decide +kernel
theorem l_325_12 : look 325 12 = some (.astore_n 3, 1, 0, 0, 0, 0) := by decide +kernel
theorem l_325_13 : look 325 13 = some (.iconst 1, 1, 0, 0, 0, 0) := by decide +kernel
theorem l_325_14 : look 325 14 = some (.ireturn, 1, 0, 0, 0, 0) := by decide +kernel
theorem l_325_15 : look 325 15 = some (.iconst 0, 1, 0, 0, 0, 0) := by decide +kernel
theorem l_325_16 : look 325 16 = some (.ireturn, 1, 0, 0, 0, 0) := by decide +kernel

theorem wk_325 (o : oDropSwitch S T s q y) (ho : S[w]? = some (2, 1)) {p0 : Int} {P : Int → Ix → (Nat → Nat → Nat) → Prop} (sp : CL xs 122 [vr s, vi p0] (S, I, T, cc, zz) (VP S cc zz P)) : CL xs 325 [vr s, vi p0, vr w] (S, I, T, cc, zz) (WV S w cc zz P) := by
  refine CL_start (r := 2) (ls := [vr s, vi p0, vr w, vs 2]) (rk_325 _) rfl ?_
  refine w_aln l_325_0 rfl ?_
  refine w_ic l_325_1 (by decide) ?_
  refine w_aln l_325_2 rfl ?_
  refine w_iln l_325_3 rfl ?_
  refine w_iv [vi p0] [vi 0, vr w] l_325_4 rfl rfl rfl (Nat.le_of_ble_eq_true rfl) (by rw [mx_122]; exact Nat.le_of_ble_eq_true rfl) (by rw [mt_122]; exact oDropSwitch_sh o) (by rw [mt_122]; decide) (by rw [rk_122]; decide) (CL_mono sp fun r m1 hr => ?_)
  obtain ⟨V, I1, T1, rfl, rfl, hP⟩ := hr
  show WP xs 325 2 (4 + 3) [vr s, vi p0, vr w, vs 2] [vi V, vi 0, vr w] (S, I1, T1, cc, zz) _
  refine w_i2l l_325_7 ?_
  refine w_lS 0 l_325_8 ho rfl (by decide) ?_
  refine w_go 15 l_325_9 (by decide) ?_
  refine w_ic l_325_15 (by decide) ?_
  refine w_ir l_325_16 (Or.inl rfl) ?_
  exact ⟨V, I1, T1, rfl, rfl, hP⟩

theorem wx_325_0 (o : oDropSwitch S T s q y) {p0 : Int} {P : Ix → Prop} (sp : CL xs 122 [vr s, vi p0] (S, I, T, cc, zz) (XP S T cc zz 0 P)) : CL xs 325 [vr s, vi p0, vr w] (S, I, T, cc, zz) (WXP S T cc zz 1 P) := by
  refine CL_start (r := 2) (ls := [vr s, vi p0, vr w, vs 2]) (rk_325 _) rfl ?_
  refine w_aln l_325_0 rfl ?_
  refine w_ic l_325_1 (by decide) ?_
  refine w_aln l_325_2 rfl ?_
  refine w_iln l_325_3 rfl ?_
  refine w_iv [vi p0] [vi 0, vr w] l_325_4 rfl rfl rfl (Nat.le_of_ble_eq_true rfl) (by rw [mx_122]; exact Nat.le_of_ble_eq_true rfl) (by rw [mt_122]; exact oDropSwitch_sh o) (by rw [mt_122]; decide) (by rw [rk_122]; decide) (CL_mono sp fun r m1 hr => ?_)
  obtain ⟨I1, rfl, rfl, hP⟩ := hr
  show WX xs 325 2 4 [vr s, vi p0, vr w, vs 2] 0 (S, I1, T, cc - 1, zz - 6) _
  refine WX_h (h := (0, 9, 12, 25)) (k := 3) (h' := 13) (by decide +kernel) (by decide +kernel) ⟨Nat.le_of_ble_eq_true rfl, rfl⟩ ?_
  refine w_ic l_325_13 (by decide) ?_
  refine w_ir l_325_14 (Or.inl rfl) ?_
  exact ⟨I1, rfl, rfl, hP⟩

theorem mx_326 : mxl 326 = 4 := by decide +kernel
theorem mt_326 : mtc 326 = 99 := by decide +kernel
theorem rk_326 (as : List AV) : rkA 326 as = 3 := rfl
theorem l_326_0 : look 326 0 = some (.aload_n 2, 1, 0, 0, 0, 0) := by decide +kernel
theorem l_326_1 : look 326 1 = some (.iconst 0, 1, 0, 0, 0, 0) := by decide +kernel
theorem l_326_2 : look 326 2 = some (.aload_n 0, 1, 0, 0, 0, 0) := by decide +kernel
theorem l_326_3 : look 326 3 = some (.iload_n 1, 1, 0, 0, 0, 0) := by decide +kernel
theorem l_326_4 : look 326 4 = some (.invokevirtual 80, 3, 123, 2, 0, 1277) := by decide +kernel
theorem l_326_7 : look 326 7 = some (.i2l, 1, 0, 0, 0, 0) := by decide +kernel
theorem l_326_8 : look 326 8 = some (.lastore, 1, 0, 0, 0, 0) := by decide +kernel
theorem l_326_9 : look 326 9 = some (.goto 6, 3, 0, 0, 0, 0) := by decide +kernel
theorem l_326_12 : look 326 12 = some (.astore_n 3, 1, 0, 0, 0, 0) := by decide +kernel
theorem l_326_13 : look 326 13 = some (.iconst 1, 1, 0, 0, 0, 0) := by decide +kernel
theorem l_326_14 : look 326 14 = some (.ireturn, 1, 0, 0, 0, 0) := by decide +kernel
theorem l_326_15 : look 326 15 = some (.iconst 0, 1, 0, 0, 0, 0) := by decide +kernel
theorem l_326_16 : look 326 16 = some (.ireturn, 1, 0, 0, 0, 0) := by decide +kernel

theorem wk_326 (o : oDropSwitch S T s q y) (ho : S[w]? = some (2, 1)) {p0 : Int} {P : Int → Ix → (Nat → Nat → Nat) → Prop} (sp : CL xs 123 [vr s, vi p0] (S, I, T, cc, zz) (VP S cc zz P)) : CL xs 326 [vr s, vi p0, vr w] (S, I, T, cc, zz) (WV S w cc zz P) := by
  refine CL_start (r := 3) (ls := [vr s, vi p0, vr w, vs 2]) (rk_326 _) rfl ?_
  refine w_aln l_326_0 rfl ?_
  refine w_ic l_326_1 (by decide) ?_
  refine w_aln l_326_2 rfl ?_
  refine w_iln l_326_3 rfl ?_
  refine w_iv [vi p0] [vi 0, vr w] l_326_4 rfl rfl rfl (Nat.le_of_ble_eq_true rfl) (by rw [mx_123]; exact Nat.le_of_ble_eq_true rfl) (by rw [mt_123]; exact oDropSwitch_sh o) (by rw [mt_123]; decide) (by rw [rk_123]; decide) (CL_mono sp fun r m1 hr => ?_)
  obtain ⟨V, I1, T1, rfl, rfl, hP⟩ := hr
  show WP xs 326 3 (4 + 3) [vr s, vi p0, vr w, vs 2] [vi V, vi 0, vr w] (S, I1, T1, cc, zz) _
  refine w_i2l l_326_7 ?_
  refine w_lS 0 l_326_8 ho rfl (by decide) ?_
  refine w_go 15 l_326_9 (by decide) ?_
  refine w_ic l_326_15 (by decide) ?_
  refine w_ir l_326_16 (Or.inl rfl) ?_
  exact ⟨V, I1, T1, rfl, rfl, hP⟩

theorem wx_326_1 (o : oDropSwitch S T s q y) {p0 : Int} {P : Ix → Prop} (sp : CL xs 123 [vr s, vi p0] (S, I, T, cc, zz) (XP S T cc zz 1 P)) : CL xs 326 [vr s, vi p0, vr w] (S, I, T, cc, zz) (WXP S T cc zz 1 P) := by
  refine CL_start (r := 3) (ls := [vr s, vi p0, vr w, vs 2]) (rk_326 _) rfl ?_
  refine w_aln l_326_0 rfl ?_
  refine w_ic l_326_1 (by decide) ?_
  refine w_aln l_326_2 rfl ?_
  refine w_iln l_326_3 rfl ?_
  refine w_iv [vi p0] [vi 0, vr w] l_326_4 rfl rfl rfl (Nat.le_of_ble_eq_true rfl) (by rw [mx_123]; exact Nat.le_of_ble_eq_true rfl) (by rw [mt_123]; exact oDropSwitch_sh o) (by rw [mt_123]; decide) (by rw [rk_123]; decide) (CL_mono sp fun r m1 hr => ?_)
  obtain ⟨I1, rfl, rfl, hP⟩ := hr
  show WX xs 326 3 4 [vr s, vi p0, vr w, vs 2] 1 (S, I1, T, cc - 1, zz - 6) _
  refine WX_h (h := (0, 9, 12, 13)) (k := 3) (h' := 13) (by decide +kernel) (by decide +kernel) ⟨Nat.le_of_ble_eq_true rfl, rfl⟩ ?_
  refine w_ic l_326_13 (by decide) ?_
  refine w_ir l_326_14 (Or.inl rfl) ?_
  exact ⟨I1, rfl, rfl, hP⟩

theorem mx_327 : mxl 327 = 4 := by decide +kernel
theorem mt_327 : mtc 327 = 99 := by decide +kernel
theorem rk_327 (as : List AV) : rkA 327 as = 3 := rfl
theorem l_327_0 : look 327 0 = some (.aload_n 2, 1, 0, 0, 0, 0) := by decide +kernel
theorem l_327_1 : look 327 1 = some (.iconst 0, 1, 0, 0, 0, 0) := by decide +kernel
theorem l_327_2 : look 327 2 = some (.aload_n 0, 1, 0, 0, 0, 0) := by decide +kernel
theorem l_327_3 : look 327 3 = some (.iload_n 1, 1, 0, 0, 0, 0) := by decide +kernel
theorem l_327_4 : look 327 4 = some (.invokevirtual 83, 3, 124, 2, 0, 1292) := by decide +kernel
theorem l_327_7 : look 327 7 = some (.i2l, 1, 0, 0, 0, 0) := by decide +kernel
theorem l_327_8 : look 327 8 = some (.lastore, 1, 0, 0, 0, 0) := by decide +kernel
theorem l_327_9 : look 327 9 = some (.goto 6, 3, 0, 0, 0, 0) := by decide +kernel
theorem l_327_12 : look 327 12 = some (.astore_n 3, 1, 0, 0, 0, 0) := by decide +kernel
theorem l_327_13 : look 327 13 = some (.iconst 1, 1, 0, 0, 0, 0) := by decide +kernel
theorem l_327_14 : look 327 14 = some (.ireturn, 1, 0, 0, 0, 0) := by decide +kernel
theorem l_327_15 : look 327 15 = some (.iconst 0, 1, 0, 0, 0, 0) := by decide +kernel
theorem l_327_16 : look 327 16 = some (.ireturn, 1, 0, 0, 0, 0) := by decide +kernel

theorem wk_327 (o : oDropSwitch S T s q y) (ho : S[w]? = some (2, 1)) {p0 : Int} {P : Int → Ix → (Nat → Nat → Nat) → Prop} (sp : CL xs 124 [vr s, vi p0] (S, I, T, cc, zz) (VP S cc zz P)) : CL xs 327 [vr s, vi p0, vr w] (S, I, T, cc, zz) (WV S w cc zz P) := by
  refine CL_start (r := 3) (ls := [vr s, vi p0, vr w, vs 2]) (rk_327 _) rfl ?_
  refine w_aln l_327_0 rfl ?_
  refine w_ic l_327_1 (by decide) ?_
  refine w_aln l_327_2 rfl ?_
  refine w_iln l_327_3 rfl ?_
  refine w_iv [vi p0] [vi 0, vr w] l_327_4 rfl rfl rfl (Nat.le_of_ble_eq_true rfl) (by rw [mx_124]; exact Nat.le_of_ble_eq_true rfl) (by rw [mt_124]; exact oDropSwitch_sh o) (by rw [mt_124]; decide) (by rw [rk_124]; decide) (CL_mono sp fun r m1 hr => ?_)
  obtain ⟨V, I1, T1, rfl, rfl, hP⟩ := hr
  show WP xs 327 3 (4 + 3) [vr s, vi p0, vr w, vs 2] [vi V, vi 0, vr w] (S, I1, T1, cc, zz) _
  refine w_i2l l_327_7 ?_
  refine w_lS 0 l_327_8 ho rfl (by decide) ?_
  refine w_go 15 l_327_9 (by decide) ?_
  refine w_ic l_327_15 (by decide) ?_
  refine w_ir l_327_16 (Or.inl rfl) ?_
  exact ⟨V, I1, T1, rfl, rfl, hP⟩

theorem wx_327_0 (o : oDropSwitch S T s q y) {p0 : Int} {P : Ix → Prop} (sp : CL xs 124 [vr s, vi p0] (S, I, T, cc, zz) (XP S T cc zz 0 P)) : CL xs 327 [vr s, vi p0, vr w] (S, I, T, cc, zz) (WXP S T cc zz 1 P) := by
  refine CL_start (r := 3) (ls := [vr s, vi p0, vr w, vs 2]) (rk_327 _) rfl ?_
  refine w_aln l_327_0 rfl ?_
  refine w_ic l_327_1 (by decide) ?_
  refine w_aln l_327_2 rfl ?_
  refine w_iln l_327_3 rfl ?_
  refine w_iv [vi p0] [vi 0, vr w] l_327_4 rfl rfl rfl (Nat.le_of_ble_eq_true rfl) (by rw [mx_124]; exact Nat.le_of_ble_eq_true rfl) (by rw [mt_124]; exact oDropSwitch_sh o) (by rw [mt_124]; decide) (by rw [rk_124]; decide) (CL_mono sp fun r m1 hr => ?_)
  obtain ⟨I1, rfl, rfl, hP⟩ := hr
  show WX xs 327 3 4 [vr s, vi p0, vr w, vs 2] 0 (S, I1, T, cc - 1, zz - 6) _
  refine WX_h (h := (0, 9, 12, 25)) (k := 3) (h' := 13) (by decide +kernel) (by decide +kernel) ⟨Nat.le_of_ble_eq_true rfl, rfl⟩ ?_
  refine w_ic l_327_13 (by decide) ?_
  refine w_ir l_327_14 (Or.inl rfl) ?_
  exact ⟨I1, rfl, rfl, hP⟩

theorem mx_328 : mxl 328 = 4 := by decide +kernel
theorem mt_328 : mtc 328 = 99 := by decide +kernel
theorem rk_328 (as : List AV) : rkA 328 as = 3 := rfl
theorem l_328_0 : look 328 0 = some (.aload_n 2, 1, 0, 0, 0, 0) := by decide +kernel
theorem l_328_1 : look 328 1 = some (.iconst 0, 1, 0, 0, 0, 0) := by decide +kernel
theorem l_328_2 : look 328 2 = some (.aload_n 0, 1, 0, 0, 0, 0) := by decide +kernel
theorem l_328_3 : look 328 3 = some (.iload_n 1, 1, 0, 0, 0, 0) := by decide +kernel
theorem l_328_4 : look 328 4 = some (.invokevirtual 86, 3, 125, 2, 0, 1307) := by decide +kernel
theorem l_328_7 : look 328 7 = some (.i2l, 1, 0, 0, 0, 0) := by decide +kernel
theorem l_328_8 : look 328 8 = some (.lastore, 1, 0, 0, 0, 0) := by decide +kernel
theorem l_328_9 : look 328 9 = some (.goto 6, 3, 0, 0, 0, 0) := by decide +kernel
theorem l_328_12 : look 328 12 = some (.astore_n 3, 1, 0, 0, 0, 0) := by decide +kernel
theorem l_328_13 : look 328 13 = some (.iconst 1, 1, 0, 0, 0, 0) := by decide +kernel
theorem l_328_14 : look 328 14 = some (.ireturn, 1, 0, 0, 0, 0) := by decide +kernel
theorem l_328_15 : look 328 15 = some (.iconst 0, 1, 0, 0, 0, 0) := by decide +kernel
theorem l_328_16 : look 328 16 = some (.ireturn, 1, 0, 0, 0, 0) := by decide +kernel

theorem wk_328 (o : oDropSwitch S T s q y) (ho : S[w]? = some (2, 1)) {p0 : Int} {P : Int → Ix → (Nat → Nat → Nat) → Prop} (sp : CL xs 125 [vr s, vi p0] (S, I, T, cc, zz) (VP S cc zz P)) : CL xs 328 [vr s, vi p0, vr w] (S, I, T, cc, zz) (WV S w cc zz P) := by
  refine CL_start (r := 3) (ls := [vr s, vi p0, vr w, vs 2]) (rk_328 _) rfl ?_
  refine w_aln l_328_0 rfl ?_
  refine w_ic l_328_1 (by decide) ?_
  refine w_aln l_328_2 rfl ?_
  refine w_iln l_328_3 rfl ?_
  refine w_iv [vi p0] [vi 0, vr w] l_328_4 rfl rfl rfl (Nat.le_of_ble_eq_true rfl) (by rw [mx_125]; exact Nat.le_of_ble_eq_true rfl) (by rw [mt_125]; exact oDropSwitch_sh o) (by rw [mt_125]; decide) (by rw [rk_125]; decide) (CL_mono sp fun r m1 hr => ?_)
  obtain ⟨V, I1, T1, rfl, rfl, hP⟩ := hr
  show WP xs 328 3 (4 + 3) [vr s, vi p0, vr w, vs 2] [vi V, vi 0, vr w] (S, I1, T1, cc, zz) _
  refine w_i2l l_328_7 ?_
  refine w_lS 0 l_328_8 ho rfl (by decide) ?_
  refine w_go 15 l_328_9 (by decide) ?_
  refine w_ic l_328_15 (by decide) ?_
  refine w_ir l_328_16 (Or.inl rfl) ?_
  exact ⟨V, I1, T1, rfl, rfl, hP⟩

theorem wx_328_0 (o : oDropSwitch S T s q y) {p0 : Int} {P : Ix → Prop} (sp : CL xs 125 [vr s, vi p0] (S, I, T, cc, zz) (XP S T cc zz 0 P)) : CL xs 328 [vr s, vi p0, vr w] (S, I, T, cc, zz) (WXP S T cc zz 1 P) := by
  refine CL_start (r := 3) (ls := [vr s, vi p0, vr w, vs 2]) (rk_328 _) rfl ?_
  refine w_aln l_328_0 rfl ?_
  refine w_ic l_328_1 (by decide) ?_
  refine w_aln l_328_2 rfl ?_
  refine w_iln l_328_3 rfl ?_
  refine w_iv [vi p0] [vi 0, vr w] l_328_4 rfl rfl rfl (Nat.le_of_ble_eq_true rfl) (by rw [mx_125]; exact Nat.le_of_ble_eq_true rfl) (by rw [mt_125]; exact oDropSwitch_sh o) (by rw [mt_125]; decide) (by rw [rk_125]; decide) (CL_mono sp fun r m1 hr => ?_)
  obtain ⟨I1, rfl, rfl, hP⟩ := hr
  show WX xs 328 3 4 [vr s, vi p0, vr w, vs 2] 0 (S, I1, T, cc - 1, zz - 6) _
  refine WX_h (h := (0, 9, 12, 25)) (k := 3) (h' := 13) (by decide +kernel) (by decide +kernel) ⟨Nat.le_of_ble_eq_true rfl, rfl⟩ ?_
  refine w_ic l_328_13 (by decide) ?_
  refine w_ir l_328_14 (Or.inl rfl) ?_
  exact ⟨I1, rfl, rfl, hP⟩

theorem mx_329 : mxl 329 = 4 := by decide +kernel
theorem mt_329 : mtc 329 = 99 := by decide +kernel
theorem rk_329 (as : List AV) : rkA 329 as = 2 := rfl
theorem l_329_0 : look 329 0 = some (.aload_n 2, 1, 0, 0, 0, 0) := by decide +kernel
theorem l_329_1 : look 329 1 = some (.iconst 0, 1, 0, 0, 0, 0) := by decide +kernel
theorem l_329_2 : look 329 2 = some (.aload_n 0, 1, 0, 0, 0, 0) := by decide +kernel
theorem l_329_3 : look 329 3 = some (.iload_n 1, 1, 0, 0, 0, 0) := by decide +kernel
theorem l_329_4 : look 329 4 = some (.invokevirtual 89, 3, 127, 2, 0, 1314) := by decide +kernel
theorem l_329_7 : look 329 7 = some (.i2l, 1, 0, 0, 0, 0) := by decide +kernel
theorem l_329_8 : look 329 8 = some (.lastore, 1, 0, 0, 0, 0) := by decide +kernel
theorem l_329_9 : look 329 9 = some (.goto 6, 3, 0, 0, 0, 0) := by decide +kernel
theorem l_329_12 : look 329 12 = some (.astore_n 3, 1, 0, 0, 0, 0) := by decide +kernel
theorem l_329_13 : look 329 13 = some (.iconst 1, 1, 0, 0, 0, 0) := by decide +kernel
theorem l_329_14 : look 329 14 = some (.ireturn, 1, 0, 0, 0, 0) := by decide +kernel
theorem l_329_15 : look 329 15 = some (.iconst 0, 1, 0, 0, 0, 0) := by decide +kernel
theorem l_329_16 : look 329 16 = some (.ireturn, 1, 0, 0, 0, 0) := by decide +kernel

theorem wk_329 (o : oDropSwitch S T s q y) (ho : S[w]? = some (2, 1)) {p0 : Int} {P : Int → Ix → (Nat → Nat → Nat) → Prop} (sp : CL xs 127 [vr s, vi p0] (S, I, T, cc, zz) (VP S cc zz P)) : CL xs 329 [vr s, vi p0, vr w] (S, I, T, cc, zz) (WV S w cc zz P) := by
  refine CL_start (r := 2) (ls := [vr s, vi p0, vr w, vs 2]) (rk_329 _) rfl ?_
  refine w_aln l_329_0 rfl ?_
  refine w_ic l_329_1 (by decide) ?_
  refine w_aln l_329_2 rfl ?_
  refine w_iln l_329_3 rfl ?_
  refine w_iv [vi p0] [vi 0, vr w] l_329_4 rfl rfl rfl (Nat.le_of_ble_eq_true rfl) (by rw [mx_127]; exact Nat.le_of_ble_eq_true rfl) (by rw [mt_127]; exact oDropSwitch_sh o) (by rw [mt_127]; decide) (by rw [rk_127]; decide) (CL_mono sp fun r m1 hr => ?_)
  obtain ⟨V, I1, T1, rfl, rfl, hP⟩ := hr
  show WP xs 329 2 (4 + 3) [vr s, vi p0, vr w, vs 2] [vi V, vi 0, vr w] (S, I1, T1, cc, zz) _
  refine w_i2l l_329_7 ?_
  refine w_lS 0 l_329_8 ho rfl (by decide) ?_
  refine w_go 15 l_329_9 (by decide) ?_
  refine w_ic l_329_15 (by decide) ?_
  refine w_ir l_329_16 (Or.inl rfl) ?_
  exact ⟨V, I1, T1, rfl, rfl, hP⟩

theorem wx_329_0 (o : oDropSwitch S T s q y) {p0 : Int} {P : Ix → Prop} (sp : CL xs 127 [vr s, vi p0] (S, I, T, cc, zz) (XP S T cc zz 0 P)) : CL xs 329 [vr s, vi p0, vr w] (S, I, T, cc, zz) (WXP S T cc zz 1 P) := by
  refine CL_start (r := 2) (ls := [vr s, vi p0, vr w, vs 2]) (rk_329 _) rfl ?_
  refine w_aln l_329_0 rfl ?_
  refine w_ic l_329_1 (by decide) ?_
  refine w_aln l_329_2 rfl ?_
  refine w_iln l_329_3 rfl ?_
  refine w_iv [vi p0] [vi 0, vr w] l_329_4 rfl rfl rfl (Nat.le_of_ble_eq_true rfl) (by rw [mx_127]; exact Nat.le_of_ble_eq_true rfl) (by rw [mt_127]; exact oDropSwitch_sh o) (by rw [mt_127]; decide) (by rw [rk_127]; decide) (CL_mono sp fun r m1 hr => ?_)
  obtain ⟨I1, rfl, rfl, hP⟩ := hr
  show WX xs 329 2 4 [vr s, vi p0, vr w, vs 2] 0 (S, I1, T, cc - 1, zz - 6) _
  refine WX_h (h := (0, 9, 12, 25)) (k := 3) (h' := 13) (by decide +kernel) (by decide +kernel) ⟨Nat.le_of_ble_eq_true rfl, rfl⟩ ?_
  refine w_ic l_329_13 (by decide) ?_
  refine w_ir l_329_14 (Or.inl rfl) ?_
  exact ⟨I1, rfl, rfl, hP⟩

theorem mx_330 : mxl 330 = 5 := by decide +kernel
theorem mt_330 : mtc 330 = 99 := by decide +kernel
theorem rk_330 (as : List AV) : rkA 330 as = 7 := rfl
theorem l_330_0 : look 330 0 = some (.aload_n 3, 1, 0, 0, 0, 0) := by decide +kernel
theorem l_330_1 : look 330 1 = some (.iconst 0, 1, 0, 0, 0, 0) := by decide +kernel
theorem l_330_2 : look 330 2 = some (.aload_n 0, 1, 0, 0, 0, 0) := by decide +kernel
theorem l_330_3 : look 330 3 = some (.iload_n 1, 1, 0, 0, 0, 0) := by decide +kernel
theorem l_330_4 : look 330 4 = some (.iload_n 2, 1, 0, 0, 0, 0) := by decide +kernel
theorem l_330_5 : look 330 5 = some (.invokevirtual 92, 3, 128, 3, 0, 1330) := by decide +kernel
theorem l_330_8 : look 330 8 = some (.i2l, 1, 0, 0, 0, 0) := by decide +kernel
theorem l_330_9 : look 330 9 = some (.lastore, 1, 0, 0, 0, 0) := by decide +kernel
theorem l_330_10 : look 330 10 = some (.goto 7, 3, 0, 0, 0, 0) := by decide +kernel
theorem l_330_13 : look 330 13 = some (.astore 4, 2, 0, 0, 0, 0) := by decide +kernel
theorem l_330_15 : look 330 15 = some (.iconst 1, 1, 0, 0, 0, 0) := by decide +kernel
theorem l_330_16 : look 330 16 = some (.ireturn, 1, 0, 0, 0, 0) := by decide +kernel
theorem l_330_17 : look 330 17 = some (.iconst 0, 1, 0, 0, 0, 0) := by decide +kernel
theorem l_330_18 : look 330 18 = some (.ireturn, 1, 0, 0, 0, 0) := by decide +kernel

theorem wk_330 (o : oDropSwitch S T s q y) (ho : S[w]? = some (2, 1)) {p0 p1 : Int} {P : Int → Ix → (Nat → Nat → Nat) → Prop} (sp : CL xs 128 [vr s, vi p0, vi p1] (S, I, T, cc, zz) (VP S cc zz P)) : CL xs 330 [vr s, vi p0, vi p1, vr w] (S, I, T, cc, zz) (WV S w cc zz P) := by
  refine CL_start (r := 7) (ls := [vr s, vi p0, vi p1, vr w, vs 2]) (rk_330 _) rfl ?_
  refine w_aln l_330_0 rfl ?_
  refine w_ic l_330_1 (by decide) ?_
  refine w_aln l_330_2 rfl ?_
  refine w_iln l_330_3 rfl ?_
  refine w_iln l_330_4 rfl ?_
  refine w_iv [vi p0, vi p1] [vi 0, vr w] l_330_5 rfl rfl rfl (Nat.le_of_ble_eq_true rfl) (by rw [mx_128]; exact Nat.le_of_ble_eq_true rfl) (by rw [mt_128]; exact oDropSwitch_sh o) (by rw [mt_128]; decide) (by rw [rk_128]; decide) (CL_mono sp fun r m1 hr => ?_)
  obtain ⟨V, I1, T1, rfl, rfl, hP⟩ := hr
  show WP xs 330 7 (5 + 3) [vr s, vi p0, vi p1, vr w, vs 2] [vi V, vi 0, vr w] (S, I1, T1, cc, zz) _
  refine w_i2l l_330_8 ?_
  refine w_lS 0 l_330_9 ho rfl (by decide) ?_
  refine w_go 17 l_330_10 (by decide) ?_
  refine w_ic l_330_17 (by decide) ?_
  refine w_ir l_330_18 (Or.inl rfl) ?_
  exact ⟨V, I1, T1, rfl, rfl, hP⟩

theorem wx_330_0 (o : oDropSwitch S T s q y) {p0 p1 : Int} {P : Ix → Prop} (sp : CL xs 128 [vr s, vi p0, vi p1] (S, I, T, cc, zz) (XP S T cc zz 0 P)) : CL xs 330 [vr s, vi p0, vi p1, vr w] (S, I, T, cc, zz) (WXP S T cc zz 1 P) := by
  refine CL_start (r := 7) (ls := [vr s, vi p0, vi p1, vr w, vs 2]) (rk_330 _) rfl ?_
  refine w_aln l_330_0 rfl ?_
  refine w_ic l_330_1 (by decide) ?_
  refine w_aln l_330_2 rfl ?_
  refine w_iln l_330_3 rfl ?_
  refine w_iln l_330_4 rfl ?_
  refine w_iv [vi p0, vi p1] [vi 0, vr w] l_330_5 rfl rfl rfl (Nat.le_of_ble_eq_true rfl) (by rw [mx_128]; exact Nat.le_of_ble_eq_true rfl) (by rw [mt_128]; exact oDropSwitch_sh o) (by rw [mt_128]; decide) (by rw [rk_128]; decide) (CL_mono sp fun r m1 hr => ?_)
  obtain ⟨I1, rfl, rfl, hP⟩ := hr
  show WX xs 330 7 5 [vr s, vi p0, vi p1, vr w, vs 2] 0 (S, I1, T, cc - 1, zz - 6) _
  refine WX_h (h := (0, 10, 13, 25)) (k := 4) (h' := 15) (by decide +kernel) (by decide +kernel) ⟨Nat.le_of_ble_eq_true rfl, rfl⟩ ?_
  refine w_ic l_330_15 (by decide) ?_
  refine w_ir l_330_16 (Or.inl rfl) ?_
  exact ⟨I1, rfl, rfl, hP⟩

theorem mx_331 : mxl 331 = 5 := by decide +kernel
theorem mt_331 : mtc 331 = 99 := by decide +kernel
theorem rk_331 (as : List AV) : rkA 331 as = 7 := rfl
theorem l_331_0 : look 331 0 = some (.aload_n 3, 1, 0, 0, 0, 0) := by decide +kernel
theorem l_331_1 : look 331 1 = some (.iconst 0, 1, 0, 0, 0, 0) := by decide +kernel
theorem l_331_2 : look 331 2 = some (.aload_n 0, 1, 0, 0, 0, 0) := by decide +kernel
theorem l_331_3 : look 331 3 = some (.iload_n 1, 1, 0, 0, 0, 0) := by decide +kernel
theorem l_331_4 : look 331 4 = some (.iload_n 2, 1, 0, 0, 0, 0) := by decide +kernel
theorem l_331_5 : look 331 5 = some (.invokevirtual 95, 3, 129, 3, 0, 1346) := by decide +kernel
theorem l_331_8 : look 331 8 = some (.i2l, 1, 0, 0, 0, 0) := by decide +kernel
theorem l_331_9 : look 331 9 = some (.lastore, 1, 0, 0, 0, 0) := by decide +kernel
theorem l_331_10 : look 331 10 = some (.goto 11, 3, 0, 0, 0, 0) := by decide +kernel
theorem l_331_13 : look 331 13 = some (.astore 4, 2, 0, 0, 0, 0) := by decide +kernel
theorem l_331_15 : look 331 15 = some (.iconst 1, 1, 0, 0, 0, 0) := by decide +kernel
theorem l_331_16 : look 331 16 = some (.ireturn, 1, 0, 0, 0, 0) := by decide +kernel
theorem l_331_17 : look 331 17 = some (.astore 4, 2, 0, 0, 0, 0) := by decide +kernel
theorem l_331_19 : look 331 19 = some (.iconst 2, 1, 0, 0, 0, 0) := by decide +kernel
theorem l_331_20 : look 331 20 = some (.ireturn, 1, 0, 0, 0, 0) := by decide +kernel
theorem l_331_21 : look 331 21 = some (.iconst 0, 1, 0, 0, 0, 0) := by decide +kernel
theorem l_331_22 : look 331 22 = some (.ireturn, 1, 0, 0, 0, 0) := by decide +kernel

theorem wk_331 (o : oDropSwitch S T s q y) (ho : S[w]? = some (2, 1)) {p0 p1 : Int} {P : Int → Ix → (Nat → Nat → Nat) → Prop} (sp : CL xs 129 [vr s, vi p0, vi p1] (S, I, T, cc, zz) (VP S cc zz P)) : CL xs 331 [vr s, vi p0, vi p1, vr w] (S, I, T, cc, zz) (WV S w cc zz P) := by
  refine CL_start (r := 7) (ls := [vr s, vi p0, vi p1, vr w, vs 2]) (rk_331 _) rfl ?_
  refine w_aln l_331_0 rfl ?_
  refine w_ic l_331_1 (by decide) ?_
  refine w_aln l_331_2 rfl ?_
  refine w_iln l_331_3 rfl ?_
  refine w_iln l_331_4 rfl ?_
  refine w_iv [vi p0, vi p1] [vi 0, vr w] l_331_5 rfl rfl rfl (Nat.le_of_ble_eq_true rfl) (by rw [mx_129]; exact Nat.le_of_ble_eq_true rfl) (by rw [mt_129]; exact oDropSwitch_sh o) (by rw [mt_129]; decide) (by rw [rk_129]; decide) (CL_mono sp fun r m1 hr => ?_)
  obtain ⟨V, I1, T1, rfl, rfl, hP⟩ := hr
  show WP xs 331 7 (5 + 3) [vr s, vi p0, vi p1, vr w, vs 2] [vi V, vi 0, vr w] (S, I1, T1, cc, zz) _
  refine w_i2l l_331_8 ?_
  refine w_lS 0 l_331_9 ho rfl (by decide) ?_
  refine w_go 21 l_331_10 (by decide) ?_
  refine w_ic l_331_21 (by decide) ?_
  refine w_ir l_331_22 (Or.inl rfl) ?_
  exact ⟨V, I1, T1, rfl, rfl, hP⟩

theorem wx_331_0 (o : oDropSwitch S T s q y) {p0 p1 : Int} {P : Ix → Prop} (sp : CL xs 129 [vr s, vi p0, vi p1] (S, I, T, cc, zz) (XP S T cc zz 0 P)) : CL xs 331 [vr s, vi p0, vi p1, vr w] (S, I, T, cc, zz) (WXP S T cc zz 1 P) := by
  refine CL_start (r := 7) (ls := [vr s, vi p0, vi p1, vr w, vs 2]) (rk_331 _) rfl ?_
  refine w_aln l_331_0 rfl ?_
  refine w_ic l_331_1 (by decide) ?_
  refine w_aln l_331_2 rfl ?_
  refine w_iln l_331_3 rfl ?_
  refine w_iln l_331_4 rfl ?_
  refine w_iv [vi p0, vi p1] [vi 0, vr w] l_331_5 rfl rfl rfl (Nat.le_of_ble_eq_true rfl) (by rw [mx_129]; exact Nat.le_of_ble_eq_true rfl) (by rw [mt_129]; exact oDropSwitch_sh o) (by rw [mt_129]; decide) (by rw [rk_129]; decide) (CL_mono sp fun r m1 hr => ?_)
  obtain ⟨I1, rfl, rfl, hP⟩ := hr
  show WX xs 331 7 5 [vr s, vi p0, vi p1, vr w, vs 2] 0 (S, I1, T, cc - 1, zz - 6) _
  refine WX_h (h := (0, 10, 13, 25)) (k := 4) (h' := 15) (by decide +kernel) (by decide +kernel) ⟨Nat.le_of_ble_eq_true rfl, rfl⟩ ?_
  refine w_ic l_331_15 (by decide) ?_
  refine w_ir l_331_16 (Or.inl rfl) ?_
  exact ⟨I1, rfl, rfl, hP⟩

theorem wx_331_1 (o : oDropSwitch S T s q y) {p0 p1 : Int} {P : Ix → Prop} (sp : CL xs 129 [vr s, vi p0, vi p1] (S, I, T, cc, zz) (XP S T cc zz 1 P)) : CL xs 331 [vr s, vi p0, vi p1, vr w] (S, I, T, cc, zz) (WXP S T cc zz 2 P) := by
  refine CL_start (r := 7) (ls := [vr s, vi p0, vi p1, vr w, vs 2]) (rk_331 _) rfl ?_
  refine w_aln l_331_0 rfl ?_
  refine w_ic l_331_1 (by decide) ?_
  refine w_aln l_331_2 rfl ?_
  refine w_iln l_331_3 rfl ?_
  refine w_iln l_331_4 rfl ?_
  refine w_iv [vi p0, vi p1] [vi 0, vr w] l_331_5 rfl rfl rfl (Nat.le_of_ble_eq_true rfl) (by rw [mx_129]; exact Nat.le_of_ble_eq_true rfl) (by rw [mt_129]; exact oDropSwitch_sh o) (by rw [mt_129]; decide) (by rw [rk_129]; decide) (CL_mono sp fun r m1 hr => ?_)
  obtain ⟨I1, rfl, rfl, hP⟩ := hr
  show WX xs 331 7 5 [vr s, vi p0, vi p1, vr w, vs 2] 1 (S, I1, T, cc - 1, zz - 6) _
  refine WX_h (h := (0, 10, 17, 13)) (k := 4) (h' := 19) (by decide +kernel) (by decide +kernel) ⟨Nat.le_of_ble_eq_true rfl, rfl⟩ ?_
  refine w_ic l_331_19 (by decide) ?_
  refine w_ir l_331_20 (Or.inl rfl) ?_
  exact ⟨I1, rfl, rfl, hP⟩

theorem mx_332 : mxl 332 = 4 := by decide +kernel
theorem mt_332 : mtc 332 = 99 := by decide +kernel
theorem rk_332 (as : List AV) : rkA 332 as = 2 := rfl
theorem l_332_0 : look 332 0 = some (.aload_n 2, 1, 0, 0, 0, 0) := by decide +kernel
theorem l_332_1 : look 332 1 = some (.iconst 0, 1, 0, 0, 0, 0) := by decide +kernel
theorem l_332_2 : look 332 2 = some (.aload_n 0, 1, 0, 0, 0, 0) := by decide +kernel
theorem l_332_3 : look 332 3 = some (.iload_n 1, 1, 0, 0, 0, 0) := by decide +kernel
theorem l_332_4 : look 332 4 = some (.invokevirtual 98, 3, 130, 2, 0, 1353) := by decide +kernel
theorem l_332_7 : look 332 7 = some (.i2l, 1, 0, 0, 0, 0) := by decide +kernel
theorem l_332_8 : look 332 8 = some (.lastore, 1, 0, 0, 0, 0) := by decide +kernel
theorem l_332_9 : look 332 9 = some (.goto 6, 3, 0, 0, 0, 0) := by decide +kernel
theorem l_332_12 : look 332 12 = some (.astore_n 3, 1, 0, 0, 0, 0) := by decide +kernel
theorem l_332_13 : look 332 13 = some (.iconst 1, 1, 0, 0, 0, 0) := by decide +kernel
theorem l_332_14 : look 332 14 = some (.ireturn, 1, 0, 0, 0, 0) := by decide +kernel
theorem l_332_15 : look 332 15 = some (.iconst 0, 1, 0, 0, 0, 0) := by decide +kernel
theorem l_332_16 : look 332 16 = some (.ireturn, 1, 0, 0, 0, 0) := by decide +kernel

theorem wk_332 (o : oDropSwitch S T s q y) (ho : S[w]? = some (2, 1)) {p0 : Int} {P : Int → Ix → (Nat → Nat → Nat) → Prop} (sp : CL xs 130 [vr s, vi p0] (S, I, T, cc, zz) (VP S cc zz P)) : CL xs 332 [vr s, vi p0, vr w] (S, I, T, cc, zz) (WV S w cc zz P) := by
  refine CL_start (r := 2) (ls := [vr s, vi p0, vr w, vs 2]) (rk_332 _) rfl ?_
  refine w_aln l_332_0 rfl ?_
  refine w_ic l_332_1 (by decide) ?_
  refine w_aln l_332_2 rfl ?_
  refine w_iln l_332_3 rfl ?_
  refine w_iv [vi p0] [vi 0, vr w] l_332_4 rfl rfl rfl (Nat.le_of_ble_eq_true rfl) (by rw [mx_130]; exact Nat.le_of_ble_eq_true rfl) (by rw [mt_130]; exact oDropSwitch_sh o) (by rw [mt_130]; decide) (by rw [rk_130]; decide) (CL_mono sp fun r m1 hr => ?_)
  obtain ⟨V, I1, T1, rfl, rfl, hP⟩ := hr
  show WP xs 332 2 (4 + 3) [vr s, vi p0, vr w, vs 2] [vi V, vi 0, vr w] (S, I1, T1, cc, zz) _
  refine w_i2l l_332_7 ?_
  refine w_lS 0 l_332_8 ho rfl (by decide) ?_
  refine w_go 15 l_332_9 (by decide) ?_
  refine w_ic l_332_15 (by decide) ?_
  refine w_ir l_332_16 (Or.inl rfl) ?_
  exact ⟨V, I1, T1, rfl, rfl, hP⟩

theorem wx_332_0 (o : oDropSwitch S T s q y) {p0 : Int} {P : Ix → Prop} (sp : CL xs 130 [vr s, vi p0] (S, I, T, cc, zz) (XP S T cc zz 0 P)) : CL xs 332 [vr s, vi p0, vr w] (S, I, T, cc, zz) (WXP S T cc zz 1 P) := by
  refine CL_start (r := 2) (ls := [vr s, vi p0, vr w, vs 2]) (rk_332 _) rfl ?_
  refine w_aln l_332_0 rfl ?_
  refine w_ic l_332_1 (by decide) ?_
  refine w_aln l_332_2 rfl ?_
  refine w_iln l_332_3 rfl ?_
  refine w_iv [vi p0] [vi 0, vr w] l_332_4 rfl rfl rfl (Nat.le_of_ble_eq_true rfl) (by rw [mx_130]; exact Nat.le_of_ble_eq_true rfl) (by rw [mt_130]; exact oDropSwitch_sh o) (by rw [mt_130]; decide) (by rw [rk_130]; decide) (CL_mono sp fun r m1 hr => ?_)
  obtain ⟨I1, rfl, rfl, hP⟩ := hr
  show WX xs 332 2 4 [vr s, vi p0, vr w, vs 2] 0 (S, I1, T, cc - 1, zz - 6) _
  refine WX_h (h := (0, 9, 12, 25)) (k := 3) (h' := 13) (by decide +kernel) (by decide +kernel) ⟨Nat.le_of_ble_eq_true rfl, rfl⟩ ?_
  refine w_ic l_332_13 (by decide) ?_
  refine w_ir l_332_14 (Or.inl rfl) ?_
  exact ⟨I1, rfl, rfl, hP⟩

theorem mx_333 : mxl 333 = 6 := by decide +kernel
theorem mt_333 : mtc 333 = 99 := by decide +kernel
theorem rk_333 (as : List AV) : rkA 333 as = 2 := rfl
theorem l_333_0 : look 333 0 = some (.aload 4, 2, 0, 0, 0, 0) := by decide +kernel
theorem l_333_2 : look 333 2 = some (.iconst 0, 1, 0, 0, 0, 0) := by decide +kernel
theorem l_333_3 : look 333 3 = some (.aload_n 0, 1, 0, 0, 0, 0) := by decide +kernel
theorem l_333_4 : look 333 4 = some (.iload_n 1, 1, 0, 0, 0, 0) := by decide +kernel
theorem l_333_5 : look 333 5 = some (.iload_n 2, 1, 0, 0, 0, 0) := by decide +kernel
theorem l_333_6 : look 333 6 = some (.iload_n 3, 1, 0, 0, 0, 0) := by decide +kernel
theorem l_333_7 : look 333 7 = some (.invokevirtual 101, 3, 131, 4, 0, 1360) := by decide +kernel
theorem l_333_10 : look 333 10 = some (.i2l, 1, 0, 0, 0, 0) := by decide +kernel
theorem l_333_11 : look 333 11 = some (.lastore, 1, 0, 0, 0, 0) := by decide +kernel
theorem l_333_12 : look 333 12 = some (.goto 15, 3, 0, 0, 0, 0) := by decide +kernel
theorem l_333_15 : look 333 15 = some (.astore 5, 2, 0, 0, 0, 0) := by decide +kernel
theorem l_333_17 : look 333 17 = some (.iconst 1, 1, 0, 0, 0, 0) := by decide +kernel
theorem l_333_18 : look 333 18 = some (.ireturn, 1, 0, 0, 0, 0) := by decide +kernel
theorem l_333_19 : look 333 19 = some (.astore 5, 2, 0, 0, 0, 0) := by decide +kernel
theorem l_333_21 : look 333 21 = some (.iconst 2, 1, 0, 0, 0, 0) := by decide +kernel
theorem l_333_22 : look 333 22 = some (.ireturn, 1, 0, 0, 0, 0) := by decide +kernel
theorem l_333_23 : look 333 23 = some (.astore 5, 2, 0, 0, 0, 0) := by decide +kernel
theorem l_333_25 : look 333 25 = some (.iconst 3, 1, 0, 0, 0, 0) := by decide +kernel
theorem l_333_26 : look 333 26 = some (.ireturn, 1, 0, 0, 0, 0) := by decide +kernel
theorem l_333_27 : look 333 27 = some (.iconst 0, 1, 0, 0, 0, 0) := by decide +kernel
theorem l_333_28 : look 333 28 = some (.ireturn, 1, 0, 0, 0, 0) := by decide +kernel

theorem wk_333 (o : oDropSwitch S T s q y) (ho : S[w]? = some (2, 1)) {p0 p1 p2 : Int} {P : Int → Ix → (Nat → Nat → Nat) → Prop} (sp : CL xs 131 [vr s, vi p0, vi p1, vi p2] (S, I, T, cc, zz) (VP S cc zz P)) : CL xs 333 [vr s, vi p0, vi p1, vi p2, vr w] (S, I, T, cc, zz) (WV S w cc zz P) := by
  refine CL_start (r := 2) (ls := [vr s, vi p0, vi p1, vi p2, vr w, vs 2]) (rk_333 _) rfl ?_
  refine w_al l_333_0 rfl ?_
  refine w_ic l_333_2 (by decide) ?_
  refine w_aln l_333_3 rfl ?_
  refine w_iln l_333_4 rfl ?_
  refine w_iln l_333_5 rfl ?_
  refine w_iln l_333_6 rfl ?_
  refine w_iv [vi p0, vi p1, vi p2] [vi 0, vr w] l_333_7 rfl rfl rfl (Nat.le_of_ble_eq_true rfl) (by rw [mx_131]; exact Nat.le_of_ble_eq_true rfl) (by rw [mt_131]; exact oDropSwitch_sh o) (by rw [mt_131]; decide) (by rw [rk_131]; decide) (CL_mono sp fun r m1 hr => ?_)
  obtain ⟨V, I1, T1, rfl, rfl, hP⟩ := hr
  show WP xs 333 2 (7 + 3) [vr s, vi p0, vi p1, vi p2, vr w, vs 2] [vi V, vi 0, vr w] (S, I1, T1, cc, zz) _
  refine w_i2l l_333_10 ?_
  refine w_lS 0 l_333_11 ho rfl (by decide) ?_
  refine w_go 27 l_333_12 (by decide) ?_
  refine w_ic l_333_27 (by decide) ?_
  refine w_ir l_333_28 (Or.inl rfl) ?_
  exact ⟨V, I1, T1, rfl, rfl, hP⟩

theorem wx_333_3 (o : oDropSwitch S T s q y) {p0 p1 p2 : Int} {P : Ix → Prop} (sp : CL xs 131 [vr s, vi p0, vi p1, vi p2] (S, I, T, cc, zz) (XP S T cc zz 3 P)) : CL xs 333 [vr s, vi p0, vi p1, vi p2, vr w] (S, I, T, cc, zz) (WXP S T cc zz 1 P) := by
  refine CL_start (r := 2) (ls := [vr s, vi p0, vi p1, vi p2, vr w, vs 2]) (rk_333 _) rfl ?_
  refine w_al l_333_0 rfl ?_
  refine w_ic l_333_2 (by decide) ?_
  refine w_aln l_333_3 rfl ?_
  refine w_iln l_333_4 rfl ?_
  refine w_iln l_333_5 rfl ?_
  refine w_iln l_333_6 rfl ?_
  refine w_iv [vi p0, vi p1, vi p2] [vi 0, vr w] l_333_7 rfl rfl rfl (Nat.le_of_ble_eq_true rfl) (by rw [mx_131]; exact Nat.le_of_ble_eq_true rfl) (by rw [mt_131]; exact oDropSwitch_sh o) (by rw [mt_131]; decide) (by rw [rk_131]; decide) (CL_mono sp fun r m1 hr => ?_)
  obtain ⟨I1, rfl, rfl, hP⟩ := hr
  show WX xs 333 2 7 [vr s, vi p0, vi p1, vi p2, vr w, vs 2] 3 (S, I1, T, cc - 1, zz - 6) _
  refine WX_h (h := (0, 12, 15, 19)) (k := 5) (h' := 17) (by decide +kernel) (by decide +kernel) ⟨Nat.le_of_ble_eq_true rfl, rfl⟩ ?_
  refine w_ic l_333_17 (by decide) ?_
  refine w_ir l_333_18 (Or.inl rfl) ?_
  exact ⟨I1, rfl, rfl, hP⟩

theorem wx_333_0 (o : oDropSwitch S T s q y) {p0 p1 p2 : Int} {P : Ix → Prop} (sp : CL xs 131 [vr s, vi p0, vi p1, vi p2] (S, I, T, cc, zz) (XP S T cc zz 0 P)) : CL xs 333 [vr s, vi p0, vi p1, vi p2, vr w] (S, I, T, cc, zz) (WXP S T cc zz 2 P) := by
  refine CL_start (r := 2) (ls := [vr s, vi p0, vi p1, vi p2, vr w, vs 2]) (rk_333 _) rfl ?_
  refine w_al l_333_0 rfl ?_
  refine w_ic l_333_2 (by decide) ?_
  refine w_aln l_333_3 rfl ?_
  refine w_iln l_333_4 rfl ?_
  refine w_iln l_333_5 rfl ?_
  refine w_iln l_333_6 rfl ?_
  refine w_iv [vi p0, vi p1, vi p2] [vi 0, vr w] l_333_7 rfl rfl rfl (Nat.le_of_ble_eq_true rfl) (by rw [mx_131]; exact Nat.le_of_ble_eq_true rfl) (by rw [mt_131]; exact oDropSwitch_sh o) (by rw [mt_131]; decide) (by rw [rk_131]; decide) (CL_mono sp fun r m1 hr => ?_)
  obtain ⟨I1, rfl, rfl, hP⟩ := hr
  show WX xs 333 2 7 [vr s, vi p0, vi p1, vi p2, vr w, vs 2] 0 (S, I1, T, cc - 1, zz - 6) _
  refine WX_h (h := (0, 12, 19, 25)) (k := 5) (h' := 21) (by decide +kernel) (by decide +kernel) ⟨Nat.le_of_ble_eq_true rfl, rfl⟩ ?_
  refine w_ic l_333_21 (by decide) ?_
  refine w_ir l_333_22 (Or.inl rfl) ?_
  exact ⟨I1, rfl, rfl, hP⟩

theorem wx_333_1 (o : oDropSwitch S T s q y) {p0 p1 p2 : Int} {P : Ix → Prop} (sp : CL xs 131 [vr s, vi p0, vi p1, vi p2] (S, I, T, cc, zz) (XP S T cc zz 1 P)) : CL xs 333 [vr s, vi p0, vi p1, vi p2, vr w] (S, I, T, cc, zz) (WXP S T cc zz 3 P) := by
  refine CL_start (r := 2) (ls := [vr s, vi p0, vi p1, vi p2, vr w, vs 2]) (rk_333 _) rfl ?_
  refine w_al l_333_0 rfl ?_
  refine w_ic l_333_2 (by decide) ?_
  refine w_aln l_333_3 rfl ?_
  refine w_iln l_333_4 rfl ?_
  refine w_iln l_333_5 rfl ?_
  refine w_iln l_333_6 rfl ?_
  refine w_iv [vi p0, vi p1, vi p2] [vi 0, vr w] l_333_7 rfl rfl rfl (Nat.le_of_ble_eq_true rfl) (by rw [mx_131]; exact Nat.le_of_ble_eq_true rfl) (by rw [mt_131]; exact oDropSwitch_sh o) (by rw [mt_131]; decide) (by rw [rk_131]; decide) (CL_mono sp fun r m1 hr => ?_)
  obtain ⟨I1, rfl, rfl, hP⟩ := hr
  show WX xs 333 2 7 [vr s, vi p0, vi p1, vi p2, vr w, vs 2] 1 (S, I1, T, cc - 1, zz - 6) _
  refine WX_h (h := (0, 12, 23, 13)) (k := 5) (h' := 25) (by decide +kernel) (by decide +kernel) ⟨Nat.le_of_ble_eq_true rfl, rfl⟩ ?_
  refine w_ic l_333_25 (by decide) ?_
  refine w_ir l_333_26 (Or.inl rfl) ?_
  exact ⟨I1, rfl, rfl, hP⟩

theorem mx_334 : mxl 334 = 4 := by decide +kernel
theorem mt_334 : mtc 334 = 99 := by decide +kernel
theorem rk_334 (as : List AV) : rkA 334 as = 2 := rfl
theorem l_334_0 : look 334 0 = some (.aload_n 2, 1, 0, 0, 0, 0) := by decide +kernel
theorem l_334_1 : look 334 1 = some (.iconst 0, 1, 0, 0, 0, 0) := by decide +kernel
theorem l_334_2 : look 334 2 = some (.aload_n 0, 1, 0, 0, 0, 0) := by decide +kernel
theorem l_334_3 : look 334 3 = some (.iload_n 1, 1, 0, 0, 0, 0) := by decide +kernel
theorem l_334_4 : look 334 4 = some (.invokevirtual 105, 3, 132, 2, 0, 1374) := by decide +kernel
theorem l_334_7 : look 334 7 = some (.i2l, 1, 0, 0, 0, 0) := by decide +kernel
theorem l_334_8 : look 334 8 = some (.lastore, 1, 0, 0, 0, 0) := by decide +kernel
theorem l_334_9 : look 334 9 = some (.goto 6, 3, 0, 0, 0, 0) := by decide +kernel
theorem l_334_12 : look 334 12 = some (.astore_n 3, 1, 0, 0, 0, 0) := by decide +kernel
theorem l_334_13 : look 334 13 = some (.iconst 1, 1, 0, 0, 0, 0) := by decide +kernel
theorem l_334_14 : look 334 14 = some (.ireturn, 1, 0, 0, 0, 0) := by decide +kernel
theorem l_334_15 : look 334 15 = some (.iconst 0, 1, 0, 0, 0, 0) := by decide +kernel
theorem l_334_16 : look 334 16 = some (.ireturn, 1, 0, 0, 0, 0) := by decide +kernel

theorem wk_334 (o : oDropSwitch S T s q y) (ho : S[w]? = some (2, 1)) {p0 : Int} {P : Int → Ix → (Nat → Nat → Nat) → Prop} (sp : CL xs 132 [vr s, vi p0] (S, I, T, cc, zz) (VP S cc zz P)) : CL xs 334 [vr s, vi p0, vr w] (S, I, T, cc, zz) (WV S w cc zz P) := by
  refine CL_start (r := 2) (ls := [vr s, vi p0, vr w, vs 2]) (rk_334 _) rfl ?_
  refine w_aln l_334_0 rfl ?_
  refine w_ic l_334_1 (by decide) ?_
  refine w_aln l_334_2 rfl ?_
  refine w_iln l_334_3 rfl ?_
  refine w_iv [vi p0] [vi 0, vr w] l_334_4 rfl rfl rfl (Nat.le_of_ble_eq_true rfl) (by rw [mx_132]; exact Nat.le_of_ble_eq_true rfl) (by rw [mt_132]; exact oDropSwitch_sh o) (by rw [mt_132]; decide) (by rw [rk_132]; decide) (CL_mono sp fun r m1 hr => ?_)
  obtain ⟨V, I1, T1, rfl, rfl, hP⟩ := hr
  show WP xs 334 2 (4 + 3) [vr s, vi p0, vr w, vs 2] [vi V, vi 0, vr w] (S, I1, T1, cc, zz) _
  refine w_i2l l_334_7 ?_
  refine w_lS 0 l_334_8 ho rfl (by decide) ?_
  refine w_go 15 l_334_9 (by decide) ?_
  refine w_ic l_334_15 (by decide) ?_
  refine w_ir l_334_16 (Or.inl rfl) ?_
  exact ⟨V, I1, T1, rfl, rfl, hP⟩

theorem wx_334_0 (o : oDropSwitch S T s q y) {p0 : Int} {P : Ix → Prop} (sp : CL xs 132 [vr s, vi p0] (S, I, T, cc, zz) (XP S T cc zz 0 P)) : CL xs 334 [vr s, vi p0, vr w] (S, I, T, cc, zz) (WXP S T cc zz 1 P) := by
  refine CL_start (r := 2) (ls := [vr s, vi p0, vr w, vs 2]) (rk_334 _) rfl ?_
  refine w_aln l_334_0 rfl ?_
  refine w_ic l_334_1 (by decide) ?_
  refine w_aln l_334_2 rfl ?_
  refine w_iln l_334_3 rfl ?_
  refine w_iv [vi p0] [vi 0, vr w] l_334_4 rfl rfl rfl (Nat.le_of_ble_eq_true rfl) (by rw [mx_132]; exact Nat.le_of_ble_eq_true rfl) (by rw [mt_132]; exact oDropSwitch_sh o) (by rw [mt_132]; decide) (by rw [rk_132]; decide) (CL_mono sp fun r m1 hr => ?_)
  obtain ⟨I1, rfl, rfl, hP⟩ := hr
  show WX xs 334 2 4 [vr s, vi p0, vr w, vs 2] 0 (S, I1, T, cc - 1, zz - 6) _
  refine WX_h (h := (0, 9, 12, 25)) (k := 3) (h' := 13) (by decide +kernel) (by decide +kernel) ⟨Nat.le_of_ble_eq_true rfl, rfl⟩ ?_
  refine w_ic l_334_13 (by decide) ?_
  refine w_ir l_334_14 (Or.inl rfl) ?_
  exact ⟨I1, rfl, rfl, hP⟩

theorem mx_335 : mxl 335 = 4 := by decide +kernel
theorem mt_335 : mtc 335 = 99 := by decide +kernel
theorem rk_335 (as : List AV) : rkA 335 as = 7 := rfl
theorem l_335_0 : look 335 0 = some (.aload_n 2, 1, 0, 0, 0, 0) := by decide +kernel
theorem l_335_1 : look 335 1 = some (.iconst 0, 1, 0, 0, 0, 0) := by decide +kernel
theorem l_335_2 : look 335 2 = some (.aload_n 0, 1, 0, 0, 0, 0) := by decide +kernel
theorem l_335_3 : look 335 3 = some (.iload_n 1, 1, 0, 0, 0, 0) := by decide +kernel
theorem l_335_4 : look 335 4 = some (.invokevirtual 108, 3, 135, 2, 0, 1381) := by decide +kernel
theorem l_335_7 : look 335 7 = some (.i2l, 1, 0, 0, 0, 0) := by decide +kernel
theorem l_335_8 : look 335 8 = some (.lastore, 1, 0, 0, 0, 0) := by decide +kernel
theorem l_335_9 : look 335 9 = some (.goto 6, 3, 0, 0, 0, 0) := by decide +kernel
theorem l_335_12 : look 335 12 = some (.astore_n 3, 1, 0, 0, 0, 0) := by decide +kernel
theorem l_335_13 : look 335 13 = some (.iconst 1, 1, 0, 0, 0, 0) := by decide +kernel
theorem l_335_14 : look 335 14 = some (.ireturn, 1, 0, 0, 0, 0) := by decide +kernel
theorem l_335_15 : look 335 15 = some (.iconst 0, 1, 0, 0, 0, 0) := by decide +kernel
theorem l_335_16 : look 335 16 = some (.ireturn, 1, 0, 0, 0, 0) := by decide +kernel

theorem wk_335 (o : oDropSwitch S T s q y) (ho : S[w]? = some (2, 1)) {p0 : Int} {P : Int → Ix → (Nat → Nat → Nat) → Prop} (sp : CL xs 135 [vr s, vi p0] (S, I, T, cc, zz) (VP S cc zz P)) : CL xs 335 [vr s, vi p0, vr w] (S, I, T, cc, zz) (WV S w cc zz P) := by
  refine CL_start (r := 7) (ls := [vr s, vi p0, vr w, vs 2]) (rk_335 _) rfl ?_
  refine w_aln l_335_0 rfl ?_
  refine w_ic l_335_1 (by decide) ?_
  refine w_aln l_335_2 rfl ?_
  refine w_iln l_335_3 rfl ?_
  refine w_iv [vi p0] [vi 0, vr w] l_335_4 rfl rfl rfl (Nat.le_of_ble_eq_true rfl) (by rw [mx_135]; exact Nat.le_of_ble_eq_true rfl) (by rw [mt_135]; exact oDropSwitch_sh o) (by rw [mt_135]; decide) (by rw [rk_135]; decide) (CL_mono sp fun r m1 hr => ?_)
  obtain ⟨V, I1, T1, rfl, rfl, hP⟩ := hr
  show WP xs 335 7 (4 + 3) [vr s, vi p0, vr w, vs 2] [vi V, vi 0, vr w] (S, I1, T1, cc, zz) _
  refine w_i2l l_335_7 ?_
  refine w_lS 0 l_335_8 ho rfl (by decide) ?_
  refine w_go 15 l_335_9 (by decide) ?_
  refine w_ic l_335_15 (by decide) ?_
  refine w_ir l_335_16 (Or.inl rfl) ?_
  exact ⟨V, I1, T1, rfl, rfl, hP⟩

theorem wx_335_1 (o : oDropSwitch S T s q y) {p0 : Int} {P : Ix → Prop} (sp : CL xs 135 [vr s, vi p0] (S, I, T, cc, zz) (XP S T cc zz 1 P)) : CL xs 335 [vr s, vi p0, vr w] (S, I, T, cc, zz) (WXP S T cc zz 1 P) := by
  refine CL_start (r := 7) (ls := [vr s, vi p0, vr w, vs 2]) (rk_335 _) rfl ?_
  refine w_aln l_335_0 rfl ?_
  refine w_ic l_335_1 (by decide) ?_
  refine w_aln l_335_2 rfl ?_
  refine w_iln l_335_3 rfl ?_
  refine w_iv [vi p0] [vi 0, vr w] l_335_4 rfl rfl rfl (Nat.le_of_ble_eq_true rfl) (by rw [mx_135]; exact Nat.le_of_ble_eq_true rfl) (by rw [mt_135]; exact oDropSwitch_sh o) (by rw [mt_135]; decide) (by rw [rk_135]; decide) (CL_mono sp fun r m1 hr => ?_)
  obtain ⟨I1, rfl, rfl, hP⟩ := hr
  show WX xs 335 7 4 [vr s, vi p0, vr w, vs 2] 1 (S, I1, T, cc - 1, zz - 6) _
  refine WX_h (h := (0, 9, 12, 13)) (k := 3) (h' := 13) (by decide +kernel) (by decide +kernel) ⟨Nat.le_of_ble_eq_true rfl, rfl⟩ ?_
  refine w_ic l_335_13 (by decide) ?_
  refine w_ir l_335_14 (Or.inl rfl) ?_
  exact ⟨I1, rfl, rfl, hP⟩

theorem mx_336 : mxl 336 = 5 := by decide +kernel
theorem mt_336 : mtc 336 = 99 := by decide +kernel
theorem rk_336 (as : List AV) : rkA 336 as = 7 := rfl
theorem l_336_0 : look 336 0 = some (.aload_n 3, 1, 0, 0, 0, 0) := by decide +kernel
theorem l_336_1 : look 336 1 = some (.iconst 0, 1, 0, 0, 0, 0) := by decide +kernel
theorem l_336_2 : look 336 2 = some (.aload_n 0, 1, 0, 0, 0, 0) := by decide +kernel
theorem l_336_3 : look 336 3 = some (.iload_n 1, 1, 0, 0, 0, 0) := by decide +kernel
theorem l_336_4 : look 336 4 = some (.iload_n 2, 1, 0, 0, 0, 0) := by decide +kernel
theorem l_336_5 : look 336 5 = some (.invokevirtual 111, 3, 136, 3, 0, 1388) := by decide +kernel
theorem l_336_8 : look 336 8 = some (.i2l, 1, 0, 0, 0, 0) := by decide +kernel
theorem l_336_9 : look 336 9 = some (.lastore, 1, 0, 0, 0, 0) := by decide +kernel
theorem l_336_10 : look 336 10 = some (.goto 7, 3, 0, 0, 0, 0) := by decide +kernel
theorem l_336_13 : look 336 13 = some (.astore 4, 2, 0, 0, 0, 0) := by decide +kernel
theorem l_336_15 : look 336 15 = some (.iconst 1, 1, 0, 0, 0, 0) := by decide +kernel
theorem l_336_16 : look 336 16 = some (.ireturn, 1, 0, 0, 0, 0) := by decide +kernel
theorem l_336_17 : look 336 17 = some (.iconst 0, 1, 0, 0, 0, 0) := by decide +kernel
theorem l_336_18 : look 336 18 = some (.ireturn, 1, 0, 0, 0, 0) := by decide +kernel

theorem wk_336 (o : oDropSwitch S T s q y) (ho : S[w]? = some (2, 1)) {p0 p1 : Int} {P : Int → Ix → (Nat → Nat → Nat) → Prop} (sp : CL xs 136 [vr s, vi p0, vi p1] (S, I, T, cc, zz) (VP S cc zz P)) : CL xs 336 [vr s, vi p0, vi p1, vr w] (S, I, T, cc, zz) (WV S w cc zz P) := by
  refine CL_start (r := 7) (ls := [vr s, vi p0, vi p1, vr w, vs 2]) (rk_336 _) rfl ?_
  refine w_aln l_336_0 rfl ?_
  refine w_ic l_336_1 (by decide) ?_
  refine w_aln l_336_2 rfl ?_
  refine w_iln l_336_3 rfl ?_
  refine w_iln l_336_4 rfl ?_
  refine w_iv [vi p0, vi p1] [vi 0, vr w] l_336_5 rfl rfl rfl (Nat.le_of_ble_eq_true rfl) (by rw [mx_136]; exact Nat.le_of_ble_eq_true rfl) (by rw [mt_136]; exact oDropSwitch_sh o) (by rw [mt_136]; decide) (by rw [rk_136]; decide) (CL_mono sp fun r m1 hr => ?_)
  obtain ⟨V, I1, T1, rfl, rfl, hP⟩ := hr
  show WP xs 336 7 (5 + 3) [vr s, vi p0, vi p1, vr w, vs 2] [vi V, vi 0, vr w] (S, I1, T1, cc, zz) _
  refine w_i2l l_336_8 ?_
  refine w_lS 0 l_336_9 ho rfl (by decide) ?_
  refine w_go 17 l_336_10 (by decide) ?_
  refine w_ic l_336_17 (by decide) ?_
  refine w_ir l_336_18 (Or.inl rfl) ?_
  exact ⟨V, I1, T1, rfl, rfl, hP⟩

theorem wx_336_0 (o : oDropSwitch S T s q y) {p0 p1 : Int} {P : Ix → Prop} (sp : CL xs 136 [vr s, vi p0, vi p1] (S, I, T, cc, zz) (XP S T cc zz 0 P)) : CL xs 336 [vr s, vi p0, vi p1, vr w] (S, I, T, cc, zz) (WXP S T cc zz 1 P) := by
  refine CL_start (r := 7) (ls := [vr s, vi p0, vi p1, vr w, vs 2]) (rk_336 _) rfl ?_
  refine w_aln l_336_0 rfl ?_
  refine w_ic l_336_1 (by decide) ?_
  refine w_aln l_336_2 rfl ?_
  refine w_iln l_336_3 rfl ?_
  refine w_iln l_336_4 rfl ?_
  refine w_iv [vi p0, vi p1] [vi 0, vr w] l_336_5 rfl rfl rfl (Nat.le_of_ble_eq_true rfl) (by rw [mx_136]; exact Nat.le_of_ble_eq_true rfl) (by rw [mt_136]; exact oDropSwitch_sh o) (by rw [mt_136]; decide) (by rw [rk_136]; decide) (CL_mono sp fun r m1 hr => ?_)
  obtain ⟨I1, rfl, rfl, hP⟩ := hr
  show WX xs 336 7 5 [vr s, vi p0, vi p1, vr w, vs 2] 0 (S, I1, T, cc - 1, zz - 6) _
  refine WX_h (h := (0, 10, 13, 25)) (k := 4) (h' := 15) (by decide +kernel) (by decide +kernel) ⟨Nat.le_of_ble_eq_true rfl, rfl⟩ ?_
  refine w_ic l_336_15 (by decide) ?_
  refine w_ir l_336_16 (Or.inl rfl) ?_
  exact ⟨I1, rfl, rfl, hP⟩

theorem mx_337 : mxl 337 = 4 := by decide +kernel
theorem mt_337 : mtc 337 = 99 := by decide +kernel
theorem rk_337 (as : List AV) : rkA 337 as = 7 := rfl
theorem l_337_0 : look 337 0 = some (.aload_n 2, 1, 0, 0, 0, 0) := by decide +kernel
theorem l_337_1 : look 337 1 = some (.iconst 0, 1, 0, 0, 0, 0) := by decide +kernel
theorem l_337_2 : look 337 2 = some (.aload_n 0, 1, 0, 0, 0, 0) := by decide +kernel
theorem l_337_3 : look 337 3 = some (.iload_n 1, 1, 0, 0, 0, 0) := by decide +kernel
theorem l_337_4 : look 337 4 = some (.invokevirtual 114, 3, 137, 2, 0, 1395) := by decide +kernel
theorem l_337_7 : look 337 7 = some (.i2l, 1, 0, 0, 0, 0) := by decide +kernel
theorem l_337_8 : look 337 8 = some (.lastore, 1, 0, 0, 0, 0) := by decide +kernel
theorem l_337_9 : look 337 9 = some (.goto 6, 3, 0, 0, 0, 0) := by decide +kernel
theorem l_337_12 : look 337 12 = some (.astore_n 3, 1, 0, 0, 0, 0) := by decide +kernel
theorem l_337_13 : look 337 13 = some (.iconst 1, 1, 0, 0, 0, 0) := by decide +kernel
theorem l_337_14 : look 337 14 = some (.ireturn, 1, 0, 0, 0, 0) := by decide +kernel
theorem l_337_15 : look 337 15 = some (.iconst 0, 1, 0, 0, 0, 0) := by decide +kernel
theorem l_337_16 : look 337 16 = some (.ireturn, 1, 0, 0, 0, 0) := by decide +kernel

theorem wk_337 (o : oDropSwitch S T s q y) (ho : S[w]? = some (2, 1)) {p0 : Int} {P : Int → Ix → (Nat → Nat → Nat) → Prop} (sp : CL xs 137 [vr s, vi p0] (S, I, T, cc, zz) (VP S cc zz P)) : CL xs 337 [vr s, vi p0, vr w] (S, I, T, cc, zz) (WV S w cc zz P) := by
  refine CL_start (r := 7) (ls := [vr s, vi p0, vr w, vs 2]) (rk_337 _) rfl ?_
  refine w_aln l_337_0 rfl ?_
  refine w_ic l_337_1 (by decide) ?_
  refine w_aln l_337_2 rfl ?_
  refine w_iln l_337_3 rfl ?_
  refine w_iv [vi p0] [vi 0, vr w] l_337_4 rfl rfl rfl (Nat.le_of_ble_eq_true rfl) (by rw [mx_137]; exact Nat.le_of_ble_eq_true rfl) (by rw [mt_137]; exact oDropSwitch_sh o) (by rw [mt_137]; decide) (by rw [rk_137]; decide) (CL_mono sp fun r m1 hr => ?_)
  obtain ⟨V, I1, T1, rfl, rfl, hP⟩ := hr
  show WP xs 337 7 (4 + 3) [vr s, vi p0, vr w, vs 2] [vi V, vi 0, vr w] (S, I1, T1, cc, zz) _
  refine w_i2l l_337_7 ?_
  refine w_lS 0 l_337_8 ho rfl (by decide) ?_
  refine w_go 15 l_337_9 (by decide) ?_
  refine w_ic l_337_15 (by decide) ?_
  refine w_ir l_337_16 (Or.inl rfl) ?_
  exact ⟨V, I1, T1, rfl, rfl, hP⟩

theorem wx_337_0 (o : oDropSwitch S T s q y) {p0 : Int} {P : Ix → Prop} (sp : CL xs 137 [vr s, vi p0] (S, I, T, cc, zz) (XP S T cc zz 0 P)) : CL xs 337 [vr s, vi p0, vr w] (S, I, T, cc, zz) (WXP S T cc zz 1 P) := by
  refine CL_start (r := 7) (ls := [vr s, vi p0, vr w, vs 2]) (rk_337 _) rfl ?_
  refine w_aln l_337_0 rfl ?_
  refine w_ic l_337_1 (by decide) ?_
  refine w_aln l_337_2 rfl ?_
  refine w_iln l_337_3 rfl ?_
  refine w_iv [vi p0] [vi 0, vr w] l_337_4 rfl rfl rfl (Nat.le_of_ble_eq_true rfl) (by rw [mx_137]; exact Nat.le_of_ble_eq_true rfl) (by rw [mt_137]; exact oDropSwitch_sh o) (by rw [mt_137]; decide) (by rw [rk_137]; decide) (CL_mono sp fun r m1 hr => ?_)
  obtain ⟨I1, rfl, rfl, hP⟩ := hr
  show WX xs 337 7 4 [vr s, vi p0, vr w, vs 2] 0 (S, I1, T, cc - 1, zz - 6) _
  refine WX_h (h := (0, 9, 12, 25)) (k := 3) (h' := 13) (by decide +kernel) (by decide +kernel) ⟨Nat.le_of_ble_eq_true rfl, rfl⟩ ?_
  refine w_ic l_337_13 (by decide) ?_
  refine w_ir l_337_14 (Or.inl rfl) ?_
  exact ⟨I1, rfl, rfl, hP⟩

theorem mx_338 : mxl 338 = 4 := by decide +kernel
theorem mt_338 : mtc 338 = 99 := by decide +kernel
theorem rk_338 (as : List AV) : rkA 338 as = 7 := rfl
theorem l_338_0 : look 338 0 = some (.aload_n 2, 1, 0, 0, 0, 0) := by decide +kernel
theorem l_338_1 : look 338 1 = some (.iconst 0, 1, 0, 0, 0, 0) := by decide +kernel
theorem l_338_2 : look 338 2 = some (.aload_n 0, 1, 0, 0, 0, 0) := by decide +kernel
theorem l_338_3 : look 338 3 = some (.iload_n 1, 1, 0, 0, 0, 0) := by decide +kernel
theorem l_338_4 : look 338 4 = some (.invokevirtual 117, 3, 140, 2, 0, 1402) := by decide +kernel
theorem l_338_7 : look 338 7 = some (.i2l, 1, 0, 0, 0, 0) := by decide +kernel
theorem l_338_8 : look 338 8 = some (.lastore, 1, 0, 0, 0, 0) := by decide +kernel
theorem l_338_9 : look 338 9 = some (.goto 6, 3, 0, 0, 0, 0) := by decide +kernel
theorem l_338_12 : look 338 12 = some (.astore_n 3, 1, 0, 0, 0, 0) := by decide +kernel
theorem l_338_13 : look 338 13 = some (.iconst 1, 1, 0, 0, 0, 0) := by decide +kernel
theorem l_338_14 : look 338 14 = some (.ireturn, 1, 0, 0, 0, 0) := by decide +kernel
theorem l_338_15 : look 338 15 = some (.iconst 0, 1, 0, 0, 0, 0) := by decide +kernel
theorem l_338_16 : look 338 16 = some (.ireturn, 1, 0, 0, 0, 0) := by decide +kernel

theorem wk_338 (o : oDropSwitch S T s q y) (ho : S[w]? = some (2, 1)) {p0 : Int} {P : Int → Ix → (Nat → Nat → Nat) → Prop} (sp : CL xs 140 [vr s, vi p0] (S, I, T, cc, zz) (VP S cc zz P)) : CL xs 338 [vr s, vi p0, vr w] (S, I, T, cc, zz) (WV S w cc zz P) := by
  refine CL_start (r := 7) (ls := [vr s, vi p0, vr w, vs 2]) (rk_338 _) rfl ?_
  refine w_aln l_338_0 rfl ?_
  refine w_ic l_338_1 (by decide) ?_
  refine w_aln l_338_2 rfl ?_
  refine w_iln l_338_3 rfl ?_
  refine w_iv [vi p0] [vi 0, vr w] l_338_4 rfl rfl rfl (Nat.le_of_ble_eq_true rfl) (by rw [mx_140]; exact Nat.le_of_ble_eq_true rfl) (by rw [mt_140]; exact oDropSwitch_sh o) (by rw [mt_140]; decide) (by rw [rk_140]; decide) (CL_mono sp fun r m1 hr => ?_)
  obtain ⟨V, I1, T1, rfl, rfl, hP⟩ := hr
  show WP xs 338 7 (4 + 3) [vr s, vi p0, vr w, vs 2] [vi V, vi 0, vr w] (S, I1, T1, cc, zz) _
  refine w_i2l l_338_7 ?_
  refine w_lS 0 l_338_8 ho rfl (by decide) ?_
  refine w_go 15 l_338_9 (by decide) ?_
  refine w_ic l_338_15 (by decide) ?_
  refine w_ir l_338_16 (Or.inl rfl) ?_
  exact ⟨V, I1, T1, rfl, rfl, hP⟩

theorem wx_338_0 (o : oDropSwitch S T s q y) {p0 : Int} {P : Ix → Prop} (sp : CL xs 140 [vr s, vi p0] (S, I, T, cc, zz) (XP S T cc zz 0 P)) : CL xs 338 [vr s, vi p0, vr w] (S, I, T, cc, zz) (WXP S T cc zz 1 P) := by
  refine CL_start (r := 7) (ls := [vr s, vi p0, vr w, vs 2]) (rk_338 _) rfl ?_
  refine w_aln l_338_0 rfl ?_
  refine w_ic l_338_1 (by decide) ?_
  refine w_aln l_338_2 rfl ?_
  refine w_iln l_338_3 rfl ?_
  refine w_iv [vi p0] [vi 0, vr w] l_338_4 rfl rfl rfl (Nat.le_of_ble_eq_true rfl) (by rw [mx_140]; exact Nat.le_of_ble_eq_true rfl) (by rw [mt_140]; exact oDropSwitch_sh o) (by rw [mt_140]; decide) (by rw [rk_140]; decide) (CL_mono sp fun r m1 hr => ?_)
  obtain ⟨I1, rfl, rfl, hP⟩ := hr
  show WX xs 338 7 4 [vr s, vi p0, vr w, vs 2] 0 (S, I1, T, cc - 1, zz - 6) _
  refine WX_h (h := (0, 9, 12, 25)) (k := 3) (h' := 13) (by decide +kernel) (by decide +kernel) ⟨Nat.le_of_ble_eq_true rfl, rfl⟩ ?_
  refine w_ic l_338_13 (by decide) ?_
  refine w_ir l_338_14 (Or.inl rfl) ?_
  exact ⟨I1, rfl, rfl, hP⟩

theorem mx_339 : mxl 339 = 5 := by decide +kernel
theorem mt_339 : mtc 339 = 99 := by decide +kernel
theorem rk_339 (as : List AV) : rkA 339 as = 7 := rfl
theorem l_339_0 : look 339 0 = some (.aload_n 3, 1, 0, 0, 0, 0) := by decide +kernel
theorem l_339_1 : look 339 1 = some (.iconst 0, 1, 0, 0, 0, 0) := by decide +kernel
theorem l_339_2 : look 339 2 = some (.aload_n 0, 1, 0, 0, 0, 0) := by decide +kernel
theorem l_339_3 : look 339 3 = some (.iload_n 1, 1, 0, 0, 0, 0) := by decide +kernel
theorem l_339_4 : look 339 4 = some (.iload_n 2, 1, 0, 0, 0, 0) := by decide +kernel
theorem l_339_5 : look 339 5 = some (.invokevirtual 120, 3, 141, 3, 0, 1418) := by decide +kernel
theorem l_339_8 : look 339 8 = some (.i2l, 1, 0, 0, 0, 0) := by decide +kernel
theorem l_339_9 : look 339 9 = some (.lastore, 1, 0, 0, 0, 0) := by decide +kernel
theorem l_339_10 : look 339 10 = some (.goto 7, 3, 0, 0, 0, 0) := by decide +kernel
theorem l_339_13 : look 339 13 = some (.astore 4, 2, 0, 0, 0, 0) := by decide +kernel
theorem l_339_15 : look 339 15 = some (.iconst 1, 1, 0, 0, 0, 0) := by decide +kernel
theorem l_339_16 : look 339 16 = some (.ireturn, 1, 0, 0, 0, 0) := by decide +kernel
theorem l_339_17 : look 339 17 = some (.iconst 0, 1, 0, 0, 0, 0) := by decide +kernel
theorem l_339_18 : look 339 18 = some (.ireturn, 1, 0, 0, 0, 0) := by decide +kernel

theorem wk_339 (o : oDropSwitch S T s q y) (ho : S[w]? = some (2, 1)) {p0 p1 : Int} {P : Int → Ix → (Nat → Nat → Nat) → Prop} (sp : CL xs 141 [vr s, vi p0, vi p1] (S, I, T, cc, zz) (VP S cc zz P)) : CL xs 339 [vr s, vi p0, vi p1, vr w] (S, I, T, cc, zz) (WV S w cc zz P) := by
  refine CL_start (r := 7) (ls := [vr s, vi p0, vi p1, vr w, vs 2]) (rk_339 _) rfl ?_
  refine w_aln l_339_0 rfl ?_
  refine w_ic l_339_1 (by decide) ?_
  refine w_aln l_339_2 rfl ?_
  refine w_iln l_339_3 rfl ?_
  refine w_iln l_339_4 rfl ?_
  refine w_iv [vi p0, vi p1] [vi 0, vr w] l_339_5 rfl rfl rfl (Nat.le_of_ble_eq_true rfl) (by rw [mx_141]; exact Nat.le_of_ble_eq_true rfl) (by rw [mt_141]; exact oDropSwitch_sh o) (by rw [mt_141]; decide) (by rw [rk_141]; decide) (CL_mono sp fun r m1 hr => ?_)
  obtain ⟨V, I1, T1, rfl, rfl, hP⟩ := hr
  show WP xs 339 7 (5 + 3) [vr s, vi p0, vi p1, vr w, vs 2] [vi V, vi 0, vr w] (S, I1, T1, cc, zz) _
  refine w_i2l l_339_8 ?_
  refine w_lS 0 l_339_9 ho rfl (by decide) ?_
  refine w_go 17 l_339_10 (by decide) ?_
  refine w_ic l_339_17 (by decide) ?_
  refine w_ir l_339_18 (Or.inl rfl) ?_
  exact ⟨V, I1, T1, rfl, rfl, hP⟩

theorem wx_339_0 (o : oDropSwitch S T s q y) {p0 p1 : Int} {P : Ix → Prop} (sp : CL xs 141 [vr s, vi p0, vi p1] (S, I, T, cc, zz) (XP S T cc zz 0 P)) : CL xs 339 [vr s, vi p0, vi p1, vr w] (S, I, T, cc, zz) (WXP S T cc zz 1 P) := by
  refine CL_start (r := 7) (ls := [vr s, vi p0, vi p1, vr w, vs 2]) (rk_339 _) rfl ?_
  refine w_aln l_339_0 rfl ?_
  refine w_ic l_339_1 (by decide) ?_
  refine w_aln l_339_2 rfl ?_
  refine w_iln l_339_3 rfl ?_
  refine w_iln l_339_4 rfl ?_
  refine w_iv [vi p0, vi p1] [vi 0, vr w] l_339_5 rfl rfl rfl (Nat.le_of_ble_eq_true rfl) (by rw [mx_141]; exact Nat.le_of_ble_eq_true rfl) (by rw [mt_141]; exact oDropSwitch_sh o) (by rw [mt_141]; decide) (by rw [rk_141]; decide) (CL_mono sp fun r m1 hr => ?_)
  obtain ⟨I1, rfl, rfl, hP⟩ := hr
  show WX xs 339 7 5 [vr s, vi p0, vi p1, vr w, vs 2] 0 (S, I1, T, cc - 1, zz - 6) _
  refine WX_h (h := (0, 10, 13, 25)) (k := 4) (h' := 15) (by decide +kernel) (by decide +kernel) ⟨Nat.le_of_ble_eq_true rfl, rfl⟩ ?_
  refine w_ic l_339_15 (by decide) ?_
  refine w_ir l_339_16 (Or.inl rfl) ?_
  exact ⟨I1, rfl, rfl, hP⟩

theorem mx_340 : mxl 340 = 4 := by decide +kernel
theorem mt_340 : mtc 340 = 99 := by decide +kernel
theorem rk_340 (as : List AV) : rkA 340 as = 7 := rfl
theorem l_340_0 : look 340 0 = some (.aload_n 2, 1, 0, 0, 0, 0) := by decide +kernel
theorem l_340_1 : look 340 1 = some (.iconst 0, 1, 0, 0, 0, 0) := by decide +kernel
theorem l_340_2 : look 340 2 = some (.aload_n 0, 1, 0, 0, 0, 0) := by decide +kernel
theorem l_340_3 : look 340 3 = some (.iload_n 1, 1, 0, 0, 0, 0) := by decide +kernel
theorem l_340_4 : look 340 4 = some (.invokevirtual 123, 3, 142, 2, 0, 1425) := by decide +kernel
theorem l_340_7 : look 340 7 = some (.i2l, 1, 0, 0, 0, 0) := by decide +kernel
theorem l_340_8 : look 340 8 = some (.lastore, 1, 0, 0, 0, 0) := by decide +kernel
theorem l_340_9 : look 340 9 = some (.goto 6, 3, 0, 0, 0, 0) := by decide +kernel
theorem l_340_12 : look 340 12 = some (.astore_n 3, 1, 0, 0, 0, 0) := by decide +kernel
theorem l_340_13 : look 340 13 = some (.iconst 1, 1, 0, 0, 0, 0) := by decide +kernel
theorem l_340_14 : look 340 14 = some (.ireturn, 1, 0, 0, 0, 0) := by decide +kernel
theorem l_340_15 : look 340 15 = some (.iconst 0, 1, 0, 0, 0, 0) := by decide +kernel
theorem l_340_16 : look 340 16 = some (.ireturn, 1, 0, 0, 0, 0) := by decide +kernel

theorem wk_340 (o : oDropSwitch S T s q y) (ho : S[w]? = some (2, 1)) {p0 : Int} {P : Int → Ix → (Nat → Nat → Nat) → Prop} (sp : CL xs 142 [vr s, vi p0] (S, I, T, cc, zz) (VP S cc zz P)) : CL xs 340 [vr s, vi p0, vr w] (S, I, T, cc, zz) (WV S w cc zz P) := by
  refine CL_start (r := 7) (ls := [vr s, vi p0, vr w, vs 2]) (rk_340 _) rfl ?_
  refine w_aln l_340_0 rfl ?_
  refine w_ic l_340_1 (by decide) ?_
  refine w_aln l_340_2 rfl ?_
  refine w_iln l_340_3 rfl ?_
  refine w_iv [vi p0] [vi 0, vr w] l_340_4 rfl rfl rfl (Nat.le_of_ble_eq_true rfl) (by rw [mx_142]; exact Nat.le_of_ble_eq_true rfl) (by rw [mt_142]; exact oDropSwitch_sh o) (by rw [mt_142]; decide) (by rw [rk_142]; decide) (CL_mono sp fun r m1 hr => ?_)
  obtain ⟨V, I1, T1, rfl, rfl, hP⟩ := hr
  show WP xs 340 7 (4 + 3) [vr s, vi p0, vr w, vs 2] [vi V, vi 0, vr w] (S, I1, T1, cc, zz) _
  refine w_i2l l_340_7 ?_
  refine w_lS 0 l_340_8 ho rfl (by decide) ?_
  refine w_go 15 l_340_9 (by decide) ?_
  refine w_ic l_340_15 (by decide) ?_
  refine w_ir l_340_16 (Or.inl rfl) ?_
  exact ⟨V, I1, T1, rfl, rfl, hP⟩

theorem wx_340_0 (o : oDropSwitch S T s q y) {p0 : Int} {P : Ix → Prop} (sp : CL xs 142 [vr s, vi p0] (S, I, T, cc, zz) (XP S T cc zz 0 P)) : CL xs 340 [vr s, vi p0, vr w] (S, I, T, cc, zz) (WXP S T cc zz 1 P) := by
  refine CL_start (r := 7) (ls := [vr s, vi p0, vr w, vs 2]) (rk_340 _) rfl ?_
  refine w_aln l_340_0 rfl ?_
  refine w_ic l_340_1 (by decide) ?_
  refine w_aln l_340_2 rfl ?_
  refine w_iln l_340_3 rfl ?_
  refine w_iv [vi p0] [vi 0, vr w] l_340_4 rfl rfl rfl (Nat.le_of_ble_eq_true rfl) (by rw [mx_142]; exact Nat.le_of_ble_eq_true rfl) (by rw [mt_142]; exact oDropSwitch_sh o) (by rw [mt_142]; decide) (by rw [rk_142]; decide) (CL_mono sp fun r m1 hr => ?_)
  obtain ⟨I1, rfl, rfl, hP⟩ := hr
  show WX xs 340 7 4 [vr s, vi p0, vr w, vs 2] 0 (S, I1, T, cc - 1, zz - 6) _
  refine WX_h (h := (0, 9, 12, 25)) (k := 3) (h' := 13) (by decide +kernel) (by decide +kernel) ⟨Nat.le_of_ble_eq_true rfl, rfl⟩ ?_
  refine w_ic l_340_13 (by decide) ?_
  refine w_ir l_340_14 (Or.inl rfl) ?_
  exact ⟨I1, rfl, rfl, hP⟩

theorem mx_341 : mxl 341 = 4 := by decide +kernel
theorem mt_341 : mtc 341 = 99 := by decide +kernel
theorem rk_341 (as : List AV) : rkA 341 as = 7 := rfl
theorem l_341_0 : look 341 0 = some (.aload_n 2, 1, 0, 0, 0, 0) := by decide +kernel
theorem l_341_1 : look 341 1 = some (.iconst 0, 1, 0, 0, 0, 0) := by decide +kernel
theorem l_341_2 : look 341 2 = some (.aload_n 0, 1, 0, 0, 0, 0) := by decide +kernel
theorem l_341_3 : look 341 3 = some (.iload_n 1, 1, 0, 0, 0, 0) := by decide +kernel
theorem l_341_4 : look 341 4 = some (.invokevirtual 126, 3, 143, 2, 0, 1440) := by decide +kernel
theorem l_341_7 : look 341 7 = some (.i2l, 1, 0, 0, 0, 0) := by decide +kernel
theorem l_341_8 : look 341 8 = some (.lastore, 1, 0, 0, 0, 0) := by decide +kernel
theorem l_341_9 : look 341 9 = some (.goto 6, 3, 0, 0, 0, 0) := by decide +kernel
theorem l_341_12 : look 341 12 = some (.astore_n 3, 1, 0, 0, 0, 0) := by decide +kernel
theorem l_341_13 : look 341 13 = some (.iconst 1, 1, 0, 0, 0, 0) := by decide +kernel
theorem l_341_14 : look 341 14 = some (.ireturn, 1, 0, 0, 0, 0) := by decide +kernel
theorem l_341_15 : look 341 15 = some (.iconst 0, 1, 0, 0, 0, 0) := by decide +kernel
theorem l_341_16 : look 341 16 = some (.ireturn, 1, 0, 0, 0, 0) := by decide +kernel

theorem wk_341 (o : oDropSwitch S T s q y) (ho : S[w]? = some (2, 1)) {p0 : Int} {P : Int → Ix → (Nat → Nat → Nat) → Prop} (sp : CL xs 143 [vr s, vi p0] (S, I, T, cc, zz) (VP S cc zz P)) : CL xs 341 [vr s, vi p0, vr w] (S, I, T, cc, zz) (WV S w cc zz P) := by
  refine CL_start (r := 7) (ls := [vr s, vi p0, vr w, vs 2]) (rk_341 _) rfl ?_
  refine w_aln l_341_0 rfl ?_
  refine w_ic l_341_1 (by decide) ?_
  refine w_aln l_341_2 rfl ?_
  refine w_iln l_341_3 rfl ?_
  refine w_iv [vi p0] [vi 0, vr w] l_341_4 rfl rfl rfl (Nat.le_of_ble_eq_true rfl) (by rw [mx_143]; exact Nat.le_of_ble_eq_true rfl) (by rw [mt_143]; exact oDropSwitch_sh o) (by rw [mt_143]; decide) (by rw [rk_143]; decide) (CL_mono sp fun r m1 hr => ?_)
  obtain ⟨V, I1, T1, rfl, rfl, hP⟩ := hr
  show WP xs 341 7 (4 + 3) [vr s, vi p0, vr w, vs 2] [vi V, vi 0, vr w] (S, I1, T1, cc, zz) _
  refine w_i2l l_341_7 ?_
  refine w_lS 0 l_341_8 ho rfl (by decide) ?_
  refine w_go 15 l_341_9 (by decide) ?_
  refine w_ic l_341_15 (by decide) ?_
  refine w_ir l_341_16 (Or.inl rfl) ?_
  exact ⟨V, I1, T1, rfl, rfl, hP⟩

theorem wx_341_0 (o : oDropSwitch S T s q y) {p0 : Int} {P : Ix → Prop} (sp : CL xs 143 [vr s, vi p0] (S, I, T, cc, zz) (XP S T cc zz 0 P)) : CL xs 341 [vr s, vi p0, vr w] (S, I, T, cc, zz) (WXP S T cc zz 1 P) := by
  refine CL_start (r := 7) (ls := [vr s, vi p0, vr w, vs 2]) (rk_341 _) rfl ?_
  refine w_aln l_341_0 rfl ?_
  refine w_ic l_341_1 (by decide) ?_
  refine w_aln l_341_2 rfl ?_
  refine w_iln l_341_3 rfl ?_
  refine w_iv [vi p0] [vi 0, vr w] l_341_4 rfl rfl rfl (Nat.le_of_ble_eq_true rfl) (by rw [mx_143]; exact Nat.le_of_ble_eq_true rfl) (by rw [mt_143]; exact oDropSwitch_sh o) (by rw [mt_143]; decide) (by rw [rk_143]; decide) (CL_mono sp fun r m1 hr => ?_)
  obtain ⟨I1, rfl, rfl, hP⟩ := hr
  show WX xs 341 7 4 [vr s, vi p0, vr w, vs 2] 0 (S, I1, T, cc - 1, zz - 6) _
  refine WX_h (h := (0, 9, 12, 25)) (k := 3) (h' := 13) (by decide +kernel) (by decide +kernel) ⟨Nat.le_of_ble_eq_true rfl, rfl⟩ ?_
  refine w_ic l_341_13 (by decide) ?_
  refine w_ir l_341_14 (Or.inl rfl) ?_
  exact ⟨I1, rfl, rfl, hP⟩

theorem mx_342 : mxl 342 = 4 := by decide +kernel
theorem mt_342 : mtc 342 = 99 := by decide +kernel
theorem rk_342 (as : List AV) : rkA 342 as = 6 := rfl
theorem l_342_0 : look 342 0 = some (.aload_n 2, 1, 0, 0, 0, 0) := by decide +kernel
theorem l_342_1 : look 342 1 = some (.iconst 0, 1, 0, 0, 0, 0) := by decide +kernel
theorem l_342_2 : look 342 2 = some (.aload_n 0, 1, 0, 0, 0, 0) := by decide +kernel
theorem l_342_3 : look 342 3 = some (.iload_n 1, 1, 0, 0, 0, 0) := by decide +kernel
theorem l_342_4 : look 342 4 = some (.invokevirtual 129, 3, 144, 2, 0, 1447) := by decide +kernel
theorem l_342_7 : look 342 7 = some (.i2l, 1, 0, 0, 0, 0) := by decide +kernel
theorem l_342_8 : look 342 8 = some (.lastore, 1, 0, 0, 0, 0) := by decide +kernel
theorem l_342_9 : look 342 9 = some (.goto 6, 3, 0, 0, 0, 0) := by decide +kernel
theorem l_342_12 : look 342 12 = some (.astore_n 3, 1, 0, 0, 0, 0) := by decide +kernel
theorem l_342_13 : look 342 13 = some (.iconst 1, 1, 0, 0, 0, 0) := by decide +kernel
theorem l_342_14 : look 342 14 = some (.ireturn, 1, 0, 0, 0, 0) := by decide +kernel
theorem l_342_15 : look 342 15 = some (.iconst 0, 1, 0, 0, 0, 0) := by decide +kernel
theorem l_342_16 : look 342 16 = some (.ireturn, 1, 0, 0, 0, 0) := by decide +kernel

theorem wk_342 (o : oDropSwitch S T s q y) (ho : S[w]? = some (2, 1)) {p0 : Int} {P : Int → Ix → (Nat → Nat → Nat) → Prop} (sp : CL xs 144 [vr s, vi p0] (S, I, T, cc, zz) (VP S cc zz P)) : CL xs 342 [vr s, vi p0, vr w] (S, I, T, cc, zz) (WV S w cc zz P) := by
  refine CL_start (r := 6) (ls := [vr s, vi p0, vr w, vs 2]) (rk_342 _) rfl ?_
  refine w_aln l_342_0 rfl ?_
  refine w_ic l_342_1 (by decide) ?_
  refine w_aln l_342_2 rfl ?_
  refine w_iln l_342_3 rfl ?_
  refine w_iv [vi p0] [vi 0, vr w] l_342_4 rfl rfl rfl (Nat.le_of_ble_eq_true rfl) (by rw [mx_144]; exact Nat.le_of_ble_eq_true rfl) (by rw [mt_144]; exact oDropSwitch_sh o) (by rw [mt_144]; decide) (by rw [rk_144]; decide) (CL_mono sp fun r m1 hr => ?_)
  obtain ⟨V, I1, T1, rfl, rfl, hP⟩ := hr
  show WP xs 342 6 (4 + 3) [vr s, vi p0, vr w, vs 2] [vi V, vi 0, vr w] (S, I1, T1, cc, zz) _
  refine w_i2l l_342_7 ?_
  refine w_lS 0 l_342_8 ho rfl (by decide) ?_
  refine w_go 15 l_342_9 (by decide) ?_
  refine w_ic l_342_15 (by decide) ?_
  refine w_ir l_342_16 (Or.inl rfl) ?_
  exact ⟨V, I1, T1, rfl, rfl, hP⟩

theorem wx_342_0 (o : oDropSwitch S T s q y) {p0 : Int} {P : Ix → Prop} (sp : CL xs 144 [vr s, vi p0] (S, I, T, cc, zz) (XP S T cc zz 0 P)) : CL xs 342 [vr s, vi p0, vr w] (S, I, T, cc, zz) (WXP S T cc zz 1 P) := by
  refine CL_start (r := 6) (ls := [vr s, vi p0, vr w, vs 2]) (rk_342 _) rfl ?_
  refine w_aln l_342_0 rfl ?_
  refine w_ic l_342_1 (by decide) ?_
  refine w_aln l_342_2 rfl ?_
  refine w_iln l_342_3 rfl ?_
  refine w_iv [vi p0] [vi 0, vr w] l_342_4 rfl rfl rfl (Nat.le_of_ble_eq_true rfl) (by rw [mx_144]; exact Nat.le_of_ble_eq_true rfl) (by rw [mt_144]; exact oDropSwitch_sh o) (by rw [mt_144]; decide) (by rw [rk_144]; decide) (CL_mono sp fun r m1 hr => ?_)
  obtain ⟨I1, rfl, rfl, hP⟩ := hr
  show WX xs 342 6 4 [vr s, vi p0, vr w, vs 2] 0 (S, I1, T, cc - 1, zz - 6) _
  refine WX_h (h := (0, 9, 12, 25)) (k := 3) (h' := 13) (by decide +kernel) (by decide +kernel) ⟨Nat.le_of_ble_eq_true rfl, rfl⟩ ?_
  refine w_ic l_342_13 (by decide) ?_
  refine w_ir l_342_14 (Or.inl rfl) ?_
  exact ⟨I1, rfl, rfl, hP⟩

theorem mx_343 : mxl 343 = 4 := by decide +kernel
theorem mt_343 : mtc 343 = 99 := by decide +kernel
theorem rk_343 (as : List AV) : rkA 343 as = 3 := rfl
theorem l_343_0 : look 343 0 = some (.aload_n 2, 1, 0, 0, 0, 0) := by decide +kernel
theorem l_343_1 : look 343 1 = some (.iconst 0, 1, 0, 0, 0, 0) := by decide +kernel
theorem l_343_2 : look 343 2 = some (.aload_n 0, 1, 0, 0, 0, 0) := by decide +kernel
theorem l_343_3 : look 343 3 = some (.iload_n 1, 1, 0, 0, 0, 0) := by decide +kernel
theorem l_343_4 : look 343 4 = some (.invokevirtual 132, 3, 145, 2, 0, 1490) := by decide +kernel
theorem l_343_7 : look 343 7 = some (.i2l, 1, 0, 0, 0, 0) := by decide +kernel
theorem l_343_8 : look 343 8 = some (.lastore, 1, 0, 0, 0, 0) := by decide +kernel
theorem l_343_9 : look 343 9 = some (.goto 6, 3, 0, 0, 0, 0) := by decide +kernel
theorem l_343_12 : look 343 12 = some (.astore_n 3, 1, 0, 0, 0, 0) := by decide +kernel
theorem l_343_13 : look 343 13 = some (.iconst 1, 1, 0, 0, 0, 0) := by decide +kernel
theorem l_343_14 : look 343 14 = some (.ireturn, 1, 0, 0, 0, 0) := by decide +kernel
theorem l_343_15 : look 343 15 = some (.iconst 0, 1, 0, 0, 0, 0) := by decide +kernel
theorem l_343_16 : look 343 16 = some (.ireturn, 1, 0, 0, 0, 0) := by decide +kernel

theorem wk_343 (o : oDropSwitch S T s q y) (ho : S[w]? = some (2, 1)) {p0 : Int} {P : Int → Ix → (Nat → Nat → Nat) → Prop} (sp : CL xs 145 [vr s, vi p0] (S, I, T, cc, zz) (VP S cc zz P)) : CL xs 343 [vr s, vi p0, vr w] (S, I, T, cc, zz) (WV S w cc zz P) := by
  refine CL_start (r := 3) (ls := [vr s, vi p0, vr w, vs 2]) (rk_343 _) rfl ?_
  refine w_aln l_343_0 rfl ?_
  refine w_ic l_343_1 (by decide) ?_
  refine w_aln l_343_2 rfl ?_
  refine w_iln l_343_3 rfl ?_
  refine w_iv [vi p0] [vi 0, vr w] l_343_4 rfl rfl rfl (Nat.le_of_ble_eq_true rfl) (by rw [mx_145]; exact Nat.le_of_ble_eq_true rfl) (by rw [mt_145]; exact oDropSwitch_sh o) (by rw [mt_145]; decide) (by rw [rk_145]; decide) (CL_mono sp fun r m1 hr => ?_)
  obtain ⟨V, I1, T1, rfl, rfl, hP⟩ := hr
  show WP xs 343 3 (4 + 3) [vr s, vi p0, vr w, vs 2] [vi V, vi 0, vr w] (S, I1, T1, cc, zz) _
  refine w_i2l l_343_7 ?_
  refine w_lS 0 l_343_8 ho rfl (by decide) ?_
  refine w_go 15 l_343_9 (by decide) ?_
  refine w_ic l_343_15 (by decide) ?_
  refine w_ir l_343_16 (Or.inl rfl) ?_
  exact ⟨V, I1, T1, rfl, rfl, hP⟩

theorem wx_343_0 (o : oDropSwitch S T s q y) {p0 : Int} {P : Ix → Prop} (sp : CL xs 145 [vr s, vi p0] (S, I, T, cc, zz) (XP S T cc zz 0 P)) : CL xs 343 [vr s, vi p0, vr w] (S, I, T, cc, zz) (WXP S T cc zz 1 P) := by
  refine CL_start (r := 3) (ls := [vr s, vi p0, vr w, vs 2]) (rk_343 _) rfl ?_
  refine w_aln l_343_0 rfl ?_
  refine w_ic l_343_1 (by decide) ?_
  refine w_aln l_343_2 rfl ?_
  refine w_iln l_343_3 rfl ?_
  refine w_iv [vi p0] [vi 0, vr w] l_343_4 rfl rfl rfl (Nat.le_of_ble_eq_true rfl) (by rw [mx_145]; exact Nat.le_of_ble_eq_true rfl) (by rw [mt_145]; exact oDropSwitch_sh o) (by rw [mt_145]; decide) (by rw [rk_145]; decide) (CL_mono sp fun r m1 hr => ?_)
  obtain ⟨I1, rfl, rfl, hP⟩ := hr
  show WX xs 343 3 4 [vr s, vi p0, vr w, vs 2] 0 (S, I1, T, cc - 1, zz - 6) _
  refine WX_h (h := (0, 9, 12, 25)) (k := 3) (h' := 13) (by decide +kernel) (by decide +kernel) ⟨Nat.le_of_ble_eq_true rfl, rfl⟩ ?_
  refine w_ic l_343_13 (by decide) ?_
  refine w_ir l_343_14 (Or.inl rfl) ?_
  exact ⟨I1, rfl, rfl, hP⟩

end COV
