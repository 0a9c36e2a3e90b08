/-! the class: suppositions are made -/
section CSP
variable {xs : List Int} {S : List (Nat × Nat)} {T : Nat → Nat → Nat} {cc zz s : Nat} {I I' : Ix}

theorem mx_92 : mxl 92 = 2 := by decide +kernel
theorem mt_92 : mtc 92 = 8 := by decide +kernel
theorem rk_92 (as : List AV) : rkA 92 as = 1 := rfl
theorem l_92_0 : look 92 0 = some (.aload_n 0, 1, 0, 0, 0, 0) := by decide +kernel
theorem l_92_1 : look 92 1 = some (.getfield 11, 3, 8, 0, 2, 659) := by decide +kernel
theorem l_92_4 : look 92 4 = some (.iconst (-1), 1, 0, 0, 0, 0) := by decide +kernel
theorem l_92_5 : look 92 5 = some (.invokestatic 19, 3, 305, 2, 1, 695) := by decide +kernel
theorem l_92_8 : look 92 8 = some (.iconst 0, 1, 0, 0, 0, 0) := by decide +kernel
theorem l_92_9 : look 92 9 = some (.istore_n 1, 1, 0, 0, 0, 0) := by decide +kernel
theorem l_92_10 : look 92 10 = some (.iload_n 1, 1, 0, 0, 0, 0) := by decide +kernel
theorem l_92_11 : look 92 11 = some (.bipush 120, 2, 0, 0, 0, 0) := by decide +kernel
theorem l_92_13 : look 92 13 = some (.if_icmp .ge 16, 3, 0, 0, 0, 0) := by decide +kernel
theorem l_92_16 : look 92 16 = some (.aload_n 0, 1, 0, 0, 0, 0) := by decide +kernel
theorem l_92_17 : look 92 17 = some (.getfield 15, 3, 8, 1, 2, 660) := by decide +kernel
theorem l_92_20 : look 92 20 = some (.iload_n 1, 1, 0, 0, 0, 0) := by decide +kernel
theorem l_92_21 : look 92 21 = some (.iconst 0, 1, 0, 0, 0, 0) := by decide +kernel
theorem l_92_22 : look 92 22 = some (.bastore, 1, 0, 0, 0, 0) := by decide +kernel
theorem l_92_23 : look 92 23 = some (.iinc 1 1, 3, 0, 0, 0, 0) := by decide +kernel
theorem l_92_26 : look 92 26 = some (.goto (-16), 3, 0, 0, 0, 0) := by decide +kernel
theorem l_92_29 : look 92 29 = some (.return_, 1, 0, 0, 0, 0) := by decide +kernel
theorem lp_92 (o : oSuppositions S T s) {J : Ix} : ∀ d k, k + d = 120 → WP xs 92 1 10 [vr s, vi ((k : Nat) : Int)] [] (S, (fl J (s + 2) k 0), T, cc, zz) (FN none (S, fl J (s + 2) 120 0, T, cc, zz)) := by
  intro d
  induction d with
  | zero =>
    intro k hk
    refine w_iln l_92_10 rfl ?_
    refine w_bp l_92_11 (by decide) ?_
    refine w_cge 29 l_92_13 (by decide) (fun _ => ?_) (fun hx => absurd hx (by omega))
    refine w_vr l_92_29 ?_
    have e9 : k = 120 := by omega
    rw [e9]
    exact ⟨rfl, rfl⟩
  | succ d ih =>
    intro k hk
    refine w_iln l_92_10 rfl ?_
    refine w_bp l_92_11 (by decide) ?_
    refine w_cge 29 l_92_13 (by decide) (fun hx => absurd hx (by omega)) (fun _ => ?_)
    refine w_aln l_92_16 rfl ?_
    refine w_gr l_92_17 (oSuppositions_sh o) (oSuppositions_r1 o) ?_
    refine w_iln l_92_20 rfl ?_
    refine w_ic l_92_21 (by decide) ?_
    refine w_zS k 0 l_92_22 (oSuppositions_s1 o) rfl (by omega) (by decide) ?_
    refine w_inc ((k + 1 : Nat) : Int) l_92_23 rfl rfl (by unfold wr; omega) ?_
    refine w_go 10 l_92_26 (by decide) ?_
    rw [fl_s]
    exact ih (k + 1) (by omega)
theorem s_92 (o : oSuppositions S T s) : CL xs 92 [vr s] (S, I, T, cc, zz) (FN none (S, fl (fl I (s + 1) 15 (-1)) (s + 2) 120 0, T, cc, zz)) := by
  refine CL_start (r := 1) (ls := [vr s, vs 2]) (rk_92 _) rfl ?_
  refine w_aln l_92_0 rfl ?_
  refine w_gr l_92_1 (oSuppositions_sh o) (oSuppositions_r0 o) ?_
  refine w_ic l_92_4 (by decide) ?_
  refine q_st [vr (s + 1), vi (-1)] [] l_92_5 (by decide) rfl rfl (Nat.le_of_ble_eq_true rfl) (by rw [mx_305]; exact Nat.le_of_ble_eq_true rfl) (by rw [rk_305]; decide) (s_305 (oSuppositions_s0 o) (by decide)) ?_
  refine w_ic l_92_8 (by decide) ?_
  refine w_isn l_92_9 ⟨Nat.le_of_ble_eq_true rfl, rfl⟩ ?_
  have e8 := lp_92 (xs := xs) (T := T) (cc := cc) (zz := zz) (J := fl I (s + 1) 15 (-1)) o 120 0 (by omega)
  rw [fl_0] at e8
  exact e8

theorem r_92 (o : oSuppositions S T s) : CL xs 92 [vr s] (S, I, T, cc, zz) (RP S T cc zz (fun v I' => v = none ∧ cSu I' s su0 ∧ fr I I' (s + 1) (s + 2))) := by
  refine CL_mono (s_92 o) ?_
  rintro q m' ⟨rfl, rfl⟩
  refine ⟨none, _, rfl, rfl, rfl, ⟨fun p hp => ?_, ?_, ?_, ?_, fun r hr => ?_, fun e he => ?_⟩, fun y hy z => ?_⟩
  · rw [fl_no (by omega), fl_in (by omega)]; rfl
  · rw [fl_no (by omega), fl_in (by omega)]; rfl
  · rw [fl_no (by omega), fl_in (by omega)]; rfl
  · rw [fl_no (by omega), fl_in (by omega)]; rfl
  · rw [fl_no (by omega), fl_in (by omega)]; exact ⟨fun _ => rfl, fun _ => rfl⟩
  · rw [fl_in he]; rfl
  · rw [fl_no (by omega), fl_no (by omega)]

end CSP
