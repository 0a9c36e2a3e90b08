/-! the reference's reader: policers, codes, the pile -/
section RFY
variable {xs : List Int} {S : List (Nat × Nat)} {T : Nat → Nat → Nat} {cc zz s : Nat} {I I' : Ix} {t : Nat → Int} {n : Nat}

theorem mx_185 : mxl 185 = 4 := by decide +kernel
theorem mt_185 : mtc 185 = 10 := by decide +kernel
theorem rk_185 (as : List AV) : rkA 185 as = 5 := rfl
theorem l_185_0 : look 185 0 = some (.aload_n 0, 1, 0, 0, 0, 0) := by decide +kernel
theorem l_185_1 : look 185 1 = some (.invokevirtual 221, 3, 184, 1, 0, 1813) := by decide +kernel
theorem l_185_4 : look 185 4 = some (.istore_n 1, 1, 0, 0, 0, 0) := by decide +kernel
theorem l_185_5 : look 185 5 = some (.aload_n 0, 1, 0, 0, 0, 0) := by decide +kernel
theorem l_185_6 : look 185 6 = some (.iconst 0, 1, 0, 0, 0, 0) := by decide +kernel
theorem l_185_7 : look 185 7 = some (.bipush 99, 2, 0, 0, 0, 0) := by decide +kernel
theorem l_185_9 : look 185 9 = some (.invokevirtual 217, 3, 180, 3, 0, 1804) := by decide +kernel
theorem l_185_12 : look 185 12 = some (.istore_n 2, 1, 0, 0, 0, 0) := by decide +kernel
theorem l_185_13 : look 185 13 = some (.aload_n 0, 1, 0, 0, 0, 0) := by decide +kernel
theorem l_185_14 : look 185 14 = some (.iconst 0, 1, 0, 0, 0, 0) := by decide +kernel
theorem l_185_15 : look 185 15 = some (.bipush 99, 2, 0, 0, 0, 0) := by decide +kernel
theorem l_185_17 : look 185 17 = some (.invokevirtual 217, 3, 180, 3, 0, 1804) := by decide +kernel
theorem l_185_20 : look 185 20 = some (.istore_n 3, 1, 0, 0, 0, 0) := by decide +kernel
theorem l_185_21 : look 185 21 = some (.aload_n 0, 1, 0, 0, 0, 0) := by decide +kernel
theorem l_185_22 : look 185 22 = some (.invokevirtual 182, 3, 175, 1, 0, 1750) := by decide +kernel
theorem l_185_25 : look 185 25 = some (.ifCond .ne 17, 3, 0, 0, 0, 0) := by decide +kernel
theorem l_185_28 : look 185 28 = some (.aload_n 0, 1, 0, 0, 0, 0) := by decide +kernel
theorem l_185_29 : look 185 29 = some (.getfield 71, 3, 10, 29, 2, 1530) := by decide +kernel
theorem l_185_32 : look 185 32 = some (.iload_n 1, 1, 0, 0, 0, 0) := by decide +kernel
theorem l_185_33 : look 185 33 = some (.iload_n 2, 1, 0, 0, 0, 0) := by decide +kernel
theorem l_185_34 : look 185 34 = some (.iastore, 1, 0, 0, 0, 0) := by decide +kernel
theorem l_185_35 : look 185 35 = some (.aload_n 0, 1, 0, 0, 0, 0) := by decide +kernel
theorem l_185_36 : look 185 36 = some (.getfield 74, 3, 10, 30, 2, 1531) := by decide +kernel
theorem l_185_39 : look 185 39 = some (.iload_n 1, 1, 0, 0, 0, 0) := by decide +kernel
theorem l_185_40 : look 185 40 = some (.iload_n 3, 1, 0, 0, 0, 0) := by decide +kernel
theorem l_185_41 : look 185 41 = some (.iastore, 1, 0, 0, 0, 0) := by decide +kernel
theorem l_185_42 : look 185 42 = some (.return_, 1, 0, 0, 0, 0) := by decide +kernel

/-- what stands behind the word "police" -/
def polM (t : Nat → Int) (n : Nat) (P : Ps) (p : Nat) : PR (Ps × Nat) := match portR t n P p with
  | .inl e => .inl e
  | .inr (i, p2) => match numR t n 0 99 p2 with
    | .inl e => .inl e
    | .inr (r, p3) => match numR t n 0 99 p3 with
      | .inl e => .inl e
      | .inr (b, p4) => .inr (psPol P i r b, p4)
theorem polL_M {t : Nat → Int} {n : Nat} {P : Ps} {p : Nat} : polL t n P p = polM t n P (nxt t n p) := rfl
theorem s_185 (hm : oModel S T s) (H : mTx I s t n) {P : Ps} {tot : Nat} (Z : mSU I s P [] tot) {p : Nat} (A : mAt I s t n p) (h24 : I s 24 = 0) : CL xs 185 [vr s] (S, I, T, cc, zz) (RP S T cc zz (fun v I' => v = none ∧ fP I I' s ∧ mRO I s I' (polM t n P p) (fun a => mAt I' s t n a.2 ∧ mSU I' s a.1 [] tot))) := by
  cases hq1 : portR t n P p with
  | inl e9 =>
    refine CL_start (r := 5) (ls := [vr s, vs 2, vs 2, vs 2]) (rk_185 _) rfl ?_
    refine w_aln l_185_0 rfl ?_
    refine p_iv [] [] l_185_1 rfl rfl (Nat.le_of_ble_eq_true rfl) (by rw [mx_184]; exact Nat.le_of_ble_eq_true rfl) (by rw [mt_184]; exact oModel_sh hm) (by rw [mt_184]; decide) (by rw [rk_184]; decide) (by have g9 := s_184 (xs := xs) (cc := cc) (zz := zz) hm H Z A h24; rw [hq1] at g9; exact g9) (fun v I1 hv => ?_)
    obtain ⟨⟨z1, rfl⟩, f1, he, e24, e23⟩ := hv
    refine w_isn l_185_4 ⟨Nat.le_of_ble_eq_true rfl, rfl⟩ ?_
    refine w_aln l_185_5 rfl ?_
    refine w_ic l_185_6 (by decide) ?_
    refine w_bp l_185_7 (by decide) ?_
    refine q_iv [vi 0, vi 99] [] l_185_9 rfl rfl (Nat.le_of_ble_eq_true rfl) (by rw [mx_180]; exact Nat.le_of_ble_eq_true rfl) (by rw [mt_180]; exact oModel_sh hm) (by rw [mt_180]; decide) (by rw [rk_180]; decide) (s_180f hm e24 (by omega)) ?_
    refine w_isn l_185_12 ⟨Nat.le_of_ble_eq_true rfl, rfl⟩ ?_
    refine w_aln l_185_13 rfl ?_
    refine w_ic l_185_14 (by decide) ?_
    refine w_bp l_185_15 (by decide) ?_
    refine q_iv [vi 0, vi 99] [] l_185_17 rfl rfl (Nat.le_of_ble_eq_true rfl) (by rw [mx_180]; exact Nat.le_of_ble_eq_true rfl) (by rw [mt_180]; exact oModel_sh hm) (by rw [mt_180]; decide) (by rw [rk_180]; decide) (s_180f hm e24 (by omega)) ?_
    refine w_isn l_185_20 ⟨Nat.le_of_ble_eq_true rfl, rfl⟩ ?_
    refine w_aln l_185_21 rfl ?_
    refine q_iv [] [] l_185_22 rfl rfl (Nat.le_of_ble_eq_true rfl) (by rw [mx_175]; exact Nat.le_of_ble_eq_true rfl) (by rw [mt_175]; exact oModel_sh hm) (by rw [mt_175]; decide) (by rw [rk_175]; decide) (s_175_1 (k := ((e9.1 : Nat) : Int)) hm e24 (by omega)) ?_
    refine w_zne 42 l_185_25 (by decide) (fun _ => ?_) (fun hx => absurd hx (by decide))
    refine w_vr l_185_42 ?_
    have hR : polM t n P p = .inl e9 := by
      unfold polM
      simp only [hq1]
    exact ⟨_, _, rfl, rfl, rfl, f1.P, by rw [hR]; exact ⟨he, e24, e23⟩⟩
  | inr a1 =>
    obtain ⟨i, p1⟩ := a1
    have hpi := portR_ok hq1
    have hp4 := Z.2.2.1.1.1
    have hi4 : i < 4 := by have : i < lPorts P.1 := hpi.1; omega
    cases hq2 : numR t n 0 99 p1 with
    | inl e9 =>
      refine CL_start (r := 5) (ls := [vr s, vs 2, vs 2, vs 2]) (rk_185 _) rfl ?_
      refine w_aln l_185_0 rfl ?_
      refine p_iv [] [] l_185_1 rfl rfl (Nat.le_of_ble_eq_true rfl) (by rw [mx_184]; exact Nat.le_of_ble_eq_true rfl) (by rw [mt_184]; exact oModel_sh hm) (by rw [mt_184]; decide) (by rw [rk_184]; decide) (by have g9 := s_184 (xs := xs) (cc := cc) (zz := zz) hm H Z A h24; rw [hq1] at g9; exact g9) (fun v I1 hv => ?_)
      obtain ⟨_, f1, ⟨k241, k231⟩, rfl, A1⟩ := hv
      refine w_isn l_185_4 ⟨Nat.le_of_ble_eq_true rfl, rfl⟩ ?_
      refine w_aln l_185_5 rfl ?_
      refine w_ic l_185_6 (by decide) ?_
      refine w_bp l_185_7 (by decide) ?_
      refine p_iv [vi 0, vi 99] [] l_185_9 rfl rfl (Nat.le_of_ble_eq_true rfl) (by rw [mx_180]; exact Nat.le_of_ble_eq_true rfl) (by rw [mt_180]; exact oModel_sh hm) (by rw [mt_180]; decide) (by rw [rk_180]; decide) (by have g9 := s_180A (xs := xs) (cc := cc) (zz := zz) (lo := 0) (hi := 99) hm (H.fT f1) A1 k241; rw [hq2] at g9; exact g9) (fun v I2 hv => ?_)
      obtain ⟨⟨z2, rfl⟩, f2, he, e24, e23⟩ := hv
      refine w_isn l_185_12 ⟨Nat.le_of_ble_eq_true rfl, rfl⟩ ?_
      refine w_aln l_185_13 rfl ?_
      refine w_ic l_185_14 (by decide) ?_
      refine w_bp l_185_15 (by decide) ?_
      refine q_iv [vi 0, vi 99] [] l_185_17 rfl rfl (Nat.le_of_ble_eq_true rfl) (by rw [mx_180]; exact Nat.le_of_ble_eq_true rfl) (by rw [mt_180]; exact oModel_sh hm) (by rw [mt_180]; decide) (by rw [rk_180]; decide) (s_180f hm e24 (by omega)) ?_
      refine w_isn l_185_20 ⟨Nat.le_of_ble_eq_true rfl, rfl⟩ ?_
      refine w_aln l_185_21 rfl ?_
      refine q_iv [] [] l_185_22 rfl rfl (Nat.le_of_ble_eq_true rfl) (by rw [mx_175]; exact Nat.le_of_ble_eq_true rfl) (by rw [mt_175]; exact oModel_sh hm) (by rw [mt_175]; decide) (by rw [rk_175]; decide) (s_175_1 (k := ((e9.1 : Nat) : Int)) hm e24 (by omega)) ?_
      refine w_zne 42 l_185_25 (by decide) (fun _ => ?_) (fun hx => absurd hx (by decide))
      refine w_vr l_185_42 ?_
      have hR : polM t n P p = .inl e9 := by
        unfold polM
        simp only [hq1, hq2]
      exact ⟨_, _, rfl, rfl, rfl, (f1.tr f2).P, by rw [hR]; exact ⟨he, e24, e23⟩⟩
    | inr a2 =>
      obtain ⟨r, p2⟩ := a2
      have hn2 := numR_ok hq2
      cases hq3 : numR t n 0 99 p2 with
      | inl e9 =>
        refine CL_start (r := 5) (ls := [vr s, vs 2, vs 2, vs 2]) (rk_185 _) rfl ?_
        refine w_aln l_185_0 rfl ?_
        refine p_iv [] [] l_185_1 rfl rfl (Nat.le_of_ble_eq_true rfl) (by rw [mx_184]; exact Nat.le_of_ble_eq_true rfl) (by rw [mt_184]; exact oModel_sh hm) (by rw [mt_184]; decide) (by rw [rk_184]; decide) (by have g9 := s_184 (xs := xs) (cc := cc) (zz := zz) hm H Z A h24; rw [hq1] at g9; exact g9) (fun v I1 hv => ?_)
        obtain ⟨_, f1, ⟨k241, k231⟩, rfl, A1⟩ := hv
        refine w_isn l_185_4 ⟨Nat.le_of_ble_eq_true rfl, rfl⟩ ?_
        refine w_aln l_185_5 rfl ?_
        refine w_ic l_185_6 (by decide) ?_
        refine w_bp l_185_7 (by decide) ?_
        refine p_iv [vi 0, vi 99] [] l_185_9 rfl rfl (Nat.le_of_ble_eq_true rfl) (by rw [mx_180]; exact Nat.le_of_ble_eq_true rfl) (by rw [mt_180]; exact oModel_sh hm) (by rw [mt_180]; decide) (by rw [rk_180]; decide) (by have g9 := s_180A (xs := xs) (cc := cc) (zz := zz) (lo := 0) (hi := 99) hm (H.fT f1) A1 k241; rw [hq2] at g9; exact g9) (fun v I2 hv => ?_)
        obtain ⟨_, f2, ⟨k242, k232⟩, rfl, A2⟩ := hv
        refine w_isn l_185_12 ⟨Nat.le_of_ble_eq_true rfl, rfl⟩ ?_
        refine w_aln l_185_13 rfl ?_
        refine w_ic l_185_14 (by decide) ?_
        refine w_bp l_185_15 (by decide) ?_
        refine p_iv [vi 0, vi 99] [] l_185_17 rfl rfl (Nat.le_of_ble_eq_true rfl) (by rw [mx_180]; exact Nat.le_of_ble_eq_true rfl) (by rw [mt_180]; exact oModel_sh hm) (by rw [mt_180]; decide) (by rw [rk_180]; decide) (by have g9 := s_180A (xs := xs) (cc := cc) (zz := zz) (lo := 0) (hi := 99) hm ((H.fT f1).fT f2) A2 k242; rw [hq3] at g9; exact g9) (fun v I3 hv => ?_)
        obtain ⟨⟨z3, rfl⟩, f3, he, e24, e23⟩ := hv
        refine w_isn l_185_20 ⟨Nat.le_of_ble_eq_true rfl, rfl⟩ ?_
        refine w_aln l_185_21 rfl ?_
        refine q_iv [] [] l_185_22 rfl rfl (Nat.le_of_ble_eq_true rfl) (by rw [mx_175]; exact Nat.le_of_ble_eq_true rfl) (by rw [mt_175]; exact oModel_sh hm) (by rw [mt_175]; decide) (by rw [rk_175]; decide) (s_175_1 (k := ((e9.1 : Nat) : Int)) hm e24 (by omega)) ?_
        refine w_zne 42 l_185_25 (by decide) (fun _ => ?_) (fun hx => absurd hx (by decide))
        refine w_vr l_185_42 ?_
        have hR : polM t n P p = .inl e9 := by
          unfold polM
          simp only [hq1, hq2, hq3]
        exact ⟨_, _, rfl, rfl, rfl, ((f1.tr f2).tr f3).P, by rw [hR]; exact ⟨he, e24, e23⟩⟩
      | inr a3 =>
        obtain ⟨b, p3⟩ := a3
        have hn3 := numR_ok hq3
        refine CL_start (r := 5) (ls := [vr s, vs 2, vs 2, vs 2]) (rk_185 _) rfl ?_
        refine w_aln l_185_0 rfl ?_
        refine p_iv [] [] l_185_1 rfl rfl (Nat.le_of_ble_eq_true rfl) (by rw [mx_184]; exact Nat.le_of_ble_eq_true rfl) (by rw [mt_184]; exact oModel_sh hm) (by rw [mt_184]; decide) (by rw [rk_184]; decide) (by have g9 := s_184 (xs := xs) (cc := cc) (zz := zz) hm H Z A h24; rw [hq1] at g9; exact g9) (fun v I1 hv => ?_)
        obtain ⟨_, f1, ⟨k241, k231⟩, rfl, A1⟩ := hv
        refine w_isn l_185_4 ⟨Nat.le_of_ble_eq_true rfl, rfl⟩ ?_
        refine w_aln l_185_5 rfl ?_
        refine w_ic l_185_6 (by decide) ?_
        refine w_bp l_185_7 (by decide) ?_
        refine p_iv [vi 0, vi 99] [] l_185_9 rfl rfl (Nat.le_of_ble_eq_true rfl) (by rw [mx_180]; exact Nat.le_of_ble_eq_true rfl) (by rw [mt_180]; exact oModel_sh hm) (by rw [mt_180]; decide) (by rw [rk_180]; decide) (by have g9 := s_180A (xs := xs) (cc := cc) (zz := zz) (lo := 0) (hi := 99) hm (H.fT f1) A1 k241; rw [hq2] at g9; exact g9) (fun v I2 hv => ?_)
        obtain ⟨_, f2, ⟨k242, k232⟩, rfl, A2⟩ := hv
        refine w_isn l_185_12 ⟨Nat.le_of_ble_eq_true rfl, rfl⟩ ?_
        refine w_aln l_185_13 rfl ?_
        refine w_ic l_185_14 (by decide) ?_
        refine w_bp l_185_15 (by decide) ?_
        refine p_iv [vi 0, vi 99] [] l_185_17 rfl rfl (Nat.le_of_ble_eq_true rfl) (by rw [mx_180]; exact Nat.le_of_ble_eq_true rfl) (by rw [mt_180]; exact oModel_sh hm) (by rw [mt_180]; decide) (by rw [rk_180]; decide) (by have g9 := s_180A (xs := xs) (cc := cc) (zz := zz) (lo := 0) (hi := 99) hm ((H.fT f1).fT f2) A2 k242; rw [hq3] at g9; exact g9) (fun v I3 hv => ?_)
        obtain ⟨_, f3, ⟨k243, k233⟩, rfl, A3⟩ := hv
        refine w_isn l_185_20 ⟨Nat.le_of_ble_eq_true rfl, rfl⟩ ?_
        refine w_aln l_185_21 rfl ?_
        refine q_iv [] [] l_185_22 rfl rfl (Nat.le_of_ble_eq_true rfl) (by rw [mx_175]; exact Nat.le_of_ble_eq_true rfl) (by rw [mt_175]; exact oModel_sh hm) (by rw [mt_175]; decide) (by rw [rk_175]; decide) (s_175_0 hm k243) ?_
        refine w_zne 42 l_185_25 (by decide) (fun hx => absurd hx (by decide)) (fun _ => ?_)
        refine w_aln l_185_28 rfl ?_
        refine w_gr l_185_29 (oModel_sh hm) (oModel_r29 hm) ?_
        refine w_iln l_185_32 rfl ?_
        refine w_iln l_185_33 rfl ?_
        refine w_iS i l_185_34 (oModel_s29 hm) rfl (by omega) ?_
        refine w_aln l_185_35 rfl ?_
        refine w_gr l_185_36 (oModel_sh hm) (oModel_r30 hm) ?_
        refine w_iln l_185_39 rfl ?_
        refine w_iln l_185_40 rfl ?_
        refine w_iS i l_185_41 (oModel_s30 hm) rfl (by omega) ?_
        refine w_vr l_185_42 ?_
        have hR : polM t n P p = .inr (psPol P i r b, p3) := by
          unfold polM
          simp only [hq1, hq2, hq3]
        have Z3 := Z.fT ((f1.tr f2).tr f3)
        refine ⟨_, _, rfl, rfl, rfl, ((((f1.tr f2).tr f3).P.up (Or.inr ⟨by omega, by omega⟩)).up (Or.inr ⟨by omega, by omega⟩)), ?_⟩
        rw [hR]
        refine ⟨⟨?_, ?_⟩, ⟨?_, ?_⟩⟩
        · repeat (rw [up_out (by omega)])
          exact k243
        · repeat (rw [up_out (by omega)])
          exact k233.trans (k232.trans k231)
        · obtain ⟨j9, a9, b9, c9⟩ := A3
          refine ⟨j9, ?_, b9, c9⟩
          repeat (rw [up_out (by omega)])
          exact a9
        · refine Z3.pol (okPs_pol Z.2.2.1 hpi.1 hn2.2.1 hn3.2.1) (fun z h1 h2 => ?_) (fun j h1 h2 z h3 => ?_) ?_ ?_
          · repeat (rw [up_out (by omega)])
          · repeat (rw [up_out (by omega)])
          all_goals (repeat (first | exact up_eq | rw [up_no (by omega)]))

end RFY
