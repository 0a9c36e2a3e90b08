/-! the class's reader: atoms, nestings -/
section RDA
variable {xs : List Int} {S : List (Nat × Nat)} {T : Nat → Nat → Nat} {cc zz s x y : Nat} {I I' : Ix} {t : Nat → Int} {n : Nat}

theorem n_0 (o : oReader S T s x y) (hsy : s < y) (hxy : x < y) {P : Ps} {tot : Nat} {p : Nat} {cs : Cd} (H : RT I s x t n p) (Z : SU I y P cs tot) (hb : 2 * tot + 2 * cs.length ≤ p) (hn : isNest t n p = true) : CL xs 47 [vr s, vi ((5 : Nat) : Int)] (S, I, T, cc, zz) (RP S T cc zz (fun v I' => fR I I' s y ∧ RO I s v I' (atomR t n P 0 p) (fun a => rTk I' s t n a.1 ∧ SU I' y P (cs ++ a.2) tot))) := by
  have he : (5 : Nat) ≤ 5 := Nat.le_refl _
  refine CL_start (r := 6 + 4 * (5 - 5)) (ls := [vr s, vi ((5 : Nat) : Int), vs 2]) (rk_47 he) rfl ?_
  refine w_iln l_47_0 rfl ?_
  refine w_ic l_47_1 (by decide) ?_
  refine w_clt 11 l_47_2 (by decide) (fun hx => absurd hx (by omega)) (fun _ => ?_)
  refine w_aln l_47_5 rfl ?_
  refine w_ic l_47_6 (by decide) ?_
  refine q_iv [vi 4] [] l_47_7 rfl rfl (Nat.le_of_ble_eq_true rfl) (by rw [mx_33]; exact Nat.le_of_ble_eq_true rfl) (by rw [mt_33]; exact oReader_sh o) (by rw [mt_33]; decide) (by rw [rk_33]; omega) (s_33 (k := 4) o H.2.2.1) ?_
  refine w_ir l_47_10 (by decide) ?_
  have hR9 : atomR t n P 0 p = .inl (4, p) := by
    unfold atomR
    rw [if_pos hn]
  exact ⟨_, _, rfl, rfl, (((fS.rf I s).up (by decide)).up (by decide)).R y, by rw [hR9]; exact ⟨rfl, (up_nj (by decide)).trans up_eq, up_eq⟩⟩

theorem n_s (o : oReader S T s x y) (hsy : s < y) (hxy : x < y) {P : Ps} {tot : Nat} {d e : Nat} (hed : e + (d + 1) = 5) (hA : CS xs S T cc zz s x y t n P tot 45 (e + 1) (atomR t n P d)) (hC : CS xs S T cc zz s x y t n P tot 43 (e + 1) (condR t n (atomR t n P d))) {p : Nat} {cs : Cd} (H : RT I s x t n p) (Z : SU I y P cs tot) (hb : 2 * tot + 2 * cs.length ≤ p) (hn : isNest t n p = true) : CL xs 47 [vr s, vi ((e : Nat) : Int)] (S, I, T, cc, zz) (RP S T cc zz (fun v I' => fR I I' s y ∧ RO I s v I' (atomR t n P (d + 1) p) (fun a => rTk I' s t n a.1 ∧ SU I' y P (cs ++ a.2) tot))) := by
  have he : e ≤ 5 := by omega
  have hpn := H.2.2.2.2
  have h600 := H.1.2.1
  have h4 := Z.2.2.2.1.1.1
  have hng := nxt_ge (t := t) (n := n) (p := p)
  have hnl := nxt_le (t := t) hpn
  cases hw5 : isWL t n (strB 5) p with
  | true =>
    cases hf1 : atomR t n P d (nxt t n p) with
    | inl e9 =>
      refine CL_start (r := 6 + 4 * (5 - e)) (ls := [vr s, vi ((e : Nat) : Int), vs 2]) (rk_47 he) rfl ?_
      refine w_iln l_47_0 rfl ?_
      refine w_ic l_47_1 (by decide) ?_
      refine w_clt 11 l_47_2 (by decide) (fun _ => ?_) (fun hx => absurd hx (by omega))
      refine w_aln l_47_11 rfl ?_
      refine w_ldc l_47_12 (by decide) ?_
      refine q_iv [vs (2 * 5 + 4)] [] l_47_14 rfl rfl (Nat.le_of_ble_eq_true rfl) (by rw [mx_34]; exact Nat.le_of_ble_eq_true rfl) (by rw [mt_34]; exact oReader_sh o) (by rw [mt_34]; decide) (by rw [rk_34]; omega) (s_34 o H (q := 5) (by decide)) ?_
      refine w_isn l_47_17 ⟨Nat.le_of_ble_eq_true rfl, rfl⟩ ?_
      refine w_aln l_47_18 rfl ?_
      refine p_iv [] [] l_47_19 rfl rfl (Nat.le_of_ble_eq_true rfl) (by rw [mx_32]; exact Nat.le_of_ble_eq_true rfl) (by rw [mt_32]; exact oReader_sh o) (by rw [mt_32]; decide) (by rw [rk_32]; omega) (s_32 o H.1 (tEnd_le H.2.2.2.2) H.2.1) (fun v I1 hv => ?_)
      obtain ⟨rfl, hk1, f1⟩ := hv
      have H1 : RT I1 s x t n (nxt t n p) := ⟨H.1.fS (oReader_ne o) f1.S, hk1⟩
      have Z1 := Z.fS hsy f1.S
      have F1 := (fR.rf I s y).tr (f1.S.R y)
      have B1 : I1 s 1 = I s 1 ∧ I1 s 2 = I s 2 := ⟨(f1 s 1 (fun _ => by decide)), (f1 s 2 (fun _ => by decide))⟩
      refine w_iln l_47_22 rfl ?_
      refine w_beq 49 l_47_23 (by decide) (fun hx => absurd hx (by rw [hw5]; decide)) (fun _ => ?_)
      refine w_aln l_47_26 rfl ?_
      refine w_iln l_47_27 rfl ?_
      refine w_ic l_47_28 (by decide) ?_
      refine w_add ((e + 1 : Nat) : Int) l_47_29 (by unfold wr; omega) ?_
      refine p_iv [vi ((e + 1 : Nat) : Int)] [] l_47_30 rfl rfl (Nat.le_of_ble_eq_true rfl) (by rw [mx_45]; exact Nat.le_of_ble_eq_true rfl) (by rw [mt_45]; exact oReader_sh o) (by rw [mt_45]; decide) (by rw [rk_45 (by omega)]; omega) (by have g9 := hA I1 (nxt t n p) cs H1 Z1 (by omega); rw [hf1] at g9; exact g9) (fun v I2 hv => ?_)
      obtain ⟨f2, rfl, e1, e2⟩ := hv
      have F2 := F1.tr f2
      refine w_zne 38 l_47_33 (by decide) (fun hx => absurd hx (by decide)) (fun _ => ?_)
      refine w_ic l_47_36 (by decide) ?_
      refine w_ir l_47_37 (by decide) ?_
      have hR9 : atomR t n P (d + 1) p = .inl e9 := by
        unfold atomR
        rw [if_pos hn, if_pos hw5, hf1]
      exact ⟨_, _, rfl, rfl, F2, by rw [hR9]; exact ⟨rfl, e1, e2⟩⟩
    | inr a9 =>
      obtain ⟨p2, c2⟩ := a9
      have hok := atom_ok h4 d _ hnl _ hf1
      have hok1 : nxt t n p + 2 * c2.length ≤ p2 := hok.1
      have hok2 : p2 ≤ n := hok.2.1
      refine CL_start (r := 6 + 4 * (5 - e)) (ls := [vr s, vi ((e : Nat) : Int), vs 2]) (rk_47 he) rfl ?_
      refine w_iln l_47_0 rfl ?_
      refine w_ic l_47_1 (by decide) ?_
      refine w_clt 11 l_47_2 (by decide) (fun _ => ?_) (fun hx => absurd hx (by omega))
      refine w_aln l_47_11 rfl ?_
      refine w_ldc l_47_12 (by decide) ?_
      refine q_iv [vs (2 * 5 + 4)] [] l_47_14 rfl rfl (Nat.le_of_ble_eq_true rfl) (by rw [mx_34]; exact Nat.le_of_ble_eq_true rfl) (by rw [mt_34]; exact oReader_sh o) (by rw [mt_34]; decide) (by rw [rk_34]; omega) (s_34 o H (q := 5) (by decide)) ?_
      refine w_isn l_47_17 ⟨Nat.le_of_ble_eq_true rfl, rfl⟩ ?_
      refine w_aln l_47_18 rfl ?_
      refine p_iv [] [] l_47_19 rfl rfl (Nat.le_of_ble_eq_true rfl) (by rw [mx_32]; exact Nat.le_of_ble_eq_true rfl) (by rw [mt_32]; exact oReader_sh o) (by rw [mt_32]; decide) (by rw [rk_32]; omega) (s_32 o H.1 (tEnd_le H.2.2.2.2) H.2.1) (fun v I1 hv => ?_)
      obtain ⟨rfl, hk1, f1⟩ := hv
      have H1 : RT I1 s x t n (nxt t n p) := ⟨H.1.fS (oReader_ne o) f1.S, hk1⟩
      have Z1 := Z.fS hsy f1.S
      have F1 := (fR.rf I s y).tr (f1.S.R y)
      have B1 : I1 s 1 = I s 1 ∧ I1 s 2 = I s 2 := ⟨(f1 s 1 (fun _ => by decide)), (f1 s 2 (fun _ => by decide))⟩
      refine w_iln l_47_22 rfl ?_
      refine w_beq 49 l_47_23 (by decide) (fun hx => absurd hx (by rw [hw5]; decide)) (fun _ => ?_)
      refine w_aln l_47_26 rfl ?_
      refine w_iln l_47_27 rfl ?_
      refine w_ic l_47_28 (by decide) ?_
      refine w_add ((e + 1 : Nat) : Int) l_47_29 (by unfold wr; omega) ?_
      refine p_iv [vi ((e + 1 : Nat) : Int)] [] l_47_30 rfl rfl (Nat.le_of_ble_eq_true rfl) (by rw [mx_45]; exact Nat.le_of_ble_eq_true rfl) (by rw [mt_45]; exact oReader_sh o) (by rw [mt_45]; decide) (by rw [rk_45 (by omega)]; omega) (by have g9 := hA I1 (nxt t n p) cs H1 Z1 (by omega); rw [hf1] at g9; exact g9) (fun v I2 hv => ?_)
      obtain ⟨f2, rfl, b2, hk2, Z2⟩ := hv
      have F2 := F1.tr f2
      have Z2 : SU I2 y P (cs ++ c2) tot := Z2
      have hk2 : rTk I2 s t n p2 := hk2
      have H2 : RT I2 s x t n p2 := ⟨H1.1.fR (oReader_ne o) ⟨hxy, hsy⟩ f2, hk2⟩
      refine w_zne 38 l_47_33 (by decide) (fun _ => ?_) (fun hx => absurd hx (by decide))
      refine w_aln l_47_38 rfl ?_
      refine w_gr l_47_39 (oReader_sh o) (oReader_r0 o) ?_
      refine w_ic l_47_42 (by decide) ?_
      refine w_ic l_47_43 (by decide) ?_
      refine p_iv [vi 0, vi 0] [] l_47_44 rfl rfl (Nat.le_of_ble_eq_true rfl) (by rw [mx_70]; exact Nat.le_of_ble_eq_true rfl) (by rw [mt_70]; exact oSetup_sh (oReader_o0 o)) (by rw [mt_70]; decide) (by rw [rk_70]; omega) (s_70 (oReader_o0 o) (c := (6, 0, 0)) (kd := 0) (wh := 0) Z2 (by decide) (by decide) (by decide) (by decide) (by rw [List.length_append]; omega)) (fun v I3 hv => ?_)
      obtain ⟨rfl, Z3, f3⟩ := hv
      refine w_ic l_47_47 (by decide) ?_
      refine w_ir l_47_48 (by decide) ?_
      have hR9 : atomR t n P (d + 1) p = .inr (p2, c2 ++ [(6, 0, 0)]) := by
        unfold atomR
        rw [if_pos hn, if_pos hw5, hf1]
      exact ⟨_, _, rfl, rfl, F2.tr (fun z w h1 h2 => f3 z w (by omega) (by omega)), by rw [hR9]; exact ⟨rfl, ⟨(f3 s 1 (by omega) (by omega)).trans (b2.1.trans (f1 s 1 (fun _ => by decide))), (f3 s 2 (by omega) (by omega)).trans (b2.2.trans (f1 s 2 (fun _ => by decide)))⟩, ⟨(f3 s 5 (by omega) (by omega)).trans hk2.1, (f3 s 6 (by omega) (by omega)).trans hk2.2.1, (f3 s 7 (by omega) (by omega)).trans hk2.2.2.1, hk2.2.2.2⟩, by rw [← List.append_assoc]; exact Z3⟩⟩
  | false =>
    cases hf1 : condR t n (atomR t n P d) (nxt t n p) with
    | inl e9 =>
      refine CL_start (r := 6 + 4 * (5 - e)) (ls := [vr s, vi ((e : Nat) : Int), vs 2]) (rk_47 he) rfl ?_
      refine w_iln l_47_0 rfl ?_
      refine w_ic l_47_1 (by decide) ?_
      refine w_clt 11 l_47_2 (by decide) (fun _ => ?_) (fun hx => absurd hx (by omega))
      refine w_aln l_47_11 rfl ?_
      refine w_ldc l_47_12 (by decide) ?_
      refine q_iv [vs (2 * 5 + 4)] [] l_47_14 rfl rfl (Nat.le_of_ble_eq_true rfl) (by rw [mx_34]; exact Nat.le_of_ble_eq_true rfl) (by rw [mt_34]; exact oReader_sh o) (by rw [mt_34]; decide) (by rw [rk_34]; omega) (s_34 o H (q := 5) (by decide)) ?_
      refine w_isn l_47_17 ⟨Nat.le_of_ble_eq_true rfl, rfl⟩ ?_
      refine w_aln l_47_18 rfl ?_
      refine p_iv [] [] l_47_19 rfl rfl (Nat.le_of_ble_eq_true rfl) (by rw [mx_32]; exact Nat.le_of_ble_eq_true rfl) (by rw [mt_32]; exact oReader_sh o) (by rw [mt_32]; decide) (by rw [rk_32]; omega) (s_32 o H.1 (tEnd_le H.2.2.2.2) H.2.1) (fun v I1 hv => ?_)
      obtain ⟨rfl, hk1, f1⟩ := hv
      have H1 : RT I1 s x t n (nxt t n p) := ⟨H.1.fS (oReader_ne o) f1.S, hk1⟩
      have Z1 := Z.fS hsy f1.S
      have F1 := (fR.rf I s y).tr (f1.S.R y)
      have B1 : I1 s 1 = I s 1 ∧ I1 s 2 = I s 2 := ⟨(f1 s 1 (fun _ => by decide)), (f1 s 2 (fun _ => by decide))⟩
      refine w_iln l_47_22 rfl ?_
      refine w_beq 49 l_47_23 (by decide) (fun _ => ?_) (fun hx => absurd hx (by rw [hw5]; decide))
      refine w_aln l_47_49 rfl ?_
      refine w_iln l_47_50 rfl ?_
      refine w_ic l_47_51 (by decide) ?_
      refine w_add ((e + 1 : Nat) : Int) l_47_52 (by unfold wr; omega) ?_
      refine p_iv [vi ((e + 1 : Nat) : Int)] [] l_47_53 rfl rfl (Nat.le_of_ble_eq_true rfl) (by rw [mx_43]; exact Nat.le_of_ble_eq_true rfl) (by rw [mt_43]; exact oReader_sh o) (by rw [mt_43]; decide) (by rw [rk_43 (by omega)]; omega) (by have g9 := hC I1 (nxt t n p) cs H1 Z1 (by omega); rw [hf1] at g9; exact g9) (fun v I2 hv => ?_)
      obtain ⟨f2, rfl, e1, e2⟩ := hv
      have F2 := F1.tr f2
      refine w_zne 61 l_47_56 (by decide) (fun hx => absurd hx (by decide)) (fun _ => ?_)
      refine w_ic l_47_59 (by decide) ?_
      refine w_ir l_47_60 (by decide) ?_
      have hR9 : atomR t n P (d + 1) p = .inl e9 := by
        unfold atomR
        rw [if_pos hn, if_neg (by rw [hw5]; decide), hf1]
      exact ⟨_, _, rfl, rfl, F2, by rw [hR9]; exact ⟨rfl, e1, e2⟩⟩
    | inr a9 =>
      obtain ⟨p2, c2⟩ := a9
      cases hs : isSg t n 41 p2 with
      | true =>
        refine CL_start (r := 6 + 4 * (5 - e)) (ls := [vr s, vi ((e : Nat) : Int), vs 2]) (rk_47 he) rfl ?_
        refine w_iln l_47_0 rfl ?_
        refine w_ic l_47_1 (by decide) ?_
        refine w_clt 11 l_47_2 (by decide) (fun _ => ?_) (fun hx => absurd hx (by omega))
        refine w_aln l_47_11 rfl ?_
        refine w_ldc l_47_12 (by decide) ?_
        refine q_iv [vs (2 * 5 + 4)] [] l_47_14 rfl rfl (Nat.le_of_ble_eq_true rfl) (by rw [mx_34]; exact Nat.le_of_ble_eq_true rfl) (by rw [mt_34]; exact oReader_sh o) (by rw [mt_34]; decide) (by rw [rk_34]; omega) (s_34 o H (q := 5) (by decide)) ?_
        refine w_isn l_47_17 ⟨Nat.le_of_ble_eq_true rfl, rfl⟩ ?_
        refine w_aln l_47_18 rfl ?_
        refine p_iv [] [] l_47_19 rfl rfl (Nat.le_of_ble_eq_true rfl) (by rw [mx_32]; exact Nat.le_of_ble_eq_true rfl) (by rw [mt_32]; exact oReader_sh o) (by rw [mt_32]; decide) (by rw [rk_32]; omega) (s_32 o H.1 (tEnd_le H.2.2.2.2) H.2.1) (fun v I1 hv => ?_)
        obtain ⟨rfl, hk1, f1⟩ := hv
        have H1 : RT I1 s x t n (nxt t n p) := ⟨H.1.fS (oReader_ne o) f1.S, hk1⟩
        have Z1 := Z.fS hsy f1.S
        have F1 := (fR.rf I s y).tr (f1.S.R y)
        have B1 : I1 s 1 = I s 1 ∧ I1 s 2 = I s 2 := ⟨(f1 s 1 (fun _ => by decide)), (f1 s 2 (fun _ => by decide))⟩
        refine w_iln l_47_22 rfl ?_
        refine w_beq 49 l_47_23 (by decide) (fun _ => ?_) (fun hx => absurd hx (by rw [hw5]; decide))
        refine w_aln l_47_49 rfl ?_
        refine w_iln l_47_50 rfl ?_
        refine w_ic l_47_51 (by decide) ?_
        refine w_add ((e + 1 : Nat) : Int) l_47_52 (by unfold wr; omega) ?_
        refine p_iv [vi ((e + 1 : Nat) : Int)] [] l_47_53 rfl rfl (Nat.le_of_ble_eq_true rfl) (by rw [mx_43]; exact Nat.le_of_ble_eq_true rfl) (by rw [mt_43]; exact oReader_sh o) (by rw [mt_43]; decide) (by rw [rk_43 (by omega)]; omega) (by have g9 := hC I1 (nxt t n p) cs H1 Z1 (by omega); rw [hf1] at g9; exact g9) (fun v I2 hv => ?_)
        obtain ⟨f2, rfl, b2, hk2, Z2⟩ := hv
        have F2 := F1.tr f2
        have Z2 : SU I2 y P (cs ++ c2) tot := Z2
        have hk2 : rTk I2 s t n p2 := hk2
        have H2 : RT I2 s x t n p2 := ⟨H1.1.fR (oReader_ne o) ⟨hxy, hsy⟩ f2, hk2⟩
        refine w_zne 61 l_47_56 (by decide) (fun _ => ?_) (fun hx => absurd hx (by decide))
        refine w_aln l_47_61 rfl ?_
        refine w_bp l_47_62 (by decide) ?_
        refine q_iv [vi 41] [] l_47_64 rfl rfl (Nat.le_of_ble_eq_true rfl) (by rw [mx_35]; exact Nat.le_of_ble_eq_true rfl) (by rw [mt_35]; exact oReader_sh o) (by rw [mt_35]; decide) (by rw [rk_35]; omega) ((show CL xs 35 [vr s, vi 41] (S, I2, T, cc, zz) (FN (some (vi (b2i (isSg t n 41 p2)))) (S, I2, T, cc, zz)) from s_35 (c := 41) o H2 (by decide))) ?_
        refine w_bne 76 l_47_67 (by decide) (fun _ => ?_) (fun hx => absurd hx (by rw [hs]; decide))
        refine w_aln l_47_76 rfl ?_
        refine p_iv [] [] l_47_77 rfl rfl (Nat.le_of_ble_eq_true rfl) (by rw [mx_32]; exact Nat.le_of_ble_eq_true rfl) (by rw [mt_32]; exact oReader_sh o) (by rw [mt_32]; decide) (by rw [rk_32]; omega) (s_32 o H2.1 (tEnd_le H2.2.2.2.2) H2.2.1) (fun v I3 hv => ?_)
        obtain ⟨rfl, hk3, f3⟩ := hv
        have H3 : RT I3 s x t n (nxt t n p2) := ⟨H2.1.fS (oReader_ne o) f3.S, hk3⟩
        have Z3 := Z2.fS hsy f3.S
        have F3 := F2.tr (f3.S.R y)
        refine w_ic l_47_80 (by decide) ?_
        refine w_ir l_47_81 (by decide) ?_
        have hR9 : atomR t n P (d + 1) p = .inr (nxt t n p2, c2) := by
          unfold atomR
          rw [if_pos hn, if_neg (by rw [hw5]; decide), hf1]
          exact if_pos hs
        exact ⟨_, _, rfl, rfl, F3, by rw [hR9]; exact ⟨rfl, ⟨(f3 s 1 (fun _ => by decide)).trans (b2.1.trans (f1 s 1 (fun _ => by decide))), (f3 s 2 (fun _ => by decide)).trans (b2.2.trans (f1 s 2 (fun _ => by decide)))⟩, hk3, Z3⟩⟩
      | false =>
        refine CL_start (r := 6 + 4 * (5 - e)) (ls := [vr s, vi ((e : Nat) : Int), vs 2]) (rk_47 he) rfl ?_
        refine w_iln l_47_0 rfl ?_
        refine w_ic l_47_1 (by decide) ?_
        refine w_clt 11 l_47_2 (by decide) (fun _ => ?_) (fun hx => absurd hx (by omega))
        refine w_aln l_47_11 rfl ?_
        refine w_ldc l_47_12 (by decide) ?_
        refine q_iv [vs (2 * 5 + 4)] [] l_47_14 rfl rfl (Nat.le_of_ble_eq_true rfl) (by rw [mx_34]; exact Nat.le_of_ble_eq_true rfl) (by rw [mt_34]; exact oReader_sh o) (by rw [mt_34]; decide) (by rw [rk_34]; omega) (s_34 o H (q := 5) (by decide)) ?_
        refine w_isn l_47_17 ⟨Nat.le_of_ble_eq_true rfl, rfl⟩ ?_
        refine w_aln l_47_18 rfl ?_
        refine p_iv [] [] l_47_19 rfl rfl (Nat.le_of_ble_eq_true rfl) (by rw [mx_32]; exact Nat.le_of_ble_eq_true rfl) (by rw [mt_32]; exact oReader_sh o) (by rw [mt_32]; decide) (by rw [rk_32]; omega) (s_32 o H.1 (tEnd_le H.2.2.2.2) H.2.1) (fun v I1 hv => ?_)
        obtain ⟨rfl, hk1, f1⟩ := hv
        have H1 : RT I1 s x t n (nxt t n p) := ⟨H.1.fS (oReader_ne o) f1.S, hk1⟩
        have Z1 := Z.fS hsy f1.S
        have F1 := (fR.rf I s y).tr (f1.S.R y)
        have B1 : I1 s 1 = I s 1 ∧ I1 s 2 = I s 2 := ⟨(f1 s 1 (fun _ => by decide)), (f1 s 2 (fun _ => by decide))⟩
        refine w_iln l_47_22 rfl ?_
        refine w_beq 49 l_47_23 (by decide) (fun _ => ?_) (fun hx => absurd hx (by rw [hw5]; decide))
        refine w_aln l_47_49 rfl ?_
        refine w_iln l_47_50 rfl ?_
        refine w_ic l_47_51 (by decide) ?_
        refine w_add ((e + 1 : Nat) : Int) l_47_52 (by unfold wr; omega) ?_
        refine p_iv [vi ((e + 1 : Nat) : Int)] [] l_47_53 rfl rfl (Nat.le_of_ble_eq_true rfl) (by rw [mx_43]; exact Nat.le_of_ble_eq_true rfl) (by rw [mt_43]; exact oReader_sh o) (by rw [mt_43]; decide) (by rw [rk_43 (by omega)]; omega) (by have g9 := hC I1 (nxt t n p) cs H1 Z1 (by omega); rw [hf1] at g9; exact g9) (fun v I2 hv => ?_)
        obtain ⟨f2, rfl, b2, hk2, Z2⟩ := hv
        have F2 := F1.tr f2
        have Z2 : SU I2 y P (cs ++ c2) tot := Z2
        have hk2 : rTk I2 s t n p2 := hk2
        have H2 : RT I2 s x t n p2 := ⟨H1.1.fR (oReader_ne o) ⟨hxy, hsy⟩ f2, hk2⟩
        refine w_zne 61 l_47_56 (by decide) (fun _ => ?_) (fun hx => absurd hx (by decide))
        refine w_aln l_47_61 rfl ?_
        refine w_bp l_47_62 (by decide) ?_
        refine q_iv [vi 41] [] l_47_64 rfl rfl (Nat.le_of_ble_eq_true rfl) (by rw [mx_35]; exact Nat.le_of_ble_eq_true rfl) (by rw [mt_35]; exact oReader_sh o) (by rw [mt_35]; decide) (by rw [rk_35]; omega) ((show CL xs 35 [vr s, vi 41] (S, I2, T, cc, zz) (FN (some (vi (b2i (isSg t n 41 p2)))) (S, I2, T, cc, zz)) from s_35 (c := 41) o H2 (by decide))) ?_
        refine w_bne 76 l_47_67 (by decide) (fun hx => absurd hx (by rw [hs]; decide)) (fun _ => ?_)
        refine w_aln l_47_70 rfl ?_
        refine w_ic l_47_71 (by decide) ?_
        refine q_iv [vi 1] [] l_47_72 rfl rfl (Nat.le_of_ble_eq_true rfl) (by rw [mx_33]; exact Nat.le_of_ble_eq_true rfl) (by rw [mt_33]; exact oReader_sh o) (by rw [mt_33]; decide) (by rw [rk_33]; omega) (s_33 (k := 1) o H2.2.2.1) ?_
        refine w_ir l_47_75 (by decide) ?_
        have hR9 : atomR t n P (d + 1) p = .inl (1, p2) := by
          unfold atomR
          rw [if_pos hn, if_neg (by rw [hw5]; decide), hf1]
          exact if_neg (by rw [hs]; decide)
        exact ⟨_, _, rfl, rfl, F2.tr ((((fS.rf I2 s).up (by decide)).up (by decide)).R y), by rw [hR9]; exact ⟨rfl, (up_nj (by decide)).trans up_eq, up_eq⟩⟩

theorem a_fact (o : oReader S T s x y) (hsy : s < y) (hxy : x < y) {P : Ps} {tot : Nat} {p : Nat} {cs : Cd} (H : RT I s x t n p) (Z : SU I y P cs tot) (hb : 2 * tot + 2 * cs.length ≤ p) {d e : Nat} (hed : e + d = 5) (hn : isNest t n p = false) {f : Nat} (hf3 : f ≤ 3) (hp2 : p < n) (hK : CL xs 46 [vr s] (S, I, T, cc, zz) (FN (some (vi ((5 + f : Nat) : Int))) (S, I, T, cc, zz))) (hlf : leafR t n P p = cmpR t n f (nxt t n p)) : CL xs 45 [vr s, vi ((e : Nat) : Int)] (S, I, T, cc, zz) (RP S T cc zz (fun v I' => fR I I' s y ∧ RO I s v I' (atomR t n P d p) (fun a => rTk I' s t n a.1 ∧ SU I' y P (cs ++ a.2) tot))) := by
  have he : e ≤ 5 := by omega
  have hpn := H.2.2.2.2
  have h600 := H.1.2.1
  have h4 := Z.2.2.2.1.1.1
  have hng := nxt_ge (t := t) (n := n) (p := p)
  have hnl := nxt_le (t := t) hpn
  have hxx : isWL t n (strB 5) p = false ∧ isSg t n 40 p = false := by
    unfold isNest at hn
    rw [Bool.or_eq_false_iff] at hn
    exact hn
  have hatom1 : ∀ e9, leafR t n P p = .inl e9 → atomR t n P d p = .inl e9 := fun e9 h9 => by
    cases d <;> (unfold atomR; rw [if_neg (by rw [hn]; decide), h9])
  have hatom2 : ∀ a9, leafR t n P p = .inr a9 → atomR t n P d p = .inr (a9.1, [a9.2]) := fun a9 h9 => by
    cases d <;> (unfold atomR; rw [if_neg (by rw [hn]; decide), h9])
  cases h60 : isSg t n 60 (nxt t n p) with
  | true =>
    cases hq : numR t n 0 999 (nxt t n (nxt t n p)) with
    | inl e9 =>
      refine CL_start (r := 7 + 4 * (5 - e)) (ls := [vr s, vi ((e : Nat) : Int), vs 2, vs 2, vs 2]) (rk_45 he) rfl ?_
      refine w_aln l_45_0 rfl ?_
      refine w_ldc l_45_1 (by decide) ?_
      refine q_iv [vs (2 * 5 + 4)] [] l_45_3 rfl rfl (Nat.le_of_ble_eq_true rfl) (by rw [mx_34]; exact Nat.le_of_ble_eq_true rfl) (by rw [mt_34]; exact oReader_sh o) (by rw [mt_34]; decide) (by rw [rk_34]; omega) (s_34 o H (q := 5) (by decide)) ?_
      refine w_bne 18 l_45_6 (by decide) (fun hx => absurd hx (by rw [hxx.1]; decide)) (fun _ => ?_)
      refine w_aln l_45_9 rfl ?_
      refine w_bp l_45_10 (by decide) ?_
      refine q_iv [vi 40] [] l_45_12 rfl rfl (Nat.le_of_ble_eq_true rfl) (by rw [mx_35]; exact Nat.le_of_ble_eq_true rfl) (by rw [mt_35]; exact oReader_sh o) (by rw [mt_35]; decide) (by rw [rk_35]; omega) ((show CL xs 35 [vr s, vi 40] (S, I, T, cc, zz) (FN (some (vi (b2i (isSg t n 40 p)))) (S, I, T, cc, zz)) from s_35 (c := 40) o H (by decide))) ?_
      refine w_beq 24 l_45_15 (by decide) (fun _ => ?_) (fun hx => absurd hx (by rw [hxx.2]; decide))
      refine w_aln l_45_24 rfl ?_
      refine q_iv [] [] l_45_25 rfl rfl (Nat.le_of_ble_eq_true rfl) (by rw [mx_46]; exact Nat.le_of_ble_eq_true rfl) (by rw [mt_46]; exact oReader_sh o) (by rw [mt_46]; decide) (by rw [rk_46]; omega) (hK) ?_
      refine w_isn l_45_28 ⟨Nat.le_of_ble_eq_true rfl, rfl⟩ ?_
      refine w_iln l_45_29 rfl ?_
      refine w_ic l_45_30 (by decide) ?_
      refine w_cne 40 l_45_31 (by decide) (fun _ => ?_) (fun hx => absurd hx (by omega))
      refine w_aln l_45_40 rfl ?_
      refine p_iv [] [] l_45_41 rfl rfl (Nat.le_of_ble_eq_true rfl) (by rw [mx_32]; exact Nat.le_of_ble_eq_true rfl) (by rw [mt_32]; exact oReader_sh o) (by rw [mt_32]; decide) (by rw [rk_32]; omega) (s_32 o H.1 (tEnd_le H.2.2.2.2) H.2.1) (fun v I1 hv => ?_)
      obtain ⟨rfl, hk1, f1⟩ := hv
      have H1 : RT I1 s x t n (nxt t n p) := ⟨H.1.fS (oReader_ne o) f1.S, hk1⟩
      have Z1 := Z.fS hsy f1.S
      have F1 := (fR.rf I s y).tr (f1.S.R y)
      have B1 : I1 s 1 = I s 1 ∧ I1 s 2 = I s 2 := ⟨(f1 s 1 (fun _ => by decide)), (f1 s 2 (fun _ => by decide))⟩
      refine w_ic l_45_44 (by decide) ?_
      refine w_isn l_45_45 ⟨Nat.le_of_ble_eq_true rfl, rfl⟩ ?_
      refine w_iln l_45_46 rfl ?_
      refine w_ic l_45_47 (by decide) ?_
      refine w_cne 69 l_45_48 (by decide) (fun _ => ?_) (fun hx => absurd hx (by omega))
      refine w_iln l_45_69 rfl ?_
      refine w_ic l_45_70 (by decide) ?_
      refine w_ceq 150 l_45_71 (by decide) (fun hx => absurd hx (by omega)) (fun _ => ?_)
      refine w_aln l_45_74 rfl ?_
      refine w_bp l_45_75 (by decide) ?_
      refine q_iv [vi 60] [] l_45_77 rfl rfl (Nat.le_of_ble_eq_true rfl) (by rw [mx_35]; exact Nat.le_of_ble_eq_true rfl) (by rw [mt_35]; exact oReader_sh o) (by rw [mt_35]; decide) (by rw [rk_35]; omega) ((show CL xs 35 [vr s, vi 60] (S, I1, T, cc, zz) (FN (some (vi (b2i (isSg t n 60 (nxt t n p))))) (S, I1, T, cc, zz)) from s_35 (c := 60) o H1 (by decide))) ?_
      refine w_beq 87 l_45_80 (by decide) (fun hx => absurd hx (by rw [h60]; decide)) (fun _ => ?_)
      refine w_ic l_45_83 (by decide) ?_
      refine w_go 101 l_45_84 (by decide) ?_
      refine w_is l_45_101 ⟨Nat.le_of_ble_eq_true rfl, rfl⟩ ?_
      refine w_il l_45_103 rfl ?_
      refine w_zne 123 l_45_105 (by decide) (fun _ => ?_) (fun hx => absurd hx (by decide))
      refine w_aln l_45_123 rfl ?_
      refine p_iv [] [] l_45_124 rfl rfl (Nat.le_of_ble_eq_true rfl) (by rw [mx_32]; exact Nat.le_of_ble_eq_true rfl) (by rw [mt_32]; exact oReader_sh o) (by rw [mt_32]; decide) (by rw [rk_32]; omega) (s_32 o H1.1 (tEnd_le H1.2.2.2.2) H1.2.1) (fun v I2 hv => ?_)
      obtain ⟨rfl, hk2, f2⟩ := hv
      have H2 : RT I2 s x t n (nxt t n (nxt t n p)) := ⟨H1.1.fS (oReader_ne o) f2.S, hk2⟩
      have Z2 := Z1.fS hsy f2.S
      have F2 := F1.tr (f2.S.R y)
      have B2 : I2 s 1 = I s 1 ∧ I2 s 2 = I s 2 := ⟨(f2 s 1 (fun _ => by decide)).trans B1.1, (f2 s 2 (fun _ => by decide)).trans B1.2⟩
      refine w_aln l_45_127 rfl ?_
      refine w_ic l_45_128 (by decide) ?_
      refine w_sp l_45_129 (by decide) ?_
      refine p_iv [vi 0, vi 999] [] l_45_132 rfl rfl (Nat.le_of_ble_eq_true rfl) (by rw [mx_37]; exact Nat.le_of_ble_eq_true rfl) (by rw [mt_37]; exact oReader_sh o) (by rw [mt_37]; decide) (by rw [rk_37]; omega) (by have g9 := s_37 (xs := xs) (cc := cc) (zz := zz) o H2 (lo := 0) (hi := 999); rw [hq] at g9; exact g9) (fun v I3 hv => ?_)
      obtain ⟨f3, rfl, e1, e2⟩ := hv
      have F3 := F2.tr (f3.S.R y)
      have Z3 := Z2.fS hsy f3.S
      refine w_zne 140 l_45_135 (by decide) (fun hx => absurd hx (by decide)) (fun _ => ?_)
      refine w_ic l_45_138 (by decide) ?_
      refine w_ir l_45_139 (by decide) ?_
      have hL9 : leafR t n P p = .inl e9 := by
        rw [hlf]
        unfold cmpR
        rw [if_pos (by rw [h60]; rfl), hq]
      have hR9 := hatom1 _ hL9
      exact ⟨_, _, rfl, rfl, F3, by rw [hR9]; exact ⟨rfl, e1, e2⟩⟩
    | inr a9 =>
      obtain ⟨v, p3⟩ := a9
      refine CL_start (r := 7 + 4 * (5 - e)) (ls := [vr s, vi ((e : Nat) : Int), vs 2, vs 2, vs 2]) (rk_45 he) rfl ?_
      refine w_aln l_45_0 rfl ?_
      refine w_ldc l_45_1 (by decide) ?_
      refine q_iv [vs (2 * 5 + 4)] [] l_45_3 rfl rfl (Nat.le_of_ble_eq_true rfl) (by rw [mx_34]; exact Nat.le_of_ble_eq_true rfl) (by rw [mt_34]; exact oReader_sh o) (by rw [mt_34]; decide) (by rw [rk_34]; omega) (s_34 o H (q := 5) (by decide)) ?_
      refine w_bne 18 l_45_6 (by decide) (fun hx => absurd hx (by rw [hxx.1]; decide)) (fun _ => ?_)
      refine w_aln l_45_9 rfl ?_
      refine w_bp l_45_10 (by decide) ?_
      refine q_iv [vi 40] [] l_45_12 rfl rfl (Nat.le_of_ble_eq_true rfl) (by rw [mx_35]; exact Nat.le_of_ble_eq_true rfl) (by rw [mt_35]; exact oReader_sh o) (by rw [mt_35]; decide) (by rw [rk_35]; omega) ((show CL xs 35 [vr s, vi 40] (S, I, T, cc, zz) (FN (some (vi (b2i (isSg t n 40 p)))) (S, I, T, cc, zz)) from s_35 (c := 40) o H (by decide))) ?_
      refine w_beq 24 l_45_15 (by decide) (fun _ => ?_) (fun hx => absurd hx (by rw [hxx.2]; decide))
      refine w_aln l_45_24 rfl ?_
      refine q_iv [] [] l_45_25 rfl rfl (Nat.le_of_ble_eq_true rfl) (by rw [mx_46]; exact Nat.le_of_ble_eq_true rfl) (by rw [mt_46]; exact oReader_sh o) (by rw [mt_46]; decide) (by rw [rk_46]; omega) (hK) ?_
      refine w_isn l_45_28 ⟨Nat.le_of_ble_eq_true rfl, rfl⟩ ?_
      refine w_iln l_45_29 rfl ?_
      refine w_ic l_45_30 (by decide) ?_
      refine w_cne 40 l_45_31 (by decide) (fun _ => ?_) (fun hx => absurd hx (by omega))
      refine w_aln l_45_40 rfl ?_
      refine p_iv [] [] l_45_41 rfl rfl (Nat.le_of_ble_eq_true rfl) (by rw [mx_32]; exact Nat.le_of_ble_eq_true rfl) (by rw [mt_32]; exact oReader_sh o) (by rw [mt_32]; decide) (by rw [rk_32]; omega) (s_32 o H.1 (tEnd_le H.2.2.2.2) H.2.1) (fun v I1 hv => ?_)
      obtain ⟨rfl, hk1, f1⟩ := hv
      have H1 : RT I1 s x t n (nxt t n p) := ⟨H.1.fS (oReader_ne o) f1.S, hk1⟩
      have Z1 := Z.fS hsy f1.S
      have F1 := (fR.rf I s y).tr (f1.S.R y)
      have B1 : I1 s 1 = I s 1 ∧ I1 s 2 = I s 2 := ⟨(f1 s 1 (fun _ => by decide)), (f1 s 2 (fun _ => by decide))⟩
      refine w_ic l_45_44 (by decide) ?_
      refine w_isn l_45_45 ⟨Nat.le_of_ble_eq_true rfl, rfl⟩ ?_
      refine w_iln l_45_46 rfl ?_
      refine w_ic l_45_47 (by decide) ?_
      refine w_cne 69 l_45_48 (by decide) (fun _ => ?_) (fun hx => absurd hx (by omega))
      refine w_iln l_45_69 rfl ?_
      refine w_ic l_45_70 (by decide) ?_
      refine w_ceq 150 l_45_71 (by decide) (fun hx => absurd hx (by omega)) (fun _ => ?_)
      refine w_aln l_45_74 rfl ?_
      refine w_bp l_45_75 (by decide) ?_
      refine q_iv [vi 60] [] l_45_77 rfl rfl (Nat.le_of_ble_eq_true rfl) (by rw [mx_35]; exact Nat.le_of_ble_eq_true rfl) (by rw [mt_35]; exact oReader_sh o) (by rw [mt_35]; decide) (by rw [rk_35]; omega) ((show CL xs 35 [vr s, vi 60] (S, I1, T, cc, zz) (FN (some (vi (b2i (isSg t n 60 (nxt t n p))))) (S, I1, T, cc, zz)) from s_35 (c := 60) o H1 (by decide))) ?_
      refine w_beq 87 l_45_80 (by decide) (fun hx => absurd hx (by rw [h60]; decide)) (fun _ => ?_)
      refine w_ic l_45_83 (by decide) ?_
      refine w_go 101 l_45_84 (by decide) ?_
      refine w_is l_45_101 ⟨Nat.le_of_ble_eq_true rfl, rfl⟩ ?_
      refine w_il l_45_103 rfl ?_
      refine w_zne 123 l_45_105 (by decide) (fun _ => ?_) (fun hx => absurd hx (by decide))
      refine w_aln l_45_123 rfl ?_
      refine p_iv [] [] l_45_124 rfl rfl (Nat.le_of_ble_eq_true rfl) (by rw [mx_32]; exact Nat.le_of_ble_eq_true rfl) (by rw [mt_32]; exact oReader_sh o) (by rw [mt_32]; decide) (by rw [rk_32]; omega) (s_32 o H1.1 (tEnd_le H1.2.2.2.2) H1.2.1) (fun v I2 hv => ?_)
      obtain ⟨rfl, hk2, f2⟩ := hv
      have H2 : RT I2 s x t n (nxt t n (nxt t n p)) := ⟨H1.1.fS (oReader_ne o) f2.S, hk2⟩
      have Z2 := Z1.fS hsy f2.S
      have F2 := F1.tr (f2.S.R y)
      have B2 : I2 s 1 = I s 1 ∧ I2 s 2 = I s 2 := ⟨(f2 s 1 (fun _ => by decide)).trans B1.1, (f2 s 2 (fun _ => by decide)).trans B1.2⟩
      refine w_aln l_45_127 rfl ?_
      refine w_ic l_45_128 (by decide) ?_
      refine w_sp l_45_129 (by decide) ?_
      refine p_iv [vi 0, vi 999] [] l_45_132 rfl rfl (Nat.le_of_ble_eq_true rfl) (by rw [mx_37]; exact Nat.le_of_ble_eq_true rfl) (by rw [mt_37]; exact oReader_sh o) (by rw [mt_37]; decide) (by rw [rk_37]; omega) (by have g9 := s_37 (xs := xs) (cc := cc) (zz := zz) o H2 (lo := 0) (hi := 999); rw [hq] at g9; exact g9) (fun v I3 hv => ?_)
      obtain ⟨f3, rfl, b3, hk3, h10⟩ := hv
      have F3 := F2.tr (f3.S.R y)
      have Z3 := Z2.fS hsy f3.S
      have B3 : I3 s 1 = I s 1 ∧ I3 s 2 = I s 2 := ⟨b3.1.trans B2.1, b3.2.trans B2.2⟩
      refine w_zne 140 l_45_135 (by decide) (fun _ => ?_) (fun hx => absurd hx (by decide))
      refine w_il l_45_140 rfl ?_
      refine w_aln l_45_142 rfl ?_
      refine w_gi ((v : Nat) : Int) l_45_143 (oReader_sh o) h10 ?_
      refine q_st [vi (-1), vi ((v : Nat) : Int)] [] l_45_146 (by decide) rfl rfl (Nat.le_of_ble_eq_true rfl) (by rw [mx_75]; exact Nat.le_of_ble_eq_true rfl) (by rw [rk_75]; omega) (s_75l (numR_ok hq).2.1) ?_
      refine w_isn l_45_149 ⟨Nat.le_of_ble_eq_true rfl, rfl⟩ ?_
      refine w_aln l_45_150 rfl ?_
      refine w_gr l_45_151 (oReader_sh o) (oReader_r0 o) ?_
      refine w_iln l_45_154 rfl ?_
      refine w_iln l_45_155 rfl ?_
      refine p_iv [vi (((5 + f) : Nat) : Int), vi (((v * 4 + 0) : Nat) : Int)] [] l_45_156 rfl rfl (Nat.le_of_ble_eq_true rfl) (by rw [mx_70]; exact Nat.le_of_ble_eq_true rfl) (by rw [mt_70]; exact oSetup_sh (oReader_o0 o)) (by rw [mt_70]; decide) (by rw [rk_70]; omega) (s_70 (oReader_o0 o) (c := (1, v, f)) (kd := (5 + f)) (wh := (v * 4 + 0)) Z3 (by show (v * 4 + (1 - 1)) * 16 + (5 + f) = _; rfl) (show 1 ≤ 1 by decide) (by omega) (by have h9 : v ≤ 999 := (numR_ok hq).2.1; omega) (by omega)) (fun v I9 hv => ?_)
      obtain ⟨rfl, Z9, f9⟩ := hv
      refine w_ic l_45_159 (by decide) ?_
      refine w_ir l_45_160 (by decide) ?_
      have hL9 : leafR t n P p = .inr (p3, (1, v, f)) := by
        rw [hlf]
        unfold cmpR
        rw [if_pos (by rw [h60]; rfl), hq]
        show Sum.inr (p3, ((if isSg t n 60 (nxt t n p) = true then 1 else if isSg t n 62 (nxt t n p) = true then 3 else 2), v, f)) = _
        rw [if_pos h60]
      have hR9 := hatom2 _ hL9
      exact ⟨_, _, rfl, rfl, F3.tr (fun z w h1 h2 => f9 z w (by omega) (by omega)), by rw [hR9]; exact ⟨rfl, ⟨(f9 s 1 (by omega) (by omega)).trans B3.1, (f9 s 2 (by omega) (by omega)).trans B3.2⟩, ⟨(f9 s 5 (by omega) (by omega)).trans hk3.1, (f9 s 6 (by omega) (by omega)).trans hk3.2.1, (f9 s 7 (by omega) (by omega)).trans hk3.2.2.1, hk3.2.2.2⟩, Z9⟩⟩
  | false =>
    cases h62 : isSg t n 62 (nxt t n p) with
    | true =>
      cases hq : numR t n 0 999 (nxt t n (nxt t n p)) with
      | inl e9 =>
        refine CL_start (r := 7 + 4 * (5 - e)) (ls := [vr s, vi ((e : Nat) : Int), vs 2, vs 2, vs 2]) (rk_45 he) rfl ?_
        refine w_aln l_45_0 rfl ?_
        refine w_ldc l_45_1 (by decide) ?_
        refine q_iv [vs (2 * 5 + 4)] [] l_45_3 rfl rfl (Nat.le_of_ble_eq_true rfl) (by rw [mx_34]; exact Nat.le_of_ble_eq_true rfl) (by rw [mt_34]; exact oReader_sh o) (by rw [mt_34]; decide) (by rw [rk_34]; omega) (s_34 o H (q := 5) (by decide)) ?_
        refine w_bne 18 l_45_6 (by decide) (fun hx => absurd hx (by rw [hxx.1]; decide)) (fun _ => ?_)
        refine w_aln l_45_9 rfl ?_
        refine w_bp l_45_10 (by decide) ?_
        refine q_iv [vi 40] [] l_45_12 rfl rfl (Nat.le_of_ble_eq_true rfl) (by rw [mx_35]; exact Nat.le_of_ble_eq_true rfl) (by rw [mt_35]; exact oReader_sh o) (by rw [mt_35]; decide) (by rw [rk_35]; omega) ((show CL xs 35 [vr s, vi 40] (S, I, T, cc, zz) (FN (some (vi (b2i (isSg t n 40 p)))) (S, I, T, cc, zz)) from s_35 (c := 40) o H (by decide))) ?_
        refine w_beq 24 l_45_15 (by decide) (fun _ => ?_) (fun hx => absurd hx (by rw [hxx.2]; decide))
        refine w_aln l_45_24 rfl ?_
        refine q_iv [] [] l_45_25 rfl rfl (Nat.le_of_ble_eq_true rfl) (by rw [mx_46]; exact Nat.le_of_ble_eq_true rfl) (by rw [mt_46]; exact oReader_sh o) (by rw [mt_46]; decide) (by rw [rk_46]; omega) (hK) ?_
        refine w_isn l_45_28 ⟨Nat.le_of_ble_eq_true rfl, rfl⟩ ?_
        refine w_iln l_45_29 rfl ?_
        refine w_ic l_45_30 (by decide) ?_
        refine w_cne 40 l_45_31 (by decide) (fun _ => ?_) (fun hx => absurd hx (by omega))
        refine w_aln l_45_40 rfl ?_
        refine p_iv [] [] l_45_41 rfl rfl (Nat.le_of_ble_eq_true rfl) (by rw [mx_32]; exact Nat.le_of_ble_eq_true rfl) (by rw [mt_32]; exact oReader_sh o) (by rw [mt_32]; decide) (by rw [rk_32]; omega) (s_32 o H.1 (tEnd_le H.2.2.2.2) H.2.1) (fun v I1 hv => ?_)
        obtain ⟨rfl, hk1, f1⟩ := hv
        have H1 : RT I1 s x t n (nxt t n p) := ⟨H.1.fS (oReader_ne o) f1.S, hk1⟩
        have Z1 := Z.fS hsy f1.S
        have F1 := (fR.rf I s y).tr (f1.S.R y)
        have B1 : I1 s 1 = I s 1 ∧ I1 s 2 = I s 2 := ⟨(f1 s 1 (fun _ => by decide)), (f1 s 2 (fun _ => by decide))⟩
        refine w_ic l_45_44 (by decide) ?_
        refine w_isn l_45_45 ⟨Nat.le_of_ble_eq_true rfl, rfl⟩ ?_
        refine w_iln l_45_46 rfl ?_
        refine w_ic l_45_47 (by decide) ?_
        refine w_cne 69 l_45_48 (by decide) (fun _ => ?_) (fun hx => absurd hx (by omega))
        refine w_iln l_45_69 rfl ?_
        refine w_ic l_45_70 (by decide) ?_
        refine w_ceq 150 l_45_71 (by decide) (fun hx => absurd hx (by omega)) (fun _ => ?_)
        refine w_aln l_45_74 rfl ?_
        refine w_bp l_45_75 (by decide) ?_
        refine q_iv [vi 60] [] l_45_77 rfl rfl (Nat.le_of_ble_eq_true rfl) (by rw [mx_35]; exact Nat.le_of_ble_eq_true rfl) (by rw [mt_35]; exact oReader_sh o) (by rw [mt_35]; decide) (by rw [rk_35]; omega) ((show CL xs 35 [vr s, vi 60] (S, I1, T, cc, zz) (FN (some (vi (b2i (isSg t n 60 (nxt t n p))))) (S, I1, T, cc, zz)) from s_35 (c := 60) o H1 (by decide))) ?_
        refine w_beq 87 l_45_80 (by decide) (fun _ => ?_) (fun hx => absurd hx (by rw [h60]; decide))
        refine w_aln l_45_87 rfl ?_
        refine w_bp l_45_88 (by decide) ?_
        refine q_iv [vi 62] [] l_45_90 rfl rfl (Nat.le_of_ble_eq_true rfl) (by rw [mx_35]; exact Nat.le_of_ble_eq_true rfl) (by rw [mt_35]; exact oReader_sh o) (by rw [mt_35]; decide) (by rw [rk_35]; omega) ((show CL xs 35 [vr s, vi 62] (S, I1, T, cc, zz) (FN (some (vi (b2i (isSg t n 62 (nxt t n p))))) (S, I1, T, cc, zz)) from s_35 (c := 62) o H1 (by decide))) ?_
        refine w_beq 100 l_45_93 (by decide) (fun hx => absurd hx (by rw [h62]; decide)) (fun _ => ?_)
        refine w_ic l_45_96 (by decide) ?_
        refine w_go 101 l_45_97 (by decide) ?_
        refine w_is l_45_101 ⟨Nat.le_of_ble_eq_true rfl, rfl⟩ ?_
        refine w_il l_45_103 rfl ?_
        refine w_zne 123 l_45_105 (by decide) (fun _ => ?_) (fun hx => absurd hx (by decide))
        refine w_aln l_45_123 rfl ?_
        refine p_iv [] [] l_45_124 rfl rfl (Nat.le_of_ble_eq_true rfl) (by rw [mx_32]; exact Nat.le_of_ble_eq_true rfl) (by rw [mt_32]; exact oReader_sh o) (by rw [mt_32]; decide) (by rw [rk_32]; omega) (s_32 o H1.1 (tEnd_le H1.2.2.2.2) H1.2.1) (fun v I2 hv => ?_)
        obtain ⟨rfl, hk2, f2⟩ := hv
        have H2 : RT I2 s x t n (nxt t n (nxt t n p)) := ⟨H1.1.fS (oReader_ne o) f2.S, hk2⟩
        have Z2 := Z1.fS hsy f2.S
        have F2 := F1.tr (f2.S.R y)
        have B2 : I2 s 1 = I s 1 ∧ I2 s 2 = I s 2 := ⟨(f2 s 1 (fun _ => by decide)).trans B1.1, (f2 s 2 (fun _ => by decide)).trans B1.2⟩
        refine w_aln l_45_127 rfl ?_
        refine w_ic l_45_128 (by decide) ?_
        refine w_sp l_45_129 (by decide) ?_
        refine p_iv [vi 0, vi 999] [] l_45_132 rfl rfl (Nat.le_of_ble_eq_true rfl) (by rw [mx_37]; exact Nat.le_of_ble_eq_true rfl) (by rw [mt_37]; exact oReader_sh o) (by rw [mt_37]; decide) (by rw [rk_37]; omega) (by have g9 := s_37 (xs := xs) (cc := cc) (zz := zz) o H2 (lo := 0) (hi := 999); rw [hq] at g9; exact g9) (fun v I3 hv => ?_)
        obtain ⟨f3, rfl, e1, e2⟩ := hv
        have F3 := F2.tr (f3.S.R y)
        have Z3 := Z2.fS hsy f3.S
        refine w_zne 140 l_45_135 (by decide) (fun hx => absurd hx (by decide)) (fun _ => ?_)
        refine w_ic l_45_138 (by decide) ?_
        refine w_ir l_45_139 (by decide) ?_
        have hL9 : leafR t n P p = .inl e9 := by
          rw [hlf]
          unfold cmpR
          rw [if_pos (by rw [h62]; exact Bool.or_true _), hq]
        have hR9 := hatom1 _ hL9
        exact ⟨_, _, rfl, rfl, F3, by rw [hR9]; exact ⟨rfl, e1, e2⟩⟩
      | inr a9 =>
        obtain ⟨v, p3⟩ := a9
        refine CL_start (r := 7 + 4 * (5 - e)) (ls := [vr s, vi ((e : Nat) : Int), vs 2, vs 2, vs 2]) (rk_45 he) rfl ?_
        refine w_aln l_45_0 rfl ?_
        refine w_ldc l_45_1 (by decide) ?_
        refine q_iv [vs (2 * 5 + 4)] [] l_45_3 rfl rfl (Nat.le_of_ble_eq_true rfl) (by rw [mx_34]; exact Nat.le_of_ble_eq_true rfl) (by rw [mt_34]; exact oReader_sh o) (by rw [mt_34]; decide) (by rw [rk_34]; omega) (s_34 o H (q := 5) (by decide)) ?_
        refine w_bne 18 l_45_6 (by decide) (fun hx => absurd hx (by rw [hxx.1]; decide)) (fun _ => ?_)
        refine w_aln l_45_9 rfl ?_
        refine w_bp l_45_10 (by decide) ?_
        refine q_iv [vi 40] [] l_45_12 rfl rfl (Nat.le_of_ble_eq_true rfl) (by rw [mx_35]; exact Nat.le_of_ble_eq_true rfl) (by rw [mt_35]; exact oReader_sh o) (by rw [mt_35]; decide) (by rw [rk_35]; omega) ((show CL xs 35 [vr s, vi 40] (S, I, T, cc, zz) (FN (some (vi (b2i (isSg t n 40 p)))) (S, I, T, cc, zz)) from s_35 (c := 40) o H (by decide))) ?_
        refine w_beq 24 l_45_15 (by decide) (fun _ => ?_) (fun hx => absurd hx (by rw [hxx.2]; decide))
        refine w_aln l_45_24 rfl ?_
        refine q_iv [] [] l_45_25 rfl rfl (Nat.le_of_ble_eq_true rfl) (by rw [mx_46]; exact Nat.le_of_ble_eq_true rfl) (by rw [mt_46]; exact oReader_sh o) (by rw [mt_46]; decide) (by rw [rk_46]; omega) (hK) ?_
        refine w_isn l_45_28 ⟨Nat.le_of_ble_eq_true rfl, rfl⟩ ?_
        refine w_iln l_45_29 rfl ?_
        refine w_ic l_45_30 (by decide) ?_
        refine w_cne 40 l_45_31 (by decide) (fun _ => ?_) (fun hx => absurd hx (by omega))
        refine w_aln l_45_40 rfl ?_
        refine p_iv [] [] l_45_41 rfl rfl (Nat.le_of_ble_eq_true rfl) (by rw [mx_32]; exact Nat.le_of_ble_eq_true rfl) (by rw [mt_32]; exact oReader_sh o) (by rw [mt_32]; decide) (by rw [rk_32]; omega) (s_32 o H.1 (tEnd_le H.2.2.2.2) H.2.1) (fun v I1 hv => ?_)
        obtain ⟨rfl, hk1, f1⟩ := hv
        have H1 : RT I1 s x t n (nxt t n p) := ⟨H.1.fS (oReader_ne o) f1.S, hk1⟩
        have Z1 := Z.fS hsy f1.S
        have F1 := (fR.rf I s y).tr (f1.S.R y)
        have B1 : I1 s 1 = I s 1 ∧ I1 s 2 = I s 2 := ⟨(f1 s 1 (fun _ => by decide)), (f1 s 2 (fun _ => by decide))⟩
        refine w_ic l_45_44 (by decide) ?_
        refine w_isn l_45_45 ⟨Nat.le_of_ble_eq_true rfl, rfl⟩ ?_
        refine w_iln l_45_46 rfl ?_
        refine w_ic l_45_47 (by decide) ?_
        refine w_cne 69 l_45_48 (by decide) (fun _ => ?_) (fun hx => absurd hx (by omega))
        refine w_iln l_45_69 rfl ?_
        refine w_ic l_45_70 (by decide) ?_
        refine w_ceq 150 l_45_71 (by decide) (fun hx => absurd hx (by omega)) (fun _ => ?_)
        refine w_aln l_45_74 rfl ?_
        refine w_bp l_45_75 (by decide) ?_
        refine q_iv [vi 60] [] l_45_77 rfl rfl (Nat.le_of_ble_eq_true rfl) (by rw [mx_35]; exact Nat.le_of_ble_eq_true rfl) (by rw [mt_35]; exact oReader_sh o) (by rw [mt_35]; decide) (by rw [rk_35]; omega) ((show CL xs 35 [vr s, vi 60] (S, I1, T, cc, zz) (FN (some (vi (b2i (isSg t n 60 (nxt t n p))))) (S, I1, T, cc, zz)) from s_35 (c := 60) o H1 (by decide))) ?_
        refine w_beq 87 l_45_80 (by decide) (fun _ => ?_) (fun hx => absurd hx (by rw [h60]; decide))
        refine w_aln l_45_87 rfl ?_
        refine w_bp l_45_88 (by decide) ?_
        refine q_iv [vi 62] [] l_45_90 rfl rfl (Nat.le_of_ble_eq_true rfl) (by rw [mx_35]; exact Nat.le_of_ble_eq_true rfl) (by rw [mt_35]; exact oReader_sh o) (by rw [mt_35]; decide) (by rw [rk_35]; omega) ((show CL xs 35 [vr s, vi 62] (S, I1, T, cc, zz) (FN (some (vi (b2i (isSg t n 62 (nxt t n p))))) (S, I1, T, cc, zz)) from s_35 (c := 62) o H1 (by decide))) ?_
        refine w_beq 100 l_45_93 (by decide) (fun hx => absurd hx (by rw [h62]; decide)) (fun _ => ?_)
        refine w_ic l_45_96 (by decide) ?_
        refine w_go 101 l_45_97 (by decide) ?_
        refine w_is l_45_101 ⟨Nat.le_of_ble_eq_true rfl, rfl⟩ ?_
        refine w_il l_45_103 rfl ?_
        refine w_zne 123 l_45_105 (by decide) (fun _ => ?_) (fun hx => absurd hx (by decide))
        refine w_aln l_45_123 rfl ?_
        refine p_iv [] [] l_45_124 rfl rfl (Nat.le_of_ble_eq_true rfl) (by rw [mx_32]; exact Nat.le_of_ble_eq_true rfl) (by rw [mt_32]; exact oReader_sh o) (by rw [mt_32]; decide) (by rw [rk_32]; omega) (s_32 o H1.1 (tEnd_le H1.2.2.2.2) H1.2.1) (fun v I2 hv => ?_)
        obtain ⟨rfl, hk2, f2⟩ := hv
        have H2 : RT I2 s x t n (nxt t n (nxt t n p)) := ⟨H1.1.fS (oReader_ne o) f2.S, hk2⟩
        have Z2 := Z1.fS hsy f2.S
        have F2 := F1.tr (f2.S.R y)
        have B2 : I2 s 1 = I s 1 ∧ I2 s 2 = I s 2 := ⟨(f2 s 1 (fun _ => by decide)).trans B1.1, (f2 s 2 (fun _ => by decide)).trans B1.2⟩
        refine w_aln l_45_127 rfl ?_
        refine w_ic l_45_128 (by decide) ?_
        refine w_sp l_45_129 (by decide) ?_
        refine p_iv [vi 0, vi 999] [] l_45_132 rfl rfl (Nat.le_of_ble_eq_true rfl) (by rw [mx_37]; exact Nat.le_of_ble_eq_true rfl) (by rw [mt_37]; exact oReader_sh o) (by rw [mt_37]; decide) (by rw [rk_37]; omega) (by have g9 := s_37 (xs := xs) (cc := cc) (zz := zz) o H2 (lo := 0) (hi := 999); rw [hq] at g9; exact g9) (fun v I3 hv => ?_)
        obtain ⟨f3, rfl, b3, hk3, h10⟩ := hv
        have F3 := F2.tr (f3.S.R y)
        have Z3 := Z2.fS hsy f3.S
        have B3 : I3 s 1 = I s 1 ∧ I3 s 2 = I s 2 := ⟨b3.1.trans B2.1, b3.2.trans B2.2⟩
        refine w_zne 140 l_45_135 (by decide) (fun _ => ?_) (fun hx => absurd hx (by decide))
        refine w_il l_45_140 rfl ?_
        refine w_aln l_45_142 rfl ?_
        refine w_gi ((v : Nat) : Int) l_45_143 (oReader_sh o) h10 ?_
        refine q_st [vi 1, vi ((v : Nat) : Int)] [] l_45_146 (by decide) rfl rfl (Nat.le_of_ble_eq_true rfl) (by rw [mx_75]; exact Nat.le_of_ble_eq_true rfl) (by rw [rk_75]; omega) (s_75g (numR_ok hq).2.1) ?_
        refine w_isn l_45_149 ⟨Nat.le_of_ble_eq_true rfl, rfl⟩ ?_
        refine w_aln l_45_150 rfl ?_
        refine w_gr l_45_151 (oReader_sh o) (oReader_r0 o) ?_
        refine w_iln l_45_154 rfl ?_
        refine w_iln l_45_155 rfl ?_
        refine p_iv [vi (((5 + f) : Nat) : Int), vi (((v * 4 + 2) : Nat) : Int)] [] l_45_156 rfl rfl (Nat.le_of_ble_eq_true rfl) (by rw [mx_70]; exact Nat.le_of_ble_eq_true rfl) (by rw [mt_70]; exact oSetup_sh (oReader_o0 o)) (by rw [mt_70]; decide) (by rw [rk_70]; omega) (s_70 (oReader_o0 o) (c := (3, v, f)) (kd := (5 + f)) (wh := (v * 4 + 2)) Z3 (by show (v * 4 + (3 - 1)) * 16 + (5 + f) = _; rfl) (show 1 ≤ 3 by decide) (by omega) (by have h9 : v ≤ 999 := (numR_ok hq).2.1; omega) (by omega)) (fun v I9 hv => ?_)
        obtain ⟨rfl, Z9, f9⟩ := hv
        refine w_ic l_45_159 (by decide) ?_
        refine w_ir l_45_160 (by decide) ?_
        have hL9 : leafR t n P p = .inr (p3, (3, v, f)) := by
          rw [hlf]
          unfold cmpR
          rw [if_pos (by rw [h62]; exact Bool.or_true _), hq]
          show Sum.inr (p3, ((if isSg t n 60 (nxt t n p) = true then 1 else if isSg t n 62 (nxt t n p) = true then 3 else 2), v, f)) = _
          rw [if_neg (by rw [h60]; decide), if_pos h62]
        have hR9 := hatom2 _ hL9
        exact ⟨_, _, rfl, rfl, F3.tr (fun z w h1 h2 => f9 z w (by omega) (by omega)), by rw [hR9]; exact ⟨rfl, ⟨(f9 s 1 (by omega) (by omega)).trans B3.1, (f9 s 2 (by omega) (by omega)).trans B3.2⟩, ⟨(f9 s 5 (by omega) (by omega)).trans hk3.1, (f9 s 6 (by omega) (by omega)).trans hk3.2.1, (f9 s 7 (by omega) (by omega)).trans hk3.2.2.1, hk3.2.2.2⟩, Z9⟩⟩
    | false =>
      cases h61 : isSg t n 61 (nxt t n p) with
      | true =>
        cases hq : numR t n 0 999 (nxt t n (nxt t n p)) with
        | inl e9 =>
          refine CL_start (r := 7 + 4 * (5 - e)) (ls := [vr s, vi ((e : Nat) : Int), vs 2, vs 2, vs 2]) (rk_45 he) rfl ?_
          refine w_aln l_45_0 rfl ?_
          refine w_ldc l_45_1 (by decide) ?_
          refine q_iv [vs (2 * 5 + 4)] [] l_45_3 rfl rfl (Nat.le_of_ble_eq_true rfl) (by rw [mx_34]; exact Nat.le_of_ble_eq_true rfl) (by rw [mt_34]; exact oReader_sh o) (by rw [mt_34]; decide) (by rw [rk_34]; omega) (s_34 o H (q := 5) (by decide)) ?_
          refine w_bne 18 l_45_6 (by decide) (fun hx => absurd hx (by rw [hxx.1]; decide)) (fun _ => ?_)
          refine w_aln l_45_9 rfl ?_
          refine w_bp l_45_10 (by decide) ?_
          refine q_iv [vi 40] [] l_45_12 rfl rfl (Nat.le_of_ble_eq_true rfl) (by rw [mx_35]; exact Nat.le_of_ble_eq_true rfl) (by rw [mt_35]; exact oReader_sh o) (by rw [mt_35]; decide) (by rw [rk_35]; omega) ((show CL xs 35 [vr s, vi 40] (S, I, T, cc, zz) (FN (some (vi (b2i (isSg t n 40 p)))) (S, I, T, cc, zz)) from s_35 (c := 40) o H (by decide))) ?_
          refine w_beq 24 l_45_15 (by decide) (fun _ => ?_) (fun hx => absurd hx (by rw [hxx.2]; decide))
          refine w_aln l_45_24 rfl ?_
          refine q_iv [] [] l_45_25 rfl rfl (Nat.le_of_ble_eq_true rfl) (by rw [mx_46]; exact Nat.le_of_ble_eq_true rfl) (by rw [mt_46]; exact oReader_sh o) (by rw [mt_46]; decide) (by rw [rk_46]; omega) (hK) ?_
          refine w_isn l_45_28 ⟨Nat.le_of_ble_eq_true rfl, rfl⟩ ?_
          refine w_iln l_45_29 rfl ?_
          refine w_ic l_45_30 (by decide) ?_
          refine w_cne 40 l_45_31 (by decide) (fun _ => ?_) (fun hx => absurd hx (by omega))
          refine w_aln l_45_40 rfl ?_
          refine p_iv [] [] l_45_41 rfl rfl (Nat.le_of_ble_eq_true rfl) (by rw [mx_32]; exact Nat.le_of_ble_eq_true rfl) (by rw [mt_32]; exact oReader_sh o) (by rw [mt_32]; decide) (by rw [rk_32]; omega) (s_32 o H.1 (tEnd_le H.2.2.2.2) H.2.1) (fun v I1 hv => ?_)
          obtain ⟨rfl, hk1, f1⟩ := hv
          have H1 : RT I1 s x t n (nxt t n p) := ⟨H.1.fS (oReader_ne o) f1.S, hk1⟩
          have Z1 := Z.fS hsy f1.S
          have F1 := (fR.rf I s y).tr (f1.S.R y)
          have B1 : I1 s 1 = I s 1 ∧ I1 s 2 = I s 2 := ⟨(f1 s 1 (fun _ => by decide)), (f1 s 2 (fun _ => by decide))⟩
          refine w_ic l_45_44 (by decide) ?_
          refine w_isn l_45_45 ⟨Nat.le_of_ble_eq_true rfl, rfl⟩ ?_
          refine w_iln l_45_46 rfl ?_
          refine w_ic l_45_47 (by decide) ?_
          refine w_cne 69 l_45_48 (by decide) (fun _ => ?_) (fun hx => absurd hx (by omega))
          refine w_iln l_45_69 rfl ?_
          refine w_ic l_45_70 (by decide) ?_
          refine w_ceq 150 l_45_71 (by decide) (fun hx => absurd hx (by omega)) (fun _ => ?_)
          refine w_aln l_45_74 rfl ?_
          refine w_bp l_45_75 (by decide) ?_
          refine q_iv [vi 60] [] l_45_77 rfl rfl (Nat.le_of_ble_eq_true rfl) (by rw [mx_35]; exact Nat.le_of_ble_eq_true rfl) (by rw [mt_35]; exact oReader_sh o) (by rw [mt_35]; decide) (by rw [rk_35]; omega) ((show CL xs 35 [vr s, vi 60] (S, I1, T, cc, zz) (FN (some (vi (b2i (isSg t n 60 (nxt t n p))))) (S, I1, T, cc, zz)) from s_35 (c := 60) o H1 (by decide))) ?_
          refine w_beq 87 l_45_80 (by decide) (fun _ => ?_) (fun hx => absurd hx (by rw [h60]; decide))
          refine w_aln l_45_87 rfl ?_
          refine w_bp l_45_88 (by decide) ?_
          refine q_iv [vi 62] [] l_45_90 rfl rfl (Nat.le_of_ble_eq_true rfl) (by rw [mx_35]; exact Nat.le_of_ble_eq_true rfl) (by rw [mt_35]; exact oReader_sh o) (by rw [mt_35]; decide) (by rw [rk_35]; omega) ((show CL xs 35 [vr s, vi 62] (S, I1, T, cc, zz) (FN (some (vi (b2i (isSg t n 62 (nxt t n p))))) (S, I1, T, cc, zz)) from s_35 (c := 62) o H1 (by decide))) ?_
          refine w_beq 100 l_45_93 (by decide) (fun _ => ?_) (fun hx => absurd hx (by rw [h62]; decide))
          refine w_ic l_45_100 (by decide) ?_
          refine w_is l_45_101 ⟨Nat.le_of_ble_eq_true rfl, rfl⟩ ?_
          refine w_il l_45_103 rfl ?_
          refine w_zne 123 l_45_105 (by decide) (fun hx => absurd hx (by decide)) (fun _ => ?_)
          refine w_aln l_45_108 rfl ?_
          refine w_bp l_45_109 (by decide) ?_
          refine q_iv [vi 61] [] l_45_111 rfl rfl (Nat.le_of_ble_eq_true rfl) (by rw [mx_35]; exact Nat.le_of_ble_eq_true rfl) (by rw [mt_35]; exact oReader_sh o) (by rw [mt_35]; decide) (by rw [rk_35]; omega) ((show CL xs 35 [vr s, vi 61] (S, I1, T, cc, zz) (FN (some (vi (b2i (isSg t n 61 (nxt t n p))))) (S, I1, T, cc, zz)) from s_35 (c := 61) o H1 (by decide))) ?_
          refine w_bne 123 l_45_114 (by decide) (fun _ => ?_) (fun hx => absurd hx (by rw [h61]; decide))
          refine w_aln l_45_123 rfl ?_
          refine p_iv [] [] l_45_124 rfl rfl (Nat.le_of_ble_eq_true rfl) (by rw [mx_32]; exact Nat.le_of_ble_eq_true rfl) (by rw [mt_32]; exact oReader_sh o) (by rw [mt_32]; decide) (by rw [rk_32]; omega) (s_32 o H1.1 (tEnd_le H1.2.2.2.2) H1.2.1) (fun v I2 hv => ?_)
          obtain ⟨rfl, hk2, f2⟩ := hv
          have H2 : RT I2 s x t n (nxt t n (nxt t n p)) := ⟨H1.1.fS (oReader_ne o) f2.S, hk2⟩
          have Z2 := Z1.fS hsy f2.S
          have F2 := F1.tr (f2.S.R y)
          have B2 : I2 s 1 = I s 1 ∧ I2 s 2 = I s 2 := ⟨(f2 s 1 (fun _ => by decide)).trans B1.1, (f2 s 2 (fun _ => by decide)).trans B1.2⟩
          refine w_aln l_45_127 rfl ?_
          refine w_ic l_45_128 (by decide) ?_
          refine w_sp l_45_129 (by decide) ?_
          refine p_iv [vi 0, vi 999] [] l_45_132 rfl rfl (Nat.le_of_ble_eq_true rfl) (by rw [mx_37]; exact Nat.le_of_ble_eq_true rfl) (by rw [mt_37]; exact oReader_sh o) (by rw [mt_37]; decide) (by rw [rk_37]; omega) (by have g9 := s_37 (xs := xs) (cc := cc) (zz := zz) o H2 (lo := 0) (hi := 999); rw [hq] at g9; exact g9) (fun v I3 hv => ?_)
          obtain ⟨f3, rfl, e1, e2⟩ := hv
          have F3 := F2.tr (f3.S.R y)
          have Z3 := Z2.fS hsy f3.S
          refine w_zne 140 l_45_135 (by decide) (fun hx => absurd hx (by decide)) (fun _ => ?_)
          refine w_ic l_45_138 (by decide) ?_
          refine w_ir l_45_139 (by decide) ?_
          have hL9 : leafR t n P p = .inl e9 := by
            rw [hlf]
            unfold cmpR
            rw [if_pos (by rw [h60, h61]; rfl), hq]
          have hR9 := hatom1 _ hL9
          exact ⟨_, _, rfl, rfl, F3, by rw [hR9]; exact ⟨rfl, e1, e2⟩⟩
        | inr a9 =>
          obtain ⟨v, p3⟩ := a9
          refine CL_start (r := 7 + 4 * (5 - e)) (ls := [vr s, vi ((e : Nat) : Int), vs 2, vs 2, vs 2]) (rk_45 he) rfl ?_
          refine w_aln l_45_0 rfl ?_
          refine w_ldc l_45_1 (by decide) ?_
          refine q_iv [vs (2 * 5 + 4)] [] l_45_3 rfl rfl (Nat.le_of_ble_eq_true rfl) (by rw [mx_34]; exact Nat.le_of_ble_eq_true rfl) (by rw [mt_34]; exact oReader_sh o) (by rw [mt_34]; decide) (by rw [rk_34]; omega) (s_34 o H (q := 5) (by decide)) ?_
          refine w_bne 18 l_45_6 (by decide) (fun hx => absurd hx (by rw [hxx.1]; decide)) (fun _ => ?_)
          refine w_aln l_45_9 rfl ?_
          refine w_bp l_45_10 (by decide) ?_
          refine q_iv [vi 40] [] l_45_12 rfl rfl (Nat.le_of_ble_eq_true rfl) (by rw [mx_35]; exact Nat.le_of_ble_eq_true rfl) (by rw [mt_35]; exact oReader_sh o) (by rw [mt_35]; decide) (by rw [rk_35]; omega) ((show CL xs 35 [vr s, vi 40] (S, I, T, cc, zz) (FN (some (vi (b2i (isSg t n 40 p)))) (S, I, T, cc, zz)) from s_35 (c := 40) o H (by decide))) ?_
          refine w_beq 24 l_45_15 (by decide) (fun _ => ?_) (fun hx => absurd hx (by rw [hxx.2]; decide))
          refine w_aln l_45_24 rfl ?_
          refine q_iv [] [] l_45_25 rfl rfl (Nat.le_of_ble_eq_true rfl) (by rw [mx_46]; exact Nat.le_of_ble_eq_true rfl) (by rw [mt_46]; exact oReader_sh o) (by rw [mt_46]; decide) (by rw [rk_46]; omega) (hK) ?_
          refine w_isn l_45_28 ⟨Nat.le_of_ble_eq_true rfl, rfl⟩ ?_
          refine w_iln l_45_29 rfl ?_
          refine w_ic l_45_30 (by decide) ?_
          refine w_cne 40 l_45_31 (by decide) (fun _ => ?_) (fun hx => absurd hx (by omega))
          refine w_aln l_45_40 rfl ?_
          refine p_iv [] [] l_45_41 rfl rfl (Nat.le_of_ble_eq_true rfl) (by rw [mx_32]; exact Nat.le_of_ble_eq_true rfl) (by rw [mt_32]; exact oReader_sh o) (by rw [mt_32]; decide) (by rw [rk_32]; omega) (s_32 o H.1 (tEnd_le H.2.2.2.2) H.2.1) (fun v I1 hv => ?_)
          obtain ⟨rfl, hk1, f1⟩ := hv
          have H1 : RT I1 s x t n (nxt t n p) := ⟨H.1.fS (oReader_ne o) f1.S, hk1⟩
          have Z1 := Z.fS hsy f1.S
          have F1 := (fR.rf I s y).tr (f1.S.R y)
          have B1 : I1 s 1 = I s 1 ∧ I1 s 2 = I s 2 := ⟨(f1 s 1 (fun _ => by decide)), (f1 s 2 (fun _ => by decide))⟩
          refine w_ic l_45_44 (by decide) ?_
          refine w_isn l_45_45 ⟨Nat.le_of_ble_eq_true rfl, rfl⟩ ?_
          refine w_iln l_45_46 rfl ?_
          refine w_ic l_45_47 (by decide) ?_
          refine w_cne 69 l_45_48 (by decide) (fun _ => ?_) (fun hx => absurd hx (by omega))
          refine w_iln l_45_69 rfl ?_
          refine w_ic l_45_70 (by decide) ?_
          refine w_ceq 150 l_45_71 (by decide) (fun hx => absurd hx (by omega)) (fun _ => ?_)
          refine w_aln l_45_74 rfl ?_
          refine w_bp l_45_75 (by decide) ?_
          refine q_iv [vi 60] [] l_45_77 rfl rfl (Nat.le_of_ble_eq_true rfl) (by rw [mx_35]; exact Nat.le_of_ble_eq_true rfl) (by rw [mt_35]; exact oReader_sh o) (by rw [mt_35]; decide) (by rw [rk_35]; omega) ((show CL xs 35 [vr s, vi 60] (S, I1, T, cc, zz) (FN (some (vi (b2i (isSg t n 60 (nxt t n p))))) (S, I1, T, cc, zz)) from s_35 (c := 60) o H1 (by decide))) ?_
          refine w_beq 87 l_45_80 (by decide) (fun _ => ?_) (fun hx => absurd hx (by rw [h60]; decide))
          refine w_aln l_45_87 rfl ?_
          refine w_bp l_45_88 (by decide) ?_
          refine q_iv [vi 62] [] l_45_90 rfl rfl (Nat.le_of_ble_eq_true rfl) (by rw [mx_35]; exact Nat.le_of_ble_eq_true rfl) (by rw [mt_35]; exact oReader_sh o) (by rw [mt_35]; decide) (by rw [rk_35]; omega) ((show CL xs 35 [vr s, vi 62] (S, I1, T, cc, zz) (FN (some (vi (b2i (isSg t n 62 (nxt t n p))))) (S, I1, T, cc, zz)) from s_35 (c := 62) o H1 (by decide))) ?_
          refine w_beq 100 l_45_93 (by decide) (fun _ => ?_) (fun hx => absurd hx (by rw [h62]; decide))
          refine w_ic l_45_100 (by decide) ?_
          refine w_is l_45_101 ⟨Nat.le_of_ble_eq_true rfl, rfl⟩ ?_
          refine w_il l_45_103 rfl ?_
          refine w_zne 123 l_45_105 (by decide) (fun hx => absurd hx (by decide)) (fun _ => ?_)
          refine w_aln l_45_108 rfl ?_
          refine w_bp l_45_109 (by decide) ?_
          refine q_iv [vi 61] [] l_45_111 rfl rfl (Nat.le_of_ble_eq_true rfl) (by rw [mx_35]; exact Nat.le_of_ble_eq_true rfl) (by rw [mt_35]; exact oReader_sh o) (by rw [mt_35]; decide) (by rw [rk_35]; omega) ((show CL xs 35 [vr s, vi 61] (S, I1, T, cc, zz) (FN (some (vi (b2i (isSg t n 61 (nxt t n p))))) (S, I1, T, cc, zz)) from s_35 (c := 61) o H1 (by decide))) ?_
          refine w_bne 123 l_45_114 (by decide) (fun _ => ?_) (fun hx => absurd hx (by rw [h61]; decide))
          refine w_aln l_45_123 rfl ?_
          refine p_iv [] [] l_45_124 rfl rfl (Nat.le_of_ble_eq_true rfl) (by rw [mx_32]; exact Nat.le_of_ble_eq_true rfl) (by rw [mt_32]; exact oReader_sh o) (by rw [mt_32]; decide) (by rw [rk_32]; omega) (s_32 o H1.1 (tEnd_le H1.2.2.2.2) H1.2.1) (fun v I2 hv => ?_)
          obtain ⟨rfl, hk2, f2⟩ := hv
          have H2 : RT I2 s x t n (nxt t n (nxt t n p)) := ⟨H1.1.fS (oReader_ne o) f2.S, hk2⟩
          have Z2 := Z1.fS hsy f2.S
          have F2 := F1.tr (f2.S.R y)
          have B2 : I2 s 1 = I s 1 ∧ I2 s 2 = I s 2 := ⟨(f2 s 1 (fun _ => by decide)).trans B1.1, (f2 s 2 (fun _ => by decide)).trans B1.2⟩
          refine w_aln l_45_127 rfl ?_
          refine w_ic l_45_128 (by decide) ?_
          refine w_sp l_45_129 (by decide) ?_
          refine p_iv [vi 0, vi 999] [] l_45_132 rfl rfl (Nat.le_of_ble_eq_true rfl) (by rw [mx_37]; exact Nat.le_of_ble_eq_true rfl) (by rw [mt_37]; exact oReader_sh o) (by rw [mt_37]; decide) (by rw [rk_37]; omega) (by have g9 := s_37 (xs := xs) (cc := cc) (zz := zz) o H2 (lo := 0) (hi := 999); rw [hq] at g9; exact g9) (fun v I3 hv => ?_)
          obtain ⟨f3, rfl, b3, hk3, h10⟩ := hv
          have F3 := F2.tr (f3.S.R y)
          have Z3 := Z2.fS hsy f3.S
          have B3 : I3 s 1 = I s 1 ∧ I3 s 2 = I s 2 := ⟨b3.1.trans B2.1, b3.2.trans B2.2⟩
          refine w_zne 140 l_45_135 (by decide) (fun _ => ?_) (fun hx => absurd hx (by decide))
          refine w_il l_45_140 rfl ?_
          refine w_aln l_45_142 rfl ?_
          refine w_gi ((v : Nat) : Int) l_45_143 (oReader_sh o) h10 ?_
          refine q_st [vi 0, vi ((v : Nat) : Int)] [] l_45_146 (by decide) rfl rfl (Nat.le_of_ble_eq_true rfl) (by rw [mx_75]; exact Nat.le_of_ble_eq_true rfl) (by rw [rk_75]; omega) (s_75e (numR_ok hq).2.1) ?_
          refine w_isn l_45_149 ⟨Nat.le_of_ble_eq_true rfl, rfl⟩ ?_
          refine w_aln l_45_150 rfl ?_
          refine w_gr l_45_151 (oReader_sh o) (oReader_r0 o) ?_
          refine w_iln l_45_154 rfl ?_
          refine w_iln l_45_155 rfl ?_
          refine p_iv [vi (((5 + f) : Nat) : Int), vi (((v * 4 + 1) : Nat) : Int)] [] l_45_156 rfl rfl (Nat.le_of_ble_eq_true rfl) (by rw [mx_70]; exact Nat.le_of_ble_eq_true rfl) (by rw [mt_70]; exact oSetup_sh (oReader_o0 o)) (by rw [mt_70]; decide) (by rw [rk_70]; omega) (s_70 (oReader_o0 o) (c := (2, v, f)) (kd := (5 + f)) (wh := (v * 4 + 1)) Z3 (by show (v * 4 + (2 - 1)) * 16 + (5 + f) = _; rfl) (show 1 ≤ 2 by decide) (by omega) (by have h9 : v ≤ 999 := (numR_ok hq).2.1; omega) (by omega)) (fun v I9 hv => ?_)
          obtain ⟨rfl, Z9, f9⟩ := hv
          refine w_ic l_45_159 (by decide) ?_
          refine w_ir l_45_160 (by decide) ?_
          have hL9 : leafR t n P p = .inr (p3, (2, v, f)) := by
            rw [hlf]
            unfold cmpR
            rw [if_pos (by rw [h60, h61]; rfl), hq]
            show Sum.inr (p3, ((if isSg t n 60 (nxt t n p) = true then 1 else if isSg t n 62 (nxt t n p) = true then 3 else 2), v, f)) = _
            rw [if_neg (by rw [h60]; decide), if_neg (by rw [h62]; decide)]
          have hR9 := hatom2 _ hL9
          exact ⟨_, _, rfl, rfl, F3.tr (fun z w h1 h2 => f9 z w (by omega) (by omega)), by rw [hR9]; exact ⟨rfl, ⟨(f9 s 1 (by omega) (by omega)).trans B3.1, (f9 s 2 (by omega) (by omega)).trans B3.2⟩, ⟨(f9 s 5 (by omega) (by omega)).trans hk3.1, (f9 s 6 (by omega) (by omega)).trans hk3.2.1, (f9 s 7 (by omega) (by omega)).trans hk3.2.2.1, hk3.2.2.2⟩, Z9⟩⟩
      | false =>
        refine CL_start (r := 7 + 4 * (5 - e)) (ls := [vr s, vi ((e : Nat) : Int), vs 2, vs 2, vs 2]) (rk_45 he) rfl ?_
        refine w_aln l_45_0 rfl ?_
        refine w_ldc l_45_1 (by decide) ?_
        refine q_iv [vs (2 * 5 + 4)] [] l_45_3 rfl rfl (Nat.le_of_ble_eq_true rfl) (by rw [mx_34]; exact Nat.le_of_ble_eq_true rfl) (by rw [mt_34]; exact oReader_sh o) (by rw [mt_34]; decide) (by rw [rk_34]; omega) (s_34 o H (q := 5) (by decide)) ?_
        refine w_bne 18 l_45_6 (by decide) (fun hx => absurd hx (by rw [hxx.1]; decide)) (fun _ => ?_)
        refine w_aln l_45_9 rfl ?_
        refine w_bp l_45_10 (by decide) ?_
        refine q_iv [vi 40] [] l_45_12 rfl rfl (Nat.le_of_ble_eq_true rfl) (by rw [mx_35]; exact Nat.le_of_ble_eq_true rfl) (by rw [mt_35]; exact oReader_sh o) (by rw [mt_35]; decide) (by rw [rk_35]; omega) ((show CL xs 35 [vr s, vi 40] (S, I, T, cc, zz) (FN (some (vi (b2i (isSg t n 40 p)))) (S, I, T, cc, zz)) from s_35 (c := 40) o H (by decide))) ?_
        refine w_beq 24 l_45_15 (by decide) (fun _ => ?_) (fun hx => absurd hx (by rw [hxx.2]; decide))
        refine w_aln l_45_24 rfl ?_
        refine q_iv [] [] l_45_25 rfl rfl (Nat.le_of_ble_eq_true rfl) (by rw [mx_46]; exact Nat.le_of_ble_eq_true rfl) (by rw [mt_46]; exact oReader_sh o) (by rw [mt_46]; decide) (by rw [rk_46]; omega) (hK) ?_
        refine w_isn l_45_28 ⟨Nat.le_of_ble_eq_true rfl, rfl⟩ ?_
        refine w_iln l_45_29 rfl ?_
        refine w_ic l_45_30 (by decide) ?_
        refine w_cne 40 l_45_31 (by decide) (fun _ => ?_) (fun hx => absurd hx (by omega))
        refine w_aln l_45_40 rfl ?_
        refine p_iv [] [] l_45_41 rfl rfl (Nat.le_of_ble_eq_true rfl) (by rw [mx_32]; exact Nat.le_of_ble_eq_true rfl) (by rw [mt_32]; exact oReader_sh o) (by rw [mt_32]; decide) (by rw [rk_32]; omega) (s_32 o H.1 (tEnd_le H.2.2.2.2) H.2.1) (fun v I1 hv => ?_)
        obtain ⟨rfl, hk1, f1⟩ := hv
        have H1 : RT I1 s x t n (nxt t n p) := ⟨H.1.fS (oReader_ne o) f1.S, hk1⟩
        have Z1 := Z.fS hsy f1.S
        have F1 := (fR.rf I s y).tr (f1.S.R y)
        have B1 : I1 s 1 = I s 1 ∧ I1 s 2 = I s 2 := ⟨(f1 s 1 (fun _ => by decide)), (f1 s 2 (fun _ => by decide))⟩
        refine w_ic l_45_44 (by decide) ?_
        refine w_isn l_45_45 ⟨Nat.le_of_ble_eq_true rfl, rfl⟩ ?_
        refine w_iln l_45_46 rfl ?_
        refine w_ic l_45_47 (by decide) ?_
        refine w_cne 69 l_45_48 (by decide) (fun _ => ?_) (fun hx => absurd hx (by omega))
        refine w_iln l_45_69 rfl ?_
        refine w_ic l_45_70 (by decide) ?_
        refine w_ceq 150 l_45_71 (by decide) (fun hx => absurd hx (by omega)) (fun _ => ?_)
        refine w_aln l_45_74 rfl ?_
        refine w_bp l_45_75 (by decide) ?_
        refine q_iv [vi 60] [] l_45_77 rfl rfl (Nat.le_of_ble_eq_true rfl) (by rw [mx_35]; exact Nat.le_of_ble_eq_true rfl) (by rw [mt_35]; exact oReader_sh o) (by rw [mt_35]; decide) (by rw [rk_35]; omega) ((show CL xs 35 [vr s, vi 60] (S, I1, T, cc, zz) (FN (some (vi (b2i (isSg t n 60 (nxt t n p))))) (S, I1, T, cc, zz)) from s_35 (c := 60) o H1 (by decide))) ?_
        refine w_beq 87 l_45_80 (by decide) (fun _ => ?_) (fun hx => absurd hx (by rw [h60]; decide))
        refine w_aln l_45_87 rfl ?_
        refine w_bp l_45_88 (by decide) ?_
        refine q_iv [vi 62] [] l_45_90 rfl rfl (Nat.le_of_ble_eq_true rfl) (by rw [mx_35]; exact Nat.le_of_ble_eq_true rfl) (by rw [mt_35]; exact oReader_sh o) (by rw [mt_35]; decide) (by rw [rk_35]; omega) ((show CL xs 35 [vr s, vi 62] (S, I1, T, cc, zz) (FN (some (vi (b2i (isSg t n 62 (nxt t n p))))) (S, I1, T, cc, zz)) from s_35 (c := 62) o H1 (by decide))) ?_
        refine w_beq 100 l_45_93 (by decide) (fun _ => ?_) (fun hx => absurd hx (by rw [h62]; decide))
        refine w_ic l_45_100 (by decide) ?_
        refine w_is l_45_101 ⟨Nat.le_of_ble_eq_true rfl, rfl⟩ ?_
        refine w_il l_45_103 rfl ?_
        refine w_zne 123 l_45_105 (by decide) (fun hx => absurd hx (by decide)) (fun _ => ?_)
        refine w_aln l_45_108 rfl ?_
        refine w_bp l_45_109 (by decide) ?_
        refine q_iv [vi 61] [] l_45_111 rfl rfl (Nat.le_of_ble_eq_true rfl) (by rw [mx_35]; exact Nat.le_of_ble_eq_true rfl) (by rw [mt_35]; exact oReader_sh o) (by rw [mt_35]; decide) (by rw [rk_35]; omega) ((show CL xs 35 [vr s, vi 61] (S, I1, T, cc, zz) (FN (some (vi (b2i (isSg t n 61 (nxt t n p))))) (S, I1, T, cc, zz)) from s_35 (c := 61) o H1 (by decide))) ?_
        refine w_bne 123 l_45_114 (by decide) (fun hx => absurd hx (by rw [h61]; decide)) (fun _ => ?_)
        refine w_aln l_45_117 rfl ?_
        refine w_ic l_45_118 (by decide) ?_
        refine q_iv [vi 1] [] l_45_119 rfl rfl (Nat.le_of_ble_eq_true rfl) (by rw [mx_33]; exact Nat.le_of_ble_eq_true rfl) (by rw [mt_33]; exact oReader_sh o) (by rw [mt_33]; decide) (by rw [rk_33]; omega) (s_33 (k := 1) o H1.2.2.1) ?_
        refine w_ir l_45_122 (by decide) ?_
        have hL9 : leafR t n P p = .inl (1, nxt t n p) := by
          rw [hlf]
          unfold cmpR
          rw [h60, h61, h62]
          rfl
        have hR9 := hatom1 _ hL9
        exact ⟨_, _, rfl, rfl, F1.tr ((((fS.rf I1 s).up (by decide)).up (by decide)).R y), by rw [hR9]; exact ⟨rfl, (up_nj (by decide)).trans up_eq, up_eq⟩⟩

theorem a_leaf (o : oReader S T s x y) (hsy : s < y) (hxy : x < y) {P : Ps} {tot : Nat} {p : Nat} {cs : Cd} (H : RT I s x t n p) (Z : SU I y P cs tot) (hb : 2 * tot + 2 * cs.length ≤ p) {d e : Nat} (hed : e + d = 5) (hn : isNest t n p = false) : CL xs 45 [vr s, vi ((e : Nat) : Int)] (S, I, T, cc, zz) (RP S T cc zz (fun v I' => fR I I' s y ∧ RO I s v I' (atomR t n P d p) (fun a => rTk I' s t n a.1 ∧ SU I' y P (cs ++ a.2) tot))) := by
  have he : e ≤ 5 := by omega
  have hpn := H.2.2.2.2
  have h600 := H.1.2.1
  have h4 := Z.2.2.2.1.1.1
  have hng := nxt_ge (t := t) (n := n) (p := p)
  have hnl := nxt_le (t := t) hpn
  have hxx : isWL t n (strB 5) p = false ∧ isSg t n 40 p = false := by
    unfold isNest at hn
    rw [Bool.or_eq_false_iff] at hn
    exact hn
  have hatom1 : ∀ e9, leafR t n P p = .inl e9 → atomR t n P d p = .inl e9 := fun e9 h9 => by
    cases d <;> (unfold atomR; rw [if_neg (by rw [hn]; decide), h9])
  have hatom2 : ∀ a9, leafR t n P p = .inr a9 → atomR t n P d p = .inr (a9.1, [a9.2]) := fun a9 h9 => by
    cases d <;> (unfold atomR; rw [if_neg (by rw [hn]; decide), h9])
  cases hw6 : isWL t n (strB 6) p with
  | true =>
    have hp2 := (isWL_nx (by decide) hw6).2
    refine CL_start (r := 7 + 4 * (5 - e)) (ls := [vr s, vi ((e : Nat) : Int), vs 2, vs 2, vs 2]) (rk_45 he) rfl ?_
    refine w_aln l_45_0 rfl ?_
    refine w_ldc l_45_1 (by decide) ?_
    refine q_iv [vs (2 * 5 + 4)] [] l_45_3 rfl rfl (Nat.le_of_ble_eq_true rfl) (by rw [mx_34]; exact Nat.le_of_ble_eq_true rfl) (by rw [mt_34]; exact oReader_sh o) (by rw [mt_34]; decide) (by rw [rk_34]; omega) (s_34 o H (q := 5) (by decide)) ?_
    refine w_bne 18 l_45_6 (by decide) (fun hx => absurd hx (by rw [hxx.1]; decide)) (fun _ => ?_)
    refine w_aln l_45_9 rfl ?_
    refine w_bp l_45_10 (by decide) ?_
    refine q_iv [vi 40] [] l_45_12 rfl rfl (Nat.le_of_ble_eq_true rfl) (by rw [mx_35]; exact Nat.le_of_ble_eq_true rfl) (by rw [mt_35]; exact oReader_sh o) (by rw [mt_35]; decide) (by rw [rk_35]; omega) ((show CL xs 35 [vr s, vi 40] (S, I, T, cc, zz) (FN (some (vi (b2i (isSg t n 40 p)))) (S, I, T, cc, zz)) from s_35 (c := 40) o H (by decide))) ?_
    refine w_beq 24 l_45_15 (by decide) (fun _ => ?_) (fun hx => absurd hx (by rw [hxx.2]; decide))
    refine w_aln l_45_24 rfl ?_
    refine q_iv [] [] l_45_25 rfl rfl (Nat.le_of_ble_eq_true rfl) (by rw [mx_46]; exact Nat.le_of_ble_eq_true rfl) (by rw [mt_46]; exact oReader_sh o) (by rw [mt_46]; decide) (by rw [rk_46]; omega) (s_46_6 o H hw6) ?_
    refine w_isn l_45_28 ⟨Nat.le_of_ble_eq_true rfl, rfl⟩ ?_
    refine w_iln l_45_29 rfl ?_
    refine w_ic l_45_30 (by decide) ?_
    refine w_cne 40 l_45_31 (by decide) (fun _ => ?_) (fun hx => absurd hx (by decide))
    refine w_aln l_45_40 rfl ?_
    refine p_iv [] [] l_45_41 rfl rfl (Nat.le_of_ble_eq_true rfl) (by rw [mx_32]; exact Nat.le_of_ble_eq_true rfl) (by rw [mt_32]; exact oReader_sh o) (by rw [mt_32]; decide) (by rw [rk_32]; omega) (s_32 o H.1 (tEnd_le H.2.2.2.2) H.2.1) (fun v I1 hv => ?_)
    obtain ⟨rfl, hk1, f1⟩ := hv
    have H1 : RT I1 s x t n (nxt t n p) := ⟨H.1.fS (oReader_ne o) f1.S, hk1⟩
    have Z1 := Z.fS hsy f1.S
    have F1 := (fR.rf I s y).tr (f1.S.R y)
    have B1 : I1 s 1 = I s 1 ∧ I1 s 2 = I s 2 := ⟨(f1 s 1 (fun _ => by decide)), (f1 s 2 (fun _ => by decide))⟩
    refine w_ic l_45_44 (by decide) ?_
    refine w_isn l_45_45 ⟨Nat.le_of_ble_eq_true rfl, rfl⟩ ?_
    refine w_iln l_45_46 rfl ?_
    refine w_ic l_45_47 (by decide) ?_
    refine w_cne 69 l_45_48 (by decide) (fun _ => ?_) (fun hx => absurd hx (by decide))
    refine w_iln l_45_69 rfl ?_
    refine w_ic l_45_70 (by decide) ?_
    refine w_ceq 150 l_45_71 (by decide) (fun _ => ?_) (fun hx => absurd hx (by decide))
    refine w_aln l_45_150 rfl ?_
    refine w_gr l_45_151 (oReader_sh o) (oReader_r0 o) ?_
    refine w_iln l_45_154 rfl ?_
    refine w_iln l_45_155 rfl ?_
    refine p_iv [vi 3, vi 0] [] l_45_156 rfl rfl (Nat.le_of_ble_eq_true rfl) (by rw [mx_70]; exact Nat.le_of_ble_eq_true rfl) (by rw [mt_70]; exact oSetup_sh (oReader_o0 o)) (by rw [mt_70]; decide) (by rw [rk_70]; omega) (s_70 (oReader_o0 o) (c := (5, 0, 0)) (kd := 3) (wh := 0) Z1 (by decide) (by decide) (by decide) (by decide) (by omega)) (fun v I9 hv => ?_)
    obtain ⟨rfl, Z9, f9⟩ := hv
    refine w_ic l_45_159 (by decide) ?_
    refine w_ir l_45_160 (by decide) ?_
    have hL9 : leafR t n P p = .inr (nxt t n p, (5, 0, 0)) := by
      unfold leafR
      rw [if_pos hw6]
    have hR9 := hatom2 _ hL9
    exact ⟨_, _, rfl, rfl, F1.tr (fun z w h1 h2 => f9 z w (by omega) (by omega)), by rw [hR9]; exact ⟨rfl, ⟨(f9 s 1 (by omega) (by omega)).trans B1.1, (f9 s 2 (by omega) (by omega)).trans B1.2⟩, ⟨(f9 s 5 (by omega) (by omega)).trans hk1.1, (f9 s 6 (by omega) (by omega)).trans hk1.2.1, (f9 s 7 (by omega) (by omega)).trans hk1.2.2.1, hk1.2.2.2⟩, Z9⟩⟩
  | false =>
    cases hw7 : isWL t n (strB 7) p with
    | true =>
      have hp2 := (isWL_nx (by decide) hw7).2
      cases hq : portR t n P (nxt t n p) with
      | inl e9 =>
        refine CL_start (r := 7 + 4 * (5 - e)) (ls := [vr s, vi ((e : Nat) : Int), vs 2, vs 2, vs 2]) (rk_45 he) rfl ?_
        refine w_aln l_45_0 rfl ?_
        refine w_ldc l_45_1 (by decide) ?_
        refine q_iv [vs (2 * 5 + 4)] [] l_45_3 rfl rfl (Nat.le_of_ble_eq_true rfl) (by rw [mx_34]; exact Nat.le_of_ble_eq_true rfl) (by rw [mt_34]; exact oReader_sh o) (by rw [mt_34]; decide) (by rw [rk_34]; omega) (s_34 o H (q := 5) (by decide)) ?_
        refine w_bne 18 l_45_6 (by decide) (fun hx => absurd hx (by rw [hxx.1]; decide)) (fun _ => ?_)
        refine w_aln l_45_9 rfl ?_
        refine w_bp l_45_10 (by decide) ?_
        refine q_iv [vi 40] [] l_45_12 rfl rfl (Nat.le_of_ble_eq_true rfl) (by rw [mx_35]; exact Nat.le_of_ble_eq_true rfl) (by rw [mt_35]; exact oReader_sh o) (by rw [mt_35]; decide) (by rw [rk_35]; omega) ((show CL xs 35 [vr s, vi 40] (S, I, T, cc, zz) (FN (some (vi (b2i (isSg t n 40 p)))) (S, I, T, cc, zz)) from s_35 (c := 40) o H (by decide))) ?_
        refine w_beq 24 l_45_15 (by decide) (fun _ => ?_) (fun hx => absurd hx (by rw [hxx.2]; decide))
        refine w_aln l_45_24 rfl ?_
        refine q_iv [] [] l_45_25 rfl rfl (Nat.le_of_ble_eq_true rfl) (by rw [mx_46]; exact Nat.le_of_ble_eq_true rfl) (by rw [mt_46]; exact oReader_sh o) (by rw [mt_46]; decide) (by rw [rk_46]; omega) (s_46_7 o H hw6 hw7) ?_
        refine w_isn l_45_28 ⟨Nat.le_of_ble_eq_true rfl, rfl⟩ ?_
        refine w_iln l_45_29 rfl ?_
        refine w_ic l_45_30 (by decide) ?_
        refine w_cne 40 l_45_31 (by decide) (fun _ => ?_) (fun hx => absurd hx (by decide))
        refine w_aln l_45_40 rfl ?_
        refine p_iv [] [] l_45_41 rfl rfl (Nat.le_of_ble_eq_true rfl) (by rw [mx_32]; exact Nat.le_of_ble_eq_true rfl) (by rw [mt_32]; exact oReader_sh o) (by rw [mt_32]; decide) (by rw [rk_32]; omega) (s_32 o H.1 (tEnd_le H.2.2.2.2) H.2.1) (fun v I1 hv => ?_)
        obtain ⟨rfl, hk1, f1⟩ := hv
        have H1 : RT I1 s x t n (nxt t n p) := ⟨H.1.fS (oReader_ne o) f1.S, hk1⟩
        have Z1 := Z.fS hsy f1.S
        have F1 := (fR.rf I s y).tr (f1.S.R y)
        have B1 : I1 s 1 = I s 1 ∧ I1 s 2 = I s 2 := ⟨(f1 s 1 (fun _ => by decide)), (f1 s 2 (fun _ => by decide))⟩
        refine w_ic l_45_44 (by decide) ?_
        refine w_isn l_45_45 ⟨Nat.le_of_ble_eq_true rfl, rfl⟩ ?_
        refine w_iln l_45_46 rfl ?_
        refine w_ic l_45_47 (by decide) ?_
        refine w_cne 69 l_45_48 (by decide) (fun hx => absurd hx (by decide)) (fun _ => ?_)
        refine w_aln l_45_51 rfl ?_
        refine w_ic l_45_52 (by decide) ?_
        refine p_iv [vi 0] [] l_45_53 rfl rfl (Nat.le_of_ble_eq_true rfl) (by rw [mx_38]; exact Nat.le_of_ble_eq_true rfl) (by rw [mt_38]; exact oReader_sh o) (by rw [mt_38]; decide) (by rw [rk_38]; omega) (by have g9 := s_38_0 (xs := xs) (cc := cc) (zz := zz) o H1 hsy Z1; rw [hq] at g9; exact g9) (fun v I2 hv => ?_)
        obtain ⟨f2, rfl, e1, e2⟩ := hv
        have F2 := F1.tr (f2.R y)
        have Z2 := Z1.fS hsy f2
        refine w_zne 61 l_45_56 (by decide) (fun hx => absurd hx (by decide)) (fun _ => ?_)
        refine w_ic l_45_59 (by decide) ?_
        refine w_ir l_45_60 (by decide) ?_
        have hL9 : leafR t n P p = .inl e9 := by
          unfold leafR
          rw [if_neg (by rw [hw6]; decide), if_pos hw7, hq]
        have hR9 := hatom1 _ hL9
        exact ⟨_, _, rfl, rfl, F2, by rw [hR9]; exact ⟨rfl, e1, e2⟩⟩
      | inr a9 =>
        obtain ⟨i, p2⟩ := a9
        refine CL_start (r := 7 + 4 * (5 - e)) (ls := [vr s, vi ((e : Nat) : Int), vs 2, vs 2, vs 2]) (rk_45 he) rfl ?_
        refine w_aln l_45_0 rfl ?_
        refine w_ldc l_45_1 (by decide) ?_
        refine q_iv [vs (2 * 5 + 4)] [] l_45_3 rfl rfl (Nat.le_of_ble_eq_true rfl) (by rw [mx_34]; exact Nat.le_of_ble_eq_true rfl) (by rw [mt_34]; exact oReader_sh o) (by rw [mt_34]; decide) (by rw [rk_34]; omega) (s_34 o H (q := 5) (by decide)) ?_
        refine w_bne 18 l_45_6 (by decide) (fun hx => absurd hx (by rw [hxx.1]; decide)) (fun _ => ?_)
        refine w_aln l_45_9 rfl ?_
        refine w_bp l_45_10 (by decide) ?_
        refine q_iv [vi 40] [] l_45_12 rfl rfl (Nat.le_of_ble_eq_true rfl) (by rw [mx_35]; exact Nat.le_of_ble_eq_true rfl) (by rw [mt_35]; exact oReader_sh o) (by rw [mt_35]; decide) (by rw [rk_35]; omega) ((show CL xs 35 [vr s, vi 40] (S, I, T, cc, zz) (FN (some (vi (b2i (isSg t n 40 p)))) (S, I, T, cc, zz)) from s_35 (c := 40) o H (by decide))) ?_
        refine w_beq 24 l_45_15 (by decide) (fun _ => ?_) (fun hx => absurd hx (by rw [hxx.2]; decide))
        refine w_aln l_45_24 rfl ?_
        refine q_iv [] [] l_45_25 rfl rfl (Nat.le_of_ble_eq_true rfl) (by rw [mx_46]; exact Nat.le_of_ble_eq_true rfl) (by rw [mt_46]; exact oReader_sh o) (by rw [mt_46]; decide) (by rw [rk_46]; omega) (s_46_7 o H hw6 hw7) ?_
        refine w_isn l_45_28 ⟨Nat.le_of_ble_eq_true rfl, rfl⟩ ?_
        refine w_iln l_45_29 rfl ?_
        refine w_ic l_45_30 (by decide) ?_
        refine w_cne 40 l_45_31 (by decide) (fun _ => ?_) (fun hx => absurd hx (by decide))
        refine w_aln l_45_40 rfl ?_
        refine p_iv [] [] l_45_41 rfl rfl (Nat.le_of_ble_eq_true rfl) (by rw [mx_32]; exact Nat.le_of_ble_eq_true rfl) (by rw [mt_32]; exact oReader_sh o) (by rw [mt_32]; decide) (by rw [rk_32]; omega) (s_32 o H.1 (tEnd_le H.2.2.2.2) H.2.1) (fun v I1 hv => ?_)
        obtain ⟨rfl, hk1, f1⟩ := hv
        have H1 : RT I1 s x t n (nxt t n p) := ⟨H.1.fS (oReader_ne o) f1.S, hk1⟩
        have Z1 := Z.fS hsy f1.S
        have F1 := (fR.rf I s y).tr (f1.S.R y)
        have B1 : I1 s 1 = I s 1 ∧ I1 s 2 = I s 2 := ⟨(f1 s 1 (fun _ => by decide)), (f1 s 2 (fun _ => by decide))⟩
        refine w_ic l_45_44 (by decide) ?_
        refine w_isn l_45_45 ⟨Nat.le_of_ble_eq_true rfl, rfl⟩ ?_
        refine w_iln l_45_46 rfl ?_
        refine w_ic l_45_47 (by decide) ?_
        refine w_cne 69 l_45_48 (by decide) (fun hx => absurd hx (by decide)) (fun _ => ?_)
        refine w_aln l_45_51 rfl ?_
        refine w_ic l_45_52 (by decide) ?_
        refine p_iv [vi 0] [] l_45_53 rfl rfl (Nat.le_of_ble_eq_true rfl) (by rw [mx_38]; exact Nat.le_of_ble_eq_true rfl) (by rw [mt_38]; exact oReader_sh o) (by rw [mt_38]; decide) (by rw [rk_38]; omega) (by have g9 := s_38_0 (xs := xs) (cc := cc) (zz := zz) o H1 hsy Z1; rw [hq] at g9; exact g9) (fun v I2 hv => ?_)
        obtain ⟨f2, rfl, b2, hk2, h9, hil⟩ := hv
        have F2 := F1.tr (f2.R y)
        have Z2 := Z1.fS hsy f2
        have hil : i < lPorts P.1 := hil
        have B2 : I2 s 1 = I s 1 ∧ I2 s 2 = I s 2 := ⟨b2.1.trans B1.1, b2.2.trans B1.2⟩
        refine w_zne 61 l_45_56 (by decide) (fun _ => ?_) (fun hx => absurd hx (by decide))
        refine w_aln l_45_61 rfl ?_
        refine w_gi ((i : Nat) : Int) l_45_62 (oReader_sh o) h9 ?_
        refine w_isn l_45_65 ⟨Nat.le_of_ble_eq_true rfl, rfl⟩ ?_
        refine w_go 150 l_45_66 (by decide) ?_
        refine w_aln l_45_150 rfl ?_
        refine w_gr l_45_151 (oReader_sh o) (oReader_r0 o) ?_
        refine w_iln l_45_154 rfl ?_
        refine w_iln l_45_155 rfl ?_
        refine p_iv [vi 4, vi ((i : Nat) : Int)] [] l_45_156 rfl rfl (Nat.le_of_ble_eq_true rfl) (by rw [mx_70]; exact Nat.le_of_ble_eq_true rfl) (by rw [mt_70]; exact oSetup_sh (oReader_o0 o)) (by rw [mt_70]; decide) (by rw [rk_70]; omega) (s_70 (oReader_o0 o) (c := (4, i, 0)) (kd := 4) (wh := i) Z2 (by show i * 16 + 4 = _; rfl) (show 1 ≤ 4 by decide) (by decide) (by omega) (by omega)) (fun v I9 hv => ?_)
        obtain ⟨rfl, Z9, f9⟩ := hv
        refine w_ic l_45_159 (by decide) ?_
        refine w_ir l_45_160 (by decide) ?_
        have hL9 : leafR t n P p = .inr (p2, (4, i, 0)) := by
          unfold leafR
          rw [if_neg (by rw [hw6]; decide), if_pos hw7, hq]
        have hR9 := hatom2 _ hL9
        exact ⟨_, _, rfl, rfl, F2.tr (fun z w h1 h2 => f9 z w (by omega) (by omega)), by rw [hR9]; exact ⟨rfl, ⟨(f9 s 1 (by omega) (by omega)).trans B2.1, (f9 s 2 (by omega) (by omega)).trans B2.2⟩, ⟨(f9 s 5 (by omega) (by omega)).trans hk2.1, (f9 s 6 (by omega) (by omega)).trans hk2.2.1, (f9 s 7 (by omega) (by omega)).trans hk2.2.2.1, hk2.2.2.2⟩, Z9⟩⟩
    | false =>
      cases hw8 : isWL t n (strB 8) p with
      | true => exact a_fact (f := 0) o hsy hxy H Z hb hed hn (by decide) (isWL_nx (by decide) hw8).2 (s_46_8 o H hw6 hw7 hw8) (by unfold leafR; rw [if_neg (by rw [hw6]; decide), if_neg (by rw [hw7]; decide), if_pos hw8])
      | false =>
        cases hw9 : isWL t n (strB 9) p with
        | true => exact a_fact (f := 1) o hsy hxy H Z hb hed hn (by decide) (isWL_nx (by decide) hw9).2 (s_46_9 o H hw6 hw7 hw8 hw9) (by unfold leafR; rw [if_neg (by rw [hw6]; decide), if_neg (by rw [hw7]; decide), if_neg (by rw [hw8]; decide), if_pos hw9])
        | false =>
          cases hw10 : isWL t n (strB 10) p with
          | true => exact a_fact (f := 2) o hsy hxy H Z hb hed hn (by decide) (isWL_nx (by decide) hw10).2 (s_46_10 o H hw6 hw7 hw8 hw9 hw10) (by unfold leafR; rw [if_neg (by rw [hw6]; decide), if_neg (by rw [hw7]; decide), if_neg (by rw [hw8]; decide), if_neg (by rw [hw9]; decide), if_pos hw10])
          | false =>
            cases hw11 : isWL t n (strB 11) p with
            | true => exact a_fact (f := 3) o hsy hxy H Z hb hed hn (by decide) (isWL_nx (by decide) hw11).2 (s_46_11 o H hw6 hw7 hw8 hw9 hw10 hw11) (by unfold leafR; rw [if_neg (by rw [hw6]; decide), if_neg (by rw [hw7]; decide), if_neg (by rw [hw8]; decide), if_neg (by rw [hw9]; decide), if_neg (by rw [hw10]; decide), if_pos hw11])
            | false =>
              refine CL_start (r := 7 + 4 * (5 - e)) (ls := [vr s, vi ((e : Nat) : Int), vs 2, vs 2, vs 2]) (rk_45 he) rfl ?_
              refine w_aln l_45_0 rfl ?_
              refine w_ldc l_45_1 (by decide) ?_
              refine q_iv [vs (2 * 5 + 4)] [] l_45_3 rfl rfl (Nat.le_of_ble_eq_true rfl) (by rw [mx_34]; exact Nat.le_of_ble_eq_true rfl) (by rw [mt_34]; exact oReader_sh o) (by rw [mt_34]; decide) (by rw [rk_34]; omega) (s_34 o H (q := 5) (by decide)) ?_
              refine w_bne 18 l_45_6 (by decide) (fun hx => absurd hx (by rw [hxx.1]; decide)) (fun _ => ?_)
              refine w_aln l_45_9 rfl ?_
              refine w_bp l_45_10 (by decide) ?_
              refine q_iv [vi 40] [] l_45_12 rfl rfl (Nat.le_of_ble_eq_true rfl) (by rw [mx_35]; exact Nat.le_of_ble_eq_true rfl) (by rw [mt_35]; exact oReader_sh o) (by rw [mt_35]; decide) (by rw [rk_35]; omega) ((show CL xs 35 [vr s, vi 40] (S, I, T, cc, zz) (FN (some (vi (b2i (isSg t n 40 p)))) (S, I, T, cc, zz)) from s_35 (c := 40) o H (by decide))) ?_
              refine w_beq 24 l_45_15 (by decide) (fun _ => ?_) (fun hx => absurd hx (by rw [hxx.2]; decide))
              refine w_aln l_45_24 rfl ?_
              refine q_iv [] [] l_45_25 rfl rfl (Nat.le_of_ble_eq_true rfl) (by rw [mx_46]; exact Nat.le_of_ble_eq_true rfl) (by rw [mt_46]; exact oReader_sh o) (by rw [mt_46]; decide) (by rw [rk_46]; omega) (s_46_0 o H hw6 hw7 hw8 hw9 hw10 hw11) ?_
              refine w_isn l_45_28 ⟨Nat.le_of_ble_eq_true rfl, rfl⟩ ?_
              refine w_iln l_45_29 rfl ?_
              refine w_ic l_45_30 (by decide) ?_
              refine w_cne 40 l_45_31 (by decide) (fun hx => absurd hx (by decide)) (fun _ => ?_)
              refine w_aln l_45_34 rfl ?_
              refine w_ic l_45_35 (by decide) ?_
              refine q_iv [vi 1] [] l_45_36 rfl rfl (Nat.le_of_ble_eq_true rfl) (by rw [mx_33]; exact Nat.le_of_ble_eq_true rfl) (by rw [mt_33]; exact oReader_sh o) (by rw [mt_33]; decide) (by rw [rk_33]; omega) (s_33 (k := 1) o H.2.2.1) ?_
              refine w_ir l_45_39 (by decide) ?_
              have hL9 : leafR t n P p = .inl (1, p) := by
                unfold leafR
                rw [if_neg (by rw [hw6]; decide), if_neg (by rw [hw7]; decide), if_neg (by rw [hw8]; decide), if_neg (by rw [hw9]; decide), if_neg (by rw [hw10]; decide), if_neg (by rw [hw11]; decide)]
              have hR9 := hatom1 _ hL9
              exact ⟨_, _, rfl, rfl, (((fS.rf I s).up (by decide)).up (by decide)).R y, by rw [hR9]; exact ⟨rfl, (up_nj (by decide)).trans up_eq, up_eq⟩⟩

theorem a_all (o : oReader S T s x y) (hsy : s < y) (hxy : x < y) {P : Ps} {tot : Nat} {d e : Nat} (hed : e + d = 5) (hN : ∀ {I : Ix} {p : Nat} {cs : Cd}, RT I s x t n p → SU I y P cs tot → 2 * tot + 2 * cs.length ≤ p → isNest t n p = true → CL xs 47 [vr s, vi ((e : Nat) : Int)] (S, I, T, cc, zz) (RP S T cc zz (fun v I' => fR I I' s y ∧ RO I s v I' (atomR t n P d p) (fun a => rTk I' s t n a.1 ∧ SU I' y P (cs ++ a.2) tot)))) : CS xs S T cc zz s x y t n P tot 45 e (atomR t n P d) := by
  intro I p cs H Z hb
  have he : e ≤ 5 := by omega
  have hpn := H.2.2.2.2
  have h600 := H.1.2.1
  cases hn : isNest t n p with
  | false => exact a_leaf o hsy hxy H Z hb hed hn
  | true =>
    cases hr : atomR t n P d p with
    | inl e9 =>
      refine CL_start (r := 7 + 4 * (5 - e)) (ls := [vr s, vi ((e : Nat) : Int), vs 2, vs 2, vs 2]) (rk_45 he) rfl ?_
      refine w_aln l_45_0 rfl ?_
      refine w_ldc l_45_1 (by decide) ?_
      refine q_iv [vs (2 * 5 + 4)] [] l_45_3 rfl rfl (Nat.le_of_ble_eq_true rfl) (by rw [mx_34]; exact Nat.le_of_ble_eq_true rfl) (by rw [mt_34]; exact oReader_sh o) (by rw [mt_34]; decide) (by rw [rk_34]; omega) (s_34 o H (q := 5) (by decide)) ?_
      refine w_bne 18 l_45_6 (by decide) (fun h1 => ?_) (fun h1 => ?_)
      · skip
        refine w_aln l_45_18 rfl ?_
        refine w_iln l_45_19 rfl ?_
        refine p_iv [vi ((e : Nat) : Int)] [] l_45_20 rfl rfl (Nat.le_of_ble_eq_true rfl) (by rw [mx_47]; exact Nat.le_of_ble_eq_true rfl) (by rw [mt_47]; exact oReader_sh o) (by rw [mt_47]; decide) (by rw [rk_47 (by omega)]; omega) (by have g9 := hN (I := I) H Z hb hn; rw [hr] at g9; exact g9) (fun v I2 hv => ?_)
        obtain ⟨f2, rfl, e1, e2⟩ := hv
        refine w_ir l_45_23 (by decide) ?_
        exact ⟨_, _, rfl, rfl, f2, rfl, e1, e2⟩
      · skip
        refine w_aln l_45_9 rfl ?_
        refine w_bp l_45_10 (by decide) ?_
        refine q_iv [vi 40] [] l_45_12 rfl rfl (Nat.le_of_ble_eq_true rfl) (by rw [mx_35]; exact Nat.le_of_ble_eq_true rfl) (by rw [mt_35]; exact oReader_sh o) (by rw [mt_35]; decide) (by rw [rk_35]; omega) ((show CL xs 35 [vr s, vi 40] (S, I, T, cc, zz) (FN (some (vi (b2i (isSg t n 40 p)))) (S, I, T, cc, zz)) from s_35 (c := 40) o H (by decide))) ?_
        refine w_beq 24 l_45_15 (by decide) (fun h2 => ?_) (fun h2 => ?_)
        · skip
          exact absurd hn (by unfold isNest; rw [h1, h2]; decide)
        · skip
          refine w_aln l_45_18 rfl ?_
          refine w_iln l_45_19 rfl ?_
          refine p_iv [vi ((e : Nat) : Int)] [] l_45_20 rfl rfl (Nat.le_of_ble_eq_true rfl) (by rw [mx_47]; exact Nat.le_of_ble_eq_true rfl) (by rw [mt_47]; exact oReader_sh o) (by rw [mt_47]; decide) (by rw [rk_47 (by omega)]; omega) (by have g9 := hN (I := I) H Z hb hn; rw [hr] at g9; exact g9) (fun v I2 hv => ?_)
          obtain ⟨f2, rfl, e1, e2⟩ := hv
          refine w_ir l_45_23 (by decide) ?_
          exact ⟨_, _, rfl, rfl, f2, rfl, e1, e2⟩
    | inr a9 =>
      refine CL_start (r := 7 + 4 * (5 - e)) (ls := [vr s, vi ((e : Nat) : Int), vs 2, vs 2, vs 2]) (rk_45 he) rfl ?_
      refine w_aln l_45_0 rfl ?_
      refine w_ldc l_45_1 (by decide) ?_
      refine q_iv [vs (2 * 5 + 4)] [] l_45_3 rfl rfl (Nat.le_of_ble_eq_true rfl) (by rw [mx_34]; exact Nat.le_of_ble_eq_true rfl) (by rw [mt_34]; exact oReader_sh o) (by rw [mt_34]; decide) (by rw [rk_34]; omega) (s_34 o H (q := 5) (by decide)) ?_
      refine w_bne 18 l_45_6 (by decide) (fun h1 => ?_) (fun h1 => ?_)
      · skip
        refine w_aln l_45_18 rfl ?_
        refine w_iln l_45_19 rfl ?_
        refine p_iv [vi ((e : Nat) : Int)] [] l_45_20 rfl rfl (Nat.le_of_ble_eq_true rfl) (by rw [mx_47]; exact Nat.le_of_ble_eq_true rfl) (by rw [mt_47]; exact oReader_sh o) (by rw [mt_47]; decide) (by rw [rk_47 (by omega)]; omega) (by have g9 := hN (I := I) H Z hb hn; rw [hr] at g9; exact g9) (fun v I2 hv => ?_)
        obtain ⟨f2, rfl, b2, hk2⟩ := hv
        refine w_ir l_45_23 (by decide) ?_
        exact ⟨_, _, rfl, rfl, f2, rfl, b2, hk2⟩
      · skip
        refine w_aln l_45_9 rfl ?_
        refine w_bp l_45_10 (by decide) ?_
        refine q_iv [vi 40] [] l_45_12 rfl rfl (Nat.le_of_ble_eq_true rfl) (by rw [mx_35]; exact Nat.le_of_ble_eq_true rfl) (by rw [mt_35]; exact oReader_sh o) (by rw [mt_35]; decide) (by rw [rk_35]; omega) ((show CL xs 35 [vr s, vi 40] (S, I, T, cc, zz) (FN (some (vi (b2i (isSg t n 40 p)))) (S, I, T, cc, zz)) from s_35 (c := 40) o H (by decide))) ?_
        refine w_beq 24 l_45_15 (by decide) (fun h2 => ?_) (fun h2 => ?_)
        · skip
          exact absurd hn (by unfold isNest; rw [h1, h2]; decide)
        · skip
          refine w_aln l_45_18 rfl ?_
          refine w_iln l_45_19 rfl ?_
          refine p_iv [vi ((e : Nat) : Int)] [] l_45_20 rfl rfl (Nat.le_of_ble_eq_true rfl) (by rw [mx_47]; exact Nat.le_of_ble_eq_true rfl) (by rw [mt_47]; exact oReader_sh o) (by rw [mt_47]; decide) (by rw [rk_47 (by omega)]; omega) (by have g9 := hN (I := I) H Z hb hn; rw [hr] at g9; exact g9) (fun v I2 hv => ?_)
          obtain ⟨f2, rfl, b2, hk2⟩ := hv
          refine w_ir l_45_23 (by decide) ?_
          exact ⟨_, _, rfl, rfl, f2, rfl, b2, hk2⟩
theorem a_45 (o : oReader S T s x y) (hsy : s < y) (hxy : x < y) {P : Ps} {tot : Nat} (h4 : lPorts P.1 ≤ 4) : ∀ d e, e + d = 5 → CS xs S T cc zz s x y t n P tot 45 e (atomR t n P d)
  | 0, e, hed => by
    obtain rfl : e = 5 := by omega
    exact a_all o hsy hxy hed fun H Z hb hn => n_0 o hsy hxy H Z hb hn
  | d + 1, e, hed => by
    have ih := a_45 (tot := tot) o hsy hxy h4 d (e + 1) (by omega)
    have h44 := c_44 o hsy hxy (by omega) ih (atom_ok h4 d)
    have h43 := c_43 o hsy hxy (by omega) h44 (list_ok (c := 7) (atom_ok h4 d) (by decide) (Or.inl rfl))
    exact a_all o hsy hxy hed fun H Z hb hn => n_s o hsy hxy hed ih h43 H Z hb hn
theorem a_cond (o : oReader S T s x y) (hsy : s < y) (hxy : x < y) {P : Ps} {tot : Nat} (h4 : lPorts P.1 ≤ 4) : CS xs S T cc zz s x y t n P tot 43 0 (condR t n (atomR t n P 5)) :=
  c_43 o hsy hxy (by decide) (c_44 o hsy hxy (by decide) (a_45 o hsy hxy h4 5 0 rfl) (atom_ok h4 5)) (list_ok (c := 7) (atom_ok h4 5) (by decide) (Or.inl rfl))

end RDA
