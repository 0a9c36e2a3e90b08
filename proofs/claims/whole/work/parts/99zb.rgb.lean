/-! the reference's reader: atoms -/
theorem wl_inj {t : Nat → Int} {n p : Nat} {a b : List Nat} (ha : isWL t n a p = true) (hb : isWL t n b p = true) : a = b := by
  have h1 := isWL_iff.mp ha
  have h2 := isWL_iff.mp hb
  have hl : a.length = b.length := by omega
  refine List.ext_getElem hl fun i hi hi2 => ?_
  have g1 := h1.2.2 i hi
  have g2 := h2.2.2 i hi2
  rw [List.getD_eq_getElem?_getD, List.getElem?_eq_getElem hi, Option.getD_some] at g1
  rw [List.getD_eq_getElem?_getD, List.getElem?_eq_getElem hi2, Option.getD_some] at g2
  omega
theorem wl_ne {t : Nat → Int} {n p q r : Nat} (ha : isWL t n (strB q) p = true) (h : strB q ≠ strB r) : isWL t n (strB r) p = false := Bool.eq_false_iff.mpr fun hb => h (wl_inj ha hb)
theorem strB_ne67 : strB 7 ≠ strB 6 := by decide +kernel
/-- the fact that stands at p -/
def facV (t : Nat → Int) (n p : Nat) : Option Nat := if isWL t n (strB 8) p then some 0 else if isWL t n (strB 9) p then some 1 else if isWL t n (strB 10) p then some 2 else if isWL t n (strB 11) p then some 3 else none
def facZ (t : Nat → Int) (n p : Nat) : Int := match facV t n p with
  | none => -1
  | some f => ((f : Nat) : Int)
theorem facV_1 {t : Nat → Int} {n p f : Nat} (h : facV t n p = some f) : f ≤ 3 ∧ tkk t n p = 1 := by
  unfold facV at h
  split at h
  · rename_i h1; cases h; exact ⟨by decide, (isWL_1 h1).1⟩
  · split at h
    · rename_i h1; cases h; exact ⟨by decide, (isWL_1 h1).1⟩
    · split at h
      · rename_i h1; cases h; exact ⟨by decide, (isWL_1 h1).1⟩
      · split at h
        · rename_i h1; cases h; exact ⟨by decide, (isWL_1 h1).1⟩
        · cases h
theorem leafR_f {t : Nat → Int} {n p : Nat} {P : Ps} (h6 : isWL t n (strB 6) p = false) (h7 : isWL t n (strB 7) p = false) : leafR t n P p = match facV t n p with
    | none => .inl (1, p)
    | some f => cmpR t n f (nxt t n p) := by
  unfold leafR facV
  rw [if_neg (by rw [h6]; decide), if_neg (by rw [h7]; decide)]
  repeat (split <;> try rfl)
section RGB
variable {xs : List Int} {S : List (Nat × Nat)} {T : Nat → Nat → Nat} {cc zz s : Nat} {I I' : Ix} {t : Nat → Int} {n : Nat}

theorem mx_191 : mxl 191 = 1 := by decide +kernel
theorem mt_191 : mtc 191 = 10 := by decide +kernel
theorem rk_191 (as : List AV) : rkA 191 as = 5 := rfl
theorem l_191_0 : look 191 0 = some (.aload_n 0, 1, 0, 0, 0, 0) := by decide +kernel
theorem l_191_1 : look 191 1 = some (.ldc 243, 2, 38, 0, 0, 1852) := by decide +kernel
theorem l_191_3 : look 191 3 = some (.invokevirtual 194, 3, 178, 2, 0, 1767) := by decide +kernel
theorem l_191_6 : look 191 6 = some (.ifCond .eq 5, 3, 0, 0, 0, 0) := by decide +kernel
theorem l_191_9 : look 191 9 = some (.iconst 0, 1, 0, 0, 0, 0) := by decide +kernel
theorem l_191_10 : look 191 10 = some (.ireturn, 1, 0, 0, 0, 0) := by decide +kernel
theorem l_191_11 : look 191 11 = some (.aload_n 0, 1, 0, 0, 0, 0) := by decide +kernel
theorem l_191_12 : look 191 12 = some (.ldc 245, 2, 39, 0, 0, 1853) := by decide +kernel
theorem l_191_14 : look 191 14 = some (.invokevirtual 194, 3, 178, 2, 0, 1767) := by decide +kernel
theorem l_191_17 : look 191 17 = some (.ifCond .eq 5, 3, 0, 0, 0, 0) := by decide +kernel
theorem l_191_20 : look 191 20 = some (.iconst 1, 1, 0, 0, 0, 0) := by decide +kernel
theorem l_191_21 : look 191 21 = some (.ireturn, 1, 0, 0, 0, 0) := by decide +kernel
theorem l_191_22 : look 191 22 = some (.aload_n 0, 1, 0, 0, 0, 0) := by decide +kernel
theorem l_191_23 : look 191 23 = some (.ldc 247, 2, 40, 0, 0, 1854) := by decide +kernel
theorem l_191_25 : look 191 25 = some (.invokevirtual 194, 3, 178, 2, 0, 1767) := by decide +kernel
theorem l_191_28 : look 191 28 = some (.ifCond .eq 7, 3, 0, 0, 0, 0) := by decide +kernel
theorem l_191_31 : look 191 31 = some (.iconst 2, 1, 0, 0, 0, 0) := by decide +kernel
theorem l_191_32 : look 191 32 = some (.goto 17, 3, 0, 0, 0, 0) := by decide +kernel
theorem l_191_35 : look 191 35 = some (.aload_n 0, 1, 0, 0, 0, 0) := by decide +kernel
theorem l_191_36 : look 191 36 = some (.ldc 249, 2, 41, 0, 0, 1855) := by decide +kernel
theorem l_191_38 : look 191 38 = some (.invokevirtual 194, 3, 178, 2, 0, 1767) := by decide +kernel
theorem l_191_41 : look 191 41 = some (.ifCond .eq 7, 3, 0, 0, 0, 0) := by decide +kernel
theorem l_191_44 : look 191 44 = some (.iconst 3, 1, 0, 0, 0, 0) := by decide +kernel
theorem l_191_45 : look 191 45 = some (.goto 4, 3, 0, 0, 0, 0) := by decide +kernel
theorem l_191_48 : look 191 48 = some (.iconst (-1), 1, 0, 0, 0, 0) := by decide +kernel
theorem l_191_49 : look 191 49 = some (.ireturn, 1, 0, 0, 0, 0) := by decide +kernel

theorem s_191 (hm : oModel S T s) (H : mTx I s t n) {p : Nat} (A : mAt I s t n p) (h24 : I s 24 = 0) : CL xs 191 [vr s] (S, I, T, cc, zz) (RP S T cc zz (fun v I' => v = some (vi (facZ t n p)) ∧ I' s 22 = ((p : Nat) : Int) ∧ f22 I I' s)) := by
  cases hw8 : isWL t n (strB 8) p with
  | true =>
    refine CL_start (r := 5) (ls := [vr s]) (rk_191 _) rfl ?_
    refine w_aln l_191_0 rfl ?_
    refine w_ldc l_191_1 (by decide) ?_
    refine p_iv [vs (2 * 38 + 4)] [] l_191_3 rfl rfl (Nat.le_of_ble_eq_true rfl) (by rw [mx_178]; exact Nat.le_of_ble_eq_true rfl) (by rw [mt_178]; exact oModel_sh hm) (by rw [mt_178]; decide) (by rw [rk_178]; decide) (by have g9 := s_178A (xs := xs) (cc := cc) (zz := zz) hm H A h24 (q := 38) (by decide); rw [strB_same.2.2.2.1, hw8] at g9; exact g9) (fun v I1 hv => ?_)
    obtain ⟨rfl, g221, f1⟩ := hv
    have H1 := H.fT f1.T
    have A1 := mAt.at g221 A.le A.id
    have k241 : I1 s 24 = 0 := (f1 s 24 (fun _ => by decide)).trans h24
    refine w_zeq 11 l_191_6 (by decide) (fun hx => absurd hx (by decide)) (fun _ => ?_)
    refine w_ic l_191_9 (by decide) ?_
    refine w_ir l_191_10 (Or.inl rfl) ?_
    have hR : facV t n p = some 0 := by unfold facV; rw [if_pos hw8]
    exact ⟨_, _, rfl, rfl, (by unfold facZ; rw [hR]; first | done | rfl), g221, f1⟩
  | false =>
    cases hw9 : isWL t n (strB 9) p with
    | true =>
      refine CL_start (r := 5) (ls := [vr s]) (rk_191 _) rfl ?_
      refine w_aln l_191_0 rfl ?_
      refine w_ldc l_191_1 (by decide) ?_
      refine p_iv [vs (2 * 38 + 4)] [] l_191_3 rfl rfl (Nat.le_of_ble_eq_true rfl) (by rw [mx_178]; exact Nat.le_of_ble_eq_true rfl) (by rw [mt_178]; exact oModel_sh hm) (by rw [mt_178]; decide) (by rw [rk_178]; decide) (by have g9 := s_178A (xs := xs) (cc := cc) (zz := zz) hm H A h24 (q := 38) (by decide); rw [strB_same.2.2.2.1, hw8] at g9; exact g9) (fun v I1 hv => ?_)
      obtain ⟨rfl, g221, f1⟩ := hv
      have H1 := H.fT f1.T
      have A1 := mAt.at g221 A.le A.id
      have k241 : I1 s 24 = 0 := (f1 s 24 (fun _ => by decide)).trans h24
      refine w_zeq 11 l_191_6 (by decide) (fun _ => ?_) (fun hx => absurd hx (by decide))
      refine w_aln l_191_11 rfl ?_
      refine w_ldc l_191_12 (by decide) ?_
      refine p_iv [vs (2 * 39 + 4)] [] l_191_14 rfl rfl (Nat.le_of_ble_eq_true rfl) (by rw [mx_178]; exact Nat.le_of_ble_eq_true rfl) (by rw [mt_178]; exact oModel_sh hm) (by rw [mt_178]; decide) (by rw [rk_178]; decide) (by have g9 := s_178A (xs := xs) (cc := cc) (zz := zz) hm H1 A1 k241 (q := 39) (by decide); rw [strB_same.2.2.2.2.1, hw9] at g9; exact g9) (fun v I2 hv => ?_)
      obtain ⟨rfl, g222, f2⟩ := hv
      have H2 := H1.fT f2.T
      have A2 := mAt.at g222 A.le A.id
      have k242 : I2 s 24 = 0 := (f2 s 24 (fun _ => by decide)).trans k241
      refine w_zeq 22 l_191_17 (by decide) (fun hx => absurd hx (by decide)) (fun _ => ?_)
      refine w_ic l_191_20 (by decide) ?_
      refine w_ir l_191_21 (Or.inl rfl) ?_
      have hR : facV t n p = some 1 := by unfold facV; rw [if_neg (by rw [hw8]; decide), if_pos hw9]
      exact ⟨_, _, rfl, rfl, (by unfold facZ; rw [hR]; first | done | rfl), g222, (f1.tr f2)⟩
    | false =>
      cases hw10 : isWL t n (strB 10) p with
      | true =>
        refine CL_start (r := 5) (ls := [vr s]) (rk_191 _) rfl ?_
        refine w_aln l_191_0 rfl ?_
        refine w_ldc l_191_1 (by decide) ?_
        refine p_iv [vs (2 * 38 + 4)] [] l_191_3 rfl rfl (Nat.le_of_ble_eq_true rfl) (by rw [mx_178]; exact Nat.le_of_ble_eq_true rfl) (by rw [mt_178]; exact oModel_sh hm) (by rw [mt_178]; decide) (by rw [rk_178]; decide) (by have g9 := s_178A (xs := xs) (cc := cc) (zz := zz) hm H A h24 (q := 38) (by decide); rw [strB_same.2.2.2.1, hw8] at g9; exact g9) (fun v I1 hv => ?_)
        obtain ⟨rfl, g221, f1⟩ := hv
        have H1 := H.fT f1.T
        have A1 := mAt.at g221 A.le A.id
        have k241 : I1 s 24 = 0 := (f1 s 24 (fun _ => by decide)).trans h24
        refine w_zeq 11 l_191_6 (by decide) (fun _ => ?_) (fun hx => absurd hx (by decide))
        refine w_aln l_191_11 rfl ?_
        refine w_ldc l_191_12 (by decide) ?_
        refine p_iv [vs (2 * 39 + 4)] [] l_191_14 rfl rfl (Nat.le_of_ble_eq_true rfl) (by rw [mx_178]; exact Nat.le_of_ble_eq_true rfl) (by rw [mt_178]; exact oModel_sh hm) (by rw [mt_178]; decide) (by rw [rk_178]; decide) (by have g9 := s_178A (xs := xs) (cc := cc) (zz := zz) hm H1 A1 k241 (q := 39) (by decide); rw [strB_same.2.2.2.2.1, hw9] at g9; exact g9) (fun v I2 hv => ?_)
        obtain ⟨rfl, g222, f2⟩ := hv
        have H2 := H1.fT f2.T
        have A2 := mAt.at g222 A.le A.id
        have k242 : I2 s 24 = 0 := (f2 s 24 (fun _ => by decide)).trans k241
        refine w_zeq 22 l_191_17 (by decide) (fun _ => ?_) (fun hx => absurd hx (by decide))
        refine w_aln l_191_22 rfl ?_
        refine w_ldc l_191_23 (by decide) ?_
        refine p_iv [vs (2 * 40 + 4)] [] l_191_25 rfl rfl (Nat.le_of_ble_eq_true rfl) (by rw [mx_178]; exact Nat.le_of_ble_eq_true rfl) (by rw [mt_178]; exact oModel_sh hm) (by rw [mt_178]; decide) (by rw [rk_178]; decide) (by have g9 := s_178A (xs := xs) (cc := cc) (zz := zz) hm H2 A2 k242 (q := 40) (by decide); rw [strB_same.2.2.2.2.2.1, hw10] at g9; exact g9) (fun v I3 hv => ?_)
        obtain ⟨rfl, g223, f3⟩ := hv
        have H3 := H2.fT f3.T
        have A3 := mAt.at g223 A.le A.id
        have k243 : I3 s 24 = 0 := (f3 s 24 (fun _ => by decide)).trans k242
        refine w_zeq 35 l_191_28 (by decide) (fun hx => absurd hx (by decide)) (fun _ => ?_)
        refine w_ic l_191_31 (by decide) ?_
        refine w_go 49 l_191_32 (by decide) ?_
        refine w_ir l_191_49 (Or.inl rfl) ?_
        have hR : facV t n p = some 2 := by unfold facV; rw [if_neg (by rw [hw8]; decide), if_neg (by rw [hw9]; decide), if_pos hw10]
        exact ⟨_, _, rfl, rfl, (by unfold facZ; rw [hR]; first | done | rfl), g223, ((f1.tr f2).tr f3)⟩
      | false =>
        cases hw11 : isWL t n (strB 11) p with
        | true =>
          refine CL_start (r := 5) (ls := [vr s]) (rk_191 _) rfl ?_
          refine w_aln l_191_0 rfl ?_
          refine w_ldc l_191_1 (by decide) ?_
          refine p_iv [vs (2 * 38 + 4)] [] l_191_3 rfl rfl (Nat.le_of_ble_eq_true rfl) (by rw [mx_178]; exact Nat.le_of_ble_eq_true rfl) (by rw [mt_178]; exact oModel_sh hm) (by rw [mt_178]; decide) (by rw [rk_178]; decide) (by have g9 := s_178A (xs := xs) (cc := cc) (zz := zz) hm H A h24 (q := 38) (by decide); rw [strB_same.2.2.2.1, hw8] at g9; exact g9) (fun v I1 hv => ?_)
          obtain ⟨rfl, g221, f1⟩ := hv
          have H1 := H.fT f1.T
          have A1 := mAt.at g221 A.le A.id
          have k241 : I1 s 24 = 0 := (f1 s 24 (fun _ => by decide)).trans h24
          refine w_zeq 11 l_191_6 (by decide) (fun _ => ?_) (fun hx => absurd hx (by decide))
          refine w_aln l_191_11 rfl ?_
          refine w_ldc l_191_12 (by decide) ?_
          refine p_iv [vs (2 * 39 + 4)] [] l_191_14 rfl rfl (Nat.le_of_ble_eq_true rfl) (by rw [mx_178]; exact Nat.le_of_ble_eq_true rfl) (by rw [mt_178]; exact oModel_sh hm) (by rw [mt_178]; decide) (by rw [rk_178]; decide) (by have g9 := s_178A (xs := xs) (cc := cc) (zz := zz) hm H1 A1 k241 (q := 39) (by decide); rw [strB_same.2.2.2.2.1, hw9] at g9; exact g9) (fun v I2 hv => ?_)
          obtain ⟨rfl, g222, f2⟩ := hv
          have H2 := H1.fT f2.T
          have A2 := mAt.at g222 A.le A.id
          have k242 : I2 s 24 = 0 := (f2 s 24 (fun _ => by decide)).trans k241
          refine w_zeq 22 l_191_17 (by decide) (fun _ => ?_) (fun hx => absurd hx (by decide))
          refine w_aln l_191_22 rfl ?_
          refine w_ldc l_191_23 (by decide) ?_
          refine p_iv [vs (2 * 40 + 4)] [] l_191_25 rfl rfl (Nat.le_of_ble_eq_true rfl) (by rw [mx_178]; exact Nat.le_of_ble_eq_true rfl) (by rw [mt_178]; exact oModel_sh hm) (by rw [mt_178]; decide) (by rw [rk_178]; decide) (by have g9 := s_178A (xs := xs) (cc := cc) (zz := zz) hm H2 A2 k242 (q := 40) (by decide); rw [strB_same.2.2.2.2.2.1, hw10] at g9; exact g9) (fun v I3 hv => ?_)
          obtain ⟨rfl, g223, f3⟩ := hv
          have H3 := H2.fT f3.T
          have A3 := mAt.at g223 A.le A.id
          have k243 : I3 s 24 = 0 := (f3 s 24 (fun _ => by decide)).trans k242
          refine w_zeq 35 l_191_28 (by decide) (fun _ => ?_) (fun hx => absurd hx (by decide))
          refine w_aln l_191_35 rfl ?_
          refine w_ldc l_191_36 (by decide) ?_
          refine p_iv [vs (2 * 41 + 4)] [] l_191_38 rfl rfl (Nat.le_of_ble_eq_true rfl) (by rw [mx_178]; exact Nat.le_of_ble_eq_true rfl) (by rw [mt_178]; exact oModel_sh hm) (by rw [mt_178]; decide) (by rw [rk_178]; decide) (by have g9 := s_178A (xs := xs) (cc := cc) (zz := zz) hm H3 A3 k243 (q := 41) (by decide); rw [strB_same.2.2.2.2.2.2.1, hw11] at g9; exact g9) (fun v I4 hv => ?_)
          obtain ⟨rfl, g224, f4⟩ := hv
          have H4 := H3.fT f4.T
          have A4 := mAt.at g224 A.le A.id
          have k244 : I4 s 24 = 0 := (f4 s 24 (fun _ => by decide)).trans k243
          refine w_zeq 48 l_191_41 (by decide) (fun hx => absurd hx (by decide)) (fun _ => ?_)
          refine w_ic l_191_44 (by decide) ?_
          refine w_go 49 l_191_45 (by decide) ?_
          refine w_ir l_191_49 (Or.inl rfl) ?_
          have hR : facV t n p = some 3 := by unfold facV; rw [if_neg (by rw [hw8]; decide), if_neg (by rw [hw9]; decide), if_neg (by rw [hw10]; decide), if_pos hw11]
          exact ⟨_, _, rfl, rfl, (by unfold facZ; rw [hR]; first | done | rfl), g224, (((f1.tr f2).tr f3).tr f4)⟩
        | false =>
          refine CL_start (r := 5) (ls := [vr s]) (rk_191 _) rfl ?_
          refine w_aln l_191_0 rfl ?_
          refine w_ldc l_191_1 (by decide) ?_
          refine p_iv [vs (2 * 38 + 4)] [] l_191_3 rfl rfl (Nat.le_of_ble_eq_true rfl) (by rw [mx_178]; exact Nat.le_of_ble_eq_true rfl) (by rw [mt_178]; exact oModel_sh hm) (by rw [mt_178]; decide) (by rw [rk_178]; decide) (by have g9 := s_178A (xs := xs) (cc := cc) (zz := zz) hm H A h24 (q := 38) (by decide); rw [strB_same.2.2.2.1, hw8] at g9; exact g9) (fun v I1 hv => ?_)
          obtain ⟨rfl, g221, f1⟩ := hv
          have H1 := H.fT f1.T
          have A1 := mAt.at g221 A.le A.id
          have k241 : I1 s 24 = 0 := (f1 s 24 (fun _ => by decide)).trans h24
          refine w_zeq 11 l_191_6 (by decide) (fun _ => ?_) (fun hx => absurd hx (by decide))
          refine w_aln l_191_11 rfl ?_
          refine w_ldc l_191_12 (by decide) ?_
          refine p_iv [vs (2 * 39 + 4)] [] l_191_14 rfl rfl (Nat.le_of_ble_eq_true rfl) (by rw [mx_178]; exact Nat.le_of_ble_eq_true rfl) (by rw [mt_178]; exact oModel_sh hm) (by rw [mt_178]; decide) (by rw [rk_178]; decide) (by have g9 := s_178A (xs := xs) (cc := cc) (zz := zz) hm H1 A1 k241 (q := 39) (by decide); rw [strB_same.2.2.2.2.1, hw9] at g9; exact g9) (fun v I2 hv => ?_)
          obtain ⟨rfl, g222, f2⟩ := hv
          have H2 := H1.fT f2.T
          have A2 := mAt.at g222 A.le A.id
          have k242 : I2 s 24 = 0 := (f2 s 24 (fun _ => by decide)).trans k241
          refine w_zeq 22 l_191_17 (by decide) (fun _ => ?_) (fun hx => absurd hx (by decide))
          refine w_aln l_191_22 rfl ?_
          refine w_ldc l_191_23 (by decide) ?_
          refine p_iv [vs (2 * 40 + 4)] [] l_191_25 rfl rfl (Nat.le_of_ble_eq_true rfl) (by rw [mx_178]; exact Nat.le_of_ble_eq_true rfl) (by rw [mt_178]; exact oModel_sh hm) (by rw [mt_178]; decide) (by rw [rk_178]; decide) (by have g9 := s_178A (xs := xs) (cc := cc) (zz := zz) hm H2 A2 k242 (q := 40) (by decide); rw [strB_same.2.2.2.2.2.1, hw10] at g9; exact g9) (fun v I3 hv => ?_)
          obtain ⟨rfl, g223, f3⟩ := hv
          have H3 := H2.fT f3.T
          have A3 := mAt.at g223 A.le A.id
          have k243 : I3 s 24 = 0 := (f3 s 24 (fun _ => by decide)).trans k242
          refine w_zeq 35 l_191_28 (by decide) (fun _ => ?_) (fun hx => absurd hx (by decide))
          refine w_aln l_191_35 rfl ?_
          refine w_ldc l_191_36 (by decide) ?_
          refine p_iv [vs (2 * 41 + 4)] [] l_191_38 rfl rfl (Nat.le_of_ble_eq_true rfl) (by rw [mx_178]; exact Nat.le_of_ble_eq_true rfl) (by rw [mt_178]; exact oModel_sh hm) (by rw [mt_178]; decide) (by rw [rk_178]; decide) (by have g9 := s_178A (xs := xs) (cc := cc) (zz := zz) hm H3 A3 k243 (q := 41) (by decide); rw [strB_same.2.2.2.2.2.2.1, hw11] at g9; exact g9) (fun v I4 hv => ?_)
          obtain ⟨rfl, g224, f4⟩ := hv
          have H4 := H3.fT f4.T
          have A4 := mAt.at g224 A.le A.id
          have k244 : I4 s 24 = 0 := (f4 s 24 (fun _ => by decide)).trans k243
          refine w_zeq 48 l_191_41 (by decide) (fun _ => ?_) (fun hx => absurd hx (by decide))
          refine w_ic l_191_48 (by decide) ?_
          refine w_ir l_191_49 (Or.inl rfl) ?_
          have hR : facV t n p = none := by unfold facV; rw [if_neg (by rw [hw8]; decide), if_neg (by rw [hw9]; decide), if_neg (by rw [hw10]; decide), if_neg (by rw [hw11]; decide)]
          exact ⟨_, _, rfl, rfl, (by unfold facZ; rw [hR]; first | done | rfl), g224, (((f1.tr f2).tr f3).tr f4)⟩

theorem mx_192 : mxl 192 = 4 := by decide +kernel
theorem mt_192 : mtc 192 = 10 := by decide +kernel
theorem rk_192 (as : List AV) : rkA 192 as = 6 := rfl
theorem l_192_0 : look 192 0 = some (.aload_n 0, 1, 0, 0, 0, 0) := by decide +kernel
theorem l_192_1 : look 192 1 = some (.ldc 251, 2, 36, 0, 0, 1842) := by decide +kernel
theorem l_192_3 : look 192 3 = some (.invokevirtual 252, 3, 179, 2, 0, 1786) := by decide +kernel
theorem l_192_6 : look 192 6 = some (.ifCond .eq 16, 3, 0, 0, 0, 0) := by decide +kernel
theorem l_192_9 : look 192 9 = some (.aload_n 0, 1, 0, 0, 0, 0) := by decide +kernel
theorem l_192_10 : look 192 10 = some (.invokevirtual 221, 3, 184, 1, 0, 1813) := by decide +kernel
theorem l_192_13 : look 192 13 = some (.istore_n 1, 1, 0, 0, 0, 0) := by decide +kernel
theorem l_192_14 : look 192 14 = some (.aload_n 0, 1, 0, 0, 0, 0) := by decide +kernel
theorem l_192_15 : look 192 15 = some (.iconst 4, 1, 0, 0, 0, 0) := by decide +kernel
theorem l_192_16 : look 192 16 = some (.iload_n 1, 1, 0, 0, 0, 0) := by decide +kernel
theorem l_192_17 : look 192 17 = some (.iconst 0, 1, 0, 0, 0, 0) := by decide +kernel
theorem l_192_18 : look 192 18 = some (.invokevirtual 230, 3, 186, 4, 0, 1843) := by decide +kernel
theorem l_192_21 : look 192 21 = some (.return_, 1, 0, 0, 0, 0) := by decide +kernel
theorem l_192_22 : look 192 22 = some (.aload_n 0, 1, 0, 0, 0, 0) := by decide +kernel
theorem l_192_23 : look 192 23 = some (.ldc 255, 2, 37, 0, 0, 1847) := by decide +kernel
theorem l_192_25 : look 192 25 = some (.invokevirtual 252, 3, 179, 2, 0, 1786) := by decide +kernel
theorem l_192_28 : look 192 28 = some (.ifCond .eq 11, 3, 0, 0, 0, 0) := by decide +kernel
theorem l_192_31 : look 192 31 = some (.aload_n 0, 1, 0, 0, 0, 0) := by decide +kernel
theorem l_192_32 : look 192 32 = some (.iconst 5, 1, 0, 0, 0, 0) := by decide +kernel
theorem l_192_33 : look 192 33 = some (.iconst 0, 1, 0, 0, 0, 0) := by decide +kernel
theorem l_192_34 : look 192 34 = some (.iconst 0, 1, 0, 0, 0, 0) := by decide +kernel
theorem l_192_35 : look 192 35 = some (.invokevirtual 230, 3, 186, 4, 0, 1843) := by decide +kernel
theorem l_192_38 : look 192 38 = some (.return_, 1, 0, 0, 0, 0) := by decide +kernel
theorem l_192_39 : look 192 39 = some (.aload_n 0, 1, 0, 0, 0, 0) := by decide +kernel
theorem l_192_40 : look 192 40 = some (.invokevirtual 257, 3, 191, 1, 0, 1848) := by decide +kernel
theorem l_192_43 : look 192 43 = some (.istore_n 1, 1, 0, 0, 0, 0) := by decide +kernel
theorem l_192_44 : look 192 44 = some (.iload_n 1, 1, 0, 0, 0, 0) := by decide +kernel
theorem l_192_45 : look 192 45 = some (.iconst (-1), 1, 0, 0, 0, 0) := by decide +kernel
theorem l_192_46 : look 192 46 = some (.if_icmp .ne 13, 3, 0, 0, 0, 0) := by decide +kernel
theorem l_192_49 : look 192 49 = some (.aload_n 0, 1, 0, 0, 0, 0) := by decide +kernel
theorem l_192_50 : look 192 50 = some (.iconst 1, 1, 0, 0, 0, 0) := by decide +kernel
theorem l_192_51 : look 192 51 = some (.aload_n 0, 1, 0, 0, 0, 0) := by decide +kernel
theorem l_192_52 : look 192 52 = some (.getfield 161, 3, 10, 22, 0, 1523) := by decide +kernel
theorem l_192_55 : look 192 55 = some (.invokevirtual 198, 3, 176, 3, 0, 1782) := by decide +kernel
theorem l_192_58 : look 192 58 = some (.return_, 1, 0, 0, 0, 0) := by decide +kernel
theorem l_192_59 : look 192 59 = some (.aload_n 0, 1, 0, 0, 0, 0) := by decide +kernel
theorem l_192_60 : look 192 60 = some (.aload_n 0, 1, 0, 0, 0, 0) := by decide +kernel
theorem l_192_61 : look 192 61 = some (.invokevirtual 179, 3, 177, 1, 0, 1771) := by decide +kernel
theorem l_192_64 : look 192 64 = some (.putfield 161, 3, 10, 22, 0, 1523) := by decide +kernel
theorem l_192_67 : look 192 67 = some (.aload_n 0, 1, 0, 0, 0, 0) := by decide +kernel
theorem l_192_68 : look 192 68 = some (.invokevirtual 171, 3, 174, 1, 0, 1754) := by decide +kernel
theorem l_192_71 : look 192 71 = some (.istore_n 2, 1, 0, 0, 0, 0) := by decide +kernel
theorem l_192_72 : look 192 72 = some (.iload_n 2, 1, 0, 0, 0, 0) := by decide +kernel
theorem l_192_73 : look 192 73 = some (.bipush 60, 2, 0, 0, 0, 0) := by decide +kernel
theorem l_192_75 : look 192 75 = some (.if_icmp .eq 25, 3, 0, 0, 0, 0) := by decide +kernel
theorem l_192_78 : look 192 78 = some (.iload_n 2, 1, 0, 0, 0, 0) := by decide +kernel
theorem l_192_79 : look 192 79 = some (.bipush 61, 2, 0, 0, 0, 0) := by decide +kernel
theorem l_192_81 : look 192 81 = some (.if_icmp .eq 19, 3, 0, 0, 0, 0) := by decide +kernel
theorem l_192_84 : look 192 84 = some (.iload_n 2, 1, 0, 0, 0, 0) := by decide +kernel
theorem l_192_85 : look 192 85 = some (.bipush 62, 2, 0, 0, 0, 0) := by decide +kernel
theorem l_192_87 : look 192 87 = some (.if_icmp .eq 13, 3, 0, 0, 0, 0) := by decide +kernel
theorem l_192_90 : look 192 90 = some (.aload_n 0, 1, 0, 0, 0, 0) := by decide +kernel
theorem l_192_91 : look 192 91 = some (.iconst 1, 1, 0, 0, 0, 0) := by decide +kernel
theorem l_192_92 : look 192 92 = some (.aload_n 0, 1, 0, 0, 0, 0) := by decide +kernel
theorem l_192_93 : look 192 93 = some (.getfield 161, 3, 10, 22, 0, 1523) := by decide +kernel
theorem l_192_96 : look 192 96 = some (.invokevirtual 198, 3, 176, 3, 0, 1782) := by decide +kernel
theorem l_192_99 : look 192 99 = some (.return_, 1, 0, 0, 0, 0) := by decide +kernel
theorem l_192_100 : look 192 100 = some (.aload_n 0, 1, 0, 0, 0, 0) := by decide +kernel
theorem l_192_101 : look 192 101 = some (.dup, 1, 0, 0, 0, 0) := by decide +kernel
theorem l_192_102 : look 192 102 = some (.getfield 161, 3, 10, 22, 0, 1523) := by decide +kernel
theorem l_192_105 : look 192 105 = some (.iconst 1, 1, 0, 0, 0, 0) := by decide +kernel
theorem l_192_106 : look 192 106 = some (.iadd, 1, 0, 0, 0, 0) := by decide +kernel
theorem l_192_107 : look 192 107 = some (.putfield 161, 3, 10, 22, 0, 1523) := by decide +kernel
theorem l_192_110 : look 192 110 = some (.aload_n 0, 1, 0, 0, 0, 0) := by decide +kernel
theorem l_192_111 : look 192 111 = some (.iconst 0, 1, 0, 0, 0, 0) := by decide +kernel
theorem l_192_112 : look 192 112 = some (.sipush 999, 3, 0, 0, 0, 0) := by decide +kernel
theorem l_192_115 : look 192 115 = some (.invokevirtual 217, 3, 180, 3, 0, 1804) := by decide +kernel
theorem l_192_118 : look 192 118 = some (.istore_n 3, 1, 0, 0, 0, 0) := by decide +kernel
theorem l_192_119 : look 192 119 = some (.aload_n 0, 1, 0, 0, 0, 0) := by decide +kernel
theorem l_192_120 : look 192 120 = some (.iload_n 2, 1, 0, 0, 0, 0) := by decide +kernel
theorem l_192_121 : look 192 121 = some (.bipush 60, 2, 0, 0, 0, 0) := by decide +kernel
theorem l_192_123 : look 192 123 = some (.if_icmp .ne 7, 3, 0, 0, 0, 0) := by decide +kernel
theorem l_192_126 : look 192 126 = some (.iconst 1, 1, 0, 0, 0, 0) := by decide +kernel
theorem l_192_127 : look 192 127 = some (.goto 14, 3, 0, 0, 0, 0) := by decide +kernel
theorem l_192_130 : look 192 130 = some (.iload_n 2, 1, 0, 0, 0, 0) := by decide +kernel
theorem l_192_131 : look 192 131 = some (.bipush 61, 2, 0, 0, 0, 0) := by decide +kernel
theorem l_192_133 : look 192 133 = some (.if_icmp .ne 7, 3, 0, 0, 0, 0) := by decide +kernel
theorem l_192_136 : look 192 136 = some (.iconst 2, 1, 0, 0, 0, 0) := by decide +kernel
theorem l_192_137 : look 192 137 = some (.goto 4, 3, 0, 0, 0, 0) := by decide +kernel
theorem l_192_140 : look 192 140 = some (.iconst 3, 1, 0, 0, 0, 0) := by decide +kernel
theorem l_192_141 : look 192 141 = some (.iload_n 3, 1, 0, 0, 0, 0) := by decide +kernel
theorem l_192_142 : look 192 142 = some (.iload_n 1, 1, 0, 0, 0, 0) := by decide +kernel
theorem l_192_143 : look 192 143 = some (.invokevirtual 230, 3, 186, 4, 0, 1843) := by decide +kernel
theorem l_192_146 : look 192 146 = some (.return_, 1, 0, 0, 0, 0) := by decide +kernel

theorem s_192 (hm : oModel S T s) {P : Ps} {tot p : Nat} {C : Cd} {K : List Nat} (H : mTx I s t n) (A : mAt I s t n p) (h24 : I s 24 = 0) (Z : mPi I s K) (Y : mSU I s P C tot) (hphi : phi tot p K C) : CL xs 192 [vr s] (S, I, T, cc, zz) (RP S T cc zz (fun v I' => v = none ∧ fC I I' s ∧ mRO I s I' (leafR t n P p) (fun a => mAt I' s t n a.1 ∧ mPi I' s K ∧ mSU I' s P (C ++ [a.2]) tot))) := by
  obtain ⟨hp1, hp2⟩ := id hphi
  have h600 := H.2.1
  have hpn := A.le
  cases hw7 : isWL t n (strB 7) p with
  | true =>
    have hw6 : isWL t n (strB 6) p = false := wl_ne hw7 strB_ne67
    cases hq : portR t n P (nxt t n p) with
    | inl e9 =>
      refine CL_start (r := 6) (ls := [vr s, vs 2, vs 2, vs 2]) (rk_192 _) rfl ?_
      refine w_aln l_192_0 rfl ?_
      refine w_ldc l_192_1 (by decide) ?_
      refine p_iv [vs (2 * 36 + 4)] [] l_192_3 rfl rfl (Nat.le_of_ble_eq_true rfl) (by rw [mx_179]; exact Nat.le_of_ble_eq_true rfl) (by rw [mt_179]; exact oModel_sh hm) (by rw [mt_179]; decide) (by rw [rk_179]; decide) (by have g9 := s_179A (xs := xs) (cc := cc) (zz := zz) hm H A h24 (q := 36) (by decide); rw [strB_same.2.1, hw7] at g9; exact g9) (fun v I1 hv => ?_)
      obtain ⟨rfl, A1, f1⟩ := hv
      have H1 := H.fT f1.T
      have A1 : mAt I1 s t n (nxt t n p) := A1
      have k241 : I1 s 24 = 0 := (f1 s 24 (fun _ => by decide)).trans h24
      have k231 := f1 s 23 (fun _ => by decide)
      have Y1 := Y.fT f1.T
      have Z1 := Z.fT f1.T
      refine w_zeq 22 l_192_6 (by decide) (fun hx => absurd hx (by decide)) (fun _ => ?_)
      refine w_aln l_192_9 rfl ?_
      refine p_iv [] [] l_192_10 rfl rfl (Nat.le_of_ble_eq_true rfl) (by rw [mx_184]; exact Nat.le_of_ble_eq_true rfl) (by rw [mt_184]; exact oModel_sh hm) (by rw [mt_184]; decide) (by rw [rk_184]; decide) (by have g9 := s_184 (xs := xs) (cc := cc) (zz := zz) hm H1 Y1 A1 k241; rw [hq] at g9; exact g9) (fun v I2 hv => ?_)
      obtain ⟨⟨z2, rfl⟩, f2, he, e24, e23⟩ := hv
      have Y2 := Y1.fT f2
      refine w_isn l_192_13 ⟨Nat.le_of_ble_eq_true rfl, rfl⟩ ?_
      refine w_aln l_192_14 rfl ?_
      refine w_ic l_192_15 (by decide) ?_
      refine w_iln l_192_16 rfl ?_
      refine w_ic l_192_17 (by decide) ?_
      refine q_iv [vi 4, vi z2, vi 0] [] l_192_18 rfl rfl (Nat.le_of_ble_eq_true rfl) (by rw [mx_186]; exact Nat.le_of_ble_eq_true rfl) (by rw [mt_186]; exact oModel_sh hm) (by rw [mt_186]; decide) (by rw [rk_186]; decide) (s_186 hm (k := tot + C.length) Y2.1.2.2.2.2.2 (by omega)) ?_
      refine w_vr l_192_21 ?_
      have hR : leafR t n P p = .inl e9 := by unfold leafR; rw [if_neg (by rw [hw6]; decide), if_pos hw7, hq]
      refine ⟨_, _, rfl, rfl, rfl, (((((f1.T.tr f2).C.up (Or.inr ⟨by omega, by omega⟩)).up (Or.inr ⟨by omega, by omega⟩)).up (Or.inr ⟨by omega, by omega⟩)).up (Or.inl ⟨rfl, by decide, by decide⟩)), ?_⟩
      rw [hR]
      refine ⟨he, ?_, ?_⟩
      · repeat (rw [up_out (by omega)])
        exact e24
      · repeat (rw [up_out (by omega)])
        exact e23
    | inr a9 =>
      obtain ⟨i, p2⟩ := a9
      refine CL_start (r := 6) (ls := [vr s, vs 2, vs 2, vs 2]) (rk_192 _) rfl ?_
      refine w_aln l_192_0 rfl ?_
      refine w_ldc l_192_1 (by decide) ?_
      refine p_iv [vs (2 * 36 + 4)] [] l_192_3 rfl rfl (Nat.le_of_ble_eq_true rfl) (by rw [mx_179]; exact Nat.le_of_ble_eq_true rfl) (by rw [mt_179]; exact oModel_sh hm) (by rw [mt_179]; decide) (by rw [rk_179]; decide) (by have g9 := s_179A (xs := xs) (cc := cc) (zz := zz) hm H A h24 (q := 36) (by decide); rw [strB_same.2.1, hw7] at g9; exact g9) (fun v I1 hv => ?_)
      obtain ⟨rfl, A1, f1⟩ := hv
      have H1 := H.fT f1.T
      have A1 : mAt I1 s t n (nxt t n p) := A1
      have k241 : I1 s 24 = 0 := (f1 s 24 (fun _ => by decide)).trans h24
      have k231 := f1 s 23 (fun _ => by decide)
      have Y1 := Y.fT f1.T
      have Z1 := Z.fT f1.T
      refine w_zeq 22 l_192_6 (by decide) (fun hx => absurd hx (by decide)) (fun _ => ?_)
      refine w_aln l_192_9 rfl ?_
      refine p_iv [] [] l_192_10 rfl rfl (Nat.le_of_ble_eq_true rfl) (by rw [mx_184]; exact Nat.le_of_ble_eq_true rfl) (by rw [mt_184]; exact oModel_sh hm) (by rw [mt_184]; decide) (by rw [rk_184]; decide) (by have g9 := s_184 (xs := xs) (cc := cc) (zz := zz) hm H1 Y1 A1 k241; rw [hq] at g9; exact g9) (fun v I2 hv => ?_)
      obtain ⟨_, f2, ⟨k242, k232⟩, rfl, A2⟩ := hv
      have Y2 := Y1.fT f2
      have Z2 := Z1.fT f2
      have A2 : mAt I2 s t n p2 := A2
      refine w_isn l_192_13 ⟨Nat.le_of_ble_eq_true rfl, rfl⟩ ?_
      refine w_aln l_192_14 rfl ?_
      refine w_ic l_192_15 (by decide) ?_
      refine w_iln l_192_16 rfl ?_
      refine w_ic l_192_17 (by decide) ?_
      refine q_iv [vi 4, vi ((i : Nat) : Int), vi 0] [] l_192_18 rfl rfl (Nat.le_of_ble_eq_true rfl) (by rw [mx_186]; exact Nat.le_of_ble_eq_true rfl) (by rw [mt_186]; exact oModel_sh hm) (by rw [mt_186]; decide) (by rw [rk_186]; decide) (s_186 hm (k := tot + C.length) Y2.1.2.2.2.2.2 (by omega)) ?_
      refine w_vr l_192_21 ?_
      have hR : leafR t n P p = .inr (p2, (4, i, 0)) := by unfold leafR; rw [if_neg (by rw [hw6]; decide), if_pos hw7, hq]
      refine ⟨_, _, rfl, rfl, rfl, (((((f1.T.tr f2).C.up (Or.inr ⟨by omega, by omega⟩)).up (Or.inr ⟨by omega, by omega⟩)).up (Or.inr ⟨by omega, by omega⟩)).up (Or.inl ⟨rfl, by decide, by decide⟩)), ?_⟩
      rw [hR]
      refine ⟨⟨?_, ?_⟩, ?_, ?_, ?_⟩
      · repeat (rw [up_out (by omega)])
        exact k242
      · repeat (rw [up_out (by omega)])
        exact k232.trans k231
      · obtain ⟨j9, a9, b9, c9⟩ := A2
        refine ⟨j9, ?_, b9, c9⟩
        repeat (rw [up_out (by omega)])
        exact a9
      · refine ⟨?_, ?_, fun j hj => ?_⟩
        · repeat (rw [up_out (by omega)])
          exact Z2.1
        · repeat (rw [up_out (by omega)])
          exact Z2.2.1
        · repeat (rw [up_out (by omega)])
          exact Z2.2.2 j hj
      · exact Y2.emt (4, i, 0)
  | false =>
    cases hw6 : isWL t n (strB 6) p with
    | true =>
      refine CL_start (r := 6) (ls := [vr s, vs 2, vs 2, vs 2]) (rk_192 _) rfl ?_
      refine w_aln l_192_0 rfl ?_
      refine w_ldc l_192_1 (by decide) ?_
      refine p_iv [vs (2 * 36 + 4)] [] l_192_3 rfl rfl (Nat.le_of_ble_eq_true rfl) (by rw [mx_179]; exact Nat.le_of_ble_eq_true rfl) (by rw [mt_179]; exact oModel_sh hm) (by rw [mt_179]; decide) (by rw [rk_179]; decide) (by have g9 := s_179A (xs := xs) (cc := cc) (zz := zz) hm H A h24 (q := 36) (by decide); rw [strB_same.2.1, hw7] at g9; exact g9) (fun v I1 hv => ?_)
      obtain ⟨rfl, A1, f1⟩ := hv
      have H1 := H.fT f1.T
      have A1 : mAt I1 s t n p := A1
      have k241 : I1 s 24 = 0 := (f1 s 24 (fun _ => by decide)).trans h24
      have k231 := f1 s 23 (fun _ => by decide)
      have Y1 := Y.fT f1.T
      have Z1 := Z.fT f1.T
      refine w_zeq 22 l_192_6 (by decide) (fun _ => ?_) (fun hx => absurd hx (by decide))
      refine w_aln l_192_22 rfl ?_
      refine w_ldc l_192_23 (by decide) ?_
      refine p_iv [vs (2 * 37 + 4)] [] l_192_25 rfl rfl (Nat.le_of_ble_eq_true rfl) (by rw [mx_179]; exact Nat.le_of_ble_eq_true rfl) (by rw [mt_179]; exact oModel_sh hm) (by rw [mt_179]; decide) (by rw [rk_179]; decide) (by have g9 := s_179A (xs := xs) (cc := cc) (zz := zz) hm H1 A1 k241 (q := 37) (by decide); rw [strB_same.2.2.1, hw6] at g9; exact g9) (fun v I2 hv => ?_)
      obtain ⟨rfl, A2, f2⟩ := hv
      have H2 := H1.fT f2.T
      have A2 : mAt I2 s t n (nxt t n p) := A2
      have k242 : I2 s 24 = 0 := (f2 s 24 (fun _ => by decide)).trans k241
      have k232 := f2 s 23 (fun _ => by decide)
      have Y2 := Y1.fT f2.T
      have Z2 := Z1.fT f2.T
      refine w_zeq 39 l_192_28 (by decide) (fun hx => absurd hx (by decide)) (fun _ => ?_)
      refine w_aln l_192_31 rfl ?_
      refine w_ic l_192_32 (by decide) ?_
      refine w_ic l_192_33 (by decide) ?_
      refine w_ic l_192_34 (by decide) ?_
      refine q_iv [vi 5, vi 0, vi 0] [] l_192_35 rfl rfl (Nat.le_of_ble_eq_true rfl) (by rw [mx_186]; exact Nat.le_of_ble_eq_true rfl) (by rw [mt_186]; exact oModel_sh hm) (by rw [mt_186]; decide) (by rw [rk_186]; decide) (s_186 hm (k := tot + C.length) Y2.1.2.2.2.2.2 (by omega)) ?_
      refine w_vr l_192_38 ?_
      have hR : leafR t n P p = .inr (nxt t n p, (5, 0, 0)) := by unfold leafR; rw [if_pos hw6]
      refine ⟨_, _, rfl, rfl, rfl, (((((f1.tr f2).T.C.up (Or.inr ⟨by omega, by omega⟩)).up (Or.inr ⟨by omega, by omega⟩)).up (Or.inr ⟨by omega, by omega⟩)).up (Or.inl ⟨rfl, by decide, by decide⟩)), ?_⟩
      rw [hR]
      refine ⟨⟨?_, ?_⟩, ?_, ?_, ?_⟩
      · repeat (rw [up_out (by omega)])
        exact k242
      · repeat (rw [up_out (by omega)])
        exact k232.trans k231
      · obtain ⟨j9, a9, b9, c9⟩ := A2
        refine ⟨j9, ?_, b9, c9⟩
        repeat (rw [up_out (by omega)])
        exact a9
      · refine ⟨?_, ?_, fun j hj => ?_⟩
        · repeat (rw [up_out (by omega)])
          exact Z2.1
        · repeat (rw [up_out (by omega)])
          exact Z2.2.1
        · repeat (rw [up_out (by omega)])
          exact Z2.2.2 j hj
      · exact Y2.emt (5, 0, 0)
    | false =>
      cases hf : facV t n p with
      | none =>
        refine CL_start (r := 6) (ls := [vr s, vs 2, vs 2, vs 2]) (rk_192 _) rfl ?_
        refine w_aln l_192_0 rfl ?_
        refine w_ldc l_192_1 (by decide) ?_
        refine p_iv [vs (2 * 36 + 4)] [] l_192_3 rfl rfl (Nat.le_of_ble_eq_true rfl) (by rw [mx_179]; exact Nat.le_of_ble_eq_true rfl) (by rw [mt_179]; exact oModel_sh hm) (by rw [mt_179]; decide) (by rw [rk_179]; decide) (by have g9 := s_179A (xs := xs) (cc := cc) (zz := zz) hm H A h24 (q := 36) (by decide); rw [strB_same.2.1, hw7] at g9; exact g9) (fun v I1 hv => ?_)
        obtain ⟨rfl, A1, f1⟩ := hv
        have H1 := H.fT f1.T
        have A1 : mAt I1 s t n p := A1
        have k241 : I1 s 24 = 0 := (f1 s 24 (fun _ => by decide)).trans h24
        have k231 := f1 s 23 (fun _ => by decide)
        have Y1 := Y.fT f1.T
        have Z1 := Z.fT f1.T
        refine w_zeq 22 l_192_6 (by decide) (fun _ => ?_) (fun hx => absurd hx (by decide))
        refine w_aln l_192_22 rfl ?_
        refine w_ldc l_192_23 (by decide) ?_
        refine p_iv [vs (2 * 37 + 4)] [] l_192_25 rfl rfl (Nat.le_of_ble_eq_true rfl) (by rw [mx_179]; exact Nat.le_of_ble_eq_true rfl) (by rw [mt_179]; exact oModel_sh hm) (by rw [mt_179]; decide) (by rw [rk_179]; decide) (by have g9 := s_179A (xs := xs) (cc := cc) (zz := zz) hm H1 A1 k241 (q := 37) (by decide); rw [strB_same.2.2.1, hw6] at g9; exact g9) (fun v I2 hv => ?_)
        obtain ⟨rfl, A2, f2⟩ := hv
        have H2 := H1.fT f2.T
        have A2 : mAt I2 s t n p := A2
        have k242 : I2 s 24 = 0 := (f2 s 24 (fun _ => by decide)).trans k241
        have k232 := f2 s 23 (fun _ => by decide)
        have Y2 := Y1.fT f2.T
        have Z2 := Z1.fT f2.T
        refine w_zeq 39 l_192_28 (by decide) (fun _ => ?_) (fun hx => absurd hx (by decide))
        refine w_aln l_192_39 rfl ?_
        refine p_iv [] [] l_192_40 rfl rfl (Nat.le_of_ble_eq_true rfl) (by rw [mx_191]; exact Nat.le_of_ble_eq_true rfl) (by rw [mt_191]; exact oModel_sh hm) (by rw [mt_191]; decide) (by rw [rk_191]; decide) (by have g9 := s_191 (xs := xs) (cc := cc) (zz := zz) hm H2 A2 k242; rw [show facZ t n p = -1 from (by unfold facZ; rw [hf])] at g9; exact g9) (fun v I3 hv => ?_)
        obtain ⟨rfl, g223, f3⟩ := hv
        have H3 := H2.fT f3.T
        have k243 : I3 s 24 = 0 := (f3 s 24 (fun _ => by decide)).trans k242
        have k233 := f3 s 23 (fun _ => by decide)
        have Y3 := Y2.fT f3.T
        have Z3 := Z2.fT f3.T
        refine w_isn l_192_43 ⟨Nat.le_of_ble_eq_true rfl, rfl⟩ ?_
        refine w_iln l_192_44 rfl ?_
        refine w_ic l_192_45 (by decide) ?_
        refine w_cne 59 l_192_46 (by decide) (fun hx => absurd hx (by decide)) (fun _ => ?_)
        refine w_aln l_192_49 rfl ?_
        refine w_ic l_192_50 (by decide) ?_
        refine w_aln l_192_51 rfl ?_
        refine w_gi ((p : Nat) : Int) l_192_52 (oModel_sh hm) g223 ?_
        refine q_iv [vi 1, vi ((p : Nat) : Int)] [] l_192_55 rfl rfl (Nat.le_of_ble_eq_true rfl) (by rw [mx_176]; exact Nat.le_of_ble_eq_true rfl) (by rw [mt_176]; exact oModel_sh hm) (by rw [mt_176]; decide) (by rw [rk_176]; decide) (s_176 hm k243 (k := 1)) ?_
        refine w_vr l_192_58 ?_
        have hR : leafR t n P p = .inl (1, p) := by rw [leafR_f hw6 hw7, hf]
        exact ⟨_, _, rfl, rfl, rfl, (((f1.tr f2).tr f3).T.C.up (Or.inl ⟨rfl, by decide, by decide⟩)).up (Or.inl ⟨rfl, by decide, by decide⟩), by rw [hR]; exact ⟨Nat.le_refl 1, (up_nj (by decide)).trans up_eq, up_eq⟩⟩
      | some f =>
        have hft := (facV_1 hf).2
        have hf3 := (facV_1 hf).1
        have hnl := nxt_le (t := t) hpn
        cases hs0 : isSg t n 60 (nxt t n p) with
        | true =>
          have hub : ubA t n (nxt t n p) = 60 := (ubA_c H (by decide)).mpr (isSg_iff.mp hs0)
          have hte5 : tEnd t n (nxt t n p) = nxt t n p + 1 := (isSg_3 (by decide) hs0).2
          have hpl5 := (isSg_iff.mp hs0).1
          cases hq6 : numR t n 0 999 (nxt t n (nxt t n p)) with
          | inl e9 =>
            refine CL_start (r := 6) (ls := [vr s, vs 2, vs 2, vs 2]) (rk_192 _) rfl ?_
            refine w_aln l_192_0 rfl ?_
            refine w_ldc l_192_1 (by decide) ?_
            refine p_iv [vs (2 * 36 + 4)] [] l_192_3 rfl rfl (Nat.le_of_ble_eq_true rfl) (by rw [mx_179]; exact Nat.le_of_ble_eq_true rfl) (by rw [mt_179]; exact oModel_sh hm) (by rw [mt_179]; decide) (by rw [rk_179]; decide) (by have g9 := s_179A (xs := xs) (cc := cc) (zz := zz) hm H A h24 (q := 36) (by decide); rw [strB_same.2.1, hw7] at g9; exact g9) (fun v I1 hv => ?_)
            obtain ⟨rfl, A1, f1⟩ := hv
            have H1 := H.fT f1.T
            have A1 : mAt I1 s t n p := A1
            have k241 : I1 s 24 = 0 := (f1 s 24 (fun _ => by decide)).trans h24
            have k231 := f1 s 23 (fun _ => by decide)
            have Y1 := Y.fT f1.T
            have Z1 := Z.fT f1.T
            refine w_zeq 22 l_192_6 (by decide) (fun _ => ?_) (fun hx => absurd hx (by decide))
            refine w_aln l_192_22 rfl ?_
            refine w_ldc l_192_23 (by decide) ?_
            refine p_iv [vs (2 * 37 + 4)] [] l_192_25 rfl rfl (Nat.le_of_ble_eq_true rfl) (by rw [mx_179]; exact Nat.le_of_ble_eq_true rfl) (by rw [mt_179]; exact oModel_sh hm) (by rw [mt_179]; decide) (by rw [rk_179]; decide) (by have g9 := s_179A (xs := xs) (cc := cc) (zz := zz) hm H1 A1 k241 (q := 37) (by decide); rw [strB_same.2.2.1, hw6] at g9; exact g9) (fun v I2 hv => ?_)
            obtain ⟨rfl, A2, f2⟩ := hv
            have H2 := H1.fT f2.T
            have A2 : mAt I2 s t n p := A2
            have k242 : I2 s 24 = 0 := (f2 s 24 (fun _ => by decide)).trans k241
            have k232 := f2 s 23 (fun _ => by decide)
            have Y2 := Y1.fT f2.T
            have Z2 := Z1.fT f2.T
            refine w_zeq 39 l_192_28 (by decide) (fun _ => ?_) (fun hx => absurd hx (by decide))
            refine w_aln l_192_39 rfl ?_
            refine p_iv [] [] l_192_40 rfl rfl (Nat.le_of_ble_eq_true rfl) (by rw [mx_191]; exact Nat.le_of_ble_eq_true rfl) (by rw [mt_191]; exact oModel_sh hm) (by rw [mt_191]; decide) (by rw [rk_191]; decide) (by have g9 := s_191 (xs := xs) (cc := cc) (zz := zz) hm H2 A2 k242; rw [show facZ t n p = ((f : Nat) : Int) from (by unfold facZ; rw [hf])] at g9; exact g9) (fun v I3 hv => ?_)
            obtain ⟨rfl, g223, f3⟩ := hv
            have H3 := H2.fT f3.T
            have k243 : I3 s 24 = 0 := (f3 s 24 (fun _ => by decide)).trans k242
            have k233 := f3 s 23 (fun _ => by decide)
            have Y3 := Y2.fT f3.T
            have Z3 := Z2.fT f3.T
            refine w_isn l_192_43 ⟨Nat.le_of_ble_eq_true rfl, rfl⟩ ?_
            refine w_iln l_192_44 rfl ?_
            refine w_ic l_192_45 (by decide) ?_
            refine w_cne 59 l_192_46 (by decide) (fun _ => ?_) (fun hx => absurd hx (by omega))
            refine w_aln l_192_59 rfl ?_
            refine w_aln l_192_60 rfl ?_
            refine p_iv [] [vr s] l_192_61 rfl rfl (Nat.le_of_ble_eq_true rfl) (by rw [mx_177]; exact Nat.le_of_ble_eq_true rfl) (by rw [mt_177]; exact oModel_sh hm) (by rw [mt_177]; decide) (by rw [rk_177]; decide) (s_177A hm H3 (mAt.at g223 A.le A.id)) (fun v I4 hv => ?_)
            obtain ⟨rfl, g224, f4⟩ := hv
            have H4 := H3.fT f4.T
            have k244 : I4 s 24 = 0 := (f4 s 24 (fun _ => by decide)).trans k243
            have k234 := f4 s 23 (fun _ => by decide)
            have Y4 := Y3.fT f4.T
            have Z4 := Z3.fT f4.T
            have f4u := f4.T.up (v := ((wEnd t n p : Nat) : Int)) (Or.inl rfl)
            have A4 : mAt (up I4 s 22 ((wEnd t n p : Nat) : Int)) s t n (nxt t n p) := ⟨wEnd t n p, up_eq, wEnd_le A.le, (by unfold nxt; rw [wEnd_t1 hft])⟩
            refine w_pi l_192_64 (oModel_sh hm) ?_
            refine w_aln l_192_67 rfl ?_
            refine p_iv [] [] l_192_68 rfl rfl (Nat.le_of_ble_eq_true rfl) (by rw [mx_174]; exact Nat.le_of_ble_eq_true rfl) (by rw [mt_174]; exact oModel_sh hm) (by rw [mt_174]; decide) (by rw [rk_174]; decide) (by have g9 := s_174A (xs := xs) (cc := cc) (zz := zz) hm (H3.fT f4u) A4; rw [show ubA t n (nxt t n p) = 60 from hub] at g9; exact g9) (fun v I5 hv => ?_)
            obtain ⟨rfl, g225, f5⟩ := hv
            have H5 := (H3.fT f4u).fT f5.T
            have k245 : I5 s 24 = 0 := (f5 s 24 (fun _ => by decide)).trans ((up_nj (by decide)).trans k244)
            have k235 : I5 s 23 = I s 23 := (f5 s 23 (fun _ => by decide)).trans ((up_nj (by decide)).trans (k234.trans (k233.trans (k232.trans k231))))
            have Y5 := (Y3.fT f4u).fT f5.T
            have Z5 := (Z3.fT f4u).fT f5.T
            refine w_isn l_192_71 ⟨Nat.le_of_ble_eq_true rfl, rfl⟩ ?_
            refine w_iln l_192_72 rfl ?_
            refine w_bp l_192_73 (by decide) ?_
            refine w_ceq 100 l_192_75 (by decide) (fun _ => ?_) (fun hx => absurd hx (by decide))
            refine w_aln l_192_100 rfl ?_
            refine w_dup l_192_101 rfl ?_
            refine w_gi (((nxt t n p) : Nat) : Int) l_192_102 (oModel_sh hm) g225 ?_
            refine w_ic l_192_105 (by decide) ?_
            refine w_add (((nxt t n p + 1) : Nat) : Int) l_192_106 (by unfold wr; omega) ?_
            refine w_pi l_192_107 (oModel_sh hm) ?_
            refine w_aln l_192_110 rfl ?_
            refine w_ic l_192_111 (by decide) ?_
            refine w_sp l_192_112 (by decide) ?_
            refine p_iv [vi 0, vi 999] [] l_192_115 rfl rfl (Nat.le_of_ble_eq_true rfl) (by rw [mx_180]; exact Nat.le_of_ble_eq_true rfl) (by rw [mt_180]; exact oModel_sh hm) (by rw [mt_180]; decide) (by rw [rk_180]; decide) (by have g9 := s_180A (xs := xs) (cc := cc) (zz := zz) (lo := 0) (hi := 999) hm ((H3.fT f4u).fT (f5.T.up (v := ((nxt t n p + 1 : Nat) : Int)) (Or.inl rfl))) (show mAt (up I5 s 22 ((nxt t n p + 1 : Nat) : Int)) s t n (nxt t n (nxt t n p)) from ⟨nxt t n p + 1, up_eq, by omega, by rw [← hte5]; rfl⟩) ((up_nj (by decide)).trans k245); rw [hq6] at g9; exact g9) (fun v I6 hv => ?_)
            obtain ⟨⟨z6, rfl⟩, f6, he, e24, e23⟩ := hv
            have Y6 := ((Y3.fT f4u).fT (f5.T.up (v := ((nxt t n p + 1 : Nat) : Int)) (Or.inl rfl))).fT f6
            refine w_isn l_192_118 ⟨Nat.le_of_ble_eq_true rfl, rfl⟩ ?_
            refine w_aln l_192_119 rfl ?_
            refine w_iln l_192_120 rfl ?_
            refine w_bp l_192_121 (by decide) ?_
            refine w_cne 130 l_192_123 (by decide) (fun hx => absurd hx (by decide)) (fun _ => ?_)
            refine w_ic l_192_126 (by decide) ?_
            refine w_go 141 l_192_127 (by decide) ?_
            refine w_iln l_192_141 rfl ?_
            refine w_iln l_192_142 rfl ?_
            refine q_iv [vi 1, vi z6, vi ((f : Nat) : Int)] [] l_192_143 rfl rfl (Nat.le_of_ble_eq_true rfl) (by rw [mx_186]; exact Nat.le_of_ble_eq_true rfl) (by rw [mt_186]; exact oModel_sh hm) (by rw [mt_186]; decide) (by rw [rk_186]; decide) (s_186 hm (k := tot + C.length) Y6.1.2.2.2.2.2 (by omega)) ?_
            refine w_vr l_192_146 ?_
            have hR : leafR t n P p = .inl e9 := by
              rw [leafR_f hw6 hw7, hf]
              show cmpR t n f (nxt t n p) = _
              unfold cmpR
              rw [if_pos (by rw [hs0]; simp), hq6]
            refine ⟨_, _, rfl, rfl, rfl, (((((((((f1.tr f2).tr f3).T.tr f4u).tr (f5.T.up (v := ((nxt t n p + 1 : Nat) : Int)) (Or.inl rfl))).tr f6).C.up (Or.inr ⟨by omega, by omega⟩)).up (Or.inr ⟨by omega, by omega⟩)).up (Or.inr ⟨by omega, by omega⟩)).up (Or.inl ⟨rfl, by decide, by decide⟩)), ?_⟩
            rw [hR]
            refine ⟨he, ?_, ?_⟩
            · repeat (rw [up_out (by omega)])
              exact e24
            · repeat (rw [up_out (by omega)])
              exact e23
          | inr a9 =>
            obtain ⟨v, p3⟩ := a9
            refine CL_start (r := 6) (ls := [vr s, vs 2, vs 2, vs 2]) (rk_192 _) rfl ?_
            refine w_aln l_192_0 rfl ?_
            refine w_ldc l_192_1 (by decide) ?_
            refine p_iv [vs (2 * 36 + 4)] [] l_192_3 rfl rfl (Nat.le_of_ble_eq_true rfl) (by rw [mx_179]; exact Nat.le_of_ble_eq_true rfl) (by rw [mt_179]; exact oModel_sh hm) (by rw [mt_179]; decide) (by rw [rk_179]; decide) (by have g9 := s_179A (xs := xs) (cc := cc) (zz := zz) hm H A h24 (q := 36) (by decide); rw [strB_same.2.1, hw7] at g9; exact g9) (fun v I1 hv => ?_)
            obtain ⟨rfl, A1, f1⟩ := hv
            have H1 := H.fT f1.T
            have A1 : mAt I1 s t n p := A1
            have k241 : I1 s 24 = 0 := (f1 s 24 (fun _ => by decide)).trans h24
            have k231 := f1 s 23 (fun _ => by decide)
            have Y1 := Y.fT f1.T
            have Z1 := Z.fT f1.T
            refine w_zeq 22 l_192_6 (by decide) (fun _ => ?_) (fun hx => absurd hx (by decide))
            refine w_aln l_192_22 rfl ?_
            refine w_ldc l_192_23 (by decide) ?_
            refine p_iv [vs (2 * 37 + 4)] [] l_192_25 rfl rfl (Nat.le_of_ble_eq_true rfl) (by rw [mx_179]; exact Nat.le_of_ble_eq_true rfl) (by rw [mt_179]; exact oModel_sh hm) (by rw [mt_179]; decide) (by rw [rk_179]; decide) (by have g9 := s_179A (xs := xs) (cc := cc) (zz := zz) hm H1 A1 k241 (q := 37) (by decide); rw [strB_same.2.2.1, hw6] at g9; exact g9) (fun v I2 hv => ?_)
            obtain ⟨rfl, A2, f2⟩ := hv
            have H2 := H1.fT f2.T
            have A2 : mAt I2 s t n p := A2
            have k242 : I2 s 24 = 0 := (f2 s 24 (fun _ => by decide)).trans k241
            have k232 := f2 s 23 (fun _ => by decide)
            have Y2 := Y1.fT f2.T
            have Z2 := Z1.fT f2.T
            refine w_zeq 39 l_192_28 (by decide) (fun _ => ?_) (fun hx => absurd hx (by decide))
            refine w_aln l_192_39 rfl ?_
            refine p_iv [] [] l_192_40 rfl rfl (Nat.le_of_ble_eq_true rfl) (by rw [mx_191]; exact Nat.le_of_ble_eq_true rfl) (by rw [mt_191]; exact oModel_sh hm) (by rw [mt_191]; decide) (by rw [rk_191]; decide) (by have g9 := s_191 (xs := xs) (cc := cc) (zz := zz) hm H2 A2 k242; rw [show facZ t n p = ((f : Nat) : Int) from (by unfold facZ; rw [hf])] at g9; exact g9) (fun v I3 hv => ?_)
            obtain ⟨rfl, g223, f3⟩ := hv
            have H3 := H2.fT f3.T
            have k243 : I3 s 24 = 0 := (f3 s 24 (fun _ => by decide)).trans k242
            have k233 := f3 s 23 (fun _ => by decide)
            have Y3 := Y2.fT f3.T
            have Z3 := Z2.fT f3.T
            refine w_isn l_192_43 ⟨Nat.le_of_ble_eq_true rfl, rfl⟩ ?_
            refine w_iln l_192_44 rfl ?_
            refine w_ic l_192_45 (by decide) ?_
            refine w_cne 59 l_192_46 (by decide) (fun _ => ?_) (fun hx => absurd hx (by omega))
            refine w_aln l_192_59 rfl ?_
            refine w_aln l_192_60 rfl ?_
            refine p_iv [] [vr s] l_192_61 rfl rfl (Nat.le_of_ble_eq_true rfl) (by rw [mx_177]; exact Nat.le_of_ble_eq_true rfl) (by rw [mt_177]; exact oModel_sh hm) (by rw [mt_177]; decide) (by rw [rk_177]; decide) (s_177A hm H3 (mAt.at g223 A.le A.id)) (fun v I4 hv => ?_)
            obtain ⟨rfl, g224, f4⟩ := hv
            have H4 := H3.fT f4.T
            have k244 : I4 s 24 = 0 := (f4 s 24 (fun _ => by decide)).trans k243
            have k234 := f4 s 23 (fun _ => by decide)
            have Y4 := Y3.fT f4.T
            have Z4 := Z3.fT f4.T
            have f4u := f4.T.up (v := ((wEnd t n p : Nat) : Int)) (Or.inl rfl)
            have A4 : mAt (up I4 s 22 ((wEnd t n p : Nat) : Int)) s t n (nxt t n p) := ⟨wEnd t n p, up_eq, wEnd_le A.le, (by unfold nxt; rw [wEnd_t1 hft])⟩
            refine w_pi l_192_64 (oModel_sh hm) ?_
            refine w_aln l_192_67 rfl ?_
            refine p_iv [] [] l_192_68 rfl rfl (Nat.le_of_ble_eq_true rfl) (by rw [mx_174]; exact Nat.le_of_ble_eq_true rfl) (by rw [mt_174]; exact oModel_sh hm) (by rw [mt_174]; decide) (by rw [rk_174]; decide) (by have g9 := s_174A (xs := xs) (cc := cc) (zz := zz) hm (H3.fT f4u) A4; rw [show ubA t n (nxt t n p) = 60 from hub] at g9; exact g9) (fun v I5 hv => ?_)
            obtain ⟨rfl, g225, f5⟩ := hv
            have H5 := (H3.fT f4u).fT f5.T
            have k245 : I5 s 24 = 0 := (f5 s 24 (fun _ => by decide)).trans ((up_nj (by decide)).trans k244)
            have k235 : I5 s 23 = I s 23 := (f5 s 23 (fun _ => by decide)).trans ((up_nj (by decide)).trans (k234.trans (k233.trans (k232.trans k231))))
            have Y5 := (Y3.fT f4u).fT f5.T
            have Z5 := (Z3.fT f4u).fT f5.T
            refine w_isn l_192_71 ⟨Nat.le_of_ble_eq_true rfl, rfl⟩ ?_
            refine w_iln l_192_72 rfl ?_
            refine w_bp l_192_73 (by decide) ?_
            refine w_ceq 100 l_192_75 (by decide) (fun _ => ?_) (fun hx => absurd hx (by decide))
            refine w_aln l_192_100 rfl ?_
            refine w_dup l_192_101 rfl ?_
            refine w_gi (((nxt t n p) : Nat) : Int) l_192_102 (oModel_sh hm) g225 ?_
            refine w_ic l_192_105 (by decide) ?_
            refine w_add (((nxt t n p + 1) : Nat) : Int) l_192_106 (by unfold wr; omega) ?_
            refine w_pi l_192_107 (oModel_sh hm) ?_
            refine w_aln l_192_110 rfl ?_
            refine w_ic l_192_111 (by decide) ?_
            refine w_sp l_192_112 (by decide) ?_
            refine p_iv [vi 0, vi 999] [] l_192_115 rfl rfl (Nat.le_of_ble_eq_true rfl) (by rw [mx_180]; exact Nat.le_of_ble_eq_true rfl) (by rw [mt_180]; exact oModel_sh hm) (by rw [mt_180]; decide) (by rw [rk_180]; decide) (by have g9 := s_180A (xs := xs) (cc := cc) (zz := zz) (lo := 0) (hi := 999) hm ((H3.fT f4u).fT (f5.T.up (v := ((nxt t n p + 1 : Nat) : Int)) (Or.inl rfl))) (show mAt (up I5 s 22 ((nxt t n p + 1 : Nat) : Int)) s t n (nxt t n (nxt t n p)) from ⟨nxt t n p + 1, up_eq, by omega, by rw [← hte5]; rfl⟩) ((up_nj (by decide)).trans k245); rw [hq6] at g9; exact g9) (fun v I6 hv => ?_)
            obtain ⟨_, f6, ⟨k246, k236⟩, rfl, A6⟩ := hv
            have Y6 := ((Y3.fT f4u).fT (f5.T.up (v := ((nxt t n p + 1 : Nat) : Int)) (Or.inl rfl))).fT f6
            have Z6 := ((Z3.fT f4u).fT (f5.T.up (v := ((nxt t n p + 1 : Nat) : Int)) (Or.inl rfl))).fT f6
            have A6 : mAt I6 s t n p3 := A6
            refine w_isn l_192_118 ⟨Nat.le_of_ble_eq_true rfl, rfl⟩ ?_
            refine w_aln l_192_119 rfl ?_
            refine w_iln l_192_120 rfl ?_
            refine w_bp l_192_121 (by decide) ?_
            refine w_cne 130 l_192_123 (by decide) (fun hx => absurd hx (by decide)) (fun _ => ?_)
            refine w_ic l_192_126 (by decide) ?_
            refine w_go 141 l_192_127 (by decide) ?_
            refine w_iln l_192_141 rfl ?_
            refine w_iln l_192_142 rfl ?_
            refine q_iv [vi 1, vi ((v : Nat) : Int), vi ((f : Nat) : Int)] [] l_192_143 rfl rfl (Nat.le_of_ble_eq_true rfl) (by rw [mx_186]; exact Nat.le_of_ble_eq_true rfl) (by rw [mt_186]; exact oModel_sh hm) (by rw [mt_186]; decide) (by rw [rk_186]; decide) (s_186 hm (k := tot + C.length) Y6.1.2.2.2.2.2 (by omega)) ?_
            refine w_vr l_192_146 ?_
            have hR : leafR t n P p = .inr (p3, (1, v, f)) := by
              rw [leafR_f hw6 hw7, hf]
              show cmpR t n f (nxt t n p) = _
              unfold cmpR
              rw [if_pos (by rw [hs0]; simp), hq6]
              simp only [hs0]
              rfl
            refine ⟨_, _, rfl, rfl, rfl, (((((((((f1.tr f2).tr f3).T.tr f4u).tr (f5.T.up (v := ((nxt t n p + 1 : Nat) : Int)) (Or.inl rfl))).tr f6).C.up (Or.inr ⟨by omega, by omega⟩)).up (Or.inr ⟨by omega, by omega⟩)).up (Or.inr ⟨by omega, by omega⟩)).up (Or.inl ⟨rfl, by decide, by decide⟩)), ?_⟩
            rw [hR]
            refine ⟨⟨?_, ?_⟩, ?_, ?_, ?_⟩
            · repeat (rw [up_out (by omega)])
              exact k246
            · repeat (rw [up_out (by omega)])
              exact k236.trans ((up_nj (by decide)).trans k235)
            · obtain ⟨j9, a9, b9, c9⟩ := A6
              refine ⟨j9, ?_, b9, c9⟩
              repeat (rw [up_out (by omega)])
              exact a9
            · refine ⟨?_, ?_, fun j hj => ?_⟩
              · repeat (rw [up_out (by omega)])
                exact Z6.1
              · repeat (rw [up_out (by omega)])
                exact Z6.2.1
              · repeat (rw [up_out (by omega)])
                exact Z6.2.2 j hj
            · exact Y6.emt (1, v, f)
        | false =>
          cases hs1 : isSg t n 61 (nxt t n p) with
          | true =>
            have hs2n : isSg t n 62 (nxt t n p) = false := Bool.eq_false_iff.mpr fun q => by
              have g1 := (isSg_iff.mp q).2
              have g2 := (isSg_iff.mp hs1).2
              omega
            have hub : ubA t n (nxt t n p) = 61 := (ubA_c H (by decide)).mpr (isSg_iff.mp hs1)
            have hte5 : tEnd t n (nxt t n p) = nxt t n p + 1 := (isSg_3 (by decide) hs1).2
            have hpl5 := (isSg_iff.mp hs1).1
            cases hq6 : numR t n 0 999 (nxt t n (nxt t n p)) with
            | inl e9 =>
              refine CL_start (r := 6) (ls := [vr s, vs 2, vs 2, vs 2]) (rk_192 _) rfl ?_
              refine w_aln l_192_0 rfl ?_
              refine w_ldc l_192_1 (by decide) ?_
              refine p_iv [vs (2 * 36 + 4)] [] l_192_3 rfl rfl (Nat.le_of_ble_eq_true rfl) (by rw [mx_179]; exact Nat.le_of_ble_eq_true rfl) (by rw [mt_179]; exact oModel_sh hm) (by rw [mt_179]; decide) (by rw [rk_179]; decide) (by have g9 := s_179A (xs := xs) (cc := cc) (zz := zz) hm H A h24 (q := 36) (by decide); rw [strB_same.2.1, hw7] at g9; exact g9) (fun v I1 hv => ?_)
              obtain ⟨rfl, A1, f1⟩ := hv
              have H1 := H.fT f1.T
              have A1 : mAt I1 s t n p := A1
              have k241 : I1 s 24 = 0 := (f1 s 24 (fun _ => by decide)).trans h24
              have k231 := f1 s 23 (fun _ => by decide)
              have Y1 := Y.fT f1.T
              have Z1 := Z.fT f1.T
              refine w_zeq 22 l_192_6 (by decide) (fun _ => ?_) (fun hx => absurd hx (by decide))
              refine w_aln l_192_22 rfl ?_
              refine w_ldc l_192_23 (by decide) ?_
              refine p_iv [vs (2 * 37 + 4)] [] l_192_25 rfl rfl (Nat.le_of_ble_eq_true rfl) (by rw [mx_179]; exact Nat.le_of_ble_eq_true rfl) (by rw [mt_179]; exact oModel_sh hm) (by rw [mt_179]; decide) (by rw [rk_179]; decide) (by have g9 := s_179A (xs := xs) (cc := cc) (zz := zz) hm H1 A1 k241 (q := 37) (by decide); rw [strB_same.2.2.1, hw6] at g9; exact g9) (fun v I2 hv => ?_)
              obtain ⟨rfl, A2, f2⟩ := hv
              have H2 := H1.fT f2.T
              have A2 : mAt I2 s t n p := A2
              have k242 : I2 s 24 = 0 := (f2 s 24 (fun _ => by decide)).trans k241
              have k232 := f2 s 23 (fun _ => by decide)
              have Y2 := Y1.fT f2.T
              have Z2 := Z1.fT f2.T
              refine w_zeq 39 l_192_28 (by decide) (fun _ => ?_) (fun hx => absurd hx (by decide))
              refine w_aln l_192_39 rfl ?_
              refine p_iv [] [] l_192_40 rfl rfl (Nat.le_of_ble_eq_true rfl) (by rw [mx_191]; exact Nat.le_of_ble_eq_true rfl) (by rw [mt_191]; exact oModel_sh hm) (by rw [mt_191]; decide) (by rw [rk_191]; decide) (by have g9 := s_191 (xs := xs) (cc := cc) (zz := zz) hm H2 A2 k242; rw [show facZ t n p = ((f : Nat) : Int) from (by unfold facZ; rw [hf])] at g9; exact g9) (fun v I3 hv => ?_)
              obtain ⟨rfl, g223, f3⟩ := hv
              have H3 := H2.fT f3.T
              have k243 : I3 s 24 = 0 := (f3 s 24 (fun _ => by decide)).trans k242
              have k233 := f3 s 23 (fun _ => by decide)
              have Y3 := Y2.fT f3.T
              have Z3 := Z2.fT f3.T
              refine w_isn l_192_43 ⟨Nat.le_of_ble_eq_true rfl, rfl⟩ ?_
              refine w_iln l_192_44 rfl ?_
              refine w_ic l_192_45 (by decide) ?_
              refine w_cne 59 l_192_46 (by decide) (fun _ => ?_) (fun hx => absurd hx (by omega))
              refine w_aln l_192_59 rfl ?_
              refine w_aln l_192_60 rfl ?_
              refine p_iv [] [vr s] l_192_61 rfl rfl (Nat.le_of_ble_eq_true rfl) (by rw [mx_177]; exact Nat.le_of_ble_eq_true rfl) (by rw [mt_177]; exact oModel_sh hm) (by rw [mt_177]; decide) (by rw [rk_177]; decide) (s_177A hm H3 (mAt.at g223 A.le A.id)) (fun v I4 hv => ?_)
              obtain ⟨rfl, g224, f4⟩ := hv
              have H4 := H3.fT f4.T
              have k244 : I4 s 24 = 0 := (f4 s 24 (fun _ => by decide)).trans k243
              have k234 := f4 s 23 (fun _ => by decide)
              have Y4 := Y3.fT f4.T
              have Z4 := Z3.fT f4.T
              have f4u := f4.T.up (v := ((wEnd t n p : Nat) : Int)) (Or.inl rfl)
              have A4 : mAt (up I4 s 22 ((wEnd t n p : Nat) : Int)) s t n (nxt t n p) := ⟨wEnd t n p, up_eq, wEnd_le A.le, (by unfold nxt; rw [wEnd_t1 hft])⟩
              refine w_pi l_192_64 (oModel_sh hm) ?_
              refine w_aln l_192_67 rfl ?_
              refine p_iv [] [] l_192_68 rfl rfl (Nat.le_of_ble_eq_true rfl) (by rw [mx_174]; exact Nat.le_of_ble_eq_true rfl) (by rw [mt_174]; exact oModel_sh hm) (by rw [mt_174]; decide) (by rw [rk_174]; decide) (by have g9 := s_174A (xs := xs) (cc := cc) (zz := zz) hm (H3.fT f4u) A4; rw [show ubA t n (nxt t n p) = 61 from hub] at g9; exact g9) (fun v I5 hv => ?_)
              obtain ⟨rfl, g225, f5⟩ := hv
              have H5 := (H3.fT f4u).fT f5.T
              have k245 : I5 s 24 = 0 := (f5 s 24 (fun _ => by decide)).trans ((up_nj (by decide)).trans k244)
              have k235 : I5 s 23 = I s 23 := (f5 s 23 (fun _ => by decide)).trans ((up_nj (by decide)).trans (k234.trans (k233.trans (k232.trans k231))))
              have Y5 := (Y3.fT f4u).fT f5.T
              have Z5 := (Z3.fT f4u).fT f5.T
              refine w_isn l_192_71 ⟨Nat.le_of_ble_eq_true rfl, rfl⟩ ?_
              refine w_iln l_192_72 rfl ?_
              refine w_bp l_192_73 (by decide) ?_
              refine w_ceq 100 l_192_75 (by decide) (fun hx => absurd hx (by decide)) (fun _ => ?_)
              refine w_iln l_192_78 rfl ?_
              refine w_bp l_192_79 (by decide) ?_
              refine w_ceq 100 l_192_81 (by decide) (fun _ => ?_) (fun hx => absurd hx (by decide))
              refine w_aln l_192_100 rfl ?_
              refine w_dup l_192_101 rfl ?_
              refine w_gi (((nxt t n p) : Nat) : Int) l_192_102 (oModel_sh hm) g225 ?_
              refine w_ic l_192_105 (by decide) ?_
              refine w_add (((nxt t n p + 1) : Nat) : Int) l_192_106 (by unfold wr; omega) ?_
              refine w_pi l_192_107 (oModel_sh hm) ?_
              refine w_aln l_192_110 rfl ?_
              refine w_ic l_192_111 (by decide) ?_
              refine w_sp l_192_112 (by decide) ?_
              refine p_iv [vi 0, vi 999] [] l_192_115 rfl rfl (Nat.le_of_ble_eq_true rfl) (by rw [mx_180]; exact Nat.le_of_ble_eq_true rfl) (by rw [mt_180]; exact oModel_sh hm) (by rw [mt_180]; decide) (by rw [rk_180]; decide) (by have g9 := s_180A (xs := xs) (cc := cc) (zz := zz) (lo := 0) (hi := 999) hm ((H3.fT f4u).fT (f5.T.up (v := ((nxt t n p + 1 : Nat) : Int)) (Or.inl rfl))) (show mAt (up I5 s 22 ((nxt t n p + 1 : Nat) : Int)) s t n (nxt t n (nxt t n p)) from ⟨nxt t n p + 1, up_eq, by omega, by rw [← hte5]; rfl⟩) ((up_nj (by decide)).trans k245); rw [hq6] at g9; exact g9) (fun v I6 hv => ?_)
              obtain ⟨⟨z6, rfl⟩, f6, he, e24, e23⟩ := hv
              have Y6 := ((Y3.fT f4u).fT (f5.T.up (v := ((nxt t n p + 1 : Nat) : Int)) (Or.inl rfl))).fT f6
              refine w_isn l_192_118 ⟨Nat.le_of_ble_eq_true rfl, rfl⟩ ?_
              refine w_aln l_192_119 rfl ?_
              refine w_iln l_192_120 rfl ?_
              refine w_bp l_192_121 (by decide) ?_
              refine w_cne 130 l_192_123 (by decide) (fun _ => ?_) (fun hx => absurd hx (by decide))
              refine w_iln l_192_130 rfl ?_
              refine w_bp l_192_131 (by decide) ?_
              refine w_cne 140 l_192_133 (by decide) (fun hx => absurd hx (by decide)) (fun _ => ?_)
              refine w_ic l_192_136 (by decide) ?_
              refine w_go 141 l_192_137 (by decide) ?_
              refine w_iln l_192_141 rfl ?_
              refine w_iln l_192_142 rfl ?_
              refine q_iv [vi 2, vi z6, vi ((f : Nat) : Int)] [] l_192_143 rfl rfl (Nat.le_of_ble_eq_true rfl) (by rw [mx_186]; exact Nat.le_of_ble_eq_true rfl) (by rw [mt_186]; exact oModel_sh hm) (by rw [mt_186]; decide) (by rw [rk_186]; decide) (s_186 hm (k := tot + C.length) Y6.1.2.2.2.2.2 (by omega)) ?_
              refine w_vr l_192_146 ?_
              have hR : leafR t n P p = .inl e9 := by
                rw [leafR_f hw6 hw7, hf]
                show cmpR t n f (nxt t n p) = _
                unfold cmpR
                rw [if_pos (by rw [hs1]; simp), hq6]
              refine ⟨_, _, rfl, rfl, rfl, (((((((((f1.tr f2).tr f3).T.tr f4u).tr (f5.T.up (v := ((nxt t n p + 1 : Nat) : Int)) (Or.inl rfl))).tr f6).C.up (Or.inr ⟨by omega, by omega⟩)).up (Or.inr ⟨by omega, by omega⟩)).up (Or.inr ⟨by omega, by omega⟩)).up (Or.inl ⟨rfl, by decide, by decide⟩)), ?_⟩
              rw [hR]
              refine ⟨he, ?_, ?_⟩
              · repeat (rw [up_out (by omega)])
                exact e24
              · repeat (rw [up_out (by omega)])
                exact e23
            | inr a9 =>
              obtain ⟨v, p3⟩ := a9
              refine CL_start (r := 6) (ls := [vr s, vs 2, vs 2, vs 2]) (rk_192 _) rfl ?_
              refine w_aln l_192_0 rfl ?_
              refine w_ldc l_192_1 (by decide) ?_
              refine p_iv [vs (2 * 36 + 4)] [] l_192_3 rfl rfl (Nat.le_of_ble_eq_true rfl) (by rw [mx_179]; exact Nat.le_of_ble_eq_true rfl) (by rw [mt_179]; exact oModel_sh hm) (by rw [mt_179]; decide) (by rw [rk_179]; decide) (by have g9 := s_179A (xs := xs) (cc := cc) (zz := zz) hm H A h24 (q := 36) (by decide); rw [strB_same.2.1, hw7] at g9; exact g9) (fun v I1 hv => ?_)
              obtain ⟨rfl, A1, f1⟩ := hv
              have H1 := H.fT f1.T
              have A1 : mAt I1 s t n p := A1
              have k241 : I1 s 24 = 0 := (f1 s 24 (fun _ => by decide)).trans h24
              have k231 := f1 s 23 (fun _ => by decide)
              have Y1 := Y.fT f1.T
              have Z1 := Z.fT f1.T
              refine w_zeq 22 l_192_6 (by decide) (fun _ => ?_) (fun hx => absurd hx (by decide))
              refine w_aln l_192_22 rfl ?_
              refine w_ldc l_192_23 (by decide) ?_
              refine p_iv [vs (2 * 37 + 4)] [] l_192_25 rfl rfl (Nat.le_of_ble_eq_true rfl) (by rw [mx_179]; exact Nat.le_of_ble_eq_true rfl) (by rw [mt_179]; exact oModel_sh hm) (by rw [mt_179]; decide) (by rw [rk_179]; decide) (by have g9 := s_179A (xs := xs) (cc := cc) (zz := zz) hm H1 A1 k241 (q := 37) (by decide); rw [strB_same.2.2.1, hw6] at g9; exact g9) (fun v I2 hv => ?_)
              obtain ⟨rfl, A2, f2⟩ := hv
              have H2 := H1.fT f2.T
              have A2 : mAt I2 s t n p := A2
              have k242 : I2 s 24 = 0 := (f2 s 24 (fun _ => by decide)).trans k241
              have k232 := f2 s 23 (fun _ => by decide)
              have Y2 := Y1.fT f2.T
              have Z2 := Z1.fT f2.T
              refine w_zeq 39 l_192_28 (by decide) (fun _ => ?_) (fun hx => absurd hx (by decide))
              refine w_aln l_192_39 rfl ?_
              refine p_iv [] [] l_192_40 rfl rfl (Nat.le_of_ble_eq_true rfl) (by rw [mx_191]; exact Nat.le_of_ble_eq_true rfl) (by rw [mt_191]; exact oModel_sh hm) (by rw [mt_191]; decide) (by rw [rk_191]; decide) (by have g9 := s_191 (xs := xs) (cc := cc) (zz := zz) hm H2 A2 k242; rw [show facZ t n p = ((f : Nat) : Int) from (by unfold facZ; rw [hf])] at g9; exact g9) (fun v I3 hv => ?_)
              obtain ⟨rfl, g223, f3⟩ := hv
              have H3 := H2.fT f3.T
              have k243 : I3 s 24 = 0 := (f3 s 24 (fun _ => by decide)).trans k242
              have k233 := f3 s 23 (fun _ => by decide)
              have Y3 := Y2.fT f3.T
              have Z3 := Z2.fT f3.T
              refine w_isn l_192_43 ⟨Nat.le_of_ble_eq_true rfl, rfl⟩ ?_
              refine w_iln l_192_44 rfl ?_
              refine w_ic l_192_45 (by decide) ?_
              refine w_cne 59 l_192_46 (by decide) (fun _ => ?_) (fun hx => absurd hx (by omega))
              refine w_aln l_192_59 rfl ?_
              refine w_aln l_192_60 rfl ?_
              refine p_iv [] [vr s] l_192_61 rfl rfl (Nat.le_of_ble_eq_true rfl) (by rw [mx_177]; exact Nat.le_of_ble_eq_true rfl) (by rw [mt_177]; exact oModel_sh hm) (by rw [mt_177]; decide) (by rw [rk_177]; decide) (s_177A hm H3 (mAt.at g223 A.le A.id)) (fun v I4 hv => ?_)
              obtain ⟨rfl, g224, f4⟩ := hv
              have H4 := H3.fT f4.T
              have k244 : I4 s 24 = 0 := (f4 s 24 (fun _ => by decide)).trans k243
              have k234 := f4 s 23 (fun _ => by decide)
              have Y4 := Y3.fT f4.T
              have Z4 := Z3.fT f4.T
              have f4u := f4.T.up (v := ((wEnd t n p : Nat) : Int)) (Or.inl rfl)
              have A4 : mAt (up I4 s 22 ((wEnd t n p : Nat) : Int)) s t n (nxt t n p) := ⟨wEnd t n p, up_eq, wEnd_le A.le, (by unfold nxt; rw [wEnd_t1 hft])⟩
              refine w_pi l_192_64 (oModel_sh hm) ?_
              refine w_aln l_192_67 rfl ?_
              refine p_iv [] [] l_192_68 rfl rfl (Nat.le_of_ble_eq_true rfl) (by rw [mx_174]; exact Nat.le_of_ble_eq_true rfl) (by rw [mt_174]; exact oModel_sh hm) (by rw [mt_174]; decide) (by rw [rk_174]; decide) (by have g9 := s_174A (xs := xs) (cc := cc) (zz := zz) hm (H3.fT f4u) A4; rw [show ubA t n (nxt t n p) = 61 from hub] at g9; exact g9) (fun v I5 hv => ?_)
              obtain ⟨rfl, g225, f5⟩ := hv
              have H5 := (H3.fT f4u).fT f5.T
              have k245 : I5 s 24 = 0 := (f5 s 24 (fun _ => by decide)).trans ((up_nj (by decide)).trans k244)
              have k235 : I5 s 23 = I s 23 := (f5 s 23 (fun _ => by decide)).trans ((up_nj (by decide)).trans (k234.trans (k233.trans (k232.trans k231))))
              have Y5 := (Y3.fT f4u).fT f5.T
              have Z5 := (Z3.fT f4u).fT f5.T
              refine w_isn l_192_71 ⟨Nat.le_of_ble_eq_true rfl, rfl⟩ ?_
              refine w_iln l_192_72 rfl ?_
              refine w_bp l_192_73 (by decide) ?_
              refine w_ceq 100 l_192_75 (by decide) (fun hx => absurd hx (by decide)) (fun _ => ?_)
              refine w_iln l_192_78 rfl ?_
              refine w_bp l_192_79 (by decide) ?_
              refine w_ceq 100 l_192_81 (by decide) (fun _ => ?_) (fun hx => absurd hx (by decide))
              refine w_aln l_192_100 rfl ?_
              refine w_dup l_192_101 rfl ?_
              refine w_gi (((nxt t n p) : Nat) : Int) l_192_102 (oModel_sh hm) g225 ?_
              refine w_ic l_192_105 (by decide) ?_
              refine w_add (((nxt t n p + 1) : Nat) : Int) l_192_106 (by unfold wr; omega) ?_
              refine w_pi l_192_107 (oModel_sh hm) ?_
              refine w_aln l_192_110 rfl ?_
              refine w_ic l_192_111 (by decide) ?_
              refine w_sp l_192_112 (by decide) ?_
              refine p_iv [vi 0, vi 999] [] l_192_115 rfl rfl (Nat.le_of_ble_eq_true rfl) (by rw [mx_180]; exact Nat.le_of_ble_eq_true rfl) (by rw [mt_180]; exact oModel_sh hm) (by rw [mt_180]; decide) (by rw [rk_180]; decide) (by have g9 := s_180A (xs := xs) (cc := cc) (zz := zz) (lo := 0) (hi := 999) hm ((H3.fT f4u).fT (f5.T.up (v := ((nxt t n p + 1 : Nat) : Int)) (Or.inl rfl))) (show mAt (up I5 s 22 ((nxt t n p + 1 : Nat) : Int)) s t n (nxt t n (nxt t n p)) from ⟨nxt t n p + 1, up_eq, by omega, by rw [← hte5]; rfl⟩) ((up_nj (by decide)).trans k245); rw [hq6] at g9; exact g9) (fun v I6 hv => ?_)
              obtain ⟨_, f6, ⟨k246, k236⟩, rfl, A6⟩ := hv
              have Y6 := ((Y3.fT f4u).fT (f5.T.up (v := ((nxt t n p + 1 : Nat) : Int)) (Or.inl rfl))).fT f6
              have Z6 := ((Z3.fT f4u).fT (f5.T.up (v := ((nxt t n p + 1 : Nat) : Int)) (Or.inl rfl))).fT f6
              have A6 : mAt I6 s t n p3 := A6
              refine w_isn l_192_118 ⟨Nat.le_of_ble_eq_true rfl, rfl⟩ ?_
              refine w_aln l_192_119 rfl ?_
              refine w_iln l_192_120 rfl ?_
              refine w_bp l_192_121 (by decide) ?_
              refine w_cne 130 l_192_123 (by decide) (fun _ => ?_) (fun hx => absurd hx (by decide))
              refine w_iln l_192_130 rfl ?_
              refine w_bp l_192_131 (by decide) ?_
              refine w_cne 140 l_192_133 (by decide) (fun hx => absurd hx (by decide)) (fun _ => ?_)
              refine w_ic l_192_136 (by decide) ?_
              refine w_go 141 l_192_137 (by decide) ?_
              refine w_iln l_192_141 rfl ?_
              refine w_iln l_192_142 rfl ?_
              refine q_iv [vi 2, vi ((v : Nat) : Int), vi ((f : Nat) : Int)] [] l_192_143 rfl rfl (Nat.le_of_ble_eq_true rfl) (by rw [mx_186]; exact Nat.le_of_ble_eq_true rfl) (by rw [mt_186]; exact oModel_sh hm) (by rw [mt_186]; decide) (by rw [rk_186]; decide) (s_186 hm (k := tot + C.length) Y6.1.2.2.2.2.2 (by omega)) ?_
              refine w_vr l_192_146 ?_
              have hR : leafR t n P p = .inr (p3, (2, v, f)) := by
                rw [leafR_f hw6 hw7, hf]
                show cmpR t n f (nxt t n p) = _
                unfold cmpR
                rw [if_pos (by rw [hs1]; simp), hq6]
                simp only [hs0, hs2n]
                rfl
              refine ⟨_, _, rfl, rfl, rfl, (((((((((f1.tr f2).tr f3).T.tr f4u).tr (f5.T.up (v := ((nxt t n p + 1 : Nat) : Int)) (Or.inl rfl))).tr f6).C.up (Or.inr ⟨by omega, by omega⟩)).up (Or.inr ⟨by omega, by omega⟩)).up (Or.inr ⟨by omega, by omega⟩)).up (Or.inl ⟨rfl, by decide, by decide⟩)), ?_⟩
              rw [hR]
              refine ⟨⟨?_, ?_⟩, ?_, ?_, ?_⟩
              · repeat (rw [up_out (by omega)])
                exact k246
              · repeat (rw [up_out (by omega)])
                exact k236.trans ((up_nj (by decide)).trans k235)
              · obtain ⟨j9, a9, b9, c9⟩ := A6
                refine ⟨j9, ?_, b9, c9⟩
                repeat (rw [up_out (by omega)])
                exact a9
              · refine ⟨?_, ?_, fun j hj => ?_⟩
                · repeat (rw [up_out (by omega)])
                  exact Z6.1
                · repeat (rw [up_out (by omega)])
                  exact Z6.2.1
                · repeat (rw [up_out (by omega)])
                  exact Z6.2.2 j hj
              · exact Y6.emt (2, v, f)
          | false =>
            cases hs2 : isSg t n 62 (nxt t n p) with
            | true =>
              have hub : ubA t n (nxt t n p) = 62 := (ubA_c H (by decide)).mpr (isSg_iff.mp hs2)
              have hte5 : tEnd t n (nxt t n p) = nxt t n p + 1 := (isSg_3 (by decide) hs2).2
              have hpl5 := (isSg_iff.mp hs2).1
              cases hq6 : numR t n 0 999 (nxt t n (nxt t n p)) with
              | inl e9 =>
                refine CL_start (r := 6) (ls := [vr s, vs 2, vs 2, vs 2]) (rk_192 _) rfl ?_
                refine w_aln l_192_0 rfl ?_
                refine w_ldc l_192_1 (by decide) ?_
                refine p_iv [vs (2 * 36 + 4)] [] l_192_3 rfl rfl (Nat.le_of_ble_eq_true rfl) (by rw [mx_179]; exact Nat.le_of_ble_eq_true rfl) (by rw [mt_179]; exact oModel_sh hm) (by rw [mt_179]; decide) (by rw [rk_179]; decide) (by have g9 := s_179A (xs := xs) (cc := cc) (zz := zz) hm H A h24 (q := 36) (by decide); rw [strB_same.2.1, hw7] at g9; exact g9) (fun v I1 hv => ?_)
                obtain ⟨rfl, A1, f1⟩ := hv
                have H1 := H.fT f1.T
                have A1 : mAt I1 s t n p := A1
                have k241 : I1 s 24 = 0 := (f1 s 24 (fun _ => by decide)).trans h24
                have k231 := f1 s 23 (fun _ => by decide)
                have Y1 := Y.fT f1.T
                have Z1 := Z.fT f1.T
                refine w_zeq 22 l_192_6 (by decide) (fun _ => ?_) (fun hx => absurd hx (by decide))
                refine w_aln l_192_22 rfl ?_
                refine w_ldc l_192_23 (by decide) ?_
                refine p_iv [vs (2 * 37 + 4)] [] l_192_25 rfl rfl (Nat.le_of_ble_eq_true rfl) (by rw [mx_179]; exact Nat.le_of_ble_eq_true rfl) (by rw [mt_179]; exact oModel_sh hm) (by rw [mt_179]; decide) (by rw [rk_179]; decide) (by have g9 := s_179A (xs := xs) (cc := cc) (zz := zz) hm H1 A1 k241 (q := 37) (by decide); rw [strB_same.2.2.1, hw6] at g9; exact g9) (fun v I2 hv => ?_)
                obtain ⟨rfl, A2, f2⟩ := hv
                have H2 := H1.fT f2.T
                have A2 : mAt I2 s t n p := A2
                have k242 : I2 s 24 = 0 := (f2 s 24 (fun _ => by decide)).trans k241
                have k232 := f2 s 23 (fun _ => by decide)
                have Y2 := Y1.fT f2.T
                have Z2 := Z1.fT f2.T
                refine w_zeq 39 l_192_28 (by decide) (fun _ => ?_) (fun hx => absurd hx (by decide))
                refine w_aln l_192_39 rfl ?_
                refine p_iv [] [] l_192_40 rfl rfl (Nat.le_of_ble_eq_true rfl) (by rw [mx_191]; exact Nat.le_of_ble_eq_true rfl) (by rw [mt_191]; exact oModel_sh hm) (by rw [mt_191]; decide) (by rw [rk_191]; decide) (by have g9 := s_191 (xs := xs) (cc := cc) (zz := zz) hm H2 A2 k242; rw [show facZ t n p = ((f : Nat) : Int) from (by unfold facZ; rw [hf])] at g9; exact g9) (fun v I3 hv => ?_)
                obtain ⟨rfl, g223, f3⟩ := hv
                have H3 := H2.fT f3.T
                have k243 : I3 s 24 = 0 := (f3 s 24 (fun _ => by decide)).trans k242
                have k233 := f3 s 23 (fun _ => by decide)
                have Y3 := Y2.fT f3.T
                have Z3 := Z2.fT f3.T
                refine w_isn l_192_43 ⟨Nat.le_of_ble_eq_true rfl, rfl⟩ ?_
                refine w_iln l_192_44 rfl ?_
                refine w_ic l_192_45 (by decide) ?_
                refine w_cne 59 l_192_46 (by decide) (fun _ => ?_) (fun hx => absurd hx (by omega))
                refine w_aln l_192_59 rfl ?_
                refine w_aln l_192_60 rfl ?_
                refine p_iv [] [vr s] l_192_61 rfl rfl (Nat.le_of_ble_eq_true rfl) (by rw [mx_177]; exact Nat.le_of_ble_eq_true rfl) (by rw [mt_177]; exact oModel_sh hm) (by rw [mt_177]; decide) (by rw [rk_177]; decide) (s_177A hm H3 (mAt.at g223 A.le A.id)) (fun v I4 hv => ?_)
                obtain ⟨rfl, g224, f4⟩ := hv
                have H4 := H3.fT f4.T
                have k244 : I4 s 24 = 0 := (f4 s 24 (fun _ => by decide)).trans k243
                have k234 := f4 s 23 (fun _ => by decide)
                have Y4 := Y3.fT f4.T
                have Z4 := Z3.fT f4.T
                have f4u := f4.T.up (v := ((wEnd t n p : Nat) : Int)) (Or.inl rfl)
                have A4 : mAt (up I4 s 22 ((wEnd t n p : Nat) : Int)) s t n (nxt t n p) := ⟨wEnd t n p, up_eq, wEnd_le A.le, (by unfold nxt; rw [wEnd_t1 hft])⟩
                refine w_pi l_192_64 (oModel_sh hm) ?_
                refine w_aln l_192_67 rfl ?_
                refine p_iv [] [] l_192_68 rfl rfl (Nat.le_of_ble_eq_true rfl) (by rw [mx_174]; exact Nat.le_of_ble_eq_true rfl) (by rw [mt_174]; exact oModel_sh hm) (by rw [mt_174]; decide) (by rw [rk_174]; decide) (by have g9 := s_174A (xs := xs) (cc := cc) (zz := zz) hm (H3.fT f4u) A4; rw [show ubA t n (nxt t n p) = 62 from hub] at g9; exact g9) (fun v I5 hv => ?_)
                obtain ⟨rfl, g225, f5⟩ := hv
                have H5 := (H3.fT f4u).fT f5.T
                have k245 : I5 s 24 = 0 := (f5 s 24 (fun _ => by decide)).trans ((up_nj (by decide)).trans k244)
                have k235 : I5 s 23 = I s 23 := (f5 s 23 (fun _ => by decide)).trans ((up_nj (by decide)).trans (k234.trans (k233.trans (k232.trans k231))))
                have Y5 := (Y3.fT f4u).fT f5.T
                have Z5 := (Z3.fT f4u).fT f5.T
                refine w_isn l_192_71 ⟨Nat.le_of_ble_eq_true rfl, rfl⟩ ?_
                refine w_iln l_192_72 rfl ?_
                refine w_bp l_192_73 (by decide) ?_
                refine w_ceq 100 l_192_75 (by decide) (fun hx => absurd hx (by decide)) (fun _ => ?_)
                refine w_iln l_192_78 rfl ?_
                refine w_bp l_192_79 (by decide) ?_
                refine w_ceq 100 l_192_81 (by decide) (fun hx => absurd hx (by decide)) (fun _ => ?_)
                refine w_iln l_192_84 rfl ?_
                refine w_bp l_192_85 (by decide) ?_
                refine w_ceq 100 l_192_87 (by decide) (fun _ => ?_) (fun hx => absurd hx (by decide))
                refine w_aln l_192_100 rfl ?_
                refine w_dup l_192_101 rfl ?_
                refine w_gi (((nxt t n p) : Nat) : Int) l_192_102 (oModel_sh hm) g225 ?_
                refine w_ic l_192_105 (by decide) ?_
                refine w_add (((nxt t n p + 1) : Nat) : Int) l_192_106 (by unfold wr; omega) ?_
                refine w_pi l_192_107 (oModel_sh hm) ?_
                refine w_aln l_192_110 rfl ?_
                refine w_ic l_192_111 (by decide) ?_
                refine w_sp l_192_112 (by decide) ?_
                refine p_iv [vi 0, vi 999] [] l_192_115 rfl rfl (Nat.le_of_ble_eq_true rfl) (by rw [mx_180]; exact Nat.le_of_ble_eq_true rfl) (by rw [mt_180]; exact oModel_sh hm) (by rw [mt_180]; decide) (by rw [rk_180]; decide) (by have g9 := s_180A (xs := xs) (cc := cc) (zz := zz) (lo := 0) (hi := 999) hm ((H3.fT f4u).fT (f5.T.up (v := ((nxt t n p + 1 : Nat) : Int)) (Or.inl rfl))) (show mAt (up I5 s 22 ((nxt t n p + 1 : Nat) : Int)) s t n (nxt t n (nxt t n p)) from ⟨nxt t n p + 1, up_eq, by omega, by rw [← hte5]; rfl⟩) ((up_nj (by decide)).trans k245); rw [hq6] at g9; exact g9) (fun v I6 hv => ?_)
                obtain ⟨⟨z6, rfl⟩, f6, he, e24, e23⟩ := hv
                have Y6 := ((Y3.fT f4u).fT (f5.T.up (v := ((nxt t n p + 1 : Nat) : Int)) (Or.inl rfl))).fT f6
                refine w_isn l_192_118 ⟨Nat.le_of_ble_eq_true rfl, rfl⟩ ?_
                refine w_aln l_192_119 rfl ?_
                refine w_iln l_192_120 rfl ?_
                refine w_bp l_192_121 (by decide) ?_
                refine w_cne 130 l_192_123 (by decide) (fun _ => ?_) (fun hx => absurd hx (by decide))
                refine w_iln l_192_130 rfl ?_
                refine w_bp l_192_131 (by decide) ?_
                refine w_cne 140 l_192_133 (by decide) (fun _ => ?_) (fun hx => absurd hx (by decide))
                refine w_ic l_192_140 (by decide) ?_
                refine w_iln l_192_141 rfl ?_
                refine w_iln l_192_142 rfl ?_
                refine q_iv [vi 3, vi z6, vi ((f : Nat) : Int)] [] l_192_143 rfl rfl (Nat.le_of_ble_eq_true rfl) (by rw [mx_186]; exact Nat.le_of_ble_eq_true rfl) (by rw [mt_186]; exact oModel_sh hm) (by rw [mt_186]; decide) (by rw [rk_186]; decide) (s_186 hm (k := tot + C.length) Y6.1.2.2.2.2.2 (by omega)) ?_
                refine w_vr l_192_146 ?_
                have hR : leafR t n P p = .inl e9 := by
                  rw [leafR_f hw6 hw7, hf]
                  show cmpR t n f (nxt t n p) = _
                  unfold cmpR
                  rw [if_pos (by rw [hs2]; simp), hq6]
                refine ⟨_, _, rfl, rfl, rfl, (((((((((f1.tr f2).tr f3).T.tr f4u).tr (f5.T.up (v := ((nxt t n p + 1 : Nat) : Int)) (Or.inl rfl))).tr f6).C.up (Or.inr ⟨by omega, by omega⟩)).up (Or.inr ⟨by omega, by omega⟩)).up (Or.inr ⟨by omega, by omega⟩)).up (Or.inl ⟨rfl, by decide, by decide⟩)), ?_⟩
                rw [hR]
                refine ⟨he, ?_, ?_⟩
                · repeat (rw [up_out (by omega)])
                  exact e24
                · repeat (rw [up_out (by omega)])
                  exact e23
              | inr a9 =>
                obtain ⟨v, p3⟩ := a9
                refine CL_start (r := 6) (ls := [vr s, vs 2, vs 2, vs 2]) (rk_192 _) rfl ?_
                refine w_aln l_192_0 rfl ?_
                refine w_ldc l_192_1 (by decide) ?_
                refine p_iv [vs (2 * 36 + 4)] [] l_192_3 rfl rfl (Nat.le_of_ble_eq_true rfl) (by rw [mx_179]; exact Nat.le_of_ble_eq_true rfl) (by rw [mt_179]; exact oModel_sh hm) (by rw [mt_179]; decide) (by rw [rk_179]; decide) (by have g9 := s_179A (xs := xs) (cc := cc) (zz := zz) hm H A h24 (q := 36) (by decide); rw [strB_same.2.1, hw7] at g9; exact g9) (fun v I1 hv => ?_)
                obtain ⟨rfl, A1, f1⟩ := hv
                have H1 := H.fT f1.T
                have A1 : mAt I1 s t n p := A1
                have k241 : I1 s 24 = 0 := (f1 s 24 (fun _ => by decide)).trans h24
                have k231 := f1 s 23 (fun _ => by decide)
                have Y1 := Y.fT f1.T
                have Z1 := Z.fT f1.T
                refine w_zeq 22 l_192_6 (by decide) (fun _ => ?_) (fun hx => absurd hx (by decide))
                refine w_aln l_192_22 rfl ?_
                refine w_ldc l_192_23 (by decide) ?_
                refine p_iv [vs (2 * 37 + 4)] [] l_192_25 rfl rfl (Nat.le_of_ble_eq_true rfl) (by rw [mx_179]; exact Nat.le_of_ble_eq_true rfl) (by rw [mt_179]; exact oModel_sh hm) (by rw [mt_179]; decide) (by rw [rk_179]; decide) (by have g9 := s_179A (xs := xs) (cc := cc) (zz := zz) hm H1 A1 k241 (q := 37) (by decide); rw [strB_same.2.2.1, hw6] at g9; exact g9) (fun v I2 hv => ?_)
                obtain ⟨rfl, A2, f2⟩ := hv
                have H2 := H1.fT f2.T
                have A2 : mAt I2 s t n p := A2
                have k242 : I2 s 24 = 0 := (f2 s 24 (fun _ => by decide)).trans k241
                have k232 := f2 s 23 (fun _ => by decide)
                have Y2 := Y1.fT f2.T
                have Z2 := Z1.fT f2.T
                refine w_zeq 39 l_192_28 (by decide) (fun _ => ?_) (fun hx => absurd hx (by decide))
                refine w_aln l_192_39 rfl ?_
                refine p_iv [] [] l_192_40 rfl rfl (Nat.le_of_ble_eq_true rfl) (by rw [mx_191]; exact Nat.le_of_ble_eq_true rfl) (by rw [mt_191]; exact oModel_sh hm) (by rw [mt_191]; decide) (by rw [rk_191]; decide) (by have g9 := s_191 (xs := xs) (cc := cc) (zz := zz) hm H2 A2 k242; rw [show facZ t n p = ((f : Nat) : Int) from (by unfold facZ; rw [hf])] at g9; exact g9) (fun v I3 hv => ?_)
                obtain ⟨rfl, g223, f3⟩ := hv
                have H3 := H2.fT f3.T
                have k243 : I3 s 24 = 0 := (f3 s 24 (fun _ => by decide)).trans k242
                have k233 := f3 s 23 (fun _ => by decide)
                have Y3 := Y2.fT f3.T
                have Z3 := Z2.fT f3.T
                refine w_isn l_192_43 ⟨Nat.le_of_ble_eq_true rfl, rfl⟩ ?_
                refine w_iln l_192_44 rfl ?_
                refine w_ic l_192_45 (by decide) ?_
                refine w_cne 59 l_192_46 (by decide) (fun _ => ?_) (fun hx => absurd hx (by omega))
                refine w_aln l_192_59 rfl ?_
                refine w_aln l_192_60 rfl ?_
                refine p_iv [] [vr s] l_192_61 rfl rfl (Nat.le_of_ble_eq_true rfl) (by rw [mx_177]; exact Nat.le_of_ble_eq_true rfl) (by rw [mt_177]; exact oModel_sh hm) (by rw [mt_177]; decide) (by rw [rk_177]; decide) (s_177A hm H3 (mAt.at g223 A.le A.id)) (fun v I4 hv => ?_)
                obtain ⟨rfl, g224, f4⟩ := hv
                have H4 := H3.fT f4.T
                have k244 : I4 s 24 = 0 := (f4 s 24 (fun _ => by decide)).trans k243
                have k234 := f4 s 23 (fun _ => by decide)
                have Y4 := Y3.fT f4.T
                have Z4 := Z3.fT f4.T
                have f4u := f4.T.up (v := ((wEnd t n p : Nat) : Int)) (Or.inl rfl)
                have A4 : mAt (up I4 s 22 ((wEnd t n p : Nat) : Int)) s t n (nxt t n p) := ⟨wEnd t n p, up_eq, wEnd_le A.le, (by unfold nxt; rw [wEnd_t1 hft])⟩
                refine w_pi l_192_64 (oModel_sh hm) ?_
                refine w_aln l_192_67 rfl ?_
                refine p_iv [] [] l_192_68 rfl rfl (Nat.le_of_ble_eq_true rfl) (by rw [mx_174]; exact Nat.le_of_ble_eq_true rfl) (by rw [mt_174]; exact oModel_sh hm) (by rw [mt_174]; decide) (by rw [rk_174]; decide) (by have g9 := s_174A (xs := xs) (cc := cc) (zz := zz) hm (H3.fT f4u) A4; rw [show ubA t n (nxt t n p) = 62 from hub] at g9; exact g9) (fun v I5 hv => ?_)
                obtain ⟨rfl, g225, f5⟩ := hv
                have H5 := (H3.fT f4u).fT f5.T
                have k245 : I5 s 24 = 0 := (f5 s 24 (fun _ => by decide)).trans ((up_nj (by decide)).trans k244)
                have k235 : I5 s 23 = I s 23 := (f5 s 23 (fun _ => by decide)).trans ((up_nj (by decide)).trans (k234.trans (k233.trans (k232.trans k231))))
                have Y5 := (Y3.fT f4u).fT f5.T
                have Z5 := (Z3.fT f4u).fT f5.T
                refine w_isn l_192_71 ⟨Nat.le_of_ble_eq_true rfl, rfl⟩ ?_
                refine w_iln l_192_72 rfl ?_
                refine w_bp l_192_73 (by decide) ?_
                refine w_ceq 100 l_192_75 (by decide) (fun hx => absurd hx (by decide)) (fun _ => ?_)
                refine w_iln l_192_78 rfl ?_
                refine w_bp l_192_79 (by decide) ?_
                refine w_ceq 100 l_192_81 (by decide) (fun hx => absurd hx (by decide)) (fun _ => ?_)
                refine w_iln l_192_84 rfl ?_
                refine w_bp l_192_85 (by decide) ?_
                refine w_ceq 100 l_192_87 (by decide) (fun _ => ?_) (fun hx => absurd hx (by decide))
                refine w_aln l_192_100 rfl ?_
                refine w_dup l_192_101 rfl ?_
                refine w_gi (((nxt t n p) : Nat) : Int) l_192_102 (oModel_sh hm) g225 ?_
                refine w_ic l_192_105 (by decide) ?_
                refine w_add (((nxt t n p + 1) : Nat) : Int) l_192_106 (by unfold wr; omega) ?_
                refine w_pi l_192_107 (oModel_sh hm) ?_
                refine w_aln l_192_110 rfl ?_
                refine w_ic l_192_111 (by decide) ?_
                refine w_sp l_192_112 (by decide) ?_
                refine p_iv [vi 0, vi 999] [] l_192_115 rfl rfl (Nat.le_of_ble_eq_true rfl) (by rw [mx_180]; exact Nat.le_of_ble_eq_true rfl) (by rw [mt_180]; exact oModel_sh hm) (by rw [mt_180]; decide) (by rw [rk_180]; decide) (by have g9 := s_180A (xs := xs) (cc := cc) (zz := zz) (lo := 0) (hi := 999) hm ((H3.fT f4u).fT (f5.T.up (v := ((nxt t n p + 1 : Nat) : Int)) (Or.inl rfl))) (show mAt (up I5 s 22 ((nxt t n p + 1 : Nat) : Int)) s t n (nxt t n (nxt t n p)) from ⟨nxt t n p + 1, up_eq, by omega, by rw [← hte5]; rfl⟩) ((up_nj (by decide)).trans k245); rw [hq6] at g9; exact g9) (fun v I6 hv => ?_)
                obtain ⟨_, f6, ⟨k246, k236⟩, rfl, A6⟩ := hv
                have Y6 := ((Y3.fT f4u).fT (f5.T.up (v := ((nxt t n p + 1 : Nat) : Int)) (Or.inl rfl))).fT f6
                have Z6 := ((Z3.fT f4u).fT (f5.T.up (v := ((nxt t n p + 1 : Nat) : Int)) (Or.inl rfl))).fT f6
                have A6 : mAt I6 s t n p3 := A6
                refine w_isn l_192_118 ⟨Nat.le_of_ble_eq_true rfl, rfl⟩ ?_
                refine w_aln l_192_119 rfl ?_
                refine w_iln l_192_120 rfl ?_
                refine w_bp l_192_121 (by decide) ?_
                refine w_cne 130 l_192_123 (by decide) (fun _ => ?_) (fun hx => absurd hx (by decide))
                refine w_iln l_192_130 rfl ?_
                refine w_bp l_192_131 (by decide) ?_
                refine w_cne 140 l_192_133 (by decide) (fun _ => ?_) (fun hx => absurd hx (by decide))
                refine w_ic l_192_140 (by decide) ?_
                refine w_iln l_192_141 rfl ?_
                refine w_iln l_192_142 rfl ?_
                refine q_iv [vi 3, vi ((v : Nat) : Int), vi ((f : Nat) : Int)] [] l_192_143 rfl rfl (Nat.le_of_ble_eq_true rfl) (by rw [mx_186]; exact Nat.le_of_ble_eq_true rfl) (by rw [mt_186]; exact oModel_sh hm) (by rw [mt_186]; decide) (by rw [rk_186]; decide) (s_186 hm (k := tot + C.length) Y6.1.2.2.2.2.2 (by omega)) ?_
                refine w_vr l_192_146 ?_
                have hR : leafR t n P p = .inr (p3, (3, v, f)) := by
                  rw [leafR_f hw6 hw7, hf]
                  show cmpR t n f (nxt t n p) = _
                  unfold cmpR
                  rw [if_pos (by rw [hs2]; simp), hq6]
                  simp only [hs0, hs2]
                  rfl
                refine ⟨_, _, rfl, rfl, rfl, (((((((((f1.tr f2).tr f3).T.tr f4u).tr (f5.T.up (v := ((nxt t n p + 1 : Nat) : Int)) (Or.inl rfl))).tr f6).C.up (Or.inr ⟨by omega, by omega⟩)).up (Or.inr ⟨by omega, by omega⟩)).up (Or.inr ⟨by omega, by omega⟩)).up (Or.inl ⟨rfl, by decide, by decide⟩)), ?_⟩
                rw [hR]
                refine ⟨⟨?_, ?_⟩, ?_, ?_, ?_⟩
                · repeat (rw [up_out (by omega)])
                  exact k246
                · repeat (rw [up_out (by omega)])
                  exact k236.trans ((up_nj (by decide)).trans k235)
                · obtain ⟨j9, a9, b9, c9⟩ := A6
                  refine ⟨j9, ?_, b9, c9⟩
                  repeat (rw [up_out (by omega)])
                  exact a9
                · refine ⟨?_, ?_, fun j hj => ?_⟩
                  · repeat (rw [up_out (by omega)])
                    exact Z6.1
                  · repeat (rw [up_out (by omega)])
                    exact Z6.2.1
                  · repeat (rw [up_out (by omega)])
                    exact Z6.2.2 j hj
                · exact Y6.emt (3, v, f)
            | false =>
              have hub0 : ubA t n (nxt t n p) ≠ 60 := fun q => by
                have g1 := isSg_iff.mpr ((ubA_c H (by decide)).mp q)
                rw [hs0] at g1; cases g1
              have hub1 : ubA t n (nxt t n p) ≠ 61 := fun q => by
                have g1 := isSg_iff.mpr ((ubA_c H (by decide)).mp q)
                rw [hs1] at g1; cases g1
              have hub2 : ubA t n (nxt t n p) ≠ 62 := fun q => by
                have g1 := isSg_iff.mpr ((ubA_c H (by decide)).mp q)
                rw [hs2] at g1; cases g1
              refine CL_start (r := 6) (ls := [vr s, vs 2, vs 2, vs 2]) (rk_192 _) rfl ?_
              refine w_aln l_192_0 rfl ?_
              refine w_ldc l_192_1 (by decide) ?_
              refine p_iv [vs (2 * 36 + 4)] [] l_192_3 rfl rfl (Nat.le_of_ble_eq_true rfl) (by rw [mx_179]; exact Nat.le_of_ble_eq_true rfl) (by rw [mt_179]; exact oModel_sh hm) (by rw [mt_179]; decide) (by rw [rk_179]; decide) (by have g9 := s_179A (xs := xs) (cc := cc) (zz := zz) hm H A h24 (q := 36) (by decide); rw [strB_same.2.1, hw7] at g9; exact g9) (fun v I1 hv => ?_)
              obtain ⟨rfl, A1, f1⟩ := hv
              have H1 := H.fT f1.T
              have A1 : mAt I1 s t n p := A1
              have k241 : I1 s 24 = 0 := (f1 s 24 (fun _ => by decide)).trans h24
              have k231 := f1 s 23 (fun _ => by decide)
              have Y1 := Y.fT f1.T
              have Z1 := Z.fT f1.T
              refine w_zeq 22 l_192_6 (by decide) (fun _ => ?_) (fun hx => absurd hx (by decide))
              refine w_aln l_192_22 rfl ?_
              refine w_ldc l_192_23 (by decide) ?_
              refine p_iv [vs (2 * 37 + 4)] [] l_192_25 rfl rfl (Nat.le_of_ble_eq_true rfl) (by rw [mx_179]; exact Nat.le_of_ble_eq_true rfl) (by rw [mt_179]; exact oModel_sh hm) (by rw [mt_179]; decide) (by rw [rk_179]; decide) (by have g9 := s_179A (xs := xs) (cc := cc) (zz := zz) hm H1 A1 k241 (q := 37) (by decide); rw [strB_same.2.2.1, hw6] at g9; exact g9) (fun v I2 hv => ?_)
              obtain ⟨rfl, A2, f2⟩ := hv
              have H2 := H1.fT f2.T
              have A2 : mAt I2 s t n p := A2
              have k242 : I2 s 24 = 0 := (f2 s 24 (fun _ => by decide)).trans k241
              have k232 := f2 s 23 (fun _ => by decide)
              have Y2 := Y1.fT f2.T
              have Z2 := Z1.fT f2.T
              refine w_zeq 39 l_192_28 (by decide) (fun _ => ?_) (fun hx => absurd hx (by decide))
              refine w_aln l_192_39 rfl ?_
              refine p_iv [] [] l_192_40 rfl rfl (Nat.le_of_ble_eq_true rfl) (by rw [mx_191]; exact Nat.le_of_ble_eq_true rfl) (by rw [mt_191]; exact oModel_sh hm) (by rw [mt_191]; decide) (by rw [rk_191]; decide) (by have g9 := s_191 (xs := xs) (cc := cc) (zz := zz) hm H2 A2 k242; rw [show facZ t n p = ((f : Nat) : Int) from (by unfold facZ; rw [hf])] at g9; exact g9) (fun v I3 hv => ?_)
              obtain ⟨rfl, g223, f3⟩ := hv
              have H3 := H2.fT f3.T
              have k243 : I3 s 24 = 0 := (f3 s 24 (fun _ => by decide)).trans k242
              have k233 := f3 s 23 (fun _ => by decide)
              have Y3 := Y2.fT f3.T
              have Z3 := Z2.fT f3.T
              refine w_isn l_192_43 ⟨Nat.le_of_ble_eq_true rfl, rfl⟩ ?_
              refine w_iln l_192_44 rfl ?_
              refine w_ic l_192_45 (by decide) ?_
              refine w_cne 59 l_192_46 (by decide) (fun _ => ?_) (fun hx => absurd hx (by omega))
              refine w_aln l_192_59 rfl ?_
              refine w_aln l_192_60 rfl ?_
              refine p_iv [] [vr s] l_192_61 rfl rfl (Nat.le_of_ble_eq_true rfl) (by rw [mx_177]; exact Nat.le_of_ble_eq_true rfl) (by rw [mt_177]; exact oModel_sh hm) (by rw [mt_177]; decide) (by rw [rk_177]; decide) (s_177A hm H3 (mAt.at g223 A.le A.id)) (fun v I4 hv => ?_)
              obtain ⟨rfl, g224, f4⟩ := hv
              have H4 := H3.fT f4.T
              have k244 : I4 s 24 = 0 := (f4 s 24 (fun _ => by decide)).trans k243
              have k234 := f4 s 23 (fun _ => by decide)
              have Y4 := Y3.fT f4.T
              have Z4 := Z3.fT f4.T
              have f4u := f4.T.up (v := ((wEnd t n p : Nat) : Int)) (Or.inl rfl)
              have A4 : mAt (up I4 s 22 ((wEnd t n p : Nat) : Int)) s t n (nxt t n p) := ⟨wEnd t n p, up_eq, wEnd_le A.le, (by unfold nxt; rw [wEnd_t1 hft])⟩
              refine w_pi l_192_64 (oModel_sh hm) ?_
              refine w_aln l_192_67 rfl ?_
              refine p_iv [] [] l_192_68 rfl rfl (Nat.le_of_ble_eq_true rfl) (by rw [mx_174]; exact Nat.le_of_ble_eq_true rfl) (by rw [mt_174]; exact oModel_sh hm) (by rw [mt_174]; decide) (by rw [rk_174]; decide) (s_174A hm (H3.fT f4u) A4) (fun v I5 hv => ?_)
              obtain ⟨rfl, g225, f5⟩ := hv
              have H5 := (H3.fT f4u).fT f5.T
              have k245 : I5 s 24 = 0 := (f5 s 24 (fun _ => by decide)).trans ((up_nj (by decide)).trans k244)
              have k235 : I5 s 23 = I s 23 := (f5 s 23 (fun _ => by decide)).trans ((up_nj (by decide)).trans (k234.trans (k233.trans (k232.trans k231))))
              have Y5 := (Y3.fT f4u).fT f5.T
              have Z5 := (Z3.fT f4u).fT f5.T
              refine w_isn l_192_71 ⟨Nat.le_of_ble_eq_true rfl, rfl⟩ ?_
              refine w_iln l_192_72 rfl ?_
              refine w_bp l_192_73 (by decide) ?_
              refine w_ceq 100 l_192_75 (by decide) (fun hx => absurd hx (by omega)) (fun _ => ?_)
              refine w_iln l_192_78 rfl ?_
              refine w_bp l_192_79 (by decide) ?_
              refine w_ceq 100 l_192_81 (by decide) (fun hx => absurd hx (by omega)) (fun _ => ?_)
              refine w_iln l_192_84 rfl ?_
              refine w_bp l_192_85 (by decide) ?_
              refine w_ceq 100 l_192_87 (by decide) (fun hx => absurd hx (by omega)) (fun _ => ?_)
              refine w_aln l_192_90 rfl ?_
              refine w_ic l_192_91 (by decide) ?_
              refine w_aln l_192_92 rfl ?_
              refine w_gi (((nxt t n p) : Nat) : Int) l_192_93 (oModel_sh hm) g225 ?_
              refine q_iv [vi 1, vi (((nxt t n p) : Nat) : Int)] [] l_192_96 rfl rfl (Nat.le_of_ble_eq_true rfl) (by rw [mx_176]; exact Nat.le_of_ble_eq_true rfl) (by rw [mt_176]; exact oModel_sh hm) (by rw [mt_176]; decide) (by rw [rk_176]; decide) (s_176 hm k245 (k := 1)) ?_
              refine w_vr l_192_99 ?_
              have hR : leafR t n P p = .inl (1, nxt t n p) := by
                rw [leafR_f hw6 hw7, hf]
                exact if_neg (by rw [hs0, hs1, hs2]; decide)
              exact ⟨_, _, rfl, rfl, rfl, (((((f1.tr f2).tr f3).T.tr f4u).tr f5.T).C.up (Or.inl ⟨rfl, by decide, by decide⟩)).up (Or.inl ⟨rfl, by decide, by decide⟩), by rw [hR]; exact ⟨Nat.le_refl 1, (up_nj (by decide)).trans up_eq, up_eq⟩⟩

end RGB
