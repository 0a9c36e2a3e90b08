/-! the reference's reader: closings, conditions -/
/-- piles as they can come about -/
def okK : List Nat → Prop
  | [] => True
  | x :: K => (x = 6 ∨ x = 7 ∨ x = 8 ∨ x = 9) ∧ (x = 7 → tp K ≠ 6 ∧ tp K ≠ 7) ∧ (x = 8 → tp K ≠ 6 ∧ tp K ≠ 7 ∧ tp K ≠ 8) ∧ okK K
theorem flu_inv {op : Nat} (h9 : op ≠ 9) (h0 : op ≠ 0) : ∀ K C, okK K → okK (flu op K C).1 ∧ kN (flu op K C).1 + (flu op K C).2.length = kN K + C.length ∧ kO (flu op K C).1 = kO K ∧ kW (flu op K C).1 ≤ kW K ∧ tp (flu op K C).1 ≠ op
  | [], C, h => ⟨trivial, rfl, rfl, Nat.le_refl _, fun e => h0 e.symm⟩
  | x :: K, C, h => by
    by_cases hx9 : x = op
    · have hf : flu op (x :: K) C = flu op K (C ++ [(op, 0, 0)]) := if_pos hx9
      rw [hf]
      have h1 := flu_inv h9 h0 K (C ++ [(op, 0, 0)]) h.2.2.2
      rw [List.length_append, List.length_singleton] at h1
      rw [kN_x (by omega), kO_x (by omega)]
      have h2 : kW K ≤ kW (x :: K) := by
        show kW K ≤ (if x = 6 ∨ x = 9 then 1 else 0) + kW K
        omega
      exact ⟨h1.1, by omega, h1.2.2.1, by omega, h1.2.2.2.2⟩
    · have hf : flu op (x :: K) C = (x :: K, C) := if_neg hx9
      rw [hf]
      exact ⟨h, rfl, rfl, Nat.le_refl _, hx9⟩
theorem flu7_tp {K : List Nat} {C : Cd} (h : okK K) (h6 : tp K ≠ 6) : tp (flu 7 K C).1 ≠ 6 := by
  cases K with
  | nil => exact h6
  | cons x K =>
    by_cases h7 : x = 7
    · have hf : flu 7 (x :: K) C = flu 7 K (C ++ [(7, 0, 0)]) := if_pos h7
      have h1 := h.2.1 h7
      rw [hf, flu_ne h1.2]
      exact h1.1
    · have hf : flu 7 (x :: K) C = (x :: K, C) := if_neg h7
      rw [hf]
      exact h6
theorem flu8_tp {K : List Nat} {C : Cd} (h : okK K) (h6 : tp K ≠ 6) (h7 : tp K ≠ 7) : tp (flu 8 K C).1 ≠ 6 ∧ tp (flu 8 K C).1 ≠ 7 := by
  cases K with
  | nil => exact ⟨h6, h7⟩
  | cons x K =>
    by_cases h8 : x = 8
    · have hf : flu 8 (x :: K) C = flu 8 K (C ++ [(8, 0, 0)]) := if_pos h8
      have h1 := h.2.2.1 h8
      rw [hf, flu_ne h1.2.2]
      exact ⟨h1.1, h1.2.1⟩
    · have hf : flu 8 (x :: K) C = (x :: K, C) := if_neg h8
      rw [hf]
      exact ⟨h6, h7⟩
theorem f78_inv {X : List Nat × Cd} (h : okK X.1) (h6 : tp X.1 ≠ 6) : okK (f78 X).1 ∧ kN (f78 X).1 + (f78 X).2.length = kN X.1 + X.2.length ∧ kO (f78 X).1 = kO X.1 ∧ kW (f78 X).1 ≤ kW X.1 ∧ tp (f78 X).1 ≠ 6 ∧ tp (f78 X).1 ≠ 7 ∧ tp (f78 X).1 ≠ 8 := by
  have h1 := flu_inv (op := 7) (by decide) (by decide) X.1 X.2 h
  have h2 := flu_inv (op := 8) (by decide) (by decide) (flu 7 X.1 X.2).1 (flu 7 X.1 X.2).2 h1.1
  have h3 := flu8_tp (C := (flu 7 X.1 X.2).2) h1.1 (flu7_tp h h6) h1.2.2.2.2
  exact ⟨h2.1, h2.2.1.trans h1.2.1, h2.2.2.1.trans h1.2.2.1, Nat.le_trans h2.2.2.2.1 h1.2.2.2.1, h3.1, h3.2, h2.2.2.2.2⟩
theorem okK_9 {K : List Nat} (h : okK K) (h6 : tp K ≠ 6) (h7 : tp K ≠ 7) (h8 : tp K ≠ 8) (hO : 0 < kO K) : ∃ K4, K = 9 :: K4 := by
  cases K with
  | nil => exact absurd hO (Nat.lt_irrefl 0)
  | cons x K =>
    refine ⟨K, ?_⟩
    rcases h.1 with e | e | e | e
    · exact absurd e h6
    · exact absurd e h7
    · exact absurd e h8
    · rw [e]
theorem phi.fl {tot p op : Nat} {K : List Nat} {C : Cd} (h : phi tot p K C) (h9 : op ≠ 9) (h0 : op ≠ 0) (hk : okK K) : phi tot p (flu op K C).1 (flu op K C).2 := by
  have h1 := flu_inv h9 h0 K C hk
  exact ⟨by have := h.1; omega, by have := h.2; omega⟩
theorem phi.mono {tot p q : Nat} {K : List Nat} {C : Cd} (h : phi tot p K C) (hq : p ≤ q) : phi tot q K C := ⟨by have := h.1; omega, h.2⟩
theorem clG_inv {t : Nat → Int} {n tot : Nat} : ∀ d p K C, kO K = d → okK K → phi tot p K C → okK (clG t n d p K C).2.1 ∧ phi tot (clG t n d p K C).1 (clG t n d p K C).2.1 (clG t n d p K C).2.2 ∧ tp (clG t n d p K C).2.1 ≠ 6
  | 0, p, K, C, hd, hk, hp => by
    have h1 := flu_inv (op := 6) (by decide) (by decide) K C hk
    exact ⟨h1.1, hp.fl (by decide) (by decide) hk, h1.2.2.2.2⟩
  | d + 1, p, K, C, hd, hk, hp => by
    have h1 := flu_inv (op := 6) (by decide) (by decide) K C hk
    unfold clG
    split
    · have h2 := f78_inv (X := flu 6 K C) h1.1 h1.2.2.2.2
      obtain ⟨K4, hK⟩ := okK_9 h2.1 h2.2.2.2.2.1 h2.2.2.2.2.2.1 h2.2.2.2.2.2.2 (by omega)
      rw [hK] at h2 ⊢
      rw [kN_9, kO_9, kW_9] at h2
      have hng := nxt_ge (t := t) (n := n) (p := p)
      have hp1 := hp.1
      have hp2 := hp.2
      exact clG_inv d (nxt t n p) K4 (f78 (flu 6 K C)).2 (by omega) h2.1.2.2.2 ⟨by omega, by omega⟩
    · exact ⟨h1.1, hp.fl (by decide) (by decide) hk, h1.2.2.2.2⟩
theorem opG_inv {t : Nat → Int} {n : Nat} : ∀ d p K a, okK K → opG t n d p K = .inr a → okK a.2
  | 0, p, K, a, hk, h => by cases h; exact hk
  | d + 1, p, K, a, hk, h => by
    unfold opG at h
    split at h
    · split at h
      · cases h
      · by_cases hw : isWL t n (strB 5) p = true
        · rw [if_pos hw] at h
          exact opG_inv d (nxt t n p) (6 :: K) a ⟨Or.inl rfl, fun e => absurd e (by decide), fun e => absurd e (by decide), hk⟩ h
        · rw [if_neg hw] at h
          exact opG_inv d (nxt t n p) (9 :: K) a ⟨Or.inr (Or.inr (Or.inr rfl)), fun e => absurd e (by decide), fun e => absurd e (by decide), hk⟩ h
    · cases h; exact hk
section RGC
variable {xs : List Int} {S : List (Nat × Nat)} {T : Nat → Nat → Nat} {cc zz s : Nat} {I I' : Ix} {t : Nat → Int} {n : Nat}

theorem s_188_6C (hm : oModel S T s) {P : Ps} {tot p : Nat} {K : List Nat} {C : Cd} (Z : mPi I s K) (Y : mSU I s P C tot) (hphi : phi tot p K C) (hp : p ≤ 600) : CL xs 188 [vr s, vi 6] (S, I, T, cc, zz) (RP S T cc zz (fun v I' => v = none ∧ mPi I' s (flu 6 K C).1 ∧ mSU I' s P (flu 6 K C).2 tot ∧ fQ I I' s)) := by
  obtain ⟨h1, h2⟩ := hphi
  have h3 := kNO K
  have h4 := kOD K
  refine CL_start (r := 1) (ls := [vr s, vi 6]) (rk_188 _) rfl ?_
  exact s_188_6 hm K C I Z Y (by omega) (by omega) (fQ.rf I s)

theorem s_188_7C (hm : oModel S T s) {P : Ps} {tot p : Nat} {K : List Nat} {C : Cd} (Z : mPi I s K) (Y : mSU I s P C tot) (hphi : phi tot p K C) (hp : p ≤ 600) : CL xs 188 [vr s, vi 7] (S, I, T, cc, zz) (RP S T cc zz (fun v I' => v = none ∧ mPi I' s (flu 7 K C).1 ∧ mSU I' s P (flu 7 K C).2 tot ∧ fQ I I' s)) := by
  obtain ⟨h1, h2⟩ := hphi
  have h3 := kNO K
  have h4 := kOD K
  refine CL_start (r := 1) (ls := [vr s, vi 7]) (rk_188 _) rfl ?_
  exact s_188_7 hm K C I Z Y (by omega) (by omega) (fQ.rf I s)

theorem s_188_8C (hm : oModel S T s) {P : Ps} {tot p : Nat} {K : List Nat} {C : Cd} (Z : mPi I s K) (Y : mSU I s P C tot) (hphi : phi tot p K C) (hp : p ≤ 600) : CL xs 188 [vr s, vi 8] (S, I, T, cc, zz) (RP S T cc zz (fun v I' => v = none ∧ mPi I' s (flu 8 K C).1 ∧ mSU I' s P (flu 8 K C).2 tot ∧ fQ I I' s)) := by
  obtain ⟨h1, h2⟩ := hphi
  have h3 := kNO K
  have h4 := kOD K
  refine CL_start (r := 1) (ls := [vr s, vi 8]) (rk_188 _) rfl ?_
  exact s_188_8 hm K C I Z Y (by omega) (by omega) (fQ.rf I s)

theorem mx_193 : mxl 193 = 1 := by decide +kernel
theorem mt_193 : mtc 193 = 10 := by decide +kernel
theorem rk_193 (as : List AV) : rkA 193 as = 2 := rfl
theorem l_193_0 : look 193 0 = some (.aload_n 0, 1, 0, 0, 0, 0) := by decide +kernel
theorem l_193_1 : look 193 1 = some (.bipush 6, 2, 0, 0, 0, 0) := by decide +kernel
theorem l_193_3 : look 193 3 = some (.invokevirtual 260, 3, 188, 2, 0, 1860) := by decide +kernel
theorem l_193_6 : look 193 6 = some (.aload_n 0, 1, 0, 0, 0, 0) := by decide +kernel
theorem l_193_7 : look 193 7 = some (.invokevirtual 182, 3, 175, 1, 0, 1750) := by decide +kernel
theorem l_193_10 : look 193 10 = some (.ifCond .ne 70, 3, 0, 0, 0, 0) := by decide +kernel
theorem l_193_13 : look 193 13 = some (.aload_n 0, 1, 0, 0, 0, 0) := by decide +kernel
theorem l_193_14 : look 193 14 = some (.invokevirtual 263, 3, 189, 1, 0, 1864) := by decide +kernel
theorem l_193_17 : look 193 17 = some (.ifCond .eq 63, 3, 0, 0, 0, 0) := by decide +kernel
theorem l_193_20 : look 193 20 = some (.aload_n 0, 1, 0, 0, 0, 0) := by decide +kernel
theorem l_193_21 : look 193 21 = some (.invokevirtual 171, 3, 174, 1, 0, 1754) := by decide +kernel
theorem l_193_24 : look 193 24 = some (.bipush 41, 2, 0, 0, 0, 0) := by decide +kernel
theorem l_193_26 : look 193 26 = some (.if_icmp .ne 54, 3, 0, 0, 0, 0) := by decide +kernel
theorem l_193_29 : look 193 29 = some (.aload_n 0, 1, 0, 0, 0, 0) := by decide +kernel
theorem l_193_30 : look 193 30 = some (.dup, 1, 0, 0, 0, 0) := by decide +kernel
theorem l_193_31 : look 193 31 = some (.getfield 161, 3, 10, 22, 0, 1523) := by decide +kernel
theorem l_193_34 : look 193 34 = some (.iconst 1, 1, 0, 0, 0, 0) := by decide +kernel
theorem l_193_35 : look 193 35 = some (.iadd, 1, 0, 0, 0, 0) := by decide +kernel
theorem l_193_36 : look 193 36 = some (.putfield 161, 3, 10, 22, 0, 1523) := by decide +kernel
theorem l_193_39 : look 193 39 = some (.aload_n 0, 1, 0, 0, 0, 0) := by decide +kernel
theorem l_193_40 : look 193 40 = some (.bipush 7, 2, 0, 0, 0, 0) := by decide +kernel
theorem l_193_42 : look 193 42 = some (.invokevirtual 260, 3, 188, 2, 0, 1860) := by decide +kernel
theorem l_193_45 : look 193 45 = some (.aload_n 0, 1, 0, 0, 0, 0) := by decide +kernel
theorem l_193_46 : look 193 46 = some (.bipush 8, 2, 0, 0, 0, 0) := by decide +kernel
theorem l_193_48 : look 193 48 = some (.invokevirtual 260, 3, 188, 2, 0, 1860) := by decide +kernel
theorem l_193_51 : look 193 51 = some (.aload_n 0, 1, 0, 0, 0, 0) := by decide +kernel
theorem l_193_52 : look 193 52 = some (.dup, 1, 0, 0, 0, 0) := by decide +kernel
theorem l_193_53 : look 193 53 = some (.getfield 227, 3, 10, 41, 0, 1542) := by decide +kernel
theorem l_193_56 : look 193 56 = some (.iconst 1, 1, 0, 0, 0, 0) := by decide +kernel
theorem l_193_57 : look 193 57 = some (.isub, 1, 0, 0, 0, 0) := by decide +kernel
theorem l_193_58 : look 193 58 = some (.putfield 227, 3, 10, 41, 0, 1542) := by decide +kernel
theorem l_193_61 : look 193 61 = some (.aload_n 0, 1, 0, 0, 0, 0) := by decide +kernel
theorem l_193_62 : look 193 62 = some (.dup, 1, 0, 0, 0, 0) := by decide +kernel
theorem l_193_63 : look 193 63 = some (.getfield 234, 3, 10, 42, 0, 1543) := by decide +kernel
theorem l_193_66 : look 193 66 = some (.iconst 1, 1, 0, 0, 0, 0) := by decide +kernel
theorem l_193_67 : look 193 67 = some (.isub, 1, 0, 0, 0, 0) := by decide +kernel
theorem l_193_68 : look 193 68 = some (.putfield 234, 3, 10, 42, 0, 1543) := by decide +kernel
theorem l_193_71 : look 193 71 = some (.aload_n 0, 1, 0, 0, 0, 0) := by decide +kernel
theorem l_193_72 : look 193 72 = some (.bipush 6, 2, 0, 0, 0, 0) := by decide +kernel
theorem l_193_74 : look 193 74 = some (.invokevirtual 260, 3, 188, 2, 0, 1860) := by decide +kernel
theorem l_193_77 : look 193 77 = some (.goto (-71), 3, 0, 0, 0, 0) := by decide +kernel
theorem l_193_80 : look 193 80 = some (.return_, 1, 0, 0, 0, 0) := by decide +kernel

theorem lp_193 {I0 : Ix} (hm : oModel S T s) {P : Ps} {tot : Nat} : ∀ d p K0 C0 J, kO K0 = d → okK K0 → phi tot p K0 C0 → mTx J s t n → mAt J s t n p → J s 24 = 0 → J s 23 = I0 s 23 → mPi J s (flu 6 K0 C0).1 → mSU J s P (flu 6 K0 C0).2 tot → fC I0 J s → WP xs 193 2 6 [vr s] [] (S, J, T, cc, zz) (RP S T cc zz (fun v I' => v = none ∧ fC I0 I' s ∧ I' s 24 = 0 ∧ I' s 23 = I0 s 23 ∧ mAt I' s t n (clG t n d p K0 C0).1 ∧ mPi I' s (clG t n d p K0 C0).2.1 ∧ mSU I' s P (clG t n d p K0 C0).2.2 tot)) := by
  intro d
  induction d with
  | zero =>
    intro p K0 C0 J hd hk hphi H A h24 h23 Z Y f
    have hi6 := flu_inv (op := 6) (by decide) (by decide) K0 C0 hk
    have hpn := A.le
    have h600 := H.2.1
    have hph1 := hphi.fl (op := 6) (by decide) (by decide) hk
    have hl3 : (flu 6 K0 C0).1.length ≤ 300 := by
      have g1 := kNO (flu 6 K0 C0).1
      have g2 := kOD (flu 6 K0 C0).1
      have g3 := hph1.1
      have g4 := hph1.2
      omega
    refine w_aln l_193_6 rfl ?_
    refine q_iv [] [] l_193_7 rfl rfl (Nat.le_of_ble_eq_true rfl) (by rw [mx_175]; exact Nat.le_of_ble_eq_true rfl) (by rw [mt_175]; exact oModel_sh hm) (by rw [mt_175]; decide) (by rw [rk_175]; decide) (s_175_0 hm h24) ?_
    refine w_zne 80 l_193_10 (by decide) (fun hx => absurd hx (by decide)) (fun _ => ?_)
    refine w_aln l_193_13 rfl ?_
    refine q_iv [] [] l_193_14 rfl rfl (Nat.le_of_ble_eq_true rfl) (by rw [mx_189]; exact Nat.le_of_ble_eq_true rfl) (by rw [mt_189]; exact oModel_sh hm) (by rw [mt_189]; decide) (by rw [rk_189]; decide) (by have g9 := s_189 (xs := xs) (cc := cc) (zz := zz) (T := T) hm Z hl3; rw [show decide (0 < kO (flu 6 K0 C0).1) = false from decide_eq_false (by omega)] at g9; exact g9) ?_
    refine w_zeq 80 l_193_17 (by decide) (fun _ => ?_) (fun hx => absurd hx (by decide))
    refine w_vr l_193_80 ?_
    exact ⟨_, _, rfl, rfl, rfl, f, h24, h23, A, Z, Y⟩
  | succ d ih =>
    intro p K0 C0 J hd hk hphi H A h24 h23 Z Y f
    have hi6 := flu_inv (op := 6) (by decide) (by decide) K0 C0 hk
    have hpn := A.le
    have h600 := H.2.1
    have hph1 := hphi.fl (op := 6) (by decide) (by decide) hk
    have hl3 : (flu 6 K0 C0).1.length ≤ 300 := by
      have g1 := kNO (flu 6 K0 C0).1
      have g2 := kOD (flu 6 K0 C0).1
      have g3 := hph1.1
      have g4 := hph1.2
      omega
    by_cases hs : isSg t n 41 p = true
    · have hub : ubA t n p = 41 := (ubA_c H (by decide)).mpr (isSg_iff.mp hs)
      have hpl := (isSg_iff.mp hs).1
      have hte : tEnd t n p = p + 1 := (isSg_3 (by decide) hs).2
      have hph2 := hph1.fl (op := 7) (by decide) (by decide) hi6.1
      have hi4 := f78_inv (X := flu 6 K0 C0) hi6.1 hi6.2.2.2.2
      have hng := nxt_ge (t := t) (n := n) (p := p)
      have hnl := nxt_le (t := t) hpn
      obtain ⟨K4, hK4⟩ := okK_9 hi4.1 hi4.2.2.2.2.1 hi4.2.2.2.2.2.1 hi4.2.2.2.2.2.2 (by omega)
      rw [hK4, kN_9, kO_9, kW_9] at hi4
      have hph4 : phi tot (nxt t n p) K4 (f78 (flu 6 K0 C0)).2 := ⟨by have := hph1.1; omega, by have := hph1.2; omega⟩
      have hl4 := kNO K4
      have hl5 := kOD K4
      have hl6 := hph4.1
      have hl7 := hph4.2
      refine w_aln l_193_6 rfl ?_
      refine q_iv [] [] l_193_7 rfl rfl (Nat.le_of_ble_eq_true rfl) (by rw [mx_175]; exact Nat.le_of_ble_eq_true rfl) (by rw [mt_175]; exact oModel_sh hm) (by rw [mt_175]; decide) (by rw [rk_175]; decide) (s_175_0 hm h24) ?_
      refine w_zne 80 l_193_10 (by decide) (fun hx => absurd hx (by decide)) (fun _ => ?_)
      refine w_aln l_193_13 rfl ?_
      refine q_iv [] [] l_193_14 rfl rfl (Nat.le_of_ble_eq_true rfl) (by rw [mx_189]; exact Nat.le_of_ble_eq_true rfl) (by rw [mt_189]; exact oModel_sh hm) (by rw [mt_189]; decide) (by rw [rk_189]; decide) (by have g9 := s_189 (xs := xs) (cc := cc) (zz := zz) (T := T) hm Z hl3; rw [show decide (0 < kO (flu 6 K0 C0).1) = true from decide_eq_true (by omega)] at g9; exact g9) ?_
      refine w_zeq 80 l_193_17 (by decide) (fun hx => absurd hx (by decide)) (fun _ => ?_)
      refine w_aln l_193_20 rfl ?_
      refine p_iv [] [] l_193_21 rfl rfl (Nat.le_of_ble_eq_true rfl) (by rw [mx_174]; exact Nat.le_of_ble_eq_true rfl) (by rw [mt_174]; exact oModel_sh hm) (by rw [mt_174]; decide) (by rw [rk_174]; decide) (by have g9 := s_174A (xs := xs) (cc := cc) (zz := zz) hm H A; rw [show ubA t n p = 41 from hub] at g9; exact g9) (fun v J1 hv => ?_)
      obtain ⟨rfl, g221, f1⟩ := hv
      have k241 : J1 s 24 = 0 := (f1 s 24 (fun _ => by decide)).trans h24
      have k231 : J1 s 23 = I0 s 23 := (f1 s 23 (fun _ => by decide)).trans h23
      have H1 := H.fT f1.T
      have Z1 := Z.fT f1.T
      have Y1 := Y.fT f1.T
      refine w_bp l_193_24 (by decide) ?_
      refine w_cne 80 l_193_26 (by decide) (fun hx => absurd hx (by decide)) (fun _ => ?_)
      refine w_aln l_193_29 rfl ?_
      refine w_dup l_193_30 rfl ?_
      refine w_gi ((p : Nat) : Int) l_193_31 (oModel_sh hm) g221 ?_
      refine w_ic l_193_34 (by decide) ?_
      refine w_add (((p + 1) : Nat) : Int) l_193_35 (by unfold wr; omega) ?_
      refine w_pi l_193_36 (oModel_sh hm) ?_
      refine w_aln l_193_39 rfl ?_
      refine w_bp l_193_40 (by decide) ?_
      refine p_iv [vi 7] [] l_193_42 rfl rfl (Nat.le_of_ble_eq_true rfl) (by rw [mx_188]; exact Nat.le_of_ble_eq_true rfl) (by rw [mt_188]; exact oModel_sh hm) (by rw [mt_188]; decide) (by rw [rk_188]; decide) (s_188_7C hm (Z.fT (f1.T.up (v := ((p + 1 : Nat) : Int)) (Or.inl rfl))) (Y.fT (f1.T.up (v := ((p + 1 : Nat) : Int)) (Or.inl rfl))) hph1 (by omega)) (fun v J2 hv => ?_)
      obtain ⟨rfl, Z2, Y2, f2⟩ := hv
      refine w_aln l_193_45 rfl ?_
      refine w_bp l_193_46 (by decide) ?_
      refine p_iv [vi 8] [] l_193_48 rfl rfl (Nat.le_of_ble_eq_true rfl) (by rw [mx_188]; exact Nat.le_of_ble_eq_true rfl) (by rw [mt_188]; exact oModel_sh hm) (by rw [mt_188]; decide) (by rw [rk_188]; decide) (s_188_8C hm Z2 Y2 hph2 (by omega)) (fun v J3 hv => ?_)
      obtain ⟨rfl, Z3, Y3, f3⟩ := hv
      have Z3 : mPi J3 s (f78 (flu 6 K0 C0)).1 := Z3
      have Y3 : mSU J3 s P (f78 (flu 6 K0 C0)).2 tot := Y3
      rw [hK4] at Z3
      refine w_aln l_193_51 rfl ?_
      refine w_dup l_193_52 rfl ?_
      refine w_gi (((K4.length + 1) : Nat) : Int) l_193_53 (oModel_sh hm) Z3.1 ?_
      refine w_ic l_193_56 (by decide) ?_
      refine w_sub ((K4.length : Nat) : Int) l_193_57 (by unfold wr; omega) ?_
      refine w_pi l_193_58 (oModel_sh hm) ?_
      refine w_aln l_193_61 rfl ?_
      refine w_dup l_193_62 rfl ?_
      refine w_gi (((kW (9 :: K4)) : Nat) : Int) l_193_63 (oModel_sh hm) ((up_nj (by omega)).trans (Z3.2.1)) ?_
      refine w_ic l_193_66 (by decide) ?_
      refine w_sub (((kW K4) : Nat) : Int) l_193_67 (by rw [kW_9]; unfold wr; omega) ?_
      refine w_pi l_193_68 (oModel_sh hm) ?_
      refine w_aln l_193_71 rfl ?_
      refine w_bp l_193_72 (by decide) ?_
      refine p_iv [vi 6] [] l_193_74 rfl rfl (Nat.le_of_ble_eq_true rfl) (by rw [mx_188]; exact Nat.le_of_ble_eq_true rfl) (by rw [mt_188]; exact oModel_sh hm) (by rw [mt_188]; decide) (by rw [rk_188]; decide) (s_188_6C hm (K := K4) (C := (f78 (flu 6 K0 C0)).2) (p := nxt t n p) ⟨by rw [up_nj (by decide)]; exact up_eq, up_eq, fun j hj => by
          rw [up_no (by omega), up_no (by omega), Z3.2.2 j (by rw [List.length_cons]; omega), show (9 :: K4).length - 1 - j = (K4.length - 1 - j) + 1 by rw [List.length_cons]; omega]
          rfl⟩ (Y3.eq (fun w h1 h2 => by repeat (rw [up_out (by omega)])) (fun j h1 h2 w => by repeat (rw [up_out (by omega)]))) hph4 (by omega)) (fun v J5 hv => ?_)
      obtain ⟨rfl, Z5, Y5, f5⟩ := hv
      refine w_go 6 l_193_77 (by decide) ?_
      have hR : clG t n (d + 1) p K0 C0 = clG t n d (nxt t n p) K4 (f78 (flu 6 K0 C0)).2 := by
        rw [clG, if_pos ⟨by omega, hs⟩, hK4]
        rfl
      rw [hR]
      have F5 : fQ J3 J5 s := (((fQ.rf J3 s).up (Or.inl ⟨rfl, Or.inr (Or.inl rfl)⟩)).up (Or.inl ⟨rfl, Or.inr (Or.inr rfl)⟩)).tr f5
      have F0 := (f2.tr f3).tr F5
      have H5 := (H.fT (f1.T.up (v := ((p + 1 : Nat) : Int)) (Or.inl rfl))).fQ F0
      refine ih (nxt t n p) K4 (f78 (flu 6 K0 C0)).2 J5 (by omega) hi4.1.2.2.2 hph4 H5 ?_ ?_ ?_ Z5 Y5 (f.tr ((f1.T.up (v := ((p + 1 : Nat) : Int)) (Or.inl rfl)).C.tr F0.C))
      · exact mAt.fQ (show mAt (up J1 s 22 ((p + 1 : Nat) : Int)) s t n (nxt t n p) from ⟨p + 1, up_eq, by omega, by rw [← hte]; rfl⟩) F0
      · exact (F0 s 24 (fun _ => by decide) (by omega) (by omega)).trans ((up_nj (by decide)).trans k241)
      · exact (F0 s 23 (fun _ => by decide) (by omega) (by omega)).trans ((up_nj (by decide)).trans k231)
    · have hub : ubA t n p ≠ 41 := fun q => hs (isSg_iff.mpr ((ubA_c H (by decide)).mp q))
      refine w_aln l_193_6 rfl ?_
      refine q_iv [] [] l_193_7 rfl rfl (Nat.le_of_ble_eq_true rfl) (by rw [mx_175]; exact Nat.le_of_ble_eq_true rfl) (by rw [mt_175]; exact oModel_sh hm) (by rw [mt_175]; decide) (by rw [rk_175]; decide) (s_175_0 hm h24) ?_
      refine w_zne 80 l_193_10 (by decide) (fun hx => absurd hx (by decide)) (fun _ => ?_)
      refine w_aln l_193_13 rfl ?_
      refine q_iv [] [] l_193_14 rfl rfl (Nat.le_of_ble_eq_true rfl) (by rw [mx_189]; exact Nat.le_of_ble_eq_true rfl) (by rw [mt_189]; exact oModel_sh hm) (by rw [mt_189]; decide) (by rw [rk_189]; decide) (by have g9 := s_189 (xs := xs) (cc := cc) (zz := zz) (T := T) hm Z hl3; rw [show decide (0 < kO (flu 6 K0 C0).1) = true from decide_eq_true (by omega)] at g9; exact g9) ?_
      refine w_zeq 80 l_193_17 (by decide) (fun hx => absurd hx (by decide)) (fun _ => ?_)
      refine w_aln l_193_20 rfl ?_
      refine p_iv [] [] l_193_21 rfl rfl (Nat.le_of_ble_eq_true rfl) (by rw [mx_174]; exact Nat.le_of_ble_eq_true rfl) (by rw [mt_174]; exact oModel_sh hm) (by rw [mt_174]; decide) (by rw [rk_174]; decide) (s_174A hm H A) (fun v J1 hv => ?_)
      obtain ⟨rfl, g221, f1⟩ := hv
      have k241 : J1 s 24 = 0 := (f1 s 24 (fun _ => by decide)).trans h24
      have k231 : J1 s 23 = I0 s 23 := (f1 s 23 (fun _ => by decide)).trans h23
      have H1 := H.fT f1.T
      have Z1 := Z.fT f1.T
      have Y1 := Y.fT f1.T
      refine w_bp l_193_24 (by decide) ?_
      refine w_cne 80 l_193_26 (by decide) (fun _ => ?_) (fun hx => absurd hx (by omega))
      refine w_vr l_193_80 ?_
      have hR : clG t n (d + 1) p K0 C0 = (p, flu 6 K0 C0) := if_neg (fun q => hs q.2)
      rw [hR]
      exact ⟨_, _, rfl, rfl, rfl, f.tr f1.T.C, k241, k231, mAt.at g221 A.le A.id, Z1, Y1⟩

theorem s_193 (hm : oModel S T s) {P : Ps} {tot p : Nat} {C : Cd} {K : List Nat} (hk : okK K) (H : mTx I s t n) (A : mAt I s t n p) (h24 : I s 24 = 0) (Z : mPi I s K) (Y : mSU I s P C tot) (hphi : phi tot p K C) : CL xs 193 [vr s] (S, I, T, cc, zz) (RP S T cc zz (fun v I' => v = none ∧ fC I I' s ∧ I' s 24 = 0 ∧ I' s 23 = I s 23 ∧ mAt I' s t n (clG t n (kO K) p K C).1 ∧ mPi I' s (clG t n (kO K) p K C).2.1 ∧ mSU I' s P (clG t n (kO K) p K C).2.2 tot)) := by
  have hpn := A.le
  have h600 := H.2.1
  refine CL_start (r := 2) (ls := [vr s]) (rk_193 _) rfl ?_
  refine w_aln l_193_0 rfl ?_
  refine w_bp l_193_1 (by decide) ?_
  refine p_iv [vi 6] [] l_193_3 rfl rfl (Nat.le_of_ble_eq_true rfl) (by rw [mx_188]; exact Nat.le_of_ble_eq_true rfl) (by rw [mt_188]; exact oModel_sh hm) (by rw [mt_188]; decide) (by rw [rk_188]; decide) (s_188_6C hm Z Y hphi (by omega)) (fun v I1 hv => ?_)
  obtain ⟨rfl, Z1, Y1, f1⟩ := hv
  exact lp_193 (I0 := I) hm (kO K) p K C I1 rfl hk hphi (H.fQ f1) (A.fQ f1) ((f1 s 24 (fun _ => by decide) (by omega) (by omega)).trans h24) (f1 s 23 (fun _ => by decide) (by omega) (by omega)) Z1 Y1 f1.C

end RGC
