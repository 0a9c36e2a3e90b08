/-! the reference's reader: conditions -/
theorem opG_phi {t : Nat → Int} {n tot : Nat} {C : Cd} : ∀ d p K a, phi tot p K C → opG t n d p K = .inr a → phi tot a.1 a.2 C
  | 0, p, K, a, hp, h => by cases h; exact hp
  | d + 1, p, K, a, hp, h => by
    unfold opG at h
    split at h
    · rename_i hn
      split at h
      · cases h
      · rename_i h5
        have hgt := nxt_gt (t := t) (isNest_lt hn)
        have hp1 := hp.1
        have hp2 := hp.2
        by_cases hw : isWL t n (strB 5) p = true
        · rw [if_pos hw] at h
          have hnx := (isWL_nx (by decide) hw).1
          exact opG_phi d (nxt t n p) (6 :: K) a ⟨by rw [kN_x (by decide), kO_x (by decide)]; omega, by rw [kW_6]; omega⟩ h
        · rw [if_neg hw] at h
          exact opG_phi d (nxt t n p) (9 :: K) a ⟨by rw [kN_9, kO_9]; omega, by rw [kW_9]; omega⟩ h
    · cases h; exact hp
section RGD
variable {xs : List Int} {S : List (Nat × Nat)} {T : Nat → Nat → Nat} {cc zz s : Nat} {I I' : Ix} {t : Nat → Int} {n : Nat}
theorem s_179T (hm : oModel S T s) (H : mTx I s t n) {p : Nat} (A : mAt I s t n p) (h24 : I s 24 = 0) {q : Nat} (hq53 : q < 53) (hw : isWL t n (strB q) p = true) : CL xs 179 [vr s, vs (2 * q + 4)] (S, I, T, cc, zz) (RP S T cc zz (fun v I' => v = some (vi 1) ∧ mAt I' s t n (nxt t n p) ∧ f22 I I' s)) := by
  have g9 := s_179A (xs := xs) (cc := cc) (zz := zz) hm H A h24 hq53
  rw [hw] at g9
  exact g9
theorem s_179F (hm : oModel S T s) (H : mTx I s t n) {p : Nat} (A : mAt I s t n p) (h24 : I s 24 = 0) {q : Nat} (hq53 : q < 53) (hw : isWL t n (strB q) p = false) : CL xs 179 [vr s, vs (2 * q + 4)] (S, I, T, cc, zz) (RP S T cc zz (fun v I' => v = some (vi 0) ∧ I' s 22 = ((p : Nat) : Int) ∧ f22 I I' s)) := by
  obtain ⟨i, h22, hi, rfl⟩ := A
  have g9 := s_179 (xs := xs) (cc := cc) (zz := zz) hm H h22 hi h24 hq53
  rw [hw] at g9
  exact g9

theorem mx_194 : mxl 194 = 4 := by decide +kernel
theorem mt_194 : mtc 194 = 10 := by decide +kernel
theorem rk_194 (as : List AV) : rkA 194 as = 7 := rfl
theorem l_194_0 : look 194 0 = some (.aload_n 0, 1, 0, 0, 0, 0) := by decide +kernel
theorem l_194_1 : look 194 1 = some (.iconst 0, 1, 0, 0, 0, 0) := by decide +kernel
theorem l_194_2 : look 194 2 = some (.putfield 227, 3, 10, 41, 0, 1542) := by decide +kernel
theorem l_194_5 : look 194 5 = some (.aload_n 0, 1, 0, 0, 0, 0) := by decide +kernel
theorem l_194_6 : look 194 6 = some (.iconst 0, 1, 0, 0, 0, 0) := by decide +kernel
theorem l_194_7 : look 194 7 = some (.putfield 234, 3, 10, 42, 0, 1543) := by decide +kernel
theorem l_194_10 : look 194 10 = some (.iconst 1, 1, 0, 0, 0, 0) := by decide +kernel
theorem l_194_11 : look 194 11 = some (.istore_n 1, 1, 0, 0, 0, 0) := by decide +kernel
theorem l_194_12 : look 194 12 = some (.iload_n 1, 1, 0, 0, 0, 0) := by decide +kernel
theorem l_194_13 : look 194 13 = some (.ifCond .eq 117, 3, 0, 0, 0, 0) := by decide +kernel
theorem l_194_16 : look 194 16 = some (.aload_n 0, 1, 0, 0, 0, 0) := by decide +kernel
theorem l_194_17 : look 194 17 = some (.invokevirtual 182, 3, 175, 1, 0, 1750) := by decide +kernel
theorem l_194_20 : look 194 20 = some (.ifCond .ne 110, 3, 0, 0, 0, 0) := by decide +kernel
theorem l_194_23 : look 194 23 = some (.aload_n 0, 1, 0, 0, 0, 0) := by decide +kernel
theorem l_194_24 : look 194 24 = some (.invokevirtual 266, 3, 190, 1, 0, 1829) := by decide +kernel
theorem l_194_27 : look 194 27 = some (.aload_n 0, 1, 0, 0, 0, 0) := by decide +kernel
theorem l_194_28 : look 194 28 = some (.invokevirtual 182, 3, 175, 1, 0, 1750) := by decide +kernel
theorem l_194_31 : look 194 31 = some (.ifCond .ne 7, 3, 0, 0, 0, 0) := by decide +kernel
theorem l_194_34 : look 194 34 = some (.aload_n 0, 1, 0, 0, 0, 0) := by decide +kernel
theorem l_194_35 : look 194 35 = some (.invokevirtual 269, 3, 192, 1, 0, 1838) := by decide +kernel
theorem l_194_38 : look 194 38 = some (.aload_n 0, 1, 0, 0, 0, 0) := by decide +kernel
theorem l_194_39 : look 194 39 = some (.invokevirtual 182, 3, 175, 1, 0, 1750) := by decide +kernel
theorem l_194_42 : look 194 42 = some (.ifCond .eq 4, 3, 0, 0, 0, 0) := by decide +kernel
theorem l_194_45 : look 194 45 = some (.return_, 1, 0, 0, 0, 0) := by decide +kernel
theorem l_194_46 : look 194 46 = some (.aload_n 0, 1, 0, 0, 0, 0) := by decide +kernel
theorem l_194_47 : look 194 47 = some (.invokevirtual 272, 3, 193, 1, 0, 1856) := by decide +kernel
theorem l_194_50 : look 194 50 = some (.aload_n 0, 1, 0, 0, 0, 0) := by decide +kernel
theorem l_194_51 : look 194 51 = some (.ldc_w 275, 3, 42, 0, 0, 1868) := by decide +kernel
theorem l_194_54 : look 194 54 = some (.invokevirtual 252, 3, 179, 2, 0, 1786) := by decide +kernel
theorem l_194_57 : look 194 57 = some (.istore_n 2, 1, 0, 0, 0, 0) := by decide +kernel
theorem l_194_58 : look 194 58 = some (.iload_n 2, 1, 0, 0, 0, 0) := by decide +kernel
theorem l_194_59 : look 194 59 = some (.ifCond .ne 17, 3, 0, 0, 0, 0) := by decide +kernel
theorem l_194_62 : look 194 62 = some (.aload_n 0, 1, 0, 0, 0, 0) := by decide +kernel
theorem l_194_63 : look 194 63 = some (.ldc_w 277, 3, 43, 0, 0, 1869) := by decide +kernel
theorem l_194_66 : look 194 66 = some (.invokevirtual 252, 3, 179, 2, 0, 1786) := by decide +kernel
theorem l_194_69 : look 194 69 = some (.ifCond .eq 7, 3, 0, 0, 0, 0) := by decide +kernel
theorem l_194_72 : look 194 72 = some (.iconst 1, 1, 0, 0, 0, 0) := by decide +kernel
theorem l_194_73 : look 194 73 = some (.goto 4, 3, 0, 0, 0, 0) := by decide +kernel
theorem l_194_76 : look 194 76 = some (.iconst 0, 1, 0, 0, 0, 0) := by decide +kernel
theorem l_194_77 : look 194 77 = some (.istore_n 3, 1, 0, 0, 0, 0) := by decide +kernel
theorem l_194_78 : look 194 78 = some (.iload_n 2, 1, 0, 0, 0, 0) := by decide +kernel
theorem l_194_79 : look 194 79 = some (.ifCond .ne 7, 3, 0, 0, 0, 0) := by decide +kernel
theorem l_194_82 : look 194 82 = some (.iload_n 3, 1, 0, 0, 0, 0) := by decide +kernel
theorem l_194_83 : look 194 83 = some (.ifCond .eq 7, 3, 0, 0, 0, 0) := by decide +kernel
theorem l_194_86 : look 194 86 = some (.iconst 1, 1, 0, 0, 0, 0) := by decide +kernel
theorem l_194_87 : look 194 87 = some (.goto 4, 3, 0, 0, 0, 0) := by decide +kernel
theorem l_194_90 : look 194 90 = some (.iconst 0, 1, 0, 0, 0, 0) := by decide +kernel
theorem l_194_91 : look 194 91 = some (.istore_n 1, 1, 0, 0, 0, 0) := by decide +kernel
theorem l_194_92 : look 194 92 = some (.iload_n 1, 1, 0, 0, 0, 0) := by decide +kernel
theorem l_194_93 : look 194 93 = some (.ifCond .eq 34, 3, 0, 0, 0, 0) := by decide +kernel
theorem l_194_96 : look 194 96 = some (.aload_n 0, 1, 0, 0, 0, 0) := by decide +kernel
theorem l_194_97 : look 194 97 = some (.bipush 7, 2, 0, 0, 0, 0) := by decide +kernel
theorem l_194_99 : look 194 99 = some (.invokevirtual 260, 3, 188, 2, 0, 1860) := by decide +kernel
theorem l_194_102 : look 194 102 = some (.iload_n 3, 1, 0, 0, 0, 0) := by decide +kernel
theorem l_194_103 : look 194 103 = some (.ifCond .eq 9, 3, 0, 0, 0, 0) := by decide +kernel
theorem l_194_106 : look 194 106 = some (.aload_n 0, 1, 0, 0, 0, 0) := by decide +kernel
theorem l_194_107 : look 194 107 = some (.bipush 8, 2, 0, 0, 0, 0) := by decide +kernel
theorem l_194_109 : look 194 109 = some (.invokevirtual 260, 3, 188, 2, 0, 1860) := by decide +kernel
theorem l_194_112 : look 194 112 = some (.aload_n 0, 1, 0, 0, 0, 0) := by decide +kernel
theorem l_194_113 : look 194 113 = some (.iload_n 2, 1, 0, 0, 0, 0) := by decide +kernel
theorem l_194_114 : look 194 114 = some (.ifCond .eq 8, 3, 0, 0, 0, 0) := by decide +kernel
theorem l_194_117 : look 194 117 = some (.bipush 7, 2, 0, 0, 0, 0) := by decide +kernel
theorem l_194_119 : look 194 119 = some (.goto 5, 3, 0, 0, 0, 0) := by decide +kernel
theorem l_194_122 : look 194 122 = some (.bipush 8, 2, 0, 0, 0, 0) := by decide +kernel
theorem l_194_124 : look 194 124 = some (.invokevirtual 239, 3, 187, 2, 0, 1834) := by decide +kernel
theorem l_194_127 : look 194 127 = some (.goto (-115), 3, 0, 0, 0, 0) := by decide +kernel
theorem l_194_130 : look 194 130 = some (.aload_n 0, 1, 0, 0, 0, 0) := by decide +kernel
theorem l_194_131 : look 194 131 = some (.invokevirtual 263, 3, 189, 1, 0, 1864) := by decide +kernel
theorem l_194_134 : look 194 134 = some (.ifCond .eq 12, 3, 0, 0, 0, 0) := by decide +kernel
theorem l_194_137 : look 194 137 = some (.aload_n 0, 1, 0, 0, 0, 0) := by decide +kernel
theorem l_194_138 : look 194 138 = some (.iconst 1, 1, 0, 0, 0, 0) := by decide +kernel
theorem l_194_139 : look 194 139 = some (.aload_n 0, 1, 0, 0, 0, 0) := by decide +kernel
theorem l_194_140 : look 194 140 = some (.getfield 161, 3, 10, 22, 0, 1523) := by decide +kernel
theorem l_194_143 : look 194 143 = some (.invokevirtual 198, 3, 176, 3, 0, 1782) := by decide +kernel
theorem l_194_146 : look 194 146 = some (.aload_n 0, 1, 0, 0, 0, 0) := by decide +kernel
theorem l_194_147 : look 194 147 = some (.bipush 7, 2, 0, 0, 0, 0) := by decide +kernel
theorem l_194_149 : look 194 149 = some (.invokevirtual 260, 3, 188, 2, 0, 1860) := by decide +kernel
theorem l_194_152 : look 194 152 = some (.aload_n 0, 1, 0, 0, 0, 0) := by decide +kernel
theorem l_194_153 : look 194 153 = some (.bipush 8, 2, 0, 0, 0, 0) := by decide +kernel
theorem l_194_155 : look 194 155 = some (.invokevirtual 260, 3, 188, 2, 0, 1860) := by decide +kernel
theorem l_194_158 : look 194 158 = some (.return_, 1, 0, 0, 0, 0) := by decide +kernel

theorem okK_7 {K : List Nat} (h : okK K) (h6 : tp K ≠ 6) (h7 : tp K ≠ 7) : okK (7 :: K) := ⟨Or.inr (Or.inl rfl), fun _ => ⟨h6, h7⟩, fun e => absurd e (by decide), h⟩
theorem okK_8 {K : List Nat} (h : okK K) (h6 : tp K ≠ 6) (h7 : tp K ≠ 7) (h8 : tp K ≠ 8) : okK (8 :: K) := ⟨Or.inr (Or.inr (Or.inl rfl)), fun e => absurd e (by decide), fun _ => ⟨h6, h7, h8⟩, h⟩
theorem lp_194 {I0 : Ix} (hm : oModel S T s) {P : Ps} {tot : Nat} : ∀ d p K C x2 x3 J, n + 1 ≤ p + d → okK K → phi tot p K C → mTx J s t n → mAt J s t n p → J s 24 = 0 → J s 23 = I0 s 23 → mPi J s K → mSU J s P C tot → fC I0 J s → WP xs 194 7 12 [vr s, vi 1, x2, x3] [] (S, J, T, cc, zz) (RP S T cc zz (fun v I' => v = none ∧ fC I0 I' s ∧ mRO I0 s I' (cdG t n P d p K C) (fun a => mAt I' s t n a.1 ∧ mSU I' s P a.2 tot))) := by
  intro d
  induction d with
  | zero =>
    intro p K C x2 x3 J hd hk hphi H A
    have := A.le
    omega
  | succ d ih =>
    intro p K C x2 x3 J hd hk hphi H A h24 h23 Z Y f
    have hpn := A.le
    have h600 := H.2.1
    have h4 := Y.2.2.1.1.1
    cases ho : opG t n (6 - kW K) p K with
    | inl e9 =>
      refine w_iln l_194_12 rfl ?_
      refine w_zeq 130 l_194_13 (by decide) (fun hx => absurd hx (by decide)) (fun _ => ?_)
      refine w_aln l_194_16 rfl ?_
      refine q_iv [] [] l_194_17 rfl rfl (Nat.le_of_ble_eq_true rfl) (by rw [mx_175]; exact Nat.le_of_ble_eq_true rfl) (by rw [mt_175]; exact oModel_sh hm) (by rw [mt_175]; decide) (by rw [rk_175]; decide) (s_175_0 hm h24) ?_
      refine w_zne 130 l_194_20 (by decide) (fun hx => absurd hx (by decide)) (fun _ => ?_)
      refine w_aln l_194_23 rfl ?_
      refine p_iv [] [] l_194_24 rfl rfl (Nat.le_of_ble_eq_true rfl) (by rw [mx_190]; exact Nat.le_of_ble_eq_true rfl) (by rw [mt_190]; exact oModel_sh hm) (by rw [mt_190]; decide) (by rw [rk_190]; decide) (by have g9 := s_190 (xs := xs) (cc := cc) (zz := zz) hm H A h24 Z Y hphi; rw [ho] at g9; exact g9) (fun v J1 hv => ?_)
      obtain ⟨rfl, f1, he, e24, e23⟩ := hv
      refine w_aln l_194_27 rfl ?_
      refine q_iv [] [] l_194_28 rfl rfl (Nat.le_of_ble_eq_true rfl) (by rw [mx_175]; exact Nat.le_of_ble_eq_true rfl) (by rw [mt_175]; exact oModel_sh hm) (by rw [mt_175]; decide) (by rw [rk_175]; decide) (s_175_1 (k := ((e9.1 : Nat) : Int)) hm e24 (by omega)) ?_
      refine w_zne 38 l_194_31 (by decide) (fun _ => ?_) (fun hx => absurd hx (by decide))
      refine w_aln l_194_38 rfl ?_
      refine q_iv [] [] l_194_39 rfl rfl (Nat.le_of_ble_eq_true rfl) (by rw [mx_175]; exact Nat.le_of_ble_eq_true rfl) (by rw [mt_175]; exact oModel_sh hm) (by rw [mt_175]; decide) (by rw [rk_175]; decide) (s_175_1 (k := ((e9.1 : Nat) : Int)) hm e24 (by omega)) ?_
      refine w_zeq 46 l_194_42 (by decide) (fun hx => absurd hx (by decide)) (fun _ => ?_)
      refine w_vr l_194_45 ?_
      have hR : cdG t n P (d + 1) p K C = .inl e9 := by
        rw [cdG, ho]
      exact ⟨_, _, rfl, rfl, rfl, f.tr f1, by rw [hR]; exact ⟨he, e24, e23⟩⟩
    | inr a1 =>
      obtain ⟨p1, K1⟩ := a1
      have hk1 : okK K1 := opG_inv _ _ _ _ hk ho
      have hpo := opG_ok _ _ _ _ hpn ho
      have hpo1 : p ≤ p1 := hpo.1
      have hpo2 : p1 ≤ n := hpo.2
      cases hl : leafR t n P p1 with
      | inl e9 =>
        refine w_iln l_194_12 rfl ?_
        refine w_zeq 130 l_194_13 (by decide) (fun hx => absurd hx (by decide)) (fun _ => ?_)
        refine w_aln l_194_16 rfl ?_
        refine q_iv [] [] l_194_17 rfl rfl (Nat.le_of_ble_eq_true rfl) (by rw [mx_175]; exact Nat.le_of_ble_eq_true rfl) (by rw [mt_175]; exact oModel_sh hm) (by rw [mt_175]; decide) (by rw [rk_175]; decide) (s_175_0 hm h24) ?_
        refine w_zne 130 l_194_20 (by decide) (fun hx => absurd hx (by decide)) (fun _ => ?_)
        refine w_aln l_194_23 rfl ?_
        refine p_iv [] [] l_194_24 rfl rfl (Nat.le_of_ble_eq_true rfl) (by rw [mx_190]; exact Nat.le_of_ble_eq_true rfl) (by rw [mt_190]; exact oModel_sh hm) (by rw [mt_190]; decide) (by rw [rk_190]; decide) (by have g9 := s_190 (xs := xs) (cc := cc) (zz := zz) hm H A h24 Z Y hphi; rw [ho] at g9; exact g9) (fun v J1 hv => ?_)
        obtain ⟨rfl, f1, ⟨k241, k231⟩, A1, Z1, Y1, hph1⟩ := hv
        have A1 : mAt J1 s t n p1 := A1
        have Z1 : mPi J1 s K1 := Z1
        have hph1 : phi tot p1 K1 C := hph1
        refine w_aln l_194_27 rfl ?_
        refine q_iv [] [] l_194_28 rfl rfl (Nat.le_of_ble_eq_true rfl) (by rw [mx_175]; exact Nat.le_of_ble_eq_true rfl) (by rw [mt_175]; exact oModel_sh hm) (by rw [mt_175]; decide) (by rw [rk_175]; decide) (s_175_0 hm k241) ?_
        refine w_zne 38 l_194_31 (by decide) (fun hx => absurd hx (by decide)) (fun _ => ?_)
        refine w_aln l_194_34 rfl ?_
        refine p_iv [] [] l_194_35 rfl rfl (Nat.le_of_ble_eq_true rfl) (by rw [mx_192]; exact Nat.le_of_ble_eq_true rfl) (by rw [mt_192]; exact oModel_sh hm) (by rw [mt_192]; decide) (by rw [rk_192]; decide) (by have g9 := s_192 (xs := xs) (cc := cc) (zz := zz) hm (H.fC f1) A1 k241 Z1 Y1 hph1; rw [hl] at g9; exact g9) (fun v J2 hv => ?_)
        obtain ⟨rfl, f2, he, e24, e23⟩ := hv
        refine w_aln l_194_38 rfl ?_
        refine q_iv [] [] l_194_39 rfl rfl (Nat.le_of_ble_eq_true rfl) (by rw [mx_175]; exact Nat.le_of_ble_eq_true rfl) (by rw [mt_175]; exact oModel_sh hm) (by rw [mt_175]; decide) (by rw [rk_175]; decide) (s_175_1 (k := ((e9.1 : Nat) : Int)) hm e24 (by omega)) ?_
        refine w_zeq 46 l_194_42 (by decide) (fun hx => absurd hx (by decide)) (fun _ => ?_)
        refine w_vr l_194_45 ?_
        have hR : cdG t n P (d + 1) p K C = .inl e9 := by
          rw [cdG, ho]
          simp only []
          rw [hl]
        exact ⟨_, _, rfl, rfl, rfl, f.tr (f1.tr f2), by rw [hR]; exact ⟨he, e24, e23⟩⟩
      | inr a2 =>
        obtain ⟨p2, c⟩ := a2
        have hle := leafR_ok hpo2 h4 hl
        have hle1 : p1 + 2 ≤ p2 := hle.1
        have hle2 : p2 ≤ n := hle.2.1
        have hphK : phi tot p1 K1 C → phi tot p2 K1 (C ++ [c]) := fun hq => ⟨by have := hq.1; rw [List.length_append, List.length_singleton]; omega, hq.2⟩
        have hph2 := hphK (opG_phi _ _ _ _ hphi ho)
        · have hcl := clG_ok (t := t) (kO K1) p2 K1 (C ++ [c]) hle2
          have hinv := clG_inv (t := t) (n := n) (kO K1) p2 K1 (C ++ [c]) rfl hk1 hph2
          generalize hX : clG t n (kO K1) p2 K1 (C ++ [c]) = X at hcl hinv
          have hxl := kNO X.2.1
          have hxo := kOD X.2.1
          have hxp := hinv.2.1.1
          have hxq := hinv.2.1.2
          cases hw12 : isWL t n (strB 12) X.1 with
          | true =>
            have hnx := isWL_nx (by decide) hw12
            have hnl := nxt_le (t := t) hcl.2
            have hi7 := flu_inv (op := 7) (by decide) (by decide) X.2.1 X.2.2 hinv.1
            have hkl := kNO (flu 7 X.2.1 X.2.2).1
            have hko := kOD (flu 7 X.2.1 X.2.2).1
            refine w_iln l_194_12 rfl ?_
            refine w_zeq 130 l_194_13 (by decide) (fun hx => absurd hx (by decide)) (fun _ => ?_)
            refine w_aln l_194_16 rfl ?_
            refine q_iv [] [] l_194_17 rfl rfl (Nat.le_of_ble_eq_true rfl) (by rw [mx_175]; exact Nat.le_of_ble_eq_true rfl) (by rw [mt_175]; exact oModel_sh hm) (by rw [mt_175]; decide) (by rw [rk_175]; decide) (s_175_0 hm h24) ?_
            refine w_zne 130 l_194_20 (by decide) (fun hx => absurd hx (by decide)) (fun _ => ?_)
            refine w_aln l_194_23 rfl ?_
            refine p_iv [] [] l_194_24 rfl rfl (Nat.le_of_ble_eq_true rfl) (by rw [mx_190]; exact Nat.le_of_ble_eq_true rfl) (by rw [mt_190]; exact oModel_sh hm) (by rw [mt_190]; decide) (by rw [rk_190]; decide) (by have g9 := s_190 (xs := xs) (cc := cc) (zz := zz) hm H A h24 Z Y hphi; rw [ho] at g9; exact g9) (fun v J1 hv => ?_)
            obtain ⟨rfl, f1, ⟨k241, k231⟩, A1, Z1, Y1, hph1⟩ := hv
            have A1 : mAt J1 s t n p1 := A1
            have Z1 : mPi J1 s K1 := Z1
            have hph1 : phi tot p1 K1 C := hph1
            refine w_aln l_194_27 rfl ?_
            refine q_iv [] [] l_194_28 rfl rfl (Nat.le_of_ble_eq_true rfl) (by rw [mx_175]; exact Nat.le_of_ble_eq_true rfl) (by rw [mt_175]; exact oModel_sh hm) (by rw [mt_175]; decide) (by rw [rk_175]; decide) (s_175_0 hm k241) ?_
            refine w_zne 38 l_194_31 (by decide) (fun hx => absurd hx (by decide)) (fun _ => ?_)
            refine w_aln l_194_34 rfl ?_
            refine p_iv [] [] l_194_35 rfl rfl (Nat.le_of_ble_eq_true rfl) (by rw [mx_192]; exact Nat.le_of_ble_eq_true rfl) (by rw [mt_192]; exact oModel_sh hm) (by rw [mt_192]; decide) (by rw [rk_192]; decide) (by have g9 := s_192 (xs := xs) (cc := cc) (zz := zz) hm (H.fC f1) A1 k241 Z1 Y1 hph1; rw [hl] at g9; exact g9) (fun v J2 hv => ?_)
            obtain ⟨rfl, f2, ⟨k242, k232⟩, A2, Z2, Y2⟩ := hv
            have A2 : mAt J2 s t n p2 := A2
            have Y2 : mSU J2 s P (C ++ [c]) tot := Y2
            refine w_aln l_194_38 rfl ?_
            refine q_iv [] [] l_194_39 rfl rfl (Nat.le_of_ble_eq_true rfl) (by rw [mx_175]; exact Nat.le_of_ble_eq_true rfl) (by rw [mt_175]; exact oModel_sh hm) (by rw [mt_175]; decide) (by rw [rk_175]; decide) (s_175_0 hm k242) ?_
            refine w_zeq 46 l_194_42 (by decide) (fun _ => ?_) (fun hx => absurd hx (by decide))
            refine w_aln l_194_46 rfl ?_
            refine p_iv [] [] l_194_47 rfl rfl (Nat.le_of_ble_eq_true rfl) (by rw [mx_193]; exact Nat.le_of_ble_eq_true rfl) (by rw [mt_193]; exact oModel_sh hm) (by rw [mt_193]; decide) (by rw [rk_193]; decide) (by have g9 := s_193 (xs := xs) (cc := cc) (zz := zz) hm hk1 ((H.fC f1).fC f2) A2 k242 Z2 Y2 hph2; rw [hX] at g9; exact g9) (fun v J3 hv => ?_)
            obtain ⟨rfl, f3, k243, k233, A3, Z3, Y3⟩ := hv
            have H3 := ((H.fC f1).fC f2).fC f3
            have F3 := (f1.tr f2).tr f3
            have q23 : J3 s 23 = I0 s 23 := k233.trans (k232.trans (k231.trans h23))
            refine w_aln l_194_50 rfl ?_
            refine w_ldcw l_194_51 (by decide) ?_
            refine p_iv [vs (2 * 42 + 4)] [] l_194_54 rfl rfl (Nat.le_of_ble_eq_true rfl) (by rw [mx_179]; exact Nat.le_of_ble_eq_true rfl) (by rw [mt_179]; exact oModel_sh hm) (by rw [mt_179]; decide) (by rw [rk_179]; decide) (s_179T hm H3 A3 k243 (q := 42) (by decide) (by rw [strB_same.2.2.2.2.2.2.2.1]; exact hw12)) (fun v J4 hv => ?_)
            obtain ⟨rfl, A4, f4⟩ := hv
            have H4 := H3.fT f4.T
            have k244 : J4 s 24 = 0 := (f4 s 24 (fun _ => by decide)).trans k243
            have Z4 := Z3.fT f4.T
            have Y4 := Y3.fT f4.T
            refine w_isn l_194_57 ⟨Nat.le_of_ble_eq_true rfl, rfl⟩ ?_
            refine w_iln l_194_58 rfl ?_
            refine w_zne 76 l_194_59 (by decide) (fun _ => ?_) (fun hx => absurd hx (by decide))
            refine w_ic l_194_76 (by decide) ?_
            refine w_isn l_194_77 ⟨Nat.le_of_ble_eq_true rfl, rfl⟩ ?_
            refine w_iln l_194_78 rfl ?_
            refine w_zne 86 l_194_79 (by decide) (fun _ => ?_) (fun hx => absurd hx (by decide))
            refine w_ic l_194_86 (by decide) ?_
            refine w_go 91 l_194_87 (by decide) ?_
            refine w_isn l_194_91 ⟨Nat.le_of_ble_eq_true rfl, rfl⟩ ?_
            refine w_iln l_194_92 rfl ?_
            refine w_zeq 127 l_194_93 (by decide) (fun hx => absurd hx (by decide)) (fun _ => ?_)
            refine w_aln l_194_96 rfl ?_
            refine w_bp l_194_97 (by decide) ?_
            refine p_iv [vi 7] [] l_194_99 rfl rfl (Nat.le_of_ble_eq_true rfl) (by rw [mx_188]; exact Nat.le_of_ble_eq_true rfl) (by rw [mt_188]; exact oModel_sh hm) (by rw [mt_188]; decide) (by rw [rk_188]; decide) (s_188_7C hm Z4 Y4 hinv.2.1 (by omega)) (fun v J5 hv => ?_)
            obtain ⟨rfl, Z5, Y5, f5⟩ := hv
            refine w_iln l_194_102 rfl ?_
            refine w_zeq 112 l_194_103 (by decide) (fun _ => ?_) (fun hx => absurd hx (by decide))
            refine w_aln l_194_112 rfl ?_
            refine w_iln l_194_113 rfl ?_
            refine w_zeq 122 l_194_114 (by decide) (fun hx => absurd hx (by decide)) (fun _ => ?_)
            refine w_bp l_194_117 (by decide) ?_
            refine w_go 124 l_194_119 (by decide) ?_
            refine q_iv [vi 7] [] l_194_124 rfl rfl (Nat.le_of_ble_eq_true rfl) (by rw [mx_187]; exact Nat.le_of_ble_eq_true rfl) (by rw [mt_187]; exact oModel_sh hm) (by rw [mt_187]; decide) (by rw [rk_187]; decide) (s_187 hm Z5.1 (by omega)) ?_
            refine w_go 12 l_194_127 (by decide) ?_
            have hR : cdG t n P (d + 1) p K C = cdG t n P d (nxt t n X.1) (7 :: (flu 7 X.2.1 X.2.2).1) (flu 7 X.2.1 X.2.2).2 := by
              rw [cdG, ho]
              simp only []
              rw [hl]
              simp only []
              unfold aG
              rw [hX, if_pos hw12]
            rw [hR]
            refine ih (nxt t n X.1) (7 :: (flu 7 X.2.1 X.2.2).1) (flu 7 X.2.1 X.2.2).2 _ _ _ (by omega) ?_ ⟨by rw [kN_x (by decide), kO_x (by decide)]; omega, by rw [kW_7]; omega⟩ ((H4.fQ f5).fC ((((fC.rf _ s).up (Or.inr ⟨by omega, by omega⟩)).up (Or.inl ⟨rfl, by decide, by decide⟩)))) ?_ ?_ ?_ ?_ ?_ ?_
            · exact okK_7 hi7.1 (flu7_tp hinv.1 hinv.2.2) hi7.2.2.2.2
            · obtain ⟨j9, a9, b9, c9⟩ := (A4.fQ f5)
              refine ⟨j9, ?_, b9, c9⟩
              repeat (rw [up_out (by omega)])
              exact a9
            · repeat (rw [up_out (by omega)])
              exact (f5 s 24 (fun _ => by decide) (by omega) (by omega)).trans k244
            · repeat (rw [up_out (by omega)])
              exact (f5 s 23 (fun _ => by decide) (by omega) (by omega)).trans ((f4 s 23 (fun _ => by decide)).trans q23)
            · refine Z5.push up_eq ?_ ?_ (fun j hj => ?_)
              · rw [up_nj (by decide), up_no (by omega), kW_7]
                exact Z5.2.1
              · rw [up_no (by omega)]; exact up_eq
              · rw [up_no (by omega), up_nj (by omega)]
            · exact Y5.eq (fun w h1 h2 => by repeat (rw [up_out (by omega)])) (fun j h1 h2 w => by repeat (rw [up_out (by omega)]))
            · exact f.tr (((F3.tr f4.T.C).tr f5.C).tr ((((fC.rf _ s).up (Or.inr ⟨by omega, by omega⟩)).up (Or.inl ⟨rfl, by decide, by decide⟩))))
          | false =>
            cases hw13 : isWL t n (strB 13) X.1 with
            | true =>
              have hnx := isWL_nx (by decide) hw13
              have hnl := nxt_le (t := t) hcl.2
              have hi8 := f78_inv (X := X.2) hinv.1 hinv.2.2
              have hkl := kNO (f78 X.2).1
              have hko := kOD (f78 X.2).1
              refine w_iln l_194_12 rfl ?_
              refine w_zeq 130 l_194_13 (by decide) (fun hx => absurd hx (by decide)) (fun _ => ?_)
              refine w_aln l_194_16 rfl ?_
              refine q_iv [] [] l_194_17 rfl rfl (Nat.le_of_ble_eq_true rfl) (by rw [mx_175]; exact Nat.le_of_ble_eq_true rfl) (by rw [mt_175]; exact oModel_sh hm) (by rw [mt_175]; decide) (by rw [rk_175]; decide) (s_175_0 hm h24) ?_
              refine w_zne 130 l_194_20 (by decide) (fun hx => absurd hx (by decide)) (fun _ => ?_)
              refine w_aln l_194_23 rfl ?_
              refine p_iv [] [] l_194_24 rfl rfl (Nat.le_of_ble_eq_true rfl) (by rw [mx_190]; exact Nat.le_of_ble_eq_true rfl) (by rw [mt_190]; exact oModel_sh hm) (by rw [mt_190]; decide) (by rw [rk_190]; decide) (by have g9 := s_190 (xs := xs) (cc := cc) (zz := zz) hm H A h24 Z Y hphi; rw [ho] at g9; exact g9) (fun v J1 hv => ?_)
              obtain ⟨rfl, f1, ⟨k241, k231⟩, A1, Z1, Y1, hph1⟩ := hv
              have A1 : mAt J1 s t n p1 := A1
              have Z1 : mPi J1 s K1 := Z1
              have hph1 : phi tot p1 K1 C := hph1
              refine w_aln l_194_27 rfl ?_
              refine q_iv [] [] l_194_28 rfl rfl (Nat.le_of_ble_eq_true rfl) (by rw [mx_175]; exact Nat.le_of_ble_eq_true rfl) (by rw [mt_175]; exact oModel_sh hm) (by rw [mt_175]; decide) (by rw [rk_175]; decide) (s_175_0 hm k241) ?_
              refine w_zne 38 l_194_31 (by decide) (fun hx => absurd hx (by decide)) (fun _ => ?_)
              refine w_aln l_194_34 rfl ?_
              refine p_iv [] [] l_194_35 rfl rfl (Nat.le_of_ble_eq_true rfl) (by rw [mx_192]; exact Nat.le_of_ble_eq_true rfl) (by rw [mt_192]; exact oModel_sh hm) (by rw [mt_192]; decide) (by rw [rk_192]; decide) (by have g9 := s_192 (xs := xs) (cc := cc) (zz := zz) hm (H.fC f1) A1 k241 Z1 Y1 hph1; rw [hl] at g9; exact g9) (fun v J2 hv => ?_)
              obtain ⟨rfl, f2, ⟨k242, k232⟩, A2, Z2, Y2⟩ := hv
              have A2 : mAt J2 s t n p2 := A2
              have Y2 : mSU J2 s P (C ++ [c]) tot := Y2
              refine w_aln l_194_38 rfl ?_
              refine q_iv [] [] l_194_39 rfl rfl (Nat.le_of_ble_eq_true rfl) (by rw [mx_175]; exact Nat.le_of_ble_eq_true rfl) (by rw [mt_175]; exact oModel_sh hm) (by rw [mt_175]; decide) (by rw [rk_175]; decide) (s_175_0 hm k242) ?_
              refine w_zeq 46 l_194_42 (by decide) (fun _ => ?_) (fun hx => absurd hx (by decide))
              refine w_aln l_194_46 rfl ?_
              refine p_iv [] [] l_194_47 rfl rfl (Nat.le_of_ble_eq_true rfl) (by rw [mx_193]; exact Nat.le_of_ble_eq_true rfl) (by rw [mt_193]; exact oModel_sh hm) (by rw [mt_193]; decide) (by rw [rk_193]; decide) (by have g9 := s_193 (xs := xs) (cc := cc) (zz := zz) hm hk1 ((H.fC f1).fC f2) A2 k242 Z2 Y2 hph2; rw [hX] at g9; exact g9) (fun v J3 hv => ?_)
              obtain ⟨rfl, f3, k243, k233, A3, Z3, Y3⟩ := hv
              have H3 := ((H.fC f1).fC f2).fC f3
              have F3 := (f1.tr f2).tr f3
              have q23 : J3 s 23 = I0 s 23 := k233.trans (k232.trans (k231.trans h23))
              refine w_aln l_194_50 rfl ?_
              refine w_ldcw l_194_51 (by decide) ?_
              refine p_iv [vs (2 * 42 + 4)] [] l_194_54 rfl rfl (Nat.le_of_ble_eq_true rfl) (by rw [mx_179]; exact Nat.le_of_ble_eq_true rfl) (by rw [mt_179]; exact oModel_sh hm) (by rw [mt_179]; decide) (by rw [rk_179]; decide) (s_179F hm H3 A3 k243 (q := 42) (by decide) (by rw [strB_same.2.2.2.2.2.2.2.1]; exact hw12)) (fun v J4 hv => ?_)
              obtain ⟨rfl, g224, f4⟩ := hv
              have H4 := H3.fT f4.T
              have A4 : mAt J4 s t n X.1 := mAt.at g224 A3.le A3.id
              have k244 : J4 s 24 = 0 := (f4 s 24 (fun _ => by decide)).trans k243
              have Z4 := Z3.fT f4.T
              have Y4 := Y3.fT f4.T
              refine w_isn l_194_57 ⟨Nat.le_of_ble_eq_true rfl, rfl⟩ ?_
              refine w_iln l_194_58 rfl ?_
              refine w_zne 76 l_194_59 (by decide) (fun hx => absurd hx (by decide)) (fun _ => ?_)
              refine w_aln l_194_62 rfl ?_
              refine w_ldcw l_194_63 (by decide) ?_
              refine p_iv [vs (2 * 43 + 4)] [] l_194_66 rfl rfl (Nat.le_of_ble_eq_true rfl) (by rw [mx_179]; exact Nat.le_of_ble_eq_true rfl) (by rw [mt_179]; exact oModel_sh hm) (by rw [mt_179]; decide) (by rw [rk_179]; decide) (s_179T hm H4 A4 k244 (q := 43) (by decide) (by rw [strB_same.2.2.2.2.2.2.2.2.1]; exact hw13)) (fun v J5 hv => ?_)
              obtain ⟨rfl, A5, f5⟩ := hv
              have H5 := H4.fT f5.T
              have k245 : J5 s 24 = 0 := (f5 s 24 (fun _ => by decide)).trans k244
              have Z5 := Z4.fT f5.T
              have Y5 := Y4.fT f5.T
              refine w_zeq 76 l_194_69 (by decide) (fun hx => absurd hx (by decide)) (fun _ => ?_)
              refine w_ic l_194_72 (by decide) ?_
              refine w_go 77 l_194_73 (by decide) ?_
              refine w_isn l_194_77 ⟨Nat.le_of_ble_eq_true rfl, rfl⟩ ?_
              refine w_iln l_194_78 rfl ?_
              refine w_zne 86 l_194_79 (by decide) (fun hx => absurd hx (by decide)) (fun _ => ?_)
              refine w_iln l_194_82 rfl ?_
              refine w_zeq 90 l_194_83 (by decide) (fun hx => absurd hx (by decide)) (fun _ => ?_)
              refine w_ic l_194_86 (by decide) ?_
              refine w_go 91 l_194_87 (by decide) ?_
              refine w_isn l_194_91 ⟨Nat.le_of_ble_eq_true rfl, rfl⟩ ?_
              refine w_iln l_194_92 rfl ?_
              refine w_zeq 127 l_194_93 (by decide) (fun hx => absurd hx (by decide)) (fun _ => ?_)
              refine w_aln l_194_96 rfl ?_
              refine w_bp l_194_97 (by decide) ?_
              refine p_iv [vi 7] [] l_194_99 rfl rfl (Nat.le_of_ble_eq_true rfl) (by rw [mx_188]; exact Nat.le_of_ble_eq_true rfl) (by rw [mt_188]; exact oModel_sh hm) (by rw [mt_188]; decide) (by rw [rk_188]; decide) (s_188_7C hm Z5 Y5 hinv.2.1 (by omega)) (fun v J6 hv => ?_)
              obtain ⟨rfl, Z6, Y6, f6⟩ := hv
              refine w_iln l_194_102 rfl ?_
              refine w_zeq 112 l_194_103 (by decide) (fun hx => absurd hx (by decide)) (fun _ => ?_)
              refine w_aln l_194_106 rfl ?_
              refine w_bp l_194_107 (by decide) ?_
              refine p_iv [vi 8] [] l_194_109 rfl rfl (Nat.le_of_ble_eq_true rfl) (by rw [mx_188]; exact Nat.le_of_ble_eq_true rfl) (by rw [mt_188]; exact oModel_sh hm) (by rw [mt_188]; decide) (by rw [rk_188]; decide) (s_188_8C hm Z6 Y6 (hinv.2.1.fl (op := 7) (by decide) (by decide) hinv.1) (by omega)) (fun v J7 hv => ?_)
              obtain ⟨rfl, Z7, Y7, f7⟩ := hv
              have Z7 : mPi J7 s (f78 X.2).1 := Z7
              have Y7 : mSU J7 s P (f78 X.2).2 tot := Y7
              refine w_aln l_194_112 rfl ?_
              refine w_iln l_194_113 rfl ?_
              refine w_zeq 122 l_194_114 (by decide) (fun _ => ?_) (fun hx => absurd hx (by decide))
              refine w_bp l_194_122 (by decide) ?_
              refine q_iv [vi 8] [] l_194_124 rfl rfl (Nat.le_of_ble_eq_true rfl) (by rw [mx_187]; exact Nat.le_of_ble_eq_true rfl) (by rw [mt_187]; exact oModel_sh hm) (by rw [mt_187]; decide) (by rw [rk_187]; decide) (s_187 hm Z7.1 (by omega)) ?_
              refine w_go 12 l_194_127 (by decide) ?_
              have hR : cdG t n P (d + 1) p K C = cdG t n P d (nxt t n X.1) (8 :: (f78 X.2).1) (f78 X.2).2 := by
                rw [cdG, ho]
                simp only []
                rw [hl]
                simp only []
                unfold aG
                rw [hX, if_neg (by rw [hw12]; decide), if_pos hw13]
              rw [hR]
              refine ih (nxt t n X.1) (8 :: (f78 X.2).1) (f78 X.2).2 _ _ _ (by omega) ?_ ⟨by rw [kN_x (by decide), kO_x (by decide)]; omega, by rw [kW_8]; omega⟩ (((H5.fQ f6).fQ f7).fC ((((fC.rf _ s).up (Or.inr ⟨by omega, by omega⟩)).up (Or.inl ⟨rfl, by decide, by decide⟩)))) ?_ ?_ ?_ ?_ ?_ ?_
              · exact okK_8 hi8.1 hi8.2.2.2.2.1 hi8.2.2.2.2.2.1 hi8.2.2.2.2.2.2
              · obtain ⟨j9, a9, b9, c9⟩ := ((A5.fQ f6).fQ f7)
                refine ⟨j9, ?_, b9, c9⟩
                repeat (rw [up_out (by omega)])
                exact a9
              · repeat (rw [up_out (by omega)])
                exact ((f6.tr f7) s 24 (fun _ => by decide) (by omega) (by omega)).trans k245
              · repeat (rw [up_out (by omega)])
                exact ((f6.tr f7) s 23 (fun _ => by decide) (by omega) (by omega)).trans ((f5 s 23 (fun _ => by decide)).trans ((f4 s 23 (fun _ => by decide)).trans q23))
              · refine Z7.push up_eq ?_ ?_ (fun j hj => ?_)
                · rw [up_nj (by decide), up_no (by omega), kW_8]
                  exact Z7.2.1
                · rw [up_no (by omega)]; exact up_eq
                · rw [up_no (by omega), up_nj (by omega)]
              · exact Y7.eq (fun w h1 h2 => by repeat (rw [up_out (by omega)])) (fun j h1 h2 w => by repeat (rw [up_out (by omega)]))
              · exact f.tr (((((F3.tr f4.T.C).tr f5.T.C).tr f6.C).tr f7.C).tr ((((fC.rf _ s).up (Or.inr ⟨by omega, by omega⟩)).up (Or.inl ⟨rfl, by decide, by decide⟩))))
            | false =>
              by_cases hO : kO X.2.1 ≠ 0
              · skip
                refine w_iln l_194_12 rfl ?_
                refine w_zeq 130 l_194_13 (by decide) (fun hx => absurd hx (by decide)) (fun _ => ?_)
                refine w_aln l_194_16 rfl ?_
                refine q_iv [] [] l_194_17 rfl rfl (Nat.le_of_ble_eq_true rfl) (by rw [mx_175]; exact Nat.le_of_ble_eq_true rfl) (by rw [mt_175]; exact oModel_sh hm) (by rw [mt_175]; decide) (by rw [rk_175]; decide) (s_175_0 hm h24) ?_
                refine w_zne 130 l_194_20 (by decide) (fun hx => absurd hx (by decide)) (fun _ => ?_)
                refine w_aln l_194_23 rfl ?_
                refine p_iv [] [] l_194_24 rfl rfl (Nat.le_of_ble_eq_true rfl) (by rw [mx_190]; exact Nat.le_of_ble_eq_true rfl) (by rw [mt_190]; exact oModel_sh hm) (by rw [mt_190]; decide) (by rw [rk_190]; decide) (by have g9 := s_190 (xs := xs) (cc := cc) (zz := zz) hm H A h24 Z Y hphi; rw [ho] at g9; exact g9) (fun v J1 hv => ?_)
                obtain ⟨rfl, f1, ⟨k241, k231⟩, A1, Z1, Y1, hph1⟩ := hv
                have A1 : mAt J1 s t n p1 := A1
                have Z1 : mPi J1 s K1 := Z1
                have hph1 : phi tot p1 K1 C := hph1
                refine w_aln l_194_27 rfl ?_
                refine q_iv [] [] l_194_28 rfl rfl (Nat.le_of_ble_eq_true rfl) (by rw [mx_175]; exact Nat.le_of_ble_eq_true rfl) (by rw [mt_175]; exact oModel_sh hm) (by rw [mt_175]; decide) (by rw [rk_175]; decide) (s_175_0 hm k241) ?_
                refine w_zne 38 l_194_31 (by decide) (fun hx => absurd hx (by decide)) (fun _ => ?_)
                refine w_aln l_194_34 rfl ?_
                refine p_iv [] [] l_194_35 rfl rfl (Nat.le_of_ble_eq_true rfl) (by rw [mx_192]; exact Nat.le_of_ble_eq_true rfl) (by rw [mt_192]; exact oModel_sh hm) (by rw [mt_192]; decide) (by rw [rk_192]; decide) (by have g9 := s_192 (xs := xs) (cc := cc) (zz := zz) hm (H.fC f1) A1 k241 Z1 Y1 hph1; rw [hl] at g9; exact g9) (fun v J2 hv => ?_)
                obtain ⟨rfl, f2, ⟨k242, k232⟩, A2, Z2, Y2⟩ := hv
                have A2 : mAt J2 s t n p2 := A2
                have Y2 : mSU J2 s P (C ++ [c]) tot := Y2
                refine w_aln l_194_38 rfl ?_
                refine q_iv [] [] l_194_39 rfl rfl (Nat.le_of_ble_eq_true rfl) (by rw [mx_175]; exact Nat.le_of_ble_eq_true rfl) (by rw [mt_175]; exact oModel_sh hm) (by rw [mt_175]; decide) (by rw [rk_175]; decide) (s_175_0 hm k242) ?_
                refine w_zeq 46 l_194_42 (by decide) (fun _ => ?_) (fun hx => absurd hx (by decide))
                refine w_aln l_194_46 rfl ?_
                refine p_iv [] [] l_194_47 rfl rfl (Nat.le_of_ble_eq_true rfl) (by rw [mx_193]; exact Nat.le_of_ble_eq_true rfl) (by rw [mt_193]; exact oModel_sh hm) (by rw [mt_193]; decide) (by rw [rk_193]; decide) (by have g9 := s_193 (xs := xs) (cc := cc) (zz := zz) hm hk1 ((H.fC f1).fC f2) A2 k242 Z2 Y2 hph2; rw [hX] at g9; exact g9) (fun v J3 hv => ?_)
                obtain ⟨rfl, f3, k243, k233, A3, Z3, Y3⟩ := hv
                have H3 := ((H.fC f1).fC f2).fC f3
                have F3 := (f1.tr f2).tr f3
                have q23 : J3 s 23 = I0 s 23 := k233.trans (k232.trans (k231.trans h23))
                refine w_aln l_194_50 rfl ?_
                refine w_ldcw l_194_51 (by decide) ?_
                refine p_iv [vs (2 * 42 + 4)] [] l_194_54 rfl rfl (Nat.le_of_ble_eq_true rfl) (by rw [mx_179]; exact Nat.le_of_ble_eq_true rfl) (by rw [mt_179]; exact oModel_sh hm) (by rw [mt_179]; decide) (by rw [rk_179]; decide) (s_179F hm H3 A3 k243 (q := 42) (by decide) (by rw [strB_same.2.2.2.2.2.2.2.1]; exact hw12)) (fun v J4 hv => ?_)
                obtain ⟨rfl, g224, f4⟩ := hv
                have H4 := H3.fT f4.T
                have A4 : mAt J4 s t n X.1 := mAt.at g224 A3.le A3.id
                have k244 : J4 s 24 = 0 := (f4 s 24 (fun _ => by decide)).trans k243
                have Z4 := Z3.fT f4.T
                have Y4 := Y3.fT f4.T
                refine w_isn l_194_57 ⟨Nat.le_of_ble_eq_true rfl, rfl⟩ ?_
                refine w_iln l_194_58 rfl ?_
                refine w_zne 76 l_194_59 (by decide) (fun hx => absurd hx (by decide)) (fun _ => ?_)
                refine w_aln l_194_62 rfl ?_
                refine w_ldcw l_194_63 (by decide) ?_
                refine p_iv [vs (2 * 43 + 4)] [] l_194_66 rfl rfl (Nat.le_of_ble_eq_true rfl) (by rw [mx_179]; exact Nat.le_of_ble_eq_true rfl) (by rw [mt_179]; exact oModel_sh hm) (by rw [mt_179]; decide) (by rw [rk_179]; decide) (s_179F hm H4 A4 k244 (q := 43) (by decide) (by rw [strB_same.2.2.2.2.2.2.2.2.1]; exact hw13)) (fun v J5 hv => ?_)
                obtain ⟨rfl, g225, f5⟩ := hv
                have H5 := H4.fT f5.T
                have A5 : mAt J5 s t n X.1 := mAt.at g225 A3.le A3.id
                have k245 : J5 s 24 = 0 := (f5 s 24 (fun _ => by decide)).trans k244
                have Z5 := Z4.fT f5.T
                have Y5 := Y4.fT f5.T
                refine w_zeq 76 l_194_69 (by decide) (fun _ => ?_) (fun hx => absurd hx (by decide))
                refine w_ic l_194_76 (by decide) ?_
                refine w_isn l_194_77 ⟨Nat.le_of_ble_eq_true rfl, rfl⟩ ?_
                refine w_iln l_194_78 rfl ?_
                refine w_zne 86 l_194_79 (by decide) (fun hx => absurd hx (by decide)) (fun _ => ?_)
                refine w_iln l_194_82 rfl ?_
                refine w_zeq 90 l_194_83 (by decide) (fun _ => ?_) (fun hx => absurd hx (by decide))
                refine w_ic l_194_90 (by decide) ?_
                refine w_isn l_194_91 ⟨Nat.le_of_ble_eq_true rfl, rfl⟩ ?_
                refine w_iln l_194_92 rfl ?_
                refine w_zeq 127 l_194_93 (by decide) (fun _ => ?_) (fun hx => absurd hx (by decide))
                refine w_go 12 l_194_127 (by decide) ?_
                refine w_iln l_194_12 rfl ?_
                refine w_zeq 130 l_194_13 (by decide) (fun _ => ?_) (fun hx => absurd hx (by decide))
                refine w_aln l_194_130 rfl ?_
                refine q_iv [] [] l_194_131 rfl rfl (Nat.le_of_ble_eq_true rfl) (by rw [mx_189]; exact Nat.le_of_ble_eq_true rfl) (by rw [mt_189]; exact oModel_sh hm) (by rw [mt_189]; decide) (by rw [rk_189]; decide) (by have g9 := s_189 (xs := xs) (cc := cc) (zz := zz) (T := T) hm Z5 (by omega); rw [show decide (0 < kO X.2.1) = true from decide_eq_true (by omega)] at g9; exact g9) ?_
                refine w_zeq 146 l_194_134 (by decide) (fun hx => absurd hx (by decide)) (fun _ => ?_)
                refine w_aln l_194_137 rfl ?_
                refine w_ic l_194_138 (by decide) ?_
                refine w_aln l_194_139 rfl ?_
                refine w_gi ((X.1 : Nat) : Int) l_194_140 (oModel_sh hm) g225 ?_
                refine q_iv [vi 1, vi ((X.1 : Nat) : Int)] [] l_194_143 rfl rfl (Nat.le_of_ble_eq_true rfl) (by rw [mx_176]; exact Nat.le_of_ble_eq_true rfl) (by rw [mt_176]; exact oModel_sh hm) (by rw [mt_176]; decide) (by rw [rk_176]; decide) (s_176 hm k245 (k := 1)) ?_
                refine w_aln l_194_146 rfl ?_
                refine w_bp l_194_147 (by decide) ?_
                refine p_iv [vi 7] [] l_194_149 rfl rfl (Nat.le_of_ble_eq_true rfl) (by rw [mx_188]; exact Nat.le_of_ble_eq_true rfl) (by rw [mt_188]; exact oModel_sh hm) (by rw [mt_188]; decide) (by rw [rk_188]; decide) (s_188_7C hm (Z5.fT (((fT.rf J5 s).up (v := ((1 : Nat) : Int)) (Or.inr (Or.inr rfl))).up (v := ((X.1 : Nat) : Int)) (Or.inr (Or.inl rfl)))) (Y5.fT (((fT.rf J5 s).up (v := ((1 : Nat) : Int)) (Or.inr (Or.inr rfl))).up (v := ((X.1 : Nat) : Int)) (Or.inr (Or.inl rfl)))) hinv.2.1 (by omega)) (fun v J6 hv => ?_)
                obtain ⟨rfl, Z6, Y6, f6⟩ := hv
                refine w_aln l_194_152 rfl ?_
                refine w_bp l_194_153 (by decide) ?_
                refine p_iv [vi 8] [] l_194_155 rfl rfl (Nat.le_of_ble_eq_true rfl) (by rw [mx_188]; exact Nat.le_of_ble_eq_true rfl) (by rw [mt_188]; exact oModel_sh hm) (by rw [mt_188]; decide) (by rw [rk_188]; decide) (s_188_8C hm Z6 Y6 (hinv.2.1.fl (op := 7) (by decide) (by decide) hinv.1) (by omega)) (fun v J7 hv => ?_)
                obtain ⟨rfl, Z7, Y7, f7⟩ := hv
                refine w_vr l_194_158 ?_
                have hR : cdG t n P (d + 1) p K C = .inl (1, X.1) := by
                  rw [cdG, ho]
                  simp only []
                  rw [hl]
                  simp only []
                  unfold aG
                  rw [hX, if_neg (by rw [hw12]; decide), if_neg (by rw [hw13]; decide), if_pos hO]
                exact ⟨_, _, rfl, rfl, rfl, f.tr (((((F3.tr f4.T.C).tr f5.T.C).tr (((fT.rf J5 s).up (v := ((1 : Nat) : Int)) (Or.inr (Or.inr rfl))).up (v := ((X.1 : Nat) : Int)) (Or.inr (Or.inl rfl))).C).tr f6.C).tr f7.C), by rw [hR]; exact ⟨Nat.le_refl 1, ((f6.tr f7) s 24 (fun _ => by decide) (by omega) (by omega)).trans ((up_nj (by decide)).trans up_eq), ((f6.tr f7) s 23 (fun _ => by decide) (by omega) (by omega)).trans up_eq⟩⟩
              · skip
                refine w_iln l_194_12 rfl ?_
                refine w_zeq 130 l_194_13 (by decide) (fun hx => absurd hx (by decide)) (fun _ => ?_)
                refine w_aln l_194_16 rfl ?_
                refine q_iv [] [] l_194_17 rfl rfl (Nat.le_of_ble_eq_true rfl) (by rw [mx_175]; exact Nat.le_of_ble_eq_true rfl) (by rw [mt_175]; exact oModel_sh hm) (by rw [mt_175]; decide) (by rw [rk_175]; decide) (s_175_0 hm h24) ?_
                refine w_zne 130 l_194_20 (by decide) (fun hx => absurd hx (by decide)) (fun _ => ?_)
                refine w_aln l_194_23 rfl ?_
                refine p_iv [] [] l_194_24 rfl rfl (Nat.le_of_ble_eq_true rfl) (by rw [mx_190]; exact Nat.le_of_ble_eq_true rfl) (by rw [mt_190]; exact oModel_sh hm) (by rw [mt_190]; decide) (by rw [rk_190]; decide) (by have g9 := s_190 (xs := xs) (cc := cc) (zz := zz) hm H A h24 Z Y hphi; rw [ho] at g9; exact g9) (fun v J1 hv => ?_)
                obtain ⟨rfl, f1, ⟨k241, k231⟩, A1, Z1, Y1, hph1⟩ := hv
                have A1 : mAt J1 s t n p1 := A1
                have Z1 : mPi J1 s K1 := Z1
                have hph1 : phi tot p1 K1 C := hph1
                refine w_aln l_194_27 rfl ?_
                refine q_iv [] [] l_194_28 rfl rfl (Nat.le_of_ble_eq_true rfl) (by rw [mx_175]; exact Nat.le_of_ble_eq_true rfl) (by rw [mt_175]; exact oModel_sh hm) (by rw [mt_175]; decide) (by rw [rk_175]; decide) (s_175_0 hm k241) ?_
                refine w_zne 38 l_194_31 (by decide) (fun hx => absurd hx (by decide)) (fun _ => ?_)
                refine w_aln l_194_34 rfl ?_
                refine p_iv [] [] l_194_35 rfl rfl (Nat.le_of_ble_eq_true rfl) (by rw [mx_192]; exact Nat.le_of_ble_eq_true rfl) (by rw [mt_192]; exact oModel_sh hm) (by rw [mt_192]; decide) (by rw [rk_192]; decide) (by have g9 := s_192 (xs := xs) (cc := cc) (zz := zz) hm (H.fC f1) A1 k241 Z1 Y1 hph1; rw [hl] at g9; exact g9) (fun v J2 hv => ?_)
                obtain ⟨rfl, f2, ⟨k242, k232⟩, A2, Z2, Y2⟩ := hv
                have A2 : mAt J2 s t n p2 := A2
                have Y2 : mSU J2 s P (C ++ [c]) tot := Y2
                refine w_aln l_194_38 rfl ?_
                refine q_iv [] [] l_194_39 rfl rfl (Nat.le_of_ble_eq_true rfl) (by rw [mx_175]; exact Nat.le_of_ble_eq_true rfl) (by rw [mt_175]; exact oModel_sh hm) (by rw [mt_175]; decide) (by rw [rk_175]; decide) (s_175_0 hm k242) ?_
                refine w_zeq 46 l_194_42 (by decide) (fun _ => ?_) (fun hx => absurd hx (by decide))
                refine w_aln l_194_46 rfl ?_
                refine p_iv [] [] l_194_47 rfl rfl (Nat.le_of_ble_eq_true rfl) (by rw [mx_193]; exact Nat.le_of_ble_eq_true rfl) (by rw [mt_193]; exact oModel_sh hm) (by rw [mt_193]; decide) (by rw [rk_193]; decide) (by have g9 := s_193 (xs := xs) (cc := cc) (zz := zz) hm hk1 ((H.fC f1).fC f2) A2 k242 Z2 Y2 hph2; rw [hX] at g9; exact g9) (fun v J3 hv => ?_)
                obtain ⟨rfl, f3, k243, k233, A3, Z3, Y3⟩ := hv
                have H3 := ((H.fC f1).fC f2).fC f3
                have F3 := (f1.tr f2).tr f3
                have q23 : J3 s 23 = I0 s 23 := k233.trans (k232.trans (k231.trans h23))
                refine w_aln l_194_50 rfl ?_
                refine w_ldcw l_194_51 (by decide) ?_
                refine p_iv [vs (2 * 42 + 4)] [] l_194_54 rfl rfl (Nat.le_of_ble_eq_true rfl) (by rw [mx_179]; exact Nat.le_of_ble_eq_true rfl) (by rw [mt_179]; exact oModel_sh hm) (by rw [mt_179]; decide) (by rw [rk_179]; decide) (s_179F hm H3 A3 k243 (q := 42) (by decide) (by rw [strB_same.2.2.2.2.2.2.2.1]; exact hw12)) (fun v J4 hv => ?_)
                obtain ⟨rfl, g224, f4⟩ := hv
                have H4 := H3.fT f4.T
                have A4 : mAt J4 s t n X.1 := mAt.at g224 A3.le A3.id
                have k244 : J4 s 24 = 0 := (f4 s 24 (fun _ => by decide)).trans k243
                have Z4 := Z3.fT f4.T
                have Y4 := Y3.fT f4.T
                refine w_isn l_194_57 ⟨Nat.le_of_ble_eq_true rfl, rfl⟩ ?_
                refine w_iln l_194_58 rfl ?_
                refine w_zne 76 l_194_59 (by decide) (fun hx => absurd hx (by decide)) (fun _ => ?_)
                refine w_aln l_194_62 rfl ?_
                refine w_ldcw l_194_63 (by decide) ?_
                refine p_iv [vs (2 * 43 + 4)] [] l_194_66 rfl rfl (Nat.le_of_ble_eq_true rfl) (by rw [mx_179]; exact Nat.le_of_ble_eq_true rfl) (by rw [mt_179]; exact oModel_sh hm) (by rw [mt_179]; decide) (by rw [rk_179]; decide) (s_179F hm H4 A4 k244 (q := 43) (by decide) (by rw [strB_same.2.2.2.2.2.2.2.2.1]; exact hw13)) (fun v J5 hv => ?_)
                obtain ⟨rfl, g225, f5⟩ := hv
                have H5 := H4.fT f5.T
                have A5 : mAt J5 s t n X.1 := mAt.at g225 A3.le A3.id
                have k245 : J5 s 24 = 0 := (f5 s 24 (fun _ => by decide)).trans k244
                have Z5 := Z4.fT f5.T
                have Y5 := Y4.fT f5.T
                refine w_zeq 76 l_194_69 (by decide) (fun _ => ?_) (fun hx => absurd hx (by decide))
                refine w_ic l_194_76 (by decide) ?_
                refine w_isn l_194_77 ⟨Nat.le_of_ble_eq_true rfl, rfl⟩ ?_
                refine w_iln l_194_78 rfl ?_
                refine w_zne 86 l_194_79 (by decide) (fun hx => absurd hx (by decide)) (fun _ => ?_)
                refine w_iln l_194_82 rfl ?_
                refine w_zeq 90 l_194_83 (by decide) (fun _ => ?_) (fun hx => absurd hx (by decide))
                refine w_ic l_194_90 (by decide) ?_
                refine w_isn l_194_91 ⟨Nat.le_of_ble_eq_true rfl, rfl⟩ ?_
                refine w_iln l_194_92 rfl ?_
                refine w_zeq 127 l_194_93 (by decide) (fun _ => ?_) (fun hx => absurd hx (by decide))
                refine w_go 12 l_194_127 (by decide) ?_
                refine w_iln l_194_12 rfl ?_
                refine w_zeq 130 l_194_13 (by decide) (fun _ => ?_) (fun hx => absurd hx (by decide))
                refine w_aln l_194_130 rfl ?_
                refine q_iv [] [] l_194_131 rfl rfl (Nat.le_of_ble_eq_true rfl) (by rw [mx_189]; exact Nat.le_of_ble_eq_true rfl) (by rw [mt_189]; exact oModel_sh hm) (by rw [mt_189]; decide) (by rw [rk_189]; decide) (by have g9 := s_189 (xs := xs) (cc := cc) (zz := zz) (T := T) hm Z5 (by omega); rw [show decide (0 < kO X.2.1) = false from decide_eq_false (by omega)] at g9; exact g9) ?_
                refine w_zeq 146 l_194_134 (by decide) (fun _ => ?_) (fun hx => absurd hx (by decide))
                refine w_aln l_194_146 rfl ?_
                refine w_bp l_194_147 (by decide) ?_
                refine p_iv [vi 7] [] l_194_149 rfl rfl (Nat.le_of_ble_eq_true rfl) (by rw [mx_188]; exact Nat.le_of_ble_eq_true rfl) (by rw [mt_188]; exact oModel_sh hm) (by rw [mt_188]; decide) (by rw [rk_188]; decide) (s_188_7C hm Z5 Y5 hinv.2.1 (by omega)) (fun v J6 hv => ?_)
                obtain ⟨rfl, Z6, Y6, f6⟩ := hv
                refine w_aln l_194_152 rfl ?_
                refine w_bp l_194_153 (by decide) ?_
                refine p_iv [vi 8] [] l_194_155 rfl rfl (Nat.le_of_ble_eq_true rfl) (by rw [mx_188]; exact Nat.le_of_ble_eq_true rfl) (by rw [mt_188]; exact oModel_sh hm) (by rw [mt_188]; decide) (by rw [rk_188]; decide) (s_188_8C hm Z6 Y6 (hinv.2.1.fl (op := 7) (by decide) (by decide) hinv.1) (by omega)) (fun v J7 hv => ?_)
                obtain ⟨rfl, Z7, Y7, f7⟩ := hv
                have Y7 : mSU J7 s P (f78 X.2).2 tot := Y7
                refine w_vr l_194_158 ?_
                have hR : cdG t n P (d + 1) p K C = .inr (X.1, (f78 X.2).2) := by
                  rw [cdG, ho]
                  simp only []
                  rw [hl]
                  simp only []
                  unfold aG
                  rw [hX, if_neg (by rw [hw12]; decide), if_neg (by rw [hw13]; decide), if_neg hO]
                exact ⟨_, _, rfl, rfl, rfl, f.tr ((((F3.tr f4.T.C).tr f5.T.C).tr f6.C).tr f7.C), by rw [hR]; exact ⟨⟨((f6.tr f7) s 24 (fun _ => by decide) (by omega) (by omega)).trans k245, ((f6.tr f7) s 23 (fun _ => by decide) (by omega) (by omega)).trans ((f5 s 23 (fun _ => by decide)).trans ((f4 s 23 (fun _ => by decide)).trans q23))⟩, (A5.fQ f6).fQ f7, Y7⟩⟩

theorem s_194 (hm : oModel S T s) {P : Ps} {tot p : Nat} (H : mTx I s t n) (A : mAt I s t n p) (h24 : I s 24 = 0) (Y : mSU I s P [] tot) (hphi : phi tot p [] []) : CL xs 194 [vr s] (S, I, T, cc, zz) (RP S T cc zz (fun v I' => v = none ∧ fC I I' s ∧ mRO I s I' (condR t n (atomR t n P 5) p) (fun a => mAt I' s t n a.1 ∧ mSU I' s P a.2 tot))) := by
  have hpn := A.le
  refine CL_start (r := 7) (ls := [vr s, vs 2, vs 2, vs 2]) (rk_194 _) rfl ?_
  refine w_aln l_194_0 rfl ?_
  refine w_ic l_194_1 (by decide) ?_
  refine w_pi l_194_2 (oModel_sh hm) ?_
  refine w_aln l_194_5 rfl ?_
  refine w_ic l_194_6 (by decide) ?_
  refine w_pi l_194_7 (oModel_sh hm) ?_
  refine w_ic l_194_10 (by decide) ?_
  refine w_isn l_194_11 ⟨Nat.le_of_ble_eq_true rfl, rfl⟩ ?_
  refine WP_mono (lp_194 (I0 := I) (P := P) (tot := tot) hm (n + 1) p [] [] _ _ _ (by omega) trivial hphi (H.fC (((fC.rf I s).up (Or.inl ⟨rfl, by decide, by decide⟩)).up (Or.inl ⟨rfl, by decide, by decide⟩))) ?_ ?_ ?_ ?_ ?_ (((fC.rf I s).up (Or.inl ⟨rfl, by decide, by decide⟩)).up (Or.inl ⟨rfl, by decide, by decide⟩))) ?_
  · obtain ⟨j9, a9, b9, c9⟩ := A
    refine ⟨j9, ?_, b9, c9⟩
    repeat (rw [up_out (by omega)])
    exact a9
  · repeat (rw [up_out (by omega)])
    exact h24
  · repeat (rw [up_out (by omega)])
  · exact ⟨(up_nj (by decide)).trans up_eq, up_eq, fun j hj => absurd hj (Nat.not_lt_zero j)⟩
  · exact Y.eq (fun w h1 h2 => by repeat (rw [up_out (by omega)])) (fun j h1 h2 w => by repeat (rw [up_out (by omega)]))
  · rintro o m' ⟨v, J, rfl, rfl, rfl, fJ, hJ⟩
    refine ⟨_, _, rfl, rfl, rfl, fJ, ?_⟩
    rw [show cdG t n P (n + 1) p [] [] = condR t n (atomR t n P 5) p from by
      have g9 := cE_top (t := t) (P := P) (C := []) Y.2.2.1.1.1 hpn
      unfold cE at g9
      rw [g9]
      cases condR t n (atomR t n P 5) p with
      | inl e => rfl
      | inr b => rfl] at hJ
    exact hJ

end RGD
