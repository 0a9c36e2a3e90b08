/-! the class's reader: lines, the whole text -/
/-- all but the reader's fields, its text's length too, and the settings being read -/
def fL (I J : Ix) (s y : Nat) : Prop := ∀ z w, (z = s → w = 0 ∨ w = 3) → (z < y ∨ y + 8 < z ∨ (z = y + 7 ∧ w = 0)) → J z w = I z w
section RDT
variable {xs : List Int} {S : List (Nat × Nat)} {T : Nat → Nat → Nat} {cc zz s x y : Nat} {I I' : Ix} {t : Nat → Int} {n : Nat}

theorem mx_31 : mxl 31 = 4 := by decide +kernel
theorem mt_31 : mtc 31 = 4 := by decide +kernel
theorem rk_31 (as : List AV) : rkA 31 as = 32 := rfl
theorem l_31_0 : look 31 0 = some (.aload_n 0, 1, 0, 0, 0, 0) := by decide +kernel
theorem l_31_1 : look 31 1 = some (.iload_n 1, 1, 0, 0, 0, 0) := by decide +kernel
theorem l_31_2 : look 31 2 = some (.aload_n 0, 1, 0, 0, 0, 0) := by decide +kernel
theorem l_31_3 : look 31 3 = some (.getfield 25, 3, 4, 3, 2, 467) := by decide +kernel
theorem l_31_6 : look 31 6 = some (.arraylength, 1, 0, 0, 0, 0) := by decide +kernel
theorem l_31_7 : look 31 7 = some (.invokestatic 29, 3, 0, 2, 5, 1049) := by decide +kernel
theorem l_31_10 : look 31 10 = some (.putfield 35, 3, 4, 4, 0, 468) := by decide +kernel
theorem l_31_13 : look 31 13 = some (.aload_n 0, 1, 0, 0, 0, 0) := by decide +kernel
theorem l_31_14 : look 31 14 = some (.iconst 0, 1, 0, 0, 0, 0) := by decide +kernel
theorem l_31_15 : look 31 15 = some (.putfield 38, 3, 4, 5, 0, 469) := by decide +kernel
theorem l_31_18 : look 31 18 = some (.aload_n 0, 1, 0, 0, 0, 0) := by decide +kernel
theorem l_31_19 : look 31 19 = some (.iconst (-1), 1, 0, 0, 0, 0) := by decide +kernel
theorem l_31_20 : look 31 20 = some (.putfield 18, 3, 4, 1, 0, 463) := by decide +kernel
theorem l_31_23 : look 31 23 = some (.aload_n 0, 1, 0, 0, 0, 0) := by decide +kernel
theorem l_31_24 : look 31 24 = some (.iconst 0, 1, 0, 0, 0, 0) := by decide +kernel
theorem l_31_25 : look 31 25 = some (.putfield 22, 3, 4, 2, 0, 465) := by decide +kernel
theorem l_31_28 : look 31 28 = some (.aload_n 0, 1, 0, 0, 0, 0) := by decide +kernel
theorem l_31_29 : look 31 29 = some (.getfield 12, 3, 4, 0, 2, 461) := by decide +kernel
theorem l_31_32 : look 31 32 = some (.invokevirtual 41, 3, 66, 1, 0, 1050) := by decide +kernel
theorem l_31_35 : look 31 35 = some (.aload_n 0, 1, 0, 0, 0, 0) := by decide +kernel
theorem l_31_36 : look 31 36 = some (.invokevirtual 44, 3, 32, 1, 0, 1051) := by decide +kernel
theorem l_31_39 : look 31 39 = some (.iconst 1, 1, 0, 0, 0, 0) := by decide +kernel
theorem l_31_40 : look 31 40 = some (.istore_n 2, 1, 0, 0, 0, 0) := by decide +kernel
theorem l_31_41 : look 31 41 = some (.iconst 0, 1, 0, 0, 0, 0) := by decide +kernel
theorem l_31_42 : look 31 42 = some (.istore_n 3, 1, 0, 0, 0, 0) := by decide +kernel
theorem l_31_43 : look 31 43 = some (.iload_n 3, 1, 0, 0, 0, 0) := by decide +kernel
theorem l_31_44 : look 31 44 = some (.aload_n 0, 1, 0, 0, 0, 0) := by decide +kernel
theorem l_31_45 : look 31 45 = some (.getfield 35, 3, 4, 4, 0, 468) := by decide +kernel
theorem l_31_48 : look 31 48 = some (.if_icmp .ge 104, 3, 0, 0, 0, 0) := by decide +kernel
theorem l_31_51 : look 31 51 = some (.iload_n 2, 1, 0, 0, 0, 0) := by decide +kernel
theorem l_31_52 : look 31 52 = some (.ifCond .eq 100, 3, 0, 0, 0, 0) := by decide +kernel
theorem l_31_55 : look 31 55 = some (.aload_n 0, 1, 0, 0, 0, 0) := by decide +kernel
theorem l_31_56 : look 31 56 = some (.getfield 47, 3, 4, 7, 0, 471) := by decide +kernel
theorem l_31_59 : look 31 59 = some (.ifCond .eq 93, 3, 0, 0, 0, 0) := by decide +kernel
theorem l_31_62 : look 31 62 = some (.aload_n 0, 1, 0, 0, 0, 0) := by decide +kernel
theorem l_31_63 : look 31 63 = some (.ldc 50, 2, 0, 0, 0, 1055) := by decide +kernel
theorem l_31_65 : look 31 65 = some (.invokevirtual 52, 3, 34, 2, 0, 1056) := by decide +kernel
theorem l_31_68 : look 31 68 = some (.ifCond .eq 11, 3, 0, 0, 0, 0) := by decide +kernel
theorem l_31_71 : look 31 71 = some (.aload_n 0, 1, 0, 0, 0, 0) := by decide +kernel
theorem l_31_72 : look 31 72 = some (.invokevirtual 56, 3, 40, 1, 0, 1062) := by decide +kernel
theorem l_31_75 : look 31 75 = some (.istore_n 2, 1, 0, 0, 0, 0) := by decide +kernel
theorem l_31_76 : look 31 76 = some (.goto 51, 3, 0, 0, 0, 0) := by decide +kernel
theorem l_31_79 : look 31 79 = some (.aload_n 0, 1, 0, 0, 0, 0) := by decide +kernel
theorem l_31_80 : look 31 80 = some (.ldc 60, 2, 1, 0, 0, 1086) := by decide +kernel
theorem l_31_82 : look 31 82 = some (.invokevirtual 52, 3, 34, 2, 0, 1056) := by decide +kernel
theorem l_31_85 : look 31 85 = some (.ifCond .eq 11, 3, 0, 0, 0, 0) := by decide +kernel
theorem l_31_88 : look 31 88 = some (.aload_n 0, 1, 0, 0, 0, 0) := by decide +kernel
theorem l_31_89 : look 31 89 = some (.invokevirtual 62, 3, 41, 1, 0, 1087) := by decide +kernel
theorem l_31_92 : look 31 92 = some (.istore_n 2, 1, 0, 0, 0, 0) := by decide +kernel
theorem l_31_93 : look 31 93 = some (.goto 34, 3, 0, 0, 0, 0) := by decide +kernel
theorem l_31_96 : look 31 96 = some (.aload_n 0, 1, 0, 0, 0, 0) := by decide +kernel
theorem l_31_97 : look 31 97 = some (.ldc 65, 2, 2, 0, 0, 1091) := by decide +kernel
theorem l_31_99 : look 31 99 = some (.invokevirtual 52, 3, 34, 2, 0, 1056) := by decide +kernel
theorem l_31_102 : look 31 102 = some (.ifCond .ne 12, 3, 0, 0, 0, 0) := by decide +kernel
theorem l_31_105 : look 31 105 = some (.aload_n 0, 1, 0, 0, 0, 0) := by decide +kernel
theorem l_31_106 : look 31 106 = some (.ldc 67, 2, 3, 0, 0, 1092) := by decide +kernel
theorem l_31_108 : look 31 108 = some (.invokevirtual 52, 3, 34, 2, 0, 1056) := by decide +kernel
theorem l_31_111 : look 31 111 = some (.ifCond .eq 11, 3, 0, 0, 0, 0) := by decide +kernel
theorem l_31_114 : look 31 114 = some (.aload_n 0, 1, 0, 0, 0, 0) := by decide +kernel
theorem l_31_115 : look 31 115 = some (.invokevirtual 69, 3, 42, 1, 0, 1093) := by decide +kernel
theorem l_31_118 : look 31 118 = some (.istore_n 2, 1, 0, 0, 0, 0) := by decide +kernel
theorem l_31_119 : look 31 119 = some (.goto 8, 3, 0, 0, 0, 0) := by decide +kernel
theorem l_31_122 : look 31 122 = some (.aload_n 0, 1, 0, 0, 0, 0) := by decide +kernel
theorem l_31_123 : look 31 123 = some (.invokevirtual 72, 3, 39, 1, 0, 1142) := by decide +kernel
theorem l_31_126 : look 31 126 = some (.istore_n 2, 1, 0, 0, 0, 0) := by decide +kernel
theorem l_31_127 : look 31 127 = some (.iload_n 2, 1, 0, 0, 0, 0) := by decide +kernel
theorem l_31_128 : look 31 128 = some (.ifCond .eq 16, 3, 0, 0, 0, 0) := by decide +kernel
theorem l_31_131 : look 31 131 = some (.aload_n 0, 1, 0, 0, 0, 0) := by decide +kernel
theorem l_31_132 : look 31 132 = some (.bipush 59, 2, 0, 0, 0, 0) := by decide +kernel
theorem l_31_134 : look 31 134 = some (.invokevirtual 75, 3, 36, 2, 0, 1149) := by decide +kernel
theorem l_31_137 : look 31 137 = some (.ifCond .eq 7, 3, 0, 0, 0, 0) := by decide +kernel
theorem l_31_140 : look 31 140 = some (.iconst 1, 1, 0, 0, 0, 0) := by decide +kernel
theorem l_31_141 : look 31 141 = some (.goto 4, 3, 0, 0, 0, 0) := by decide +kernel
theorem l_31_144 : look 31 144 = some (.iconst 0, 1, 0, 0, 0, 0) := by decide +kernel
theorem l_31_145 : look 31 145 = some (.istore_n 2, 1, 0, 0, 0, 0) := by decide +kernel
theorem l_31_146 : look 31 146 = some (.iinc 3 1, 3, 0, 0, 0, 0) := by decide +kernel
theorem l_31_149 : look 31 149 = some (.goto (-106), 3, 0, 0, 0, 0) := by decide +kernel
theorem l_31_152 : look 31 152 = some (.iload_n 2, 1, 0, 0, 0, 0) := by decide +kernel
theorem l_31_153 : look 31 153 = some (.ireturn, 1, 0, 0, 1, 0) := by decide +kernel
theorem ln_31 (o : oReader S T s x y) (hsy : s < y) (hxy : x < y) {P : Ps} {p tot L k : Nat} (H : RT I s x t n p) (Z : SU I y P [] tot) (hb : 2 * tot ≤ p) {Q : Res → Mem → Prop}
    (kk0 : ∀ J (e : Nat × Nat), lineR t n P p = .inl e → fR I J s y → J s 1 = ((e.2 : Nat) : Int) → J s 2 = ((e.1 : Nat) : Int) → WP xs 31 32 127 [vr s, vi ((L : Nat) : Int), vi 0, vi ((k : Nat) : Int)] [] (S, J, T, cc, zz) Q)
    (kk1 : ∀ J (a : Ps × Nat), lineR t n P p = .inr a → fR I J s y → (J s 1 = I s 1 ∧ J s 2 = I s 2) → rTk J s t n a.2 → (∃ tot', SU J y a.1 [] tot' ∧ 2 * tot' ≤ a.2) → WP xs 31 32 127 [vr s, vi ((L : Nat) : Int), vi 1, vi ((k : Nat) : Int)] [] (S, J, T, cc, zz) Q) : WP xs 31 32 62 [vr s, vi ((L : Nat) : Int), vi 1, vi ((k : Nat) : Int)] [] (S, I, T, cc, zz) Q := by
  rcases Bool.eq_false_or_eq_true (isWL t n (strB 0) p) with hw0 | hw0
  · skip
    cases hf1 : portL t n P p with
    | inl e9 =>
      have hR9 : lineR t n P p = .inl e9 := by unfold lineR; rw [if_pos hw0]; exact hf1
      refine w_aln l_31_62 rfl ?_
      refine w_ldc l_31_63 (by decide) ?_
      refine q_iv [vs (2 * 0 + 4)] [] l_31_65 rfl rfl (Nat.le_of_ble_eq_true rfl) (by rw [mx_34]; exact Nat.le_of_ble_eq_true rfl) (by rw [mt_34]; exact oReader_sh o) (by rw [mt_34]; decide) (by rw [rk_34]; decide) (s_34 o H (q := 0) (by decide)) ?_
      refine w_beq 79 l_31_68 (by decide) (fun hx => absurd hx (by rw [hw0]; decide)) (fun _ => ?_)
      refine w_aln l_31_71 rfl ?_
      refine p_iv [] [] l_31_72 rfl rfl (Nat.le_of_ble_eq_true rfl) (by rw [mx_40]; exact Nat.le_of_ble_eq_true rfl) (by rw [mt_40]; exact oReader_sh o) (by rw [mt_40]; decide) (by rw [rk_40]; decide) (by have g9 := s_40 (xs := xs) (cc := cc) (zz := zz) o H hsy hxy Z; rw [hf1] at g9; exact g9) (fun v I2 hv => ?_)
      obtain ⟨f2, rfl, e1, e2⟩ := hv
      refine w_isn l_31_75 ⟨Nat.le_of_ble_eq_true rfl, rfl⟩ ?_
      refine w_go 127 l_31_76 (by decide) ?_
      exact kk0 _ _ hR9 f2 e1 e2
    | inr a9 =>
      have hR9 : lineR t n P p = .inr a9 := by unfold lineR; rw [if_pos hw0]; exact hf1
      refine w_aln l_31_62 rfl ?_
      refine w_ldc l_31_63 (by decide) ?_
      refine q_iv [vs (2 * 0 + 4)] [] l_31_65 rfl rfl (Nat.le_of_ble_eq_true rfl) (by rw [mx_34]; exact Nat.le_of_ble_eq_true rfl) (by rw [mt_34]; exact oReader_sh o) (by rw [mt_34]; decide) (by rw [rk_34]; decide) (s_34 o H (q := 0) (by decide)) ?_
      refine w_beq 79 l_31_68 (by decide) (fun hx => absurd hx (by rw [hw0]; decide)) (fun _ => ?_)
      refine w_aln l_31_71 rfl ?_
      refine p_iv [] [] l_31_72 rfl rfl (Nat.le_of_ble_eq_true rfl) (by rw [mx_40]; exact Nat.le_of_ble_eq_true rfl) (by rw [mt_40]; exact oReader_sh o) (by rw [mt_40]; decide) (by rw [rk_40]; decide) (by have g9 := s_40 (xs := xs) (cc := cc) (zz := zz) o H hsy hxy Z; rw [hf1] at g9; exact g9) (fun v I2 hv => ?_)
      obtain ⟨f2, rfl, b2, hk2, Z2⟩ := hv
      refine w_isn l_31_75 ⟨Nat.le_of_ble_eq_true rfl, rfl⟩ ?_
      refine w_go 127 l_31_76 (by decide) ?_
      exact kk1 _ _ hR9 f2 b2 hk2 ⟨tot, Z2, Nat.le_trans hb (portL_ge hf1)⟩
  rcases Bool.eq_false_or_eq_true (isWL t n (strB 1) p) with hw1 | hw1
  · skip
    cases hf1 : polL t n P p with
    | inl e9 =>
      have hR9 : lineR t n P p = .inl e9 := by unfold lineR; rw [if_neg (by rw [hw0]; decide), if_pos hw1]; exact hf1
      refine w_aln l_31_62 rfl ?_
      refine w_ldc l_31_63 (by decide) ?_
      refine q_iv [vs (2 * 0 + 4)] [] l_31_65 rfl rfl (Nat.le_of_ble_eq_true rfl) (by rw [mx_34]; exact Nat.le_of_ble_eq_true rfl) (by rw [mt_34]; exact oReader_sh o) (by rw [mt_34]; decide) (by rw [rk_34]; decide) (s_34 o H (q := 0) (by decide)) ?_
      refine w_beq 79 l_31_68 (by decide) (fun _ => ?_) (fun hx => absurd hx (by rw [hw0]; decide))
      refine w_aln l_31_79 rfl ?_
      refine w_ldc l_31_80 (by decide) ?_
      refine q_iv [vs (2 * 1 + 4)] [] l_31_82 rfl rfl (Nat.le_of_ble_eq_true rfl) (by rw [mx_34]; exact Nat.le_of_ble_eq_true rfl) (by rw [mt_34]; exact oReader_sh o) (by rw [mt_34]; decide) (by rw [rk_34]; decide) (s_34 o H (q := 1) (by decide)) ?_
      refine w_beq 96 l_31_85 (by decide) (fun hx => absurd hx (by rw [hw1]; decide)) (fun _ => ?_)
      refine w_aln l_31_88 rfl ?_
      refine p_iv [] [] l_31_89 rfl rfl (Nat.le_of_ble_eq_true rfl) (by rw [mx_41]; exact Nat.le_of_ble_eq_true rfl) (by rw [mt_41]; exact oReader_sh o) (by rw [mt_41]; decide) (by rw [rk_41]; decide) (by have g9 := s_41 (xs := xs) (cc := cc) (zz := zz) o H hsy hxy Z; rw [hf1] at g9; exact g9) (fun v I2 hv => ?_)
      obtain ⟨f2, rfl, e1, e2⟩ := hv
      refine w_isn l_31_92 ⟨Nat.le_of_ble_eq_true rfl, rfl⟩ ?_
      refine w_go 127 l_31_93 (by decide) ?_
      exact kk0 _ _ hR9 f2 e1 e2
    | inr a9 =>
      have hR9 : lineR t n P p = .inr a9 := by unfold lineR; rw [if_neg (by rw [hw0]; decide), if_pos hw1]; exact hf1
      refine w_aln l_31_62 rfl ?_
      refine w_ldc l_31_63 (by decide) ?_
      refine q_iv [vs (2 * 0 + 4)] [] l_31_65 rfl rfl (Nat.le_of_ble_eq_true rfl) (by rw [mx_34]; exact Nat.le_of_ble_eq_true rfl) (by rw [mt_34]; exact oReader_sh o) (by rw [mt_34]; decide) (by rw [rk_34]; decide) (s_34 o H (q := 0) (by decide)) ?_
      refine w_beq 79 l_31_68 (by decide) (fun _ => ?_) (fun hx => absurd hx (by rw [hw0]; decide))
      refine w_aln l_31_79 rfl ?_
      refine w_ldc l_31_80 (by decide) ?_
      refine q_iv [vs (2 * 1 + 4)] [] l_31_82 rfl rfl (Nat.le_of_ble_eq_true rfl) (by rw [mx_34]; exact Nat.le_of_ble_eq_true rfl) (by rw [mt_34]; exact oReader_sh o) (by rw [mt_34]; decide) (by rw [rk_34]; decide) (s_34 o H (q := 1) (by decide)) ?_
      refine w_beq 96 l_31_85 (by decide) (fun hx => absurd hx (by rw [hw1]; decide)) (fun _ => ?_)
      refine w_aln l_31_88 rfl ?_
      refine p_iv [] [] l_31_89 rfl rfl (Nat.le_of_ble_eq_true rfl) (by rw [mx_41]; exact Nat.le_of_ble_eq_true rfl) (by rw [mt_41]; exact oReader_sh o) (by rw [mt_41]; decide) (by rw [rk_41]; decide) (by have g9 := s_41 (xs := xs) (cc := cc) (zz := zz) o H hsy hxy Z; rw [hf1] at g9; exact g9) (fun v I2 hv => ?_)
      obtain ⟨f2, rfl, b2, hk2, Z2⟩ := hv
      refine w_isn l_31_92 ⟨Nat.le_of_ble_eq_true rfl, rfl⟩ ?_
      refine w_go 127 l_31_93 (by decide) ?_
      exact kk1 _ _ hR9 f2 b2 hk2 ⟨tot, Z2, Nat.le_trans hb (polL_ge hf1)⟩
  rcases Bool.eq_false_or_eq_true (isWL t n (strB 2) p) with hw2 | hw2
  · skip
    cases hf1 : rulL' t n P (isWL t n (strB 3) p) p with
    | inl e9 =>
      have hR9 : lineR t n P p = .inl e9 := by unfold lineR; rw [if_neg (by rw [hw0]; decide), if_neg (by rw [hw1]; decide), if_pos (by rw [hw2]; rfl)]; exact hf1
      refine w_aln l_31_62 rfl ?_
      refine w_ldc l_31_63 (by decide) ?_
      refine q_iv [vs (2 * 0 + 4)] [] l_31_65 rfl rfl (Nat.le_of_ble_eq_true rfl) (by rw [mx_34]; exact Nat.le_of_ble_eq_true rfl) (by rw [mt_34]; exact oReader_sh o) (by rw [mt_34]; decide) (by rw [rk_34]; decide) (s_34 o H (q := 0) (by decide)) ?_
      refine w_beq 79 l_31_68 (by decide) (fun _ => ?_) (fun hx => absurd hx (by rw [hw0]; decide))
      refine w_aln l_31_79 rfl ?_
      refine w_ldc l_31_80 (by decide) ?_
      refine q_iv [vs (2 * 1 + 4)] [] l_31_82 rfl rfl (Nat.le_of_ble_eq_true rfl) (by rw [mx_34]; exact Nat.le_of_ble_eq_true rfl) (by rw [mt_34]; exact oReader_sh o) (by rw [mt_34]; decide) (by rw [rk_34]; decide) (s_34 o H (q := 1) (by decide)) ?_
      refine w_beq 96 l_31_85 (by decide) (fun _ => ?_) (fun hx => absurd hx (by rw [hw1]; decide))
      refine w_aln l_31_96 rfl ?_
      refine w_ldc l_31_97 (by decide) ?_
      refine q_iv [vs (2 * 2 + 4)] [] l_31_99 rfl rfl (Nat.le_of_ble_eq_true rfl) (by rw [mx_34]; exact Nat.le_of_ble_eq_true rfl) (by rw [mt_34]; exact oReader_sh o) (by rw [mt_34]; decide) (by rw [rk_34]; decide) (s_34 o H (q := 2) (by decide)) ?_
      refine w_bne 114 l_31_102 (by decide) (fun _ => ?_) (fun hx => absurd hx (by rw [hw2]; decide))
      refine w_aln l_31_114 rfl ?_
      refine p_iv [] [] l_31_115 rfl rfl (Nat.le_of_ble_eq_true rfl) (by rw [mx_42]; exact Nat.le_of_ble_eq_true rfl) (by rw [mt_42]; exact oReader_sh o) (by rw [mt_42]; decide) (by rw [rk_42]; decide) (by have g9 := s_42 (xs := xs) (cc := cc) (zz := zz) o hsy hxy H Z hb; rw [hf1] at g9; exact g9) (fun v I2 hv => ?_)
      obtain ⟨f2, rfl, e1, e2⟩ := hv
      refine w_isn l_31_118 ⟨Nat.le_of_ble_eq_true rfl, rfl⟩ ?_
      refine w_go 127 l_31_119 (by decide) ?_
      exact kk0 _ _ hR9 f2 e1 e2
    | inr a9 =>
      have hR9 : lineR t n P p = .inr a9 := by unfold lineR; rw [if_neg (by rw [hw0]; decide), if_neg (by rw [hw1]; decide), if_pos (by rw [hw2]; rfl)]; exact hf1
      refine w_aln l_31_62 rfl ?_
      refine w_ldc l_31_63 (by decide) ?_
      refine q_iv [vs (2 * 0 + 4)] [] l_31_65 rfl rfl (Nat.le_of_ble_eq_true rfl) (by rw [mx_34]; exact Nat.le_of_ble_eq_true rfl) (by rw [mt_34]; exact oReader_sh o) (by rw [mt_34]; decide) (by rw [rk_34]; decide) (s_34 o H (q := 0) (by decide)) ?_
      refine w_beq 79 l_31_68 (by decide) (fun _ => ?_) (fun hx => absurd hx (by rw [hw0]; decide))
      refine w_aln l_31_79 rfl ?_
      refine w_ldc l_31_80 (by decide) ?_
      refine q_iv [vs (2 * 1 + 4)] [] l_31_82 rfl rfl (Nat.le_of_ble_eq_true rfl) (by rw [mx_34]; exact Nat.le_of_ble_eq_true rfl) (by rw [mt_34]; exact oReader_sh o) (by rw [mt_34]; decide) (by rw [rk_34]; decide) (s_34 o H (q := 1) (by decide)) ?_
      refine w_beq 96 l_31_85 (by decide) (fun _ => ?_) (fun hx => absurd hx (by rw [hw1]; decide))
      refine w_aln l_31_96 rfl ?_
      refine w_ldc l_31_97 (by decide) ?_
      refine q_iv [vs (2 * 2 + 4)] [] l_31_99 rfl rfl (Nat.le_of_ble_eq_true rfl) (by rw [mx_34]; exact Nat.le_of_ble_eq_true rfl) (by rw [mt_34]; exact oReader_sh o) (by rw [mt_34]; decide) (by rw [rk_34]; decide) (s_34 o H (q := 2) (by decide)) ?_
      refine w_bne 114 l_31_102 (by decide) (fun _ => ?_) (fun hx => absurd hx (by rw [hw2]; decide))
      refine w_aln l_31_114 rfl ?_
      refine p_iv [] [] l_31_115 rfl rfl (Nat.le_of_ble_eq_true rfl) (by rw [mx_42]; exact Nat.le_of_ble_eq_true rfl) (by rw [mt_42]; exact oReader_sh o) (by rw [mt_42]; decide) (by rw [rk_42]; decide) (by have g9 := s_42 (xs := xs) (cc := cc) (zz := zz) o hsy hxy H Z hb; rw [hf1] at g9; exact g9) (fun v I2 hv => ?_)
      obtain ⟨f2, rfl, b2, hk2, tot2, Z2, hb2⟩ := hv
      refine w_isn l_31_118 ⟨Nat.le_of_ble_eq_true rfl, rfl⟩ ?_
      refine w_go 127 l_31_119 (by decide) ?_
      exact kk1 _ _ hR9 f2 b2 hk2 ⟨tot2, Z2, hb2⟩
  rcases Bool.eq_false_or_eq_true (isWL t n (strB 3) p) with hw3 | hw3
  · skip
    cases hf1 : rulL' t n P (isWL t n (strB 3) p) p with
    | inl e9 =>
      have hR9 : lineR t n P p = .inl e9 := by unfold lineR; rw [if_neg (by rw [hw0]; decide), if_neg (by rw [hw1]; decide), if_pos (by rw [hw2, hw3]; rfl)]; exact hf1
      refine w_aln l_31_62 rfl ?_
      refine w_ldc l_31_63 (by decide) ?_
      refine q_iv [vs (2 * 0 + 4)] [] l_31_65 rfl rfl (Nat.le_of_ble_eq_true rfl) (by rw [mx_34]; exact Nat.le_of_ble_eq_true rfl) (by rw [mt_34]; exact oReader_sh o) (by rw [mt_34]; decide) (by rw [rk_34]; decide) (s_34 o H (q := 0) (by decide)) ?_
      refine w_beq 79 l_31_68 (by decide) (fun _ => ?_) (fun hx => absurd hx (by rw [hw0]; decide))
      refine w_aln l_31_79 rfl ?_
      refine w_ldc l_31_80 (by decide) ?_
      refine q_iv [vs (2 * 1 + 4)] [] l_31_82 rfl rfl (Nat.le_of_ble_eq_true rfl) (by rw [mx_34]; exact Nat.le_of_ble_eq_true rfl) (by rw [mt_34]; exact oReader_sh o) (by rw [mt_34]; decide) (by rw [rk_34]; decide) (s_34 o H (q := 1) (by decide)) ?_
      refine w_beq 96 l_31_85 (by decide) (fun _ => ?_) (fun hx => absurd hx (by rw [hw1]; decide))
      refine w_aln l_31_96 rfl ?_
      refine w_ldc l_31_97 (by decide) ?_
      refine q_iv [vs (2 * 2 + 4)] [] l_31_99 rfl rfl (Nat.le_of_ble_eq_true rfl) (by rw [mx_34]; exact Nat.le_of_ble_eq_true rfl) (by rw [mt_34]; exact oReader_sh o) (by rw [mt_34]; decide) (by rw [rk_34]; decide) (s_34 o H (q := 2) (by decide)) ?_
      refine w_bne 114 l_31_102 (by decide) (fun hx => absurd hx (by rw [hw2]; decide)) (fun _ => ?_)
      refine w_aln l_31_105 rfl ?_
      refine w_ldc l_31_106 (by decide) ?_
      refine q_iv [vs (2 * 3 + 4)] [] l_31_108 rfl rfl (Nat.le_of_ble_eq_true rfl) (by rw [mx_34]; exact Nat.le_of_ble_eq_true rfl) (by rw [mt_34]; exact oReader_sh o) (by rw [mt_34]; decide) (by rw [rk_34]; decide) (s_34 o H (q := 3) (by decide)) ?_
      refine w_beq 122 l_31_111 (by decide) (fun hx => absurd hx (by rw [hw3]; decide)) (fun _ => ?_)
      refine w_aln l_31_114 rfl ?_
      refine p_iv [] [] l_31_115 rfl rfl (Nat.le_of_ble_eq_true rfl) (by rw [mx_42]; exact Nat.le_of_ble_eq_true rfl) (by rw [mt_42]; exact oReader_sh o) (by rw [mt_42]; decide) (by rw [rk_42]; decide) (by have g9 := s_42 (xs := xs) (cc := cc) (zz := zz) o hsy hxy H Z hb; rw [hf1] at g9; exact g9) (fun v I2 hv => ?_)
      obtain ⟨f2, rfl, e1, e2⟩ := hv
      refine w_isn l_31_118 ⟨Nat.le_of_ble_eq_true rfl, rfl⟩ ?_
      refine w_go 127 l_31_119 (by decide) ?_
      exact kk0 _ _ hR9 f2 e1 e2
    | inr a9 =>
      have hR9 : lineR t n P p = .inr a9 := by unfold lineR; rw [if_neg (by rw [hw0]; decide), if_neg (by rw [hw1]; decide), if_pos (by rw [hw2, hw3]; rfl)]; exact hf1
      refine w_aln l_31_62 rfl ?_
      refine w_ldc l_31_63 (by decide) ?_
      refine q_iv [vs (2 * 0 + 4)] [] l_31_65 rfl rfl (Nat.le_of_ble_eq_true rfl) (by rw [mx_34]; exact Nat.le_of_ble_eq_true rfl) (by rw [mt_34]; exact oReader_sh o) (by rw [mt_34]; decide) (by rw [rk_34]; decide) (s_34 o H (q := 0) (by decide)) ?_
      refine w_beq 79 l_31_68 (by decide) (fun _ => ?_) (fun hx => absurd hx (by rw [hw0]; decide))
      refine w_aln l_31_79 rfl ?_
      refine w_ldc l_31_80 (by decide) ?_
      refine q_iv [vs (2 * 1 + 4)] [] l_31_82 rfl rfl (Nat.le_of_ble_eq_true rfl) (by rw [mx_34]; exact Nat.le_of_ble_eq_true rfl) (by rw [mt_34]; exact oReader_sh o) (by rw [mt_34]; decide) (by rw [rk_34]; decide) (s_34 o H (q := 1) (by decide)) ?_
      refine w_beq 96 l_31_85 (by decide) (fun _ => ?_) (fun hx => absurd hx (by rw [hw1]; decide))
      refine w_aln l_31_96 rfl ?_
      refine w_ldc l_31_97 (by decide) ?_
      refine q_iv [vs (2 * 2 + 4)] [] l_31_99 rfl rfl (Nat.le_of_ble_eq_true rfl) (by rw [mx_34]; exact Nat.le_of_ble_eq_true rfl) (by rw [mt_34]; exact oReader_sh o) (by rw [mt_34]; decide) (by rw [rk_34]; decide) (s_34 o H (q := 2) (by decide)) ?_
      refine w_bne 114 l_31_102 (by decide) (fun hx => absurd hx (by rw [hw2]; decide)) (fun _ => ?_)
      refine w_aln l_31_105 rfl ?_
      refine w_ldc l_31_106 (by decide) ?_
      refine q_iv [vs (2 * 3 + 4)] [] l_31_108 rfl rfl (Nat.le_of_ble_eq_true rfl) (by rw [mx_34]; exact Nat.le_of_ble_eq_true rfl) (by rw [mt_34]; exact oReader_sh o) (by rw [mt_34]; decide) (by rw [rk_34]; decide) (s_34 o H (q := 3) (by decide)) ?_
      refine w_beq 122 l_31_111 (by decide) (fun hx => absurd hx (by rw [hw3]; decide)) (fun _ => ?_)
      refine w_aln l_31_114 rfl ?_
      refine p_iv [] [] l_31_115 rfl rfl (Nat.le_of_ble_eq_true rfl) (by rw [mx_42]; exact Nat.le_of_ble_eq_true rfl) (by rw [mt_42]; exact oReader_sh o) (by rw [mt_42]; decide) (by rw [rk_42]; decide) (by have g9 := s_42 (xs := xs) (cc := cc) (zz := zz) o hsy hxy H Z hb; rw [hf1] at g9; exact g9) (fun v I2 hv => ?_)
      obtain ⟨f2, rfl, b2, hk2, tot2, Z2, hb2⟩ := hv
      refine w_isn l_31_118 ⟨Nat.le_of_ble_eq_true rfl, rfl⟩ ?_
      refine w_go 127 l_31_119 (by decide) ?_
      exact kk1 _ _ hR9 f2 b2 hk2 ⟨tot2, Z2, hb2⟩
  cases hf1 : limL t n P p with
  | inl e9 =>
    have hR9 : lineR t n P p = .inl e9 := by unfold lineR; rw [if_neg (by rw [hw0]; decide), if_neg (by rw [hw1]; decide), if_neg (by rw [hw2, hw3]; decide)]; exact hf1
    refine w_aln l_31_62 rfl ?_
    refine w_ldc l_31_63 (by decide) ?_
    refine q_iv [vs (2 * 0 + 4)] [] l_31_65 rfl rfl (Nat.le_of_ble_eq_true rfl) (by rw [mx_34]; exact Nat.le_of_ble_eq_true rfl) (by rw [mt_34]; exact oReader_sh o) (by rw [mt_34]; decide) (by rw [rk_34]; decide) (s_34 o H (q := 0) (by decide)) ?_
    refine w_beq 79 l_31_68 (by decide) (fun _ => ?_) (fun hx => absurd hx (by rw [hw0]; decide))
    refine w_aln l_31_79 rfl ?_
    refine w_ldc l_31_80 (by decide) ?_
    refine q_iv [vs (2 * 1 + 4)] [] l_31_82 rfl rfl (Nat.le_of_ble_eq_true rfl) (by rw [mx_34]; exact Nat.le_of_ble_eq_true rfl) (by rw [mt_34]; exact oReader_sh o) (by rw [mt_34]; decide) (by rw [rk_34]; decide) (s_34 o H (q := 1) (by decide)) ?_
    refine w_beq 96 l_31_85 (by decide) (fun _ => ?_) (fun hx => absurd hx (by rw [hw1]; decide))
    refine w_aln l_31_96 rfl ?_
    refine w_ldc l_31_97 (by decide) ?_
    refine q_iv [vs (2 * 2 + 4)] [] l_31_99 rfl rfl (Nat.le_of_ble_eq_true rfl) (by rw [mx_34]; exact Nat.le_of_ble_eq_true rfl) (by rw [mt_34]; exact oReader_sh o) (by rw [mt_34]; decide) (by rw [rk_34]; decide) (s_34 o H (q := 2) (by decide)) ?_
    refine w_bne 114 l_31_102 (by decide) (fun hx => absurd hx (by rw [hw2]; decide)) (fun _ => ?_)
    refine w_aln l_31_105 rfl ?_
    refine w_ldc l_31_106 (by decide) ?_
    refine q_iv [vs (2 * 3 + 4)] [] l_31_108 rfl rfl (Nat.le_of_ble_eq_true rfl) (by rw [mx_34]; exact Nat.le_of_ble_eq_true rfl) (by rw [mt_34]; exact oReader_sh o) (by rw [mt_34]; decide) (by rw [rk_34]; decide) (s_34 o H (q := 3) (by decide)) ?_
    refine w_beq 122 l_31_111 (by decide) (fun _ => ?_) (fun hx => absurd hx (by rw [hw3]; decide))
    refine w_aln l_31_122 rfl ?_
    refine p_iv [] [] l_31_123 rfl rfl (Nat.le_of_ble_eq_true rfl) (by rw [mx_39]; exact Nat.le_of_ble_eq_true rfl) (by rw [mt_39]; exact oReader_sh o) (by rw [mt_39]; decide) (by rw [rk_39]; decide) (by have g9 := s_39 (xs := xs) (cc := cc) (zz := zz) o H hsy hxy Z; rw [hf1] at g9; exact g9) (fun v I2 hv => ?_)
    obtain ⟨f2, rfl, e1, e2⟩ := hv
    refine w_isn l_31_126 ⟨Nat.le_of_ble_eq_true rfl, rfl⟩ ?_
    exact kk0 _ _ hR9 f2 e1 e2
  | inr a9 =>
    have hR9 : lineR t n P p = .inr a9 := by unfold lineR; rw [if_neg (by rw [hw0]; decide), if_neg (by rw [hw1]; decide), if_neg (by rw [hw2, hw3]; decide)]; exact hf1
    refine w_aln l_31_62 rfl ?_
    refine w_ldc l_31_63 (by decide) ?_
    refine q_iv [vs (2 * 0 + 4)] [] l_31_65 rfl rfl (Nat.le_of_ble_eq_true rfl) (by rw [mx_34]; exact Nat.le_of_ble_eq_true rfl) (by rw [mt_34]; exact oReader_sh o) (by rw [mt_34]; decide) (by rw [rk_34]; decide) (s_34 o H (q := 0) (by decide)) ?_
    refine w_beq 79 l_31_68 (by decide) (fun _ => ?_) (fun hx => absurd hx (by rw [hw0]; decide))
    refine w_aln l_31_79 rfl ?_
    refine w_ldc l_31_80 (by decide) ?_
    refine q_iv [vs (2 * 1 + 4)] [] l_31_82 rfl rfl (Nat.le_of_ble_eq_true rfl) (by rw [mx_34]; exact Nat.le_of_ble_eq_true rfl) (by rw [mt_34]; exact oReader_sh o) (by rw [mt_34]; decide) (by rw [rk_34]; decide) (s_34 o H (q := 1) (by decide)) ?_
    refine w_beq 96 l_31_85 (by decide) (fun _ => ?_) (fun hx => absurd hx (by rw [hw1]; decide))
    refine w_aln l_31_96 rfl ?_
    refine w_ldc l_31_97 (by decide) ?_
    refine q_iv [vs (2 * 2 + 4)] [] l_31_99 rfl rfl (Nat.le_of_ble_eq_true rfl) (by rw [mx_34]; exact Nat.le_of_ble_eq_true rfl) (by rw [mt_34]; exact oReader_sh o) (by rw [mt_34]; decide) (by rw [rk_34]; decide) (s_34 o H (q := 2) (by decide)) ?_
    refine w_bne 114 l_31_102 (by decide) (fun hx => absurd hx (by rw [hw2]; decide)) (fun _ => ?_)
    refine w_aln l_31_105 rfl ?_
    refine w_ldc l_31_106 (by decide) ?_
    refine q_iv [vs (2 * 3 + 4)] [] l_31_108 rfl rfl (Nat.le_of_ble_eq_true rfl) (by rw [mx_34]; exact Nat.le_of_ble_eq_true rfl) (by rw [mt_34]; exact oReader_sh o) (by rw [mt_34]; decide) (by rw [rk_34]; decide) (s_34 o H (q := 3) (by decide)) ?_
    refine w_beq 122 l_31_111 (by decide) (fun _ => ?_) (fun hx => absurd hx (by rw [hw3]; decide))
    refine w_aln l_31_122 rfl ?_
    refine p_iv [] [] l_31_123 rfl rfl (Nat.le_of_ble_eq_true rfl) (by rw [mx_39]; exact Nat.le_of_ble_eq_true rfl) (by rw [mt_39]; exact oReader_sh o) (by rw [mt_39]; decide) (by rw [rk_39]; decide) (by have g9 := s_39 (xs := xs) (cc := cc) (zz := zz) o H hsy hxy Z; rw [hf1] at g9; exact g9) (fun v I2 hv => ?_)
    obtain ⟨f2, rfl, b2, hk2, Z2⟩ := hv
    refine w_isn l_31_126 ⟨Nat.le_of_ble_eq_true rfl, rfl⟩ ?_
    exact kk1 _ _ hR9 f2 b2 hk2 ⟨tot, Z2, Nat.le_trans hb (limL_ge hf1)⟩

theorem lp_31 {I0 : Ix} (o : oReader S T s x y) (hsy : s < y) (hxy : x < y) {L : Nat} : ∀ d k P p tot I, k + d = n → RT I s x t n p → SU I y P [] tot → 2 * tot ≤ p → fR I0 I s y → (I s 1 = I0 s 1 ∧ I s 2 = I0 s 2) → WP xs 31 32 43 [vr s, vi ((L : Nat) : Int), vi 1, vi ((k : Nat) : Int)] [] (S, I, T, cc, zz) (RP S T cc zz (fun v I' => fR I0 I' s y ∧ RO I0 s v I' (linesR t n d P p) (fun a => ∃ tot, SU I' y a [] tot))) := by
  intro d
  induction d with
  | zero =>
    intro k P p tot I hk H Z hb fi hbb
    have h600 := H.1.2.1
    refine w_iln l_31_43 rfl ?_
    refine w_aln l_31_44 rfl ?_
    refine w_gi ((n : Nat) : Int) l_31_45 (oReader_sh o) H.1.1 ?_
    refine w_cge 152 l_31_48 (by decide) (fun _ => ?_) (fun hx => absurd hx (by omega))
    refine w_iln l_31_152 rfl ?_
    refine w_ir l_31_153 (by decide) ?_
    exact ⟨_, _, rfl, rfl, fi, rfl, hbb, _, Z⟩
  | succ d ih =>
    intro k P p tot I hk H Z hb fi hbb
    have h600 := H.1.2.1
    by_cases hk0 : tkk t n p = 0
    · have hR9 : linesR t n (d + 1) P p = .inr P := by
        rw [linesR, if_pos hk0]
      refine w_iln l_31_43 rfl ?_
      refine w_aln l_31_44 rfl ?_
      refine w_gi ((n : Nat) : Int) l_31_45 (oReader_sh o) H.1.1 ?_
      refine w_cge 152 l_31_48 (by decide) (fun hx => absurd hx (by omega)) (fun _ => ?_)
      refine w_iln l_31_51 rfl ?_
      refine w_zeq 152 l_31_52 (by decide) (fun hx => absurd hx (by decide)) (fun _ => ?_)
      refine w_aln l_31_55 rfl ?_
      refine w_gi (((tkk t n p) : Nat) : Int) l_31_56 (oReader_sh o) H.2.2.2.1 ?_
      refine w_zeq 152 l_31_59 (by decide) (fun _ => ?_) (fun hx => absurd hx (by omega))
      refine w_iln l_31_152 rfl ?_
      refine w_ir l_31_153 (by decide) ?_
      exact ⟨_, _, rfl, rfl, fi, by rw [hR9]; exact ⟨rfl, hbb, _, Z⟩⟩
    · skip
      refine w_iln l_31_43 rfl ?_
      refine w_aln l_31_44 rfl ?_
      refine w_gi ((n : Nat) : Int) l_31_45 (oReader_sh o) H.1.1 ?_
      refine w_cge 152 l_31_48 (by decide) (fun hx => absurd hx (by omega)) (fun _ => ?_)
      refine w_iln l_31_51 rfl ?_
      refine w_zeq 152 l_31_52 (by decide) (fun hx => absurd hx (by decide)) (fun _ => ?_)
      refine w_aln l_31_55 rfl ?_
      refine w_gi (((tkk t n p) : Nat) : Int) l_31_56 (oReader_sh o) H.2.2.2.1 ?_
      refine w_zeq 152 l_31_59 (by decide) (fun hx => absurd hx (by omega)) (fun _ => ?_)
      refine ln_31 o hsy hxy H Z hb (fun J e hL f2 e1 e2 => ?_) (fun J a hL f2 b2 hk2 hZ2 => ?_)
      · have hR9 : linesR t n (d + 1) P p = .inl e := by
          rw [linesR, if_neg hk0, hL]
        have h4 : J s 4 = ((n : Nat) : Int) := (f2 s 4 (fun _ => by decide) (by omega)).trans H.1.1
        refine w_iln l_31_127 rfl ?_
        refine w_zeq 144 l_31_128 (by decide) (fun _ => ?_) (fun hx => absurd hx (by decide))
        refine w_ic l_31_144 (by decide) ?_
        refine w_isn l_31_145 ⟨Nat.le_of_ble_eq_true rfl, rfl⟩ ?_
        refine w_inc ((k + 1 : Nat) : Int) l_31_146 rfl rfl (by unfold wr; omega) ?_
        refine w_go 43 l_31_149 (by decide) ?_
        refine w_iln l_31_43 rfl ?_
        refine w_aln l_31_44 rfl ?_
        refine w_gi ((n : Nat) : Int) l_31_45 (oReader_sh o) h4 ?_
        refine w_cge 152 l_31_48 (by decide) (fun h1 => ?_) (fun h1 => ?_)
        · skip
          refine w_iln l_31_152 rfl ?_
          refine w_ir l_31_153 (by decide) ?_
          exact ⟨_, _, rfl, rfl, fi.tr f2, by rw [hR9]; exact ⟨rfl, e1, e2⟩⟩
        · skip
          refine w_iln l_31_51 rfl ?_
          refine w_zeq 152 l_31_52 (by decide) (fun _ => ?_) (fun hx => absurd hx (by decide))
          refine w_iln l_31_152 rfl ?_
          refine w_ir l_31_153 (by decide) ?_
          exact ⟨_, _, rfl, rfl, fi.tr f2, by rw [hR9]; exact ⟨rfl, e1, e2⟩⟩
      · obtain ⟨P2, p2⟩ := a
        obtain ⟨tot2, Z2, hb2⟩ := hZ2
        have H2 : RT J s x t n p2 := ⟨H.1.fR (oReader_ne o) ⟨hxy, hsy⟩ f2, hk2⟩
        rcases Bool.eq_false_or_eq_true (isSg t n ((59 : Nat) : Int) p2) with hs | hs
        · skip
          refine w_iln l_31_127 rfl ?_
          refine w_zeq 144 l_31_128 (by decide) (fun hx => absurd hx (by decide)) (fun _ => ?_)
          refine w_aln l_31_131 rfl ?_
          refine w_bp l_31_132 (by decide) ?_
          refine p_iv [vi 59] [] l_31_134 rfl rfl (Nat.le_of_ble_eq_true rfl) (by rw [mx_36]; exact Nat.le_of_ble_eq_true rfl) (by rw [mt_36]; exact oReader_sh o) (by rw [mt_36]; decide) (by rw [rk_36]; decide) (s_36 (c := 59) o H2 (by omega) hs) (fun v I3 hv => ?_)
          obtain ⟨rfl, hk3, f3⟩ := hv
          refine w_zeq 144 l_31_137 (by decide) (fun hx => absurd hx (by decide)) (fun _ => ?_)
          refine w_ic l_31_140 (by decide) ?_
          refine w_go 145 l_31_141 (by decide) ?_
          refine w_isn l_31_145 ⟨Nat.le_of_ble_eq_true rfl, rfl⟩ ?_
          refine w_inc ((k + 1 : Nat) : Int) l_31_146 rfl rfl (by unfold wr; omega) ?_
          refine w_go 43 l_31_149 (by decide) ?_
          have hR9 : linesR t n (d + 1) P p = linesR t n d P2 (nxt t n p2) := by
            rw [linesR, if_neg hk0, hL]
            exact if_pos hs
          rw [hR9]
          have f3' := f3.S.R y
          have g1 := ((fi.tr f2).tr f3')
          exact ih (k + 1) P2 (nxt t n p2) tot2 I3 (by omega) ⟨H2.1.fR (oReader_ne o) ⟨hxy, hsy⟩ f3', hk3⟩ (Z2.fS hsy f3.S) (Nat.le_trans hb2 nxt_ge) g1 ⟨(f3 s 1 (fun _ => by decide)).trans (b2.1.trans hbb.1), (f3 s 2 (fun _ => by decide)).trans (b2.2.trans hbb.2)⟩
        · have hR9 : linesR t n (d + 1) P p = .inl (1, p2) := by
            rw [linesR, if_neg hk0, hL]
            exact if_neg (by rw [show (59 : Int) = ((59 : Nat) : Int) from rfl, hs]; decide)
          refine w_iln l_31_127 rfl ?_
          refine w_zeq 144 l_31_128 (by decide) (fun hx => absurd hx (by decide)) (fun _ => ?_)
          refine w_aln l_31_131 rfl ?_
          refine w_bp l_31_132 (by decide) ?_
          refine p_iv [vi 59] [] l_31_134 rfl rfl (Nat.le_of_ble_eq_true rfl) (by rw [mx_36]; exact Nat.le_of_ble_eq_true rfl) (by rw [mt_36]; exact oReader_sh o) (by rw [mt_36]; decide) (by rw [rk_36]; decide) (s_36n (c := 59) o H2 (by omega) hs) (fun v I3 hv => ?_)
          obtain ⟨rfl, e1, e2, f3⟩ := hv
          have h43 : I3 s 4 = ((n : Nat) : Int) := (f3 s 4 (fun _ => by decide)).trans H2.1.1
          refine w_zeq 144 l_31_137 (by decide) (fun _ => ?_) (fun hx => absurd hx (by decide))
          refine w_ic l_31_144 (by decide) ?_
          refine w_isn l_31_145 ⟨Nat.le_of_ble_eq_true rfl, rfl⟩ ?_
          refine w_inc ((k + 1 : Nat) : Int) l_31_146 rfl rfl (by unfold wr; omega) ?_
          refine w_go 43 l_31_149 (by decide) ?_
          refine w_iln l_31_43 rfl ?_
          refine w_aln l_31_44 rfl ?_
          refine w_gi (I3 s 4) l_31_45 (oReader_sh o) rfl ?_
          refine w_cge 152 l_31_48 (by decide) (fun h1 => ?_) (fun h1 => ?_)
          · skip
            refine w_iln l_31_152 rfl ?_
            refine w_ir l_31_153 (by decide) ?_
            exact ⟨_, _, rfl, rfl, (fi.tr f2).tr (f3.R y), by rw [hR9]; exact ⟨rfl, e1, e2⟩⟩
          · skip
            refine w_iln l_31_51 rfl ?_
            refine w_zeq 152 l_31_52 (by decide) (fun _ => ?_) (fun hx => absurd hx (by decide))
            refine w_iln l_31_152 rfl ?_
            refine w_ir l_31_153 (by decide) ?_
            exact ⟨_, _, rfl, rfl, (fi.tr f2).tr (f3.R y), by rw [hR9]; exact ⟨rfl, e1, e2⟩⟩

theorem s_31 (o : oReader S T s x y) (hsy : s < y) (hxy : x < y) (hn : n ≤ 600) (hX : ∀ j, j < n → I x j = t j) (h70 : I (y + 7) 0 = 0) : CL xs 31 [vr s, vi ((n : Nat) : Int)] (S, I, T, cc, zz) (RP S T cc zz (fun v I' => fL I I' s y ∧ match textR t n with
    | .inl e => v = some (vi 0) ∧ I' s 1 = ((e.2 : Nat) : Int) ∧ I' s 2 = ((e.1 : Nat) : Int)
    | .inr P => v = some (vi 1) ∧ I' s 1 = -1 ∧ I' s 2 = 0 ∧ ∃ tot, SU I' y P [] tot)) := by
  refine CL_start (r := 32) (ls := [vr s, vi ((n : Nat) : Int), vs 2, vs 2]) (rk_31 _) rfl ?_
  refine w_aln l_31_0 rfl ?_
  refine w_iln l_31_1 rfl ?_
  refine w_aln l_31_2 rfl ?_
  refine w_gr l_31_3 (oReader_sh o) (oReader_r3 o) ?_
  refine w_len l_31_6 (oReader_s3 o) ?_
  refine w_mn ((n : Nat) : Int) l_31_7 (Nat.le_of_ble_eq_true rfl) (by rw [if_neg (by omega)]) ?_
  refine w_pi l_31_10 (oReader_sh o) ?_
  refine w_aln l_31_13 rfl ?_
  refine w_ic l_31_14 (by decide) ?_
  refine w_pi l_31_15 (oReader_sh o) ?_
  refine w_aln l_31_18 rfl ?_
  refine w_ic l_31_19 (by decide) ?_
  refine w_pi l_31_20 (oReader_sh o) ?_
  refine w_aln l_31_23 rfl ?_
  refine w_ic l_31_24 (by decide) ?_
  refine w_pi l_31_25 (oReader_sh o) ?_
  refine w_aln l_31_28 rfl ?_
  refine w_gr l_31_29 (oReader_sh o) (oReader_r0 o) ?_
  refine p_iv [] [] l_31_32 rfl rfl (Nat.le_of_ble_eq_true rfl) (by rw [mx_66]; exact Nat.le_of_ble_eq_true rfl) (by rw [mt_66]; exact oSetup_sh (oReader_o0 o)) (by rw [mt_66]; decide) (by rw [rk_66]; decide) (s_66 (oReader_o0 o) (by (repeat (rw [up_out (by omega)])); exact h70)) (fun v I1 hv => ?_)
  obtain ⟨rfl, Z1, f1⟩ := hv
  have hxs := oReader_ne o
  have H1 : rTx I1 s x t n := ⟨(f1 s 4 (by omega)).trans (by repeat (first | exact up_eq | rw [up_out (by omega)])), hn, fun j hj => (f1 x j (by omega)).trans (by (repeat (rw [up_out (by omega)])); exact hX j hj)⟩
  have h5 : I1 s 5 = ((0 : Nat) : Int) := (f1 s 5 (by omega)).trans (by repeat (first | exact up_eq | rw [up_out (by omega)]))
  have h1 : I1 s 1 = -1 := (f1 s 1 (by omega)).trans (by repeat (first | exact up_eq | rw [up_out (by omega)]))
  have h2 : I1 s 2 = 0 := (f1 s 2 (by omega)).trans (by repeat (first | exact up_eq | rw [up_out (by omega)]))
  have F1 : fL I I1 s y := fun z w g1 g2 => (f1 z w (by omega)).trans (by repeat (rw [up_out (by omega)]))
  refine w_aln l_31_35 rfl ?_
  refine p_iv [] [] l_31_36 rfl rfl (Nat.le_of_ble_eq_true rfl) (by rw [mx_32]; exact Nat.le_of_ble_eq_true rfl) (by rw [mt_32]; exact oReader_sh o) (by rw [mt_32]; decide) (by rw [rk_32]; decide) (s_32 o H1 (Nat.zero_le _) h5) (fun v I2 hv => ?_)
  obtain ⟨rfl, hk2, f2⟩ := hv
  refine w_ic l_31_39 (by decide) ?_
  refine w_isn l_31_40 ⟨Nat.le_of_ble_eq_true rfl, rfl⟩ ?_
  refine w_ic l_31_41 (by decide) ?_
  refine w_isn l_31_42 ⟨Nat.le_of_ble_eq_true rfl, rfl⟩ ?_
  have H2 : RT I2 s x t n (skw t n 0) := ⟨H1.fN (oReader_ne o) f2, hk2⟩
  refine WP_mono (show WP xs 31 32 43 [vr s, vi ((n : Nat) : Int), vi 1, vi 0] [] (S, I2, T, cc, zz) _ from lp_31 (I0 := I2) (L := n) o hsy hxy n 0 ps0 (skw t n 0) 0 I2 (by omega) H2 (Z1.fS hsy f2.S) (by omega) (fR.rf I2 s y) ⟨rfl, rfl⟩) (fun q m9 hq => ?_)
  obtain ⟨v, J, rfl, rfl, fJ, hJ⟩ := hq
  refine ⟨v, J, rfl, rfl, fun z w g1 g2 => (fJ z w (fun e => by have := g1 e; omega) g2).trans ((f2 z w (fun e => by have := g1 e; omega)).trans (F1 z w g1 g2)), ?_⟩
  have e1 : I2 s 1 = -1 := (f2 s 1 (fun _ => by decide)).trans h1
  have e2 : I2 s 2 = 0 := (f2 s 2 (fun _ => by decide)).trans h2
  unfold textR
  revert hJ
  cases linesR t n n ps0 (skw t n 0) with
  | inl e => exact fun hJ => hJ
  | inr P => exact fun hJ => ⟨hJ.1, hJ.2.1.1.trans e1, hJ.2.1.2.trans e2, hJ.2.2⟩

end RDT
