/-! the reference's reader: numbers -/
/-- what a method of the reference's reader leaves: an error, or what ok says -/
def mRO {α : Type} (I0 : Ix) (s : Nat) (J : Ix) (r : PR α) (ok : α → Prop) : Prop := match r with
  | .inl e => 1 ≤ e.1 ∧ J s 24 = ((e.1 : Nat) : Int) ∧ J s 23 = ((e.2 : Nat) : Int)
  | .inr a => (J s 24 = 0 ∧ J s 23 = I0 s 23) ∧ ok a
/-- the reader stands before the token at p -/
def mAt (J : Ix) (s : Nat) (t : Nat → Int) (n p : Nat) : Prop := ∃ j : Nat, J s 22 = (j : Int) ∧ j ≤ n ∧ skw t n j = p
section RFU
variable {xs : List Int} {S : List (Nat × Nat)} {T : Nat → Nat → Nat} {cc zz s : Nat} {I I' : Ix} {t : Nat → Int} {n : Nat}

theorem mx_180 : mxl 180 = 5 := by decide +kernel
theorem mt_180 : mtc 180 = 10 := by decide +kernel
theorem rk_180 (as : List AV) : rkA 180 as = 2 := rfl
theorem l_180_0 : look 180 0 = some (.aload_n 0, 1, 0, 0, 0, 0) := by decide +kernel
theorem l_180_1 : look 180 1 = some (.invokevirtual 182, 3, 175, 1, 0, 1750) := by decide +kernel
theorem l_180_4 : look 180 4 = some (.ifCond .eq 5, 3, 0, 0, 0, 0) := by decide +kernel
theorem l_180_7 : look 180 7 = some (.iload_n 1, 1, 0, 0, 0, 0) := by decide +kernel
theorem l_180_8 : look 180 8 = some (.ireturn, 1, 0, 0, 0, 0) := by decide +kernel
theorem l_180_9 : look 180 9 = some (.aload_n 0, 1, 0, 0, 0, 0) := by decide +kernel
theorem l_180_10 : look 180 10 = some (.invokevirtual 171, 3, 174, 1, 0, 1754) := by decide +kernel
theorem l_180_13 : look 180 13 = some (.pop, 1, 0, 0, 0, 0) := by decide +kernel
theorem l_180_14 : look 180 14 = some (.aload_n 0, 1, 0, 0, 0, 0) := by decide +kernel
theorem l_180_15 : look 180 15 = some (.getfield 161, 3, 10, 22, 0, 1523) := by decide +kernel
theorem l_180_18 : look 180 18 = some (.istore_n 3, 1, 0, 0, 0, 0) := by decide +kernel
theorem l_180_19 : look 180 19 = some (.iconst 0, 1, 0, 0, 0, 0) := by decide +kernel
theorem l_180_20 : look 180 20 = some (.istore 4, 2, 0, 0, 0, 0) := by decide +kernel
theorem l_180_22 : look 180 22 = some (.aload_n 0, 1, 0, 0, 0, 0) := by decide +kernel
theorem l_180_23 : look 180 23 = some (.aload_n 0, 1, 0, 0, 0, 0) := by decide +kernel
theorem l_180_24 : look 180 24 = some (.getfield 161, 3, 10, 22, 0, 1523) := by decide +kernel
theorem l_180_27 : look 180 27 = some (.invokevirtual 164, 3, 173, 2, 0, 1758) := by decide +kernel
theorem l_180_30 : look 180 30 = some (.bipush 48, 2, 0, 0, 0, 0) := by decide +kernel
theorem l_180_32 : look 180 32 = some (.bipush 57, 2, 0, 0, 0, 0) := by decide +kernel
theorem l_180_34 : look 180 34 = some (.invokestatic 175, 3, 169, 3, 1, 1775) := by decide +kernel
theorem l_180_37 : look 180 37 = some (.ifCond .eq 50, 3, 0, 0, 0, 0) := by decide +kernel
theorem l_180_40 : look 180 40 = some (.aload_n 0, 1, 0, 0, 0, 0) := by decide +kernel
theorem l_180_41 : look 180 41 = some (.getfield 161, 3, 10, 22, 0, 1523) := by decide +kernel
theorem l_180_44 : look 180 44 = some (.iload_n 3, 1, 0, 0, 0, 0) := by decide +kernel
theorem l_180_45 : look 180 45 = some (.isub, 1, 0, 0, 0, 0) := by decide +kernel
theorem l_180_46 : look 180 46 = some (.iconst 3, 1, 0, 0, 0, 0) := by decide +kernel
theorem l_180_47 : look 180 47 = some (.if_icmp .ge 23, 3, 0, 0, 0, 0) := by decide +kernel
theorem l_180_50 : look 180 50 = some (.bipush 10, 2, 0, 0, 0, 0) := by decide +kernel
theorem l_180_52 : look 180 52 = some (.iload 4, 2, 0, 0, 0, 0) := by decide +kernel
theorem l_180_54 : look 180 54 = some (.imul, 1, 0, 0, 0, 0) := by decide +kernel
theorem l_180_55 : look 180 55 = some (.aload_n 0, 1, 0, 0, 0, 0) := by decide +kernel
theorem l_180_56 : look 180 56 = some (.aload_n 0, 1, 0, 0, 0, 0) := by decide +kernel
theorem l_180_57 : look 180 57 = some (.getfield 161, 3, 10, 22, 0, 1523) := by decide +kernel
theorem l_180_60 : look 180 60 = some (.invokevirtual 164, 3, 173, 2, 0, 1758) := by decide +kernel
theorem l_180_63 : look 180 63 = some (.iadd, 1, 0, 0, 0, 0) := by decide +kernel
theorem l_180_64 : look 180 64 = some (.bipush 48, 2, 0, 0, 0, 0) := by decide +kernel
theorem l_180_66 : look 180 66 = some (.isub, 1, 0, 0, 0, 0) := by decide +kernel
theorem l_180_67 : look 180 67 = some (.goto 5, 3, 0, 0, 0, 0) := by decide +kernel
theorem l_180_70 : look 180 70 = some (.iload 4, 2, 0, 0, 0, 0) := by decide +kernel
theorem l_180_72 : look 180 72 = some (.istore 4, 2, 0, 0, 0, 0) := by decide +kernel
theorem l_180_74 : look 180 74 = some (.aload_n 0, 1, 0, 0, 0, 0) := by decide +kernel
theorem l_180_75 : look 180 75 = some (.dup, 1, 0, 0, 0, 0) := by decide +kernel
theorem l_180_76 : look 180 76 = some (.getfield 161, 3, 10, 22, 0, 1523) := by decide +kernel
theorem l_180_79 : look 180 79 = some (.iconst 1, 1, 0, 0, 0, 0) := by decide +kernel
theorem l_180_80 : look 180 80 = some (.iadd, 1, 0, 0, 0, 0) := by decide +kernel
theorem l_180_81 : look 180 81 = some (.putfield 161, 3, 10, 22, 0, 1523) := by decide +kernel
theorem l_180_84 : look 180 84 = some (.goto (-62), 3, 0, 0, 0, 0) := by decide +kernel
theorem l_180_87 : look 180 87 = some (.aload_n 0, 1, 0, 0, 0, 0) := by decide +kernel
theorem l_180_88 : look 180 88 = some (.getfield 161, 3, 10, 22, 0, 1523) := by decide +kernel
theorem l_180_91 : look 180 91 = some (.iload_n 3, 1, 0, 0, 0, 0) := by decide +kernel
theorem l_180_92 : look 180 92 = some (.if_icmp .ne 12, 3, 0, 0, 0, 0) := by decide +kernel
theorem l_180_95 : look 180 95 = some (.aload_n 0, 1, 0, 0, 0, 0) := by decide +kernel
theorem l_180_96 : look 180 96 = some (.iconst 1, 1, 0, 0, 0, 0) := by decide +kernel
theorem l_180_97 : look 180 97 = some (.iload_n 3, 1, 0, 0, 0, 0) := by decide +kernel
theorem l_180_98 : look 180 98 = some (.invokevirtual 198, 3, 176, 3, 0, 1782) := by decide +kernel
theorem l_180_101 : look 180 101 = some (.goto 29, 3, 0, 0, 0, 0) := by decide +kernel
theorem l_180_104 : look 180 104 = some (.aload_n 0, 1, 0, 0, 0, 0) := by decide +kernel
theorem l_180_105 : look 180 105 = some (.getfield 161, 3, 10, 22, 0, 1523) := by decide +kernel
theorem l_180_108 : look 180 108 = some (.iload_n 3, 1, 0, 0, 0, 0) := by decide +kernel
theorem l_180_109 : look 180 109 = some (.isub, 1, 0, 0, 0, 0) := by decide +kernel
theorem l_180_110 : look 180 110 = some (.iconst 3, 1, 0, 0, 0, 0) := by decide +kernel
theorem l_180_111 : look 180 111 = some (.if_icmp .gt 13, 3, 0, 0, 0, 0) := by decide +kernel
theorem l_180_114 : look 180 114 = some (.iload 4, 2, 0, 0, 0, 0) := by decide +kernel
theorem l_180_116 : look 180 116 = some (.iload_n 1, 1, 0, 0, 0, 0) := by decide +kernel
theorem l_180_117 : look 180 117 = some (.iload_n 2, 1, 0, 0, 0, 0) := by decide +kernel
theorem l_180_118 : look 180 118 = some (.invokestatic 175, 3, 169, 3, 1, 1775) := by decide +kernel
theorem l_180_121 : look 180 121 = some (.ifCond .ne 9, 3, 0, 0, 0, 0) := by decide +kernel
theorem l_180_124 : look 180 124 = some (.aload_n 0, 1, 0, 0, 0, 0) := by decide +kernel
theorem l_180_125 : look 180 125 = some (.iconst 2, 1, 0, 0, 0, 0) := by decide +kernel
theorem l_180_126 : look 180 126 = some (.iload_n 3, 1, 0, 0, 0, 0) := by decide +kernel
theorem l_180_127 : look 180 127 = some (.invokevirtual 198, 3, 176, 3, 0, 1782) := by decide +kernel
theorem l_180_130 : look 180 130 = some (.iload 4, 2, 0, 0, 0, 0) := by decide +kernel
theorem l_180_132 : look 180 132 = some (.ireturn, 1, 0, 0, 0, 0) := by decide +kernel

theorem lp_180 (hm : oModel S T s) {I1 : Ix} (H : mTx I1 s t n) {p lo hi : Nat} {Q : Res → Mem → Prop} (kk : ∀ J j, dEnd t n p = p + j → (∀ k, k < j → 48 ≤ t (p + k) ∧ t (p + k) ≤ 57) → f22 I1 J s → J s 22 = ((p + j : Nat) : Int) → WP xs 180 2 87 [vr s, vi ((lo : Nat) : Int), vi ((hi : Nat) : Int), vi ((p : Nat) : Int), vi (((numV t p (min j 3)) : Nat) : Int)] [] (S, J, T, cc, zz) Q) : ∀ d j J, n + 1 ≤ p + j + d → p + j ≤ n → dEnd t n (p + j) = dEnd t n p → (∀ k, k < j → 48 ≤ t (p + k) ∧ t (p + k) ≤ 57) → f22 I1 J s → J s 22 = ((p + j : Nat) : Int) → WP xs 180 2 22 [vr s, vi ((lo : Nat) : Int), vi ((hi : Nat) : Int), vi ((p : Nat) : Int), vi (((numV t p (min j 3)) : Nat) : Int)] [] (S, J, T, cc, zz) Q := by
  intro d
  induction d with
  | zero =>
    intro j J hd hj
    omega
  | succ d ih =>
    intro j J hd hj hD hdg f h22
    have h600 := H.2.1
    have hv : numV t p (min j 3) < 10 ^ (min j 3) := numV_lt _ fun k hk => hdg k (by omega)
    have hv2 : 10 ^ (min j 3) ≤ 10 ^ 3 := Nat.pow_le_pow_right (by decide) (by omega)
    have hv3 : numV t p (min j 3) < 1000 := Nat.lt_of_lt_of_le hv hv2
    have hub := ubA_b H (i := p + j)
    have hu : ((48 : Int) ≤ ubA t n (p + j) ∧ ubA t n (p + j) ≤ 57) ↔ p + j < n ∧ 48 ≤ t (p + j) ∧ t (p + j) ≤ 57 := ubA_r H (by decide) (by decide)
    refine w_aln l_180_22 rfl ?_
    refine w_aln l_180_23 rfl ?_
    refine w_gi (((p + j) : Nat) : Int) l_180_24 (oModel_sh hm) h22 ?_
    refine q_iv [vi (((p + j) : Nat) : Int)] [] l_180_27 rfl rfl (Nat.le_of_ble_eq_true rfl) (by rw [mx_173]; exact Nat.le_of_ble_eq_true rfl) (by rw [mt_173]; exact oModel_sh hm) (by rw [mt_173]; decide) (by rw [rk_173]; decide) (s_173 hm (H.fT f.T)) ?_
    refine w_bp l_180_30 (by decide) ?_
    refine w_bp l_180_32 (by decide) ?_
    refine q_st [vi (ubA t n (p + j)), vi 48, vi 57] [] l_180_34 (by decide) rfl rfl (Nat.le_of_ble_eq_true rfl) (by rw [mx_169]; exact Nat.le_of_ble_eq_true rfl) (by rw [rk_169]; decide) (s_169) ?_
    refine w_beq 87 l_180_37 (by decide) (fun h1 => ?_) (fun h1 => ?_)
    · skip
      have e9 : dEnd t n p = p + j := by
        rw [← hD]
        refine dEnd_f fun q => ?_
        exact Bool.noConfusion ((decide_eq_true (hu.2 q)).symm.trans (by assumption))
      have e8 : j = dEnd t n p - p := by omega
      exact kk J j e9 hdg f h22
    · skip
      refine w_aln l_180_40 rfl ?_
      refine w_gi (((p + j) : Nat) : Int) l_180_41 (oModel_sh hm) h22 ?_
      refine w_iln l_180_44 rfl ?_
      refine w_sub ((j : Nat) : Int) l_180_45 (by unfold wr; omega) ?_
      refine w_ic l_180_46 (by decide) ?_
      refine w_cge 70 l_180_47 (by decide) (fun h2 => ?_) (fun h2 => ?_)
      · skip
        refine w_il l_180_70 rfl ?_
        refine w_is l_180_72 ⟨Nat.le_of_ble_eq_true rfl, rfl⟩ ?_
        refine w_aln l_180_74 rfl ?_
        refine w_dup l_180_75 rfl ?_
        refine w_gi (((p + j) : Nat) : Int) l_180_76 (oModel_sh hm) h22 ?_
        refine w_ic l_180_79 (by decide) ?_
        refine w_add (((p + j) + 1 : Nat) : Int) l_180_80 (by unfold wr; omega) ?_
        refine w_pi l_180_81 (oModel_sh hm) ?_
        refine w_go 22 l_180_84 (by decide) ?_
        have g9 := hu.1 (of_decide_eq_true (by assumption))
        have hgg : ∀ k, k < j + 1 → 48 ≤ t (p + k) ∧ t (p + k) ≤ 57 := fun k hk => by
          by_cases hkj : k = j
          · rw [hkj]; exact g9.2
          · exact hdg k (by omega)
        have hde : dEnd t n (p + (j + 1)) = dEnd t n p := by
          rw [← hD]
          exact (dEnd_t g9.1 g9.2).symm
        first
        | exact ih (j + 1) _ (by omega) (by omega) hde hgg f.up up_eq
        | (rw [show min j 3 = min (j + 1) 3 by omega]
           exact ih (j + 1) _ (by omega) (by omega) hde hgg f.up up_eq)
      · skip
        refine w_bp l_180_50 (by decide) ?_
        refine w_il l_180_52 rfl ?_
        refine w_mul (((10 * (numV t p (min j 3))) : Nat) : Int) l_180_54 (by unfold wr; omega) ?_
        refine w_aln l_180_55 rfl ?_
        refine w_aln l_180_56 rfl ?_
        refine w_gi (((p + j) : Nat) : Int) l_180_57 (oModel_sh hm) h22 ?_
        refine q_iv [vi (((p + j) : Nat) : Int)] [vi (((10 * (numV t p (min j 3))) : Nat) : Int)] l_180_60 rfl rfl (Nat.le_of_ble_eq_true rfl) (by rw [mx_173]; exact Nat.le_of_ble_eq_true rfl) (by rw [mt_173]; exact oModel_sh hm) (by rw [mt_173]; decide) (by rw [rk_173]; decide) (s_173 hm (H.fT f.T)) ?_
        refine w_add (((10 * (numV t p (min j 3)) : Nat) : Int) + ubA t n (p + j)) l_180_63 (by unfold wr; omega) ?_
        refine w_bp l_180_64 (by decide) ?_
        refine w_sub (((numV t p (min (j + 1) 3)) : Nat) : Int) l_180_66 (by
            have g9 := hu.1 (of_decide_eq_true (by assumption))
            have e8 := ubA_lo (t := t) g9.1 (by omega)
            rw [show min j 3 = j by omega] at hv3
            rw [show min j 3 = j by omega, show min (j + 1) 3 = j + 1 by omega, e8]
            have e9 : numV t p (j + 1) = numV t p j * 10 + (t (p + j) - 48).toNat := rfl
            rw [e9]
            unfold wr
            omega) ?_
        refine w_go 72 l_180_67 (by decide) ?_
        refine w_is l_180_72 ⟨Nat.le_of_ble_eq_true rfl, rfl⟩ ?_
        refine w_aln l_180_74 rfl ?_
        refine w_dup l_180_75 rfl ?_
        refine w_gi (((p + j) : Nat) : Int) l_180_76 (oModel_sh hm) h22 ?_
        refine w_ic l_180_79 (by decide) ?_
        refine w_add (((p + j) + 1 : Nat) : Int) l_180_80 (by unfold wr; omega) ?_
        refine w_pi l_180_81 (oModel_sh hm) ?_
        refine w_go 22 l_180_84 (by decide) ?_
        have g9 := hu.1 (of_decide_eq_true (by assumption))
        have hgg : ∀ k, k < j + 1 → 48 ≤ t (p + k) ∧ t (p + k) ≤ 57 := fun k hk => by
          by_cases hkj : k = j
          · rw [hkj]; exact g9.2
          · exact hdg k (by omega)
        have hde : dEnd t n (p + (j + 1)) = dEnd t n p := by
          rw [← hD]
          exact (dEnd_t g9.1 g9.2).symm
        first
        | exact ih (j + 1) _ (by omega) (by omega) hde hgg f.up up_eq
        | (rw [show min j 3 = min (j + 1) 3 by omega]
           exact ih (j + 1) _ (by omega) (by omega) hde hgg f.up up_eq)

theorem s_180 (hm : oModel S T s) (H : mTx I s t n) {i : Nat} (h22 : I s 22 = ((i : Nat) : Int)) (hin9 : i ≤ n) (h24 : I s 24 = 0) {lo hi : Nat} : CL xs 180 [vr s, vi ((lo : Nat) : Int), vi ((hi : Nat) : Int)] (S, I, T, cc, zz) (RP S T cc zz (fun v I' => (∃ z : Int, v = some (vi z)) ∧ fT I I' s ∧ mRO I s I' (numR t n lo hi (skw t n i)) (fun a => v = some (vi ((a.1 : Nat) : Int)) ∧ mAt I' s t n a.2))) := by
  have h600 := H.2.1
  have hpn : skw t n i ≤ n := skw_le hin9
  generalize hp : skw t n i = p at *
  have kk9 : ∀ (I1 : Ix) (_ : f22 I I1 s) (J : Ix) (j : Nat), dEnd t n p = p + j → (∀ k, k < j → 48 ≤ t (p + k) ∧ t (p + k) ≤ 57) → f22 I1 J s → J s 22 = ((p + j : Nat) : Int) → WP xs 180 2 87 [vr s, vi ((lo : Nat) : Int), vi ((hi : Nat) : Int), vi ((p : Nat) : Int), vi (((numV t p (min j 3)) : Nat) : Int)] [] (S, J, T, cc, zz) (RP S T cc zz (fun v I' => (∃ z : Int, v = some (vi z)) ∧ fT I I' s ∧ mRO I s I' (numR t n lo hi p) (fun a => v = some (vi ((a.1 : Nat) : Int)) ∧ mAt I' s t n a.2))) := by
    intro I1 f1 J j hD hdg f k22
    have k24 : J s 24 = 0 := ((f1.tr f) s 24 (fun _ => by decide)).trans h24
    have k23 : J s 23 = I s 23 := (f1.tr f) s 23 (fun _ => by decide)
    have hDl := dEnd_le (t := t) (n := n) (i := p) hpn
    have hDj : dEnd t n p - p = j := by omega
    by_cases hj0 : j = 0
    · have hk2 : tkk t n p ≠ 2 := fun q => by
        have g1 := tkk_2.mp q
        have g2 := dEnd_gt g1.1 g1.2
        omega
      refine w_aln l_180_87 rfl ?_
      refine w_gi (((p + j) : Nat) : Int) l_180_88 (oModel_sh hm) k22 ?_
      refine w_iln l_180_91 rfl ?_
      refine w_cne 104 l_180_92 (by decide) (fun hx => absurd hx (by omega)) (fun _ => ?_)
      refine w_aln l_180_95 rfl ?_
      refine w_ic l_180_96 (by decide) ?_
      refine w_iln l_180_97 rfl ?_
      refine q_iv [vi 1, vi ((p : Nat) : Int)] [] l_180_98 rfl rfl (Nat.le_of_ble_eq_true rfl) (by rw [mx_176]; exact Nat.le_of_ble_eq_true rfl) (by rw [mt_176]; exact oModel_sh hm) (by rw [mt_176]; decide) (by rw [rk_176]; decide) (s_176 hm k24 (k := 1)) ?_
      refine w_go 130 l_180_101 (by decide) ?_
      refine w_il l_180_130 rfl ?_
      refine w_ir l_180_132 (Or.inl rfl) ?_
      have hR : numR t n lo hi p = .inl (1, p) := by
        unfold numR
        rw [if_pos hk2]
      exact ⟨_, _, rfl, rfl, ⟨_, rfl⟩, (((f1.tr f).T).up (Or.inr (Or.inr rfl))).up (Or.inr (Or.inl rfl)), by rw [hR]; exact ⟨(show (1 : Nat) ≤ 1 by decide), (up_nj (by decide)).trans up_eq, up_eq⟩⟩
    · have hpl : p < n := by omega
      have hk2 : tkk t n p = 2 := tkk_2.mpr ⟨hpl, hdg 0 (by omega)⟩
      have hte : tEnd t n p = p + j := by
        have g1 := hdg 0 (by omega)
        unfold tEnd
        rw [if_pos hpl, if_neg (fun q => by have := isLo_iff.mp q; rw [Nat.add_zero] at g1; omega), if_pos (isDg_iff.mpr (by rw [Nat.add_zero] at g1; exact g1)), hD]
      by_cases hj3 : 3 < j
      · skip
        refine w_aln l_180_87 rfl ?_
        refine w_gi (((p + j) : Nat) : Int) l_180_88 (oModel_sh hm) k22 ?_
        refine w_iln l_180_91 rfl ?_
        refine w_cne 104 l_180_92 (by decide) (fun _ => ?_) (fun hx => absurd hx (by omega))
        refine w_aln l_180_104 rfl ?_
        refine w_gi (((p + j) : Nat) : Int) l_180_105 (oModel_sh hm) k22 ?_
        refine w_iln l_180_108 rfl ?_
        refine w_sub ((((p + j) : Nat) : Int) - ((p : Nat) : Int)) l_180_109 (by unfold wr; omega) ?_
        refine w_ic l_180_110 (by decide) ?_
        refine w_cgt 124 l_180_111 (by decide) (fun _ => ?_) (fun hx => absurd hx (by omega))
        refine w_aln l_180_124 rfl ?_
        refine w_ic l_180_125 (by decide) ?_
        refine w_iln l_180_126 rfl ?_
        refine q_iv [vi 2, vi ((p : Nat) : Int)] [] l_180_127 rfl rfl (Nat.le_of_ble_eq_true rfl) (by rw [mx_176]; exact Nat.le_of_ble_eq_true rfl) (by rw [mt_176]; exact oModel_sh hm) (by rw [mt_176]; decide) (by rw [rk_176]; decide) (s_176 hm k24 (k := 2)) ?_
        refine w_il l_180_130 rfl ?_
        refine w_ir l_180_132 (Or.inl rfl) ?_
        have hR : numR t n lo hi p = .inl (2, p) := by
          unfold numR
          rw [if_neg (by rw [hk2]; decide), if_pos (by omega)]
        exact ⟨_, _, rfl, rfl, ⟨_, rfl⟩, (((f1.tr f).T).up (Or.inr (Or.inr rfl))).up (Or.inr (Or.inl rfl)), by rw [hR]; exact ⟨(show (1 : Nat) ≤ 2 by decide), (up_nj (by decide)).trans up_eq, up_eq⟩⟩
      cases hin : decide (((lo : Nat) : Int) ≤ (((numV t p (min j 3)) : Nat) : Int) ∧ (((numV t p (min j 3)) : Nat) : Int) ≤ ((hi : Nat) : Int)) with
      | false =>
        refine w_aln l_180_87 rfl ?_
        refine w_gi (((p + j) : Nat) : Int) l_180_88 (oModel_sh hm) k22 ?_
        refine w_iln l_180_91 rfl ?_
        refine w_cne 104 l_180_92 (by decide) (fun _ => ?_) (fun hx => absurd hx (by omega))
        refine w_aln l_180_104 rfl ?_
        refine w_gi (((p + j) : Nat) : Int) l_180_105 (oModel_sh hm) k22 ?_
        refine w_iln l_180_108 rfl ?_
        refine w_sub ((((p + j) : Nat) : Int) - ((p : Nat) : Int)) l_180_109 (by unfold wr; omega) ?_
        refine w_ic l_180_110 (by decide) ?_
        refine w_cgt 124 l_180_111 (by decide) (fun hx => absurd hx (by omega)) (fun _ => ?_)
        refine w_il l_180_114 rfl ?_
        refine w_iln l_180_116 rfl ?_
        refine w_iln l_180_117 rfl ?_
        refine q_st [vi (((numV t p (min j 3)) : Nat) : Int), vi ((lo : Nat) : Int), vi ((hi : Nat) : Int)] [] l_180_118 (by decide) rfl rfl (Nat.le_of_ble_eq_true rfl) (by rw [mx_169]; exact Nat.le_of_ble_eq_true rfl) (by rw [rk_169]; decide) (s_169) ?_
        refine w_bne 130 l_180_121 (by decide) (fun hx => absurd hx (by rw [hin]; decide)) (fun _ => ?_)
        refine w_aln l_180_124 rfl ?_
        refine w_ic l_180_125 (by decide) ?_
        refine w_iln l_180_126 rfl ?_
        refine q_iv [vi 2, vi ((p : Nat) : Int)] [] l_180_127 rfl rfl (Nat.le_of_ble_eq_true rfl) (by rw [mx_176]; exact Nat.le_of_ble_eq_true rfl) (by rw [mt_176]; exact oModel_sh hm) (by rw [mt_176]; decide) (by rw [rk_176]; decide) (s_176 hm k24 (k := 2)) ?_
        refine w_il l_180_130 rfl ?_
        refine w_ir l_180_132 (Or.inl rfl) ?_
        have hR : numR t n lo hi p = .inl (2, p) := by
          unfold numR
          rw [if_neg (by rw [hk2]; decide), if_neg (by omega), hDj, if_pos (by have := of_decide_eq_false hin; rw [show min j 3 = j by omega] at this; omega)]
        exact ⟨_, _, rfl, rfl, ⟨_, rfl⟩, (((f1.tr f).T).up (Or.inr (Or.inr rfl))).up (Or.inr (Or.inl rfl)), by rw [hR]; exact ⟨(show (1 : Nat) ≤ 2 by decide), (up_nj (by decide)).trans up_eq, up_eq⟩⟩
      | true =>
        refine w_aln l_180_87 rfl ?_
        refine w_gi (((p + j) : Nat) : Int) l_180_88 (oModel_sh hm) k22 ?_
        refine w_iln l_180_91 rfl ?_
        refine w_cne 104 l_180_92 (by decide) (fun _ => ?_) (fun hx => absurd hx (by omega))
        refine w_aln l_180_104 rfl ?_
        refine w_gi (((p + j) : Nat) : Int) l_180_105 (oModel_sh hm) k22 ?_
        refine w_iln l_180_108 rfl ?_
        refine w_sub ((((p + j) : Nat) : Int) - ((p : Nat) : Int)) l_180_109 (by unfold wr; omega) ?_
        refine w_ic l_180_110 (by decide) ?_
        refine w_cgt 124 l_180_111 (by decide) (fun hx => absurd hx (by omega)) (fun _ => ?_)
        refine w_il l_180_114 rfl ?_
        refine w_iln l_180_116 rfl ?_
        refine w_iln l_180_117 rfl ?_
        refine q_st [vi (((numV t p (min j 3)) : Nat) : Int), vi ((lo : Nat) : Int), vi ((hi : Nat) : Int)] [] l_180_118 (by decide) rfl rfl (Nat.le_of_ble_eq_true rfl) (by rw [mx_169]; exact Nat.le_of_ble_eq_true rfl) (by rw [rk_169]; decide) (s_169) ?_
        refine w_bne 130 l_180_121 (by decide) (fun _ => ?_) (fun hx => absurd hx (by rw [hin]; decide))
        refine w_il l_180_130 rfl ?_
        refine w_ir l_180_132 (Or.inl rfl) ?_
        have hR : numR t n lo hi p = .inr (numV t p j, nxt t n p) := by
          unfold numR
          rw [if_neg (by rw [hk2]; decide), if_neg (by omega), hDj, if_neg (by have := of_decide_eq_true hin; rw [show min j 3 = j by omega] at this; omega)]
        exact ⟨_, _, rfl, rfl, ⟨_, rfl⟩, (f1.tr f).T, by rw [hR, show min j 3 = j by omega]; exact ⟨⟨k24, k23⟩, rfl, p + j, k22, by omega, by unfold nxt; rw [hte]⟩⟩
  refine CL_start (r := 2) (ls := [vr s, vi ((lo : Nat) : Int), vi ((hi : Nat) : Int), vs 2, vs 2]) (rk_180 _) rfl ?_
  refine w_aln l_180_0 rfl ?_
  refine q_iv [] [] l_180_1 rfl rfl (Nat.le_of_ble_eq_true rfl) (by rw [mx_175]; exact Nat.le_of_ble_eq_true rfl) (by rw [mt_175]; exact oModel_sh hm) (by rw [mt_175]; decide) (by rw [rk_175]; decide) (s_175_0 hm h24) ?_
  refine w_zeq 9 l_180_4 (by decide) (fun _ => ?_) (fun hx => absurd hx (by decide))
  refine w_aln l_180_9 rfl ?_
  refine p_iv [] [] l_180_10 rfl rfl (Nat.le_of_ble_eq_true rfl) (by rw [mx_174]; exact Nat.le_of_ble_eq_true rfl) (by rw [mt_174]; exact oModel_sh hm) (by rw [mt_174]; decide) (by rw [rk_174]; decide) (s_174 hm H h22 hin9) (fun v I1 hv => ?_)
  obtain ⟨rfl, g22, f1⟩ := hv
  rw [hp] at g22
  have H1 := H.fT f1.T
  refine w_pop l_180_13 rfl ?_
  refine w_aln l_180_14 rfl ?_
  refine w_gi ((p : Nat) : Int) l_180_15 (oModel_sh hm) g22 ?_
  refine w_isn l_180_18 ⟨Nat.le_of_ble_eq_true rfl, rfl⟩ ?_
  refine w_ic l_180_19 (by decide) ?_
  refine w_is l_180_20 ⟨Nat.le_of_ble_eq_true rfl, rfl⟩ ?_
  exact lp_180 (I1 := I1) (p := p) (lo := lo) (hi := hi) hm H1 (fun J j hD hdg f k22 => kk9 I1 f1 J j hD hdg f k22) (n + 1) 0 I1 (by omega) hpn rfl (fun k hk => absurd hk (Nat.not_lt_zero k)) (f22.rf I1 s) g22

theorem s_180f (hm : oModel S T s) {k : Int} (h24 : I s 24 = k) (hk : k ≠ 0) {lo hi : Nat} : CL xs 180 [vr s, vi ((lo : Nat) : Int), vi ((hi : Nat) : Int)] (S, I, T, cc, zz) (FN (some (vi ((lo : Nat) : Int))) (S, I, T, cc, zz)) := by
  refine CL_start (r := 2) (ls := [vr s, vi ((lo : Nat) : Int), vi ((hi : Nat) : Int), vs 2, vs 2]) (rk_180 _) rfl ?_
  refine w_aln l_180_0 rfl ?_
  refine q_iv [] [] l_180_1 rfl rfl (Nat.le_of_ble_eq_true rfl) (by rw [mx_175]; exact Nat.le_of_ble_eq_true rfl) (by rw [mt_175]; exact oModel_sh hm) (by rw [mt_175]; decide) (by rw [rk_175]; decide) (s_175_1 hm h24 hk) ?_
  refine w_zeq 9 l_180_4 (by decide) (fun hx => absurd hx (by decide)) (fun _ => ?_)
  refine w_iln l_180_7 rfl ?_
  refine w_ir l_180_8 (Or.inl rfl) ?_
  exact ⟨rfl, rfl⟩

end RFU
