/-! the reference's reader: the whole text -/
theorem lineR_ge {t : Nat → Int} {n : Nat} {P : Ps} {p : Nat} {a : Ps × Nat} (h4 : lPorts P.1 ≤ 4) (hp : p ≤ n) (h : lineR t n P p = .inr a) : p ≤ a.2 := by
  unfold lineR at h
  split at h
  · exact portL_ge h
  · split at h
    · exact polL_ge h
    · split at h
      · unfold rulL' at h
        split at h
        · cases h
        · split at h
          · cases hc : condR t n (atomR t n P 5) (nxt t n (nxt t n p)) with
            | inl e => rw [hc] at h; cases h
            | inr b =>
              obtain ⟨p2, cs⟩ := b
              rw [hc] at h
              cases h
              have hok := cond_ok (atom_ok h4 5) _ (nxt_le (nxt_le hp)) _ hc
              have h1 := hok.1
              have h2 := nxt_ge (t := t) (n := n) (p := p)
              have h3 := nxt_ge (t := t) (n := n) (p := nxt t n p)
              show p ≤ p2
              omega
          · cases h
      · exact limL_ge h
/-- all but what reading a text writes -/
def fX (I J : Ix) (s : Nat) : Prop := ∀ z w, (z = s → w < 20 ∨ 42 < w) → (z < s + 13 ∨ s + 22 < z) → J z w = I z w
theorem fP.X {I J : Ix} {s : Nat} (f : fP I J s) : fX I J s := fun z w h h2 => f z w (fun e => by have := h e; omega) h2
theorem fX.tr {I J K : Ix} {s : Nat} (f : fX I J s) (g : fX J K s) : fX I K s := fun z w h h2 => (g z w h h2).trans (f z w h h2)
theorem fX.rf (I : Ix) (s : Nat) : fX I I s := fun _ _ _ _ => rfl
theorem fX.up {I J : Ix} {s w : Nat} {v : Int} (f : fX I J s) (h : 20 ≤ w ∧ w ≤ 42) : fX I (up J s w v) s := fun z' w' h1 h2 => (up_out (by omega)).trans (f z' w' h1 h2)
section RGG
variable {xs : List Int} {S : List (Nat × Nat)} {T : Nat → Nat → Nat} {cc zz s : Nat} {I I' : Ix} {t : Nat → Int} {n : Nat}

theorem mx_197 : mxl 197 = 1 := by decide +kernel
theorem mt_197 : mtc 197 = 10 := by decide +kernel
theorem rk_197 (as : List AV) : rkA 197 as = 10 := rfl
theorem l_197_0 : look 197 0 = some (.aload_n 0, 1, 0, 0, 0, 0) := by decide +kernel
theorem l_197_1 : look 197 1 = some (.aload_n 0, 1, 0, 0, 0, 0) := by decide +kernel
theorem l_197_2 : look 197 2 = some (.getfield 155, 3, 10, 20, 0, 1521) := by decide +kernel
theorem l_197_5 : look 197 5 = some (.putfield 158, 3, 10, 21, 0, 1522) := by decide +kernel
theorem l_197_8 : look 197 8 = some (.aload_n 0, 1, 0, 0, 0, 0) := by decide +kernel
theorem l_197_9 : look 197 9 = some (.iconst 0, 1, 0, 0, 0, 0) := by decide +kernel
theorem l_197_10 : look 197 10 = some (.putfield 155, 3, 10, 20, 0, 1521) := by decide +kernel
theorem l_197_13 : look 197 13 = some (.aload_n 0, 1, 0, 0, 0, 0) := by decide +kernel
theorem l_197_14 : look 197 14 = some (.iconst 0, 1, 0, 0, 0, 0) := by decide +kernel
theorem l_197_15 : look 197 15 = some (.putfield 161, 3, 10, 22, 0, 1523) := by decide +kernel
theorem l_197_18 : look 197 18 = some (.aload_n 0, 1, 0, 0, 0, 0) := by decide +kernel
theorem l_197_19 : look 197 19 = some (.iconst (-1), 1, 0, 0, 0, 0) := by decide +kernel
theorem l_197_20 : look 197 20 = some (.putfield 59, 3, 10, 23, 0, 1524) := by decide +kernel
theorem l_197_23 : look 197 23 = some (.aload_n 0, 1, 0, 0, 0, 0) := by decide +kernel
theorem l_197_24 : look 197 24 = some (.iconst 0, 1, 0, 0, 0, 0) := by decide +kernel
theorem l_197_25 : look 197 25 = some (.putfield 168, 3, 10, 24, 0, 1525) := by decide +kernel
theorem l_197_28 : look 197 28 = some (.aload_n 0, 1, 0, 0, 0, 0) := by decide +kernel
theorem l_197_29 : look 197 29 = some (.iconst 0, 1, 0, 0, 0, 0) := by decide +kernel
theorem l_197_30 : look 197 30 = some (.putfield 206, 3, 10, 25, 0, 1526) := by decide +kernel
theorem l_197_33 : look 197 33 = some (.aload_n 0, 1, 0, 0, 0, 0) := by decide +kernel
theorem l_197_34 : look 197 34 = some (.iconst 0, 1, 0, 0, 0, 0) := by decide +kernel
theorem l_197_35 : look 197 35 = some (.putfield 281, 3, 10, 34, 0, 1535) := by decide +kernel
theorem l_197_38 : look 197 38 = some (.aload_n 0, 1, 0, 0, 0, 0) := by decide +kernel
theorem l_197_39 : look 197 39 = some (.iconst 0, 1, 0, 0, 0, 0) := by decide +kernel
theorem l_197_40 : look 197 40 = some (.putfield 224, 3, 10, 39, 0, 1540) := by decide +kernel
theorem l_197_43 : look 197 43 = some (.aload_n 0, 1, 0, 0, 0, 0) := by decide +kernel
theorem l_197_44 : look 197 44 = some (.sipush 400, 3, 0, 0, 0, 0) := by decide +kernel
theorem l_197_47 : look 197 47 = some (.putfield 301, 3, 10, 31, 0, 1532) := by decide +kernel
theorem l_197_50 : look 197 50 = some (.aload_n 0, 1, 0, 0, 0, 0) := by decide +kernel
theorem l_197_51 : look 197 51 = some (.bipush 100, 2, 0, 0, 0, 0) := by decide +kernel
theorem l_197_53 : look 197 53 = some (.putfield 306, 3, 10, 32, 0, 1533) := by decide +kernel
theorem l_197_56 : look 197 56 = some (.aload_n 0, 1, 0, 0, 0, 0) := by decide +kernel
theorem l_197_57 : look 197 57 = some (.bipush 99, 2, 0, 0, 0, 0) := by decide +kernel
theorem l_197_59 : look 197 59 = some (.putfield 311, 3, 10, 33, 0, 1534) := by decide +kernel
theorem l_197_62 : look 197 62 = some (.aload_n 0, 1, 0, 0, 0, 0) := by decide +kernel
theorem l_197_63 : look 197 63 = some (.invokevirtual 182, 3, 175, 1, 0, 1750) := by decide +kernel
theorem l_197_66 : look 197 66 = some (.ifCond .ne 53, 3, 0, 0, 0, 0) := by decide +kernel
theorem l_197_69 : look 197 69 = some (.aload_n 0, 1, 0, 0, 0, 0) := by decide +kernel
theorem l_197_70 : look 197 70 = some (.invokevirtual 171, 3, 174, 1, 0, 1754) := by decide +kernel
theorem l_197_73 : look 197 73 = some (.iconst (-1), 1, 0, 0, 0, 0) := by decide +kernel
theorem l_197_74 : look 197 74 = some (.if_icmp .eq 45, 3, 0, 0, 0, 0) := by decide +kernel
theorem l_197_77 : look 197 77 = some (.aload_n 0, 1, 0, 0, 0, 0) := by decide +kernel
theorem l_197_78 : look 197 78 = some (.invokevirtual 318, 3, 196, 1, 0, 1762) := by decide +kernel
theorem l_197_81 : look 197 81 = some (.aload_n 0, 1, 0, 0, 0, 0) := by decide +kernel
theorem l_197_82 : look 197 82 = some (.invokevirtual 182, 3, 175, 1, 0, 1750) := by decide +kernel
theorem l_197_85 : look 197 85 = some (.ifCond .ne 21, 3, 0, 0, 0, 0) := by decide +kernel
theorem l_197_88 : look 197 88 = some (.aload_n 0, 1, 0, 0, 0, 0) := by decide +kernel
theorem l_197_89 : look 197 89 = some (.invokevirtual 171, 3, 174, 1, 0, 1754) := by decide +kernel
theorem l_197_92 : look 197 92 = some (.bipush 59, 2, 0, 0, 0, 0) := by decide +kernel
theorem l_197_94 : look 197 94 = some (.if_icmp .eq 12, 3, 0, 0, 0, 0) := by decide +kernel
theorem l_197_97 : look 197 97 = some (.aload_n 0, 1, 0, 0, 0, 0) := by decide +kernel
theorem l_197_98 : look 197 98 = some (.iconst 1, 1, 0, 0, 0, 0) := by decide +kernel
theorem l_197_99 : look 197 99 = some (.aload_n 0, 1, 0, 0, 0, 0) := by decide +kernel
theorem l_197_100 : look 197 100 = some (.getfield 161, 3, 10, 22, 0, 1523) := by decide +kernel
theorem l_197_103 : look 197 103 = some (.invokevirtual 198, 3, 176, 3, 0, 1782) := by decide +kernel
theorem l_197_106 : look 197 106 = some (.aload_n 0, 1, 0, 0, 0, 0) := by decide +kernel
theorem l_197_107 : look 197 107 = some (.dup, 1, 0, 0, 0, 0) := by decide +kernel
theorem l_197_108 : look 197 108 = some (.getfield 161, 3, 10, 22, 0, 1523) := by decide +kernel
theorem l_197_111 : look 197 111 = some (.iconst 1, 1, 0, 0, 0, 0) := by decide +kernel
theorem l_197_112 : look 197 112 = some (.iadd, 1, 0, 0, 0, 0) := by decide +kernel
theorem l_197_113 : look 197 113 = some (.putfield 161, 3, 10, 22, 0, 1523) := by decide +kernel
theorem l_197_116 : look 197 116 = some (.goto (-54), 3, 0, 0, 0, 0) := by decide +kernel
theorem l_197_119 : look 197 119 = some (.return_, 1, 0, 0, 0, 0) := by decide +kernel

theorem ubA_end {I : Ix} {p : Nat} (h : ¬ p < n) : ubA t n p = -1 := if_neg h
theorem lp_197 {I0 : Ix} (hm : oModel S T s) : ∀ d p P tot J, n ≤ p + d → mTx J s t n → mAt J s t n p → J s 24 = 0 → J s 23 = I0 s 23 → mSU J s P [] tot → 2 * tot ≤ p → fP I0 J s → WP xs 197 10 62 [vr s] [] (S, J, T, cc, zz) (RP S T cc zz (fun v I' => v = none ∧ fP I0 I' s ∧ mRO I0 s I' (linesR t n d P p) (fun a => ∃ tot', mSU I' s a [] tot' ∧ 2 * tot' ≤ 600))) := by
  intro d
  induction d with
  | zero =>
    intro p P tot J hd H A h24 h23 Y hb f
    have h600 := H.2.1
    have hpn := A.le
    have h4 := Y.2.2.1.1.1
    have hub1 := ubA_b H (i := p)

    have hk0 : tkk t n p = 0 := tkk_0.mpr (by omega)
    have hub : ubA t n p = -1 := if_neg (by omega)
    generalize hd0 : 0 = d
    refine w_aln l_197_62 rfl ?_
    refine q_iv [] [] l_197_63 rfl rfl (Nat.le_of_ble_eq_true rfl) (by rw [mx_175]; exact Nat.le_of_ble_eq_true rfl) (by rw [mt_175]; exact oModel_sh hm) (by rw [mt_175]; decide) (by rw [rk_175]; decide) (s_175_0 hm h24) ?_
    refine w_zne 119 l_197_66 (by decide) (fun hx => absurd hx (by decide)) (fun _ => ?_)
    refine w_aln l_197_69 rfl ?_
    refine p_iv [] [] l_197_70 rfl rfl (Nat.le_of_ble_eq_true rfl) (by rw [mx_174]; exact Nat.le_of_ble_eq_true rfl) (by rw [mt_174]; exact oModel_sh hm) (by rw [mt_174]; decide) (by rw [rk_174]; decide) (by have g9 := s_174A (xs := xs) (cc := cc) (zz := zz) hm H A; rw [show ubA t n p = -1 from hub] at g9; exact g9) (fun v J1 hv => ?_)
    obtain ⟨rfl, g221, f1⟩ := hv
    have H1 := H.fT f1.T
    have A1 := mAt.at g221 A.le A.id
    have k241 : J1 s 24 = 0 := (f1 s 24 (fun _ => by decide)).trans h24
    have k231 : J1 s 23 = I0 s 23 := (f1 s 23 (fun _ => by decide)).trans h23
    have Y1 := Y.fT f1.T
    refine w_ic l_197_73 (by decide) ?_
    refine w_ceq 119 l_197_74 (by decide) (fun _ => ?_) (fun hx => absurd hx (by decide))
    refine w_vr l_197_119 ?_
    have hR : linesR t n d P p = .inr P := by
      cases d with
      | zero => rfl
      | succ d => exact if_pos hk0
    exact ⟨_, _, rfl, rfl, rfl, f.tr f1.T.P, by rw [hR]; exact ⟨⟨k241, k231⟩, tot, Y1, by omega⟩⟩
  | succ d ih =>
    intro p P tot J hd H A h24 h23 Y hb f
    have h600 := H.2.1
    have hpn := A.le
    have h4 := Y.2.2.1.1.1
    have hub1 := ubA_b H (i := p)

    by_cases hpl : p < n
    · have hk0 : tkk t n p ≠ 0 := fun q => tkk_0.mp q hpl
      have hub : ubA t n p ≠ -1 := by
        have g1 := H.2.2 p hpl
        unfold ubA ub
        rw [if_pos hpl]
        split <;> omega
      cases hL : lineR t n P p with
      | inl e9 =>
        refine w_aln l_197_62 rfl ?_
        refine q_iv [] [] l_197_63 rfl rfl (Nat.le_of_ble_eq_true rfl) (by rw [mx_175]; exact Nat.le_of_ble_eq_true rfl) (by rw [mt_175]; exact oModel_sh hm) (by rw [mt_175]; decide) (by rw [rk_175]; decide) (s_175_0 hm h24) ?_
        refine w_zne 119 l_197_66 (by decide) (fun hx => absurd hx (by decide)) (fun _ => ?_)
        refine w_aln l_197_69 rfl ?_
        refine p_iv [] [] l_197_70 rfl rfl (Nat.le_of_ble_eq_true rfl) (by rw [mx_174]; exact Nat.le_of_ble_eq_true rfl) (by rw [mt_174]; exact oModel_sh hm) (by rw [mt_174]; decide) (by rw [rk_174]; decide) (s_174A hm H A) (fun v J1 hv => ?_)
        obtain ⟨rfl, g221, f1⟩ := hv
        have H1 := H.fT f1.T
        have A1 := mAt.at g221 A.le A.id
        have k241 : J1 s 24 = 0 := (f1 s 24 (fun _ => by decide)).trans h24
        have k231 : J1 s 23 = I0 s 23 := (f1 s 23 (fun _ => by decide)).trans h23
        have Y1 := Y.fT f1.T
        refine w_ic l_197_73 (by decide) ?_
        refine w_ceq 119 l_197_74 (by decide) (fun hx => absurd hx (by omega)) (fun _ => ?_)
        refine w_aln l_197_77 rfl ?_
        refine p_iv [] [] l_197_78 rfl rfl (Nat.le_of_ble_eq_true rfl) (by rw [mx_196]; exact Nat.le_of_ble_eq_true rfl) (by rw [mt_196]; exact oModel_sh hm) (by rw [mt_196]; decide) (by rw [rk_196]; decide) (by have g9 := s_196 (xs := xs) (cc := cc) (zz := zz) hm H1 A1 k241 Y1 hb; rw [hL] at g9; exact g9) (fun v J2 hv => ?_)
        obtain ⟨rfl, f2, he, e24, e23⟩ := hv
        refine w_aln l_197_81 rfl ?_
        refine q_iv [] [] l_197_82 rfl rfl (Nat.le_of_ble_eq_true rfl) (by rw [mx_175]; exact Nat.le_of_ble_eq_true rfl) (by rw [mt_175]; exact oModel_sh hm) (by rw [mt_175]; decide) (by rw [rk_175]; decide) (s_175_1 (k := ((e9.1 : Nat) : Int)) hm e24 (by omega)) ?_
        refine w_zne 106 l_197_85 (by decide) (fun _ => ?_) (fun hx => absurd hx (by decide))
        refine w_aln l_197_106 rfl ?_
        refine w_dup l_197_107 rfl ?_
        refine w_gi (J2 s 22) l_197_108 (oModel_sh hm) rfl ?_
        refine w_ic l_197_111 (by decide) ?_
        refine w_add (wr (J2 s 22 + 1)) l_197_112 rfl ?_
        refine w_pi l_197_113 (oModel_sh hm) ?_
        refine w_go 62 l_197_116 (by decide) ?_
        refine w_aln l_197_62 rfl ?_
        refine q_iv [] [] l_197_63 rfl rfl (Nat.le_of_ble_eq_true rfl) (by rw [mx_175]; exact Nat.le_of_ble_eq_true rfl) (by rw [mt_175]; exact oModel_sh hm) (by rw [mt_175]; decide) (by rw [rk_175]; decide) (s_175_1 (k := ((e9.1 : Nat) : Int)) hm (by repeat (first | exact e24 | rw [up_nj (by decide)])) (by omega)) ?_
        refine w_zne 119 l_197_66 (by decide) (fun _ => ?_) (fun hx => absurd hx (by decide))
        refine w_vr l_197_119 ?_
        have hR : linesR t n (d + 1) P p = .inl e9 := by
          rw [linesR, if_neg hk0, hL]
        exact ⟨_, _, rfl, rfl, rfl, f.tr ((f1.T.P.tr f2).up (Or.inl ⟨rfl, by decide, by decide⟩)), by rw [hR]; exact ⟨he, (up_nj (by decide)).trans e24, (up_nj (by decide)).trans e23⟩⟩
      | inr a9 =>
        obtain ⟨P2, p2⟩ := a9
        have hge : p ≤ p2 := lineR_ge h4 hpn hL
        by_cases hs : isSg t n 59 p2 = true
        · have hub2 : ubA t n p2 = 59 := (ubA_c H (by decide)).mpr (isSg_iff.mp hs)
          have hpl2 := (isSg_iff.mp hs).1
          have hte : tEnd t n p2 = p2 + 1 := (isSg_3 (by decide) hs).2
          have hng := nxt_gt (t := t) hpl2
          refine w_aln l_197_62 rfl ?_
          refine q_iv [] [] l_197_63 rfl rfl (Nat.le_of_ble_eq_true rfl) (by rw [mx_175]; exact Nat.le_of_ble_eq_true rfl) (by rw [mt_175]; exact oModel_sh hm) (by rw [mt_175]; decide) (by rw [rk_175]; decide) (s_175_0 hm h24) ?_
          refine w_zne 119 l_197_66 (by decide) (fun hx => absurd hx (by decide)) (fun _ => ?_)
          refine w_aln l_197_69 rfl ?_
          refine p_iv [] [] l_197_70 rfl rfl (Nat.le_of_ble_eq_true rfl) (by rw [mx_174]; exact Nat.le_of_ble_eq_true rfl) (by rw [mt_174]; exact oModel_sh hm) (by rw [mt_174]; decide) (by rw [rk_174]; decide) (s_174A hm H A) (fun v J1 hv => ?_)
          obtain ⟨rfl, g221, f1⟩ := hv
          have H1 := H.fT f1.T
          have A1 := mAt.at g221 A.le A.id
          have k241 : J1 s 24 = 0 := (f1 s 24 (fun _ => by decide)).trans h24
          have k231 : J1 s 23 = I0 s 23 := (f1 s 23 (fun _ => by decide)).trans h23
          have Y1 := Y.fT f1.T
          refine w_ic l_197_73 (by decide) ?_
          refine w_ceq 119 l_197_74 (by decide) (fun hx => absurd hx (by omega)) (fun _ => ?_)
          refine w_aln l_197_77 rfl ?_
          refine p_iv [] [] l_197_78 rfl rfl (Nat.le_of_ble_eq_true rfl) (by rw [mx_196]; exact Nat.le_of_ble_eq_true rfl) (by rw [mt_196]; exact oModel_sh hm) (by rw [mt_196]; decide) (by rw [rk_196]; decide) (by have g9 := s_196 (xs := xs) (cc := cc) (zz := zz) hm H1 A1 k241 Y1 hb; rw [hL] at g9; exact g9) (fun v J2 hv => ?_)
          obtain ⟨rfl, f2, ⟨k242, k232⟩, A2, tot2, Y2, hb2⟩ := hv
          have H2 := H1.fP f2
          have A2 : mAt J2 s t n p2 := A2
          have Y2 : mSU J2 s P2 [] tot2 := Y2
          have hb2 : 2 * tot2 ≤ p2 := hb2
          refine w_aln l_197_81 rfl ?_
          refine q_iv [] [] l_197_82 rfl rfl (Nat.le_of_ble_eq_true rfl) (by rw [mx_175]; exact Nat.le_of_ble_eq_true rfl) (by rw [mt_175]; exact oModel_sh hm) (by rw [mt_175]; decide) (by rw [rk_175]; decide) (s_175_0 hm k242) ?_
          refine w_zne 106 l_197_85 (by decide) (fun hx => absurd hx (by decide)) (fun _ => ?_)
          refine w_aln l_197_88 rfl ?_
          refine p_iv [] [] l_197_89 rfl rfl (Nat.le_of_ble_eq_true rfl) (by rw [mx_174]; exact Nat.le_of_ble_eq_true rfl) (by rw [mt_174]; exact oModel_sh hm) (by rw [mt_174]; decide) (by rw [rk_174]; decide) (by have g9 := s_174A (xs := xs) (cc := cc) (zz := zz) hm H2 A2; rw [show ubA t n p2 = 59 from hub2] at g9; exact g9) (fun v J3 hv => ?_)
          obtain ⟨rfl, g223, f3⟩ := hv
          have H3 := H2.fT f3.T
          have k243 : J3 s 24 = 0 := (f3 s 24 (fun _ => by decide)).trans k242
          have k233 : J3 s 23 = I0 s 23 := (f3 s 23 (fun _ => by decide)).trans (k232.trans k231)
          have Y3 := Y2.fT f3.T
          refine w_bp l_197_92 (by decide) ?_
          refine w_ceq 106 l_197_94 (by decide) (fun _ => ?_) (fun hx => absurd hx (by decide))
          refine w_aln l_197_106 rfl ?_
          refine w_dup l_197_107 rfl ?_
          refine w_gi ((p2 : Nat) : Int) l_197_108 (oModel_sh hm) g223 ?_
          refine w_ic l_197_111 (by decide) ?_
          refine w_add (((p2 + 1) : Nat) : Int) l_197_112 (by unfold wr; omega) ?_
          refine w_pi l_197_113 (oModel_sh hm) ?_
          refine w_go 62 l_197_116 (by decide) ?_
          have hR : linesR t n (d + 1) P p = linesR t n d P2 (nxt t n p2) := by
            rw [linesR, if_neg hk0, hL]
            exact if_pos hs
          rw [hR]
          have F3 := ((f1.T.P.tr f2).tr f3.T.P).up (v := ((p2 + 1 : Nat) : Int)) (z := s) (w := 22) (Or.inl ⟨rfl, by decide, by decide⟩)
          refine ih (nxt t n p2) P2 tot2 _ (by omega) (H.fP F3) ⟨p2 + 1, up_eq, by omega, by rw [← hte]; rfl⟩ ((up_nj (by decide)).trans k243) ((up_nj (by decide)).trans k233) (Y3.eq (fun w h1 h2 => up_nj (by omega)) (fun j h1 h2 w => up_no (by omega))) (Nat.le_trans hb2 nxt_ge) (f.tr F3)
        · have hub2 : ubA t n p2 ≠ 59 := fun q => hs (isSg_iff.mpr ((ubA_c H (by decide)).mp q))
          refine w_aln l_197_62 rfl ?_
          refine q_iv [] [] l_197_63 rfl rfl (Nat.le_of_ble_eq_true rfl) (by rw [mx_175]; exact Nat.le_of_ble_eq_true rfl) (by rw [mt_175]; exact oModel_sh hm) (by rw [mt_175]; decide) (by rw [rk_175]; decide) (s_175_0 hm h24) ?_
          refine w_zne 119 l_197_66 (by decide) (fun hx => absurd hx (by decide)) (fun _ => ?_)
          refine w_aln l_197_69 rfl ?_
          refine p_iv [] [] l_197_70 rfl rfl (Nat.le_of_ble_eq_true rfl) (by rw [mx_174]; exact Nat.le_of_ble_eq_true rfl) (by rw [mt_174]; exact oModel_sh hm) (by rw [mt_174]; decide) (by rw [rk_174]; decide) (s_174A hm H A) (fun v J1 hv => ?_)
          obtain ⟨rfl, g221, f1⟩ := hv
          have H1 := H.fT f1.T
          have A1 := mAt.at g221 A.le A.id
          have k241 : J1 s 24 = 0 := (f1 s 24 (fun _ => by decide)).trans h24
          have k231 : J1 s 23 = I0 s 23 := (f1 s 23 (fun _ => by decide)).trans h23
          have Y1 := Y.fT f1.T
          refine w_ic l_197_73 (by decide) ?_
          refine w_ceq 119 l_197_74 (by decide) (fun hx => absurd hx (by omega)) (fun _ => ?_)
          refine w_aln l_197_77 rfl ?_
          refine p_iv [] [] l_197_78 rfl rfl (Nat.le_of_ble_eq_true rfl) (by rw [mx_196]; exact Nat.le_of_ble_eq_true rfl) (by rw [mt_196]; exact oModel_sh hm) (by rw [mt_196]; decide) (by rw [rk_196]; decide) (by have g9 := s_196 (xs := xs) (cc := cc) (zz := zz) hm H1 A1 k241 Y1 hb; rw [hL] at g9; exact g9) (fun v J2 hv => ?_)
          obtain ⟨rfl, f2, ⟨k242, k232⟩, A2, tot2, Y2, hb2⟩ := hv
          have H2 := H1.fP f2
          have A2 : mAt J2 s t n p2 := A2
          have Y2 : mSU J2 s P2 [] tot2 := Y2
          have hb2 : 2 * tot2 ≤ p2 := hb2
          refine w_aln l_197_81 rfl ?_
          refine q_iv [] [] l_197_82 rfl rfl (Nat.le_of_ble_eq_true rfl) (by rw [mx_175]; exact Nat.le_of_ble_eq_true rfl) (by rw [mt_175]; exact oModel_sh hm) (by rw [mt_175]; decide) (by rw [rk_175]; decide) (s_175_0 hm k242) ?_
          refine w_zne 106 l_197_85 (by decide) (fun hx => absurd hx (by decide)) (fun _ => ?_)
          refine w_aln l_197_88 rfl ?_
          refine p_iv [] [] l_197_89 rfl rfl (Nat.le_of_ble_eq_true rfl) (by rw [mx_174]; exact Nat.le_of_ble_eq_true rfl) (by rw [mt_174]; exact oModel_sh hm) (by rw [mt_174]; decide) (by rw [rk_174]; decide) (s_174A hm H2 A2) (fun v J3 hv => ?_)
          obtain ⟨rfl, g223, f3⟩ := hv
          have H3 := H2.fT f3.T
          have k243 : J3 s 24 = 0 := (f3 s 24 (fun _ => by decide)).trans k242
          have k233 : J3 s 23 = I0 s 23 := (f3 s 23 (fun _ => by decide)).trans (k232.trans k231)
          have Y3 := Y2.fT f3.T
          refine w_bp l_197_92 (by decide) ?_
          refine w_ceq 106 l_197_94 (by decide) (fun hx => absurd hx (by omega)) (fun _ => ?_)
          refine w_aln l_197_97 rfl ?_
          refine w_ic l_197_98 (by decide) ?_
          refine w_aln l_197_99 rfl ?_
          refine w_gi ((p2 : Nat) : Int) l_197_100 (oModel_sh hm) g223 ?_
          refine q_iv [vi 1, vi ((p2 : Nat) : Int)] [] l_197_103 rfl rfl (Nat.le_of_ble_eq_true rfl) (by rw [mx_176]; exact Nat.le_of_ble_eq_true rfl) (by rw [mt_176]; exact oModel_sh hm) (by rw [mt_176]; decide) (by rw [rk_176]; decide) (s_176 hm k243 (k := 1)) ?_
          refine w_aln l_197_106 rfl ?_
          refine w_dup l_197_107 rfl ?_
          refine w_gi ((p2 : Nat) : Int) l_197_108 (oModel_sh hm) ((up_nj (by omega)).trans ((up_nj (by omega)).trans (g223))) ?_
          refine w_ic l_197_111 (by decide) ?_
          refine w_add (((p2 + 1) : Nat) : Int) l_197_112 (by have := A2.le; unfold wr; omega) ?_
          refine w_pi l_197_113 (oModel_sh hm) ?_
          refine w_go 62 l_197_116 (by decide) ?_
          refine w_aln l_197_62 rfl ?_
          refine q_iv [] [] l_197_63 rfl rfl (Nat.le_of_ble_eq_true rfl) (by rw [mx_175]; exact Nat.le_of_ble_eq_true rfl) (by rw [mt_175]; exact oModel_sh hm) (by rw [mt_175]; decide) (by rw [rk_175]; decide) (s_175_1 (k := 1) hm (by repeat (first | exact up_eq | rw [up_nj (by decide)])) (by decide)) ?_
          refine w_zne 119 l_197_66 (by decide) (fun _ => ?_) (fun hx => absurd hx (by decide))
          refine w_vr l_197_119 ?_
          have hR : linesR t n (d + 1) P p = .inl (1, p2) := by
            rw [linesR, if_neg hk0, hL]
            exact if_neg hs
          exact ⟨_, _, rfl, rfl, rfl, f.tr (((((f1.T.P.tr f2).tr f3.T.P).up (Or.inl ⟨rfl, by decide, by decide⟩)).up (Or.inl ⟨rfl, by decide, by decide⟩)).up (Or.inl ⟨rfl, by decide, by decide⟩)), by rw [hR]; exact ⟨Nat.le_refl 1, (up_nj (by decide)).trans ((up_nj (by decide)).trans up_eq), (up_nj (by decide)).trans up_eq⟩⟩
    · have hk0 : tkk t n p = 0 := tkk_0.mpr hpl
      have hub : ubA t n p = -1 := if_neg hpl
      generalize hd0 : d + 1 = d'
      refine w_aln l_197_62 rfl ?_
      refine q_iv [] [] l_197_63 rfl rfl (Nat.le_of_ble_eq_true rfl) (by rw [mx_175]; exact Nat.le_of_ble_eq_true rfl) (by rw [mt_175]; exact oModel_sh hm) (by rw [mt_175]; decide) (by rw [rk_175]; decide) (s_175_0 hm h24) ?_
      refine w_zne 119 l_197_66 (by decide) (fun hx => absurd hx (by decide)) (fun _ => ?_)
      refine w_aln l_197_69 rfl ?_
      refine p_iv [] [] l_197_70 rfl rfl (Nat.le_of_ble_eq_true rfl) (by rw [mx_174]; exact Nat.le_of_ble_eq_true rfl) (by rw [mt_174]; exact oModel_sh hm) (by rw [mt_174]; decide) (by rw [rk_174]; decide) (by have g9 := s_174A (xs := xs) (cc := cc) (zz := zz) hm H A; rw [show ubA t n p = -1 from hub] at g9; exact g9) (fun v J1 hv => ?_)
      obtain ⟨rfl, g221, f1⟩ := hv
      have H1 := H.fT f1.T
      have A1 := mAt.at g221 A.le A.id
      have k241 : J1 s 24 = 0 := (f1 s 24 (fun _ => by decide)).trans h24
      have k231 : J1 s 23 = I0 s 23 := (f1 s 23 (fun _ => by decide)).trans h23
      have Y1 := Y.fT f1.T
      refine w_ic l_197_73 (by decide) ?_
      refine w_ceq 119 l_197_74 (by decide) (fun _ => ?_) (fun hx => absurd hx (by decide))
      refine w_vr l_197_119 ?_
      have hR : linesR t n d' P p = .inr P := by
        cases d' with
        | zero => rfl
        | succ d => exact if_pos hk0
      exact ⟨_, _, rfl, rfl, rfl, f.tr f1.T.P, by rw [hR]; exact ⟨⟨k241, k231⟩, tot, Y1, by omega⟩⟩

theorem s_197 (hm : oModel S T s) (HI : mIn I s t n) (hB : ∀ j, j < n → -128 ≤ t j ∧ t j ≤ 127) : CL xs 197 [vr s] (S, I, T, cc, zz) (RP S T cc zz (fun v I' => v = none ∧ fX I I' s ∧ I' s 20 = 0 ∧ match textR t n with
    | .inl e => 1 ≤ e.1 ∧ I' s 24 = ((e.1 : Nat) : Int) ∧ I' s 23 = ((e.2 : Nat) : Int)
    | .inr P => I' s 24 = 0 ∧ I' s 23 = -1 ∧ ∃ tot', mSU I' s P [] tot' ∧ 2 * tot' ≤ 600)) := by
  refine CL_start (r := 10) (ls := [vr s]) (rk_197 _) rfl ?_
  refine w_aln l_197_0 rfl ?_
  refine w_aln l_197_1 rfl ?_
  refine w_gi ((n : Nat) : Int) l_197_2 (oModel_sh hm) HI.1 ?_
  refine w_pi l_197_5 (oModel_sh hm) ?_
  refine w_aln l_197_8 rfl ?_
  refine w_ic l_197_9 (by decide) ?_
  refine w_pi l_197_10 (oModel_sh hm) ?_
  refine w_aln l_197_13 rfl ?_
  refine w_ic l_197_14 (by decide) ?_
  refine w_pi l_197_15 (oModel_sh hm) ?_
  refine w_aln l_197_18 rfl ?_
  refine w_ic l_197_19 (by decide) ?_
  refine w_pi l_197_20 (oModel_sh hm) ?_
  refine w_aln l_197_23 rfl ?_
  refine w_ic l_197_24 (by decide) ?_
  refine w_pi l_197_25 (oModel_sh hm) ?_
  refine w_aln l_197_28 rfl ?_
  refine w_ic l_197_29 (by decide) ?_
  refine w_pi l_197_30 (oModel_sh hm) ?_
  refine w_aln l_197_33 rfl ?_
  refine w_ic l_197_34 (by decide) ?_
  refine w_pi l_197_35 (oModel_sh hm) ?_
  refine w_aln l_197_38 rfl ?_
  refine w_ic l_197_39 (by decide) ?_
  refine w_pi l_197_40 (oModel_sh hm) ?_
  refine w_aln l_197_43 rfl ?_
  refine w_sp l_197_44 (by decide) ?_
  refine w_pi l_197_47 (oModel_sh hm) ?_
  refine w_aln l_197_50 rfl ?_
  refine w_bp l_197_51 (by decide) ?_
  refine w_pi l_197_53 (oModel_sh hm) ?_
  refine w_aln l_197_56 rfl ?_
  refine w_bp l_197_57 (by decide) ?_
  refine w_pi l_197_59 (oModel_sh hm) ?_
  refine WP_mono (lp_197 (t := t) (n := n) (I0 := _) hm n (skw t n 0) ps0 0 _ (by omega) ?_ ?_ ?_ rfl ?_ (by omega) (fP.rf _ s)) ?_
  · refine ⟨?_, HI.2.1, fun j hj => ⟨?_, hB j hj⟩⟩
    · repeat (first | exact up_eq | rw [up_nj (by decide)])
    · repeat (rw [up_no (by omega)])
      exact HI.2.2 j hj
  · refine ⟨0, ?_, Nat.zero_le _, rfl⟩
    repeat (first | exact up_eq | rw [up_nj (by decide)])
  · repeat (first | exact up_eq | rw [up_nj (by decide)])
  · refine ⟨⟨?_, ?_, ?_, ?_, ?_, ?_⟩, fun p hp => absurd hp (Nat.not_lt_zero p), okPs_0, fun r hr => absurd hr (Nat.not_lt_zero r), fun j hj => absurd hj (Nat.not_lt_zero j)⟩
    all_goals (repeat (first | exact up_eq | rw [up_nj (by decide)]))
  · rintro o m' ⟨v, J, rfl, rfl, rfl, fJ, hJ⟩
    have e23 : (up (up (up (up (up (up (up (up (up (up (up I s 21 ((n : Nat) : Int)) s 20 0) s 22 0) s 23 (-1)) s 24 0) s 25 0) s 34 0) s 39 0) s 31 400) s 32 100) s 33 99) s 23 = -1 := by repeat (first | exact up_eq | rw [up_nj (by decide)])
    refine ⟨_, _, rfl, rfl, rfl, fun z w h1 h2 => (fJ z w (fun e => by have := h1 e; omega) h2).trans (by repeat (rw [up_out (by omega)])), ?_, ?_⟩
    · refine (fJ s 20 (fun _ => by decide) (by omega)).trans ?_
      repeat (first | exact up_eq | rw [up_nj (by decide)])
    · unfold textR
      revert hJ
      cases linesR t n n ps0 (skw t n 0) with
      | inl e => exact fun hJ => hJ
      | inr P => exact fun hJ => ⟨hJ.1.1, hJ.1.2.trans e23, hJ.2⟩

end RGG
