/-! the reference's reader: lines of ports and policers -/
theorem mSU.port {I J : Ix} {s tot : Nat} {P : Ps} {w : List Nat} {c sp : Nat} (Z : mSU I s P [] tot) (ok : okPs (psPort P w c sp)) (e0 : ∀ z, 25 < z → z < 40 → J s z = I s z) (v25 : J s 25 = ((lPorts P.1 + 1 : Nat) : Int)) (e : ∀ j, 13 ≤ j → j ≤ 21 → ∀ z, z ≠ lPorts P.1 ∨ 17 < j → J (s + j) z = I (s + j) z) (v13 : J (s + 13) (lPorts P.1) = ((nvR w : Nat) : Int)) (v14 : J (s + 14) (lPorts P.1) = (c : Int)) (v15 : J (s + 15) (lPorts P.1) = (sp : Int)) (v16 : J (s + 16) (lPorts P.1) = 0) (v17 : J (s + 17) (lPorts P.1) = -1) : mSU J s (psPort P w c sp) [] tot := by
  obtain ⟨⟨a1, a2, a3, a4, a5, a6⟩, z2, z3, z4, z5⟩ := Z
  have hP : lPorts (psPort P w c sp).1 = lPorts P.1 + 1 := rfl
  have hq : ∀ p, p ≠ lPorts P.1 → lCap (psPort P w c sp).1 p = lCap P.1 p ∧ lSpeed (psPort P w c sp).1 p = lSpeed P.1 p ∧ lPol (psPort P w c sp).1 p = lPol P.1 p ∧ (psPort P w c sp).2.1 p = P.2.1 p := fun p hp => by
    unfold lCap lSpeed lPol psPort fu
    simp only [if_neg hp, and_self]
  have hn : lCap (psPort P w c sp).1 (lPorts P.1) = c ∧ lSpeed (psPort P w c sp).1 (lPorts P.1) = sp ∧ lPol (psPort P w c sp).1 (lPorts P.1) = none ∧ (psPort P w c sp).2.1 (lPorts P.1) = w := by
    unfold lCap lSpeed lPol psPort fu
    simp only [if_true, and_self]
  refine ⟨⟨v25, (e0 34 (by decide) (by decide)).trans a2, (e0 31 (by decide) (by decide)).trans a3, (e0 32 (by decide) (by decide)).trans a4, (e0 33 (by decide) (by decide)).trans a5, (e0 39 (by decide) (by decide)).trans a6⟩, fun p hp => ?_, ok, fun r hr => ?_, fun j hj => absurd hj (Nat.not_lt_zero j)⟩
  · rw [hP] at hp
    by_cases hpn : p = lPorts P.1
    · rw [hpn, hn.1, hn.2.1, hn.2.2.1, hn.2.2.2]
      exact ⟨v13, v14, v15, v16, v17⟩
    · obtain ⟨q1, q2, q3, q4⟩ := hq p hpn
      rw [q1, q2, q3, q4, e 13 (by decide) (by decide) p (Or.inl hpn), e 14 (by decide) (by decide) p (Or.inl hpn), e 15 (by decide) (by decide) p (Or.inl hpn), e 16 (by decide) (by decide) p (Or.inl hpn), e 17 (by decide) (by decide) p (Or.inl hpn)]
      exact z2 p (by omega)
  · obtain ⟨g1, g2, o, g3, g4, g5, g6⟩ := z4 r hr
    refine ⟨(e 18 (by decide) (by decide) r (Or.inr (by decide))).trans g1, g2, o, (e 19 (by decide) (by decide) r (Or.inr (by decide))).trans g3, (e 20 (by decide) (by decide) r (Or.inr (by decide))).trans g4, g5, fun j hj => ?_⟩
    rw [e 21 (by decide) (by decide) _ (Or.inr (by decide)), e 21 (by decide) (by decide) _ (Or.inr (by decide)), e 21 (by decide) (by decide) _ (Or.inr (by decide))]
    exact g6 j hj
theorem mSU.pol {I J : Ix} {s tot i r b : Nat} {P : Ps} (Z : mSU I s P [] tot) (ok : okPs (psPol P i r b)) (e0 : ∀ z, 24 < z → z < 40 → J s z = I s z) (e : ∀ j, 13 ≤ j → j ≤ 21 → ∀ z, (j = 16 ∨ j = 17 → z ≠ i) → J (s + j) z = I (s + j) z) (v16 : J (s + 16) i = (r : Int)) (v17 : J (s + 17) i = (b : Int)) : mSU J s (psPol P i r b) [] tot := by
  obtain ⟨⟨a1, a2, a3, a4, a5, a6⟩, z2, z3, z4, z5⟩ := Z
  have hq : ∀ p, p ≠ i → lPol (psPol P i r b).1 p = lPol P.1 p := fun p hp => by
    unfold lPol psPol fu
    simp only [if_neg hp]
  have hn : lPol (psPol P i r b).1 i = some (r, b) := by
    unfold lPol psPol fu
    simp only [if_true]
  have e' : ∀ j, 13 ≤ j → j ≤ 21 → ¬ (j = 16 ∨ j = 17) → ∀ z, J (s + j) z = I (s + j) z := fun j h1 h2 h3 z => e j h1 h2 z (fun q => absurd q h3)
  refine ⟨⟨(e0 25 (by decide) (by decide)).trans a1, (e0 34 (by decide) (by decide)).trans a2, (e0 31 (by decide) (by decide)).trans a3, (e0 32 (by decide) (by decide)).trans a4, (e0 33 (by decide) (by decide)).trans a5, (e0 39 (by decide) (by decide)).trans a6⟩, fun p hp => ?_, ok, fun r hr => ?_, fun j hj => absurd hj (Nat.not_lt_zero j)⟩
  · have hp : p < lPorts P.1 := hp
    obtain ⟨c1, c2, c3, c4⟩ := z2 p hp
    refine ⟨(e' 13 (by decide) (by decide) (by decide) p).trans c1, (e' 14 (by decide) (by decide) (by decide) p).trans c2, (e' 15 (by decide) (by decide) (by decide) p).trans c3, ?_⟩
    by_cases hpi : p = i
    · rw [hpi, hn]
      exact ⟨v16, v17⟩
    · rw [hq p hpi, e 16 (by decide) (by decide) p (fun _ => hpi), e 17 (by decide) (by decide) p (fun _ => hpi)]
      exact c4
  · obtain ⟨g1, g2, o, g3, g4, g5, g6⟩ := z4 r hr
    refine ⟨(e' 18 (by decide) (by decide) (by decide) r).trans g1, g2, o, (e' 19 (by decide) (by decide) (by decide) r).trans g3, (e' 20 (by decide) (by decide) (by decide) r).trans g4, g5, fun j hj => ?_⟩
    rw [e' 21 (by decide) (by decide) (by decide), e' 21 (by decide) (by decide) (by decide), e' 21 (by decide) (by decide) (by decide)]
    exact g6 j hj
section RFX
variable {xs : List Int} {S : List (Nat × Nat)} {T : Nat → Nat → Nat} {cc zz s : Nat} {I I' : Ix} {t : Nat → Int} {n : Nat}

theorem mx_183 : mxl 183 = 5 := by decide +kernel
theorem mt_183 : mtc 183 = 10 := by decide +kernel
theorem rk_183 (as : List AV) : rkA 183 as = 4 := rfl
theorem l_183_0 : look 183 0 = some (.aload_n 0, 1, 0, 0, 0, 0) := by decide +kernel
theorem l_183_1 : look 183 1 = some (.invokevirtual 209, 3, 181, 1, 0, 1794) := by decide +kernel
theorem l_183_4 : look 183 4 = some (.lstore_n 1, 1, 0, 0, 0, 0) := by decide +kernel
theorem l_183_5 : look 183 5 = some (.aload_n 0, 1, 0, 0, 0, 0) := by decide +kernel
theorem l_183_6 : look 183 6 = some (.invokevirtual 182, 3, 175, 1, 0, 1750) := by decide +kernel
theorem l_183_9 : look 183 9 = some (.ifCond .ne 21, 3, 0, 0, 0, 0) := by decide +kernel
theorem l_183_12 : look 183 12 = some (.aload_n 0, 1, 0, 0, 0, 0) := by decide +kernel
theorem l_183_13 : look 183 13 = some (.lload_n 1, 1, 0, 0, 0, 0) := by decide +kernel
theorem l_183_14 : look 183 14 = some (.invokevirtual 213, 3, 182, 2, 0, 1800) := by decide +kernel
theorem l_183_17 : look 183 17 = some (.iconst (-1), 1, 0, 0, 0, 0) := by decide +kernel
theorem l_183_18 : look 183 18 = some (.if_icmp .eq 12, 3, 0, 0, 0, 0) := by decide +kernel
theorem l_183_21 : look 183 21 = some (.aload_n 0, 1, 0, 0, 0, 0) := by decide +kernel
theorem l_183_22 : look 183 22 = some (.iconst 3, 1, 0, 0, 0, 0) := by decide +kernel
theorem l_183_23 : look 183 23 = some (.aload_n 0, 1, 0, 0, 0, 0) := by decide +kernel
theorem l_183_24 : look 183 24 = some (.getfield 161, 3, 10, 22, 0, 1523) := by decide +kernel
theorem l_183_27 : look 183 27 = some (.invokevirtual 198, 3, 176, 3, 0, 1782) := by decide +kernel
theorem l_183_30 : look 183 30 = some (.aload_n 0, 1, 0, 0, 0, 0) := by decide +kernel
theorem l_183_31 : look 183 31 = some (.aload_n 0, 1, 0, 0, 0, 0) := by decide +kernel
theorem l_183_32 : look 183 32 = some (.invokevirtual 182, 3, 175, 1, 0, 1750) := by decide +kernel
theorem l_183_35 : look 183 35 = some (.ifCond .eq 10, 3, 0, 0, 0, 0) := by decide +kernel
theorem l_183_38 : look 183 38 = some (.aload_n 0, 1, 0, 0, 0, 0) := by decide +kernel
theorem l_183_39 : look 183 39 = some (.getfield 161, 3, 10, 22, 0, 1523) := by decide +kernel
theorem l_183_42 : look 183 42 = some (.goto 7, 3, 0, 0, 0, 0) := by decide +kernel
theorem l_183_45 : look 183 45 = some (.aload_n 0, 1, 0, 0, 0, 0) := by decide +kernel
theorem l_183_46 : look 183 46 = some (.invokevirtual 179, 3, 177, 1, 0, 1771) := by decide +kernel
theorem l_183_49 : look 183 49 = some (.putfield 161, 3, 10, 22, 0, 1523) := by decide +kernel
theorem l_183_52 : look 183 52 = some (.aload_n 0, 1, 0, 0, 0, 0) := by decide +kernel
theorem l_183_53 : look 183 53 = some (.iconst 1, 1, 0, 0, 0, 0) := by decide +kernel
theorem l_183_54 : look 183 54 = some (.bipush 99, 2, 0, 0, 0, 0) := by decide +kernel
theorem l_183_56 : look 183 56 = some (.invokevirtual 217, 3, 180, 3, 0, 1804) := by decide +kernel
theorem l_183_59 : look 183 59 = some (.istore_n 3, 1, 0, 0, 0, 0) := by decide +kernel
theorem l_183_60 : look 183 60 = some (.aload_n 0, 1, 0, 0, 0, 0) := by decide +kernel
theorem l_183_61 : look 183 61 = some (.iconst 0, 1, 0, 0, 0, 0) := by decide +kernel
theorem l_183_62 : look 183 62 = some (.bipush 9, 2, 0, 0, 0, 0) := by decide +kernel
theorem l_183_64 : look 183 64 = some (.invokevirtual 217, 3, 180, 3, 0, 1804) := by decide +kernel
theorem l_183_67 : look 183 67 = some (.istore 4, 2, 0, 0, 0, 0) := by decide +kernel
theorem l_183_69 : look 183 69 = some (.aload_n 0, 1, 0, 0, 0, 0) := by decide +kernel
theorem l_183_70 : look 183 70 = some (.invokevirtual 182, 3, 175, 1, 0, 1750) := by decide +kernel
theorem l_183_73 : look 183 73 = some (.ifCond .eq 4, 3, 0, 0, 0, 0) := by decide +kernel
theorem l_183_76 : look 183 76 = some (.return_, 1, 0, 0, 0, 0) := by decide +kernel
theorem l_183_77 : look 183 77 = some (.aload_n 0, 1, 0, 0, 0, 0) := by decide +kernel
theorem l_183_78 : look 183 78 = some (.getfield 62, 3, 10, 26, 2, 1527) := by decide +kernel
theorem l_183_81 : look 183 81 = some (.aload_n 0, 1, 0, 0, 0, 0) := by decide +kernel
theorem l_183_82 : look 183 82 = some (.getfield 206, 3, 10, 25, 0, 1526) := by decide +kernel
theorem l_183_85 : look 183 85 = some (.lload_n 1, 1, 0, 0, 0, 0) := by decide +kernel
theorem l_183_86 : look 183 86 = some (.lastore, 1, 0, 0, 0, 0) := by decide +kernel
theorem l_183_87 : look 183 87 = some (.aload_n 0, 1, 0, 0, 0, 0) := by decide +kernel
theorem l_183_88 : look 183 88 = some (.getfield 65, 3, 10, 27, 2, 1528) := by decide +kernel
theorem l_183_91 : look 183 91 = some (.aload_n 0, 1, 0, 0, 0, 0) := by decide +kernel
theorem l_183_92 : look 183 92 = some (.getfield 206, 3, 10, 25, 0, 1526) := by decide +kernel
theorem l_183_95 : look 183 95 = some (.iload_n 3, 1, 0, 0, 0, 0) := by decide +kernel
theorem l_183_96 : look 183 96 = some (.iastore, 1, 0, 0, 0, 0) := by decide +kernel
theorem l_183_97 : look 183 97 = some (.aload_n 0, 1, 0, 0, 0, 0) := by decide +kernel
theorem l_183_98 : look 183 98 = some (.getfield 68, 3, 10, 28, 2, 1529) := by decide +kernel
theorem l_183_101 : look 183 101 = some (.aload_n 0, 1, 0, 0, 0, 0) := by decide +kernel
theorem l_183_102 : look 183 102 = some (.getfield 206, 3, 10, 25, 0, 1526) := by decide +kernel
theorem l_183_105 : look 183 105 = some (.iload 4, 2, 0, 0, 0, 0) := by decide +kernel
theorem l_183_107 : look 183 107 = some (.iastore, 1, 0, 0, 0, 0) := by decide +kernel
theorem l_183_108 : look 183 108 = some (.aload_n 0, 1, 0, 0, 0, 0) := by decide +kernel
theorem l_183_109 : look 183 109 = some (.getfield 71, 3, 10, 29, 2, 1530) := by decide +kernel
theorem l_183_112 : look 183 112 = some (.aload_n 0, 1, 0, 0, 0, 0) := by decide +kernel
theorem l_183_113 : look 183 113 = some (.getfield 206, 3, 10, 25, 0, 1526) := by decide +kernel
theorem l_183_116 : look 183 116 = some (.iconst 0, 1, 0, 0, 0, 0) := by decide +kernel
theorem l_183_117 : look 183 117 = some (.iastore, 1, 0, 0, 0, 0) := by decide +kernel
theorem l_183_118 : look 183 118 = some (.aload_n 0, 1, 0, 0, 0, 0) := by decide +kernel
theorem l_183_119 : look 183 119 = some (.getfield 74, 3, 10, 30, 2, 1531) := by decide +kernel
theorem l_183_122 : look 183 122 = some (.aload_n 0, 1, 0, 0, 0, 0) := by decide +kernel
theorem l_183_123 : look 183 123 = some (.getfield 206, 3, 10, 25, 0, 1526) := by decide +kernel
theorem l_183_126 : look 183 126 = some (.iconst (-1), 1, 0, 0, 0, 0) := by decide +kernel
theorem l_183_127 : look 183 127 = some (.iastore, 1, 0, 0, 0, 0) := by decide +kernel
theorem l_183_128 : look 183 128 = some (.aload_n 0, 1, 0, 0, 0, 0) := by decide +kernel
theorem l_183_129 : look 183 129 = some (.dup, 1, 0, 0, 0, 0) := by decide +kernel
theorem l_183_130 : look 183 130 = some (.getfield 206, 3, 10, 25, 0, 1526) := by decide +kernel
theorem l_183_133 : look 183 133 = some (.iconst 1, 1, 0, 0, 0, 0) := by decide +kernel
theorem l_183_134 : look 183 134 = some (.iadd, 1, 0, 0, 0, 0) := by decide +kernel
theorem l_183_135 : look 183 135 = some (.putfield 206, 3, 10, 25, 0, 1526) := by decide +kernel
theorem l_183_138 : look 183 138 = some (.return_, 1, 0, 0, 0, 0) := by decide +kernel

/-- what stands behind the word "port" -/
def portM (t : Nat → Int) (n : Nat) (P : Ps) (p : Nat) : PR (Ps × Nat) := match newR t n P p with
  | .inl e => .inl e
  | .inr (w, p2) => match numR t n 1 99 p2 with
    | .inl e => .inl e
    | .inr (c, p3) => match numR t n 0 9 p3 with
      | .inl e => .inl e
      | .inr (sp, p4) => .inr (psPort P w c sp, p4)
theorem portL_M {t : Nat → Int} {n : Nat} {P : Ps} {p : Nat} (h4 : ¬ 4 ≤ lPorts P.1) : portL t n P p = portM t n P (nxt t n p) := portL_new h4
theorem s_183 (hm : oModel S T s) (H : mTx I s t n) {P : Ps} {tot : Nat} (Z : mSU I s P [] tot) (h4 : ¬ 4 ≤ lPorts P.1) {p : Nat} (A : mAt I s t n p) (h24 : I s 24 = 0) : CL xs 183 [vr s] (S, I, T, cc, zz) (RP S T cc zz (fun v I' => v = none ∧ fP I I' s ∧ mRO I s I' (portM t n P p) (fun a => mAt I' s t n a.2 ∧ mSU I' s a.1 [] tot))) := by
  cases hn1 : nameR t n p with
  | inl e9 =>
    refine CL_start (r := 4) (ls := [vr s, vs 2, vs 2, vs 2, vs 2]) (rk_183 _) rfl ?_
    refine w_aln l_183_0 rfl ?_
    refine p_iv [] [] l_183_1 rfl rfl (Nat.le_of_ble_eq_true rfl) (by rw [mx_181]; exact Nat.le_of_ble_eq_true rfl) (by rw [mt_181]; exact oModel_sh hm) (by rw [mt_181]; decide) (by rw [rk_181]; decide) (by have g9 := s_181 (xs := xs) (cc := cc) (zz := zz) hm H A h24; rw [hn1] at g9; exact g9) (fun v I1 hv => ?_)
    obtain ⟨⟨z1, rfl⟩, f1, g221, he, e24, e23⟩ := hv
    have H1 := H.fT f1
    have Z1 := Z.fT f1
    refine w_lsn l_183_4 ⟨Nat.le_of_ble_eq_true rfl, rfl⟩ ?_
    refine w_aln l_183_5 rfl ?_
    refine q_iv [] [] l_183_6 rfl rfl (Nat.le_of_ble_eq_true rfl) (by rw [mx_175]; exact Nat.le_of_ble_eq_true rfl) (by rw [mt_175]; exact oModel_sh hm) (by rw [mt_175]; decide) (by rw [rk_175]; decide) (s_175_1 (k := ((e9.1 : Nat) : Int)) hm e24 (by omega)) ?_
    refine w_zne 30 l_183_9 (by decide) (fun _ => ?_) (fun hx => absurd hx (by decide))
    refine w_aln l_183_30 rfl ?_
    refine w_aln l_183_31 rfl ?_
    refine q_iv [] [vr s] l_183_32 rfl rfl (Nat.le_of_ble_eq_true rfl) (by rw [mx_175]; exact Nat.le_of_ble_eq_true rfl) (by rw [mt_175]; exact oModel_sh hm) (by rw [mt_175]; decide) (by rw [rk_175]; decide) (s_175_1 (k := ((e9.1 : Nat) : Int)) hm e24 (by omega)) ?_
    refine w_zeq 45 l_183_35 (by decide) (fun hx => absurd hx (by decide)) (fun _ => ?_)
    refine w_aln l_183_38 rfl ?_
    refine w_gi ((p : Nat) : Int) l_183_39 (oModel_sh hm) g221 ?_
    refine w_go 49 l_183_42 (by decide) ?_
    refine w_pi l_183_49 (oModel_sh hm) ?_
    refine w_aln l_183_52 rfl ?_
    refine w_ic l_183_53 (by decide) ?_
    refine w_bp l_183_54 (by decide) ?_
    refine q_iv [vi 1, vi 99] [] l_183_56 rfl rfl (Nat.le_of_ble_eq_true rfl) (by rw [mx_180]; exact Nat.le_of_ble_eq_true rfl) (by rw [mt_180]; exact oModel_sh hm) (by rw [mt_180]; decide) (by rw [rk_180]; decide) (s_180f hm (by repeat (first | exact e24 | exact up_eq | rw [up_nj (by decide)])) (by omega)) ?_
    refine w_isn l_183_59 ⟨Nat.le_of_ble_eq_true rfl, rfl⟩ ?_
    refine w_aln l_183_60 rfl ?_
    refine w_ic l_183_61 (by decide) ?_
    refine w_bp l_183_62 (by decide) ?_
    refine q_iv [vi 0, vi 9] [] l_183_64 rfl rfl (Nat.le_of_ble_eq_true rfl) (by rw [mx_180]; exact Nat.le_of_ble_eq_true rfl) (by rw [mt_180]; exact oModel_sh hm) (by rw [mt_180]; decide) (by rw [rk_180]; decide) (s_180f hm (by repeat (first | exact e24 | exact up_eq | rw [up_nj (by decide)])) (by omega)) ?_
    refine w_is l_183_67 ⟨Nat.le_of_ble_eq_true rfl, rfl⟩ ?_
    refine w_aln l_183_69 rfl ?_
    refine q_iv [] [] l_183_70 rfl rfl (Nat.le_of_ble_eq_true rfl) (by rw [mx_175]; exact Nat.le_of_ble_eq_true rfl) (by rw [mt_175]; exact oModel_sh hm) (by rw [mt_175]; decide) (by rw [rk_175]; decide) (s_175_1 (k := ((e9.1 : Nat) : Int)) hm (by repeat (first | exact e24 | exact up_eq | rw [up_nj (by decide)])) (by omega)) ?_
    refine w_zeq 77 l_183_73 (by decide) (fun hx => absurd hx (by decide)) (fun _ => ?_)
    refine w_vr l_183_76 ?_
    have hR : portM t n P p = .inl e9 := by
      unfold portM newR
      rw [hn1]
    exact ⟨_, _, rfl, rfl, rfl, (f1.up (Or.inl rfl)).P, by rw [hR]; exact ⟨he, (up_nj (by decide)).trans e24, (up_nj (by decide)).trans e23⟩⟩
  | inr w =>
    have hnw := nameR_w hn1
    cases hf : fnd P w with
    | some k =>
      refine CL_start (r := 4) (ls := [vr s, vs 2, vs 2, vs 2, vs 2]) (rk_183 _) rfl ?_
      refine w_aln l_183_0 rfl ?_
      refine p_iv [] [] l_183_1 rfl rfl (Nat.le_of_ble_eq_true rfl) (by rw [mx_181]; exact Nat.le_of_ble_eq_true rfl) (by rw [mt_181]; exact oModel_sh hm) (by rw [mt_181]; decide) (by rw [rk_181]; decide) (by have g9 := s_181 (xs := xs) (cc := cc) (zz := zz) hm H A h24; rw [hn1] at g9; exact g9) (fun v I1 hv => ?_)
      obtain ⟨_, f1, g221, ⟨k241, k231⟩, rfl⟩ := hv
      have H1 := H.fT f1
      have Z1 := Z.fT f1
      refine w_lsn l_183_4 ⟨Nat.le_of_ble_eq_true rfl, rfl⟩ ?_
      refine w_aln l_183_5 rfl ?_
      refine q_iv [] [] l_183_6 rfl rfl (Nat.le_of_ble_eq_true rfl) (by rw [mx_175]; exact Nat.le_of_ble_eq_true rfl) (by rw [mt_175]; exact oModel_sh hm) (by rw [mt_175]; decide) (by rw [rk_175]; decide) (s_175_0 hm k241) ?_
      refine w_zne 30 l_183_9 (by decide) (fun hx => absurd hx (by decide)) (fun _ => ?_)
      refine w_aln l_183_12 rfl ?_
      refine w_lln l_183_13 rfl ?_
      refine q_iv [vl (((nvR w) : Nat) : Int)] [] l_183_14 rfl rfl (Nat.le_of_ble_eq_true rfl) (by rw [mx_182]; exact Nat.le_of_ble_eq_true rfl) (by rw [mt_182]; exact oModel_sh hm) (by rw [mt_182]; decide) (by rw [rk_182]; decide) ((by have g9 := s_182 (xs := xs) (T := T) (cc := cc) (zz := zz) (x := (((nvR w) : Nat) : Int)) hm Z1.1.1 Z1.2.2.1.1.1; have g8 : fndZ (I1 (s + 13)) ((nvR w : Nat) : Int) (lPorts P.1) 0 = ((k : Nat) : Int) := (by rw [Z1.fnd hnw.2, hf]); rw [g8] at g9; exact g9)) ?_
      refine w_ic l_183_17 (by decide) ?_
      refine w_ceq 30 l_183_18 (by decide) (fun hx => absurd hx (by omega)) (fun _ => ?_)
      refine w_aln l_183_21 rfl ?_
      refine w_ic l_183_22 (by decide) ?_
      refine w_aln l_183_23 rfl ?_
      refine w_gi ((p : Nat) : Int) l_183_24 (oModel_sh hm) g221 ?_
      refine q_iv [vi 3, vi ((p : Nat) : Int)] [] l_183_27 rfl rfl (Nat.le_of_ble_eq_true rfl) (by rw [mx_176]; exact Nat.le_of_ble_eq_true rfl) (by rw [mt_176]; exact oModel_sh hm) (by rw [mt_176]; decide) (by rw [rk_176]; decide) (s_176 hm k241 (k := 3)) ?_
      refine w_aln l_183_30 rfl ?_
      refine w_aln l_183_31 rfl ?_
      refine q_iv [] [vr s] l_183_32 rfl rfl (Nat.le_of_ble_eq_true rfl) (by rw [mx_175]; exact Nat.le_of_ble_eq_true rfl) (by rw [mt_175]; exact oModel_sh hm) (by rw [mt_175]; decide) (by rw [rk_175]; decide) (s_175_1 (k := 3) hm (by repeat (first | exact up_eq | rw [up_nj (by decide)])) (by decide)) ?_
      refine w_zeq 45 l_183_35 (by decide) (fun hx => absurd hx (by decide)) (fun _ => ?_)
      refine w_aln l_183_38 rfl ?_
      refine w_gi ((p : Nat) : Int) l_183_39 (oModel_sh hm) ((up_nj (by omega)).trans ((up_nj (by omega)).trans (g221))) ?_
      refine w_go 49 l_183_42 (by decide) ?_
      refine w_pi l_183_49 (oModel_sh hm) ?_
      refine w_aln l_183_52 rfl ?_
      refine w_ic l_183_53 (by decide) ?_
      refine w_bp l_183_54 (by decide) ?_
      refine q_iv [vi 1, vi 99] [] l_183_56 rfl rfl (Nat.le_of_ble_eq_true rfl) (by rw [mx_180]; exact Nat.le_of_ble_eq_true rfl) (by rw [mt_180]; exact oModel_sh hm) (by rw [mt_180]; decide) (by rw [rk_180]; decide) (s_180f (k := 3) hm (by repeat (first | exact up_eq | rw [up_nj (by decide)])) (by decide)) ?_
      refine w_isn l_183_59 ⟨Nat.le_of_ble_eq_true rfl, rfl⟩ ?_
      refine w_aln l_183_60 rfl ?_
      refine w_ic l_183_61 (by decide) ?_
      refine w_bp l_183_62 (by decide) ?_
      refine q_iv [vi 0, vi 9] [] l_183_64 rfl rfl (Nat.le_of_ble_eq_true rfl) (by rw [mx_180]; exact Nat.le_of_ble_eq_true rfl) (by rw [mt_180]; exact oModel_sh hm) (by rw [mt_180]; decide) (by rw [rk_180]; decide) (s_180f (k := 3) hm (by repeat (first | exact up_eq | rw [up_nj (by decide)])) (by decide)) ?_
      refine w_is l_183_67 ⟨Nat.le_of_ble_eq_true rfl, rfl⟩ ?_
      refine w_aln l_183_69 rfl ?_
      refine q_iv [] [] l_183_70 rfl rfl (Nat.le_of_ble_eq_true rfl) (by rw [mx_175]; exact Nat.le_of_ble_eq_true rfl) (by rw [mt_175]; exact oModel_sh hm) (by rw [mt_175]; decide) (by rw [rk_175]; decide) (s_175_1 (k := 3) hm (by repeat (first | exact up_eq | rw [up_nj (by decide)])) (by decide)) ?_
      refine w_zeq 77 l_183_73 (by decide) (fun hx => absurd hx (by decide)) (fun _ => ?_)
      refine w_vr l_183_76 ?_
      have hR : portM t n P p = .inl (3, p) := by
        unfold portM newR
        rw [hn1]
        simp only [hf]
        rfl
      exact ⟨_, _, rfl, rfl, rfl, (((f1.up (Or.inr (Or.inr rfl))).up (Or.inr (Or.inl rfl))).up (Or.inl rfl)).P, by rw [hR]; exact ⟨(show (1 : Nat) ≤ 3 by decide), (up_nj (by decide)).trans ((up_nj (by decide)).trans up_eq), (up_nj (by decide)).trans up_eq⟩⟩
    | none =>
      cases hq3 : numR t n 1 99 (nxt t n p) with
      | inl e9 =>
        have hN1 : (match (Sum.inr (w, nxt t n p) : PR (List Nat × Nat)) with
          | .inl e => (.inl e : PR (Ps × Nat))
          | .inr (w, p2) => match numR t n 1 99 p2 with
            | .inl e => .inl e
            | .inr (c, p3) => match numR t n 0 9 p3 with
              | .inl e => .inl e
              | .inr (sp, p4) => .inr (psPort P w c sp, p4)) = .inl e9 := by simp only [hq3]
        refine CL_start (r := 4) (ls := [vr s, vs 2, vs 2, vs 2, vs 2]) (rk_183 _) rfl ?_
        refine w_aln l_183_0 rfl ?_
        refine p_iv [] [] l_183_1 rfl rfl (Nat.le_of_ble_eq_true rfl) (by rw [mx_181]; exact Nat.le_of_ble_eq_true rfl) (by rw [mt_181]; exact oModel_sh hm) (by rw [mt_181]; decide) (by rw [rk_181]; decide) (by have g9 := s_181 (xs := xs) (cc := cc) (zz := zz) hm H A h24; rw [hn1] at g9; exact g9) (fun v I1 hv => ?_)
        obtain ⟨_, f1, g221, ⟨k241, k231⟩, rfl⟩ := hv
        have H1 := H.fT f1
        have Z1 := Z.fT f1
        refine w_lsn l_183_4 ⟨Nat.le_of_ble_eq_true rfl, rfl⟩ ?_
        refine w_aln l_183_5 rfl ?_
        refine q_iv [] [] l_183_6 rfl rfl (Nat.le_of_ble_eq_true rfl) (by rw [mx_175]; exact Nat.le_of_ble_eq_true rfl) (by rw [mt_175]; exact oModel_sh hm) (by rw [mt_175]; decide) (by rw [rk_175]; decide) (s_175_0 hm k241) ?_
        refine w_zne 30 l_183_9 (by decide) (fun hx => absurd hx (by decide)) (fun _ => ?_)
        refine w_aln l_183_12 rfl ?_
        refine w_lln l_183_13 rfl ?_
        refine q_iv [vl (((nvR w) : Nat) : Int)] [] l_183_14 rfl rfl (Nat.le_of_ble_eq_true rfl) (by rw [mx_182]; exact Nat.le_of_ble_eq_true rfl) (by rw [mt_182]; exact oModel_sh hm) (by rw [mt_182]; decide) (by rw [rk_182]; decide) ((by have g9 := s_182 (xs := xs) (T := T) (cc := cc) (zz := zz) (x := (((nvR w) : Nat) : Int)) hm Z1.1.1 Z1.2.2.1.1.1; have g8 : fndZ (I1 (s + 13)) ((nvR w : Nat) : Int) (lPorts P.1) 0 = (-1) := (by rw [Z1.fnd hnw.2, hf]); rw [g8] at g9; exact g9)) ?_
        refine w_ic l_183_17 (by decide) ?_
        refine w_ceq 30 l_183_18 (by decide) (fun _ => ?_) (fun hx => absurd hx (by decide))
        refine w_aln l_183_30 rfl ?_
        refine w_aln l_183_31 rfl ?_
        refine q_iv [] [vr s] l_183_32 rfl rfl (Nat.le_of_ble_eq_true rfl) (by rw [mx_175]; exact Nat.le_of_ble_eq_true rfl) (by rw [mt_175]; exact oModel_sh hm) (by rw [mt_175]; decide) (by rw [rk_175]; decide) (s_175_0 hm k241) ?_
        refine w_zeq 45 l_183_35 (by decide) (fun _ => ?_) (fun hx => absurd hx (by decide))
        refine w_aln l_183_45 rfl ?_
        refine p_iv [] [vr s] l_183_46 rfl rfl (Nat.le_of_ble_eq_true rfl) (by rw [mx_177]; exact Nat.le_of_ble_eq_true rfl) (by rw [mt_177]; exact oModel_sh hm) (by rw [mt_177]; decide) (by rw [rk_177]; decide) (s_177A hm H1 (mAt.at g221 A.le A.id)) (fun v I2 hv => ?_)
        obtain ⟨rfl, g222, f2⟩ := hv
        have k242 : I2 s 24 = 0 := (f2 s 24 (fun _ => by decide)).trans k241
        refine w_pi l_183_49 (oModel_sh hm) ?_
        refine w_aln l_183_52 rfl ?_
        refine w_ic l_183_53 (by decide) ?_
        refine w_bp l_183_54 (by decide) ?_
        refine p_iv [vi 1, vi 99] [] l_183_56 rfl rfl (Nat.le_of_ble_eq_true rfl) (by rw [mx_180]; exact Nat.le_of_ble_eq_true rfl) (by rw [mt_180]; exact oModel_sh hm) (by rw [mt_180]; decide) (by rw [rk_180]; decide) (by have g9 := s_180A (xs := xs) (cc := cc) (zz := zz) (lo := 1) (hi := 99) hm (H1.fT (f2.T.up (Or.inl rfl))) (show mAt (up I2 s 22 ((wEnd t n p : Nat) : Int)) s t n (nxt t n p) from ⟨wEnd t n p, up_eq, wEnd_le A.le, (by unfold nxt; rw [wEnd_t1 hnw.1])⟩) ((up_nj (by decide)).trans k242); rw [hq3] at g9; exact g9) (fun v I3 hv => ?_)
        obtain ⟨⟨z3, rfl⟩, f3, he, e24, e23⟩ := hv
        refine w_isn l_183_59 ⟨Nat.le_of_ble_eq_true rfl, rfl⟩ ?_
        refine w_aln l_183_60 rfl ?_
        refine w_ic l_183_61 (by decide) ?_
        refine w_bp l_183_62 (by decide) ?_
        refine q_iv [vi 0, vi 9] [] l_183_64 rfl rfl (Nat.le_of_ble_eq_true rfl) (by rw [mx_180]; exact Nat.le_of_ble_eq_true rfl) (by rw [mt_180]; exact oModel_sh hm) (by rw [mt_180]; decide) (by rw [rk_180]; decide) (s_180f hm e24 (by omega)) ?_
        refine w_is l_183_67 ⟨Nat.le_of_ble_eq_true rfl, rfl⟩ ?_
        refine w_aln l_183_69 rfl ?_
        refine q_iv [] [] l_183_70 rfl rfl (Nat.le_of_ble_eq_true rfl) (by rw [mx_175]; exact Nat.le_of_ble_eq_true rfl) (by rw [mt_175]; exact oModel_sh hm) (by rw [mt_175]; decide) (by rw [rk_175]; decide) (s_175_1 (k := ((e9.1 : Nat) : Int)) hm e24 (by omega)) ?_
        refine w_zeq 77 l_183_73 (by decide) (fun hx => absurd hx (by decide)) (fun _ => ?_)
        refine w_vr l_183_76 ?_
        have hR : portM t n P p = .inl e9 := by
          unfold portM newR
          rw [hn1]
          simp only [hf]
          exact hN1
        exact ⟨_, _, rfl, rfl, rfl, ((f1.tr (f2.T.up (Or.inl rfl))).tr f3).P, by rw [hR]; exact ⟨he, e24, e23⟩⟩
      | inr a3 =>
        obtain ⟨c, p3⟩ := a3
        have hc := numR_ok hq3
        cases hq4 : numR t n 0 9 p3 with
        | inl e9 =>
          have hN1 : (match (Sum.inr (w, nxt t n p) : PR (List Nat × Nat)) with
            | .inl e => (.inl e : PR (Ps × Nat))
            | .inr (w, p2) => match numR t n 1 99 p2 with
              | .inl e => .inl e
              | .inr (c, p3) => match numR t n 0 9 p3 with
                | .inl e => .inl e
                | .inr (sp, p4) => .inr (psPort P w c sp, p4)) = .inl e9 := by simp only [hq3, hq4]
          refine CL_start (r := 4) (ls := [vr s, vs 2, vs 2, vs 2, vs 2]) (rk_183 _) rfl ?_
          refine w_aln l_183_0 rfl ?_
          refine p_iv [] [] l_183_1 rfl rfl (Nat.le_of_ble_eq_true rfl) (by rw [mx_181]; exact Nat.le_of_ble_eq_true rfl) (by rw [mt_181]; exact oModel_sh hm) (by rw [mt_181]; decide) (by rw [rk_181]; decide) (by have g9 := s_181 (xs := xs) (cc := cc) (zz := zz) hm H A h24; rw [hn1] at g9; exact g9) (fun v I1 hv => ?_)
          obtain ⟨_, f1, g221, ⟨k241, k231⟩, rfl⟩ := hv
          have H1 := H.fT f1
          have Z1 := Z.fT f1
          refine w_lsn l_183_4 ⟨Nat.le_of_ble_eq_true rfl, rfl⟩ ?_
          refine w_aln l_183_5 rfl ?_
          refine q_iv [] [] l_183_6 rfl rfl (Nat.le_of_ble_eq_true rfl) (by rw [mx_175]; exact Nat.le_of_ble_eq_true rfl) (by rw [mt_175]; exact oModel_sh hm) (by rw [mt_175]; decide) (by rw [rk_175]; decide) (s_175_0 hm k241) ?_
          refine w_zne 30 l_183_9 (by decide) (fun hx => absurd hx (by decide)) (fun _ => ?_)
          refine w_aln l_183_12 rfl ?_
          refine w_lln l_183_13 rfl ?_
          refine q_iv [vl (((nvR w) : Nat) : Int)] [] l_183_14 rfl rfl (Nat.le_of_ble_eq_true rfl) (by rw [mx_182]; exact Nat.le_of_ble_eq_true rfl) (by rw [mt_182]; exact oModel_sh hm) (by rw [mt_182]; decide) (by rw [rk_182]; decide) ((by have g9 := s_182 (xs := xs) (T := T) (cc := cc) (zz := zz) (x := (((nvR w) : Nat) : Int)) hm Z1.1.1 Z1.2.2.1.1.1; have g8 : fndZ (I1 (s + 13)) ((nvR w : Nat) : Int) (lPorts P.1) 0 = (-1) := (by rw [Z1.fnd hnw.2, hf]); rw [g8] at g9; exact g9)) ?_
          refine w_ic l_183_17 (by decide) ?_
          refine w_ceq 30 l_183_18 (by decide) (fun _ => ?_) (fun hx => absurd hx (by decide))
          refine w_aln l_183_30 rfl ?_
          refine w_aln l_183_31 rfl ?_
          refine q_iv [] [vr s] l_183_32 rfl rfl (Nat.le_of_ble_eq_true rfl) (by rw [mx_175]; exact Nat.le_of_ble_eq_true rfl) (by rw [mt_175]; exact oModel_sh hm) (by rw [mt_175]; decide) (by rw [rk_175]; decide) (s_175_0 hm k241) ?_
          refine w_zeq 45 l_183_35 (by decide) (fun _ => ?_) (fun hx => absurd hx (by decide))
          refine w_aln l_183_45 rfl ?_
          refine p_iv [] [vr s] l_183_46 rfl rfl (Nat.le_of_ble_eq_true rfl) (by rw [mx_177]; exact Nat.le_of_ble_eq_true rfl) (by rw [mt_177]; exact oModel_sh hm) (by rw [mt_177]; decide) (by rw [rk_177]; decide) (s_177A hm H1 (mAt.at g221 A.le A.id)) (fun v I2 hv => ?_)
          obtain ⟨rfl, g222, f2⟩ := hv
          have k242 : I2 s 24 = 0 := (f2 s 24 (fun _ => by decide)).trans k241
          refine w_pi l_183_49 (oModel_sh hm) ?_
          refine w_aln l_183_52 rfl ?_
          refine w_ic l_183_53 (by decide) ?_
          refine w_bp l_183_54 (by decide) ?_
          refine p_iv [vi 1, vi 99] [] l_183_56 rfl rfl (Nat.le_of_ble_eq_true rfl) (by rw [mx_180]; exact Nat.le_of_ble_eq_true rfl) (by rw [mt_180]; exact oModel_sh hm) (by rw [mt_180]; decide) (by rw [rk_180]; decide) (by have g9 := s_180A (xs := xs) (cc := cc) (zz := zz) (lo := 1) (hi := 99) hm (H1.fT (f2.T.up (Or.inl rfl))) (show mAt (up I2 s 22 ((wEnd t n p : Nat) : Int)) s t n (nxt t n p) from ⟨wEnd t n p, up_eq, wEnd_le A.le, (by unfold nxt; rw [wEnd_t1 hnw.1])⟩) ((up_nj (by decide)).trans k242); rw [hq3] at g9; exact g9) (fun v I3 hv => ?_)
          obtain ⟨_, f3, ⟨k243, k233⟩, rfl, A3⟩ := hv
          refine w_isn l_183_59 ⟨Nat.le_of_ble_eq_true rfl, rfl⟩ ?_
          refine w_aln l_183_60 rfl ?_
          refine w_ic l_183_61 (by decide) ?_
          refine w_bp l_183_62 (by decide) ?_
          refine p_iv [vi 0, vi 9] [] l_183_64 rfl rfl (Nat.le_of_ble_eq_true rfl) (by rw [mx_180]; exact Nat.le_of_ble_eq_true rfl) (by rw [mt_180]; exact oModel_sh hm) (by rw [mt_180]; decide) (by rw [rk_180]; decide) (by have g9 := s_180A (xs := xs) (cc := cc) (zz := zz) (lo := 0) (hi := 9) hm ((H1.fT (f2.T.up (Or.inl rfl))).fT f3) A3 k243; rw [hq4] at g9; exact g9) (fun v I4 hv => ?_)
          obtain ⟨⟨z4, rfl⟩, f4, he, e24, e23⟩ := hv
          refine w_is l_183_67 ⟨Nat.le_of_ble_eq_true rfl, rfl⟩ ?_
          refine w_aln l_183_69 rfl ?_
          refine q_iv [] [] l_183_70 rfl rfl (Nat.le_of_ble_eq_true rfl) (by rw [mx_175]; exact Nat.le_of_ble_eq_true rfl) (by rw [mt_175]; exact oModel_sh hm) (by rw [mt_175]; decide) (by rw [rk_175]; decide) (s_175_1 (k := ((e9.1 : Nat) : Int)) hm e24 (by omega)) ?_
          refine w_zeq 77 l_183_73 (by decide) (fun hx => absurd hx (by decide)) (fun _ => ?_)
          refine w_vr l_183_76 ?_
          have hR : portM t n P p = .inl e9 := by
            unfold portM newR
            rw [hn1]
            simp only [hf]
            exact hN1
          exact ⟨_, _, rfl, rfl, rfl, (((f1.tr (f2.T.up (Or.inl rfl))).tr f3).tr f4).P, by rw [hR]; exact ⟨he, e24, e23⟩⟩
        | inr a4 =>
          obtain ⟨sp, p4⟩ := a4
          have hs := numR_ok hq4
          have hN1 : (match (Sum.inr (w, nxt t n p) : PR (List Nat × Nat)) with
            | .inl e => (.inl e : PR (Ps × Nat))
            | .inr (w, p2) => match numR t n 1 99 p2 with
              | .inl e => .inl e
              | .inr (c, p3) => match numR t n 0 9 p3 with
                | .inl e => .inl e
                | .inr (sp, p4) => .inr (psPort P w c sp, p4)) = .inr (psPort P w c sp, p4) := by simp only [hq3, hq4]
          refine CL_start (r := 4) (ls := [vr s, vs 2, vs 2, vs 2, vs 2]) (rk_183 _) rfl ?_
          refine w_aln l_183_0 rfl ?_
          refine p_iv [] [] l_183_1 rfl rfl (Nat.le_of_ble_eq_true rfl) (by rw [mx_181]; exact Nat.le_of_ble_eq_true rfl) (by rw [mt_181]; exact oModel_sh hm) (by rw [mt_181]; decide) (by rw [rk_181]; decide) (by have g9 := s_181 (xs := xs) (cc := cc) (zz := zz) hm H A h24; rw [hn1] at g9; exact g9) (fun v I1 hv => ?_)
          obtain ⟨_, f1, g221, ⟨k241, k231⟩, rfl⟩ := hv
          have H1 := H.fT f1
          have Z1 := Z.fT f1
          refine w_lsn l_183_4 ⟨Nat.le_of_ble_eq_true rfl, rfl⟩ ?_
          refine w_aln l_183_5 rfl ?_
          refine q_iv [] [] l_183_6 rfl rfl (Nat.le_of_ble_eq_true rfl) (by rw [mx_175]; exact Nat.le_of_ble_eq_true rfl) (by rw [mt_175]; exact oModel_sh hm) (by rw [mt_175]; decide) (by rw [rk_175]; decide) (s_175_0 hm k241) ?_
          refine w_zne 30 l_183_9 (by decide) (fun hx => absurd hx (by decide)) (fun _ => ?_)
          refine w_aln l_183_12 rfl ?_
          refine w_lln l_183_13 rfl ?_
          refine q_iv [vl (((nvR w) : Nat) : Int)] [] l_183_14 rfl rfl (Nat.le_of_ble_eq_true rfl) (by rw [mx_182]; exact Nat.le_of_ble_eq_true rfl) (by rw [mt_182]; exact oModel_sh hm) (by rw [mt_182]; decide) (by rw [rk_182]; decide) ((by have g9 := s_182 (xs := xs) (T := T) (cc := cc) (zz := zz) (x := (((nvR w) : Nat) : Int)) hm Z1.1.1 Z1.2.2.1.1.1; have g8 : fndZ (I1 (s + 13)) ((nvR w : Nat) : Int) (lPorts P.1) 0 = (-1) := (by rw [Z1.fnd hnw.2, hf]); rw [g8] at g9; exact g9)) ?_
          refine w_ic l_183_17 (by decide) ?_
          refine w_ceq 30 l_183_18 (by decide) (fun _ => ?_) (fun hx => absurd hx (by decide))
          refine w_aln l_183_30 rfl ?_
          refine w_aln l_183_31 rfl ?_
          refine q_iv [] [vr s] l_183_32 rfl rfl (Nat.le_of_ble_eq_true rfl) (by rw [mx_175]; exact Nat.le_of_ble_eq_true rfl) (by rw [mt_175]; exact oModel_sh hm) (by rw [mt_175]; decide) (by rw [rk_175]; decide) (s_175_0 hm k241) ?_
          refine w_zeq 45 l_183_35 (by decide) (fun _ => ?_) (fun hx => absurd hx (by decide))
          refine w_aln l_183_45 rfl ?_
          refine p_iv [] [vr s] l_183_46 rfl rfl (Nat.le_of_ble_eq_true rfl) (by rw [mx_177]; exact Nat.le_of_ble_eq_true rfl) (by rw [mt_177]; exact oModel_sh hm) (by rw [mt_177]; decide) (by rw [rk_177]; decide) (s_177A hm H1 (mAt.at g221 A.le A.id)) (fun v I2 hv => ?_)
          obtain ⟨rfl, g222, f2⟩ := hv
          have k242 : I2 s 24 = 0 := (f2 s 24 (fun _ => by decide)).trans k241
          refine w_pi l_183_49 (oModel_sh hm) ?_
          refine w_aln l_183_52 rfl ?_
          refine w_ic l_183_53 (by decide) ?_
          refine w_bp l_183_54 (by decide) ?_
          refine p_iv [vi 1, vi 99] [] l_183_56 rfl rfl (Nat.le_of_ble_eq_true rfl) (by rw [mx_180]; exact Nat.le_of_ble_eq_true rfl) (by rw [mt_180]; exact oModel_sh hm) (by rw [mt_180]; decide) (by rw [rk_180]; decide) (by have g9 := s_180A (xs := xs) (cc := cc) (zz := zz) (lo := 1) (hi := 99) hm (H1.fT (f2.T.up (Or.inl rfl))) (show mAt (up I2 s 22 ((wEnd t n p : Nat) : Int)) s t n (nxt t n p) from ⟨wEnd t n p, up_eq, wEnd_le A.le, (by unfold nxt; rw [wEnd_t1 hnw.1])⟩) ((up_nj (by decide)).trans k242); rw [hq3] at g9; exact g9) (fun v I3 hv => ?_)
          obtain ⟨_, f3, ⟨k243, k233⟩, rfl, A3⟩ := hv
          refine w_isn l_183_59 ⟨Nat.le_of_ble_eq_true rfl, rfl⟩ ?_
          refine w_aln l_183_60 rfl ?_
          refine w_ic l_183_61 (by decide) ?_
          refine w_bp l_183_62 (by decide) ?_
          refine p_iv [vi 0, vi 9] [] l_183_64 rfl rfl (Nat.le_of_ble_eq_true rfl) (by rw [mx_180]; exact Nat.le_of_ble_eq_true rfl) (by rw [mt_180]; exact oModel_sh hm) (by rw [mt_180]; decide) (by rw [rk_180]; decide) (by have g9 := s_180A (xs := xs) (cc := cc) (zz := zz) (lo := 0) (hi := 9) hm ((H1.fT (f2.T.up (Or.inl rfl))).fT f3) A3 k243; rw [hq4] at g9; exact g9) (fun v I4 hv => ?_)
          obtain ⟨_, f4, ⟨k244, k234⟩, rfl, A4⟩ := hv
          have Z4 := Z.fT (((f1.tr (f2.T.up (Or.inl rfl))).tr f3).tr f4)
          refine w_is l_183_67 ⟨Nat.le_of_ble_eq_true rfl, rfl⟩ ?_
          refine w_aln l_183_69 rfl ?_
          refine q_iv [] [] l_183_70 rfl rfl (Nat.le_of_ble_eq_true rfl) (by rw [mx_175]; exact Nat.le_of_ble_eq_true rfl) (by rw [mt_175]; exact oModel_sh hm) (by rw [mt_175]; decide) (by rw [rk_175]; decide) (s_175_0 hm k244) ?_
          refine w_zeq 77 l_183_73 (by decide) (fun _ => ?_) (fun hx => absurd hx (by decide))
          refine w_aln l_183_77 rfl ?_
          refine w_gr l_183_78 (oModel_sh hm) (oModel_r26 hm) ?_
          refine w_aln l_183_81 rfl ?_
          refine w_gi (((lPorts P.1) : Nat) : Int) l_183_82 (oModel_sh hm) Z4.1.1 ?_
          refine w_lln l_183_85 rfl ?_
          refine w_lS (lPorts P.1) l_183_86 (oModel_s26 hm) rfl (by omega) ?_
          refine w_aln l_183_87 rfl ?_
          refine w_gr l_183_88 (oModel_sh hm) (oModel_r27 hm) ?_
          refine w_aln l_183_91 rfl ?_
          refine w_gi (((lPorts P.1) : Nat) : Int) l_183_92 (oModel_sh hm) ((up_no (by omega)).trans (Z4.1.1)) ?_
          refine w_iln l_183_95 rfl ?_
          refine w_iS (lPorts P.1) l_183_96 (oModel_s27 hm) rfl (by omega) ?_
          refine w_aln l_183_97 rfl ?_
          refine w_gr l_183_98 (oModel_sh hm) (oModel_r28 hm) ?_
          refine w_aln l_183_101 rfl ?_
          refine w_gi (((lPorts P.1) : Nat) : Int) l_183_102 (oModel_sh hm) ((up_no (by omega)).trans ((up_no (by omega)).trans (Z4.1.1))) ?_
          refine w_il l_183_105 rfl ?_
          refine w_iS (lPorts P.1) l_183_107 (oModel_s28 hm) rfl (by omega) ?_
          refine w_aln l_183_108 rfl ?_
          refine w_gr l_183_109 (oModel_sh hm) (oModel_r29 hm) ?_
          refine w_aln l_183_112 rfl ?_
          refine w_gi (((lPorts P.1) : Nat) : Int) l_183_113 (oModel_sh hm) ((up_no (by omega)).trans ((up_no (by omega)).trans ((up_no (by omega)).trans (Z4.1.1)))) ?_
          refine w_ic l_183_116 (by decide) ?_
          refine w_iS (lPorts P.1) l_183_117 (oModel_s29 hm) rfl (by omega) ?_
          refine w_aln l_183_118 rfl ?_
          refine w_gr l_183_119 (oModel_sh hm) (oModel_r30 hm) ?_
          refine w_aln l_183_122 rfl ?_
          refine w_gi (((lPorts P.1) : Nat) : Int) l_183_123 (oModel_sh hm) ((up_no (by omega)).trans ((up_no (by omega)).trans ((up_no (by omega)).trans ((up_no (by omega)).trans (Z4.1.1))))) ?_
          refine w_ic l_183_126 (by decide) ?_
          refine w_iS (lPorts P.1) l_183_127 (oModel_s30 hm) rfl (by omega) ?_
          refine w_aln l_183_128 rfl ?_
          refine w_dup l_183_129 rfl ?_
          refine w_gi (((lPorts P.1) : Nat) : Int) l_183_130 (oModel_sh hm) ((up_no (by omega)).trans ((up_no (by omega)).trans ((up_no (by omega)).trans ((up_no (by omega)).trans ((up_no (by omega)).trans (Z4.1.1)))))) ?_
          refine w_ic l_183_133 (by decide) ?_
          refine w_add (((lPorts P.1 + 1) : Nat) : Int) l_183_134 (by unfold wr; omega) ?_
          refine w_pi l_183_135 (oModel_sh hm) ?_
          refine w_vr l_183_138 ?_
          have hR : portM t n P p = .inr (psPort P w c sp, p4) := by
            unfold portM newR
            rw [hn1]
            simp only [hf]
            exact hN1
          refine ⟨_, _, rfl, rfl, rfl, (((((((((f1.tr (f2.T.up (Or.inl rfl))).tr f3).tr f4).P.up (Or.inr ⟨by omega, by omega⟩)).up (Or.inr ⟨by omega, by omega⟩)).up (Or.inr ⟨by omega, by omega⟩)).up (Or.inr ⟨by omega, by omega⟩)).up (Or.inr ⟨by omega, by omega⟩)).up (Or.inl ⟨rfl, by decide, by decide⟩)), ?_⟩
          rw [hR]
          refine ⟨⟨?_, ?_⟩, ⟨?_, ?_⟩⟩
          · repeat (rw [up_out (by omega)])
            exact k244
          · repeat (rw [up_out (by omega)])
            exact k234.trans (k233.trans ((up_nj (by decide)).trans ((f2 s 23 (fun _ => by decide)).trans k231)))
          · obtain ⟨j9, a9, b9, c9⟩ := A4
            refine ⟨j9, ?_, b9, c9⟩
            repeat (rw [up_out (by omega)])
            exact a9
          · refine Z4.port (okPs_port Z.2.2.1 (by omega) hnw.2 hc.2.1 (by have := hs.2.1; omega)) (fun z h1 h2 => ?_) up_eq (fun j h1 h2 z h3 => ?_) ?_ ?_ ?_ ?_ ?_
            · repeat (rw [up_out (by omega)])
            · repeat (rw [up_out (by omega)])
            all_goals (repeat (first | exact up_eq | rw [up_no (by omega)]))

end RFX
