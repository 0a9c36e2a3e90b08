/-! the reference: what is supposed, now -/
theorem oI_n {o : Option Nat} {x : Nat} (h : oI o = -1) : ((x : Nat) : Int) = ((oD o x : Nat) : Int) := by
  cases o with
  | none => rfl
  | some v => have : ((v : Nat) : Int) = -1 := h; omega
theorem oI_s {o : Option Nat} {x : Nat} (h : oI o ≠ -1) : oI o = ((oD o x : Nat) : Int) := by
  cases o with
  | none => exact absurd rfl h
  | some v => rfl
theorem cpy_t {I : Ix} {a b n : Nat} : up (cpy I a 0 b 0 n) b n (I a n) = cpy I a 0 b 0 (n + 1) := by
  funext x y
  unfold up cpy
  by_cases h1 : x = b ∧ y = n
  · rw [if_pos h1, if_pos ⟨h1.1, by omega, by omega⟩, h1.2]
    congr 1
    omega
  · rw [if_neg h1]
    by_cases h2 : x = b ∧ 0 ≤ y ∧ y < 0 + n
    · rw [if_pos h2, if_pos ⟨h2.1, h2.2.1, by omega⟩]
    · rw [if_neg h2, if_neg (by intro q; exact h2 ⟨q.1, q.2.1, by omega⟩)]
section RER
variable {xs : List Int} {S : List (Nat × Nat)} {T : Nat → Nat → Nat} {cc zz s : Nat} {h : Hi} {l : Li} {r : Ra} {I I' : Ix}

theorem mx_203 : mxl 203 = 2 := by decide +kernel
theorem mt_203 : mtc 203 = 10 := by decide +kernel
theorem rk_203 (as : List AV) : rkA 203 as = 1 := rfl
theorem l_203_0 : look 203 0 = some (.aload_n 0, 1, 0, 0, 0, 0) := by decide +kernel
theorem l_203_1 : look 203 1 = some (.invokevirtual 354, 3, 202, 1, 0, 1901) := by decide +kernel
theorem l_203_4 : look 203 4 = some (.iconst 0, 1, 0, 0, 0, 0) := by decide +kernel
theorem l_203_5 : look 203 5 = some (.istore_n 1, 1, 0, 0, 0, 0) := by decide +kernel
theorem l_203_6 : look 203 6 = some (.iload_n 1, 1, 0, 0, 0, 0) := by decide +kernel
theorem l_203_7 : look 203 7 = some (.iconst 4, 1, 0, 0, 0, 0) := by decide +kernel
theorem l_203_8 : look 203 8 = some (.if_icmp .ge 40, 3, 0, 0, 0, 0) := by decide +kernel
theorem l_203_11 : look 203 11 = some (.aload_n 0, 1, 0, 0, 0, 0) := by decide +kernel
theorem l_203_12 : look 203 12 = some (.getfield 107, 3, 10, 49, 2, 1550) := by decide +kernel
theorem l_203_15 : look 203 15 = some (.iload_n 1, 1, 0, 0, 0, 0) := by decide +kernel
theorem l_203_16 : look 203 16 = some (.aload_n 0, 1, 0, 0, 0, 0) := by decide +kernel
theorem l_203_17 : look 203 17 = some (.getfield 92, 3, 10, 43, 2, 1544) := by decide +kernel
theorem l_203_20 : look 203 20 = some (.iload_n 1, 1, 0, 0, 0, 0) := by decide +kernel
theorem l_203_21 : look 203 21 = some (.iaload, 1, 0, 0, 0, 0) := by decide +kernel
theorem l_203_22 : look 203 22 = some (.iconst (-1), 1, 0, 0, 0, 0) := by decide +kernel
theorem l_203_23 : look 203 23 = some (.if_icmp .ne 12, 3, 0, 0, 0, 0) := by decide +kernel
theorem l_203_26 : look 203 26 = some (.aload_n 0, 1, 0, 0, 0, 0) := by decide +kernel
theorem l_203_27 : look 203 27 = some (.getfield 13, 3, 10, 3, 2, 1504) := by decide +kernel
theorem l_203_30 : look 203 30 = some (.iload_n 1, 1, 0, 0, 0, 0) := by decide +kernel
theorem l_203_31 : look 203 31 = some (.iaload, 1, 0, 0, 0, 0) := by decide +kernel
theorem l_203_32 : look 203 32 = some (.goto 9, 3, 0, 0, 0, 0) := by decide +kernel
theorem l_203_35 : look 203 35 = some (.aload_n 0, 1, 0, 0, 0, 0) := by decide +kernel
theorem l_203_36 : look 203 36 = some (.getfield 92, 3, 10, 43, 2, 1544) := by decide +kernel
theorem l_203_39 : look 203 39 = some (.iload_n 1, 1, 0, 0, 0, 0) := by decide +kernel
theorem l_203_40 : look 203 40 = some (.iaload, 1, 0, 0, 0, 0) := by decide +kernel
theorem l_203_41 : look 203 41 = some (.iastore, 1, 0, 0, 0, 0) := by decide +kernel
theorem l_203_42 : look 203 42 = some (.iinc 1 1, 3, 0, 0, 0, 0) := by decide +kernel
theorem l_203_45 : look 203 45 = some (.goto (-39), 3, 0, 0, 0, 0) := by decide +kernel
theorem l_203_48 : look 203 48 = some (.aload_n 0, 1, 0, 0, 0, 0) := by decide +kernel
theorem l_203_49 : look 203 49 = some (.aload_n 0, 1, 0, 0, 0, 0) := by decide +kernel
theorem l_203_50 : look 203 50 = some (.getfield 95, 3, 10, 44, 0, 1545) := by decide +kernel
theorem l_203_53 : look 203 53 = some (.iconst (-1), 1, 0, 0, 0, 0) := by decide +kernel
theorem l_203_54 : look 203 54 = some (.if_icmp .ne 10, 3, 0, 0, 0, 0) := by decide +kernel
theorem l_203_57 : look 203 57 = some (.aload_n 0, 1, 0, 0, 0, 0) := by decide +kernel
theorem l_203_58 : look 203 58 = some (.getfield 26, 3, 10, 7, 0, 1508) := by decide +kernel
theorem l_203_61 : look 203 61 = some (.goto 7, 3, 0, 0, 0, 0) := by decide +kernel
theorem l_203_64 : look 203 64 = some (.aload_n 0, 1, 0, 0, 0, 0) := by decide +kernel
theorem l_203_65 : look 203 65 = some (.getfield 95, 3, 10, 44, 0, 1545) := by decide +kernel
theorem l_203_68 : look 203 68 = some (.putfield 342, 3, 10, 50, 0, 1551) := by decide +kernel
theorem l_203_71 : look 203 71 = some (.aload_n 0, 1, 0, 0, 0, 0) := by decide +kernel
theorem l_203_72 : look 203 72 = some (.aload_n 0, 1, 0, 0, 0, 0) := by decide +kernel
theorem l_203_73 : look 203 73 = some (.getfield 98, 3, 10, 45, 0, 1546) := by decide +kernel
theorem l_203_76 : look 203 76 = some (.iconst (-1), 1, 0, 0, 0, 0) := by decide +kernel
theorem l_203_77 : look 203 77 = some (.if_icmp .ne 10, 3, 0, 0, 0, 0) := by decide +kernel
theorem l_203_80 : look 203 80 = some (.aload_n 0, 1, 0, 0, 0, 0) := by decide +kernel
theorem l_203_81 : look 203 81 = some (.getfield 33, 3, 10, 9, 0, 1510) := by decide +kernel
theorem l_203_84 : look 203 84 = some (.goto 7, 3, 0, 0, 0, 0) := by decide +kernel
theorem l_203_87 : look 203 87 = some (.aload_n 0, 1, 0, 0, 0, 0) := by decide +kernel
theorem l_203_88 : look 203 88 = some (.getfield 98, 3, 10, 45, 0, 1546) := by decide +kernel
theorem l_203_91 : look 203 91 = some (.putfield 345, 3, 10, 51, 0, 1552) := by decide +kernel
theorem l_203_94 : look 203 94 = some (.aload_n 0, 1, 0, 0, 0, 0) := by decide +kernel
theorem l_203_95 : look 203 95 = some (.aload_n 0, 1, 0, 0, 0, 0) := by decide +kernel
theorem l_203_96 : look 203 96 = some (.getfield 101, 3, 10, 46, 0, 1547) := by decide +kernel
theorem l_203_99 : look 203 99 = some (.iconst (-1), 1, 0, 0, 0, 0) := by decide +kernel
theorem l_203_100 : look 203 100 = some (.if_icmp .ne 10, 3, 0, 0, 0, 0) := by decide +kernel
theorem l_203_103 : look 203 103 = some (.aload_n 0, 1, 0, 0, 0, 0) := by decide +kernel
theorem l_203_104 : look 203 104 = some (.getfield 30, 3, 10, 8, 0, 1509) := by decide +kernel
theorem l_203_107 : look 203 107 = some (.goto 7, 3, 0, 0, 0, 0) := by decide +kernel
theorem l_203_110 : look 203 110 = some (.aload_n 0, 1, 0, 0, 0, 0) := by decide +kernel
theorem l_203_111 : look 203 111 = some (.getfield 101, 3, 10, 46, 0, 1547) := by decide +kernel
theorem l_203_114 : look 203 114 = some (.putfield 348, 3, 10, 52, 0, 1553) := by decide +kernel
theorem l_203_117 : look 203 117 = some (.aload_n 0, 1, 0, 0, 0, 0) := by decide +kernel
theorem l_203_118 : look 203 118 = some (.aload_n 0, 1, 0, 0, 0, 0) := by decide +kernel
theorem l_203_119 : look 203 119 = some (.getfield 339, 3, 10, 47, 0, 1548) := by decide +kernel
theorem l_203_122 : look 203 122 = some (.putfield 351, 3, 10, 53, 0, 1554) := by decide +kernel
theorem l_203_125 : look 203 125 = some (.iconst 0, 1, 0, 0, 0, 0) := by decide +kernel
theorem l_203_126 : look 203 126 = some (.istore_n 1, 1, 0, 0, 0, 0) := by decide +kernel
theorem l_203_127 : look 203 127 = some (.iload_n 1, 1, 0, 0, 0, 0) := by decide +kernel
theorem l_203_128 : look 203 128 = some (.bipush 120, 2, 0, 0, 0, 0) := by decide +kernel
theorem l_203_130 : look 203 130 = some (.if_icmp .ge 21, 3, 0, 0, 0, 0) := by decide +kernel
theorem l_203_133 : look 203 133 = some (.aload_n 0, 1, 0, 0, 0, 0) := by decide +kernel
theorem l_203_134 : look 203 134 = some (.getfield 110, 3, 10, 54, 2, 1555) := by decide +kernel
theorem l_203_137 : look 203 137 = some (.iload_n 1, 1, 0, 0, 0, 0) := by decide +kernel
theorem l_203_138 : look 203 138 = some (.aload_n 0, 1, 0, 0, 0, 0) := by decide +kernel
theorem l_203_139 : look 203 139 = some (.getfield 104, 3, 10, 48, 2, 1549) := by decide +kernel
theorem l_203_142 : look 203 142 = some (.iload_n 1, 1, 0, 0, 0, 0) := by decide +kernel
theorem l_203_143 : look 203 143 = some (.baload, 1, 0, 0, 0, 0) := by decide +kernel
theorem l_203_144 : look 203 144 = some (.bastore, 1, 0, 0, 0, 0) := by decide +kernel
theorem l_203_145 : look 203 145 = some (.iinc 1 1, 3, 0, 0, 0, 0) := by decide +kernel
theorem l_203_148 : look 203 148 = some (.goto (-21), 3, 0, 0, 0, 0) := by decide +kernel
theorem l_203_151 : look 203 151 = some (.return_, 1, 0, 0, 0, 0) := by decide +kernel

theorem lp_203a (hm : oModel S T s) {J : Ix} {su : Su} (hlo : ∀ e, e < 120 → J (s + 24) e = b2i (su.2.2.2 e)) : ∀ d k, k + d = 120 → WP xs 203 1 127 [vr s, vi ((k : Nat) : Int)] [] (S, (cpy J (s + 24) 0 (s + 26) 0 k), T, cc, zz) (FN none (S, cpy J (s + 24) 0 (s + 26) 0 120, T, cc, zz)) := by
  intro d
  induction d with
  | zero =>
    intro k hk
    refine w_iln l_203_127 rfl ?_
    refine w_bp l_203_128 (by decide) ?_
    refine w_cge 151 l_203_130 (by decide) (fun _ => ?_) (fun hx => absurd hx (by omega))
    refine w_vr l_203_151 ?_
    have e9 : k = 120 := by omega
    rw [e9]
    exact ⟨rfl, rfl⟩
  | succ d ih =>
    intro k hk
    refine w_iln l_203_127 rfl ?_
    refine w_bp l_203_128 (by decide) ?_
    refine w_cge 151 l_203_130 (by decide) (fun hx => absurd hx (by omega)) (fun _ => ?_)
    refine w_aln l_203_133 rfl ?_
    refine w_gr l_203_134 (oModel_sh hm) (oModel_r54 hm) ?_
    refine w_iln l_203_137 rfl ?_
    refine w_aln l_203_138 rfl ?_
    refine w_gr l_203_139 (oModel_sh hm) (oModel_r48 hm) ?_
    refine w_iln l_203_142 rfl ?_
    refine w_ba k (b2i (su.2.2.2 k)) l_203_143 (Or.inr (oModel_s48 hm)) rfl (by omega) ((cpy_no (by omega)).trans (hlo k (by omega))) ?_
    refine w_zS k (b2i (su.2.2.2 k)) l_203_144 (oModel_s54 hm) rfl (by omega) (b2i_2 _) ?_
    refine w_inc ((k + 1 : Nat) : Int) l_203_145 rfl rfl (by unfold wr; omega) ?_
    refine w_go 127 l_203_148 (by decide) ?_
    have e9 := cpy_t (I := J) (a := s + 24) (b := s + 26) (n := k)
    rw [hlo k (by omega)] at e9
    rw [e9]
    exact ih (k + 1) (by omega)
theorem lp_203f {I0 J : Ix} (hm : oModel S T s) {su : Su} (okl : okLi l) (hB : nB I0 s l) (hS : nSu I0 s su) (F : mfb I0 J s) (e25 : ∀ p, p < lPorts l → J (s + 25) p = ((oD (su.1 p) (lCap l p) : Nat) : Int)) (e50 : J s 50 = ((oD su.2.1.1 (lBuf l) : Nat) : Int)) (e51 : J s 51 = ((oD su.2.1.2.1 (lWait l) : Nat) : Int)) (e52 : J s 52 = ((oD su.2.1.2.2 (lAge l) : Nat) : Int)) (e53 : J s 53 = I0 s 47) :
    WP xs 203 1 127 [vr s, vi 0] [] (S, J, T, cc, zz) (RP S T cc zz (fun v I' => v = none ∧ nLi I' s (supL l su) ∧ (∀ e, e < 120 → I' (s + 26) e = b2i (su.2.2.2 e)) ∧ mfb I0 I' s)) := by
  have hSJ := hS.fr F
  have h1 := lp_203a (xs := xs) (T := T) (cc := cc) (zz := zz) hm hSJ.2.2.2.2.2 120 0 rfl
  rw [cpy_0] at h1
  refine WP_mono h1 ?_
  rintro q m' ⟨rfl, rfl⟩
  obtain ⟨g1, g2, g3, g4, g5, g6, g7, g8⟩ := hB
  have e0 : ∀ j, j < 50 → J s j = I0 s j := fun j hj => F s j (fun _ => Or.inl hj) (fun e => absurd e (Nat.lt_irrefl s))
  have e : ∀ j, j ≤ 24 ∧ 0 < j → ∀ z, J (s + j) z = I0 (s + j) z := fun j hj z => F (s + j) z (fun e => by omega) (fun _ => by omega)
  refine ⟨none, _, rfl, rfl, rfl, ⟨?_, fun p hp => ⟨?_, ?_, ?_⟩, ?_, ?_, ?_, ?_, fun r hr => ?_, ?_⟩, fun e he => ?_, fun y z h1 h2 => ?_⟩
  · rw [cpy_no (by omega), e0 1 (by decide)]; exact g1
  · rw [cpy_no (by omega)]; exact e25 p hp
  · rw [cpy_no (by omega), e 3 (by decide)]; exact (g2 p hp).2.1
  · rw [cpy_no (by omega), cpy_no (by omega), e 4 (by decide), e 5 (by decide)]; exact (g2 p hp).2.2
  · rw [cpy_no (by omega)]; exact e50
  · rw [cpy_no (by omega)]; exact e51
  · rw [cpy_no (by omega)]; exact e52
  · rw [cpy_no (by omega), e0 10 (by decide)]; exact g6
  · rw [cpy_no (by omega), e 6 (by decide)]; exact g7 r hr
  · rw [cpy_no (by omega), e53]; exact hS.2.2.2.2.1
  · rw [cpy_in (Nat.zero_le _) (by omega), Nat.sub_zero, Nat.zero_add]
    exact hSJ.2.2.2.2.2 e he
  · rw [cpy_no (by intro q; have := h2 (by omega); omega)]
    exact F y z h1 h2

theorem lp_203s {I0 : Ix} (hm : oModel S T s) {su : Su} {q4 : Nat} (okl : okLi l) (hB : nB I0 s l) (hS : nSu I0 s su) (F : mfb I0 I s) (hBI : nB I s l) (hSI : nSu I s su) (h47 : I s 47 = I0 s 47) (e25 : ∀ p, p < lPorts l → I (s + 25) p = ((oD (su.1 p) (lCap l p) : Nat) : Int)) :
    WP xs 203 1 48 [vr s, vi ((q4 : Nat) : Int)] [] (S, I, T, cc, zz) (RP S T cc zz (fun v I' => v = none ∧ nLi I' s (supL l su) ∧ (∀ e, e < 120 → I' (s + 26) e = b2i (su.2.2.2 e)) ∧ mfb I0 I' s)) := by
  refine w_aln l_203_48 rfl ?_
  refine w_aln l_203_49 rfl ?_
  refine w_gi (oI su.2.1.1) l_203_50 (oModel_sh hm) (hSI.2.1) ?_
  refine w_ic l_203_53 (by decide) ?_
  refine w_cne 64 l_203_54 (by decide) (fun h1 => ?_) (fun h1 => ?_)
  · skip
    refine w_aln l_203_64 rfl ?_
    refine w_gi (oI su.2.1.1) l_203_65 (oModel_sh hm) (hSI.2.1) ?_
    refine w_pi l_203_68 (oModel_sh hm) ?_
    refine w_aln l_203_71 rfl ?_
    refine w_aln l_203_72 rfl ?_
    refine w_gi (oI su.2.1.2.1) l_203_73 (oModel_sh hm) ((up_nj (by omega)).trans ((hSI.2.2.1))) ?_
    refine w_ic l_203_76 (by decide) ?_
    refine w_cne 87 l_203_77 (by decide) (fun h2 => ?_) (fun h2 => ?_)
    · skip
      refine w_aln l_203_87 rfl ?_
      refine w_gi (oI su.2.1.2.1) l_203_88 (oModel_sh hm) ((up_nj (by omega)).trans ((hSI.2.2.1))) ?_
      refine w_pi l_203_91 (oModel_sh hm) ?_
      refine w_aln l_203_94 rfl ?_
      refine w_aln l_203_95 rfl ?_
      refine w_gi (oI su.2.1.2.2) l_203_96 (oModel_sh hm) ((up_nj (by omega)).trans ((up_nj (by omega)).trans ((hSI.2.2.2.1)))) ?_
      refine w_ic l_203_99 (by decide) ?_
      refine w_cne 110 l_203_100 (by decide) (fun h3 => ?_) (fun h3 => ?_)
      · skip
        refine w_aln l_203_110 rfl ?_
        refine w_gi (oI su.2.1.2.2) l_203_111 (oModel_sh hm) ((up_nj (by omega)).trans ((up_nj (by omega)).trans ((hSI.2.2.2.1)))) ?_
        refine w_pi l_203_114 (oModel_sh hm) ?_
        refine w_aln l_203_117 rfl ?_
        refine w_aln l_203_118 rfl ?_
        refine w_gi (I0 s 47) l_203_119 (oModel_sh hm) ((up_nj (by omega)).trans ((up_nj (by omega)).trans ((up_nj (by omega)).trans (h47)))) ?_
        refine w_pi l_203_122 (oModel_sh hm) ?_
        refine w_ic l_203_125 (by decide) ?_
        refine w_isn l_203_126 ⟨Nat.le_of_ble_eq_true rfl, rfl⟩ ?_
        refine lp_203f hm okl hB hS (F.tr ?_) ?_ ?_ ?_ ?_ ?_
        · intro y z h1 h2
          by_cases hy : y = s
          · have := h1 hy
            rw [hy, up_nj (by omega), up_nj (by omega), up_nj (by omega), up_nj (by omega)]
          · rw [up_no hy, up_no hy, up_no hy, up_no hy]
        · intro p hp
          rw [up_no (by omega), up_no (by omega), up_no (by omega), up_no (by omega)]
          exact e25 p hp
        · rw [up_nj (by decide), up_nj (by decide), up_nj (by decide), up_eq]
          first | exact oI_n (by assumption) | exact oI_s (by assumption)
        · rw [up_nj (by decide), up_nj (by decide), up_eq]
          first | exact oI_n (by assumption) | exact oI_s (by assumption)
        · rw [up_nj (by decide), up_eq]
          first | exact oI_n (by assumption) | exact oI_s (by assumption)
        · rw [up_eq]
      · skip
        refine w_aln l_203_103 rfl ?_
        refine w_gi (((lAge l) : Nat) : Int) l_203_104 (oModel_sh hm) ((up_nj (by omega)).trans ((up_nj (by omega)).trans (hBI.2.2.2.2.1))) ?_
        refine w_go 114 l_203_107 (by decide) ?_
        refine w_pi l_203_114 (oModel_sh hm) ?_
        refine w_aln l_203_117 rfl ?_
        refine w_aln l_203_118 rfl ?_
        refine w_gi (I0 s 47) l_203_119 (oModel_sh hm) ((up_nj (by omega)).trans ((up_nj (by omega)).trans ((up_nj (by omega)).trans (h47)))) ?_
        refine w_pi l_203_122 (oModel_sh hm) ?_
        refine w_ic l_203_125 (by decide) ?_
        refine w_isn l_203_126 ⟨Nat.le_of_ble_eq_true rfl, rfl⟩ ?_
        refine lp_203f hm okl hB hS (F.tr ?_) ?_ ?_ ?_ ?_ ?_
        · intro y z h1 h2
          by_cases hy : y = s
          · have := h1 hy
            rw [hy, up_nj (by omega), up_nj (by omega), up_nj (by omega), up_nj (by omega)]
          · rw [up_no hy, up_no hy, up_no hy, up_no hy]
        · intro p hp
          rw [up_no (by omega), up_no (by omega), up_no (by omega), up_no (by omega)]
          exact e25 p hp
        · rw [up_nj (by decide), up_nj (by decide), up_nj (by decide), up_eq]
          first | exact oI_n (by assumption) | exact oI_s (by assumption)
        · rw [up_nj (by decide), up_nj (by decide), up_eq]
          first | exact oI_n (by assumption) | exact oI_s (by assumption)
        · rw [up_nj (by decide), up_eq]
          first | exact oI_n (by assumption) | exact oI_s (by assumption)
        · rw [up_eq]
    · skip
      refine w_aln l_203_80 rfl ?_
      refine w_gi (((lWait l) : Nat) : Int) l_203_81 (oModel_sh hm) ((up_nj (by omega)).trans (hBI.2.2.2.1)) ?_
      refine w_go 91 l_203_84 (by decide) ?_
      refine w_pi l_203_91 (oModel_sh hm) ?_
      refine w_aln l_203_94 rfl ?_
      refine w_aln l_203_95 rfl ?_
      refine w_gi (oI su.2.1.2.2) l_203_96 (oModel_sh hm) ((up_nj (by omega)).trans ((up_nj (by omega)).trans ((hSI.2.2.2.1)))) ?_
      refine w_ic l_203_99 (by decide) ?_
      refine w_cne 110 l_203_100 (by decide) (fun h4 => ?_) (fun h4 => ?_)
      · skip
        refine w_aln l_203_110 rfl ?_
        refine w_gi (oI su.2.1.2.2) l_203_111 (oModel_sh hm) ((up_nj (by omega)).trans ((up_nj (by omega)).trans ((hSI.2.2.2.1)))) ?_
        refine w_pi l_203_114 (oModel_sh hm) ?_
        refine w_aln l_203_117 rfl ?_
        refine w_aln l_203_118 rfl ?_
        refine w_gi (I0 s 47) l_203_119 (oModel_sh hm) ((up_nj (by omega)).trans ((up_nj (by omega)).trans ((up_nj (by omega)).trans (h47)))) ?_
        refine w_pi l_203_122 (oModel_sh hm) ?_
        refine w_ic l_203_125 (by decide) ?_
        refine w_isn l_203_126 ⟨Nat.le_of_ble_eq_true rfl, rfl⟩ ?_
        refine lp_203f hm okl hB hS (F.tr ?_) ?_ ?_ ?_ ?_ ?_
        · intro y z h1 h2
          by_cases hy : y = s
          · have := h1 hy
            rw [hy, up_nj (by omega), up_nj (by omega), up_nj (by omega), up_nj (by omega)]
          · rw [up_no hy, up_no hy, up_no hy, up_no hy]
        · intro p hp
          rw [up_no (by omega), up_no (by omega), up_no (by omega), up_no (by omega)]
          exact e25 p hp
        · rw [up_nj (by decide), up_nj (by decide), up_nj (by decide), up_eq]
          first | exact oI_n (by assumption) | exact oI_s (by assumption)
        · rw [up_nj (by decide), up_nj (by decide), up_eq]
          first | exact oI_n (by assumption) | exact oI_s (by assumption)
        · rw [up_nj (by decide), up_eq]
          first | exact oI_n (by assumption) | exact oI_s (by assumption)
        · rw [up_eq]
      · skip
        refine w_aln l_203_103 rfl ?_
        refine w_gi (((lAge l) : Nat) : Int) l_203_104 (oModel_sh hm) ((up_nj (by omega)).trans ((up_nj (by omega)).trans (hBI.2.2.2.2.1))) ?_
        refine w_go 114 l_203_107 (by decide) ?_
        refine w_pi l_203_114 (oModel_sh hm) ?_
        refine w_aln l_203_117 rfl ?_
        refine w_aln l_203_118 rfl ?_
        refine w_gi (I0 s 47) l_203_119 (oModel_sh hm) ((up_nj (by omega)).trans ((up_nj (by omega)).trans ((up_nj (by omega)).trans (h47)))) ?_
        refine w_pi l_203_122 (oModel_sh hm) ?_
        refine w_ic l_203_125 (by decide) ?_
        refine w_isn l_203_126 ⟨Nat.le_of_ble_eq_true rfl, rfl⟩ ?_
        refine lp_203f hm okl hB hS (F.tr ?_) ?_ ?_ ?_ ?_ ?_
        · intro y z h1 h2
          by_cases hy : y = s
          · have := h1 hy
            rw [hy, up_nj (by omega), up_nj (by omega), up_nj (by omega), up_nj (by omega)]
          · rw [up_no hy, up_no hy, up_no hy, up_no hy]
        · intro p hp
          rw [up_no (by omega), up_no (by omega), up_no (by omega), up_no (by omega)]
          exact e25 p hp
        · rw [up_nj (by decide), up_nj (by decide), up_nj (by decide), up_eq]
          first | exact oI_n (by assumption) | exact oI_s (by assumption)
        · rw [up_nj (by decide), up_nj (by decide), up_eq]
          first | exact oI_n (by assumption) | exact oI_s (by assumption)
        · rw [up_nj (by decide), up_eq]
          first | exact oI_n (by assumption) | exact oI_s (by assumption)
        · rw [up_eq]
  · skip
    refine w_aln l_203_57 rfl ?_
    refine w_gi (((lBuf l) : Nat) : Int) l_203_58 (oModel_sh hm) hBI.2.2.1 ?_
    refine w_go 68 l_203_61 (by decide) ?_
    refine w_pi l_203_68 (oModel_sh hm) ?_
    refine w_aln l_203_71 rfl ?_
    refine w_aln l_203_72 rfl ?_
    refine w_gi (oI su.2.1.2.1) l_203_73 (oModel_sh hm) ((up_nj (by omega)).trans ((hSI.2.2.1))) ?_
    refine w_ic l_203_76 (by decide) ?_
    refine w_cne 87 l_203_77 (by decide) (fun h5 => ?_) (fun h5 => ?_)
    · skip
      refine w_aln l_203_87 rfl ?_
      refine w_gi (oI su.2.1.2.1) l_203_88 (oModel_sh hm) ((up_nj (by omega)).trans ((hSI.2.2.1))) ?_
      refine w_pi l_203_91 (oModel_sh hm) ?_
      refine w_aln l_203_94 rfl ?_
      refine w_aln l_203_95 rfl ?_
      refine w_gi (oI su.2.1.2.2) l_203_96 (oModel_sh hm) ((up_nj (by omega)).trans ((up_nj (by omega)).trans ((hSI.2.2.2.1)))) ?_
      refine w_ic l_203_99 (by decide) ?_
      refine w_cne 110 l_203_100 (by decide) (fun h6 => ?_) (fun h6 => ?_)
      · skip
        refine w_aln l_203_110 rfl ?_
        refine w_gi (oI su.2.1.2.2) l_203_111 (oModel_sh hm) ((up_nj (by omega)).trans ((up_nj (by omega)).trans ((hSI.2.2.2.1)))) ?_
        refine w_pi l_203_114 (oModel_sh hm) ?_
        refine w_aln l_203_117 rfl ?_
        refine w_aln l_203_118 rfl ?_
        refine w_gi (I0 s 47) l_203_119 (oModel_sh hm) ((up_nj (by omega)).trans ((up_nj (by omega)).trans ((up_nj (by omega)).trans (h47)))) ?_
        refine w_pi l_203_122 (oModel_sh hm) ?_
        refine w_ic l_203_125 (by decide) ?_
        refine w_isn l_203_126 ⟨Nat.le_of_ble_eq_true rfl, rfl⟩ ?_
        refine lp_203f hm okl hB hS (F.tr ?_) ?_ ?_ ?_ ?_ ?_
        · intro y z h1 h2
          by_cases hy : y = s
          · have := h1 hy
            rw [hy, up_nj (by omega), up_nj (by omega), up_nj (by omega), up_nj (by omega)]
          · rw [up_no hy, up_no hy, up_no hy, up_no hy]
        · intro p hp
          rw [up_no (by omega), up_no (by omega), up_no (by omega), up_no (by omega)]
          exact e25 p hp
        · rw [up_nj (by decide), up_nj (by decide), up_nj (by decide), up_eq]
          first | exact oI_n (by assumption) | exact oI_s (by assumption)
        · rw [up_nj (by decide), up_nj (by decide), up_eq]
          first | exact oI_n (by assumption) | exact oI_s (by assumption)
        · rw [up_nj (by decide), up_eq]
          first | exact oI_n (by assumption) | exact oI_s (by assumption)
        · rw [up_eq]
      · skip
        refine w_aln l_203_103 rfl ?_
        refine w_gi (((lAge l) : Nat) : Int) l_203_104 (oModel_sh hm) ((up_nj (by omega)).trans ((up_nj (by omega)).trans (hBI.2.2.2.2.1))) ?_
        refine w_go 114 l_203_107 (by decide) ?_
        refine w_pi l_203_114 (oModel_sh hm) ?_
        refine w_aln l_203_117 rfl ?_
        refine w_aln l_203_118 rfl ?_
        refine w_gi (I0 s 47) l_203_119 (oModel_sh hm) ((up_nj (by omega)).trans ((up_nj (by omega)).trans ((up_nj (by omega)).trans (h47)))) ?_
        refine w_pi l_203_122 (oModel_sh hm) ?_
        refine w_ic l_203_125 (by decide) ?_
        refine w_isn l_203_126 ⟨Nat.le_of_ble_eq_true rfl, rfl⟩ ?_
        refine lp_203f hm okl hB hS (F.tr ?_) ?_ ?_ ?_ ?_ ?_
        · intro y z h1 h2
          by_cases hy : y = s
          · have := h1 hy
            rw [hy, up_nj (by omega), up_nj (by omega), up_nj (by omega), up_nj (by omega)]
          · rw [up_no hy, up_no hy, up_no hy, up_no hy]
        · intro p hp
          rw [up_no (by omega), up_no (by omega), up_no (by omega), up_no (by omega)]
          exact e25 p hp
        · rw [up_nj (by decide), up_nj (by decide), up_nj (by decide), up_eq]
          first | exact oI_n (by assumption) | exact oI_s (by assumption)
        · rw [up_nj (by decide), up_nj (by decide), up_eq]
          first | exact oI_n (by assumption) | exact oI_s (by assumption)
        · rw [up_nj (by decide), up_eq]
          first | exact oI_n (by assumption) | exact oI_s (by assumption)
        · rw [up_eq]
    · skip
      refine w_aln l_203_80 rfl ?_
      refine w_gi (((lWait l) : Nat) : Int) l_203_81 (oModel_sh hm) ((up_nj (by omega)).trans (hBI.2.2.2.1)) ?_
      refine w_go 91 l_203_84 (by decide) ?_
      refine w_pi l_203_91 (oModel_sh hm) ?_
      refine w_aln l_203_94 rfl ?_
      refine w_aln l_203_95 rfl ?_
      refine w_gi (oI su.2.1.2.2) l_203_96 (oModel_sh hm) ((up_nj (by omega)).trans ((up_nj (by omega)).trans ((hSI.2.2.2.1)))) ?_
      refine w_ic l_203_99 (by decide) ?_
      refine w_cne 110 l_203_100 (by decide) (fun h7 => ?_) (fun h7 => ?_)
      · skip
        refine w_aln l_203_110 rfl ?_
        refine w_gi (oI su.2.1.2.2) l_203_111 (oModel_sh hm) ((up_nj (by omega)).trans ((up_nj (by omega)).trans ((hSI.2.2.2.1)))) ?_
        refine w_pi l_203_114 (oModel_sh hm) ?_
        refine w_aln l_203_117 rfl ?_
        refine w_aln l_203_118 rfl ?_
        refine w_gi (I0 s 47) l_203_119 (oModel_sh hm) ((up_nj (by omega)).trans ((up_nj (by omega)).trans ((up_nj (by omega)).trans (h47)))) ?_
        refine w_pi l_203_122 (oModel_sh hm) ?_
        refine w_ic l_203_125 (by decide) ?_
        refine w_isn l_203_126 ⟨Nat.le_of_ble_eq_true rfl, rfl⟩ ?_
        refine lp_203f hm okl hB hS (F.tr ?_) ?_ ?_ ?_ ?_ ?_
        · intro y z h1 h2
          by_cases hy : y = s
          · have := h1 hy
            rw [hy, up_nj (by omega), up_nj (by omega), up_nj (by omega), up_nj (by omega)]
          · rw [up_no hy, up_no hy, up_no hy, up_no hy]
        · intro p hp
          rw [up_no (by omega), up_no (by omega), up_no (by omega), up_no (by omega)]
          exact e25 p hp
        · rw [up_nj (by decide), up_nj (by decide), up_nj (by decide), up_eq]
          first | exact oI_n (by assumption) | exact oI_s (by assumption)
        · rw [up_nj (by decide), up_nj (by decide), up_eq]
          first | exact oI_n (by assumption) | exact oI_s (by assumption)
        · rw [up_nj (by decide), up_eq]
          first | exact oI_n (by assumption) | exact oI_s (by assumption)
        · rw [up_eq]
      · skip
        refine w_aln l_203_103 rfl ?_
        refine w_gi (((lAge l) : Nat) : Int) l_203_104 (oModel_sh hm) ((up_nj (by omega)).trans ((up_nj (by omega)).trans (hBI.2.2.2.2.1))) ?_
        refine w_go 114 l_203_107 (by decide) ?_
        refine w_pi l_203_114 (oModel_sh hm) ?_
        refine w_aln l_203_117 rfl ?_
        refine w_aln l_203_118 rfl ?_
        refine w_gi (I0 s 47) l_203_119 (oModel_sh hm) ((up_nj (by omega)).trans ((up_nj (by omega)).trans ((up_nj (by omega)).trans (h47)))) ?_
        refine w_pi l_203_122 (oModel_sh hm) ?_
        refine w_ic l_203_125 (by decide) ?_
        refine w_isn l_203_126 ⟨Nat.le_of_ble_eq_true rfl, rfl⟩ ?_
        refine lp_203f hm okl hB hS (F.tr ?_) ?_ ?_ ?_ ?_ ?_
        · intro y z h1 h2
          by_cases hy : y = s
          · have := h1 hy
            rw [hy, up_nj (by omega), up_nj (by omega), up_nj (by omega), up_nj (by omega)]
          · rw [up_no hy, up_no hy, up_no hy, up_no hy]
        · intro p hp
          rw [up_no (by omega), up_no (by omega), up_no (by omega), up_no (by omega)]
          exact e25 p hp
        · rw [up_nj (by decide), up_nj (by decide), up_nj (by decide), up_eq]
          first | exact oI_n (by assumption) | exact oI_s (by assumption)
        · rw [up_nj (by decide), up_nj (by decide), up_eq]
          first | exact oI_n (by assumption) | exact oI_s (by assumption)
        · rw [up_nj (by decide), up_eq]
          first | exact oI_n (by assumption) | exact oI_s (by assumption)
        · rw [up_eq]

theorem nB_fr {I J : Ix} {s : Nat} {l : Li} (H : nB I s l) (f : mfb I J s) : nB J s l := by
  have e0 : ∀ j, j < 50 → J s j = I s j := fun j hj => f s j (fun _ => Or.inl hj) (fun e => absurd e (Nat.lt_irrefl s))
  have e : ∀ j, j ≤ 24 ∧ 0 < j → ∀ z, J (s + j) z = I (s + j) z := fun j hj z => f (s + j) z (fun e => by omega) (fun _ => by omega)
  unfold nB at H ⊢
  simp only [e0 1 (by decide), e0 7 (by decide), e0 8 (by decide), e0 9 (by decide), e0 10 (by decide), e 2 (by decide), e 3 (by decide), e 4 (by decide), e 5 (by decide), e 6 (by decide)]
  exact H
theorem lp_203p {I0 : Ix} (hm : oModel S T s) {su : Su} (okl : okLi l) (hB : nB I0 s l) (hS : nSu I0 s su) : ∀ d q I, q + d = 4 → mfb I0 I s → (∀ p, p < q → p < lPorts l → I (s + 25) p = ((oD (su.1 p) (lCap l p) : Nat) : Int)) →
    WP xs 203 1 6 [vr s, vi ((q : Nat) : Int)] [] (S, I, T, cc, zz) (RP S T cc zz (fun v I' => v = none ∧ nLi I' s (supL l su) ∧ (∀ e, e < 120 → I' (s + 26) e = b2i (su.2.2.2 e)) ∧ mfb I0 I' s)) := by
  intro d
  induction d with
  | zero =>
    intro q I hq F e25
    have hBI := nB_fr hB F
    have hSI := hS.fr F
    have h47 : I s 47 = I0 s 47 := F s 47 (fun _ => Or.inl (by decide)) (fun e => absurd e (Nat.lt_irrefl s))
    refine w_iln l_203_6 rfl ?_
    refine w_ic l_203_7 (by decide) ?_
    refine w_cge 48 l_203_8 (by decide) (fun _ => ?_) (fun hx => absurd hx (by omega))
    exact lp_203s hm okl hB hS F hBI hSI h47 (fun p hp => e25 p (by have := okl.1; omega) hp)
  | succ d ih =>
    intro q I hq F e25
    have hBI := nB_fr hB F
    have hSI := hS.fr F
    refine w_iln l_203_6 rfl ?_
    refine w_ic l_203_7 (by decide) ?_
    refine w_cge 48 l_203_8 (by decide) (fun hx => absurd hx (by omega)) (fun _ => ?_)
    refine w_aln l_203_11 rfl ?_
    refine w_gr l_203_12 (oModel_sh hm) (oModel_r49 hm) ?_
    refine w_iln l_203_15 rfl ?_
    refine w_aln l_203_16 rfl ?_
    refine w_gr l_203_17 (oModel_sh hm) (oModel_r43 hm) ?_
    refine w_iln l_203_20 rfl ?_
    refine w_ia q (oI (su.1 q)) l_203_21 (oModel_s43 hm) rfl (by omega) (hSI.1 q (by omega)) ?_
    refine w_ic l_203_22 (by decide) ?_
    refine w_cne 35 l_203_23 (by decide) (fun h1 => ?_) (fun h1 => ?_)
    · skip
      refine w_aln l_203_35 rfl ?_
      refine w_gr l_203_36 (oModel_sh hm) (oModel_r43 hm) ?_
      refine w_iln l_203_39 rfl ?_
      refine w_ia q (oI (su.1 q)) l_203_40 (oModel_s43 hm) rfl (by omega) (hSI.1 q (by omega)) ?_
      refine w_iS q l_203_41 (oModel_s49 hm) rfl (by omega) ?_
      refine w_inc ((q + 1 : Nat) : Int) l_203_42 rfl rfl (by unfold wr; omega) ?_
      refine w_go 6 l_203_45 (by decide) ?_
      refine ih (q + 1) _ (by omega) (F.tr ?_) (fun p hp hp2 => ?_)
      · intro y z h1 h2
        exact up_no (by intro q; have := h2 (by omega); omega)
      · by_cases hpq : p = q
        · rw [hpq, up_eq]
          first
            | exact oI_s (by assumption)
            | (rw [(hBI.2.1 q (by omega)).1]; exact oI_n (by assumption))
        · rw [up_nj hpq]
          exact e25 p (by omega) hp2
    · skip
      refine w_aln l_203_26 rfl ?_
      refine w_gr l_203_27 (oModel_sh hm) (oModel_r3 hm) ?_
      refine w_iln l_203_30 rfl ?_
      refine w_ia q (I (s + 2) q) l_203_31 (oModel_s3 hm) rfl (by omega) rfl ?_
      refine w_go 41 l_203_32 (by decide) ?_
      refine w_iS q l_203_41 (oModel_s49 hm) rfl (by omega) ?_
      refine w_inc ((q + 1 : Nat) : Int) l_203_42 rfl rfl (by unfold wr; omega) ?_
      refine w_go 6 l_203_45 (by decide) ?_
      refine ih (q + 1) _ (by omega) (F.tr ?_) (fun p hp hp2 => ?_)
      · intro y z h1 h2
        exact up_no (by intro q; have := h2 (by omega); omega)
      · by_cases hpq : p = q
        · rw [hpq, up_eq]
          first
            | exact oI_s (by assumption)
            | (rw [(hBI.2.1 q (by omega)).1]; exact oI_n (by assumption))
        · rw [up_nj hpq]
          exact e25 p (by omega) hp2
theorem s_203 (hm : oModel S T s) {su : Su} (okl : okLi l) (hB : nB I s l) (hS : nSu I s su) : CL xs 203 [vr s] (S, I, T, cc, zz) (RP S T cc zz (fun v I' => v = none ∧ nLi I' s (supL l su) ∧ (∀ e, e < 120 → I' (s + 26) e = b2i (su.2.2.2 e)) ∧ mfb I I' s)) := by
  refine CL_start (r := 1) (ls := [vr s, vs 2]) (rk_203 _) rfl ?_
  refine w_aln l_203_0 rfl ?_
  refine p_iv [] [] l_203_1 rfl rfl (Nat.le_of_ble_eq_true rfl) (by rw [mx_202]; exact Nat.le_of_ble_eq_true rfl) (by rw [mt_202]; exact oModel_sh hm) (by rw [mt_202]; decide) (by rw [rk_202]; decide) (r_plain hm hB okl) (fun v I1 hv => ?_)
  obtain ⟨rfl, k1, k2, F⟩ := hv
  refine w_ic l_203_4 (by decide) ?_
  refine w_isn l_203_5 ⟨Nat.le_of_ble_eq_true rfl, rfl⟩ ?_
  exact lp_203p hm okl hB hS 4 0 I1 rfl F (fun p hp => absurd hp (Nat.not_lt_zero p))

theorem nLi_z {I J : Ix} {s : Nat} {l : Li} (b2 : nLi I s l) (f : mfz I J s) : nLi J s l := by
  have e0 : ∀ j, j ≠ 55 ∧ j ≠ 66 ∧ j ≠ 67 ∧ j ≠ 68 ∧ j ≠ 69 → J s j = I s j := fun j hj => f s j (fun _ => hj) (fun e => absurd e (Nat.lt_irrefl s))
  have e : ∀ j, j ≤ 26 ∧ 0 < j → ∀ z, J (s + j) z = I (s + j) z := fun j hj z => f (s + j) z (fun e => by omega) (fun _ => by omega)
  unfold nLi at b2 ⊢
  simp only [e0 1 (by decide), e0 50 (by decide), e0 51 (by decide), e0 52 (by decide), e0 53 (by decide), e0 10 (by decide), e 25 (by decide), e 3 (by decide), e 4 (by decide), e 5 (by decide), e 6 (by decide)]
  exact b2

theorem mx_215 : mxl 215 = 1 := by decide +kernel
theorem mt_215 : mtc 215 = 10 := by decide +kernel
theorem rk_215 (as : List AV) : rkA 215 as = 9 := rfl
theorem l_215_0 : look 215 0 = some (.aload_n 0, 1, 0, 0, 0, 0) := by decide +kernel
theorem l_215_1 : look 215 1 = some (.invokevirtual 354, 3, 202, 1, 0, 1901) := by decide +kernel
theorem l_215_4 : look 215 4 = some (.aload_n 0, 1, 0, 0, 0, 0) := by decide +kernel
theorem l_215_5 : look 215 5 = some (.aload_n 0, 1, 0, 0, 0, 0) := by decide +kernel
theorem l_215_6 : look 215 6 = some (.getfield 330, 3, 10, 15, 0, 1516) := by decide +kernel
theorem l_215_9 : look 215 9 = some (.invokevirtual 390, 3, 214, 2, 0, 1905) := by decide +kernel
theorem l_215_12 : look 215 12 = some (.return_, 1, 0, 0, 0, 0) := by decide +kernel

theorem s_215 (hm : oModel S T s) {ne np : Nat} {a : Nat → Nat} {cd : Nat → Cd} (B : MP I s h l a ne np cd) : CL xs 215 [vr s] (S, I, T, cc, zz) (RP S T cc zz (fun v I' => v = none ∧ nR I' s l (runA h l noOut ne) ∧ mfb I I' s ∧ (∀ e, ne = e + 1 → noOut e = false → I' s 68 = ((cntP h l e (runA h l noOut e) : Nat) : Int) ∧ I' s 69 = ((cntD h l e (runA h l noOut e) : Nat) : Int)) ∧ nLi I' s l)) := by
  refine CL_start (r := 9) (ls := [vr s]) (rk_215 _) rfl ?_
  refine w_aln l_215_0 rfl ?_
  refine p_iv [] [] l_215_1 rfl rfl (Nat.le_of_ble_eq_true rfl) (by rw [mx_202]; exact Nat.le_of_ble_eq_true rfl) (by rw [mt_202]; exact oModel_sh hm) (by rw [mt_202]; decide) (by rw [rk_202]; decide) (r_plain hm B.2.1 B.2.2.2.2.1) (fun v I1 hv => ?_)
  obtain ⟨rfl, k1, k2, F⟩ := hv
  refine w_aln l_215_4 rfl ?_
  refine w_aln l_215_5 rfl ?_
  refine w_gi ((ne : Nat) : Int) l_215_6 (oModel_sh hm) ((B.fr F).2.2.2.2.2.2.2.1) ?_
  refine p_iv [vi ((ne : Nat) : Int)] [] l_215_9 rfl rfl (Nat.le_of_ble_eq_true rfl) (by rw [mx_214]; exact Nat.le_of_ble_eq_true rfl) (by rw [mt_214]; exact oModel_sh hm) (by rw [mt_214]; decide) (by rw [rk_214]; decide) (s_214 hm ((B.fr F).MB k1 B.2.2.2.2.1 rfl) (Nat.le_refl _) (fun e he => k2 e (by have := B.1.1; omega))) (fun v I2 hv => ?_)
  obtain ⟨rfl, hR2, f2, hc⟩ := hv
  refine w_vr l_215_12 ?_
  exact ⟨_, _, rfl, rfl, rfl, hR2, F.tr f2.b, hc, nLi_z k1 f2⟩

theorem mx_272 : mxl 272 = 1 := by decide +kernel
theorem mt_272 : mtc 272 = 10 := by decide +kernel
theorem rk_272 (as : List AV) : rkA 272 as = 9 := rfl
theorem l_272_0 : look 272 0 = some (.aload_n 0, 1, 0, 0, 0, 0) := by decide +kernel
theorem l_272_1 : look 272 1 = some (.invokevirtual 493, 3, 203, 1, 0, 2165) := by decide +kernel
theorem l_272_4 : look 272 4 = some (.aload_n 0, 1, 0, 0, 0, 0) := by decide +kernel
theorem l_272_5 : look 272 5 = some (.aload_n 0, 1, 0, 0, 0, 0) := by decide +kernel
theorem l_272_6 : look 272 6 = some (.getfield 330, 3, 10, 15, 0, 1516) := by decide +kernel
theorem l_272_9 : look 272 9 = some (.invokevirtual 390, 3, 214, 2, 0, 1905) := by decide +kernel
theorem l_272_12 : look 272 12 = some (.return_, 1, 0, 0, 0, 0) := by decide +kernel

theorem s_272 (hm : oModel S T s) {ne np : Nat} {a : Nat → Nat} {cd : Nat → Cd} {su : Su} (B : MP I s h l a ne np cd) (hS : nSu I s su) (hsu : okSu su) : CL xs 272 [vr s] (S, I, T, cc, zz) (RP S T cc zz (fun v I' => v = none ∧ nR I' s (supL l su) (runA h (supL l su) su.2.2.2 ne) ∧ mfb I I' s ∧ (∀ e, ne = e + 1 → su.2.2.2 e = false → I' s 68 = ((cntP h (supL l su) e (runA h (supL l su) su.2.2.2 e) : Nat) : Int) ∧ I' s 69 = ((cntD h (supL l su) e (runA h (supL l su) su.2.2.2 e) : Nat) : Int)) ∧ nLi I' s (supL l su))) := by
  refine CL_start (r := 9) (ls := [vr s]) (rk_272 _) rfl ?_
  refine w_aln l_272_0 rfl ?_
  refine p_iv [] [] l_272_1 rfl rfl (Nat.le_of_ble_eq_true rfl) (by rw [mx_203]; exact Nat.le_of_ble_eq_true rfl) (by rw [mt_203]; exact oModel_sh hm) (by rw [mt_203]; decide) (by rw [rk_203]; decide) (s_203 hm B.2.2.2.2.1 B.2.1 hS) (fun v I1 hv => ?_)
  obtain ⟨rfl, k1, k2, F⟩ := hv
  refine w_aln l_272_4 rfl ?_
  refine w_aln l_272_5 rfl ?_
  refine w_gi ((ne : Nat) : Int) l_272_6 (oModel_sh hm) ((B.fr F).2.2.2.2.2.2.2.1) ?_
  refine p_iv [vi ((ne : Nat) : Int)] [] l_272_9 rfl rfl (Nat.le_of_ble_eq_true rfl) (by rw [mx_214]; exact Nat.le_of_ble_eq_true rfl) (by rw [mt_214]; exact oModel_sh hm) (by rw [mt_214]; decide) (by rw [rk_214]; decide) (s_214 hm ((B.fr F).MB k1 (supL_ok B.2.2.2.2.1 hsu) rfl) (Nat.le_refl _) (fun e he => k2 e (by have := B.1.1; omega))) (fun v I2 hv => ?_)
  obtain ⟨rfl, hR2, f2, hc⟩ := hv
  refine w_vr l_272_12 ?_
  exact ⟨_, _, rfl, rfl, rfl, hR2, F.tr f2.b, hc, nLi_z k1 f2⟩

end RER
