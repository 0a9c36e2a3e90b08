/-! the reference: the rule against a packet -/
theorem b2i_2 (b : Bool) : b2i b % 2 = b2i b := by cases b <;> rfl
theorem f37 {I J : Ix} {s : Nat} (f : fr I J (s + 37) (s + 37)) : mfc I J s 0 0 :=
  ⟨fun y z h1 h2 => f y (by omega) z, cg.of (f s (by omega) 68), cg.of (f s (by omega) 69)⟩
theorem nR.f37 {I J : Ix} {s : Nat} {l : Li} {r : Ra} (hR : nR I s l r) (f : fr I J (s + 37) (s + 37)) : nR J s l r :=
  ⟨hR.1.fr (f s (by omega) 55) fun y h1 h2 z => f y (by omega) z, hR.2.fr (f s (by omega) 66) fun y h1 h2 z => f y (by omega) z⟩
theorem codes_t {I : Ix} {s o : Nat} {c : Nat × Nat × Nat} {r : Cd} (h : codesAt I s o (c :: r)) : (I (s + 9) (3 * o) = (c.1 : Int) ∧ I (s + 9) (3 * o + 1) = (c.2.1 : Int) ∧ I (s + 9) (3 * o + 2) = (c.2.2 : Int)) ∧ codesAt I s (o + 1) r := by
  refine ⟨h 0 (Nat.zero_lt_succ _), fun j hj => ?_⟩
  have h1 := h (j + 1) (Nat.succ_lt_succ hj)
  rw [show 3 * (o + 1 + j) = 3 * (o + (j + 1)) by omega]
  exact h1
theorem codes_fr {I J : Ix} {s o : Nat} {cs : Cd} (h : codesAt I s o cs) (e : ∀ z, J (s + 9) z = I (s + 9) z) : codesAt J s o cs := by
  unfold codesAt at h ⊢
  simp only [e]
  exact h
theorem st6 {h : Hi} {a : Nat → Nat} {k : Nat} {c : Nat × Nat × Nat} {b : Bool} {r : List Bool} (hc : c.1 = 6) : stepP h a k c (b :: r) = (!b) :: r := if_pos hc
theorem st7 {h : Hi} {a : Nat → Nat} {k : Nat} {c : Nat × Nat × Nat} {b b' : Bool} {r : List Bool} (hc : c.1 = 7) : stepP h a k c (b :: b' :: r) = (b' && b) :: r := (if_neg (by omega)).trans (if_pos hc)
theorem st8 {h : Hi} {a : Nat → Nat} {k : Nat} {c : Nat × Nat × Nat} {b b' : Bool} {r : List Bool} (hc : c.1 = 8) : stepP h a k c (b :: b' :: r) = (b' || b) :: r := (if_neg (by omega)).trans ((if_neg (by omega)).trans (if_pos hc))
theorem st5 {h : Hi} {a : Nat → Nat} {k : Nat} {c : Nat × Nat × Nat} {r : List Bool} (hc : c.1 ≤ 5) : stepP h a k c r = tellP h a k c :: r := (if_neg (by omega)).trans ((if_neg (by omega)).trans (if_neg (by omega)))
theorem wf_cases {c : Nat × Nat × Nat} {r : Cd} {n : Nat} (h : wfP (c :: r) n) : (c.1 = 6 ∧ 1 ≤ n ∧ wfP r n) ∨ (c.1 = 7 ∧ 2 ≤ n ∧ wfP r (n - 1)) ∨ (c.1 = 8 ∧ 2 ≤ n ∧ wfP r (n - 1)) ∨ (c.1 ≤ 5 ∧ c.2.1 ≤ 999 ∧ c.2.2 ≤ 3 ∧ n < 31 ∧ wfP r (n + 1)) := by
  unfold wfP at h
  by_cases h6 : c.1 = 6
  · rw [if_pos h6] at h; exact Or.inl ⟨h6, h⟩
  · rw [if_neg h6] at h
    by_cases h7 : c.1 = 7 ∨ c.1 = 8
    · rw [if_pos h7] at h
      rcases h7 with h7 | h7
      · exact Or.inr (Or.inl ⟨h7, h⟩)
      · exact Or.inr (Or.inr (Or.inl ⟨h7, h⟩))
    · rw [if_neg h7] at h
      exact Or.inr (Or.inr (Or.inr h))
section REJ
variable {xs : List Int} {S : List (Nat × Nat)} {T : Nat → Nat → Nat} {cc zz s : Nat} {h : Hi} {l : Li} {r : Ra} {I I' : Ix}

theorem mx_219 : mxl 219 = 6 := by decide +kernel
theorem mt_219 : mtc 219 = 10 := by decide +kernel
theorem rk_219 (as : List AV) : rkA 219 as = 3 := rfl
theorem l_219_0 : look 219 0 = some (.iconst 0, 1, 0, 0, 0, 0) := by decide +kernel
theorem l_219_1 : look 219 1 = some (.istore_n 3, 1, 0, 0, 0, 0) := by decide +kernel
theorem l_219_2 : look 219 2 = some (.aload_n 0, 1, 0, 0, 0, 0) := by decide +kernel
theorem l_219_3 : look 219 3 = some (.getfield 40, 3, 10, 12, 2, 1513) := by decide +kernel
theorem l_219_6 : look 219 6 = some (.iload_n 1, 1, 0, 0, 0, 0) := by decide +kernel
theorem l_219_7 : look 219 7 = some (.iaload, 1, 0, 0, 0, 0) := by decide +kernel
theorem l_219_8 : look 219 8 = some (.istore 4, 2, 0, 0, 0, 0) := by decide +kernel
theorem l_219_10 : look 219 10 = some (.iload 4, 2, 0, 0, 0, 0) := by decide +kernel
theorem l_219_12 : look 219 12 = some (.aload_n 0, 1, 0, 0, 0, 0) := by decide +kernel
theorem l_219_13 : look 219 13 = some (.getfield 43, 3, 10, 13, 2, 1514) := by decide +kernel
theorem l_219_16 : look 219 16 = some (.iload_n 1, 1, 0, 0, 0, 0) := by decide +kernel
theorem l_219_17 : look 219 17 = some (.iaload, 1, 0, 0, 0, 0) := by decide +kernel
theorem l_219_18 : look 219 18 = some (.if_icmp .ge 158, 3, 0, 0, 0, 0) := by decide +kernel
theorem l_219_21 : look 219 21 = some (.aload_n 0, 1, 0, 0, 0, 0) := by decide +kernel
theorem l_219_22 : look 219 22 = some (.getfield 46, 3, 10, 14, 2, 1515) := by decide +kernel
theorem l_219_25 : look 219 25 = some (.iconst 3, 1, 0, 0, 0, 0) := by decide +kernel
theorem l_219_26 : look 219 26 = some (.iload 4, 2, 0, 0, 0, 0) := by decide +kernel
theorem l_219_28 : look 219 28 = some (.imul, 1, 0, 0, 0, 0) := by decide +kernel
theorem l_219_29 : look 219 29 = some (.iaload, 1, 0, 0, 0, 0) := by decide +kernel
theorem l_219_30 : look 219 30 = some (.istore 5, 2, 0, 0, 0, 0) := by decide +kernel
theorem l_219_32 : look 219 32 = some (.iload 5, 2, 0, 0, 0, 0) := by decide +kernel
theorem l_219_34 : look 219 34 = some (.bipush 6, 2, 0, 0, 0, 0) := by decide +kernel
theorem l_219_36 : look 219 36 = some (.if_icmp .ne 30, 3, 0, 0, 0, 0) := by decide +kernel
theorem l_219_39 : look 219 39 = some (.aload_n 0, 1, 0, 0, 0, 0) := by decide +kernel
theorem l_219_40 : look 219 40 = some (.getfield 143, 3, 10, 70, 2, 1571) := by decide +kernel
theorem l_219_43 : look 219 43 = some (.iload_n 3, 1, 0, 0, 0, 0) := by decide +kernel
theorem l_219_44 : look 219 44 = some (.iconst 1, 1, 0, 0, 0, 0) := by decide +kernel
theorem l_219_45 : look 219 45 = some (.isub, 1, 0, 0, 0, 0) := by decide +kernel
theorem l_219_46 : look 219 46 = some (.aload_n 0, 1, 0, 0, 0, 0) := by decide +kernel
theorem l_219_47 : look 219 47 = some (.getfield 143, 3, 10, 70, 2, 1571) := by decide +kernel
theorem l_219_50 : look 219 50 = some (.iload_n 3, 1, 0, 0, 0, 0) := by decide +kernel
theorem l_219_51 : look 219 51 = some (.iconst 1, 1, 0, 0, 0, 0) := by decide +kernel
theorem l_219_52 : look 219 52 = some (.isub, 1, 0, 0, 0, 0) := by decide +kernel
theorem l_219_53 : look 219 53 = some (.baload, 1, 0, 0, 0, 0) := by decide +kernel
theorem l_219_54 : look 219 54 = some (.ifCond .ne 7, 3, 0, 0, 0, 0) := by decide +kernel
theorem l_219_57 : look 219 57 = some (.iconst 1, 1, 0, 0, 0, 0) := by decide +kernel
theorem l_219_58 : look 219 58 = some (.goto 4, 3, 0, 0, 0, 0) := by decide +kernel
theorem l_219_61 : look 219 61 = some (.iconst 0, 1, 0, 0, 0, 0) := by decide +kernel
theorem l_219_62 : look 219 62 = some (.bastore, 1, 0, 0, 0, 0) := by decide +kernel
theorem l_219_63 : look 219 63 = some (.goto 107, 3, 0, 0, 0, 0) := by decide +kernel
theorem l_219_66 : look 219 66 = some (.iload 5, 2, 0, 0, 0, 0) := by decide +kernel
theorem l_219_68 : look 219 68 = some (.bipush 7, 2, 0, 0, 0, 0) := by decide +kernel
theorem l_219_70 : look 219 70 = some (.if_icmp .eq 10, 3, 0, 0, 0, 0) := by decide +kernel
theorem l_219_73 : look 219 73 = some (.iload 5, 2, 0, 0, 0, 0) := by decide +kernel
theorem l_219_75 : look 219 75 = some (.bipush 8, 2, 0, 0, 0, 0) := by decide +kernel
theorem l_219_77 : look 219 77 = some (.if_icmp .ne 77, 3, 0, 0, 0, 0) := by decide +kernel
theorem l_219_80 : look 219 80 = some (.iinc 3 (-1), 3, 0, 0, 0, 0) := by decide +kernel
theorem l_219_83 : look 219 83 = some (.aload_n 0, 1, 0, 0, 0, 0) := by decide +kernel
theorem l_219_84 : look 219 84 = some (.getfield 143, 3, 10, 70, 2, 1571) := by decide +kernel
theorem l_219_87 : look 219 87 = some (.iload_n 3, 1, 0, 0, 0, 0) := by decide +kernel
theorem l_219_88 : look 219 88 = some (.iconst 1, 1, 0, 0, 0, 0) := by decide +kernel
theorem l_219_89 : look 219 89 = some (.isub, 1, 0, 0, 0, 0) := by decide +kernel
theorem l_219_90 : look 219 90 = some (.iload 5, 2, 0, 0, 0, 0) := by decide +kernel
theorem l_219_92 : look 219 92 = some (.bipush 7, 2, 0, 0, 0, 0) := by decide +kernel
theorem l_219_94 : look 219 94 = some (.if_icmp .ne 31, 3, 0, 0, 0, 0) := by decide +kernel
theorem l_219_97 : look 219 97 = some (.aload_n 0, 1, 0, 0, 0, 0) := by decide +kernel
theorem l_219_98 : look 219 98 = some (.getfield 143, 3, 10, 70, 2, 1571) := by decide +kernel
theorem l_219_101 : look 219 101 = some (.iload_n 3, 1, 0, 0, 0, 0) := by decide +kernel
theorem l_219_102 : look 219 102 = some (.iconst 1, 1, 0, 0, 0, 0) := by decide +kernel
theorem l_219_103 : look 219 103 = some (.isub, 1, 0, 0, 0, 0) := by decide +kernel
theorem l_219_104 : look 219 104 = some (.baload, 1, 0, 0, 0, 0) := by decide +kernel
theorem l_219_105 : look 219 105 = some (.ifCond .eq 16, 3, 0, 0, 0, 0) := by decide +kernel
theorem l_219_108 : look 219 108 = some (.aload_n 0, 1, 0, 0, 0, 0) := by decide +kernel
theorem l_219_109 : look 219 109 = some (.getfield 143, 3, 10, 70, 2, 1571) := by decide +kernel
theorem l_219_112 : look 219 112 = some (.iload_n 3, 1, 0, 0, 0, 0) := by decide +kernel
theorem l_219_113 : look 219 113 = some (.baload, 1, 0, 0, 0, 0) := by decide +kernel
theorem l_219_114 : look 219 114 = some (.ifCond .eq 7, 3, 0, 0, 0, 0) := by decide +kernel
theorem l_219_117 : look 219 117 = some (.iconst 1, 1, 0, 0, 0, 0) := by decide +kernel
theorem l_219_118 : look 219 118 = some (.goto 32, 3, 0, 0, 0, 0) := by decide +kernel
theorem l_219_121 : look 219 121 = some (.iconst 0, 1, 0, 0, 0, 0) := by decide +kernel
theorem l_219_122 : look 219 122 = some (.goto 28, 3, 0, 0, 0, 0) := by decide +kernel
theorem l_219_125 : look 219 125 = some (.aload_n 0, 1, 0, 0, 0, 0) := by decide +kernel
theorem l_219_126 : look 219 126 = some (.getfield 143, 3, 10, 70, 2, 1571) := by decide +kernel
theorem l_219_129 : look 219 129 = some (.iload_n 3, 1, 0, 0, 0, 0) := by decide +kernel
theorem l_219_130 : look 219 130 = some (.iconst 1, 1, 0, 0, 0, 0) := by decide +kernel
theorem l_219_131 : look 219 131 = some (.isub, 1, 0, 0, 0, 0) := by decide +kernel
theorem l_219_132 : look 219 132 = some (.baload, 1, 0, 0, 0, 0) := by decide +kernel
theorem l_219_133 : look 219 133 = some (.ifCond .ne 12, 3, 0, 0, 0, 0) := by decide +kernel
theorem l_219_136 : look 219 136 = some (.aload_n 0, 1, 0, 0, 0, 0) := by decide +kernel
theorem l_219_137 : look 219 137 = some (.getfield 143, 3, 10, 70, 2, 1571) := by decide +kernel
theorem l_219_140 : look 219 140 = some (.iload_n 3, 1, 0, 0, 0, 0) := by decide +kernel
theorem l_219_141 : look 219 141 = some (.baload, 1, 0, 0, 0, 0) := by decide +kernel
theorem l_219_142 : look 219 142 = some (.ifCond .eq 7, 3, 0, 0, 0, 0) := by decide +kernel
theorem l_219_145 : look 219 145 = some (.iconst 1, 1, 0, 0, 0, 0) := by decide +kernel
theorem l_219_146 : look 219 146 = some (.goto 4, 3, 0, 0, 0, 0) := by decide +kernel
theorem l_219_149 : look 219 149 = some (.iconst 0, 1, 0, 0, 0, 0) := by decide +kernel
theorem l_219_150 : look 219 150 = some (.bastore, 1, 0, 0, 0, 0) := by decide +kernel
theorem l_219_151 : look 219 151 = some (.goto 19, 3, 0, 0, 0, 0) := by decide +kernel
theorem l_219_154 : look 219 154 = some (.aload_n 0, 1, 0, 0, 0, 0) := by decide +kernel
theorem l_219_155 : look 219 155 = some (.getfield 143, 3, 10, 70, 2, 1571) := by decide +kernel
theorem l_219_158 : look 219 158 = some (.iload_n 3, 1, 0, 0, 0, 0) := by decide +kernel
theorem l_219_159 : look 219 159 = some (.aload_n 0, 1, 0, 0, 0, 0) := by decide +kernel
theorem l_219_160 : look 219 160 = some (.iload 4, 2, 0, 0, 0, 0) := by decide +kernel
theorem l_219_162 : look 219 162 = some (.iload_n 2, 1, 0, 0, 0, 0) := by decide +kernel
theorem l_219_163 : look 219 163 = some (.invokevirtual 408, 3, 218, 3, 0, 1940) := by decide +kernel
theorem l_219_166 : look 219 166 = some (.bastore, 1, 0, 0, 0, 0) := by decide +kernel
theorem l_219_167 : look 219 167 = some (.iinc 3 1, 3, 0, 0, 0, 0) := by decide +kernel
theorem l_219_170 : look 219 170 = some (.iinc 4 1, 3, 0, 0, 0, 0) := by decide +kernel
theorem l_219_173 : look 219 173 = some (.goto (-163), 3, 0, 0, 0, 0) := by decide +kernel
theorem l_219_176 : look 219 176 = some (.aload_n 0, 1, 0, 0, 0, 0) := by decide +kernel
theorem l_219_177 : look 219 177 = some (.getfield 143, 3, 10, 70, 2, 1571) := by decide +kernel
theorem l_219_180 : look 219 180 = some (.iconst 0, 1, 0, 0, 0, 0) := by decide +kernel
theorem l_219_181 : look 219 181 = some (.baload, 1, 0, 0, 0, 0) := by decide +kernel
theorem l_219_182 : look 219 182 = some (.ireturn, 1, 0, 0, 1, 0) := by decide +kernel

theorem lp_219 {I0 : Ix} (hm : oModel S T s) {ne np k q t : Nat} {a : Nat → Nat} (H0 : mH I0 s h a ne np) (hk : k < np) (hq : q < 8) (ht3 : t ≤ 300) (hz : I0 (s + 10) (7 * a k + 1) = ((hPort h (a k) : Nat) : Int)) {R : Bool} : ∀ (cs : Cd) (o : Nat) (st : List Bool) (I : Ix) (v5 : AV), o + cs.length = t → wfP cs st.length → st.length ≤ 31 → stkAt I s st → codesAt I s o cs → I (s + 8) q = (t : Int) → fr I0 I (s + 37) (s + 37) → (evalP h a k cs st).headD false = R →
    WP xs 219 3 10 [vr s, vi ((q : Nat) : Int), vi ((k : Nat) : Int), vi ((st.length : Nat) : Int), vi ((o : Nat) : Int), v5] [] (S, I, T, cc, zz) (RP S T cc zz (fun v I' => v = some (vi (b2i R)) ∧ fr I0 I' (s + 37) (s + 37))) := by
  have hk120 : k < 120 := by have := H0.1; have := H0.2.1; omega
  intro cs
  induction cs with
  | nil =>
    intro o st I v5 hot hwf hdp hst hcs ht f hX
    have hot2 : o = t := hot
    match st, hwf, hdp, hst, hX with
    | [b], hwf, hdp, hst, hX =>
      refine w_il l_219_10 rfl ?_
      refine w_aln l_219_12 rfl ?_
      refine w_gr l_219_13 (oModel_sh hm) (oModel_r13 hm) ?_
      refine w_iln l_219_16 rfl ?_
      refine w_ia q ((t : Nat) : Int) l_219_17 (oModel_s13 hm) rfl (by omega) ht ?_
      refine w_cge 176 l_219_18 (by decide) (fun _ => ?_) (fun hx => absurd hx (by omega))
      refine w_aln l_219_176 rfl ?_
      refine w_gr l_219_177 (oModel_sh hm) (oModel_r70 hm) ?_
      refine w_ic l_219_180 (by decide) ?_
      refine w_ba 0 (b2i b) l_219_181 (Or.inr (oModel_s70 hm)) rfl (by omega) hst.1 ?_
      refine w_ir l_219_182 (Or.inr (Or.inl ⟨rfl, (b2i_r _).1, (b2i_r _).2⟩)) ?_
      exact ⟨_, _, rfl, rfl, by rw [← hX]; rfl, f⟩
    | [], hwf, hdp, hst, hX => cases hwf
    | b :: b' :: r2, hwf, hdp, hst, hX =>
      have : r2.length + 1 + 1 = 1 := hwf
      omega
  | cons c r ih =>
    intro o st I v5 hot hwf hdp hst hcs ht f hX
    have hot2 : o + 1 + r.length = t := by rw [← hot]; show _ = o + (r.length + 1); omega
    have ho : o < 300 := by omega
    obtain ⟨hg, hcs⟩ := codes_t hcs
    rcases wf_cases hwf with ⟨hc0, hn, hwf⟩ | ⟨hc0, hn, hwf⟩ | ⟨hc0, hn, hwf⟩ | hc0
    · match st, hn, hwf, hdp, hst, hX with
      | b :: r2, hn, hwf, hdp, hst, hX =>
        have hlen : (b :: r2).length = r2.length + 1 := rfl
        refine w_il l_219_10 rfl ?_
        refine w_aln l_219_12 rfl ?_
        refine w_gr l_219_13 (oModel_sh hm) (oModel_r13 hm) ?_
        refine w_iln l_219_16 rfl ?_
        refine w_ia q ((t : Nat) : Int) l_219_17 (oModel_s13 hm) rfl (by omega) ht ?_
        refine w_cge 176 l_219_18 (by decide) (fun hx => absurd hx (by omega)) (fun _ => ?_)
        refine w_aln l_219_21 rfl ?_
        refine w_gr l_219_22 (oModel_sh hm) (oModel_r14 hm) ?_
        refine w_ic l_219_25 (by decide) ?_
        refine w_il l_219_26 rfl ?_
        refine w_mul ((3 * o : Nat) : Int) l_219_28 (by unfold wr; omega) ?_
        refine w_ia (3 * o) 6 l_219_29 (oModel_s14 hm) rfl (by omega) (hg.1.trans (by rw [hc0]; rfl)) ?_
        refine w_is l_219_30 ⟨Nat.le_of_ble_eq_true rfl, rfl⟩ ?_
        refine w_il l_219_32 rfl ?_
        refine w_bp l_219_34 (by decide) ?_
        refine w_cne 66 l_219_36 (by decide) (fun hx => absurd hx (by decide)) (fun _ => ?_)
        refine w_aln l_219_39 rfl ?_
        refine w_gr l_219_40 (oModel_sh hm) (oModel_r70 hm) ?_
        refine w_iln l_219_43 rfl ?_
        refine w_ic l_219_44 (by decide) ?_
        refine w_sub ((r2.length : Nat) : Int) l_219_45 (by unfold wr; omega) ?_
        refine w_aln l_219_46 rfl ?_
        refine w_gr l_219_47 (oModel_sh hm) (oModel_r70 hm) ?_
        refine w_iln l_219_50 rfl ?_
        refine w_ic l_219_51 (by decide) ?_
        refine w_sub ((r2.length : Nat) : Int) l_219_52 (by unfold wr; omega) ?_
        refine w_ba r2.length (b2i b) l_219_53 (Or.inr (oModel_s70 hm)) rfl (by omega) hst.1 ?_
        refine w_bne 61 l_219_54 (by decide) (fun h1 => ?_) (fun h1 => ?_)
        · skip
          refine w_ic l_219_61 (by decide) ?_
          refine w_zS r2.length 0 l_219_62 (oModel_s70 hm) rfl (by omega) (by decide) ?_
          refine w_go 170 l_219_63 (by decide) ?_
          refine w_inc ((o + 1 : Nat) : Int) l_219_170 rfl rfl (by unfold wr; omega) ?_
          refine w_go 10 l_219_173 (by decide) ?_
          refine ih (o + 1) ((!b) :: r2) _ _ (by omega) ?_ ?_ ?_ ?_ ?_ ?_ ?_
          · exact hwf
          · show r2.length + 1 ≤ 31
            omega
          · refine ⟨?_, stk_up _ (Nat.le_refl _) hst.2⟩
            rw [up_eq]
            simp_all [b2i]
          · exact codes_fr hcs fun z => up_no (by omega)
          · rw [up_no (by omega)]; exact ht
          · exact f.up (by omega) (by omega)
          · rw [← hX]
            show _ = ((evalP h a k r (stepP h a k c _)).headD false)
            rw [st6 hc0]
        · skip
          refine w_ic l_219_57 (by decide) ?_
          refine w_go 62 l_219_58 (by decide) ?_
          refine w_zS r2.length 1 l_219_62 (oModel_s70 hm) rfl (by omega) (by decide) ?_
          refine w_go 170 l_219_63 (by decide) ?_
          refine w_inc ((o + 1 : Nat) : Int) l_219_170 rfl rfl (by unfold wr; omega) ?_
          refine w_go 10 l_219_173 (by decide) ?_
          refine ih (o + 1) ((!b) :: r2) _ _ (by omega) ?_ ?_ ?_ ?_ ?_ ?_ ?_
          · exact hwf
          · show r2.length + 1 ≤ 31
            omega
          · refine ⟨?_, stk_up _ (Nat.le_refl _) hst.2⟩
            rw [up_eq]
            simp_all [b2i]
          · exact codes_fr hcs fun z => up_no (by omega)
          · rw [up_no (by omega)]; exact ht
          · exact f.up (by omega) (by omega)
          · rw [← hX]
            show _ = ((evalP h a k r (stepP h a k c _)).headD false)
            rw [st6 hc0]
    · match st, hn, hwf, hdp, hst, hX with
      | [b], hn, hwf, hdp, hst, hX => exact absurd hn (by simp)
      | b :: b' :: r2, hn, hwf, hdp, hst, hX =>
        have hlen : (b :: b' :: r2).length = r2.length + 2 := rfl
        refine w_il l_219_10 rfl ?_
        refine w_aln l_219_12 rfl ?_
        refine w_gr l_219_13 (oModel_sh hm) (oModel_r13 hm) ?_
        refine w_iln l_219_16 rfl ?_
        refine w_ia q ((t : Nat) : Int) l_219_17 (oModel_s13 hm) rfl (by omega) ht ?_
        refine w_cge 176 l_219_18 (by decide) (fun hx => absurd hx (by omega)) (fun _ => ?_)
        refine w_aln l_219_21 rfl ?_
        refine w_gr l_219_22 (oModel_sh hm) (oModel_r14 hm) ?_
        refine w_ic l_219_25 (by decide) ?_
        refine w_il l_219_26 rfl ?_
        refine w_mul ((3 * o : Nat) : Int) l_219_28 (by unfold wr; omega) ?_
        refine w_ia (3 * o) 7 l_219_29 (oModel_s14 hm) rfl (by omega) (hg.1.trans (by rw [hc0]; rfl)) ?_
        refine w_is l_219_30 ⟨Nat.le_of_ble_eq_true rfl, rfl⟩ ?_
        refine w_il l_219_32 rfl ?_
        refine w_bp l_219_34 (by decide) ?_
        refine w_cne 66 l_219_36 (by decide) (fun _ => ?_) (fun hx => absurd hx (by decide))
        refine w_il l_219_66 rfl ?_
        refine w_bp l_219_68 (by decide) ?_
        refine w_ceq 80 l_219_70 (by decide) (fun _ => ?_) (fun hx => absurd hx (by decide))
        refine w_inc (((r2.length + 1) : Nat) : Int) l_219_80 rfl rfl (by unfold wr; omega) ?_
        refine w_aln l_219_83 rfl ?_
        refine w_gr l_219_84 (oModel_sh hm) (oModel_r70 hm) ?_
        refine w_iln l_219_87 rfl ?_
        refine w_ic l_219_88 (by decide) ?_
        refine w_sub ((r2.length : Nat) : Int) l_219_89 (by unfold wr; omega) ?_
        refine w_il l_219_90 rfl ?_
        refine w_bp l_219_92 (by decide) ?_
        refine w_cne 125 l_219_94 (by decide) (fun hx => absurd hx (by decide)) (fun _ => ?_)
        refine w_aln l_219_97 rfl ?_
        refine w_gr l_219_98 (oModel_sh hm) (oModel_r70 hm) ?_
        refine w_iln l_219_101 rfl ?_
        refine w_ic l_219_102 (by decide) ?_
        refine w_sub ((r2.length : Nat) : Int) l_219_103 (by unfold wr; omega) ?_
        refine w_ba r2.length (b2i b') l_219_104 (Or.inr (oModel_s70 hm)) rfl (by omega) hst.2.1 ?_
        refine w_beq 121 l_219_105 (by decide) (fun h1 => ?_) (fun h1 => ?_)
        · skip
          refine w_ic l_219_121 (by decide) ?_
          refine w_go 150 l_219_122 (by decide) ?_
          refine w_zS r2.length 0 l_219_150 (oModel_s70 hm) rfl (by omega) (by decide) ?_
          refine w_go 170 l_219_151 (by decide) ?_
          refine w_inc ((o + 1 : Nat) : Int) l_219_170 rfl rfl (by unfold wr; omega) ?_
          refine w_go 10 l_219_173 (by decide) ?_
          refine ih (o + 1) ((b' && b) :: r2) _ _ (by omega) ?_ ?_ ?_ ?_ ?_ ?_ ?_
          · exact hwf
          · show r2.length + 1 ≤ 31
            omega
          · refine ⟨?_, stk_up _ (Nat.le_refl _) hst.2.2⟩
            rw [up_eq]
            simp_all [b2i]
          · exact codes_fr hcs fun z => up_no (by omega)
          · rw [up_no (by omega)]; exact ht
          · exact f.up (by omega) (by omega)
          · rw [← hX]
            show _ = ((evalP h a k r (stepP h a k c _)).headD false)
            rw [st7 hc0]
        · skip
          refine w_aln l_219_108 rfl ?_
          refine w_gr l_219_109 (oModel_sh hm) (oModel_r70 hm) ?_
          refine w_iln l_219_112 rfl ?_
          refine w_ba (r2.length + 1) (b2i b) l_219_113 (Or.inr (oModel_s70 hm)) rfl (by omega) hst.1 ?_
          refine w_beq 121 l_219_114 (by decide) (fun h2 => ?_) (fun h2 => ?_)
          · skip
            refine w_ic l_219_121 (by decide) ?_
            refine w_go 150 l_219_122 (by decide) ?_
            refine w_zS r2.length 0 l_219_150 (oModel_s70 hm) rfl (by omega) (by decide) ?_
            refine w_go 170 l_219_151 (by decide) ?_
            refine w_inc ((o + 1 : Nat) : Int) l_219_170 rfl rfl (by unfold wr; omega) ?_
            refine w_go 10 l_219_173 (by decide) ?_
            refine ih (o + 1) ((b' && b) :: r2) _ _ (by omega) ?_ ?_ ?_ ?_ ?_ ?_ ?_
            · exact hwf
            · show r2.length + 1 ≤ 31
              omega
            · refine ⟨?_, stk_up _ (Nat.le_refl _) hst.2.2⟩
              rw [up_eq]
              simp_all [b2i]
            · exact codes_fr hcs fun z => up_no (by omega)
            · rw [up_no (by omega)]; exact ht
            · exact f.up (by omega) (by omega)
            · rw [← hX]
              show _ = ((evalP h a k r (stepP h a k c _)).headD false)
              rw [st7 hc0]
          · skip
            refine w_ic l_219_117 (by decide) ?_
            refine w_go 150 l_219_118 (by decide) ?_
            refine w_zS r2.length 1 l_219_150 (oModel_s70 hm) rfl (by omega) (by decide) ?_
            refine w_go 170 l_219_151 (by decide) ?_
            refine w_inc ((o + 1 : Nat) : Int) l_219_170 rfl rfl (by unfold wr; omega) ?_
            refine w_go 10 l_219_173 (by decide) ?_
            refine ih (o + 1) ((b' && b) :: r2) _ _ (by omega) ?_ ?_ ?_ ?_ ?_ ?_ ?_
            · exact hwf
            · show r2.length + 1 ≤ 31
              omega
            · refine ⟨?_, stk_up _ (Nat.le_refl _) hst.2.2⟩
              rw [up_eq]
              simp_all [b2i]
            · exact codes_fr hcs fun z => up_no (by omega)
            · rw [up_no (by omega)]; exact ht
            · exact f.up (by omega) (by omega)
            · rw [← hX]
              show _ = ((evalP h a k r (stepP h a k c _)).headD false)
              rw [st7 hc0]
    · match st, hn, hwf, hdp, hst, hX with
      | [b], hn, hwf, hdp, hst, hX => exact absurd hn (by simp)
      | b :: b' :: r2, hn, hwf, hdp, hst, hX =>
        have hlen : (b :: b' :: r2).length = r2.length + 2 := rfl
        refine w_il l_219_10 rfl ?_
        refine w_aln l_219_12 rfl ?_
        refine w_gr l_219_13 (oModel_sh hm) (oModel_r13 hm) ?_
        refine w_iln l_219_16 rfl ?_
        refine w_ia q ((t : Nat) : Int) l_219_17 (oModel_s13 hm) rfl (by omega) ht ?_
        refine w_cge 176 l_219_18 (by decide) (fun hx => absurd hx (by omega)) (fun _ => ?_)
        refine w_aln l_219_21 rfl ?_
        refine w_gr l_219_22 (oModel_sh hm) (oModel_r14 hm) ?_
        refine w_ic l_219_25 (by decide) ?_
        refine w_il l_219_26 rfl ?_
        refine w_mul ((3 * o : Nat) : Int) l_219_28 (by unfold wr; omega) ?_
        refine w_ia (3 * o) 8 l_219_29 (oModel_s14 hm) rfl (by omega) (hg.1.trans (by rw [hc0]; rfl)) ?_
        refine w_is l_219_30 ⟨Nat.le_of_ble_eq_true rfl, rfl⟩ ?_
        refine w_il l_219_32 rfl ?_
        refine w_bp l_219_34 (by decide) ?_
        refine w_cne 66 l_219_36 (by decide) (fun _ => ?_) (fun hx => absurd hx (by decide))
        refine w_il l_219_66 rfl ?_
        refine w_bp l_219_68 (by decide) ?_
        refine w_ceq 80 l_219_70 (by decide) (fun hx => absurd hx (by decide)) (fun _ => ?_)
        refine w_il l_219_73 rfl ?_
        refine w_bp l_219_75 (by decide) ?_
        refine w_cne 154 l_219_77 (by decide) (fun hx => absurd hx (by decide)) (fun _ => ?_)
        refine w_inc (((r2.length + 1) : Nat) : Int) l_219_80 rfl rfl (by unfold wr; omega) ?_
        refine w_aln l_219_83 rfl ?_
        refine w_gr l_219_84 (oModel_sh hm) (oModel_r70 hm) ?_
        refine w_iln l_219_87 rfl ?_
        refine w_ic l_219_88 (by decide) ?_
        refine w_sub ((r2.length : Nat) : Int) l_219_89 (by unfold wr; omega) ?_
        refine w_il l_219_90 rfl ?_
        refine w_bp l_219_92 (by decide) ?_
        refine w_cne 125 l_219_94 (by decide) (fun _ => ?_) (fun hx => absurd hx (by decide))
        refine w_aln l_219_125 rfl ?_
        refine w_gr l_219_126 (oModel_sh hm) (oModel_r70 hm) ?_
        refine w_iln l_219_129 rfl ?_
        refine w_ic l_219_130 (by decide) ?_
        refine w_sub ((r2.length : Nat) : Int) l_219_131 (by unfold wr; omega) ?_
        refine w_ba r2.length (b2i b') l_219_132 (Or.inr (oModel_s70 hm)) rfl (by omega) hst.2.1 ?_
        refine w_bne 145 l_219_133 (by decide) (fun h1 => ?_) (fun h1 => ?_)
        · skip
          refine w_ic l_219_145 (by decide) ?_
          refine w_go 150 l_219_146 (by decide) ?_
          refine w_zS r2.length 1 l_219_150 (oModel_s70 hm) rfl (by omega) (by decide) ?_
          refine w_go 170 l_219_151 (by decide) ?_
          refine w_inc ((o + 1 : Nat) : Int) l_219_170 rfl rfl (by unfold wr; omega) ?_
          refine w_go 10 l_219_173 (by decide) ?_
          refine ih (o + 1) ((b' || b) :: r2) _ _ (by omega) ?_ ?_ ?_ ?_ ?_ ?_ ?_
          · exact hwf
          · show r2.length + 1 ≤ 31
            omega
          · refine ⟨?_, stk_up _ (Nat.le_refl _) hst.2.2⟩
            rw [up_eq]
            simp_all [b2i]
          · exact codes_fr hcs fun z => up_no (by omega)
          · rw [up_no (by omega)]; exact ht
          · exact f.up (by omega) (by omega)
          · rw [← hX]
            show _ = ((evalP h a k r (stepP h a k c _)).headD false)
            rw [st8 hc0]
        · skip
          refine w_aln l_219_136 rfl ?_
          refine w_gr l_219_137 (oModel_sh hm) (oModel_r70 hm) ?_
          refine w_iln l_219_140 rfl ?_
          refine w_ba (r2.length + 1) (b2i b) l_219_141 (Or.inr (oModel_s70 hm)) rfl (by omega) hst.1 ?_
          refine w_beq 149 l_219_142 (by decide) (fun h2 => ?_) (fun h2 => ?_)
          · skip
            refine w_ic l_219_149 (by decide) ?_
            refine w_zS r2.length 0 l_219_150 (oModel_s70 hm) rfl (by omega) (by decide) ?_
            refine w_go 170 l_219_151 (by decide) ?_
            refine w_inc ((o + 1 : Nat) : Int) l_219_170 rfl rfl (by unfold wr; omega) ?_
            refine w_go 10 l_219_173 (by decide) ?_
            refine ih (o + 1) ((b' || b) :: r2) _ _ (by omega) ?_ ?_ ?_ ?_ ?_ ?_ ?_
            · exact hwf
            · show r2.length + 1 ≤ 31
              omega
            · refine ⟨?_, stk_up _ (Nat.le_refl _) hst.2.2⟩
              rw [up_eq]
              simp_all [b2i]
            · exact codes_fr hcs fun z => up_no (by omega)
            · rw [up_no (by omega)]; exact ht
            · exact f.up (by omega) (by omega)
            · rw [← hX]
              show _ = ((evalP h a k r (stepP h a k c _)).headD false)
              rw [st8 hc0]
          · skip
            refine w_ic l_219_145 (by decide) ?_
            refine w_go 150 l_219_146 (by decide) ?_
            refine w_zS r2.length 1 l_219_150 (oModel_s70 hm) rfl (by omega) (by decide) ?_
            refine w_go 170 l_219_151 (by decide) ?_
            refine w_inc ((o + 1 : Nat) : Int) l_219_170 rfl rfl (by unfold wr; omega) ?_
            refine w_go 10 l_219_173 (by decide) ?_
            refine ih (o + 1) ((b' || b) :: r2) _ _ (by omega) ?_ ?_ ?_ ?_ ?_ ?_ ?_
            · exact hwf
            · show r2.length + 1 ≤ 31
              omega
            · refine ⟨?_, stk_up _ (Nat.le_refl _) hst.2.2⟩
              rw [up_eq]
              simp_all [b2i]
            · exact codes_fr hcs fun z => up_no (by omega)
            · rw [up_no (by omega)]; exact ht
            · exact f.up (by omega) (by omega)
            · rw [← hX]
              show _ = ((evalP h a k r (stepP h a k c _)).headD false)
              rw [st8 hc0]
    · have hwf := hc0.2.2.2.2
      have H : mH I s h a ne np := H0.fr (f37 f).1
      have hz2 : I (s + 10) (7 * a k + 1) = ((hPort h (a k) : Nat) : Int) := by rw [f (s + 10) (by omega)]; exact hz
      refine w_il l_219_10 rfl ?_
      refine w_aln l_219_12 rfl ?_
      refine w_gr l_219_13 (oModel_sh hm) (oModel_r13 hm) ?_
      refine w_iln l_219_16 rfl ?_
      refine w_ia q ((t : Nat) : Int) l_219_17 (oModel_s13 hm) rfl (by omega) ht ?_
      refine w_cge 176 l_219_18 (by decide) (fun hx => absurd hx (by omega)) (fun _ => ?_)
      refine w_aln l_219_21 rfl ?_
      refine w_gr l_219_22 (oModel_sh hm) (oModel_r14 hm) ?_
      refine w_ic l_219_25 (by decide) ?_
      refine w_il l_219_26 rfl ?_
      refine w_mul ((3 * o : Nat) : Int) l_219_28 (by unfold wr; omega) ?_
      refine w_ia (3 * o) ((c.1 : Nat) : Int) l_219_29 (oModel_s14 hm) rfl (by omega) hg.1 ?_
      refine w_is l_219_30 ⟨Nat.le_of_ble_eq_true rfl, rfl⟩ ?_
      refine w_il l_219_32 rfl ?_
      refine w_bp l_219_34 (by decide) ?_
      refine w_cne 66 l_219_36 (by decide) (fun _ => ?_) (fun hx => absurd hx (by omega))
      refine w_il l_219_66 rfl ?_
      refine w_bp l_219_68 (by decide) ?_
      refine w_ceq 80 l_219_70 (by decide) (fun hx => absurd hx (by omega)) (fun _ => ?_)
      refine w_il l_219_73 rfl ?_
      refine w_bp l_219_75 (by decide) ?_
      refine w_cne 154 l_219_77 (by decide) (fun _ => ?_) (fun hx => absurd hx (by omega))
      refine w_aln l_219_154 rfl ?_
      refine w_gr l_219_155 (oModel_sh hm) (oModel_r70 hm) ?_
      refine w_iln l_219_158 rfl ?_
      refine w_aln l_219_159 rfl ?_
      refine w_il l_219_160 rfl ?_
      refine w_iln l_219_162 rfl ?_
      refine q_iv [vi ((o : Nat) : Int), vi ((k : Nat) : Int)] [vi ((st.length : Nat) : Int), vr (s + 37)] l_219_163 rfl rfl (Nat.le_of_ble_eq_true rfl) (by rw [mx_218]; exact Nat.le_of_ble_eq_true rfl) (by rw [mt_218]; exact oModel_sh hm) (by rw [mt_218]; decide) (by rw [rk_218]; decide) (s_218 hm H hk ho hg.1 hg.2.1 hg.2.2 hc0.2.2.1 hc0.1 hz2) ?_
      refine w_zS st.length (b2i (tellP h a k c)) l_219_166 (oModel_s70 hm) rfl (by omega) (b2i_2 _) ?_
      refine w_inc ((st.length + 1 : Nat) : Int) l_219_167 rfl rfl (by unfold wr; omega) ?_
      refine w_inc ((o + 1 : Nat) : Int) l_219_170 rfl rfl (by unfold wr; omega) ?_
      refine w_go 10 l_219_173 (by decide) ?_
      refine ih (o + 1) (tellP h a k c :: st) _ _ (by omega) ?_ ?_ ?_ ?_ ?_ ?_ ?_
      · exact hwf
      · show st.length + 1 ≤ 31
        omega
      · refine ⟨?_, stk_up _ (Nat.le_refl _) hst⟩
        rw [up_eq]
        skip
      · exact codes_fr hcs fun z => up_no (by omega)
      · rw [up_no (by omega)]; exact ht
      · exact f.up (by omega) (by omega)
      · rw [← hX]
        show _ = ((evalP h a k r (stepP h a k c _)).headD false)
        rw [st5 hc0.1]
theorem s_219 (hm : oModel S T s) {ne np k q : Nat} {a : Nat → Nat} {cd : Nat → Cd} (H : mH I s h a ne np) (C : nC I s h l a np cd) (hl8 : lRules l ≤ 8) (hk : k < np) (hq : q < lRules l) (hz : I (s + 10) (7 * a k + 1) = ((hPort h (a k) : Nat) : Int)) : CL xs 219 [vr s, vi ((q : Nat) : Int), vi ((k : Nat) : Int)] (S, I, T, cc, zz) (RP S T cc zz (fun v I' => v = some (vi (b2i (hHol h k q))) ∧ fr I I' (s + 37) (s + 37))) := by
  refine CL_start (r := 3) (ls := [vr s, vi ((q : Nat) : Int), vi ((k : Nat) : Int), vs 2, vs 2, vs 2]) (rk_219 _) rfl ?_
  obtain ⟨⟨oo, c1, c2, c3, c4⟩, c5, c6⟩ := C q hq
  have hq8 : q < 8 := by omega
  have hk120 : k < 120 := by have := H.1; have := H.2.1; omega
  refine w_ic l_219_0 (by decide) ?_
  refine w_isn l_219_1 ⟨Nat.le_of_ble_eq_true rfl, rfl⟩ ?_
  refine w_aln l_219_2 rfl ?_
  refine w_gr l_219_3 (oModel_sh hm) (oModel_r12 hm) ?_
  refine w_iln l_219_6 rfl ?_
  refine w_ia q ((oo : Nat) : Int) l_219_7 (oModel_s12 hm) rfl (by omega) c1 ?_
  refine w_is l_219_8 ⟨Nat.le_of_ble_eq_true rfl, rfl⟩ ?_
  rw [c6 k hk]
  exact lp_219 hm H hk hq8 c3 hz (cd q) oo [] I _ rfl c5 (Nat.zero_le _) trivial c4 c2 (fr.rf _ _ _) rfl

theorem mx_170 : mxl 170 = 2 := by decide +kernel
theorem mt_170 : mtc 170 = 10 := by decide +kernel
theorem rk_170 (as : List AV) : rkA 170 as = 0 := rfl
theorem l_170_0 : look 170 0 = some (.iload_n 0, 1, 0, 0, 0, 0) := by decide +kernel
theorem l_170_1 : look 170 1 = some (.iload_n 1, 1, 0, 0, 0, 0) := by decide +kernel
theorem l_170_2 : look 170 2 = some (.ishr, 1, 0, 0, 0, 0) := by decide +kernel
theorem l_170_3 : look 170 3 = some (.iconst 1, 1, 0, 0, 0, 0) := by decide +kernel
theorem l_170_4 : look 170 4 = some (.iand, 1, 0, 0, 0, 0) := by decide +kernel
theorem l_170_5 : look 170 5 = some (.iconst 1, 1, 0, 0, 0, 0) := by decide +kernel
theorem l_170_6 : look 170 6 = some (.if_icmp .ne 7, 3, 0, 0, 0, 0) := by decide +kernel
theorem l_170_9 : look 170 9 = some (.iconst 1, 1, 0, 0, 0, 0) := by decide +kernel
theorem l_170_10 : look 170 10 = some (.goto 4, 3, 0, 0, 0, 0) := by decide +kernel
theorem l_170_13 : look 170 13 = some (.iconst 0, 1, 0, 0, 0, 0) := by decide +kernel
theorem l_170_14 : look 170 14 = some (.ireturn, 1, 0, 0, 1, 0) := by decide +kernel


theorem s_170 {d q : Nat} (hd : d < 256) (hq : q < 8) : CL xs 170 [vi ((d : Nat) : Int), vi ((q : Nat) : Int)] (S, I, T, cc, zz) (FN (some (vi (b2i (decide (bt d q ≠ 0))))) (S, I, T, cc, zz)) := by
  refine CL_start (r := 0) (ls := [vi ((d : Nat) : Int), vi ((q : Nat) : Int)]) (rk_170 _) rfl ?_
  refine w_iln l_170_0 rfl ?_
  refine w_iln l_170_1 rfl ?_
  refine w_shr (((d / 2 ^ q) : Nat) : Int) l_170_2 (shr8 d hd q hq) ?_
  refine w_ic l_170_3 (by decide) ?_
  refine w_and (((bt d q) : Nat) : Int) l_170_4 (and1 _) ?_
  have hb2 := bt_lt d q
  refine w_ic l_170_5 (by decide) ?_
  refine w_cne 13 l_170_6 (by decide) (fun h1 => ?_) (fun h1 => ?_)
  · skip
    refine w_ic l_170_13 (by decide) ?_
    refine w_ir l_170_14 (by decide) ?_
    first
      | (rw [show decide (bt d q ≠ 0) = true from decide_eq_true (by omega)]; exact ⟨rfl, rfl⟩)
      | (rw [show decide (bt d q ≠ 0) = false from decide_eq_false (by omega)]; exact ⟨rfl, rfl⟩)
  · skip
    refine w_ic l_170_9 (by decide) ?_
    refine w_go 14 l_170_10 (by decide) ?_
    refine w_ir l_170_14 (by decide) ?_
    first
      | (rw [show decide (bt d q ≠ 0) = true from decide_eq_true (by omega)]; exact ⟨rfl, rfl⟩)
      | (rw [show decide (bt d q ≠ 0) = false from decide_eq_false (by omega)]; exact ⟨rfl, rfl⟩)

def ruleD (h : Hi) (l : Li) (k : Nat) : Option Nat := match ruleA h l k with
  | some x => if lDrop l x then some x else none
  | none => none

theorem mx_220 : mxl 220 = 3 := by decide +kernel
theorem mt_220 : mtc 220 = 10 := by decide +kernel
theorem rk_220 (as : List AV) : rkA 220 as = 4 := rfl
theorem l_220_0 : look 220 0 = some (.iconst 0, 1, 0, 0, 0, 0) := by decide +kernel
theorem l_220_1 : look 220 1 = some (.istore_n 2, 1, 0, 0, 0, 0) := by decide +kernel
theorem l_220_2 : look 220 2 = some (.iload_n 2, 1, 0, 0, 0, 0) := by decide +kernel
theorem l_220_3 : look 220 3 = some (.aload_n 0, 1, 0, 0, 0, 0) := by decide +kernel
theorem l_220_4 : look 220 4 = some (.getfield 327, 3, 10, 10, 0, 1511) := by decide +kernel
theorem l_220_7 : look 220 7 = some (.if_icmp .ge 44, 3, 0, 0, 0, 0) := by decide +kernel
theorem l_220_10 : look 220 10 = some (.aload_n 0, 1, 0, 0, 0, 0) := by decide +kernel
theorem l_220_11 : look 220 11 = some (.getfield 351, 3, 10, 53, 0, 1554) := by decide +kernel
theorem l_220_14 : look 220 14 = some (.iload_n 2, 1, 0, 0, 0, 0) := by decide +kernel
theorem l_220_15 : look 220 15 = some (.invokestatic 412, 3, 170, 2, 1, 1933) := by decide +kernel
theorem l_220_18 : look 220 18 = some (.ifCond .ne 27, 3, 0, 0, 0, 0) := by decide +kernel
theorem l_220_21 : look 220 21 = some (.aload_n 0, 1, 0, 0, 0, 0) := by decide +kernel
theorem l_220_22 : look 220 22 = some (.iload_n 2, 1, 0, 0, 0, 0) := by decide +kernel
theorem l_220_23 : look 220 23 = some (.iload_n 1, 1, 0, 0, 0, 0) := by decide +kernel
theorem l_220_24 : look 220 24 = some (.invokevirtual 415, 3, 219, 3, 0, 1936) := by decide +kernel
theorem l_220_27 : look 220 27 = some (.ifCond .eq 18, 3, 0, 0, 0, 0) := by decide +kernel
theorem l_220_30 : look 220 30 = some (.aload_n 0, 1, 0, 0, 0, 0) := by decide +kernel
theorem l_220_31 : look 220 31 = some (.getfield 36, 3, 10, 11, 2, 1512) := by decide +kernel
theorem l_220_34 : look 220 34 = some (.iload_n 2, 1, 0, 0, 0, 0) := by decide +kernel
theorem l_220_35 : look 220 35 = some (.baload, 1, 0, 0, 0, 0) := by decide +kernel
theorem l_220_36 : look 220 36 = some (.ifCond .eq 7, 3, 0, 0, 0, 0) := by decide +kernel
theorem l_220_39 : look 220 39 = some (.iload_n 2, 1, 0, 0, 0, 0) := by decide +kernel
theorem l_220_40 : look 220 40 = some (.goto 4, 3, 0, 0, 0, 0) := by decide +kernel
theorem l_220_43 : look 220 43 = some (.iconst (-1), 1, 0, 0, 0, 0) := by decide +kernel
theorem l_220_44 : look 220 44 = some (.ireturn, 1, 0, 0, 0, 0) := by decide +kernel
theorem l_220_45 : look 220 45 = some (.iinc 2 1, 3, 0, 0, 0, 0) := by decide +kernel
theorem l_220_48 : look 220 48 = some (.goto (-46), 3, 0, 0, 0, 0) := by decide +kernel
theorem l_220_51 : look 220 51 = some (.iconst (-1), 1, 0, 0, 0, 0) := by decide +kernel
theorem l_220_52 : look 220 52 = some (.ireturn, 1, 0, 0, 0, 0) := by decide +kernel

theorem lp_220 {I0 : Ix} (hm : oModel S T s) {e ne np k : Nat} {a : Nat → Nat} {cd : Nat → Cd} (E : ME I0 s e h l a ne np) (C : nC I0 s h l a np cd) (hk : k < np) (hz : I0 (s + 10) (7 * a k + 1) = ((hPort h (a k) : Nat) : Int)) : ∀ d q I, q + d = lRules l → (∀ j, j < q → ¬ (lIdle l j = false ∧ hHol h k j = true)) → fr I0 I (s + 37) (s + 37) →
    WP xs 220 4 2 [vr s, vi ((k : Nat) : Int), vi ((q : Nat) : Int)] [] (S, I, T, cc, zz) (RP S T cc zz (fun v I' => v = some (vi (ruleI (ruleD h l k))) ∧ fr I0 I' (s + 37) (s + 37))) := by
  intro d
  have hl8 := E.okl.2.1
  induction d with
  | zero =>
    intro q I hq hno f
    refine w_iln l_220_2 rfl ?_
    refine w_aln l_220_3 rfl ?_
    refine w_gi (((lRules l) : Nat) : Int) l_220_4 (oModel_sh hm) ((E.fr (f37 f).1).L.2.2.2.2.2.1) ?_
    refine w_cge 51 l_220_7 (by decide) (fun _ => ?_) (fun hx => absurd hx (by omega))
    refine w_ic l_220_51 (by decide) ?_
    refine w_ir l_220_52 (Or.inl rfl) ?_
    have hr : ruleA h l k = none := ruleA_n fun j hj => hno j (by omega)
    rw [show ruleD h l k = none from by unfold ruleD; rw [hr]]
    exact ⟨_, _, rfl, rfl, rfl, f⟩
  | succ d ih =>
    intro q I hq hno f
    refine w_iln l_220_2 rfl ?_
    refine w_aln l_220_3 rfl ?_
    refine w_gi (((lRules l) : Nat) : Int) l_220_4 (oModel_sh hm) ((E.fr (f37 f).1).L.2.2.2.2.2.1) ?_
    refine w_cge 51 l_220_7 (by decide) (fun hx => absurd hx (by omega)) (fun _ => ?_)
    obtain ⟨d, hd0, hd1, hd2⟩ := (E.fr (f37 f).1).L.2.2.2.2.2.2.2
    have hd3 := hd2 q (by omega)
    refine w_aln l_220_10 rfl ?_
    refine w_gi ((d : Nat) : Int) l_220_11 (oModel_sh hm) hd0 ?_
    refine w_iln l_220_14 rfl ?_
    refine q_st [vi ((d : Nat) : Int), vi ((q : Nat) : Int)] [] l_220_15 (by decide) rfl rfl (Nat.le_of_ble_eq_true rfl) (by rw [mx_170]; exact Nat.le_of_ble_eq_true rfl) (by rw [rk_170]; decide) (s_170 (xs := xs) (S := S) (T := T) (cc := cc) (zz := zz) (I := I) hd1 (q := q) (by omega)) ?_
    refine w_bne 45 l_220_18 (by decide) (fun h1 => ?_) (fun h1 => ?_)
    · skip
      skip
      refine w_inc ((q + 1 : Nat) : Int) l_220_45 rfl rfl (by unfold wr; omega) ?_
      refine w_go 2 l_220_48 (by decide) ?_
      have hi1 : lIdle l q = true := hd3.mp (of_decide_eq_true h1)
      refine ih (q + 1) I (by omega) ?_ f
      intro j hj q9
      by_cases hjq : j = q
      · subst hjq
        rw [hi1] at q9; exact absurd q9.1 (by decide)
      · exact hno j (by omega) q9
    · skip
      have hi2 : lIdle l q = false := by
        cases h9 : lIdle l q
        · rfl
        · exact absurd (hd3.mpr h9) (of_decide_eq_false h1)
      refine w_aln l_220_21 rfl ?_
      refine w_iln l_220_22 rfl ?_
      refine w_iln l_220_23 rfl ?_
      refine p_iv [vi ((q : Nat) : Int), vi ((k : Nat) : Int)] [] l_220_24 rfl rfl (Nat.le_of_ble_eq_true rfl) (by rw [mx_219]; exact Nat.le_of_ble_eq_true rfl) (by rw [mt_219]; exact oModel_sh hm) (by rw [mt_219]; decide) (by rw [rk_219]; decide) (s_219 hm (E.H.fr (f37 f).1) (C.fr (f37 f).1) E.okl.2.1 hk (by omega) (by rw [f (s + 10) (by omega)]; exact hz)) (fun v I1 hv => ?_)
      obtain ⟨rfl, f1⟩ := hv
      refine w_beq 45 l_220_27 (by decide) (fun h2 => ?_) (fun h2 => ?_)
      · skip
        skip
        refine w_inc ((q + 1 : Nat) : Int) l_220_45 rfl rfl (by unfold wr; omega) ?_
        refine w_go 2 l_220_48 (by decide) ?_
        refine ih (q + 1) I1 (by omega) ?_ (f.tr f1)
        intro j hj q9
        by_cases hjq : j = q
        · subst hjq
          rw [h2] at q9; exact absurd q9.2 (by decide)
        · exact hno j (by omega) q9
      · skip
        refine w_aln l_220_30 rfl ?_
        refine w_gr l_220_31 (oModel_sh hm) (oModel_r11 hm) ?_
        refine w_iln l_220_34 rfl ?_
        refine w_ba q (b2i (lDrop l q)) l_220_35 (Or.inr (oModel_s11 hm)) rfl (by omega) ((E.fr (f37 (f.tr f1)).1).L.2.2.2.2.2.2.1 q (by omega)) ?_
        refine w_beq 43 l_220_36 (by decide) (fun h3 => ?_) (fun h3 => ?_)
        · skip
          refine w_ic l_220_43 (by decide) ?_
          refine w_ir l_220_44 (Or.inl rfl) ?_
          have hr : ruleA h l k = some q := ruleA_s (by omega) hi2 h2 hno
          rw [show ruleD h l k = none by unfold ruleD; rw [hr]; simp only; rw [if_neg (by rw [h3]; decide)]]
          exact ⟨_, _, rfl, rfl, rfl, f.tr f1⟩
        · skip
          refine w_iln l_220_39 rfl ?_
          refine w_go 44 l_220_40 (by decide) ?_
          refine w_ir l_220_44 (Or.inl rfl) ?_
          have hr : ruleA h l k = some q := ruleA_s (by omega) hi2 h2 hno
          rw [show ruleD h l k = some q by unfold ruleD; rw [hr]; simp only; rw [if_pos h3]]
          exact ⟨_, _, rfl, rfl, rfl, f.tr f1⟩
theorem s_220 (hm : oModel S T s) {e ne np k : Nat} {a : Nat → Nat} {cd : Nat → Cd} (E : ME I s e h l a ne np) (C : nC I s h l a np cd) (hk : k < np) (hz : I (s + 10) (7 * a k + 1) = ((hPort h (a k) : Nat) : Int)) : CL xs 220 [vr s, vi ((k : Nat) : Int)] (S, I, T, cc, zz) (RP S T cc zz (fun v I' => v = some (vi (ruleI (ruleD h l k))) ∧ fr I I' (s + 37) (s + 37))) := by
  refine CL_start (r := 4) (ls := [vr s, vi ((k : Nat) : Int), vs 2]) (rk_220 _) rfl ?_
  refine w_ic l_220_0 (by decide) ?_
  refine w_isn l_220_1 ⟨Nat.le_of_ble_eq_true rfl, rfl⟩ ?_
  exact lp_220 hm E C hk hz _ 0 I (Nat.zero_add _) (fun j hj => absurd hj (Nat.not_lt_zero j)) (fr.rf _ _ _)

end REJ
