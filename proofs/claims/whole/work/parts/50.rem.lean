/-! the reference: a tick -/
section REM
variable {xs : List Int} {S : List (Nat × Nat)} {T : Nat → Nat → Nat} {cc zz s : Nat} {h : Hi} {l : Li} {r : Ra} {I I' : Ix}

theorem mx_227 : mxl 227 = 3 := by decide +kernel
theorem mt_227 : mtc 227 = 10 := by decide +kernel
theorem rk_227 (as : List AV) : rkA 227 as = 4 := rfl
theorem l_227_0 : look 227 0 = some (.iconst 0, 1, 0, 0, 0, 0) := by decide +kernel
theorem l_227_1 : look 227 1 = some (.istore_n 1, 1, 0, 0, 0, 0) := by decide +kernel
theorem l_227_2 : look 227 2 = some (.iload_n 1, 1, 0, 0, 0, 0) := by decide +kernel
theorem l_227_3 : look 227 3 = some (.aload_n 0, 1, 0, 0, 0, 0) := by decide +kernel
theorem l_227_4 : look 227 4 = some (.getfield 324, 3, 10, 1, 0, 1502) := by decide +kernel
theorem l_227_7 : look 227 7 = some (.if_icmp .ge 85, 3, 0, 0, 0, 0) := by decide +kernel
theorem l_227_10 : look 227 10 = some (.iconst 0, 1, 0, 0, 0, 0) := by decide +kernel
theorem l_227_11 : look 227 11 = some (.istore_n 2, 1, 0, 0, 0, 0) := by decide +kernel
theorem l_227_12 : look 227 12 = some (.iload_n 2, 1, 0, 0, 0, 0) := by decide +kernel
theorem l_227_13 : look 227 13 = some (.aload_n 0, 1, 0, 0, 0, 0) := by decide +kernel
theorem l_227_14 : look 227 14 = some (.getfield 17, 3, 10, 4, 2, 1505) := by decide +kernel
theorem l_227_17 : look 227 17 = some (.iload_n 1, 1, 0, 0, 0, 0) := by decide +kernel
theorem l_227_18 : look 227 18 = some (.iaload, 1, 0, 0, 0, 0) := by decide +kernel
theorem l_227_19 : look 227 19 = some (.if_icmp .ge 67, 3, 0, 0, 0, 0) := by decide +kernel
theorem l_227_22 : look 227 22 = some (.aload_n 0, 1, 0, 0, 0, 0) := by decide +kernel
theorem l_227_23 : look 227 23 = some (.getfield 113, 3, 10, 56, 2, 1557) := by decide +kernel
theorem l_227_26 : look 227 26 = some (.iload_n 1, 1, 0, 0, 0, 0) := by decide +kernel
theorem l_227_27 : look 227 27 = some (.baload, 1, 0, 0, 0, 0) := by decide +kernel
theorem l_227_28 : look 227 28 = some (.ifCond .eq 58, 3, 0, 0, 0, 0) := by decide +kernel
theorem l_227_31 : look 227 31 = some (.aload_n 0, 1, 0, 0, 0, 0) := by decide +kernel
theorem l_227_32 : look 227 32 = some (.getfield 122, 3, 10, 59, 2, 1560) := by decide +kernel
theorem l_227_35 : look 227 35 = some (.iload_n 1, 1, 0, 0, 0, 0) := by decide +kernel
theorem l_227_36 : look 227 36 = some (.iaload, 1, 0, 0, 0, 0) := by decide +kernel
theorem l_227_37 : look 227 37 = some (.ifCond .le 49, 3, 0, 0, 0, 0) := by decide +kernel
theorem l_227_40 : look 227 40 = some (.aload_n 0, 1, 0, 0, 0, 0) := by decide +kernel
theorem l_227_41 : look 227 41 = some (.getfield 134, 3, 10, 63, 2, 1564) := by decide +kernel
theorem l_227_44 : look 227 44 = some (.iconst 4, 1, 0, 0, 0, 0) := by decide +kernel
theorem l_227_45 : look 227 45 = some (.aload_n 0, 1, 0, 0, 0, 0) := by decide +kernel
theorem l_227_46 : look 227 46 = some (.iload_n 1, 1, 0, 0, 0, 0) := by decide +kernel
theorem l_227_47 : look 227 47 = some (.aload_n 0, 1, 0, 0, 0, 0) := by decide +kernel
theorem l_227_48 : look 227 48 = some (.iload_n 1, 1, 0, 0, 0, 0) := by decide +kernel
theorem l_227_49 : look 227 49 = some (.invokevirtual 440, 3, 226, 2, 0, 1988) := by decide +kernel
theorem l_227_52 : look 227 52 = some (.invokevirtual 402, 3, 212, 3, 0, 1980) := by decide +kernel
theorem l_227_55 : look 227 55 = some (.imul, 1, 0, 0, 0, 0) := by decide +kernel
theorem l_227_56 : look 227 56 = some (.iload_n 1, 1, 0, 0, 0, 0) := by decide +kernel
theorem l_227_57 : look 227 57 = some (.iadd, 1, 0, 0, 0, 0) := by decide +kernel
theorem l_227_58 : look 227 58 = some (.iconst 2, 1, 0, 0, 0, 0) := by decide +kernel
theorem l_227_59 : look 227 59 = some (.iastore, 1, 0, 0, 0, 0) := by decide +kernel
theorem l_227_60 : look 227 60 = some (.aload_n 0, 1, 0, 0, 0, 0) := by decide +kernel
theorem l_227_61 : look 227 61 = some (.getfield 137, 3, 10, 64, 2, 1565) := by decide +kernel
theorem l_227_64 : look 227 64 = some (.iload_n 1, 1, 0, 0, 0, 0) := by decide +kernel
theorem l_227_65 : look 227 65 = some (.dup2, 1, 0, 0, 0, 0) := by decide +kernel
theorem l_227_66 : look 227 66 = some (.iaload, 1, 0, 0, 0, 0) := by decide +kernel
theorem l_227_67 : look 227 67 = some (.iconst 1, 1, 0, 0, 0, 0) := by decide +kernel
theorem l_227_68 : look 227 68 = some (.iadd, 1, 0, 0, 0, 0) := by decide +kernel
theorem l_227_69 : look 227 69 = some (.iastore, 1, 0, 0, 0, 0) := by decide +kernel
theorem l_227_70 : look 227 70 = some (.aload_n 0, 1, 0, 0, 0, 0) := by decide +kernel
theorem l_227_71 : look 227 71 = some (.dup, 1, 0, 0, 0, 0) := by decide +kernel
theorem l_227_72 : look 227 72 = some (.getfield 384, 3, 10, 69, 0, 1570) := by decide +kernel
theorem l_227_75 : look 227 75 = some (.iconst 1, 1, 0, 0, 0, 0) := by decide +kernel
theorem l_227_76 : look 227 76 = some (.iadd, 1, 0, 0, 0, 0) := by decide +kernel
theorem l_227_77 : look 227 77 = some (.putfield 384, 3, 10, 69, 0, 1570) := by decide +kernel
theorem l_227_80 : look 227 80 = some (.iinc 2 1, 3, 0, 0, 0, 0) := by decide +kernel
theorem l_227_83 : look 227 83 = some (.goto (-71), 3, 0, 0, 0, 0) := by decide +kernel
theorem l_227_86 : look 227 86 = some (.iinc 1 1, 3, 0, 0, 0, 0) := by decide +kernel
theorem l_227_89 : look 227 89 = some (.goto (-87), 3, 0, 0, 0, 0) := by decide +kernel
theorem l_227_92 : look 227 92 = some (.iconst 0, 1, 0, 0, 0, 0) := by decide +kernel
theorem l_227_93 : look 227 93 = some (.istore_n 1, 1, 0, 0, 0, 0) := by decide +kernel
theorem l_227_94 : look 227 94 = some (.iload_n 1, 1, 0, 0, 0, 0) := by decide +kernel
theorem l_227_95 : look 227 95 = some (.aload_n 0, 1, 0, 0, 0, 0) := by decide +kernel
theorem l_227_96 : look 227 96 = some (.getfield 324, 3, 10, 1, 0, 1502) := by decide +kernel
theorem l_227_99 : look 227 99 = some (.if_icmp .ge 67, 3, 0, 0, 0, 0) := by decide +kernel
theorem l_227_102 : look 227 102 = some (.iconst 0, 1, 0, 0, 0, 0) := by decide +kernel
theorem l_227_103 : look 227 103 = some (.istore_n 2, 1, 0, 0, 0, 0) := by decide +kernel
theorem l_227_104 : look 227 104 = some (.iload_n 2, 1, 0, 0, 0, 0) := by decide +kernel
theorem l_227_105 : look 227 105 = some (.aload_n 0, 1, 0, 0, 0, 0) := by decide +kernel
theorem l_227_106 : look 227 106 = some (.getfield 122, 3, 10, 59, 2, 1560) := by decide +kernel
theorem l_227_109 : look 227 109 = some (.iload_n 1, 1, 0, 0, 0, 0) := by decide +kernel
theorem l_227_110 : look 227 110 = some (.iaload, 1, 0, 0, 0, 0) := by decide +kernel
theorem l_227_111 : look 227 111 = some (.if_icmp .ge 49, 3, 0, 0, 0, 0) := by decide +kernel
theorem l_227_114 : look 227 114 = some (.aload_n 0, 1, 0, 0, 0, 0) := by decide +kernel
theorem l_227_115 : look 227 115 = some (.getfield 375, 3, 10, 55, 0, 1556) := by decide +kernel
theorem l_227_118 : look 227 118 = some (.aload_n 0, 1, 0, 0, 0, 0) := by decide +kernel
theorem l_227_119 : look 227 119 = some (.getfield 119, 3, 10, 58, 2, 1559) := by decide +kernel
theorem l_227_122 : look 227 122 = some (.bipush 100, 2, 0, 0, 0, 0) := by decide +kernel
theorem l_227_124 : look 227 124 = some (.iload_n 1, 1, 0, 0, 0, 0) := by decide +kernel
theorem l_227_125 : look 227 125 = some (.imul, 1, 0, 0, 0, 0) := by decide +kernel
theorem l_227_126 : look 227 126 = some (.iload_n 2, 1, 0, 0, 0, 0) := by decide +kernel
theorem l_227_127 : look 227 127 = some (.iadd, 1, 0, 0, 0, 0) := by decide +kernel
theorem l_227_128 : look 227 128 = some (.iaload, 1, 0, 0, 0, 0) := by decide +kernel
theorem l_227_129 : look 227 129 = some (.isub, 1, 0, 0, 0, 0) := by decide +kernel
theorem l_227_130 : look 227 130 = some (.aload_n 0, 1, 0, 0, 0, 0) := by decide +kernel
theorem l_227_131 : look 227 131 = some (.getfield 345, 3, 10, 51, 0, 1552) := by decide +kernel
theorem l_227_134 : look 227 134 = some (.if_icmp .lt 20, 3, 0, 0, 0, 0) := by decide +kernel
theorem l_227_137 : look 227 137 = some (.aload_n 0, 1, 0, 0, 0, 0) := by decide +kernel
theorem l_227_138 : look 227 138 = some (.aload_n 0, 1, 0, 0, 0, 0) := by decide +kernel
theorem l_227_139 : look 227 139 = some (.iload_n 1, 1, 0, 0, 0, 0) := by decide +kernel
theorem l_227_140 : look 227 140 = some (.iload_n 2, 1, 0, 0, 0, 0) := by decide +kernel
theorem l_227_141 : look 227 141 = some (.invokevirtual 402, 3, 212, 3, 0, 1980) := by decide +kernel
theorem l_227_144 : look 227 144 = some (.iload_n 1, 1, 0, 0, 0, 0) := by decide +kernel
theorem l_227_145 : look 227 145 = some (.bipush 9, 2, 0, 0, 0, 0) := by decide +kernel
theorem l_227_147 : look 227 147 = some (.iconst (-1), 1, 0, 0, 0, 0) := by decide +kernel
theorem l_227_148 : look 227 148 = some (.invokevirtual 405, 3, 211, 5, 0, 1925) := by decide +kernel
theorem l_227_151 : look 227 151 = some (.goto (-47), 3, 0, 0, 0, 0) := by decide +kernel
theorem l_227_154 : look 227 154 = some (.iinc 2 1, 3, 0, 0, 0, 0) := by decide +kernel
theorem l_227_157 : look 227 157 = some (.goto (-53), 3, 0, 0, 0, 0) := by decide +kernel
theorem l_227_160 : look 227 160 = some (.iinc 1 1, 3, 0, 0, 0, 0) := by decide +kernel
theorem l_227_163 : look 227 163 = some (.goto (-69), 3, 0, 0, 0, 0) := by decide +kernel
theorem l_227_166 : look 227 166 = some (.iconst 0, 1, 0, 0, 0, 0) := by decide +kernel
theorem l_227_167 : look 227 167 = some (.istore_n 1, 1, 0, 0, 0, 0) := by decide +kernel
theorem l_227_168 : look 227 168 = some (.iload_n 1, 1, 0, 0, 0, 0) := by decide +kernel
theorem l_227_169 : look 227 169 = some (.aload_n 0, 1, 0, 0, 0, 0) := by decide +kernel
theorem l_227_170 : look 227 170 = some (.getfield 324, 3, 10, 1, 0, 1502) := by decide +kernel
theorem l_227_173 : look 227 173 = some (.if_icmp .ge 63, 3, 0, 0, 0, 0) := by decide +kernel
theorem l_227_176 : look 227 176 = some (.aload_n 0, 1, 0, 0, 0, 0) := by decide +kernel
theorem l_227_177 : look 227 177 = some (.getfield 125, 3, 10, 60, 2, 1561) := by decide +kernel
theorem l_227_180 : look 227 180 = some (.iload_n 1, 1, 0, 0, 0, 0) := by decide +kernel
theorem l_227_181 : look 227 181 = some (.iaload, 1, 0, 0, 0, 0) := by decide +kernel
theorem l_227_182 : look 227 182 = some (.aload_n 0, 1, 0, 0, 0, 0) := by decide +kernel
theorem l_227_183 : look 227 183 = some (.getfield 20, 3, 10, 5, 2, 1506) := by decide +kernel
theorem l_227_186 : look 227 186 = some (.iload_n 1, 1, 0, 0, 0, 0) := by decide +kernel
theorem l_227_187 : look 227 187 = some (.iaload, 1, 0, 0, 0, 0) := by decide +kernel
theorem l_227_188 : look 227 188 = some (.iadd, 1, 0, 0, 0, 0) := by decide +kernel
theorem l_227_189 : look 227 189 = some (.istore_n 2, 1, 0, 0, 0, 0) := by decide +kernel
theorem l_227_190 : look 227 190 = some (.aload_n 0, 1, 0, 0, 0, 0) := by decide +kernel
theorem l_227_191 : look 227 191 = some (.getfield 125, 3, 10, 60, 2, 1561) := by decide +kernel
theorem l_227_194 : look 227 194 = some (.iload_n 1, 1, 0, 0, 0, 0) := by decide +kernel
theorem l_227_195 : look 227 195 = some (.aload_n 0, 1, 0, 0, 0, 0) := by decide +kernel
theorem l_227_196 : look 227 196 = some (.getfield 23, 3, 10, 6, 2, 1507) := by decide +kernel
theorem l_227_199 : look 227 199 = some (.iload_n 1, 1, 0, 0, 0, 0) := by decide +kernel
theorem l_227_200 : look 227 200 = some (.iaload, 1, 0, 0, 0, 0) := by decide +kernel
theorem l_227_201 : look 227 201 = some (.iconst (-1), 1, 0, 0, 0, 0) := by decide +kernel
theorem l_227_202 : look 227 202 = some (.if_icmp .ne 7, 3, 0, 0, 0, 0) := by decide +kernel
theorem l_227_205 : look 227 205 = some (.iconst (-1), 1, 0, 0, 0, 0) := by decide +kernel
theorem l_227_206 : look 227 206 = some (.goto 23, 3, 0, 0, 0, 0) := by decide +kernel
theorem l_227_209 : look 227 209 = some (.iload_n 2, 1, 0, 0, 0, 0) := by decide +kernel
theorem l_227_210 : look 227 210 = some (.aload_n 0, 1, 0, 0, 0, 0) := by decide +kernel
theorem l_227_211 : look 227 211 = some (.getfield 23, 3, 10, 6, 2, 1507) := by decide +kernel
theorem l_227_214 : look 227 214 = some (.iload_n 1, 1, 0, 0, 0, 0) := by decide +kernel
theorem l_227_215 : look 227 215 = some (.iaload, 1, 0, 0, 0, 0) := by decide +kernel
theorem l_227_216 : look 227 216 = some (.if_icmp .le 12, 3, 0, 0, 0, 0) := by decide +kernel
theorem l_227_219 : look 227 219 = some (.aload_n 0, 1, 0, 0, 0, 0) := by decide +kernel
theorem l_227_220 : look 227 220 = some (.getfield 23, 3, 10, 6, 2, 1507) := by decide +kernel
theorem l_227_223 : look 227 223 = some (.iload_n 1, 1, 0, 0, 0, 0) := by decide +kernel
theorem l_227_224 : look 227 224 = some (.iaload, 1, 0, 0, 0, 0) := by decide +kernel
theorem l_227_225 : look 227 225 = some (.goto 4, 3, 0, 0, 0, 0) := by decide +kernel
theorem l_227_228 : look 227 228 = some (.iload_n 2, 1, 0, 0, 0, 0) := by decide +kernel
theorem l_227_229 : look 227 229 = some (.iastore, 1, 0, 0, 0, 0) := by decide +kernel
theorem l_227_230 : look 227 230 = some (.iinc 1 1, 3, 0, 0, 0, 0) := by decide +kernel
theorem l_227_233 : look 227 233 = some (.goto (-65), 3, 0, 0, 0, 0) := by decide +kernel
theorem l_227_236 : look 227 236 = some (.aload_n 0, 1, 0, 0, 0, 0) := by decide +kernel
theorem l_227_237 : look 227 237 = some (.dup, 1, 0, 0, 0, 0) := by decide +kernel
theorem l_227_238 : look 227 238 = some (.getfield 375, 3, 10, 55, 0, 1556) := by decide +kernel
theorem l_227_241 : look 227 241 = some (.iconst 1, 1, 0, 0, 0, 0) := by decide +kernel
theorem l_227_242 : look 227 242 = some (.iadd, 1, 0, 0, 0, 0) := by decide +kernel
theorem l_227_243 : look 227 243 = some (.putfield 375, 3, 10, 55, 0, 1556) := by decide +kernel
theorem l_227_246 : look 227 246 = some (.return_, 1, 0, 0, 0, 0) := by decide +kernel

theorem nS_del (hR : nR I s l r) {p k : Nat} (hp : p < 4) (hk : k < 120) : nR (up (up (up I (s + 34) (4 * k + p) 2) (s + 35) p ((r.2.2.2 p + 1 : Nat) : Int)) s 69 (wr (I s 69 + 1))) s l (r.1, addDel r.2 k p) ∧ mfc I (up (up (up I (s + 34) (4 * k + p) 2) (s + 35) p ((r.2.2.2 p + 1 : Nat) : Int)) s 69 (wr (I s 69 + 1))) s 0 1 := by
  refine ⟨⟨?_, ?_⟩, ?_⟩
  · exact hR.1.fr (by rw [up_nj (by decide), up_no (by omega), up_no (by omega)]) fun y h1 h2 z => by rw [up_no (by omega), up_no (by omega), up_no (by omega)]
  · obtain ⟨h1, h2, h3, h4⟩ := hR.2
    refine ⟨?_, fun j hj => ?_, fun k' hk' t ht => ?_, fun p' hp' => ?_⟩
    · rw [up_nj (by decide), up_no (by omega), up_no (by omega)]; exact h1
    · simp only [up_no (show s + 36 ≠ s by omega), up_no (show s + 36 ≠ s + 35 by omega), up_no (show s + 36 ≠ s + 34 by omega)]
      exact h2 j hj
    · show _ = ((if k' = k ∧ t + 1 = p + 1 then 2 else r.2.2.1 k' (t + 1) : Nat) : Int)
      rw [up_no (by omega), up_no (by omega)]
      by_cases h9 : k' = k ∧ t = p
      · rw [if_pos ⟨h9.1, by omega⟩, h9.1, h9.2, up_eq]; rfl
      · rw [if_neg (by omega), up_nj (by omega)]
        exact h3 k' hk' t ht
    · show _ = ((if p' = p then r.2.2.2 p + 1 else r.2.2.2 p' : Nat) : Int)
      rw [up_no (by omega)]
      by_cases h9 : p' = p
      · rw [if_pos h9, h9, up_eq]
      · rw [if_neg h9, up_nj h9, up_no (by omega)]
        exact h4 p' hp'
  · refine ⟨((mfr.rf I s).u2 (by omega) |>.u2 (by omega)).u1 (by omega), ?_, ?_⟩
    · rw [up_nj (by decide), up_no (by omega), up_no (by omega)]; exact cg.rf _
    · rw [up_eq]; exact cg.wr

theorem lp_227i {I0 : Ix} {Q : Res → Mem → Prop} (hm : oModel S T s) {e ne np u p : Nat} {a : Nat → Nat} (E : ME I0 s e h l a ne np) (hp : p < lPorts l) (hu : u ≤ 360) {R : Ra} : ∀ (d n : Nat) (I : Ix) (r : Ra) (D : Nat), d = min (lSpeed l p - n) (sQ r.1 p).length → sUp r.1 p = true → nR I s l r → okR h l np u r → mfc I0 I s 0 ((D : Nat) : Int) →
    (∀ J n', nR J s l R → mfc I0 J s 0 ((D + d : Nat) : Int) → WP xs 227 4 86 [vr s, vi ((p : Nat) : Int), vi n'] [] (S, J, T, cc, zz) Q) → D + d ≤ 5000 → delA h p d r = R →
    WP xs 227 4 12 [vr s, vi ((p : Nat) : Int), vi ((n : Nat) : Int)] [] (S, I, T, cc, zz) Q := by
  intro d
  induction d using Nat.strongRecOn with
  | _ d ih =>
    intro n I r D hd hup hR hok f K hD hX
    have hp4 := E.p4 hp
    have hll := ok_len hok E.ok p
    have hsp := (E.okl.2.2.1 p hp).2
    refine w_iln l_227_12 rfl ?_
    refine w_aln l_227_13 rfl ?_
    refine w_gr l_227_14 (oModel_sh hm) (oModel_r4 hm) ?_
    refine w_iln l_227_17 rfl ?_
    refine w_ia p (((lSpeed l p) : Nat) : Int) l_227_18 (oModel_s4 hm) rfl (by omega) (((E.fr f.1).L.2.1 p hp).2.1) ?_
    refine w_cge 86 l_227_19 (by decide) (fun h1 => ?_) (fun h1 => ?_)
    · skip
      have hd0 : d = 0 := by omega
      subst hd0
      refine K I _ (by rw [← hX]; exact hR) ?_
      rw [Nat.add_zero]
      exact f
    · skip
      refine w_aln l_227_22 rfl ?_
      refine w_gr l_227_23 (oModel_sh hm) (oModel_r56 hm) ?_
      refine w_iln l_227_26 rfl ?_
      refine w_ba p (b2i (sUp r.1 p)) l_227_27 (Or.inr (oModel_s56 hm)) rfl (by omega) (hR.1.2.1 p hp4) ?_
      refine w_beq 86 l_227_28 (by decide) (fun hx => absurd hx (by rw [hup]; decide)) (fun _ => ?_)
      refine w_aln l_227_31 rfl ?_
      refine w_gr l_227_32 (oModel_sh hm) (oModel_r59 hm) ?_
      refine w_iln l_227_35 rfl ?_
      refine w_ia p (((sQ r.1 p).length : Nat) : Int) l_227_36 (oModel_s59 hm) rfl (by omega) ((hR.1.2.2.1 p hp4).1) ?_
      refine w_zle 86 l_227_37 (by decide) (fun h2 => ?_) (fun h2 => ?_)
      · skip
        have hd0 : d = 0 := by omega
        subst hd0
        refine K I _ (by rw [← hX]; exact hR) ?_
        rw [Nat.add_zero]
        exact f
      · skip
        have hd2 : ∃ d2, d = d2 + 1 := ⟨d - 1, by omega⟩
        obtain ⟨d2, hd2⟩ := hd2
        have hi := hiK_lt (rkQ h (sQ r.1 p)) (sQ r.1 p).length (by omega)
        have hP120 := E.np (ok_hq hok _ hi)
        have h8 := ok_dl hok hp4
        refine w_aln l_227_40 rfl ?_
        refine w_gr l_227_41 (oModel_sh hm) (oModel_r63 hm) ?_
        refine w_ic l_227_44 (by decide) ?_
        refine w_aln l_227_45 rfl ?_
        refine w_iln l_227_46 rfl ?_
        refine w_aln l_227_47 rfl ?_
        refine w_iln l_227_48 rfl ?_
        refine q_iv [vi ((p : Nat) : Int)] [vi ((p : Nat) : Int), vr s, vi 4, vr (s + 34)] l_227_49 rfl rfl (Nat.le_of_ble_eq_true rfl) (by rw [mx_226]; exact Nat.le_of_ble_eq_true rfl) (by rw [mt_226]; exact oModel_sh hm) (by rw [mt_226]; decide) (by rw [rk_226]; decide) (s_226 hm (E.fr f.1) hR hok hp4 (by omega)) ?_
        refine p_iv [vi ((p : Nat) : Int), vi (((hiK (rkQ h (sQ r.1 p)) (sQ r.1 p).length) : Nat) : Int)] [vi 4, vr (s + 34)] l_227_52 rfl rfl (Nat.le_of_ble_eq_true rfl) (by rw [mx_212]; exact Nat.le_of_ble_eq_true rfl) (by rw [mt_212]; exact oModel_sh hm) (by rw [mt_212]; decide) (by rw [rk_212]; decide) (r_takesOut hm hR hp4 hi) (fun v I1 hv => ?_)
        obtain ⟨rfl, hR1, f1⟩ := hv
        refine w_mul ((4 * (((sQ r.1 p).getD (hiK (rkQ h (sQ r.1 p)) (sQ r.1 p).length) (0, 0)).1) : Nat) : Int) l_227_55 (by unfold wr; omega) ?_
        refine w_iln l_227_56 rfl ?_
        refine w_add ((4 * (((sQ r.1 p).getD (hiK (rkQ h (sQ r.1 p)) (sQ r.1 p).length) (0, 0)).1) + p : Nat) : Int) l_227_57 (by unfold wr; omega) ?_
        refine w_ic l_227_58 (by decide) ?_
        refine w_iS (4 * (((sQ r.1 p).getD (hiK (rkQ h (sQ r.1 p)) (sQ r.1 p).length) (0, 0)).1) + p) l_227_59 (oModel_s63 hm) rfl (by omega) ?_
        refine w_aln l_227_60 rfl ?_
        refine w_gr l_227_61 (oModel_sh hm) (oModel_r64 hm) ?_
        refine w_iln l_227_64 rfl ?_
        refine w_dup2 l_227_65 rfl ?_
        refine w_ia p (((r.2.2.2 p) : Nat) : Int) l_227_66 (oModel_s64 hm) rfl (by omega) ((up_no (by omega)).trans ((hR1.2.2.2.2 p hp4))) ?_
        refine w_ic l_227_67 (by decide) ?_
        refine w_add (((r.2.2.2 p) + 1 : Nat) : Int) l_227_68 (by unfold wr; omega) ?_
        refine w_iS p l_227_69 (oModel_s64 hm) rfl (by omega) ?_
        refine w_aln l_227_70 rfl ?_
        refine w_dup l_227_71 rfl ?_
        refine w_gi (I1 s 69) l_227_72 (oModel_sh hm) ((up_no (by omega)).trans ((up_no (by omega)).trans (rfl))) ?_
        refine w_ic l_227_75 (by decide) ?_
        refine w_add (wr (I1 s 69 + 1)) l_227_76 rfl ?_
        refine w_pi l_227_77 (oModel_sh hm) ?_
        refine w_inc ((n + 1 : Nat) : Int) l_227_80 rfl rfl (by unfold wr; omega) ?_
        refine w_go 12 l_227_83 (by decide) ?_
        have hdd : d = d2 + 1 := by omega
        obtain ⟨g1, g2⟩ := nS_del (p := p) (k := ((sQ r.1 p).getD (hiK (rkQ h (sQ r.1 p)) (sQ r.1 p).length) (0, 0)).1) hR1 hp4 (E.np (ok_hq hok _ hi))
        subst hdd
        refine ih d2 (by omega) (n + 1) _ (setQ r.1 p ((sQ r.1 p).eraseIdx (hiK (rkQ h (sQ r.1 p)) (sQ r.1 p).length)), addDel r.2 ((sQ r.1 p).getD (hiK (rkQ h (sQ r.1 p)) (sQ r.1 p).length) (0, 0)).1 p) (D + 1) ?_ hup g1 (ok_del hok hp4 hi) ?_ ?_ (by omega) hX
        · show d2 = min (lSpeed l p - (n + 1)) (sQ (setQ r.1 p _) p).length
          rw [sQ_set, if_pos rfl, len_e hi]
          omega
        · have e9 := (f.t1 f1).tr g2
          rw [Int.add_zero] at e9
          exact e9
        · intro J n' k1 k2
          refine K J n' k1 ?_
          rw [show D + (d2 + 1) = D + 1 + d2 by omega]
          exact k2
theorem rf3_x {l : Li} {r : Ra} {q x : Nat} (hx : x ≠ q) : tokI l (rf3 l r (q + 1)).1 x = tokI l (rf3 l r q).1 x := by
  unfold tokI
  cases lPol l x with
  | none => rfl
  | some rb =>
    show ((if x < q + 1 then refillA l r.1 x else sTok r.1 x : Nat) : Int) = ((if x < q then refillA l r.1 x else sTok r.1 x : Nat) : Int)
    by_cases h1 : x < q
    · rw [if_pos h1, if_pos (by omega)]
    · rw [if_neg h1, if_neg (by omega)]
theorem nS_time (hR : nR I s l r) {t : Nat} (ht : t ≤ 120) : nR (up I s 55 ((t : Nat) : Int)) s l ((t, r.1.2), r.2) ∧ mfc I (up I s 55 ((t : Nat) : Int)) s 0 0 := by
  refine nR_S hR ?_ fun x y h1 h2 => ?_
  · obtain ⟨h1, h2, h3, h4, h5⟩ := hR.1
    refine ⟨⟨up_eq, ht⟩, fun x hx => by rw [up_no (by omega)]; exact h2 x hx, fun x hx => ?_, fun x hx => by rw [up_no (by omega)]; exact h4 x hx, fun a ha => ?_⟩
    · obtain ⟨g1, g2, g3⟩ := h3 x hx
      exact ⟨by rw [up_no (by omega)]; exact g1, g2, fun k hk => by rw [up_no (by omega), up_no (by omega)]; exact g3 k hk⟩
    · have g := h5 a ha
      unfold nT at g ⊢
      rw [up_no (by omega), up_no (by omega)]
      exact g
  · by_cases hx : x = s
    · rw [hx, up_nj (h1 hx)]
    · rw [up_no hx]
theorem lp_227c {I0 : Ix} (hm : oModel S T s) {e ne np : Nat} {a : Nat → Nat} (E : ME I0 s e h l a ne np) (ht : sTime r.1 < 120) {D : Int} : ∀ d q I v2, q + d = lPorts l → nR I s l (rf3 l r q) → mfc I0 I s 0 D → WP xs 227 4 168 [vr s, vi ((q : Nat) : Int), v2] [] (S, I, T, cc, zz) (RP S T cc zz (fun v I' => v = none ∧ nR I' s l ((sTime r.1 + 1, r.1.2.1, refillA l r.1, r.1.2.2.2), r.2) ∧ mfc I0 I' s 0 D)) := by
  intro d
  have hl4 := E.okl.1
  induction d with
  | zero =>
    intro q I v2 hq hR f
    refine w_iln l_227_168 rfl ?_
    refine w_aln l_227_169 rfl ?_
    refine w_gi (((lPorts l) : Nat) : Int) l_227_170 (oModel_sh hm) ((E.fr f.1).L.1) ?_
    refine w_cge 236 l_227_173 (by decide) (fun _ => ?_) (fun hx => absurd hx (by omega))
    refine w_aln l_227_236 rfl ?_
    refine w_dup l_227_237 rfl ?_
    refine w_gi (((sTime r.1) : Nat) : Int) l_227_238 (oModel_sh hm) hR.1.1.1 ?_
    refine w_ic l_227_241 (by decide) ?_
    refine w_add (((sTime r.1) + 1 : Nat) : Int) l_227_242 (by unfold wr; omega) ?_
    refine w_pi l_227_243 (oModel_sh hm) ?_
    refine w_vr l_227_246 ?_
    have e9 : q = lPorts l := by omega
    rw [e9, rf3_e] at hR
    obtain ⟨g1, g2⟩ := nS_time (t := sTime r.1 + 1) hR (by omega)
    exact ⟨_, _, rfl, rfl, rfl, g1, f.t1 g2⟩
  | succ d ih =>
    intro q I v2 hq hR f
    have hq4 : q < lPorts l := by omega
    have hq5 : q < 4 := by omega
    have gL := ((E.fr f.1).L.2.1 q hq4).2.2
    have gt := hR.1.2.2.2.1 q hq4
    unfold tokI at gt
    cases hpo : lPol l q with
    | none =>
      rw [hpo] at gL gt
      obtain ⟨gt, gt2⟩ := gt
      change I (s + 4) q = 0 ∧ I (s + 5) q = -1 at gL
      change I (s + 31) q = -1 at gt
      refine w_iln l_227_168 rfl ?_
      refine w_aln l_227_169 rfl ?_
      refine w_gi (((lPorts l) : Nat) : Int) l_227_170 (oModel_sh hm) ((E.fr f.1).L.1) ?_
      refine w_cge 236 l_227_173 (by decide) (fun hx => absurd hx (by omega)) (fun _ => ?_)
      refine w_aln l_227_176 rfl ?_
      refine w_gr l_227_177 (oModel_sh hm) (oModel_r60 hm) ?_
      refine w_iln l_227_180 rfl ?_
      refine w_ia q (-1) l_227_181 (oModel_s60 hm) rfl (by omega) gt ?_
      refine w_aln l_227_182 rfl ?_
      refine w_gr l_227_183 (oModel_sh hm) (oModel_r5 hm) ?_
      refine w_iln l_227_186 rfl ?_
      refine w_ia q 0 l_227_187 (oModel_s5 hm) rfl (by omega) gL.1 ?_
      refine w_add (-1) l_227_188 (by decide) ?_
      refine w_isn l_227_189 ⟨Nat.le_of_ble_eq_true rfl, rfl⟩ ?_
      refine w_aln l_227_190 rfl ?_
      refine w_gr l_227_191 (oModel_sh hm) (oModel_r60 hm) ?_
      refine w_iln l_227_194 rfl ?_
      refine w_aln l_227_195 rfl ?_
      refine w_gr l_227_196 (oModel_sh hm) (oModel_r6 hm) ?_
      refine w_iln l_227_199 rfl ?_
      refine w_ia q (-1) l_227_200 (oModel_s6 hm) rfl (by omega) gL.2 ?_
      refine w_ic l_227_201 (by decide) ?_
      refine w_cne 209 l_227_202 (by decide) (fun hx => absurd hx (by decide)) (fun _ => ?_)
      refine w_ic l_227_205 (by decide) ?_
      refine w_go 229 l_227_206 (by decide) ?_
      refine w_iS q l_227_229 (oModel_s60 hm) rfl (by omega) ?_
      refine w_inc ((q + 1 : Nat) : Int) l_227_230 rfl rfl (by unfold wr; omega) ?_
      refine w_go 168 l_227_233 (by decide) ?_
      obtain ⟨g1, g2⟩ := nS_tk (v := -1) (p := q) (A := (rf3 l r (q + 1)).1) hR rfl rfl rfl (fun x hx hxq => by rw [← rf3_n (by unfold refillA; rw [hpo])]) (fun _ => ⟨by unfold tokI; rw [hpo], by decide⟩)
      exact ih (q + 1) _ _ (by omega) g1 (f.t1 g2)
    | some rb =>
      obtain ⟨ra, b⟩ := rb
      have hrb := E.okl.2.2.2.1 q ra b hpo
      rw [hpo] at gL gt
      obtain ⟨gt, gt2⟩ := gt
      have e : sTok (rf3 l r q).1 q = sTok r.1 q := if_neg (by omega)
      change I (s + 4) q = (ra : Int) ∧ I (s + 5) q = (b : Int) at gL
      change I (s + 31) q = ((sTok (rf3 l r q).1 q : Nat) : Int) at gt
      change ((sTok (rf3 l r q).1 q : Nat) : Int) ≤ 99 at gt2
      rw [e] at gt gt2
      have hrf : refillA l r.1 q = min (sTok r.1 q + ra) b := by
        unfold refillA
        rw [hpo]
        exact if_pos hq4
      refine w_iln l_227_168 rfl ?_
      refine w_aln l_227_169 rfl ?_
      refine w_gi (((lPorts l) : Nat) : Int) l_227_170 (oModel_sh hm) ((E.fr f.1).L.1) ?_
      refine w_cge 236 l_227_173 (by decide) (fun hx => absurd hx (by omega)) (fun _ => ?_)
      refine w_aln l_227_176 rfl ?_
      refine w_gr l_227_177 (oModel_sh hm) (oModel_r60 hm) ?_
      refine w_iln l_227_180 rfl ?_
      refine w_ia q (((sTok r.1 q) : Nat) : Int) l_227_181 (oModel_s60 hm) rfl (by omega) gt ?_
      refine w_aln l_227_182 rfl ?_
      refine w_gr l_227_183 (oModel_sh hm) (oModel_r5 hm) ?_
      refine w_iln l_227_186 rfl ?_
      refine w_ia q ((ra : Nat) : Int) l_227_187 (oModel_s5 hm) rfl (by omega) gL.1 ?_
      refine w_add (((sTok r.1 q) + ra : Nat) : Int) l_227_188 (by unfold wr; omega) ?_
      refine w_isn l_227_189 ⟨Nat.le_of_ble_eq_true rfl, rfl⟩ ?_
      refine w_aln l_227_190 rfl ?_
      refine w_gr l_227_191 (oModel_sh hm) (oModel_r60 hm) ?_
      refine w_iln l_227_194 rfl ?_
      refine w_aln l_227_195 rfl ?_
      refine w_gr l_227_196 (oModel_sh hm) (oModel_r6 hm) ?_
      refine w_iln l_227_199 rfl ?_
      refine w_ia q ((b : Nat) : Int) l_227_200 (oModel_s6 hm) rfl (by omega) gL.2 ?_
      refine w_ic l_227_201 (by decide) ?_
      refine w_cne 209 l_227_202 (by decide) (fun _ => ?_) (fun hx => absurd hx (by omega))
      refine w_iln l_227_209 rfl ?_
      refine w_aln l_227_210 rfl ?_
      refine w_gr l_227_211 (oModel_sh hm) (oModel_r6 hm) ?_
      refine w_iln l_227_214 rfl ?_
      refine w_ia q ((b : Nat) : Int) l_227_215 (oModel_s6 hm) rfl (by omega) gL.2 ?_
      refine w_cle 228 l_227_216 (by decide) (fun h1 => ?_) (fun h1 => ?_)
      · skip
        refine w_iln l_227_228 rfl ?_
        refine w_iS q l_227_229 (oModel_s60 hm) rfl (by omega) ?_
        refine w_inc ((q + 1 : Nat) : Int) l_227_230 rfl rfl (by unfold wr; omega) ?_
        refine w_go 168 l_227_233 (by decide) ?_
        obtain ⟨g1, g2⟩ := nS_tk (v := (((sTok r.1 q) + ra : Nat) : Int)) (p := q) (A := (rf3 l r (q + 1)).1) hR rfl rfl rfl (fun x hx hxq => rf3_x hxq) (fun _ => ⟨by
            unfold tokI
            rw [hpo]
            show _ = (((rf3 l r (q + 1)).1.2.2.1 q : Nat) : Int)
            rw [show (rf3 l r (q + 1)).1.2.2.1 q = refillA l r.1 q from if_pos (Nat.lt_succ_self q), hrf]
            omega, by omega⟩)
        exact ih (q + 1) _ _ (by omega) g1 (f.t1 g2)
      · skip
        refine w_aln l_227_219 rfl ?_
        refine w_gr l_227_220 (oModel_sh hm) (oModel_r6 hm) ?_
        refine w_iln l_227_223 rfl ?_
        refine w_ia q ((b : Nat) : Int) l_227_224 (oModel_s6 hm) rfl (by omega) gL.2 ?_
        refine w_go 229 l_227_225 (by decide) ?_
        refine w_iS q l_227_229 (oModel_s60 hm) rfl (by omega) ?_
        refine w_inc ((q + 1 : Nat) : Int) l_227_230 rfl rfl (by unfold wr; omega) ?_
        refine w_go 168 l_227_233 (by decide) ?_
        obtain ⟨g1, g2⟩ := nS_tk (v := ((b : Nat) : Int)) (p := q) (A := (rf3 l r (q + 1)).1) hR rfl rfl rfl (fun x hx hxq => rf3_x hxq) (fun _ => ⟨by
            unfold tokI
            rw [hpo]
            show _ = (((rf3 l r (q + 1)).1.2.2.1 q : Nat) : Int)
            rw [show (rf3 l r (q + 1)).1.2.2.1 q = refillA l r.1 q from if_pos (Nat.lt_succ_self q), hrf]
            omega, by omega⟩)
        exact ih (q + 1) _ _ (by omega) g1 (f.t1 g2)
end REM
