/-! the reference: load -/
/-- the rows that load copies -/
def cpA (I J : Ix) (s i : Nat) : Prop := (∀ z w, ¬ (s + 1 ≤ z ∧ z ≤ s + 5) → J z w = I z w) ∧ ∀ k, k < i → J (s + 1) k = I (s + 13) k ∧ J (s + 2) k = I (s + 14) k ∧ J (s + 3) k = I (s + 15) k ∧ J (s + 4) k = I (s + 16) k ∧ J (s + 5) k = I (s + 17) k
def cpB (I J : Ix) (s i : Nat) : Prop := (∀ z w, ¬ (s + 6 ≤ z ∧ z ≤ s + 8) → J z w = I z w) ∧ ∀ k, k < i → J (s + 6) k = I (s + 18) k % 2 ∧ J (s + 7) k = I (s + 19) k ∧ J (s + 8) k = I (s + 20) k
def cpC (I J : Ix) (s i : Nat) : Prop := (∀ z w, z ≠ s + 9 → J z w = I z w) ∧ ∀ k, k < i → J (s + 9) k = I (s + 21) k
/-- what a load may change -/
def fY (I J : Ix) (s : Nat) : Prop := ∀ z w, (z = s → w = 2 ∨ w = 3 ∨ w = 4 ∨ w = 5 ∨ w = 6 ∨ (11 ≤ w ∧ w ≤ 14) ∨ (17 ≤ w ∧ w ≤ 19) ∨ w = 43 ∨ 47 < w) → (z < s + 1 ∨ (s + 10 ≤ z ∧ z ≤ s + 12) ∨ s + 24 < z) → J z w = I z w
section RGH
variable {xs : List Int} {S : List (Nat × Nat)} {T : Nat → Nat → Nat} {cc zz s : Nat} {I I' : Ix} {t : Nat → Int} {n : Nat}

theorem mx_198 : mxl 198 = 2 := by decide +kernel
theorem mt_198 : mtc 198 = 10 := by decide +kernel
theorem rk_198 (as : List AV) : rkA 198 as = 11 := rfl
theorem l_198_0 : look 198 0 = some (.aload_n 0, 1, 0, 0, 0, 0) := by decide +kernel
theorem l_198_1 : look 198 1 = some (.iconst 0, 1, 0, 0, 0, 0) := by decide +kernel
theorem l_198_2 : look 198 2 = some (.putfield 152, 3, 10, 0, 0, 1501) := by decide +kernel
theorem l_198_5 : look 198 5 = some (.aload_n 0, 1, 0, 0, 0, 0) := by decide +kernel
theorem l_198_6 : look 198 6 = some (.invokevirtual 321, 3, 197, 1, 0, 1746) := by decide +kernel
theorem l_198_9 : look 198 9 = some (.aload_n 0, 1, 0, 0, 0, 0) := by decide +kernel
theorem l_198_10 : look 198 10 = some (.invokevirtual 182, 3, 175, 1, 0, 1750) := by decide +kernel
theorem l_198_13 : look 198 13 = some (.ifCond .eq 10, 3, 0, 0, 0, 0) := by decide +kernel
theorem l_198_16 : look 198 16 = some (.aload_n 0, 1, 0, 0, 0, 0) := by decide +kernel
theorem l_198_17 : look 198 17 = some (.iconst 1, 1, 0, 0, 0, 0) := by decide +kernel
theorem l_198_18 : look 198 18 = some (.putfield 152, 3, 10, 0, 0, 1501) := by decide +kernel
theorem l_198_21 : look 198 21 = some (.iconst 0, 1, 0, 0, 0, 0) := by decide +kernel
theorem l_198_22 : look 198 22 = some (.ireturn, 1, 0, 0, 0, 0) := by decide +kernel
theorem l_198_23 : look 198 23 = some (.aload_n 0, 1, 0, 0, 0, 0) := by decide +kernel
theorem l_198_24 : look 198 24 = some (.aload_n 0, 1, 0, 0, 0, 0) := by decide +kernel
theorem l_198_25 : look 198 25 = some (.getfield 206, 3, 10, 25, 0, 1526) := by decide +kernel
theorem l_198_28 : look 198 28 = some (.putfield 324, 3, 10, 1, 0, 1502) := by decide +kernel
theorem l_198_31 : look 198 31 = some (.aload_n 0, 1, 0, 0, 0, 0) := by decide +kernel
theorem l_198_32 : look 198 32 = some (.aload_n 0, 1, 0, 0, 0, 0) := by decide +kernel
theorem l_198_33 : look 198 33 = some (.getfield 281, 3, 10, 34, 0, 1535) := by decide +kernel
theorem l_198_36 : look 198 36 = some (.putfield 327, 3, 10, 10, 0, 1511) := by decide +kernel
theorem l_198_39 : look 198 39 = some (.aload_n 0, 1, 0, 0, 0, 0) := by decide +kernel
theorem l_198_40 : look 198 40 = some (.aload_n 0, 1, 0, 0, 0, 0) := by decide +kernel
theorem l_198_41 : look 198 41 = some (.getfield 301, 3, 10, 31, 0, 1532) := by decide +kernel
theorem l_198_44 : look 198 44 = some (.putfield 26, 3, 10, 7, 0, 1508) := by decide +kernel
theorem l_198_47 : look 198 47 = some (.aload_n 0, 1, 0, 0, 0, 0) := by decide +kernel
theorem l_198_48 : look 198 48 = some (.aload_n 0, 1, 0, 0, 0, 0) := by decide +kernel
theorem l_198_49 : look 198 49 = some (.getfield 306, 3, 10, 32, 0, 1533) := by decide +kernel
theorem l_198_52 : look 198 52 = some (.putfield 30, 3, 10, 8, 0, 1509) := by decide +kernel
theorem l_198_55 : look 198 55 = some (.aload_n 0, 1, 0, 0, 0, 0) := by decide +kernel
theorem l_198_56 : look 198 56 = some (.aload_n 0, 1, 0, 0, 0, 0) := by decide +kernel
theorem l_198_57 : look 198 57 = some (.getfield 311, 3, 10, 33, 0, 1534) := by decide +kernel
theorem l_198_60 : look 198 60 = some (.putfield 33, 3, 10, 9, 0, 1510) := by decide +kernel
theorem l_198_63 : look 198 63 = some (.iconst 0, 1, 0, 0, 0, 0) := by decide +kernel
theorem l_198_64 : look 198 64 = some (.istore_n 1, 1, 0, 0, 0, 0) := by decide +kernel
theorem l_198_65 : look 198 65 = some (.iload_n 1, 1, 0, 0, 0, 0) := by decide +kernel
theorem l_198_66 : look 198 66 = some (.iconst 4, 1, 0, 0, 0, 0) := by decide +kernel
theorem l_198_67 : look 198 67 = some (.if_icmp .ge 69, 3, 0, 0, 0, 0) := by decide +kernel
theorem l_198_70 : look 198 70 = some (.aload_n 0, 1, 0, 0, 0, 0) := by decide +kernel
theorem l_198_71 : look 198 71 = some (.getfield 7, 3, 10, 2, 2, 1503) := by decide +kernel
theorem l_198_74 : look 198 74 = some (.iload_n 1, 1, 0, 0, 0, 0) := by decide +kernel
theorem l_198_75 : look 198 75 = some (.aload_n 0, 1, 0, 0, 0, 0) := by decide +kernel
theorem l_198_76 : look 198 76 = some (.getfield 62, 3, 10, 26, 2, 1527) := by decide +kernel
theorem l_198_79 : look 198 79 = some (.iload_n 1, 1, 0, 0, 0, 0) := by decide +kernel
theorem l_198_80 : look 198 80 = some (.laload, 1, 0, 0, 0, 0) := by decide +kernel
theorem l_198_81 : look 198 81 = some (.lastore, 1, 0, 0, 0, 0) := by decide +kernel
theorem l_198_82 : look 198 82 = some (.aload_n 0, 1, 0, 0, 0, 0) := by decide +kernel
theorem l_198_83 : look 198 83 = some (.getfield 13, 3, 10, 3, 2, 1504) := by decide +kernel
theorem l_198_86 : look 198 86 = some (.iload_n 1, 1, 0, 0, 0, 0) := by decide +kernel
theorem l_198_87 : look 198 87 = some (.aload_n 0, 1, 0, 0, 0, 0) := by decide +kernel
theorem l_198_88 : look 198 88 = some (.getfield 65, 3, 10, 27, 2, 1528) := by decide +kernel
theorem l_198_91 : look 198 91 = some (.iload_n 1, 1, 0, 0, 0, 0) := by decide +kernel
theorem l_198_92 : look 198 92 = some (.iaload, 1, 0, 0, 0, 0) := by decide +kernel
theorem l_198_93 : look 198 93 = some (.iastore, 1, 0, 0, 0, 0) := by decide +kernel
theorem l_198_94 : look 198 94 = some (.aload_n 0, 1, 0, 0, 0, 0) := by decide +kernel
theorem l_198_95 : look 198 95 = some (.getfield 17, 3, 10, 4, 2, 1505) := by decide +kernel
theorem l_198_98 : look 198 98 = some (.iload_n 1, 1, 0, 0, 0, 0) := by decide +kernel
theorem l_198_99 : look 198 99 = some (.aload_n 0, 1, 0, 0, 0, 0) := by decide +kernel
theorem l_198_100 : look 198 100 = some (.getfield 68, 3, 10, 28, 2, 1529) := by decide +kernel
theorem l_198_103 : look 198 103 = some (.iload_n 1, 1, 0, 0, 0, 0) := by decide +kernel
theorem l_198_104 : look 198 104 = some (.iaload, 1, 0, 0, 0, 0) := by decide +kernel
theorem l_198_105 : look 198 105 = some (.iastore, 1, 0, 0, 0, 0) := by decide +kernel
theorem l_198_106 : look 198 106 = some (.aload_n 0, 1, 0, 0, 0, 0) := by decide +kernel
theorem l_198_107 : look 198 107 = some (.getfield 20, 3, 10, 5, 2, 1506) := by decide +kernel
theorem l_198_110 : look 198 110 = some (.iload_n 1, 1, 0, 0, 0, 0) := by decide +kernel
theorem l_198_111 : look 198 111 = some (.aload_n 0, 1, 0, 0, 0, 0) := by decide +kernel
theorem l_198_112 : look 198 112 = some (.getfield 71, 3, 10, 29, 2, 1530) := by decide +kernel
theorem l_198_115 : look 198 115 = some (.iload_n 1, 1, 0, 0, 0, 0) := by decide +kernel
theorem l_198_116 : look 198 116 = some (.iaload, 1, 0, 0, 0, 0) := by decide +kernel
theorem l_198_117 : look 198 117 = some (.iastore, 1, 0, 0, 0, 0) := by decide +kernel
theorem l_198_118 : look 198 118 = some (.aload_n 0, 1, 0, 0, 0, 0) := by decide +kernel
theorem l_198_119 : look 198 119 = some (.getfield 23, 3, 10, 6, 2, 1507) := by decide +kernel
theorem l_198_122 : look 198 122 = some (.iload_n 1, 1, 0, 0, 0, 0) := by decide +kernel
theorem l_198_123 : look 198 123 = some (.aload_n 0, 1, 0, 0, 0, 0) := by decide +kernel
theorem l_198_124 : look 198 124 = some (.getfield 74, 3, 10, 30, 2, 1531) := by decide +kernel
theorem l_198_127 : look 198 127 = some (.iload_n 1, 1, 0, 0, 0, 0) := by decide +kernel
theorem l_198_128 : look 198 128 = some (.iaload, 1, 0, 0, 0, 0) := by decide +kernel
theorem l_198_129 : look 198 129 = some (.iastore, 1, 0, 0, 0, 0) := by decide +kernel
theorem l_198_130 : look 198 130 = some (.iinc 1 1, 3, 0, 0, 0, 0) := by decide +kernel
theorem l_198_133 : look 198 133 = some (.goto (-68), 3, 0, 0, 0, 0) := by decide +kernel
theorem l_198_136 : look 198 136 = some (.iconst 0, 1, 0, 0, 0, 0) := by decide +kernel
theorem l_198_137 : look 198 137 = some (.istore_n 1, 1, 0, 0, 0, 0) := by decide +kernel
theorem l_198_138 : look 198 138 = some (.iload_n 1, 1, 0, 0, 0, 0) := by decide +kernel
theorem l_198_139 : look 198 139 = some (.bipush 8, 2, 0, 0, 0, 0) := by decide +kernel
theorem l_198_141 : look 198 141 = some (.if_icmp .ge 45, 3, 0, 0, 0, 0) := by decide +kernel
theorem l_198_144 : look 198 144 = some (.aload_n 0, 1, 0, 0, 0, 0) := by decide +kernel
theorem l_198_145 : look 198 145 = some (.getfield 36, 3, 10, 11, 2, 1512) := by decide +kernel
theorem l_198_148 : look 198 148 = some (.iload_n 1, 1, 0, 0, 0, 0) := by decide +kernel
theorem l_198_149 : look 198 149 = some (.aload_n 0, 1, 0, 0, 0, 0) := by decide +kernel
theorem l_198_150 : look 198 150 = some (.getfield 77, 3, 10, 35, 2, 1536) := by decide +kernel
theorem l_198_153 : look 198 153 = some (.iload_n 1, 1, 0, 0, 0, 0) := by decide +kernel
theorem l_198_154 : look 198 154 = some (.baload, 1, 0, 0, 0, 0) := by decide +kernel
theorem l_198_155 : look 198 155 = some (.bastore, 1, 0, 0, 0, 0) := by decide +kernel
theorem l_198_156 : look 198 156 = some (.aload_n 0, 1, 0, 0, 0, 0) := by decide +kernel
theorem l_198_157 : look 198 157 = some (.getfield 40, 3, 10, 12, 2, 1513) := by decide +kernel
theorem l_198_160 : look 198 160 = some (.iload_n 1, 1, 0, 0, 0, 0) := by decide +kernel
theorem l_198_161 : look 198 161 = some (.aload_n 0, 1, 0, 0, 0, 0) := by decide +kernel
theorem l_198_162 : look 198 162 = some (.getfield 80, 3, 10, 36, 2, 1537) := by decide +kernel
theorem l_198_165 : look 198 165 = some (.iload_n 1, 1, 0, 0, 0, 0) := by decide +kernel
theorem l_198_166 : look 198 166 = some (.iaload, 1, 0, 0, 0, 0) := by decide +kernel
theorem l_198_167 : look 198 167 = some (.iastore, 1, 0, 0, 0, 0) := by decide +kernel
theorem l_198_168 : look 198 168 = some (.aload_n 0, 1, 0, 0, 0, 0) := by decide +kernel
theorem l_198_169 : look 198 169 = some (.getfield 43, 3, 10, 13, 2, 1514) := by decide +kernel
theorem l_198_172 : look 198 172 = some (.iload_n 1, 1, 0, 0, 0, 0) := by decide +kernel
theorem l_198_173 : look 198 173 = some (.aload_n 0, 1, 0, 0, 0, 0) := by decide +kernel
theorem l_198_174 : look 198 174 = some (.getfield 83, 3, 10, 37, 2, 1538) := by decide +kernel
theorem l_198_177 : look 198 177 = some (.iload_n 1, 1, 0, 0, 0, 0) := by decide +kernel
theorem l_198_178 : look 198 178 = some (.iaload, 1, 0, 0, 0, 0) := by decide +kernel
theorem l_198_179 : look 198 179 = some (.iastore, 1, 0, 0, 0, 0) := by decide +kernel
theorem l_198_180 : look 198 180 = some (.iinc 1 1, 3, 0, 0, 0, 0) := by decide +kernel
theorem l_198_183 : look 198 183 = some (.goto (-45), 3, 0, 0, 0, 0) := by decide +kernel
theorem l_198_186 : look 198 186 = some (.iconst 0, 1, 0, 0, 0, 0) := by decide +kernel
theorem l_198_187 : look 198 187 = some (.istore_n 1, 1, 0, 0, 0, 0) := by decide +kernel
theorem l_198_188 : look 198 188 = some (.iload_n 1, 1, 0, 0, 0, 0) := by decide +kernel
theorem l_198_189 : look 198 189 = some (.iconst 3, 1, 0, 0, 0, 0) := by decide +kernel
theorem l_198_190 : look 198 190 = some (.aload_n 0, 1, 0, 0, 0, 0) := by decide +kernel
theorem l_198_191 : look 198 191 = some (.getfield 224, 3, 10, 39, 0, 1540) := by decide +kernel
theorem l_198_194 : look 198 194 = some (.imul, 1, 0, 0, 0, 0) := by decide +kernel
theorem l_198_195 : look 198 195 = some (.if_icmp .ge 21, 3, 0, 0, 0, 0) := by decide +kernel
theorem l_198_198 : look 198 198 = some (.aload_n 0, 1, 0, 0, 0, 0) := by decide +kernel
theorem l_198_199 : look 198 199 = some (.getfield 46, 3, 10, 14, 2, 1515) := by decide +kernel
theorem l_198_202 : look 198 202 = some (.iload_n 1, 1, 0, 0, 0, 0) := by decide +kernel
theorem l_198_203 : look 198 203 = some (.aload_n 0, 1, 0, 0, 0, 0) := by decide +kernel
theorem l_198_204 : look 198 204 = some (.getfield 86, 3, 10, 38, 2, 1539) := by decide +kernel
theorem l_198_207 : look 198 207 = some (.iload_n 1, 1, 0, 0, 0, 0) := by decide +kernel
theorem l_198_208 : look 198 208 = some (.iaload, 1, 0, 0, 0, 0) := by decide +kernel
theorem l_198_209 : look 198 209 = some (.iastore, 1, 0, 0, 0, 0) := by decide +kernel
theorem l_198_210 : look 198 210 = some (.iinc 1 1, 3, 0, 0, 0, 0) := by decide +kernel
theorem l_198_213 : look 198 213 = some (.goto (-25), 3, 0, 0, 0, 0) := by decide +kernel
theorem l_198_216 : look 198 216 = some (.aload_n 0, 1, 0, 0, 0, 0) := by decide +kernel
theorem l_198_217 : look 198 217 = some (.iconst 0, 1, 0, 0, 0, 0) := by decide +kernel
theorem l_198_218 : look 198 218 = some (.putfield 330, 3, 10, 15, 0, 1516) := by decide +kernel
theorem l_198_221 : look 198 221 = some (.aload_n 0, 1, 0, 0, 0, 0) := by decide +kernel
theorem l_198_222 : look 198 222 = some (.iconst 0, 1, 0, 0, 0, 0) := by decide +kernel
theorem l_198_223 : look 198 223 = some (.putfield 333, 3, 10, 16, 0, 1517) := by decide +kernel
theorem l_198_226 : look 198 226 = some (.aload_n 0, 1, 0, 0, 0, 0) := by decide +kernel
theorem l_198_227 : look 198 227 = some (.invokevirtual 336, 3, 201, 1, 0, 1870) := by decide +kernel
theorem l_198_230 : look 198 230 = some (.aload_n 0, 1, 0, 0, 0, 0) := by decide +kernel
theorem l_198_231 : look 198 231 = some (.getfield 324, 3, 10, 1, 0, 1502) := by decide +kernel
theorem l_198_234 : look 198 234 = some (.ireturn, 1, 0, 0, 0, 0) := by decide +kernel

theorem lpA_198 (hm : oModel S T s) {I0 : Ix}  {Q : Res → Mem → Prop} (kk : ∀ J, cpA I0 J s (4) → WP xs 198 11 136 [vr s, vi ((4 : Nat) : Int)] [] (S, J, T, cc, zz) Q) : ∀ d i J, i + d = 4 → cpA I0 J s i → WP xs 198 11 65 [vr s, vi ((i : Nat) : Int)] [] (S, J, T, cc, zz) Q := by
  intro d
  induction d with
  | zero =>
    intro i J hi f
    refine w_iln l_198_65 rfl ?_
    refine w_ic l_198_66 (by decide) ?_
    refine w_cge 136 l_198_67 (by decide) (fun _ => ?_) (fun hx => absurd hx (by omega))
    have e9 : i = 4 := by omega
    rw [e9] at f ⊢
    exact kk J f
  | succ d ih =>
    intro i J hi f
    refine w_iln l_198_65 rfl ?_
    refine w_ic l_198_66 (by decide) ?_
    refine w_cge 136 l_198_67 (by decide) (fun hx => absurd hx (by omega)) (fun _ => ?_)
    refine w_aln l_198_70 rfl ?_
    refine w_gr l_198_71 (oModel_sh hm) (oModel_r2 hm) ?_
    refine w_iln l_198_74 rfl ?_
    refine w_aln l_198_75 rfl ?_
    refine w_gr l_198_76 (oModel_sh hm) (oModel_r26 hm) ?_
    refine w_iln l_198_79 rfl ?_
    refine w_la i (I0 (s + 13) i) l_198_80 (oModel_s26 hm) rfl (by omega) (f.1 _ _ (by omega)) ?_
    refine w_lS i l_198_81 (oModel_s2 hm) rfl (by omega) ?_
    refine w_aln l_198_82 rfl ?_
    refine w_gr l_198_83 (oModel_sh hm) (oModel_r3 hm) ?_
    refine w_iln l_198_86 rfl ?_
    refine w_aln l_198_87 rfl ?_
    refine w_gr l_198_88 (oModel_sh hm) (oModel_r27 hm) ?_
    refine w_iln l_198_91 rfl ?_
    refine w_ia i (I0 (s + 14) i) l_198_92 (oModel_s27 hm) rfl (by omega) ((up_no (by omega)).trans ((f.1 _ _ (by omega)))) ?_
    refine w_iS i l_198_93 (oModel_s3 hm) rfl (by omega) ?_
    refine w_aln l_198_94 rfl ?_
    refine w_gr l_198_95 (oModel_sh hm) (oModel_r4 hm) ?_
    refine w_iln l_198_98 rfl ?_
    refine w_aln l_198_99 rfl ?_
    refine w_gr l_198_100 (oModel_sh hm) (oModel_r28 hm) ?_
    refine w_iln l_198_103 rfl ?_
    refine w_ia i (I0 (s + 15) i) l_198_104 (oModel_s28 hm) rfl (by omega) ((up_no (by omega)).trans ((up_no (by omega)).trans ((f.1 _ _ (by omega))))) ?_
    refine w_iS i l_198_105 (oModel_s4 hm) rfl (by omega) ?_
    refine w_aln l_198_106 rfl ?_
    refine w_gr l_198_107 (oModel_sh hm) (oModel_r5 hm) ?_
    refine w_iln l_198_110 rfl ?_
    refine w_aln l_198_111 rfl ?_
    refine w_gr l_198_112 (oModel_sh hm) (oModel_r29 hm) ?_
    refine w_iln l_198_115 rfl ?_
    refine w_ia i (I0 (s + 16) i) l_198_116 (oModel_s29 hm) rfl (by omega) ((up_no (by omega)).trans ((up_no (by omega)).trans ((up_no (by omega)).trans ((f.1 _ _ (by omega)))))) ?_
    refine w_iS i l_198_117 (oModel_s5 hm) rfl (by omega) ?_
    refine w_aln l_198_118 rfl ?_
    refine w_gr l_198_119 (oModel_sh hm) (oModel_r6 hm) ?_
    refine w_iln l_198_122 rfl ?_
    refine w_aln l_198_123 rfl ?_
    refine w_gr l_198_124 (oModel_sh hm) (oModel_r30 hm) ?_
    refine w_iln l_198_127 rfl ?_
    refine w_ia i (I0 (s + 17) i) l_198_128 (oModel_s30 hm) rfl (by omega) ((up_no (by omega)).trans ((up_no (by omega)).trans ((up_no (by omega)).trans ((up_no (by omega)).trans ((f.1 _ _ (by omega))))))) ?_
    refine w_iS i l_198_129 (oModel_s6 hm) rfl (by omega) ?_
    refine w_inc (((i + 1) : Nat) : Int) l_198_130 rfl rfl (by unfold wr; omega) ?_
    refine w_go 65 l_198_133 (by decide) ?_
    refine ih (i + 1) _ (by omega) ⟨fun z w hz => ?_, fun k hk => ?_⟩
    · repeat (rw [up_no (by omega)])
      exact f.1 z w hz
    · by_cases hki : k = i
      · subst hki
        refine ⟨?_, ?_, ?_, ?_, ?_⟩
        all_goals (repeat (first | exact up_eq | rw [up_no (by omega)] | rw [up_nj (by omega)]))
      · have := f.2 k (by omega)
        refine ⟨?_, ?_, ?_, ?_, ?_⟩
        · refine Eq.trans ?_ this.1; repeat (first | rw [up_no (by omega)] | rw [up_nj (by omega)])
        · refine Eq.trans ?_ this.2.1; repeat (first | rw [up_no (by omega)] | rw [up_nj (by omega)])
        · refine Eq.trans ?_ this.2.2.1; repeat (first | rw [up_no (by omega)] | rw [up_nj (by omega)])
        · refine Eq.trans ?_ this.2.2.2.1; repeat (first | rw [up_no (by omega)] | rw [up_nj (by omega)])
        · refine Eq.trans ?_ this.2.2.2.2; repeat (first | rw [up_no (by omega)] | rw [up_nj (by omega)])

theorem lpB_198 (hm : oModel S T s) {I0 : Ix}  {Q : Res → Mem → Prop} (kk : ∀ J, cpB I0 J s (8) → WP xs 198 11 186 [vr s, vi ((8 : Nat) : Int)] [] (S, J, T, cc, zz) Q) : ∀ d i J, i + d = 8 → cpB I0 J s i → WP xs 198 11 138 [vr s, vi ((i : Nat) : Int)] [] (S, J, T, cc, zz) Q := by
  intro d
  induction d with
  | zero =>
    intro i J hi f
    refine w_iln l_198_138 rfl ?_
    refine w_bp l_198_139 (by decide) ?_
    refine w_cge 186 l_198_141 (by decide) (fun _ => ?_) (fun hx => absurd hx (by omega))
    have e9 : i = 8 := by omega
    rw [e9] at f ⊢
    exact kk J f
  | succ d ih =>
    intro i J hi f
    refine w_iln l_198_138 rfl ?_
    refine w_bp l_198_139 (by decide) ?_
    refine w_cge 186 l_198_141 (by decide) (fun hx => absurd hx (by omega)) (fun _ => ?_)
    refine w_aln l_198_144 rfl ?_
    refine w_gr l_198_145 (oModel_sh hm) (oModel_r11 hm) ?_
    refine w_iln l_198_148 rfl ?_
    refine w_aln l_198_149 rfl ?_
    refine w_gr l_198_150 (oModel_sh hm) (oModel_r35 hm) ?_
    refine w_iln l_198_153 rfl ?_
    refine w_ba i (I0 (s + 18) i) l_198_154 (Or.inr (oModel_s35 hm)) rfl (by omega) (f.1 _ _ (by omega)) ?_
    refine w_zS i (I0 (s + 18) i % 2) l_198_155 (oModel_s11 hm) rfl (by omega) rfl ?_
    refine w_aln l_198_156 rfl ?_
    refine w_gr l_198_157 (oModel_sh hm) (oModel_r12 hm) ?_
    refine w_iln l_198_160 rfl ?_
    refine w_aln l_198_161 rfl ?_
    refine w_gr l_198_162 (oModel_sh hm) (oModel_r36 hm) ?_
    refine w_iln l_198_165 rfl ?_
    refine w_ia i (I0 (s + 19) i) l_198_166 (oModel_s36 hm) rfl (by omega) ((up_no (by omega)).trans ((f.1 _ _ (by omega)))) ?_
    refine w_iS i l_198_167 (oModel_s12 hm) rfl (by omega) ?_
    refine w_aln l_198_168 rfl ?_
    refine w_gr l_198_169 (oModel_sh hm) (oModel_r13 hm) ?_
    refine w_iln l_198_172 rfl ?_
    refine w_aln l_198_173 rfl ?_
    refine w_gr l_198_174 (oModel_sh hm) (oModel_r37 hm) ?_
    refine w_iln l_198_177 rfl ?_
    refine w_ia i (I0 (s + 20) i) l_198_178 (oModel_s37 hm) rfl (by omega) ((up_no (by omega)).trans ((up_no (by omega)).trans ((f.1 _ _ (by omega))))) ?_
    refine w_iS i l_198_179 (oModel_s13 hm) rfl (by omega) ?_
    refine w_inc (((i + 1) : Nat) : Int) l_198_180 rfl rfl (by unfold wr; omega) ?_
    refine w_go 138 l_198_183 (by decide) ?_
    refine ih (i + 1) _ (by omega) ⟨fun z w hz => ?_, fun k hk => ?_⟩
    · repeat (rw [up_no (by omega)])
      exact f.1 z w hz
    · by_cases hki : k = i
      · subst hki
        refine ⟨?_, ?_, ?_⟩
        all_goals (repeat (first | exact up_eq | rw [up_no (by omega)] | rw [up_nj (by omega)]))
      · have := f.2 k (by omega)
        refine ⟨?_, ?_, ?_⟩
        · refine Eq.trans ?_ this.1; repeat (first | rw [up_no (by omega)] | rw [up_nj (by omega)])
        · refine Eq.trans ?_ this.2.1; repeat (first | rw [up_no (by omega)] | rw [up_nj (by omega)])
        · refine Eq.trans ?_ this.2.2; repeat (first | rw [up_no (by omega)] | rw [up_nj (by omega)])

theorem lpC_198 (hm : oModel S T s) {I0 : Ix} {tot : Nat} (h39 : I0 s 39 = ((tot : Nat) : Int)) (h3 : tot ≤ 300) {Q : Res → Mem → Prop} (kk : ∀ J, cpC I0 J s (3 * tot) → WP xs 198 11 216 [vr s, vi ((3 * tot : Nat) : Int)] [] (S, J, T, cc, zz) Q) : ∀ d i J, i + d = 3 * tot → cpC I0 J s i → WP xs 198 11 188 [vr s, vi ((i : Nat) : Int)] [] (S, J, T, cc, zz) Q := by
  intro d
  induction d with
  | zero =>
    intro i J hi f
    refine w_iln l_198_188 rfl ?_
    refine w_ic l_198_189 (by decide) ?_
    refine w_aln l_198_190 rfl ?_
    refine w_gi ((tot : Nat) : Int) l_198_191 (oModel_sh hm) ((f.1 s 39 (by omega)).trans h39) ?_
    refine w_mul (((3 * tot) : Nat) : Int) l_198_194 (by unfold wr; omega) ?_
    refine w_cge 216 l_198_195 (by decide) (fun _ => ?_) (fun hx => absurd hx (by omega))
    have e9 : i = 3 * tot := by omega
    rw [e9] at f ⊢
    exact kk J f
  | succ d ih =>
    intro i J hi f
    refine w_iln l_198_188 rfl ?_
    refine w_ic l_198_189 (by decide) ?_
    refine w_aln l_198_190 rfl ?_
    refine w_gi ((tot : Nat) : Int) l_198_191 (oModel_sh hm) ((f.1 s 39 (by omega)).trans h39) ?_
    refine w_mul (((3 * tot) : Nat) : Int) l_198_194 (by unfold wr; omega) ?_
    refine w_cge 216 l_198_195 (by decide) (fun hx => absurd hx (by omega)) (fun _ => ?_)
    refine w_aln l_198_198 rfl ?_
    refine w_gr l_198_199 (oModel_sh hm) (oModel_r14 hm) ?_
    refine w_iln l_198_202 rfl ?_
    refine w_aln l_198_203 rfl ?_
    refine w_gr l_198_204 (oModel_sh hm) (oModel_r38 hm) ?_
    refine w_iln l_198_207 rfl ?_
    refine w_ia i (I0 (s + 21) i) l_198_208 (oModel_s38 hm) rfl (by omega) (f.1 _ _ (by omega)) ?_
    refine w_iS i l_198_209 (oModel_s14 hm) rfl (by omega) ?_
    refine w_inc (((i + 1) : Nat) : Int) l_198_210 rfl rfl (by unfold wr; omega) ?_
    refine w_go 188 l_198_213 (by decide) ?_
    refine ih (i + 1) _ (by omega) ⟨fun z w hz => ?_, fun k hk => ?_⟩
    · repeat (rw [up_no (by omega)])
      exact f.1 z w hz
    · by_cases hki : k = i
      · subst hki
        exact up_eq
      · have := f.2 k (by omega)
        refine Eq.trans ?_ this; rw [up_nj (by omega)]

theorem s_198n (hm : oModel S T s) (HI : mIn I s t n) (hB : ∀ j, j < n → -128 ≤ t j ∧ t j ≤ 127) {e9 : Nat × Nat} (hR : textR t n = .inl e9) : CL xs 198 [vr s] (S, I, T, cc, zz) (RP S T cc zz (fun v I' => v = some (vi 0) ∧ I' s 0 = 1 ∧ I' s 20 = 0 ∧ I' s 24 = ((e9.1 : Nat) : Int) ∧ I' s 23 = ((e9.2 : Nat) : Int) ∧ ∀ z w, (z = s → w ≠ 0 ∧ (w < 20 ∨ 42 < w)) → (z < s + 13 ∨ s + 22 < z) → I' z w = I z w)) := by
  refine CL_start (r := 11) (ls := [vr s, vs 2]) (rk_198 _) rfl ?_
  refine w_aln l_198_0 rfl ?_
  refine w_ic l_198_1 (by decide) ?_
  refine w_pi l_198_2 (oModel_sh hm) ?_
  refine w_aln l_198_5 rfl ?_
  refine p_iv [] [] l_198_6 rfl rfl (Nat.le_of_ble_eq_true rfl) (by rw [mx_197]; exact Nat.le_of_ble_eq_true rfl) (by rw [mt_197]; exact oModel_sh hm) (by rw [mt_197]; decide) (by rw [rk_197]; decide) (by have g9 := s_197 (xs := xs) (cc := cc) (zz := zz) (t := t) hm (n := n) (show mIn (up I s 0 0) s t n from ⟨(up_nj (by decide)).trans HI.1, HI.2.1, fun j hj => (up_no (by omega)).trans (HI.2.2 j hj)⟩) hB; rw [hR] at g9; exact g9) (fun v I1 hv => ?_)
  obtain ⟨rfl, f1, e20, he, e24, e23⟩ := hv
  refine w_aln l_198_9 rfl ?_
  refine q_iv [] [] l_198_10 rfl rfl (Nat.le_of_ble_eq_true rfl) (by rw [mx_175]; exact Nat.le_of_ble_eq_true rfl) (by rw [mt_175]; exact oModel_sh hm) (by rw [mt_175]; decide) (by rw [rk_175]; decide) (s_175_1 (k := ((e9.1 : Nat) : Int)) hm e24 (by omega)) ?_
  refine w_zeq 23 l_198_13 (by decide) (fun hx => absurd hx (by decide)) (fun _ => ?_)
  refine w_aln l_198_16 rfl ?_
  refine w_ic l_198_17 (by decide) ?_
  refine w_pi l_198_18 (oModel_sh hm) ?_
  refine w_ic l_198_21 (by decide) ?_
  refine w_ir l_198_22 (Or.inl rfl) ?_
  exact ⟨_, _, rfl, rfl, rfl, up_eq, (up_nj (by decide)).trans e20, (up_nj (by decide)).trans e24, (up_nj (by decide)).trans e23, fun z w h1 h2 => (up_out (by omega)).trans ((f1 z w (fun e => by have := h1 e; omega) (by omega)).trans (up_out (by omega)))⟩

theorem s_198 (hm : oModel S T s) (HI : mIn I s t n) (hB : ∀ j, j < n → -128 ≤ t j ∧ t j ≤ 127) {P : Ps} (hR : textR t n = .inr P) {h : Hi} (ok : okHi h) {a : Nat → Nat} : CL xs 198 [vr s] (S, I, T, cc, zz) (RP S T cc zz (fun v I' => v = some (vi ((lPorts P.1 : Nat) : Int)) ∧ MP I' s h P.1 a 0 0 P.2.2 ∧ nSu I' s su0 ∧ mNm I' s P.1 P.2.1 ∧ okPs P ∧ (I' s 0 = 0 ∧ I' s 20 = 0 ∧ I' s 24 = 0 ∧ I' s 23 = -1) ∧ fY I I' s)) := by
  refine CL_start (r := 11) (ls := [vr s, vs 2]) (rk_198 _) rfl ?_
  refine w_aln l_198_0 rfl ?_
  refine w_ic l_198_1 (by decide) ?_
  refine w_pi l_198_2 (oModel_sh hm) ?_
  refine w_aln l_198_5 rfl ?_
  refine p_iv [] [] l_198_6 rfl rfl (Nat.le_of_ble_eq_true rfl) (by rw [mx_197]; exact Nat.le_of_ble_eq_true rfl) (by rw [mt_197]; exact oModel_sh hm) (by rw [mt_197]; decide) (by rw [rk_197]; decide) (by have g9 := s_197 (xs := xs) (cc := cc) (zz := zz) (t := t) hm (n := n) (show mIn (up I s 0 0) s t n from ⟨(up_nj (by decide)).trans HI.1, HI.2.1, fun j hj => (up_no (by omega)).trans (HI.2.2 j hj)⟩) hB; rw [hR] at g9; exact g9) (fun v I1 hv => ?_)
  obtain ⟨rfl, f1, e20, e24, e23, tot, Z, htot⟩ := hv
  refine w_aln l_198_9 rfl ?_
  refine q_iv [] [] l_198_10 rfl rfl (Nat.le_of_ble_eq_true rfl) (by rw [mx_175]; exact Nat.le_of_ble_eq_true rfl) (by rw [mt_175]; exact oModel_sh hm) (by rw [mt_175]; decide) (by rw [rk_175]; decide) (s_175_0 hm e24) ?_
  refine w_zeq 23 l_198_13 (by decide) (fun _ => ?_) (fun hx => absurd hx (by decide))
  refine w_aln l_198_23 rfl ?_
  refine w_aln l_198_24 rfl ?_
  refine w_gi (((lPorts P.1) : Nat) : Int) l_198_25 (oModel_sh hm) Z.1.1 ?_
  refine w_pi l_198_28 (oModel_sh hm) ?_
  refine w_aln l_198_31 rfl ?_
  refine w_aln l_198_32 rfl ?_
  refine w_gi (((lRules P.1) : Nat) : Int) l_198_33 (oModel_sh hm) ((up_nj (by omega)).trans (Z.1.2.1)) ?_
  refine w_pi l_198_36 (oModel_sh hm) ?_
  refine w_aln l_198_39 rfl ?_
  refine w_aln l_198_40 rfl ?_
  refine w_gi (((lBuf P.1) : Nat) : Int) l_198_41 (oModel_sh hm) ((up_nj (by omega)).trans ((up_nj (by omega)).trans (Z.1.2.2.1))) ?_
  refine w_pi l_198_44 (oModel_sh hm) ?_
  refine w_aln l_198_47 rfl ?_
  refine w_aln l_198_48 rfl ?_
  refine w_gi (((lAge P.1) : Nat) : Int) l_198_49 (oModel_sh hm) ((up_nj (by omega)).trans ((up_nj (by omega)).trans ((up_nj (by omega)).trans (Z.1.2.2.2.1)))) ?_
  refine w_pi l_198_52 (oModel_sh hm) ?_
  refine w_aln l_198_55 rfl ?_
  refine w_aln l_198_56 rfl ?_
  refine w_gi (((lWait P.1) : Nat) : Int) l_198_57 (oModel_sh hm) ((up_nj (by omega)).trans ((up_nj (by omega)).trans ((up_nj (by omega)).trans ((up_nj (by omega)).trans (Z.1.2.2.2.2.1))))) ?_
  refine w_pi l_198_60 (oModel_sh hm) ?_
  refine w_ic l_198_63 (by decide) ?_
  refine w_isn l_198_64 ⟨Nat.le_of_ble_eq_true rfl, rfl⟩ ?_
  refine lpA_198 (I0 := _) hm (fun J2 c2 => ?_) 4 0 _ rfl ⟨fun _ _ _ => rfl, fun k hk => absurd hk (Nat.not_lt_zero k)⟩
  have m1 : cpA (up (up (up (up (up I1 s 1 ((lPorts P.1 : Nat) : Int)) s 10 ((lRules P.1 : Nat) : Int)) s 7 ((lBuf P.1 : Nat) : Int)) s 8 ((lAge P.1 : Nat) : Int)) s 9 ((lWait P.1 : Nat) : Int)) J2 s 4 := c2
  have hp4 := Z.2.2.1.1.1
  have hr8 := Z.2.2.1.1.2.1
  have e2 : ∀ w, 9 < w → J2 s w = (if w = 10 then ((lRules P.1 : Nat) : Int) else I1 s w) := fun w hw => by
    rw [m1.1 s w (by omega)]
    by_cases h10 : w = 10
    · rw [if_pos h10, h10]
      repeat (first | exact up_eq | rw [up_nj (by decide)])
    · rw [if_neg h10]
      repeat (rw [up_nj (by omega)])
  have e2r : ∀ j, 5 < j → ∀ w, J2 (s + j) w = I1 (s + j) w := fun j hj w => by
    rw [m1.1 _ w (by omega)]
    repeat (rw [up_no (by omega)])
  refine w_ic l_198_136 (by decide) ?_
  refine w_isn l_198_137 ⟨Nat.le_of_ble_eq_true rfl, rfl⟩ ?_
  refine lpB_198 (I0 := J2) hm (fun J3 c3 => ?_) 8 0 _ rfl ⟨fun _ _ _ => rfl, fun k hk => absurd hk (Nat.not_lt_zero k)⟩
  have h39 : J3 s 39 = ((tot : Nat) : Int) := by
    rw [c3.1 s 39 (by omega), e2 39 (by decide), if_neg (by decide)]
    exact Z.1.2.2.2.2.2
  refine w_ic l_198_186 (by decide) ?_
  refine w_isn l_198_187 ⟨Nat.le_of_ble_eq_true rfl, rfl⟩ ?_
  refine lpC_198 (I0 := J3) (tot := tot) hm h39 (by omega) (fun J4 c4 => ?_) (3 * tot) 0 _ (Nat.zero_add _) ⟨fun _ _ _ => rfl, fun k hk => absurd hk (Nat.not_lt_zero k)⟩
  have e4 : ∀ w, J4 s w = J2 s w := fun w => (c4.1 s w (by omega)).trans (c3.1 s w (by omega))
  have l0 : ∀ w v, ((up (up (up (up (up I1 s 1 ((lPorts P.1 : Nat) : Int)) s 10 ((lRules P.1 : Nat) : Int)) s 7 ((lBuf P.1 : Nat) : Int)) s 8 ((lAge P.1 : Nat) : Int)) s 9 ((lWait P.1 : Nat) : Int)) s w = v) → J4 s w = v := fun w v hv => by rw [e4, m1.1 s w (by omega)]; exact hv
  have p1 : J4 s 1 = ((lPorts P.1 : Nat) : Int) := l0 1 _ (by repeat (first | exact up_eq | rw [up_nj (by decide)]))
  have rw5 : ∀ j, 1 ≤ j → j ≤ 5 → ∀ k, k < 4 → J4 (s + j) k = I1 (s + (12 + j)) k := fun j h1 h2 k hk => by
    rw [c4.1 _ _ (by omega), c3.1 _ _ (by omega)]
    have g := m1.2 k hk
    have u : ∀ j, 12 < j → (up (up (up (up (up I1 s 1 ((lPorts P.1 : Nat) : Int)) s 10 ((lRules P.1 : Nat) : Int)) s 7 ((lBuf P.1 : Nat) : Int)) s 8 ((lAge P.1 : Nat) : Int)) s 9 ((lWait P.1 : Nat) : Int)) (s + j) k = I1 (s + j) k := fun j hj => by repeat (rw [up_no (by omega)])
    rcases (show j = 1 ∨ j = 2 ∨ j = 3 ∨ j = 4 ∨ j = 5 by omega) with e | e | e | e | e <;> subst e
    · exact g.1.trans (u 13 (by decide))
    · exact g.2.1.trans (u 14 (by decide))
    · exact g.2.2.1.trans (u 15 (by decide))
    · exact g.2.2.2.1.trans (u 16 (by decide))
    · exact g.2.2.2.2.trans (u 17 (by decide))
  have rw8 : ∀ k, k < 8 → J4 (s + 6) k = I1 (s + 18) k % 2 ∧ J4 (s + 7) k = I1 (s + 19) k ∧ J4 (s + 8) k = I1 (s + 20) k := fun k hk => by
    rw [c4.1 _ _ (by omega), c4.1 (s + 7) _ (by omega), c4.1 (s + 8) _ (by omega)]
    have g := c3.2 k hk
    rw [e2r 18 (by decide), e2r 19 (by decide), e2r 20 (by decide)] at g
    exact g
  have rw9 : ∀ k, k < 3 * tot → J4 (s + 9) k = I1 (s + 21) k := fun k hk => by
    rw [c4.2 k hk, c3.1 _ _ (by omega), e2r 21 (by decide)]
  have fin9 : ∀ J5, nSu J5 s su0 → mfu (up (up J4 s 15 0) s 16 0) J5 s → (RP S T cc zz (fun v I' => v = some (vi ((lPorts P.1 : Nat) : Int)) ∧ MP I' s h P.1 a 0 0 P.2.2 ∧ nSu I' s su0 ∧ mNm I' s P.1 P.2.1 ∧ okPs P ∧ (I' s 0 = 0 ∧ I' s 20 = 0 ∧ I' s 24 = 0 ∧ I' s 23 = -1) ∧ fY I I' s)) (.inl (some (vi ((lPorts P.1 : Nat) : Int)))) (S, J5, T, cc, zz) := by
    intro J5 hsu f5
    have u9 : ∀ j, 1 ≤ j → j ≤ 9 → ∀ k, J5 (s + j) k = J4 (s + j) k := fun j h1 h2 k => by
      rw [f5 _ _ (fun e => by omega) ⟨by omega, by omega⟩]
      repeat (rw [up_no (by omega)])
    have us : ∀ w, w ≠ 15 → w ≠ 16 → (w < 44 ∨ 47 < w) → J5 s w = J4 s w := fun w h1 h2 h3 => by
      rw [f5 _ _ (fun _ => h3) ⟨by omega, by omega⟩]
      repeat (rw [up_nj (by omega)])
    refine ⟨_, _, rfl, rfl, rfl, ⟨⟨by decide, by decide, fun e he => absurd he (Nat.not_lt_zero e), fun k hk => absurd hk (Nat.not_lt_zero k)⟩, ⟨?_, fun p hp => ?_, ?_, ?_, ?_, ?_, fun r hr => ?_, Z.2.2.1.2.2.1⟩, fun r hr => ⟨?_, (Z.2.2.2.1 r hr).2.1, fun k hk => absurd hk (Nat.not_lt_zero k)⟩, ok, Z.2.2.1.1, fun e he => absurd he (Nat.not_lt_zero e), fun k hk => absurd hk (Nat.not_lt_zero k), ?_, ?_⟩, ?_, fun p hp => ⟨Z.2.2.1.2.2.2.2 p hp, ?_⟩, Z.2.2.1, ⟨?_, ?_, ?_, ?_⟩, fun z w g1 g2 => ?_⟩
    · rw [us 1 (by decide) (by decide) (by decide)]; exact p1
    · obtain ⟨g1, g2, g3, g4⟩ := Z.2.1 p hp
      rw [u9 2 (by decide) (by decide), u9 3 (by decide) (by decide), u9 4 (by decide) (by decide), u9 5 (by decide) (by decide), rw5 2 (by decide) (by decide) p (by omega), rw5 3 (by decide) (by decide) p (by omega), rw5 4 (by decide) (by decide) p (by omega), rw5 5 (by decide) (by decide) p (by omega)]
      exact ⟨g2, g3, g4⟩
    · rw [us 7 (by decide) (by decide) (by decide)]; exact l0 7 _ (by repeat (first | exact up_eq | rw [up_nj (by decide)]))
    · rw [us 9 (by decide) (by decide) (by decide)]; exact l0 9 _ (by repeat (first | exact up_eq | rw [up_nj (by decide)]))
    · rw [us 8 (by decide) (by decide) (by decide)]; exact l0 8 _ (by repeat (first | exact up_eq | rw [up_nj (by decide)]))
    · rw [us 10 (by decide) (by decide) (by decide)]; exact l0 10 _ (by repeat (first | exact up_eq | rw [up_nj (by decide)]))
    · rw [u9 6 (by decide) (by decide), (rw8 r (by omega)).1, (Z.2.2.2.1 r hr).1]
      cases lDrop P.1 r <;> rfl
    · obtain ⟨g1, g2, o, g3, g4, g5, g6⟩ := Z.2.2.2.1 r hr
      refine ⟨o, ?_, ?_, by omega, fun j hj => ?_⟩
      · rw [u9 7 (by decide) (by decide), (rw8 r (by omega)).2.1]; exact g3
      · rw [u9 8 (by decide) (by decide), (rw8 r (by omega)).2.2]; exact g4
      · rw [u9 9 (by decide) (by decide), u9 9 (by decide) (by decide), u9 9 (by decide) (by decide), rw9 _ (by omega), rw9 _ (by omega), rw9 _ (by omega)]
        exact g6 j hj
    · rw [f5 _ _ (fun _ => by decide) ⟨by omega, by omega⟩]
      repeat (first | exact up_eq | rw [up_nj (by decide)])
    · rw [f5 _ _ (fun _ => by decide) ⟨by omega, by omega⟩]
      exact up_eq
    · exact hsu
    · rw [u9 1 (by decide) (by decide), rw5 1 (by decide) (by decide) p (by omega)]
      exact (Z.2.1 p hp).1
    · rw [us 0 (by decide) (by decide) (by decide)]
      refine l0 0 _ ?_
      repeat (rw [up_nj (by decide)])
      exact (f1 s 0 (fun _ => by decide) (by omega)).trans up_eq
    · rw [us 20 (by decide) (by decide) (by decide)]
      refine l0 20 _ ?_
      repeat (rw [up_nj (by decide)])
      exact e20
    · rw [us 24 (by decide) (by decide) (by decide)]
      refine l0 24 _ ?_
      repeat (rw [up_nj (by decide)])
      exact e24
    · rw [us 23 (by decide) (by decide) (by decide)]
      refine l0 23 _ ?_
      repeat (rw [up_nj (by decide)])
      exact e23
    · rw [f5 z w (fun e => by have := g1 e; omega) ⟨by omega, by omega⟩]
      repeat (rw [up_out (by omega)])
      rw [c4.1 _ _ (by omega), c3.1 _ _ (by omega), m1.1 _ _ (by omega)]
      repeat (rw [up_out (by omega)])
      exact (f1 z w (fun e => by have := g1 e; omega) (by omega)).trans (up_out (by omega))
  refine w_aln l_198_216 rfl ?_
  refine w_ic l_198_217 (by decide) ?_
  refine w_pi l_198_218 (oModel_sh hm) ?_
  refine w_aln l_198_221 rfl ?_
  refine w_ic l_198_222 (by decide) ?_
  refine w_pi l_198_223 (oModel_sh hm) ?_
  refine w_aln l_198_226 rfl ?_
  refine p_iv [] [] l_198_227 rfl rfl (Nat.le_of_ble_eq_true rfl) (by rw [mx_201]; exact Nat.le_of_ble_eq_true rfl) (by rw [mt_201]; exact oModel_sh hm) (by rw [mt_201]; decide) (by rw [rk_201]; decide) (r_ends hm) (fun v J5 hv => ?_)
  obtain ⟨rfl, hsu, f5⟩ := hv
  have q1 : J5 s 1 = ((lPorts P.1 : Nat) : Int) := (f5 s 1 (fun _ => by decide) ⟨by omega, by omega⟩).trans ((up_nj (by decide)).trans ((up_nj (by decide)).trans p1))
  refine w_aln l_198_230 rfl ?_
  refine w_gi (((lPorts P.1) : Nat) : Int) l_198_231 (oModel_sh hm) q1 ?_
  refine w_ir l_198_234 (Or.inl rfl) ?_
  exact fin9 J5 hsu f5
end RGH
