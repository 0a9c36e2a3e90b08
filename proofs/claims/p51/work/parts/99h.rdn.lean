/-! the class's reader: tokens -/
theorem skw_t {t : Nat → Int} {n i : Nat} (h : i < n) (hf : t i = 32 ∨ t i = 9 ∨ t i = 10) : skw t n i = skw t n (i + 1) := runX_t h (by unfold isWs; simp only [Bool.or_eq_true, decide_eq_true_eq]; omega)
theorem skw_f {t : Nat → Int} {n i : Nat} (h : ¬ (i < n ∧ (t i = 32 ∨ t i = 9 ∨ t i = 10))) : skw t n i = i := runX_f (by
  rintro ⟨q1, q2⟩
  unfold isWs at q2
  simp only [Bool.or_eq_true, decide_eq_true_eq] at q2
  exact h ⟨q1, by omega⟩)
theorem isLo_iff {b : Int} : isLo b = true ↔ 97 ≤ b ∧ b ≤ 122 := by unfold isLo; simp only [Bool.and_eq_true, decide_eq_true_eq]
theorem isDg_iff {b : Int} : isDg b = true ↔ 48 ≤ b ∧ b ≤ 57 := by unfold isDg; simp only [Bool.and_eq_true, decide_eq_true_eq]
theorem wEnd_t {t : Nat → Int} {n i : Nat} (h : i < n) (hf : 97 ≤ t i ∧ t i ≤ 122) : wEnd t n i = wEnd t n (i + 1) := runX_t h (isLo_iff.mpr hf)
theorem wEnd_f {t : Nat → Int} {n i : Nat} (h : ¬ (i < n ∧ 97 ≤ t i ∧ t i ≤ 122)) : wEnd t n i = i := runX_f (fun q => h ⟨q.1, isLo_iff.mp q.2⟩)
theorem dEnd_t {t : Nat → Int} {n i : Nat} (h : i < n) (hf : 48 ≤ t i ∧ t i ≤ 57) : dEnd t n i = dEnd t n (i + 1) := runX_t h (isDg_iff.mpr hf)
theorem dEnd_f {t : Nat → Int} {n i : Nat} (h : ¬ (i < n ∧ 48 ≤ t i ∧ t i ≤ 57)) : dEnd t n i = i := runX_f (fun q => h ⟨q.1, isDg_iff.mp q.2⟩)
theorem skw_ge {t : Nat → Int} {n i : Nat} : i ≤ skw t n i := runX_ge _ _
theorem skw_le {t : Nat → Int} {n i : Nat} (h : i ≤ n) : skw t n i ≤ n := runX_le _ _ h
theorem wEnd_ge {t : Nat → Int} {n i : Nat} : i ≤ wEnd t n i := runX_ge _ _
theorem wEnd_le {t : Nat → Int} {n i : Nat} (h : i ≤ n) : wEnd t n i ≤ n := runX_le _ _ h
theorem dEnd_ge {t : Nat → Int} {n i : Nat} : i ≤ dEnd t n i := runX_ge _ _
theorem dEnd_le {t : Nat → Int} {n i : Nat} (h : i ≤ n) : dEnd t n i ≤ n := runX_le _ _ h
theorem wEnd_gt {t : Nat → Int} {n i : Nat} (h : i < n) (hf : 97 ≤ t i ∧ t i ≤ 122) : i < wEnd t n i := by
  rw [wEnd_t h hf]; exact wEnd_ge
theorem dEnd_gt {t : Nat → Int} {n i : Nat} (h : i < n) (hf : 48 ≤ t i ∧ t i ≤ 57) : i < dEnd t n i := by
  rw [dEnd_t h hf]; exact dEnd_ge
theorem tEnd_ge {t : Nat → Int} {n p : Nat} : p ≤ tEnd t n p := by
  unfold tEnd
  split
  · split
    · exact wEnd_ge
    · split
      · exact dEnd_ge
      · omega
  · exact Nat.le_refl _
theorem tEnd_le {t : Nat → Int} {n p : Nat} (h : p ≤ n) : tEnd t n p ≤ n := by
  unfold tEnd
  split
  · split
    · exact wEnd_le h
    · split
      · exact dEnd_le h
      · omega
  · exact h
theorem tEnd_gt {t : Nat → Int} {n p : Nat} (h : p < n) : p < tEnd t n p := by
  unfold tEnd
  rw [if_pos h]
  split
  · rename_i q; exact wEnd_gt h (isLo_iff.mp q)
  · split
    · rename_i q; exact dEnd_gt h (isDg_iff.mp q)
    · omega
theorem nxt_le {t : Nat → Int} {n p : Nat} (h : p ≤ n) : nxt t n p ≤ n := skw_le (tEnd_le h)
theorem nxt_ge {t : Nat → Int} {n p : Nat} : p ≤ nxt t n p := Nat.le_trans tEnd_ge skw_ge
theorem nxt_gt {t : Nat → Int} {n p : Nat} (h : p < n) : p < nxt t n p := Nat.lt_of_lt_of_le (tEnd_gt h) skw_ge
theorem tkk_1 {t : Nat → Int} {n p : Nat} : tkk t n p = 1 ↔ p < n ∧ 97 ≤ t p ∧ t p ≤ 122 := by
  unfold tkk
  rw [← isLo_iff]
  split
  · rename_i h
    split
    · rename_i h2; simp [h, h2]
    · rename_i h2; split <;> simp [h, h2]
  · rename_i h; simp [h]
theorem tkk_2 {t : Nat → Int} {n p : Nat} : tkk t n p = 2 ↔ p < n ∧ 48 ≤ t p ∧ t p ≤ 57 := by
  unfold tkk
  rw [← isDg_iff]
  split
  · rename_i h
    split
    · rename_i h2
      rw [isLo_iff] at h2
      rw [isDg_iff]
      omega
    · split
      · rename_i h2; simp [h, h2]
      · rename_i h2; simp [h2]
  · rename_i h; simp [h]
theorem tkk_0 {t : Nat → Int} {n p : Nat} : tkk t n p = 0 ↔ ¬ p < n := by
  unfold tkk
  split
  · rename_i h
    split
    · simp [h]
    · split <;> simp [h]
  · rename_i h; simp [h]
theorem tkk_le {t : Nat → Int} {n p : Nat} : tkk t n p ≤ 3 := by
  unfold tkk
  split
  · split
    · decide
    · split <;> decide
  · decide
/-- the reader's text, its token -/
def rTx (I : Ix) (s x : Nat) (t : Nat → Int) (n : Nat) : Prop := I s 4 = (n : Int) ∧ n ≤ 600 ∧ ∀ j, j < n → I x j = t j
def rTk (I : Ix) (s : Nat) (t : Nat → Int) (n p : Nat) : Prop := I s 5 = ((tEnd t n p : Nat) : Int) ∧ I s 6 = (p : Int) ∧ I s 7 = ((tkk t n p : Nat) : Int) ∧ p ≤ n
def RT (I : Ix) (s x : Nat) (t : Nat → Int) (n p : Nat) : Prop := rTx I s x t n ∧ rTk I s t n p
/-- all but the token -/
def fN (I J : Ix) (s : Nat) : Prop := ∀ z w, (z = s → w ≠ 5 ∧ w ≠ 6 ∧ w ≠ 7) → J z w = I z w
theorem fN.rf (I : Ix) (s : Nat) : fN I I s := fun _ _ _ => rfl
theorem fN.up {I J : Ix} {s j : Nat} {v : Int} (f : fN I J s) (hj : j = 5 ∨ j = 6 ∨ j = 7) : fN I (up J s j v) s := fun z w h => (up_out (by omega)).trans (f z w h)
theorem rTx.fN {I J : Ix} {s x : Nat} {t : Nat → Int} {n : Nat} (H : rTx I s x t n) (hx : x ≠ s) (f : fN I J s) : rTx J s x t n := ⟨(f s 4 (fun _ => by decide)).trans H.1, H.2.1, fun j hj => (f x j (fun e => absurd e hx)).trans (H.2.2 j hj)⟩
theorem oReader_ne {S : List (Nat × Nat)} {T : Nat → Nat → Nat} {s x y : Nat} (o : oReader S T s x y) : x ≠ s := fun e => by
  have h1 := oReader_sh o
  have h2 := oReader_s3 o
  rw [e, h1] at h2
  cases h2
section RDN
variable {xs : List Int} {S : List (Nat × Nat)} {T : Nat → Nat → Nat} {cc zz s x y : Nat} {I I' : Ix} {t : Nat → Int} {n : Nat}

theorem mx_32 : mxl 32 = 1 := by decide +kernel
theorem mt_32 : mtc 32 = 4 := by decide +kernel
theorem rk_32 (as : List AV) : rkA 32 as = 0 := rfl
theorem l_32_0 : look 32 0 = some (.aload_n 0, 1, 0, 0, 0, 0) := by decide +kernel
theorem l_32_1 : look 32 1 = some (.getfield 38, 3, 4, 5, 0, 469) := by decide +kernel
theorem l_32_4 : look 32 4 = some (.aload_n 0, 1, 0, 0, 0, 0) := by decide +kernel
theorem l_32_5 : look 32 5 = some (.getfield 35, 3, 4, 4, 0, 468) := by decide +kernel
theorem l_32_8 : look 32 8 = some (.if_icmp .ge 58, 3, 0, 0, 0, 0) := by decide +kernel
theorem l_32_11 : look 32 11 = some (.aload_n 0, 1, 0, 0, 0, 0) := by decide +kernel
theorem l_32_12 : look 32 12 = some (.getfield 25, 3, 4, 3, 2, 467) := by decide +kernel
theorem l_32_15 : look 32 15 = some (.aload_n 0, 1, 0, 0, 0, 0) := by decide +kernel
theorem l_32_16 : look 32 16 = some (.getfield 38, 3, 4, 5, 0, 469) := by decide +kernel
theorem l_32_19 : look 32 19 = some (.baload, 1, 0, 0, 0, 0) := by decide +kernel
theorem l_32_20 : look 32 20 = some (.bipush 32, 2, 0, 0, 0, 0) := by decide +kernel
theorem l_32_22 : look 32 22 = some (.if_icmp .eq 31, 3, 0, 0, 0, 0) := by decide +kernel
theorem l_32_25 : look 32 25 = some (.aload_n 0, 1, 0, 0, 0, 0) := by decide +kernel
theorem l_32_26 : look 32 26 = some (.getfield 25, 3, 4, 3, 2, 467) := by decide +kernel
theorem l_32_29 : look 32 29 = some (.aload_n 0, 1, 0, 0, 0, 0) := by decide +kernel
theorem l_32_30 : look 32 30 = some (.getfield 38, 3, 4, 5, 0, 469) := by decide +kernel
theorem l_32_33 : look 32 33 = some (.baload, 1, 0, 0, 0, 0) := by decide +kernel
theorem l_32_34 : look 32 34 = some (.bipush 9, 2, 0, 0, 0, 0) := by decide +kernel
theorem l_32_36 : look 32 36 = some (.if_icmp .eq 17, 3, 0, 0, 0, 0) := by decide +kernel
theorem l_32_39 : look 32 39 = some (.aload_n 0, 1, 0, 0, 0, 0) := by decide +kernel
theorem l_32_40 : look 32 40 = some (.getfield 25, 3, 4, 3, 2, 467) := by decide +kernel
theorem l_32_43 : look 32 43 = some (.aload_n 0, 1, 0, 0, 0, 0) := by decide +kernel
theorem l_32_44 : look 32 44 = some (.getfield 38, 3, 4, 5, 0, 469) := by decide +kernel
theorem l_32_47 : look 32 47 = some (.baload, 1, 0, 0, 0, 0) := by decide +kernel
theorem l_32_48 : look 32 48 = some (.bipush 10, 2, 0, 0, 0, 0) := by decide +kernel
theorem l_32_50 : look 32 50 = some (.if_icmp .ne 16, 3, 0, 0, 0, 0) := by decide +kernel
theorem l_32_53 : look 32 53 = some (.aload_n 0, 1, 0, 0, 0, 0) := by decide +kernel
theorem l_32_54 : look 32 54 = some (.dup, 1, 0, 0, 0, 0) := by decide +kernel
theorem l_32_55 : look 32 55 = some (.getfield 38, 3, 4, 5, 0, 469) := by decide +kernel
theorem l_32_58 : look 32 58 = some (.iconst 1, 1, 0, 0, 0, 0) := by decide +kernel
theorem l_32_59 : look 32 59 = some (.iadd, 1, 0, 0, 0, 0) := by decide +kernel
theorem l_32_60 : look 32 60 = some (.putfield 38, 3, 4, 5, 0, 469) := by decide +kernel
theorem l_32_63 : look 32 63 = some (.goto (-63), 3, 0, 0, 0, 0) := by decide +kernel
theorem l_32_66 : look 32 66 = some (.aload_n 0, 1, 0, 0, 0, 0) := by decide +kernel
theorem l_32_67 : look 32 67 = some (.aload_n 0, 1, 0, 0, 0, 0) := by decide +kernel
theorem l_32_68 : look 32 68 = some (.getfield 38, 3, 4, 5, 0, 469) := by decide +kernel
theorem l_32_71 : look 32 71 = some (.putfield 79, 3, 4, 6, 0, 470) := by decide +kernel
theorem l_32_74 : look 32 74 = some (.aload_n 0, 1, 0, 0, 0, 0) := by decide +kernel
theorem l_32_75 : look 32 75 = some (.iconst 0, 1, 0, 0, 0, 0) := by decide +kernel
theorem l_32_76 : look 32 76 = some (.putfield 47, 3, 4, 7, 0, 471) := by decide +kernel
theorem l_32_79 : look 32 79 = some (.aload_n 0, 1, 0, 0, 0, 0) := by decide +kernel
theorem l_32_80 : look 32 80 = some (.getfield 38, 3, 4, 5, 0, 469) := by decide +kernel
theorem l_32_83 : look 32 83 = some (.aload_n 0, 1, 0, 0, 0, 0) := by decide +kernel
theorem l_32_84 : look 32 84 = some (.getfield 35, 3, 4, 4, 0, 468) := by decide +kernel
theorem l_32_87 : look 32 87 = some (.if_icmp .ge 49, 3, 0, 0, 0, 0) := by decide +kernel
theorem l_32_90 : look 32 90 = some (.aload_n 0, 1, 0, 0, 0, 0) := by decide +kernel
theorem l_32_91 : look 32 91 = some (.getfield 25, 3, 4, 3, 2, 467) := by decide +kernel
theorem l_32_94 : look 32 94 = some (.aload_n 0, 1, 0, 0, 0, 0) := by decide +kernel
theorem l_32_95 : look 32 95 = some (.getfield 38, 3, 4, 5, 0, 469) := by decide +kernel
theorem l_32_98 : look 32 98 = some (.baload, 1, 0, 0, 0, 0) := by decide +kernel
theorem l_32_99 : look 32 99 = some (.bipush 97, 2, 0, 0, 0, 0) := by decide +kernel
theorem l_32_101 : look 32 101 = some (.if_icmp .lt 35, 3, 0, 0, 0, 0) := by decide +kernel
theorem l_32_104 : look 32 104 = some (.aload_n 0, 1, 0, 0, 0, 0) := by decide +kernel
theorem l_32_105 : look 32 105 = some (.getfield 25, 3, 4, 3, 2, 467) := by decide +kernel
theorem l_32_108 : look 32 108 = some (.aload_n 0, 1, 0, 0, 0, 0) := by decide +kernel
theorem l_32_109 : look 32 109 = some (.getfield 38, 3, 4, 5, 0, 469) := by decide +kernel
theorem l_32_112 : look 32 112 = some (.baload, 1, 0, 0, 0, 0) := by decide +kernel
theorem l_32_113 : look 32 113 = some (.bipush 122, 2, 0, 0, 0, 0) := by decide +kernel
theorem l_32_115 : look 32 115 = some (.if_icmp .gt 21, 3, 0, 0, 0, 0) := by decide +kernel
theorem l_32_118 : look 32 118 = some (.aload_n 0, 1, 0, 0, 0, 0) := by decide +kernel
theorem l_32_119 : look 32 119 = some (.iconst 1, 1, 0, 0, 0, 0) := by decide +kernel
theorem l_32_120 : look 32 120 = some (.putfield 47, 3, 4, 7, 0, 471) := by decide +kernel
theorem l_32_123 : look 32 123 = some (.aload_n 0, 1, 0, 0, 0, 0) := by decide +kernel
theorem l_32_124 : look 32 124 = some (.dup, 1, 0, 0, 0, 0) := by decide +kernel
theorem l_32_125 : look 32 125 = some (.getfield 38, 3, 4, 5, 0, 469) := by decide +kernel
theorem l_32_128 : look 32 128 = some (.iconst 1, 1, 0, 0, 0, 0) := by decide +kernel
theorem l_32_129 : look 32 129 = some (.iadd, 1, 0, 0, 0, 0) := by decide +kernel
theorem l_32_130 : look 32 130 = some (.putfield 38, 3, 4, 5, 0, 469) := by decide +kernel
theorem l_32_133 : look 32 133 = some (.goto (-54), 3, 0, 0, 0, 0) := by decide +kernel
theorem l_32_136 : look 32 136 = some (.aload_n 0, 1, 0, 0, 0, 0) := by decide +kernel
theorem l_32_137 : look 32 137 = some (.getfield 38, 3, 4, 5, 0, 469) := by decide +kernel
theorem l_32_140 : look 32 140 = some (.aload_n 0, 1, 0, 0, 0, 0) := by decide +kernel
theorem l_32_141 : look 32 141 = some (.getfield 35, 3, 4, 4, 0, 468) := by decide +kernel
theorem l_32_144 : look 32 144 = some (.if_icmp .ge 57, 3, 0, 0, 0, 0) := by decide +kernel
theorem l_32_147 : look 32 147 = some (.aload_n 0, 1, 0, 0, 0, 0) := by decide +kernel
theorem l_32_148 : look 32 148 = some (.getfield 47, 3, 4, 7, 0, 471) := by decide +kernel
theorem l_32_151 : look 32 151 = some (.iconst 1, 1, 0, 0, 0, 0) := by decide +kernel
theorem l_32_152 : look 32 152 = some (.if_icmp .eq 49, 3, 0, 0, 0, 0) := by decide +kernel
theorem l_32_155 : look 32 155 = some (.aload_n 0, 1, 0, 0, 0, 0) := by decide +kernel
theorem l_32_156 : look 32 156 = some (.getfield 25, 3, 4, 3, 2, 467) := by decide +kernel
theorem l_32_159 : look 32 159 = some (.aload_n 0, 1, 0, 0, 0, 0) := by decide +kernel
theorem l_32_160 : look 32 160 = some (.getfield 38, 3, 4, 5, 0, 469) := by decide +kernel
theorem l_32_163 : look 32 163 = some (.baload, 1, 0, 0, 0, 0) := by decide +kernel
theorem l_32_164 : look 32 164 = some (.bipush 48, 2, 0, 0, 0, 0) := by decide +kernel
theorem l_32_166 : look 32 166 = some (.if_icmp .lt 35, 3, 0, 0, 0, 0) := by decide +kernel
theorem l_32_169 : look 32 169 = some (.aload_n 0, 1, 0, 0, 0, 0) := by decide +kernel
theorem l_32_170 : look 32 170 = some (.getfield 25, 3, 4, 3, 2, 467) := by decide +kernel
theorem l_32_173 : look 32 173 = some (.aload_n 0, 1, 0, 0, 0, 0) := by decide +kernel
theorem l_32_174 : look 32 174 = some (.getfield 38, 3, 4, 5, 0, 469) := by decide +kernel
theorem l_32_177 : look 32 177 = some (.baload, 1, 0, 0, 0, 0) := by decide +kernel
theorem l_32_178 : look 32 178 = some (.bipush 57, 2, 0, 0, 0, 0) := by decide +kernel
theorem l_32_180 : look 32 180 = some (.if_icmp .gt 21, 3, 0, 0, 0, 0) := by decide +kernel
theorem l_32_183 : look 32 183 = some (.aload_n 0, 1, 0, 0, 0, 0) := by decide +kernel
theorem l_32_184 : look 32 184 = some (.iconst 2, 1, 0, 0, 0, 0) := by decide +kernel
theorem l_32_185 : look 32 185 = some (.putfield 47, 3, 4, 7, 0, 471) := by decide +kernel
theorem l_32_188 : look 32 188 = some (.aload_n 0, 1, 0, 0, 0, 0) := by decide +kernel
theorem l_32_189 : look 32 189 = some (.dup, 1, 0, 0, 0, 0) := by decide +kernel
theorem l_32_190 : look 32 190 = some (.getfield 38, 3, 4, 5, 0, 469) := by decide +kernel
theorem l_32_193 : look 32 193 = some (.iconst 1, 1, 0, 0, 0, 0) := by decide +kernel
theorem l_32_194 : look 32 194 = some (.iadd, 1, 0, 0, 0, 0) := by decide +kernel
theorem l_32_195 : look 32 195 = some (.putfield 38, 3, 4, 5, 0, 469) := by decide +kernel
theorem l_32_198 : look 32 198 = some (.goto (-62), 3, 0, 0, 0, 0) := by decide +kernel
theorem l_32_201 : look 32 201 = some (.aload_n 0, 1, 0, 0, 0, 0) := by decide +kernel
theorem l_32_202 : look 32 202 = some (.getfield 38, 3, 4, 5, 0, 469) := by decide +kernel
theorem l_32_205 : look 32 205 = some (.aload_n 0, 1, 0, 0, 0, 0) := by decide +kernel
theorem l_32_206 : look 32 206 = some (.getfield 35, 3, 4, 4, 0, 468) := by decide +kernel
theorem l_32_209 : look 32 209 = some (.if_icmp .ge 25, 3, 0, 0, 0, 0) := by decide +kernel
theorem l_32_212 : look 32 212 = some (.aload_n 0, 1, 0, 0, 0, 0) := by decide +kernel
theorem l_32_213 : look 32 213 = some (.getfield 47, 3, 4, 7, 0, 471) := by decide +kernel
theorem l_32_216 : look 32 216 = some (.ifCond .ne 18, 3, 0, 0, 0, 0) := by decide +kernel
theorem l_32_219 : look 32 219 = some (.aload_n 0, 1, 0, 0, 0, 0) := by decide +kernel
theorem l_32_220 : look 32 220 = some (.iconst 3, 1, 0, 0, 0, 0) := by decide +kernel
theorem l_32_221 : look 32 221 = some (.putfield 47, 3, 4, 7, 0, 471) := by decide +kernel
theorem l_32_224 : look 32 224 = some (.aload_n 0, 1, 0, 0, 0, 0) := by decide +kernel
theorem l_32_225 : look 32 225 = some (.dup, 1, 0, 0, 0, 0) := by decide +kernel
theorem l_32_226 : look 32 226 = some (.getfield 38, 3, 4, 5, 0, 469) := by decide +kernel
theorem l_32_229 : look 32 229 = some (.iconst 1, 1, 0, 0, 0, 0) := by decide +kernel
theorem l_32_230 : look 32 230 = some (.iadd, 1, 0, 0, 0, 0) := by decide +kernel
theorem l_32_231 : look 32 231 = some (.putfield 38, 3, 4, 5, 0, 469) := by decide +kernel
theorem l_32_234 : look 32 234 = some (.return_, 1, 0, 0, 0, 0) := by decide +kernel
theorem lp_32a {I0 : Ix} (o : oReader S T s x y) (hX : ∀ J, fN I0 J s → rTx J s x t n) {K : Nat} {Q : Res → Mem → Prop} (kk : ∀ J, fN I0 J s → J s 5 = ((K : Nat) : Int) → WP xs 32 0 66 [vr s] [] (S, J, T, cc, zz) Q) : ∀ d i J, n ≤ i + d → i ≤ n → skw t n i = K → fN I0 J s → J s 5 = ((i : Nat) : Int) → WP xs 32 0 0 [vr s] [] (S, J, T, cc, zz) Q := by
  intro d
  induction d with
  | zero =>
    intro i J hn hi hK f h5
    have h600 := (hX J f).2.1
    refine w_aln l_32_0 rfl ?_
    refine w_gi ((i : Nat) : Int) l_32_1 (oReader_sh o) h5 ?_
    refine w_aln l_32_4 rfl ?_
    refine w_gi ((n : Nat) : Int) l_32_5 (oReader_sh o) ((hX J f).1) ?_
    refine w_cge 66 l_32_8 (by decide) (fun _ => ?_) (fun hx => absurd hx (by omega))
    exact kk J f (by rw [← hK, skw_f (by omega)]; exact h5)
  | succ d ih =>
    intro i J hn hi hK f h5
    have h600 := (hX J f).2.1
    refine w_aln l_32_0 rfl ?_
    refine w_gi ((i : Nat) : Int) l_32_1 (oReader_sh o) h5 ?_
    refine w_aln l_32_4 rfl ?_
    refine w_gi ((n : Nat) : Int) l_32_5 (oReader_sh o) ((hX J f).1) ?_
    refine w_cge 66 l_32_8 (by decide) (fun h1 => ?_) (fun h1 => ?_)
    · skip
      exact kk J f (by rw [← hK, skw_f (by omega)]; exact h5)
    · skip
      refine w_aln l_32_11 rfl ?_
      refine w_gr l_32_12 (oReader_sh o) (oReader_r3 o) ?_
      refine w_aln l_32_15 rfl ?_
      refine w_gi ((i : Nat) : Int) l_32_16 (oReader_sh o) h5 ?_
      refine w_ba i (t i) l_32_19 (Or.inl (oReader_s3 o)) rfl (by omega) ((hX J f).2.2 i (by omega)) ?_
      refine w_bp l_32_20 (by decide) ?_
      refine w_ceq 53 l_32_22 (by decide) (fun h2 => ?_) (fun h2 => ?_)
      · skip
        refine w_aln l_32_53 rfl ?_
        refine w_dup l_32_54 rfl ?_
        refine w_gi ((i : Nat) : Int) l_32_55 (oReader_sh o) h5 ?_
        refine w_ic l_32_58 (by decide) ?_
        refine w_add (((i + 1) : Nat) : Int) l_32_59 (by unfold wr; omega) ?_
        refine w_pi l_32_60 (oReader_sh o) ?_
        refine w_go 0 l_32_63 (by decide) ?_
        exact ih (i + 1) _ (by omega) (by omega) (by rw [← skw_t (by omega) (by omega)]; exact hK) (f.up (Or.inl rfl)) up_eq
      · skip
        refine w_aln l_32_25 rfl ?_
        refine w_gr l_32_26 (oReader_sh o) (oReader_r3 o) ?_
        refine w_aln l_32_29 rfl ?_
        refine w_gi ((i : Nat) : Int) l_32_30 (oReader_sh o) h5 ?_
        refine w_ba i (t i) l_32_33 (Or.inl (oReader_s3 o)) rfl (by omega) ((hX J f).2.2 i (by omega)) ?_
        refine w_bp l_32_34 (by decide) ?_
        refine w_ceq 53 l_32_36 (by decide) (fun h3 => ?_) (fun h3 => ?_)
        · skip
          refine w_aln l_32_53 rfl ?_
          refine w_dup l_32_54 rfl ?_
          refine w_gi ((i : Nat) : Int) l_32_55 (oReader_sh o) h5 ?_
          refine w_ic l_32_58 (by decide) ?_
          refine w_add (((i + 1) : Nat) : Int) l_32_59 (by unfold wr; omega) ?_
          refine w_pi l_32_60 (oReader_sh o) ?_
          refine w_go 0 l_32_63 (by decide) ?_
          exact ih (i + 1) _ (by omega) (by omega) (by rw [← skw_t (by omega) (by omega)]; exact hK) (f.up (Or.inl rfl)) up_eq
        · skip
          refine w_aln l_32_39 rfl ?_
          refine w_gr l_32_40 (oReader_sh o) (oReader_r3 o) ?_
          refine w_aln l_32_43 rfl ?_
          refine w_gi ((i : Nat) : Int) l_32_44 (oReader_sh o) h5 ?_
          refine w_ba i (t i) l_32_47 (Or.inl (oReader_s3 o)) rfl (by omega) ((hX J f).2.2 i (by omega)) ?_
          refine w_bp l_32_48 (by decide) ?_
          refine w_cne 66 l_32_50 (by decide) (fun h4 => ?_) (fun h4 => ?_)
          · skip
            exact kk J f (by rw [← hK, skw_f (by omega)]; exact h5)
          · skip
            refine w_aln l_32_53 rfl ?_
            refine w_dup l_32_54 rfl ?_
            refine w_gi ((i : Nat) : Int) l_32_55 (oReader_sh o) h5 ?_
            refine w_ic l_32_58 (by decide) ?_
            refine w_add (((i + 1) : Nat) : Int) l_32_59 (by unfold wr; omega) ?_
            refine w_pi l_32_60 (oReader_sh o) ?_
            refine w_go 0 l_32_63 (by decide) ?_
            exact ih (i + 1) _ (by omega) (by omega) (by rw [← skw_t (by omega) (by omega)]; exact hK) (f.up (Or.inl rfl)) up_eq
theorem lp_32b {I0 : Ix} (o : oReader S T s x y) (hX : ∀ J, fN I0 J s → rTx J s x t n) {K : Nat} {p : Nat} {Q : Res → Mem → Prop} (kk : ∀ J, fN I0 J s → J s 5 = ((K : Nat) : Int) → J s 6 = ((p : Nat) : Int) → J s 7 = (if K = p then 0 else 1) → WP xs 32 0 136 [vr s] [] (S, J, T, cc, zz) Q) : ∀ d i J, n ≤ i + d → i ≤ n → wEnd t n i = K → p ≤ i → J s 6 = ((p : Nat) : Int) → J s 7 = (if i = p then 0 else 1) → fN I0 J s → J s 5 = ((i : Nat) : Int) → WP xs 32 0 79 [vr s] [] (S, J, T, cc, zz) Q := by
  intro d
  induction d with
  | zero =>
    intro i J hn hi hK hpi h6 h7 f h5
    have h600 := (hX J f).2.1
    refine w_aln l_32_79 rfl ?_
    refine w_gi ((i : Nat) : Int) l_32_80 (oReader_sh o) h5 ?_
    refine w_aln l_32_83 rfl ?_
    refine w_gi ((n : Nat) : Int) l_32_84 (oReader_sh o) ((hX J f).1) ?_
    refine w_cge 136 l_32_87 (by decide) (fun _ => ?_) (fun hx => absurd hx (by omega))
    exact kk J f (by rw [← hK, wEnd_f (by omega)]; exact h5) h6 (by rw [← hK, wEnd_f (by omega)]; exact h7)
  | succ d ih =>
    intro i J hn hi hK hpi h6 h7 f h5
    have h600 := (hX J f).2.1
    refine w_aln l_32_79 rfl ?_
    refine w_gi ((i : Nat) : Int) l_32_80 (oReader_sh o) h5 ?_
    refine w_aln l_32_83 rfl ?_
    refine w_gi ((n : Nat) : Int) l_32_84 (oReader_sh o) ((hX J f).1) ?_
    refine w_cge 136 l_32_87 (by decide) (fun h1 => ?_) (fun h1 => ?_)
    · skip
      exact kk J f (by rw [← hK, wEnd_f (by omega)]; exact h5) h6 (by rw [← hK, wEnd_f (by omega)]; exact h7)
    · skip
      refine w_aln l_32_90 rfl ?_
      refine w_gr l_32_91 (oReader_sh o) (oReader_r3 o) ?_
      refine w_aln l_32_94 rfl ?_
      refine w_gi ((i : Nat) : Int) l_32_95 (oReader_sh o) h5 ?_
      refine w_ba i (t i) l_32_98 (Or.inl (oReader_s3 o)) rfl (by omega) ((hX J f).2.2 i (by omega)) ?_
      refine w_bp l_32_99 (by decide) ?_
      refine w_clt 136 l_32_101 (by decide) (fun h2 => ?_) (fun h2 => ?_)
      · skip
        exact kk J f (by rw [← hK, wEnd_f (by omega)]; exact h5) h6 (by rw [← hK, wEnd_f (by omega)]; exact h7)
      · skip
        refine w_aln l_32_104 rfl ?_
        refine w_gr l_32_105 (oReader_sh o) (oReader_r3 o) ?_
        refine w_aln l_32_108 rfl ?_
        refine w_gi ((i : Nat) : Int) l_32_109 (oReader_sh o) h5 ?_
        refine w_ba i (t i) l_32_112 (Or.inl (oReader_s3 o)) rfl (by omega) ((hX J f).2.2 i (by omega)) ?_
        refine w_bp l_32_113 (by decide) ?_
        refine w_cgt 136 l_32_115 (by decide) (fun h3 => ?_) (fun h3 => ?_)
        · skip
          exact kk J f (by rw [← hK, wEnd_f (by omega)]; exact h5) h6 (by rw [← hK, wEnd_f (by omega)]; exact h7)
        · skip
          refine w_aln l_32_118 rfl ?_
          refine w_ic l_32_119 (by decide) ?_
          refine w_pi l_32_120 (oReader_sh o) ?_
          refine w_aln l_32_123 rfl ?_
          refine w_dup l_32_124 rfl ?_
          refine w_gi ((i : Nat) : Int) l_32_125 (oReader_sh o) ((up_nj (by omega)).trans (h5)) ?_
          refine w_ic l_32_128 (by decide) ?_
          refine w_add (((i + 1) : Nat) : Int) l_32_129 (by unfold wr; omega) ?_
          refine w_pi l_32_130 (oReader_sh o) ?_
          refine w_go 79 l_32_133 (by decide) ?_
          exact ih (i + 1) _ (by omega) (by omega) (by rw [← wEnd_t (by omega) (by omega)]; exact hK) (by omega) ((up_nj (by decide)).trans ((up_nj (by decide)).trans h6)) (((up_nj (by decide)).trans up_eq).trans (if_neg (by omega)).symm) ((f.up (Or.inr (Or.inr rfl))).up (Or.inl rfl)) up_eq
theorem lp_32c {I0 : Ix} (o : oReader S T s x y) (hX : ∀ J, fN I0 J s → rTx J s x t n) {K : Nat} {p : Nat} {Q : Res → Mem → Prop} (kk : ∀ J, fN I0 J s → J s 5 = ((K : Nat) : Int) → J s 6 = ((p : Nat) : Int) → J s 7 = (if K = p then 0 else 2) → WP xs 32 0 201 [vr s] [] (S, J, T, cc, zz) Q) : ∀ d i J, n ≤ i + d → i ≤ n → dEnd t n i = K → p ≤ i → J s 6 = ((p : Nat) : Int) → J s 7 = (if i = p then 0 else 2) → fN I0 J s → J s 5 = ((i : Nat) : Int) → WP xs 32 0 136 [vr s] [] (S, J, T, cc, zz) Q := by
  intro d
  induction d with
  | zero =>
    intro i J hn hi hK hpi h6 h7 f h5
    have h600 := (hX J f).2.1
    refine w_aln l_32_136 rfl ?_
    refine w_gi ((i : Nat) : Int) l_32_137 (oReader_sh o) h5 ?_
    refine w_aln l_32_140 rfl ?_
    refine w_gi ((n : Nat) : Int) l_32_141 (oReader_sh o) ((hX J f).1) ?_
    refine w_cge 201 l_32_144 (by decide) (fun _ => ?_) (fun hx => absurd hx (by omega))
    first
    | (exfalso
       split at h7 <;> omega)
    | exact kk J f (by rw [← hK, dEnd_f (by omega)]; exact h5) h6 (by rw [← hK, dEnd_f (by omega)]; exact h7)
  | succ d ih =>
    intro i J hn hi hK hpi h6 h7 f h5
    have h600 := (hX J f).2.1
    refine w_aln l_32_136 rfl ?_
    refine w_gi ((i : Nat) : Int) l_32_137 (oReader_sh o) h5 ?_
    refine w_aln l_32_140 rfl ?_
    refine w_gi ((n : Nat) : Int) l_32_141 (oReader_sh o) ((hX J f).1) ?_
    refine w_cge 201 l_32_144 (by decide) (fun h1 => ?_) (fun h1 => ?_)
    · skip
      first
      | (exfalso
         split at h7 <;> omega)
      | exact kk J f (by rw [← hK, dEnd_f (by omega)]; exact h5) h6 (by rw [← hK, dEnd_f (by omega)]; exact h7)
    · skip
      refine w_aln l_32_147 rfl ?_
      refine w_gi (J s 7) l_32_148 (oReader_sh o) rfl ?_
      refine w_ic l_32_151 (by decide) ?_
      refine w_ceq 201 l_32_152 (by decide) (fun h2 => ?_) (fun h2 => ?_)
      · skip
        first
        | (exfalso
           split at h7 <;> omega)
        | exact kk J f (by rw [← hK, dEnd_f (by omega)]; exact h5) h6 (by rw [← hK, dEnd_f (by omega)]; exact h7)
      · skip
        refine w_aln l_32_155 rfl ?_
        refine w_gr l_32_156 (oReader_sh o) (oReader_r3 o) ?_
        refine w_aln l_32_159 rfl ?_
        refine w_gi ((i : Nat) : Int) l_32_160 (oReader_sh o) h5 ?_
        refine w_ba i (t i) l_32_163 (Or.inl (oReader_s3 o)) rfl (by omega) ((hX J f).2.2 i (by omega)) ?_
        refine w_bp l_32_164 (by decide) ?_
        refine w_clt 201 l_32_166 (by decide) (fun h3 => ?_) (fun h3 => ?_)
        · skip
          first
          | (exfalso
             split at h7 <;> omega)
          | exact kk J f (by rw [← hK, dEnd_f (by omega)]; exact h5) h6 (by rw [← hK, dEnd_f (by omega)]; exact h7)
        · skip
          refine w_aln l_32_169 rfl ?_
          refine w_gr l_32_170 (oReader_sh o) (oReader_r3 o) ?_
          refine w_aln l_32_173 rfl ?_
          refine w_gi ((i : Nat) : Int) l_32_174 (oReader_sh o) h5 ?_
          refine w_ba i (t i) l_32_177 (Or.inl (oReader_s3 o)) rfl (by omega) ((hX J f).2.2 i (by omega)) ?_
          refine w_bp l_32_178 (by decide) ?_
          refine w_cgt 201 l_32_180 (by decide) (fun h4 => ?_) (fun h4 => ?_)
          · skip
            first
            | (exfalso
               split at h7 <;> omega)
            | exact kk J f (by rw [← hK, dEnd_f (by omega)]; exact h5) h6 (by rw [← hK, dEnd_f (by omega)]; exact h7)
          · skip
            refine w_aln l_32_183 rfl ?_
            refine w_ic l_32_184 (by decide) ?_
            refine w_pi l_32_185 (oReader_sh o) ?_
            refine w_aln l_32_188 rfl ?_
            refine w_dup l_32_189 rfl ?_
            refine w_gi ((i : Nat) : Int) l_32_190 (oReader_sh o) ((up_nj (by omega)).trans (h5)) ?_
            refine w_ic l_32_193 (by decide) ?_
            refine w_add (((i + 1) : Nat) : Int) l_32_194 (by unfold wr; omega) ?_
            refine w_pi l_32_195 (oReader_sh o) ?_
            refine w_go 136 l_32_198 (by decide) ?_
            exact ih (i + 1) _ (by omega) (by omega) (by rw [← dEnd_t (by omega) (by omega)]; exact hK) (by omega) ((up_nj (by decide)).trans ((up_nj (by decide)).trans h6)) (((up_nj (by decide)).trans up_eq).trans (if_neg (by omega)).symm) ((f.up (Or.inr (Or.inr rfl))).up (Or.inl rfl)) up_eq
theorem s_32 (o : oReader S T s x y) (H : rTx I s x t n) {e : Nat} (he : e ≤ n) (h5e : I s 5 = ((e : Nat) : Int)) : CL xs 32 [vr s] (S, I, T, cc, zz) (RP S T cc zz (fun v I' => v = none ∧ rTk I' s t n (skw t n e) ∧ fN I I' s)) := by
  refine CL_start (r := 0) (ls := [vr s]) (rk_32 _) rfl ?_
  have hX : ∀ J, fN I J s → rTx J s x t n := fun J f => H.fN (oReader_ne o) f
  have h600 := H.2.1
  have hpn : skw t n e ≤ n := skw_le he
  refine lp_32a (I0 := I) (K := skw t n e) o hX (fun J f h5 => ?_) (n - e) e I (by omega) he rfl (fN.rf I s) h5e
  refine w_aln l_32_66 rfl ?_
  refine w_aln l_32_67 rfl ?_
  refine w_gi (((skw t n e) : Nat) : Int) l_32_68 (oReader_sh o) h5 ?_
  refine w_pi l_32_71 (oReader_sh o) ?_
  refine w_aln l_32_74 rfl ?_
  refine w_ic l_32_75 (by decide) ?_
  refine w_pi l_32_76 (oReader_sh o) ?_
  refine lp_32b (I0 := I) (K := wEnd t n (skw t n e)) (p := skw t n e) o hX (fun J2 f2 g5 g6 g7 => ?_) (n - skw t n e) (skw t n e) _ (by omega) hpn rfl (Nat.le_refl _) ((up_nj (by decide)).trans up_eq) (up_eq.trans (if_pos rfl).symm) ((f.up (Or.inr (Or.inl rfl))).up (Or.inr (Or.inr rfl))) ((up_nj (by decide)).trans ((up_nj (by decide)).trans h5))
  by_cases hw : (wEnd t n (skw t n e)) = (skw t n e)
  · rw [if_pos hw] at g7
    refine lp_32c (I0 := I) (K := (dEnd t n (skw t n e))) (p := (skw t n e)) o hX (fun J3 f3 k5 k6 k7 => ?_) (n - (skw t n e)) (skw t n e) J2 (by omega) hpn rfl (Nat.le_refl _) g6 (g7.trans (if_pos rfl).symm) f2 (by rw [hw] at g5; exact g5)
    have hdn := dEnd_le (t := t) (n := n) (i := (skw t n e)) hpn
    refine w_aln l_32_201 rfl ?_
    refine w_gi (((dEnd t n (skw t n e)) : Nat) : Int) l_32_202 (oReader_sh o) k5 ?_
    refine w_aln l_32_205 rfl ?_
    refine w_gi ((n : Nat) : Int) l_32_206 (oReader_sh o) ((hX J3 f3).1) ?_
    refine w_cge 234 l_32_209 (by decide) (fun h1 => ?_) (fun h1 => ?_)
    · skip
      refine w_vr l_32_234 ?_
      have hdp := dEnd_ge (t := t) (n := n) (i := (skw t n e))
      have hdl := dEnd_le (t := t) (n := n) (i := (skw t n e)) hpn
      by_cases hpl : (skw t n e) < n
      · have hnl : ¬ (97 ≤ t (skw t n e) ∧ t (skw t n e) ≤ 122) := fun q => by have := wEnd_gt hpl q; omega
        have hdg : 48 ≤ t (skw t n e) ∧ t (skw t n e) ≤ 57 := by
          refine Classical.byContradiction fun q => ?_
          have q2 := dEnd_f (t := t) (n := n) (i := (skw t n e)) (fun q3 => q q3.2)
          first
          | omega
          | (rw [if_pos q2] at h2; exact h2 rfl)
        have hgt := dEnd_gt hpl hdg
        refine ⟨_, _, rfl, rfl, rfl, ⟨?_, k6, ?_, hpn⟩, f3⟩
        · rw [k5]
          unfold tEnd
          rw [if_pos hpl, if_neg (fun q => hnl (isLo_iff.mp q)), if_pos (isDg_iff.mpr hdg)]
        · rw [k7, if_neg (by omega), tkk_2.mpr ⟨hpl, hdg⟩]
          rfl
      · have q2 := dEnd_f (t := t) (n := n) (i := (skw t n e)) (fun q3 => hpl q3.1)
        refine ⟨_, _, rfl, rfl, rfl, ⟨?_, k6, ?_, hpn⟩, f3⟩
        · rw [k5, q2]
          unfold tEnd
          rw [if_neg hpl]
        · rw [k7, if_pos q2, tkk_0.mpr hpl]
          rfl
    · skip
      refine w_aln l_32_212 rfl ?_
      refine w_gi (if (dEnd t n (skw t n e)) = (skw t n e) then 0 else 2 : Int) l_32_213 (oReader_sh o) k7 ?_
      refine w_zne 234 l_32_216 (by decide) (fun h2 => ?_) (fun h2 => ?_)
      · skip
        refine w_vr l_32_234 ?_
        have hdp := dEnd_ge (t := t) (n := n) (i := (skw t n e))
        have hdl := dEnd_le (t := t) (n := n) (i := (skw t n e)) hpn
        by_cases hpl : (skw t n e) < n
        · have hnl : ¬ (97 ≤ t (skw t n e) ∧ t (skw t n e) ≤ 122) := fun q => by have := wEnd_gt hpl q; omega
          have hdg : 48 ≤ t (skw t n e) ∧ t (skw t n e) ≤ 57 := by
            refine Classical.byContradiction fun q => ?_
            have q2 := dEnd_f (t := t) (n := n) (i := (skw t n e)) (fun q3 => q q3.2)
            first
            | omega
            | (rw [if_pos q2] at h2; exact h2 rfl)
          have hgt := dEnd_gt hpl hdg
          refine ⟨_, _, rfl, rfl, rfl, ⟨?_, k6, ?_, hpn⟩, f3⟩
          · rw [k5]
            unfold tEnd
            rw [if_pos hpl, if_neg (fun q => hnl (isLo_iff.mp q)), if_pos (isDg_iff.mpr hdg)]
          · rw [k7, if_neg (by omega), tkk_2.mpr ⟨hpl, hdg⟩]
            rfl
        · have q2 := dEnd_f (t := t) (n := n) (i := (skw t n e)) (fun q3 => hpl q3.1)
          refine ⟨_, _, rfl, rfl, rfl, ⟨?_, k6, ?_, hpn⟩, f3⟩
          · rw [k5, q2]
            unfold tEnd
            rw [if_neg hpl]
          · rw [k7, if_pos q2, tkk_0.mpr hpl]
            rfl
      · skip
        refine w_aln l_32_219 rfl ?_
        refine w_ic l_32_220 (by decide) ?_
        refine w_pi l_32_221 (oReader_sh o) ?_
        refine w_aln l_32_224 rfl ?_
        refine w_dup l_32_225 rfl ?_
        refine w_gi (((dEnd t n (skw t n e)) : Nat) : Int) l_32_226 (oReader_sh o) ((up_nj (by omega)).trans (k5)) ?_
        refine w_ic l_32_229 (by decide) ?_
        refine w_add ((((dEnd t n (skw t n e)) + 1) : Nat) : Int) l_32_230 (by unfold wr; omega) ?_
        refine w_pi l_32_231 (oReader_sh o) ?_
        refine w_vr l_32_234 ?_
        have hd9 : (dEnd t n (skw t n e)) = (skw t n e) := by
          by_cases q : (dEnd t n (skw t n e)) = (skw t n e)
          · exact q
          · rw [if_neg q] at h2; exact absurd h2 (by decide)
        have hpl : (skw t n e) < n := by omega
        have hnl : ¬ (97 ≤ t (skw t n e) ∧ t (skw t n e) ≤ 122) := fun q => by have := wEnd_gt hpl q; omega
        have hnd : ¬ (48 ≤ t (skw t n e) ∧ t (skw t n e) ≤ 57) := fun q => by have := dEnd_gt hpl q; omega
        refine ⟨_, _, rfl, rfl, rfl, ⟨?_, (up_nj (by decide)).trans ((up_nj (by decide)).trans k6), ?_, hpn⟩, (f3.up (Or.inr (Or.inr rfl))).up (Or.inl rfl)⟩
        · rw [up_eq, hd9]
          unfold tEnd
          rw [if_pos hpl, if_neg (fun q => hnl (isLo_iff.mp q)), if_neg (fun q => hnd (isDg_iff.mp q))]
        · rw [up_nj (by decide), up_eq]
          unfold tkk
          rw [if_pos hpl, if_neg (fun q => hnl (isLo_iff.mp q)), if_neg (fun q => hnd (isDg_iff.mp q))]
          rfl
  · have hwn := wEnd_le (t := t) (n := n) (i := (skw t n e)) hpn
    have hw2 : (skw t n e) < n ∧ 97 ≤ t (skw t n e) ∧ t (skw t n e) ≤ 122 := Classical.byContradiction fun q => hw (wEnd_f q)
    refine w_aln l_32_136 rfl ?_
    refine w_gi (((wEnd t n (skw t n e)) : Nat) : Int) l_32_137 (oReader_sh o) g5 ?_
    refine w_aln l_32_140 rfl ?_
    refine w_gi ((n : Nat) : Int) l_32_141 (oReader_sh o) ((hX J2 f2).1) ?_
    refine w_cge 201 l_32_144 (by decide) (fun h1 => ?_) (fun h1 => ?_)
    · skip
      refine w_aln l_32_201 rfl ?_
      refine w_gi (((wEnd t n (skw t n e)) : Nat) : Int) l_32_202 (oReader_sh o) g5 ?_
      refine w_aln l_32_205 rfl ?_
      refine w_gi ((n : Nat) : Int) l_32_206 (oReader_sh o) ((hX J2 f2).1) ?_
      refine w_cge 234 l_32_209 (by decide) (fun h2 => ?_) (fun h2 => ?_)
      · skip
        refine w_vr l_32_234 ?_
        refine ⟨_, _, rfl, rfl, rfl, ⟨?_, g6, ?_, hpn⟩, f2⟩
        · rw [g5]
          unfold tEnd
          rw [if_pos hw2.1, if_pos (isLo_iff.mpr hw2.2)]
        · rw [g7, if_neg hw, tkk_1.mpr hw2]
          rfl
      · skip
        refine w_aln l_32_212 rfl ?_
        refine w_gi 1 l_32_213 (oReader_sh o) (g7.trans (if_neg hw)) ?_
        refine w_zne 234 l_32_216 (by decide) (fun _ => ?_) (fun hx => absurd hx (by decide))
        refine w_vr l_32_234 ?_
        refine ⟨_, _, rfl, rfl, rfl, ⟨?_, g6, ?_, hpn⟩, f2⟩
        · rw [g5]
          unfold tEnd
          rw [if_pos hw2.1, if_pos (isLo_iff.mpr hw2.2)]
        · rw [g7, if_neg hw, tkk_1.mpr hw2]
          rfl
    · skip
      refine w_aln l_32_147 rfl ?_
      refine w_gi 1 l_32_148 (oReader_sh o) (g7.trans (if_neg hw)) ?_
      refine w_ic l_32_151 (by decide) ?_
      refine w_ceq 201 l_32_152 (by decide) (fun _ => ?_) (fun hx => absurd hx (by decide))
      refine w_aln l_32_201 rfl ?_
      refine w_gi (((wEnd t n (skw t n e)) : Nat) : Int) l_32_202 (oReader_sh o) g5 ?_
      refine w_aln l_32_205 rfl ?_
      refine w_gi ((n : Nat) : Int) l_32_206 (oReader_sh o) ((hX J2 f2).1) ?_
      refine w_cge 234 l_32_209 (by decide) (fun h3 => ?_) (fun h3 => ?_)
      · skip
        refine w_vr l_32_234 ?_
        refine ⟨_, _, rfl, rfl, rfl, ⟨?_, g6, ?_, hpn⟩, f2⟩
        · rw [g5]
          unfold tEnd
          rw [if_pos hw2.1, if_pos (isLo_iff.mpr hw2.2)]
        · rw [g7, if_neg hw, tkk_1.mpr hw2]
          rfl
      · skip
        refine w_aln l_32_212 rfl ?_
        refine w_gi 1 l_32_213 (oReader_sh o) (g7.trans (if_neg hw)) ?_
        refine w_zne 234 l_32_216 (by decide) (fun _ => ?_) (fun hx => absurd hx (by decide))
        refine w_vr l_32_234 ?_
        refine ⟨_, _, rfl, rfl, rfl, ⟨?_, g6, ?_, hpn⟩, f2⟩
        · rw [g5]
          unfold tEnd
          rw [if_pos hw2.1, if_pos (isLo_iff.mpr hw2.2)]
        · rw [g7, if_neg hw, tkk_1.mpr hw2]
          rfl

end RDN
