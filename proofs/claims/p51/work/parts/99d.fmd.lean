/-! the class: formatted texts -/
def dropB (nm : Nat → List Nat) (d : Dr) : List Nat := numB d.2.1 ++ [64] ++ numB d.1 ++ [32] ++ strB (16 + d.2.2.2.1) ++ (if d.2.2.2.2 = -1 then [] else [61] ++ numB d.2.2.2.2.toNat) ++ (if d.2.2.1 = -1 then [] else [32] ++ nameB (nm d.2.2.1.toNat))
def itemB (h : Hi) (c : Cp) : List Nat := [32] ++ numB c.1 ++ [46] ++ numB (hRnk h c.1)
def queB (h : Hi) (n : List Nat) (q : List Cp) : List Nat := nameB n ++ (q.map (itemB h)).flatten
theorem queB_s {h : Hi} {n : List Nat} {q : List Cp} {k : Nat} (hk : k < q.length) : queB h n (q.take (k + 1)) = queB h n (q.take k) ++ [32] ++ numB (q.getD k (0, 0)).1 ++ [46] ++ numB (hRnk h (q.getD k (0, 0)).1) := by
  have e : q.take (k + 1) = q.take k ++ [q.getD k (0, 0)] := by
    rw [List.take_succ, List.getD_eq_getElem?_getD, List.getElem?_eq_getElem hk]
    rfl
  unfold queB
  rw [e, List.map_append, List.flatten_append]
  simp [itemB]
theorem nameB_len (n : List Nat) : (nameB n).length = n.length := by unfold nameB; simp
theorem numB_1 {v : Nat} (h : v < 10) : numB v = [48 + v] := by
  unfold numB
  rw [if_neg (by omega), if_neg (by omega), Nat.mod_eq_of_lt h]
  rfl
theorem queB_len {h : Hi} {n : List Nat} (ok : okHi h) : ∀ k (q : List Cp), k ≤ q.length → (queB h n (q.take k)).length ≤ n.length + 6 * k
  | 0, q, _ => by
    show (nameB n ++ (List.map (itemB h) (q.take 0)).flatten).length ≤ _
    rw [List.take_zero]
    simp [nameB_len]
  | k + 1, q, hk => by
    have ih := queB_len (h := h) (n := n) ok k q (by omega)
    rw [queB_s (by omega)]
    have h1 := numB_len (q.getD k (0, 0)).1
    have h2 := (ok (q.getD k (0, 0)).1).2.2.1
    rw [numB_1 (v := hRnk h (q.getD k (0, 0)).1) (by omega)]
    simp only [List.length_append, List.length_cons, List.length_nil]
    omega
/-- the class's names -/
def cNm (I : Ix) (q : Nat) (l : Li) (nm : Nat → List Nat) : Prop := ∀ p, p < lPorts l → okNm (nm p) ∧ I (q + 6) p = ((nvR (nm p) : Nat) : Int)
section FMD
variable {xs : List Int} {S : List (Nat × Nat)} {T : Nat → Nat → Nat} {cc zz s q y : Nat} {h : Hi} {l : Li} {I I' : Ix} {L : List Nat}

theorem mx_69 : mxl 69 = 2 := by decide +kernel
theorem mt_69 : mtc 69 = 6 := by decide +kernel
theorem rk_69 (as : List AV) : rkA 69 as = 0 := rfl
theorem l_69_0 : look 69 0 = some (.aload_n 0, 1, 0, 0, 0, 0) := by decide +kernel
theorem l_69_1 : look 69 1 = some (.getfield 18, 3, 6, 1, 2, 441) := by decide +kernel
theorem l_69_4 : look 69 4 = some (.iload_n 1, 1, 0, 0, 0, 0) := by decide +kernel
theorem l_69_5 : look 69 5 = some (.iaload, 1, 0, 0, 0, 0) := by decide +kernel
theorem l_69_6 : look 69 6 = some (.ireturn, 1, 0, 0, 0, 0) := by decide +kernel
theorem s_69 (os : oSetup S T q) {p : Nat} (hp : p < 4) {v : Int} (hv : I (q + 6) p = v) : CL xs 69 [vr q, vi ((p : Nat) : Int)] (S, I, T, cc, zz) (FN (some (vi v)) (S, I, T, cc, zz)) := by
  refine CL_start (r := 0) (ls := [vr q, vi ((p : Nat) : Int)]) (rk_69 _) rfl ?_
  refine w_aln l_69_0 rfl ?_
  refine w_gr l_69_1 (oSetup_sh os) (oSetup_r1 os) ?_
  refine w_iln l_69_4 rfl ?_
  refine w_ia p v l_69_5 (oSetup_s1 os) rfl (by omega) hv ?_
  refine w_ir l_69_6 (Or.inl rfl) ?_
  exact ⟨rfl, rfl⟩

theorem mx_166 : mxl 166 = 1 := by decide +kernel
theorem mt_166 : mtc 166 = 9 := by decide +kernel
theorem rk_166 (as : List AV) : rkA 166 as = 0 := rfl
theorem l_166_0 : look 166 0 = some (.iload_n 0, 1, 0, 0, 0, 0) := by decide +kernel
theorem l_166_1 : look 166 1 = some (.tableswitch 87 1 9 #[51, 55, 59, 63, 67, 71, 75, 79, 83], 51, 0, 0, 0, 0) := by decide +kernel
theorem l_166_52 : look 166 52 = some (.ldc_w 366, 3, 17, 0, 0, 275) := by decide +kernel
theorem l_166_55 : look 166 55 = some (.areturn, 1, 0, 0, 0, 0) := by decide +kernel
theorem l_166_56 : look 166 56 = some (.ldc_w 368, 3, 18, 0, 0, 276) := by decide +kernel
theorem l_166_59 : look 166 59 = some (.areturn, 1, 0, 0, 0, 0) := by decide +kernel
theorem l_166_60 : look 166 60 = some (.ldc_w 370, 3, 19, 0, 0, 277) := by decide +kernel
theorem l_166_63 : look 166 63 = some (.areturn, 1, 0, 0, 0, 0) := by decide +kernel
theorem l_166_64 : look 166 64 = some (.ldc_w 372, 3, 20, 0, 0, 278) := by decide +kernel
theorem l_166_67 : look 166 67 = some (.areturn, 1, 0, 0, 0, 0) := by decide +kernel
theorem l_166_68 : look 166 68 = some (.ldc_w 374, 3, 21, 0, 0, 279) := by decide +kernel
theorem l_166_71 : look 166 71 = some (.areturn, 1, 0, 0, 0, 0) := by decide +kernel
theorem l_166_72 : look 166 72 = some (.ldc_w 376, 3, 22, 0, 0, 280) := by decide +kernel
theorem l_166_75 : look 166 75 = some (.areturn, 1, 0, 0, 0, 0) := by decide +kernel
theorem l_166_76 : look 166 76 = some (.ldc_w 378, 3, 23, 0, 0, 281) := by decide +kernel
theorem l_166_79 : look 166 79 = some (.areturn, 1, 0, 0, 0, 0) := by decide +kernel
theorem l_166_80 : look 166 80 = some (.ldc_w 380, 3, 24, 0, 0, 282) := by decide +kernel
theorem l_166_83 : look 166 83 = some (.areturn, 1, 0, 0, 0, 0) := by decide +kernel
theorem l_166_84 : look 166 84 = some (.ldc_w 382, 3, 25, 0, 0, 283) := by decide +kernel
theorem l_166_87 : look 166 87 = some (.areturn, 1, 0, 0, 0, 0) := by decide +kernel
theorem l_166_88 : look 166 88 = some (.ldc_w 384, 3, 26, 0, 0, 284) := by decide +kernel
theorem l_166_91 : look 166 91 = some (.areturn, 1, 0, 0, 0, 0) := by decide +kernel
theorem s_166 {c : Nat} (hc : 1 ≤ c ∧ c ≤ 10) : CL xs 166 [vi ((c : Nat) : Int)] (S, I, T, cc, zz) (FN (some (vs (2 * (16 + c) + 4))) (S, I, T, cc, zz)) := by
  rcases (show c = 1 ∨ c = 2 ∨ c = 3 ∨ c = 4 ∨ c = 5 ∨ c = 6 ∨ c = 7 ∨ c = 8 ∨ c = 9 ∨ c = 10 by omega) with e | e | e | e | e | e | e | e | e | e <;> subst e
  · skip
    refine CL_start (r := 0) (ls := [vi 1]) (rk_166 _) rfl ?_
    refine w_iln l_166_0 rfl ?_
    refine w_swi 52 l_166_1 (by decide) rfl (by decide) ?_
    refine w_ldcw l_166_52 (by decide) ?_
    refine w_ars l_166_55 ?_
    exact ⟨rfl, rfl⟩
  · skip
    refine CL_start (r := 0) (ls := [vi 2]) (rk_166 _) rfl ?_
    refine w_iln l_166_0 rfl ?_
    refine w_swi 56 l_166_1 (by decide) rfl (by decide) ?_
    refine w_ldcw l_166_56 (by decide) ?_
    refine w_ars l_166_59 ?_
    exact ⟨rfl, rfl⟩
  · skip
    refine CL_start (r := 0) (ls := [vi 3]) (rk_166 _) rfl ?_
    refine w_iln l_166_0 rfl ?_
    refine w_swi 60 l_166_1 (by decide) rfl (by decide) ?_
    refine w_ldcw l_166_60 (by decide) ?_
    refine w_ars l_166_63 ?_
    exact ⟨rfl, rfl⟩
  · skip
    refine CL_start (r := 0) (ls := [vi 4]) (rk_166 _) rfl ?_
    refine w_iln l_166_0 rfl ?_
    refine w_swi 64 l_166_1 (by decide) rfl (by decide) ?_
    refine w_ldcw l_166_64 (by decide) ?_
    refine w_ars l_166_67 ?_
    exact ⟨rfl, rfl⟩
  · skip
    refine CL_start (r := 0) (ls := [vi 5]) (rk_166 _) rfl ?_
    refine w_iln l_166_0 rfl ?_
    refine w_swi 68 l_166_1 (by decide) rfl (by decide) ?_
    refine w_ldcw l_166_68 (by decide) ?_
    refine w_ars l_166_71 ?_
    exact ⟨rfl, rfl⟩
  · skip
    refine CL_start (r := 0) (ls := [vi 6]) (rk_166 _) rfl ?_
    refine w_iln l_166_0 rfl ?_
    refine w_swi 72 l_166_1 (by decide) rfl (by decide) ?_
    refine w_ldcw l_166_72 (by decide) ?_
    refine w_ars l_166_75 ?_
    exact ⟨rfl, rfl⟩
  · skip
    refine CL_start (r := 0) (ls := [vi 7]) (rk_166 _) rfl ?_
    refine w_iln l_166_0 rfl ?_
    refine w_swi 76 l_166_1 (by decide) rfl (by decide) ?_
    refine w_ldcw l_166_76 (by decide) ?_
    refine w_ars l_166_79 ?_
    exact ⟨rfl, rfl⟩
  · skip
    refine CL_start (r := 0) (ls := [vi 8]) (rk_166 _) rfl ?_
    refine w_iln l_166_0 rfl ?_
    refine w_swi 80 l_166_1 (by decide) rfl (by decide) ?_
    refine w_ldcw l_166_80 (by decide) ?_
    refine w_ars l_166_83 ?_
    exact ⟨rfl, rfl⟩
  · skip
    refine CL_start (r := 0) (ls := [vi 9]) (rk_166 _) rfl ?_
    refine w_iln l_166_0 rfl ?_
    refine w_swi 84 l_166_1 (by decide) rfl (by decide) ?_
    refine w_ldcw l_166_84 (by decide) ?_
    refine w_ars l_166_87 ?_
    exact ⟨rfl, rfl⟩
  · skip
    refine CL_start (r := 0) (ls := [vi 10]) (rk_166 _) rfl ?_
    refine w_iln l_166_0 rfl ?_
    refine w_swd 88 l_166_1 (by decide) (by decide) ?_
    refine w_ldcw l_166_88 (by decide) ?_
    refine w_ars l_166_91 ?_
    exact ⟨rfl, rfl⟩

theorem mx_144 : mxl 144 = 4 := by decide +kernel
theorem mt_144 : mtc 144 = 9 := by decide +kernel
theorem rk_144 (as : List AV) : rkA 144 as = 5 := rfl
theorem l_144_0 : look 144 0 = some (.aload_n 0, 1, 0, 0, 0, 0) := by decide +kernel
theorem l_144_1 : look 144 1 = some (.iload_n 1, 1, 0, 0, 0, 0) := by decide +kernel
theorem l_144_2 : look 144 2 = some (.invokevirtual 237, 3, 152, 2, 0, 211) := by decide +kernel
theorem l_144_5 : look 144 5 = some (.aload_n 0, 1, 0, 0, 0, 0) := by decide +kernel
theorem l_144_6 : look 144 6 = some (.getfield 57, 3, 9, 8, 2, 732) := by decide +kernel
theorem l_144_9 : look 144 9 = some (.getfield 131, 3, 5, 2, 2, 639) := by decide +kernel
theorem l_144_12 : look 144 12 = some (.iload_n 1, 1, 0, 0, 0, 0) := by decide +kernel
theorem l_144_13 : look 144 13 = some (.iconst 4, 1, 0, 0, 0, 0) := by decide +kernel
theorem l_144_14 : look 144 14 = some (.invokevirtual 240, 3, 24, 3, 0, 215) := by decide +kernel
theorem l_144_17 : look 144 17 = some (.istore_n 2, 1, 0, 0, 0, 0) := by decide +kernel
theorem l_144_18 : look 144 18 = some (.aload_n 0, 1, 0, 0, 0, 0) := by decide +kernel
theorem l_144_19 : look 144 19 = some (.getfield 57, 3, 9, 8, 2, 732) := by decide +kernel
theorem l_144_22 : look 144 22 = some (.getfield 131, 3, 5, 2, 2, 639) := by decide +kernel
theorem l_144_25 : look 144 25 = some (.iload_n 1, 1, 0, 0, 0, 0) := by decide +kernel
theorem l_144_26 : look 144 26 = some (.iconst 2, 1, 0, 0, 0, 0) := by decide +kernel
theorem l_144_27 : look 144 27 = some (.invokevirtual 240, 3, 24, 3, 0, 215) := by decide +kernel
theorem l_144_30 : look 144 30 = some (.istore_n 3, 1, 0, 0, 0, 0) := by decide +kernel
theorem l_144_31 : look 144 31 = some (.aload_n 0, 1, 0, 0, 0, 0) := by decide +kernel
theorem l_144_32 : look 144 32 = some (.getfield 91, 3, 9, 16, 2, 740) := by decide +kernel
theorem l_144_35 : look 144 35 = some (.iconst 0, 1, 0, 0, 0, 0) := by decide +kernel
theorem l_144_36 : look 144 36 = some (.putfield 313, 3, 2, 1, 0, 675) := by decide +kernel
theorem l_144_39 : look 144 39 = some (.aload_n 0, 1, 0, 0, 0, 0) := by decide +kernel
theorem l_144_40 : look 144 40 = some (.getfield 91, 3, 9, 16, 2, 740) := by decide +kernel
theorem l_144_43 : look 144 43 = some (.aload_n 0, 1, 0, 0, 0, 0) := by decide +kernel
theorem l_144_44 : look 144 44 = some (.getfield 57, 3, 9, 8, 2, 732) := by decide +kernel
theorem l_144_47 : look 144 47 = some (.getfield 131, 3, 5, 2, 2, 639) := by decide +kernel
theorem l_144_50 : look 144 50 = some (.iload_n 1, 1, 0, 0, 0, 0) := by decide +kernel
theorem l_144_51 : look 144 51 = some (.iconst 1, 1, 0, 0, 0, 0) := by decide +kernel
theorem l_144_52 : look 144 52 = some (.invokevirtual 240, 3, 24, 3, 0, 215) := by decide +kernel
theorem l_144_55 : look 144 55 = some (.invokevirtual 316, 3, 15, 2, 0, 263) := by decide +kernel
theorem l_144_58 : look 144 58 = some (.aload_n 0, 1, 0, 0, 0, 0) := by decide +kernel
theorem l_144_59 : look 144 59 = some (.getfield 91, 3, 9, 16, 2, 740) := by decide +kernel
theorem l_144_62 : look 144 62 = some (.bipush 64, 2, 0, 0, 0, 0) := by decide +kernel
theorem l_144_64 : look 144 64 = some (.invokevirtual 319, 3, 13, 2, 0, 271) := by decide +kernel
theorem l_144_67 : look 144 67 = some (.aload_n 0, 1, 0, 0, 0, 0) := by decide +kernel
theorem l_144_68 : look 144 68 = some (.getfield 91, 3, 9, 16, 2, 740) := by decide +kernel
theorem l_144_71 : look 144 71 = some (.aload_n 0, 1, 0, 0, 0, 0) := by decide +kernel
theorem l_144_72 : look 144 72 = some (.getfield 57, 3, 9, 8, 2, 732) := by decide +kernel
theorem l_144_75 : look 144 75 = some (.getfield 131, 3, 5, 2, 2, 639) := by decide +kernel
theorem l_144_78 : look 144 78 = some (.iload_n 1, 1, 0, 0, 0, 0) := by decide +kernel
theorem l_144_79 : look 144 79 = some (.iconst 0, 1, 0, 0, 0, 0) := by decide +kernel
theorem l_144_80 : look 144 80 = some (.invokevirtual 240, 3, 24, 3, 0, 215) := by decide +kernel
theorem l_144_83 : look 144 83 = some (.invokevirtual 316, 3, 15, 2, 0, 263) := by decide +kernel
theorem l_144_86 : look 144 86 = some (.aload_n 0, 1, 0, 0, 0, 0) := by decide +kernel
theorem l_144_87 : look 144 87 = some (.getfield 91, 3, 9, 16, 2, 740) := by decide +kernel
theorem l_144_90 : look 144 90 = some (.bipush 32, 2, 0, 0, 0, 0) := by decide +kernel
theorem l_144_92 : look 144 92 = some (.invokevirtual 319, 3, 13, 2, 0, 271) := by decide +kernel
theorem l_144_95 : look 144 95 = some (.aload_n 0, 1, 0, 0, 0, 0) := by decide +kernel
theorem l_144_96 : look 144 96 = some (.getfield 91, 3, 9, 16, 2, 740) := by decide +kernel
theorem l_144_99 : look 144 99 = some (.aload_n 0, 1, 0, 0, 0, 0) := by decide +kernel
theorem l_144_100 : look 144 100 = some (.getfield 57, 3, 9, 8, 2, 732) := by decide +kernel
theorem l_144_103 : look 144 103 = some (.getfield 131, 3, 5, 2, 2, 639) := by decide +kernel
theorem l_144_106 : look 144 106 = some (.iload_n 1, 1, 0, 0, 0, 0) := by decide +kernel
theorem l_144_107 : look 144 107 = some (.iconst 3, 1, 0, 0, 0, 0) := by decide +kernel
theorem l_144_108 : look 144 108 = some (.invokevirtual 240, 3, 24, 3, 0, 215) := by decide +kernel
theorem l_144_111 : look 144 111 = some (.invokestatic 322, 3, 166, 1, 1, 272) := by decide +kernel
theorem l_144_114 : look 144 114 = some (.invokevirtual 326, 3, 14, 2, 0, 285) := by decide +kernel
theorem l_144_117 : look 144 117 = some (.iload_n 2, 1, 0, 0, 0, 0) := by decide +kernel
theorem l_144_118 : look 144 118 = some (.iconst (-1), 1, 0, 0, 0, 0) := by decide +kernel
theorem l_144_119 : look 144 119 = some (.if_icmp .eq 20, 3, 0, 0, 0, 0) := by decide +kernel
theorem l_144_122 : look 144 122 = some (.aload_n 0, 1, 0, 0, 0, 0) := by decide +kernel
theorem l_144_123 : look 144 123 = some (.getfield 91, 3, 9, 16, 2, 740) := by decide +kernel
theorem l_144_126 : look 144 126 = some (.bipush 61, 2, 0, 0, 0, 0) := by decide +kernel
theorem l_144_128 : look 144 128 = some (.invokevirtual 319, 3, 13, 2, 0, 271) := by decide +kernel
theorem l_144_131 : look 144 131 = some (.aload_n 0, 1, 0, 0, 0, 0) := by decide +kernel
theorem l_144_132 : look 144 132 = some (.getfield 91, 3, 9, 16, 2, 740) := by decide +kernel
theorem l_144_135 : look 144 135 = some (.iload_n 2, 1, 0, 0, 0, 0) := by decide +kernel
theorem l_144_136 : look 144 136 = some (.invokevirtual 316, 3, 15, 2, 0, 263) := by decide +kernel
theorem l_144_139 : look 144 139 = some (.iload_n 3, 1, 0, 0, 0, 0) := by decide +kernel
theorem l_144_140 : look 144 140 = some (.iconst (-1), 1, 0, 0, 0, 0) := by decide +kernel
theorem l_144_141 : look 144 141 = some (.if_icmp .eq 27, 3, 0, 0, 0, 0) := by decide +kernel
theorem l_144_144 : look 144 144 = some (.aload_n 0, 1, 0, 0, 0, 0) := by decide +kernel
theorem l_144_145 : look 144 145 = some (.getfield 91, 3, 9, 16, 2, 740) := by decide +kernel
theorem l_144_148 : look 144 148 = some (.bipush 32, 2, 0, 0, 0, 0) := by decide +kernel
theorem l_144_150 : look 144 150 = some (.invokevirtual 319, 3, 13, 2, 0, 271) := by decide +kernel
theorem l_144_153 : look 144 153 = some (.aload_n 0, 1, 0, 0, 0, 0) := by decide +kernel
theorem l_144_154 : look 144 154 = some (.getfield 91, 3, 9, 16, 2, 740) := by decide +kernel
theorem l_144_157 : look 144 157 = some (.aload_n 0, 1, 0, 0, 0, 0) := by decide +kernel
theorem l_144_158 : look 144 158 = some (.getfield 35, 3, 9, 5, 2, 729) := by decide +kernel
theorem l_144_161 : look 144 161 = some (.iload_n 3, 1, 0, 0, 0, 0) := by decide +kernel
theorem l_144_162 : look 144 162 = some (.invokevirtual 330, 3, 69, 2, 0, 337) := by decide +kernel
theorem l_144_165 : look 144 165 = some (.invokevirtual 333, 3, 16, 2, 0, 341) := by decide +kernel
theorem l_144_168 : look 144 168 = some (.aload_n 0, 1, 0, 0, 0, 0) := by decide +kernel
theorem l_144_169 : look 144 169 = some (.getfield 91, 3, 9, 16, 2, 740) := by decide +kernel
theorem l_144_172 : look 144 172 = some (.getfield 313, 3, 2, 1, 0, 675) := by decide +kernel
theorem l_144_175 : look 144 175 = some (.ireturn, 1, 0, 0, 0, 0) := by decide +kernel
theorem s_144 (hq : s < q ∧ q + 8 < s + 21) (o : oDropSwitch S T s q y) {ne np : Nat} {a : Nat → Nat} (K : KQ I s q h l a ne np) {nm : Nat → List Nat} (NM : cNm I q l nm) {k : Nat} (hk : k < (runA h l noOut ne).2.1.length) : CL xs 144 [vr s, vi ((k : Nat) : Int)] (S, I, T, cc, zz) (RP S T cc zz (fun v I' => v = some (vi (((dropB nm ((runA h l noOut ne).2.1.getD k dr0)).length : Nat) : Int)) ∧ lnS I' (s + 97) (dropB nm ((runA h l noOut ne).2.1.getD k dr0)) ∧ fr I I' (s + 97) (s + 97 + 1))) := by
  have hD0 := run_okD K.2.2.2.2.2.2.2.1 K.2.2.2.2.2.2.2.2.1 K.2.2.2.2.2.2.2.2.2 K.2.2.1.2.2.1 K.2.2.1.2.2.2.1 hk
  have hdt0 : ((runA h l noOut ne).2.1.getD k dr0).2.2.2.2 = -1 ∨ ∃ dt : Nat, ((runA h l noOut ne).2.1.getD k dr0).2.2.2.2 = ((dt : Nat) : Int) ∧ dt ≤ 200 := by
    by_cases h9 : ((runA h l noOut ne).2.1.getD k dr0).2.2.2.2 = -1
    · exact Or.inl h9
    · exact Or.inr ⟨((runA h l noOut ne).2.1.getD k dr0).2.2.2.2.toNat, by have := hD0.2.2.2.2; omega, by have := hD0.2.2.2.2; omega⟩
  have hpt0 : ((runA h l noOut ne).2.1.getD k dr0).2.2.1 = -1 ∨ ∃ p : Nat, ((runA h l noOut ne).2.1.getD k dr0).2.2.1 = ((p : Nat) : Int) ∧ p < lPorts l := by
    by_cases h9 : ((runA h l noOut ne).2.1.getD k dr0).2.2.1 = -1
    · exact Or.inl h9
    · exact Or.inr ⟨((runA h l noOut ne).2.1.getD k dr0).2.2.1.toNat, by have := hD0.2.2.1; omega, by have := hD0.2.2.1; omega⟩
  rcases hdt0 with hdt | ⟨dt, hdt, hdt2⟩ <;> rcases hpt0 with hpt | ⟨p, hpt, hp⟩
  · skip
    refine CL_start (r := 5) (ls := [vr s, vi ((k : Nat) : Int), vs 2, vs 2]) (rk_144 _) rfl ?_
    have hln := K.2.2.2.1.2.1.2
    have hD := run_okD K.2.2.2.2.2.2.2.1 K.2.2.2.2.2.2.2.2.1 K.2.2.2.2.2.2.2.2.2 K.2.2.1.2.2.1 K.2.2.1.2.2.2.1 hk
    have hl4 := K.2.2.2.2.2.2.2.1.1
    have hD1 := hD.1
    have hD2 := hD.2.1
    have hD3 := hD.2.2.1
    have hD4 := hD.2.2.2.1
    have hD5 := hD.2.2.2.2
    have b1 := numB_len ((runA h l noOut ne).2.1.getD k dr0).2.1
    have b2 := numB_len ((runA h l noOut ne).2.1.getD k dr0).1
    have b3 := strB_len (16 + ((runA h l noOut ne).2.1.getD k dr0).2.2.2.1)
    have b4 := stb_len (16 + ((runA h l noOut ne).2.1.getD k dr0).2.2.2.1) (by omega)
    refine w_aln l_144_0 rfl ?_
    refine w_iln l_144_1 rfl ?_
    refine q_iv [vi ((k : Nat) : Int)] [] l_144_2 rfl rfl (Nat.le_of_ble_eq_true rfl) (by rw [mx_152]; exact Nat.le_of_ble_eq_true rfl) (by rw [mt_152]; exact oDropSwitch_sh o) (by rw [mt_152]; decide) (by rw [rk_152]; decide) (s_152 o K hk) ?_
    refine w_aln l_144_5 rfl ?_
    refine w_gr l_144_6 (oDropSwitch_sh o) (oDropSwitch_r8 o) ?_
    refine w_gr l_144_9 (oRun_sh (oDropSwitch_o8 o)) (oRun_r2 (oDropSwitch_o8 o)) ?_
    refine w_iln l_144_12 rfl ?_
    refine w_ic l_144_13 (by decide) ?_
    refine q_iv [vi ((k : Nat) : Int), vi 4] [] l_144_14 rfl rfl (Nat.le_of_ble_eq_true rfl) (by rw [mx_24]; exact Nat.le_of_ble_eq_true rfl) (by rw [mt_24]; exact oLog_sh (oRun_o2 (oDropSwitch_o8 o))) (by rw [mt_24]; decide) (by rw [rk_24]; decide) (by have g9 := t_part4 (xs := xs) (T := T) (cc := cc) (zz := zz) (oRun_o2 (oDropSwitch_o8 o)) K.2.2.2.1.2 hk; rw [hdt] at g9; exact g9) ?_
    refine w_isn l_144_17 ⟨Nat.le_of_ble_eq_true rfl, rfl⟩ ?_
    refine w_aln l_144_18 rfl ?_
    refine w_gr l_144_19 (oDropSwitch_sh o) (oDropSwitch_r8 o) ?_
    refine w_gr l_144_22 (oRun_sh (oDropSwitch_o8 o)) (oRun_r2 (oDropSwitch_o8 o)) ?_
    refine w_iln l_144_25 rfl ?_
    refine w_ic l_144_26 (by decide) ?_
    refine q_iv [vi ((k : Nat) : Int), vi 2] [] l_144_27 rfl rfl (Nat.le_of_ble_eq_true rfl) (by rw [mx_24]; exact Nat.le_of_ble_eq_true rfl) (by rw [mt_24]; exact oLog_sh (oRun_o2 (oDropSwitch_o8 o))) (by rw [mt_24]; decide) (by rw [rk_24]; decide) (by have g9 := t_part2 (xs := xs) (T := T) (cc := cc) (zz := zz) (oRun_o2 (oDropSwitch_o8 o)) K.2.2.2.1.2 hk; rw [hpt] at g9; exact g9) ?_
    refine w_isn l_144_30 ⟨Nat.le_of_ble_eq_true rfl, rfl⟩ ?_
    refine w_aln l_144_31 rfl ?_
    refine w_gr l_144_32 (oDropSwitch_sh o) (oDropSwitch_r16 o) ?_
    refine w_ic l_144_35 (by decide) ?_
    refine w_pi l_144_36 (oLine_sh (oDropSwitch_o16 o)) ?_
    have H0 : lnS (up I (s + 97) 1 0) (s + 97) [] := ⟨up_eq, Nat.zero_le _, fun i hi => absurd hi (Nat.not_lt_zero i)⟩
    have F0 : fr I (up I (s + 97) 1 0) (s + 97) (s + 97 + 1) := (fr.rf _ _ _).up (Nat.le_refl _) (by omega)
    refine w_aln l_144_39 rfl ?_
    refine w_gr l_144_40 (oDropSwitch_sh o) (oDropSwitch_r16 o) ?_
    refine w_aln l_144_43 rfl ?_
    refine w_gr l_144_44 (oDropSwitch_sh o) (oDropSwitch_r8 o) ?_
    refine w_gr l_144_47 (oRun_sh (oDropSwitch_o8 o)) (oRun_r2 (oDropSwitch_o8 o)) ?_
    refine w_iln l_144_50 rfl ?_
    refine w_ic l_144_51 (by decide) ?_
    refine q_iv [vi ((k : Nat) : Int), vi 1] [vr (s + 97)] l_144_52 rfl rfl (Nat.le_of_ble_eq_true rfl) (by rw [mx_24]; exact Nat.le_of_ble_eq_true rfl) (by rw [mt_24]; exact oLog_sh (oRun_o2 (oDropSwitch_o8 o))) (by rw [mt_24]; decide) (by rw [rk_24]; decide) (t_part1 (oRun_o2 (oDropSwitch_o8 o)) (K.2.2.2.1.2.fr F0 (Or.inr (by omega))) hk) ?_
    refine p_iv [vi ((((runA h l noOut ne).2.1.getD k dr0).2.1 : Nat) : Int)] [] l_144_55 rfl rfl (Nat.le_of_ble_eq_true rfl) (by rw [mx_15]; exact Nat.le_of_ble_eq_true rfl) (by rw [mt_15]; exact oLine_sh (oDropSwitch_o16 o)) (by rw [mt_15]; decide) (by rw [rk_15]; decide) (s_15 (oDropSwitch_o16 o) H0 (by omega) (by first | omega | (simp only [List.length_append, List.length_cons, List.length_nil]; omega))) (fun v I1 hv => ?_)
    obtain ⟨rfl, H1, g1⟩ := hv
    have F1 := F0.tr g1
    refine w_aln l_144_58 rfl ?_
    refine w_gr l_144_59 (oDropSwitch_sh o) (oDropSwitch_r16 o) ?_
    refine w_bp l_144_62 (by decide) ?_
    refine p_iv [vi 64] [] l_144_64 rfl rfl (Nat.le_of_ble_eq_true rfl) (by rw [mx_13]; exact Nat.le_of_ble_eq_true rfl) (by rw [mt_13]; exact oLine_sh (oDropSwitch_o16 o)) (by rw [mt_13]; decide) (by rw [rk_13]; decide) (t_add (oDropSwitch_o16 o) H1 (by first | omega | (simp only [List.length_append, List.length_cons, List.length_nil]; omega)) (by decide)) (fun v I2 hv => ?_)
    obtain ⟨rfl, H2, g2⟩ := hv
    have F2 := F1.tr g2
    refine w_aln l_144_67 rfl ?_
    refine w_gr l_144_68 (oDropSwitch_sh o) (oDropSwitch_r16 o) ?_
    refine w_aln l_144_71 rfl ?_
    refine w_gr l_144_72 (oDropSwitch_sh o) (oDropSwitch_r8 o) ?_
    refine w_gr l_144_75 (oRun_sh (oDropSwitch_o8 o)) (oRun_r2 (oDropSwitch_o8 o)) ?_
    refine w_iln l_144_78 rfl ?_
    refine w_ic l_144_79 (by decide) ?_
    refine q_iv [vi ((k : Nat) : Int), vi 0] [vr (s + 97)] l_144_80 rfl rfl (Nat.le_of_ble_eq_true rfl) (by rw [mx_24]; exact Nat.le_of_ble_eq_true rfl) (by rw [mt_24]; exact oLog_sh (oRun_o2 (oDropSwitch_o8 o))) (by rw [mt_24]; decide) (by rw [rk_24]; decide) (t_part0 (oRun_o2 (oDropSwitch_o8 o)) (K.2.2.2.1.2.fr F2 (Or.inr (by omega))) hk) ?_
    refine p_iv [vi ((((runA h l noOut ne).2.1.getD k dr0).1 : Nat) : Int)] [] l_144_83 rfl rfl (Nat.le_of_ble_eq_true rfl) (by rw [mx_15]; exact Nat.le_of_ble_eq_true rfl) (by rw [mt_15]; exact oLine_sh (oDropSwitch_o16 o)) (by rw [mt_15]; decide) (by rw [rk_15]; decide) (s_15 (oDropSwitch_o16 o) H2 (by omega) (by first | omega | (simp only [List.length_append, List.length_cons, List.length_nil]; omega))) (fun v I3 hv => ?_)
    obtain ⟨rfl, H3, g3⟩ := hv
    have F3 := F2.tr g3
    refine w_aln l_144_86 rfl ?_
    refine w_gr l_144_87 (oDropSwitch_sh o) (oDropSwitch_r16 o) ?_
    refine w_bp l_144_90 (by decide) ?_
    refine p_iv [vi 32] [] l_144_92 rfl rfl (Nat.le_of_ble_eq_true rfl) (by rw [mx_13]; exact Nat.le_of_ble_eq_true rfl) (by rw [mt_13]; exact oLine_sh (oDropSwitch_o16 o)) (by rw [mt_13]; decide) (by rw [rk_13]; decide) (t_add (oDropSwitch_o16 o) H3 (by first | omega | (simp only [List.length_append, List.length_cons, List.length_nil]; omega)) (by decide)) (fun v I4 hv => ?_)
    obtain ⟨rfl, H4, g4⟩ := hv
    have F4 := F3.tr g4
    refine w_aln l_144_95 rfl ?_
    refine w_gr l_144_96 (oDropSwitch_sh o) (oDropSwitch_r16 o) ?_
    refine w_aln l_144_99 rfl ?_
    refine w_gr l_144_100 (oDropSwitch_sh o) (oDropSwitch_r8 o) ?_
    refine w_gr l_144_103 (oRun_sh (oDropSwitch_o8 o)) (oRun_r2 (oDropSwitch_o8 o)) ?_
    refine w_iln l_144_106 rfl ?_
    refine w_ic l_144_107 (by decide) ?_
    refine q_iv [vi ((k : Nat) : Int), vi 3] [vr (s + 97)] l_144_108 rfl rfl (Nat.le_of_ble_eq_true rfl) (by rw [mx_24]; exact Nat.le_of_ble_eq_true rfl) (by rw [mt_24]; exact oLog_sh (oRun_o2 (oDropSwitch_o8 o))) (by rw [mt_24]; decide) (by rw [rk_24]; decide) (t_part3 (oRun_o2 (oDropSwitch_o8 o)) (K.2.2.2.1.2.fr F4 (Or.inr (by omega))) hk) ?_
    refine q_st [vi ((((runA h l noOut ne).2.1.getD k dr0).2.2.2.1 : Nat) : Int)] [vr (s + 97)] l_144_111 (by decide) rfl rfl (Nat.le_of_ble_eq_true rfl) (by rw [mx_166]; exact Nat.le_of_ble_eq_true rfl) (by rw [rk_166]; decide) (s_166 hD.2.2.2.1) ?_
    refine p_iv [vs (2 * (16 + ((runA h l noOut ne).2.1.getD k dr0).2.2.2.1) + 4)] [] l_144_114 rfl rfl (Nat.le_of_ble_eq_true rfl) (by rw [mx_14]; exact Nat.le_of_ble_eq_true rfl) (by rw [mt_14]; exact oLine_sh (oDropSwitch_o16 o)) (by rw [mt_14]; decide) (by rw [rk_14]; decide) (s_14 (oDropSwitch_o16 o) H4 (w := 16 + ((runA h l noOut ne).2.1.getD k dr0).2.2.2.1) (by omega) (by first | omega | (simp only [List.length_append, List.length_cons, List.length_nil]; omega))) (fun v I5 hv => ?_)
    obtain ⟨rfl, H5, g5⟩ := hv
    have F5 := F4.tr g5
    refine w_iln l_144_117 rfl ?_
    refine w_ic l_144_118 (by decide) ?_
    refine w_ceq 139 l_144_119 (by decide) (fun _ => ?_) (fun hx => absurd hx (by decide))
    refine w_iln l_144_139 rfl ?_
    refine w_ic l_144_140 (by decide) ?_
    refine w_ceq 168 l_144_141 (by decide) (fun _ => ?_) (fun hx => absurd hx (by decide))
    refine w_aln l_144_168 rfl ?_
    refine w_gr l_144_169 (oDropSwitch_sh o) (oDropSwitch_r16 o) ?_
    refine w_gi ((((((([] ++ numB ((runA h l noOut ne).2.1.getD k dr0).2.1) ++ [64]) ++ numB ((runA h l noOut ne).2.1.getD k dr0).1) ++ [32]) ++ strB (16 + ((runA h l noOut ne).2.1.getD k dr0).2.2.2.1)).length : Nat) : Int) l_144_172 (oLine_sh (oDropSwitch_o16 o)) H5.1 ?_
    refine w_ir l_144_175 (Or.inl rfl) ?_
    have e9 : dropB nm ((runA h l noOut ne).2.1.getD k dr0) = ((((([] ++ numB ((runA h l noOut ne).2.1.getD k dr0).2.1) ++ [64]) ++ numB ((runA h l noOut ne).2.1.getD k dr0).1) ++ [32]) ++ strB (16 + ((runA h l noOut ne).2.1.getD k dr0).2.2.2.1)) := by
      unfold dropB
      rw [hdt, hpt, if_pos rfl, if_pos rfl]
      simp only [Int.toNat_natCast, List.append_assoc, List.nil_append, List.append_nil]
    rw [← e9] at H5
    refine ⟨_, _, rfl, rfl, by rw [e9], H5, F5⟩
  · skip
    refine CL_start (r := 5) (ls := [vr s, vi ((k : Nat) : Int), vs 2, vs 2]) (rk_144 _) rfl ?_
    have hln := K.2.2.2.1.2.1.2
    have hD := run_okD K.2.2.2.2.2.2.2.1 K.2.2.2.2.2.2.2.2.1 K.2.2.2.2.2.2.2.2.2 K.2.2.1.2.2.1 K.2.2.1.2.2.2.1 hk
    have hl4 := K.2.2.2.2.2.2.2.1.1
    have hD1 := hD.1
    have hD2 := hD.2.1
    have hD3 := hD.2.2.1
    have hD4 := hD.2.2.2.1
    have hD5 := hD.2.2.2.2
    have b1 := numB_len ((runA h l noOut ne).2.1.getD k dr0).2.1
    have b2 := numB_len ((runA h l noOut ne).2.1.getD k dr0).1
    have b3 := strB_len (16 + ((runA h l noOut ne).2.1.getD k dr0).2.2.2.1)
    have b4 := stb_len (16 + ((runA h l noOut ne).2.1.getD k dr0).2.2.2.1) (by omega)
    have b6 := (NM p hp).1.1
    have b7 := nameB_len (nm p)
    refine w_aln l_144_0 rfl ?_
    refine w_iln l_144_1 rfl ?_
    refine q_iv [vi ((k : Nat) : Int)] [] l_144_2 rfl rfl (Nat.le_of_ble_eq_true rfl) (by rw [mx_152]; exact Nat.le_of_ble_eq_true rfl) (by rw [mt_152]; exact oDropSwitch_sh o) (by rw [mt_152]; decide) (by rw [rk_152]; decide) (s_152 o K hk) ?_
    refine w_aln l_144_5 rfl ?_
    refine w_gr l_144_6 (oDropSwitch_sh o) (oDropSwitch_r8 o) ?_
    refine w_gr l_144_9 (oRun_sh (oDropSwitch_o8 o)) (oRun_r2 (oDropSwitch_o8 o)) ?_
    refine w_iln l_144_12 rfl ?_
    refine w_ic l_144_13 (by decide) ?_
    refine q_iv [vi ((k : Nat) : Int), vi 4] [] l_144_14 rfl rfl (Nat.le_of_ble_eq_true rfl) (by rw [mx_24]; exact Nat.le_of_ble_eq_true rfl) (by rw [mt_24]; exact oLog_sh (oRun_o2 (oDropSwitch_o8 o))) (by rw [mt_24]; decide) (by rw [rk_24]; decide) (by have g9 := t_part4 (xs := xs) (T := T) (cc := cc) (zz := zz) (oRun_o2 (oDropSwitch_o8 o)) K.2.2.2.1.2 hk; rw [hdt] at g9; exact g9) ?_
    refine w_isn l_144_17 ⟨Nat.le_of_ble_eq_true rfl, rfl⟩ ?_
    refine w_aln l_144_18 rfl ?_
    refine w_gr l_144_19 (oDropSwitch_sh o) (oDropSwitch_r8 o) ?_
    refine w_gr l_144_22 (oRun_sh (oDropSwitch_o8 o)) (oRun_r2 (oDropSwitch_o8 o)) ?_
    refine w_iln l_144_25 rfl ?_
    refine w_ic l_144_26 (by decide) ?_
    refine q_iv [vi ((k : Nat) : Int), vi 2] [] l_144_27 rfl rfl (Nat.le_of_ble_eq_true rfl) (by rw [mx_24]; exact Nat.le_of_ble_eq_true rfl) (by rw [mt_24]; exact oLog_sh (oRun_o2 (oDropSwitch_o8 o))) (by rw [mt_24]; decide) (by rw [rk_24]; decide) (by have g9 := t_part2 (xs := xs) (T := T) (cc := cc) (zz := zz) (oRun_o2 (oDropSwitch_o8 o)) K.2.2.2.1.2 hk; rw [hpt] at g9; exact g9) ?_
    refine w_isn l_144_30 ⟨Nat.le_of_ble_eq_true rfl, rfl⟩ ?_
    refine w_aln l_144_31 rfl ?_
    refine w_gr l_144_32 (oDropSwitch_sh o) (oDropSwitch_r16 o) ?_
    refine w_ic l_144_35 (by decide) ?_
    refine w_pi l_144_36 (oLine_sh (oDropSwitch_o16 o)) ?_
    have H0 : lnS (up I (s + 97) 1 0) (s + 97) [] := ⟨up_eq, Nat.zero_le _, fun i hi => absurd hi (Nat.not_lt_zero i)⟩
    have F0 : fr I (up I (s + 97) 1 0) (s + 97) (s + 97 + 1) := (fr.rf _ _ _).up (Nat.le_refl _) (by omega)
    refine w_aln l_144_39 rfl ?_
    refine w_gr l_144_40 (oDropSwitch_sh o) (oDropSwitch_r16 o) ?_
    refine w_aln l_144_43 rfl ?_
    refine w_gr l_144_44 (oDropSwitch_sh o) (oDropSwitch_r8 o) ?_
    refine w_gr l_144_47 (oRun_sh (oDropSwitch_o8 o)) (oRun_r2 (oDropSwitch_o8 o)) ?_
    refine w_iln l_144_50 rfl ?_
    refine w_ic l_144_51 (by decide) ?_
    refine q_iv [vi ((k : Nat) : Int), vi 1] [vr (s + 97)] l_144_52 rfl rfl (Nat.le_of_ble_eq_true rfl) (by rw [mx_24]; exact Nat.le_of_ble_eq_true rfl) (by rw [mt_24]; exact oLog_sh (oRun_o2 (oDropSwitch_o8 o))) (by rw [mt_24]; decide) (by rw [rk_24]; decide) (t_part1 (oRun_o2 (oDropSwitch_o8 o)) (K.2.2.2.1.2.fr F0 (Or.inr (by omega))) hk) ?_
    refine p_iv [vi ((((runA h l noOut ne).2.1.getD k dr0).2.1 : Nat) : Int)] [] l_144_55 rfl rfl (Nat.le_of_ble_eq_true rfl) (by rw [mx_15]; exact Nat.le_of_ble_eq_true rfl) (by rw [mt_15]; exact oLine_sh (oDropSwitch_o16 o)) (by rw [mt_15]; decide) (by rw [rk_15]; decide) (s_15 (oDropSwitch_o16 o) H0 (by omega) (by first | omega | (simp only [List.length_append, List.length_cons, List.length_nil]; omega))) (fun v I1 hv => ?_)
    obtain ⟨rfl, H1, g1⟩ := hv
    have F1 := F0.tr g1
    refine w_aln l_144_58 rfl ?_
    refine w_gr l_144_59 (oDropSwitch_sh o) (oDropSwitch_r16 o) ?_
    refine w_bp l_144_62 (by decide) ?_
    refine p_iv [vi 64] [] l_144_64 rfl rfl (Nat.le_of_ble_eq_true rfl) (by rw [mx_13]; exact Nat.le_of_ble_eq_true rfl) (by rw [mt_13]; exact oLine_sh (oDropSwitch_o16 o)) (by rw [mt_13]; decide) (by rw [rk_13]; decide) (t_add (oDropSwitch_o16 o) H1 (by first | omega | (simp only [List.length_append, List.length_cons, List.length_nil]; omega)) (by decide)) (fun v I2 hv => ?_)
    obtain ⟨rfl, H2, g2⟩ := hv
    have F2 := F1.tr g2
    refine w_aln l_144_67 rfl ?_
    refine w_gr l_144_68 (oDropSwitch_sh o) (oDropSwitch_r16 o) ?_
    refine w_aln l_144_71 rfl ?_
    refine w_gr l_144_72 (oDropSwitch_sh o) (oDropSwitch_r8 o) ?_
    refine w_gr l_144_75 (oRun_sh (oDropSwitch_o8 o)) (oRun_r2 (oDropSwitch_o8 o)) ?_
    refine w_iln l_144_78 rfl ?_
    refine w_ic l_144_79 (by decide) ?_
    refine q_iv [vi ((k : Nat) : Int), vi 0] [vr (s + 97)] l_144_80 rfl rfl (Nat.le_of_ble_eq_true rfl) (by rw [mx_24]; exact Nat.le_of_ble_eq_true rfl) (by rw [mt_24]; exact oLog_sh (oRun_o2 (oDropSwitch_o8 o))) (by rw [mt_24]; decide) (by rw [rk_24]; decide) (t_part0 (oRun_o2 (oDropSwitch_o8 o)) (K.2.2.2.1.2.fr F2 (Or.inr (by omega))) hk) ?_
    refine p_iv [vi ((((runA h l noOut ne).2.1.getD k dr0).1 : Nat) : Int)] [] l_144_83 rfl rfl (Nat.le_of_ble_eq_true rfl) (by rw [mx_15]; exact Nat.le_of_ble_eq_true rfl) (by rw [mt_15]; exact oLine_sh (oDropSwitch_o16 o)) (by rw [mt_15]; decide) (by rw [rk_15]; decide) (s_15 (oDropSwitch_o16 o) H2 (by omega) (by first | omega | (simp only [List.length_append, List.length_cons, List.length_nil]; omega))) (fun v I3 hv => ?_)
    obtain ⟨rfl, H3, g3⟩ := hv
    have F3 := F2.tr g3
    refine w_aln l_144_86 rfl ?_
    refine w_gr l_144_87 (oDropSwitch_sh o) (oDropSwitch_r16 o) ?_
    refine w_bp l_144_90 (by decide) ?_
    refine p_iv [vi 32] [] l_144_92 rfl rfl (Nat.le_of_ble_eq_true rfl) (by rw [mx_13]; exact Nat.le_of_ble_eq_true rfl) (by rw [mt_13]; exact oLine_sh (oDropSwitch_o16 o)) (by rw [mt_13]; decide) (by rw [rk_13]; decide) (t_add (oDropSwitch_o16 o) H3 (by first | omega | (simp only [List.length_append, List.length_cons, List.length_nil]; omega)) (by decide)) (fun v I4 hv => ?_)
    obtain ⟨rfl, H4, g4⟩ := hv
    have F4 := F3.tr g4
    refine w_aln l_144_95 rfl ?_
    refine w_gr l_144_96 (oDropSwitch_sh o) (oDropSwitch_r16 o) ?_
    refine w_aln l_144_99 rfl ?_
    refine w_gr l_144_100 (oDropSwitch_sh o) (oDropSwitch_r8 o) ?_
    refine w_gr l_144_103 (oRun_sh (oDropSwitch_o8 o)) (oRun_r2 (oDropSwitch_o8 o)) ?_
    refine w_iln l_144_106 rfl ?_
    refine w_ic l_144_107 (by decide) ?_
    refine q_iv [vi ((k : Nat) : Int), vi 3] [vr (s + 97)] l_144_108 rfl rfl (Nat.le_of_ble_eq_true rfl) (by rw [mx_24]; exact Nat.le_of_ble_eq_true rfl) (by rw [mt_24]; exact oLog_sh (oRun_o2 (oDropSwitch_o8 o))) (by rw [mt_24]; decide) (by rw [rk_24]; decide) (t_part3 (oRun_o2 (oDropSwitch_o8 o)) (K.2.2.2.1.2.fr F4 (Or.inr (by omega))) hk) ?_
    refine q_st [vi ((((runA h l noOut ne).2.1.getD k dr0).2.2.2.1 : Nat) : Int)] [vr (s + 97)] l_144_111 (by decide) rfl rfl (Nat.le_of_ble_eq_true rfl) (by rw [mx_166]; exact Nat.le_of_ble_eq_true rfl) (by rw [rk_166]; decide) (s_166 hD.2.2.2.1) ?_
    refine p_iv [vs (2 * (16 + ((runA h l noOut ne).2.1.getD k dr0).2.2.2.1) + 4)] [] l_144_114 rfl rfl (Nat.le_of_ble_eq_true rfl) (by rw [mx_14]; exact Nat.le_of_ble_eq_true rfl) (by rw [mt_14]; exact oLine_sh (oDropSwitch_o16 o)) (by rw [mt_14]; decide) (by rw [rk_14]; decide) (s_14 (oDropSwitch_o16 o) H4 (w := 16 + ((runA h l noOut ne).2.1.getD k dr0).2.2.2.1) (by omega) (by first | omega | (simp only [List.length_append, List.length_cons, List.length_nil]; omega))) (fun v I5 hv => ?_)
    obtain ⟨rfl, H5, g5⟩ := hv
    have F5 := F4.tr g5
    refine w_iln l_144_117 rfl ?_
    refine w_ic l_144_118 (by decide) ?_
    refine w_ceq 139 l_144_119 (by decide) (fun _ => ?_) (fun hx => absurd hx (by decide))
    refine w_iln l_144_139 rfl ?_
    refine w_ic l_144_140 (by decide) ?_
    refine w_ceq 168 l_144_141 (by decide) (fun hx => absurd hx (by omega)) (fun _ => ?_)
    refine w_aln l_144_144 rfl ?_
    refine w_gr l_144_145 (oDropSwitch_sh o) (oDropSwitch_r16 o) ?_
    refine w_bp l_144_148 (by decide) ?_
    refine p_iv [vi 32] [] l_144_150 rfl rfl (Nat.le_of_ble_eq_true rfl) (by rw [mx_13]; exact Nat.le_of_ble_eq_true rfl) (by rw [mt_13]; exact oLine_sh (oDropSwitch_o16 o)) (by rw [mt_13]; decide) (by rw [rk_13]; decide) (t_add (oDropSwitch_o16 o) H5 (by first | omega | (simp only [List.length_append, List.length_cons, List.length_nil]; omega)) (by decide)) (fun v I6 hv => ?_)
    obtain ⟨rfl, H6, g6⟩ := hv
    have F6 := F5.tr g6
    refine w_aln l_144_153 rfl ?_
    refine w_gr l_144_154 (oDropSwitch_sh o) (oDropSwitch_r16 o) ?_
    refine w_aln l_144_157 rfl ?_
    refine w_gr l_144_158 (oDropSwitch_sh o) (oDropSwitch_r5 o) ?_
    refine w_iln l_144_161 rfl ?_
    refine q_iv [vi ((p : Nat) : Int)] [vr (s + 97)] l_144_162 rfl rfl (Nat.le_of_ble_eq_true rfl) (by rw [mx_69]; exact Nat.le_of_ble_eq_true rfl) (by rw [mt_69]; exact oSetup_sh (oDropSwitch_o5 o)) (by rw [mt_69]; decide) (by rw [rk_69]; decide) (s_69 (oDropSwitch_o5 o) (by omega) ((F6 _ (by omega) p).trans (NM p hp).2)) ?_
    refine p_iv [vi (((nvR (nm p)) : Nat) : Int)] [] l_144_165 rfl rfl (Nat.le_of_ble_eq_true rfl) (by rw [mx_16]; exact Nat.le_of_ble_eq_true rfl) (by rw [mt_16]; exact oLine_sh (oDropSwitch_o16 o)) (by rw [mt_16]; decide) (by rw [rk_16]; decide) (s_16 (oDropSwitch_o16 o) H6 (NM p hp).1 (by first | omega | (simp only [List.length_append, List.length_cons, List.length_nil]; omega))) (fun v I7 hv => ?_)
    obtain ⟨rfl, H7, g7⟩ := hv
    have F7 := F6.tr g7
    refine w_aln l_144_168 rfl ?_
    refine w_gr l_144_169 (oDropSwitch_sh o) (oDropSwitch_r16 o) ?_
    refine w_gi ((((((((([] ++ numB ((runA h l noOut ne).2.1.getD k dr0).2.1) ++ [64]) ++ numB ((runA h l noOut ne).2.1.getD k dr0).1) ++ [32]) ++ strB (16 + ((runA h l noOut ne).2.1.getD k dr0).2.2.2.1)) ++ [32]) ++ nameB (nm p)).length : Nat) : Int) l_144_172 (oLine_sh (oDropSwitch_o16 o)) H7.1 ?_
    refine w_ir l_144_175 (Or.inl rfl) ?_
    have e9 : dropB nm ((runA h l noOut ne).2.1.getD k dr0) = ((((((([] ++ numB ((runA h l noOut ne).2.1.getD k dr0).2.1) ++ [64]) ++ numB ((runA h l noOut ne).2.1.getD k dr0).1) ++ [32]) ++ strB (16 + ((runA h l noOut ne).2.1.getD k dr0).2.2.2.1)) ++ [32]) ++ nameB (nm p)) := by
      unfold dropB
      rw [hdt, hpt, if_pos rfl, if_neg (by omega)]
      simp only [Int.toNat_natCast, List.append_assoc, List.nil_append, List.append_nil]
    rw [← e9] at H7
    refine ⟨_, _, rfl, rfl, by rw [e9], H7, F7⟩
  · skip
    refine CL_start (r := 5) (ls := [vr s, vi ((k : Nat) : Int), vs 2, vs 2]) (rk_144 _) rfl ?_
    have hln := K.2.2.2.1.2.1.2
    have hD := run_okD K.2.2.2.2.2.2.2.1 K.2.2.2.2.2.2.2.2.1 K.2.2.2.2.2.2.2.2.2 K.2.2.1.2.2.1 K.2.2.1.2.2.2.1 hk
    have hl4 := K.2.2.2.2.2.2.2.1.1
    have hD1 := hD.1
    have hD2 := hD.2.1
    have hD3 := hD.2.2.1
    have hD4 := hD.2.2.2.1
    have hD5 := hD.2.2.2.2
    have b1 := numB_len ((runA h l noOut ne).2.1.getD k dr0).2.1
    have b2 := numB_len ((runA h l noOut ne).2.1.getD k dr0).1
    have b3 := strB_len (16 + ((runA h l noOut ne).2.1.getD k dr0).2.2.2.1)
    have b4 := stb_len (16 + ((runA h l noOut ne).2.1.getD k dr0).2.2.2.1) (by omega)
    have b5 := numB_len dt
    refine w_aln l_144_0 rfl ?_
    refine w_iln l_144_1 rfl ?_
    refine q_iv [vi ((k : Nat) : Int)] [] l_144_2 rfl rfl (Nat.le_of_ble_eq_true rfl) (by rw [mx_152]; exact Nat.le_of_ble_eq_true rfl) (by rw [mt_152]; exact oDropSwitch_sh o) (by rw [mt_152]; decide) (by rw [rk_152]; decide) (s_152 o K hk) ?_
    refine w_aln l_144_5 rfl ?_
    refine w_gr l_144_6 (oDropSwitch_sh o) (oDropSwitch_r8 o) ?_
    refine w_gr l_144_9 (oRun_sh (oDropSwitch_o8 o)) (oRun_r2 (oDropSwitch_o8 o)) ?_
    refine w_iln l_144_12 rfl ?_
    refine w_ic l_144_13 (by decide) ?_
    refine q_iv [vi ((k : Nat) : Int), vi 4] [] l_144_14 rfl rfl (Nat.le_of_ble_eq_true rfl) (by rw [mx_24]; exact Nat.le_of_ble_eq_true rfl) (by rw [mt_24]; exact oLog_sh (oRun_o2 (oDropSwitch_o8 o))) (by rw [mt_24]; decide) (by rw [rk_24]; decide) (by have g9 := t_part4 (xs := xs) (T := T) (cc := cc) (zz := zz) (oRun_o2 (oDropSwitch_o8 o)) K.2.2.2.1.2 hk; rw [hdt] at g9; exact g9) ?_
    refine w_isn l_144_17 ⟨Nat.le_of_ble_eq_true rfl, rfl⟩ ?_
    refine w_aln l_144_18 rfl ?_
    refine w_gr l_144_19 (oDropSwitch_sh o) (oDropSwitch_r8 o) ?_
    refine w_gr l_144_22 (oRun_sh (oDropSwitch_o8 o)) (oRun_r2 (oDropSwitch_o8 o)) ?_
    refine w_iln l_144_25 rfl ?_
    refine w_ic l_144_26 (by decide) ?_
    refine q_iv [vi ((k : Nat) : Int), vi 2] [] l_144_27 rfl rfl (Nat.le_of_ble_eq_true rfl) (by rw [mx_24]; exact Nat.le_of_ble_eq_true rfl) (by rw [mt_24]; exact oLog_sh (oRun_o2 (oDropSwitch_o8 o))) (by rw [mt_24]; decide) (by rw [rk_24]; decide) (by have g9 := t_part2 (xs := xs) (T := T) (cc := cc) (zz := zz) (oRun_o2 (oDropSwitch_o8 o)) K.2.2.2.1.2 hk; rw [hpt] at g9; exact g9) ?_
    refine w_isn l_144_30 ⟨Nat.le_of_ble_eq_true rfl, rfl⟩ ?_
    refine w_aln l_144_31 rfl ?_
    refine w_gr l_144_32 (oDropSwitch_sh o) (oDropSwitch_r16 o) ?_
    refine w_ic l_144_35 (by decide) ?_
    refine w_pi l_144_36 (oLine_sh (oDropSwitch_o16 o)) ?_
    have H0 : lnS (up I (s + 97) 1 0) (s + 97) [] := ⟨up_eq, Nat.zero_le _, fun i hi => absurd hi (Nat.not_lt_zero i)⟩
    have F0 : fr I (up I (s + 97) 1 0) (s + 97) (s + 97 + 1) := (fr.rf _ _ _).up (Nat.le_refl _) (by omega)
    refine w_aln l_144_39 rfl ?_
    refine w_gr l_144_40 (oDropSwitch_sh o) (oDropSwitch_r16 o) ?_
    refine w_aln l_144_43 rfl ?_
    refine w_gr l_144_44 (oDropSwitch_sh o) (oDropSwitch_r8 o) ?_
    refine w_gr l_144_47 (oRun_sh (oDropSwitch_o8 o)) (oRun_r2 (oDropSwitch_o8 o)) ?_
    refine w_iln l_144_50 rfl ?_
    refine w_ic l_144_51 (by decide) ?_
    refine q_iv [vi ((k : Nat) : Int), vi 1] [vr (s + 97)] l_144_52 rfl rfl (Nat.le_of_ble_eq_true rfl) (by rw [mx_24]; exact Nat.le_of_ble_eq_true rfl) (by rw [mt_24]; exact oLog_sh (oRun_o2 (oDropSwitch_o8 o))) (by rw [mt_24]; decide) (by rw [rk_24]; decide) (t_part1 (oRun_o2 (oDropSwitch_o8 o)) (K.2.2.2.1.2.fr F0 (Or.inr (by omega))) hk) ?_
    refine p_iv [vi ((((runA h l noOut ne).2.1.getD k dr0).2.1 : Nat) : Int)] [] l_144_55 rfl rfl (Nat.le_of_ble_eq_true rfl) (by rw [mx_15]; exact Nat.le_of_ble_eq_true rfl) (by rw [mt_15]; exact oLine_sh (oDropSwitch_o16 o)) (by rw [mt_15]; decide) (by rw [rk_15]; decide) (s_15 (oDropSwitch_o16 o) H0 (by omega) (by first | omega | (simp only [List.length_append, List.length_cons, List.length_nil]; omega))) (fun v I1 hv => ?_)
    obtain ⟨rfl, H1, g1⟩ := hv
    have F1 := F0.tr g1
    refine w_aln l_144_58 rfl ?_
    refine w_gr l_144_59 (oDropSwitch_sh o) (oDropSwitch_r16 o) ?_
    refine w_bp l_144_62 (by decide) ?_
    refine p_iv [vi 64] [] l_144_64 rfl rfl (Nat.le_of_ble_eq_true rfl) (by rw [mx_13]; exact Nat.le_of_ble_eq_true rfl) (by rw [mt_13]; exact oLine_sh (oDropSwitch_o16 o)) (by rw [mt_13]; decide) (by rw [rk_13]; decide) (t_add (oDropSwitch_o16 o) H1 (by first | omega | (simp only [List.length_append, List.length_cons, List.length_nil]; omega)) (by decide)) (fun v I2 hv => ?_)
    obtain ⟨rfl, H2, g2⟩ := hv
    have F2 := F1.tr g2
    refine w_aln l_144_67 rfl ?_
    refine w_gr l_144_68 (oDropSwitch_sh o) (oDropSwitch_r16 o) ?_
    refine w_aln l_144_71 rfl ?_
    refine w_gr l_144_72 (oDropSwitch_sh o) (oDropSwitch_r8 o) ?_
    refine w_gr l_144_75 (oRun_sh (oDropSwitch_o8 o)) (oRun_r2 (oDropSwitch_o8 o)) ?_
    refine w_iln l_144_78 rfl ?_
    refine w_ic l_144_79 (by decide) ?_
    refine q_iv [vi ((k : Nat) : Int), vi 0] [vr (s + 97)] l_144_80 rfl rfl (Nat.le_of_ble_eq_true rfl) (by rw [mx_24]; exact Nat.le_of_ble_eq_true rfl) (by rw [mt_24]; exact oLog_sh (oRun_o2 (oDropSwitch_o8 o))) (by rw [mt_24]; decide) (by rw [rk_24]; decide) (t_part0 (oRun_o2 (oDropSwitch_o8 o)) (K.2.2.2.1.2.fr F2 (Or.inr (by omega))) hk) ?_
    refine p_iv [vi ((((runA h l noOut ne).2.1.getD k dr0).1 : Nat) : Int)] [] l_144_83 rfl rfl (Nat.le_of_ble_eq_true rfl) (by rw [mx_15]; exact Nat.le_of_ble_eq_true rfl) (by rw [mt_15]; exact oLine_sh (oDropSwitch_o16 o)) (by rw [mt_15]; decide) (by rw [rk_15]; decide) (s_15 (oDropSwitch_o16 o) H2 (by omega) (by first | omega | (simp only [List.length_append, List.length_cons, List.length_nil]; omega))) (fun v I3 hv => ?_)
    obtain ⟨rfl, H3, g3⟩ := hv
    have F3 := F2.tr g3
    refine w_aln l_144_86 rfl ?_
    refine w_gr l_144_87 (oDropSwitch_sh o) (oDropSwitch_r16 o) ?_
    refine w_bp l_144_90 (by decide) ?_
    refine p_iv [vi 32] [] l_144_92 rfl rfl (Nat.le_of_ble_eq_true rfl) (by rw [mx_13]; exact Nat.le_of_ble_eq_true rfl) (by rw [mt_13]; exact oLine_sh (oDropSwitch_o16 o)) (by rw [mt_13]; decide) (by rw [rk_13]; decide) (t_add (oDropSwitch_o16 o) H3 (by first | omega | (simp only [List.length_append, List.length_cons, List.length_nil]; omega)) (by decide)) (fun v I4 hv => ?_)
    obtain ⟨rfl, H4, g4⟩ := hv
    have F4 := F3.tr g4
    refine w_aln l_144_95 rfl ?_
    refine w_gr l_144_96 (oDropSwitch_sh o) (oDropSwitch_r16 o) ?_
    refine w_aln l_144_99 rfl ?_
    refine w_gr l_144_100 (oDropSwitch_sh o) (oDropSwitch_r8 o) ?_
    refine w_gr l_144_103 (oRun_sh (oDropSwitch_o8 o)) (oRun_r2 (oDropSwitch_o8 o)) ?_
    refine w_iln l_144_106 rfl ?_
    refine w_ic l_144_107 (by decide) ?_
    refine q_iv [vi ((k : Nat) : Int), vi 3] [vr (s + 97)] l_144_108 rfl rfl (Nat.le_of_ble_eq_true rfl) (by rw [mx_24]; exact Nat.le_of_ble_eq_true rfl) (by rw [mt_24]; exact oLog_sh (oRun_o2 (oDropSwitch_o8 o))) (by rw [mt_24]; decide) (by rw [rk_24]; decide) (t_part3 (oRun_o2 (oDropSwitch_o8 o)) (K.2.2.2.1.2.fr F4 (Or.inr (by omega))) hk) ?_
    refine q_st [vi ((((runA h l noOut ne).2.1.getD k dr0).2.2.2.1 : Nat) : Int)] [vr (s + 97)] l_144_111 (by decide) rfl rfl (Nat.le_of_ble_eq_true rfl) (by rw [mx_166]; exact Nat.le_of_ble_eq_true rfl) (by rw [rk_166]; decide) (s_166 hD.2.2.2.1) ?_
    refine p_iv [vs (2 * (16 + ((runA h l noOut ne).2.1.getD k dr0).2.2.2.1) + 4)] [] l_144_114 rfl rfl (Nat.le_of_ble_eq_true rfl) (by rw [mx_14]; exact Nat.le_of_ble_eq_true rfl) (by rw [mt_14]; exact oLine_sh (oDropSwitch_o16 o)) (by rw [mt_14]; decide) (by rw [rk_14]; decide) (s_14 (oDropSwitch_o16 o) H4 (w := 16 + ((runA h l noOut ne).2.1.getD k dr0).2.2.2.1) (by omega) (by first | omega | (simp only [List.length_append, List.length_cons, List.length_nil]; omega))) (fun v I5 hv => ?_)
    obtain ⟨rfl, H5, g5⟩ := hv
    have F5 := F4.tr g5
    refine w_iln l_144_117 rfl ?_
    refine w_ic l_144_118 (by decide) ?_
    refine w_ceq 139 l_144_119 (by decide) (fun hx => absurd hx (by omega)) (fun _ => ?_)
    refine w_aln l_144_122 rfl ?_
    refine w_gr l_144_123 (oDropSwitch_sh o) (oDropSwitch_r16 o) ?_
    refine w_bp l_144_126 (by decide) ?_
    refine p_iv [vi 61] [] l_144_128 rfl rfl (Nat.le_of_ble_eq_true rfl) (by rw [mx_13]; exact Nat.le_of_ble_eq_true rfl) (by rw [mt_13]; exact oLine_sh (oDropSwitch_o16 o)) (by rw [mt_13]; decide) (by rw [rk_13]; decide) (t_add (oDropSwitch_o16 o) H5 (by first | omega | (simp only [List.length_append, List.length_cons, List.length_nil]; omega)) (by decide)) (fun v I6 hv => ?_)
    obtain ⟨rfl, H6, g6⟩ := hv
    have F6 := F5.tr g6
    refine w_aln l_144_131 rfl ?_
    refine w_gr l_144_132 (oDropSwitch_sh o) (oDropSwitch_r16 o) ?_
    refine w_iln l_144_135 rfl ?_
    refine p_iv [vi ((dt : Nat) : Int)] [] l_144_136 rfl rfl (Nat.le_of_ble_eq_true rfl) (by rw [mx_15]; exact Nat.le_of_ble_eq_true rfl) (by rw [mt_15]; exact oLine_sh (oDropSwitch_o16 o)) (by rw [mt_15]; decide) (by rw [rk_15]; decide) (s_15 (oDropSwitch_o16 o) H6 (by omega) (by first | omega | (simp only [List.length_append, List.length_cons, List.length_nil]; omega))) (fun v I7 hv => ?_)
    obtain ⟨rfl, H7, g7⟩ := hv
    have F7 := F6.tr g7
    refine w_iln l_144_139 rfl ?_
    refine w_ic l_144_140 (by decide) ?_
    refine w_ceq 168 l_144_141 (by decide) (fun _ => ?_) (fun hx => absurd hx (by decide))
    refine w_aln l_144_168 rfl ?_
    refine w_gr l_144_169 (oDropSwitch_sh o) (oDropSwitch_r16 o) ?_
    refine w_gi ((((((((([] ++ numB ((runA h l noOut ne).2.1.getD k dr0).2.1) ++ [64]) ++ numB ((runA h l noOut ne).2.1.getD k dr0).1) ++ [32]) ++ strB (16 + ((runA h l noOut ne).2.1.getD k dr0).2.2.2.1)) ++ [61]) ++ numB dt).length : Nat) : Int) l_144_172 (oLine_sh (oDropSwitch_o16 o)) H7.1 ?_
    refine w_ir l_144_175 (Or.inl rfl) ?_
    have e9 : dropB nm ((runA h l noOut ne).2.1.getD k dr0) = ((((((([] ++ numB ((runA h l noOut ne).2.1.getD k dr0).2.1) ++ [64]) ++ numB ((runA h l noOut ne).2.1.getD k dr0).1) ++ [32]) ++ strB (16 + ((runA h l noOut ne).2.1.getD k dr0).2.2.2.1)) ++ [61]) ++ numB dt) := by
      unfold dropB
      rw [hdt, hpt, if_neg (by omega), if_pos rfl]
      simp only [Int.toNat_natCast, List.append_assoc, List.nil_append, List.append_nil]
    rw [← e9] at H7
    refine ⟨_, _, rfl, rfl, by rw [e9], H7, F7⟩
  · skip
    refine CL_start (r := 5) (ls := [vr s, vi ((k : Nat) : Int), vs 2, vs 2]) (rk_144 _) rfl ?_
    have hln := K.2.2.2.1.2.1.2
    have hD := run_okD K.2.2.2.2.2.2.2.1 K.2.2.2.2.2.2.2.2.1 K.2.2.2.2.2.2.2.2.2 K.2.2.1.2.2.1 K.2.2.1.2.2.2.1 hk
    have hl4 := K.2.2.2.2.2.2.2.1.1
    have hD1 := hD.1
    have hD2 := hD.2.1
    have hD3 := hD.2.2.1
    have hD4 := hD.2.2.2.1
    have hD5 := hD.2.2.2.2
    have b1 := numB_len ((runA h l noOut ne).2.1.getD k dr0).2.1
    have b2 := numB_len ((runA h l noOut ne).2.1.getD k dr0).1
    have b3 := strB_len (16 + ((runA h l noOut ne).2.1.getD k dr0).2.2.2.1)
    have b4 := stb_len (16 + ((runA h l noOut ne).2.1.getD k dr0).2.2.2.1) (by omega)
    have b5 := numB_len dt
    have b6 := (NM p hp).1.1
    have b7 := nameB_len (nm p)
    refine w_aln l_144_0 rfl ?_
    refine w_iln l_144_1 rfl ?_
    refine q_iv [vi ((k : Nat) : Int)] [] l_144_2 rfl rfl (Nat.le_of_ble_eq_true rfl) (by rw [mx_152]; exact Nat.le_of_ble_eq_true rfl) (by rw [mt_152]; exact oDropSwitch_sh o) (by rw [mt_152]; decide) (by rw [rk_152]; decide) (s_152 o K hk) ?_
    refine w_aln l_144_5 rfl ?_
    refine w_gr l_144_6 (oDropSwitch_sh o) (oDropSwitch_r8 o) ?_
    refine w_gr l_144_9 (oRun_sh (oDropSwitch_o8 o)) (oRun_r2 (oDropSwitch_o8 o)) ?_
    refine w_iln l_144_12 rfl ?_
    refine w_ic l_144_13 (by decide) ?_
    refine q_iv [vi ((k : Nat) : Int), vi 4] [] l_144_14 rfl rfl (Nat.le_of_ble_eq_true rfl) (by rw [mx_24]; exact Nat.le_of_ble_eq_true rfl) (by rw [mt_24]; exact oLog_sh (oRun_o2 (oDropSwitch_o8 o))) (by rw [mt_24]; decide) (by rw [rk_24]; decide) (by have g9 := t_part4 (xs := xs) (T := T) (cc := cc) (zz := zz) (oRun_o2 (oDropSwitch_o8 o)) K.2.2.2.1.2 hk; rw [hdt] at g9; exact g9) ?_
    refine w_isn l_144_17 ⟨Nat.le_of_ble_eq_true rfl, rfl⟩ ?_
    refine w_aln l_144_18 rfl ?_
    refine w_gr l_144_19 (oDropSwitch_sh o) (oDropSwitch_r8 o) ?_
    refine w_gr l_144_22 (oRun_sh (oDropSwitch_o8 o)) (oRun_r2 (oDropSwitch_o8 o)) ?_
    refine w_iln l_144_25 rfl ?_
    refine w_ic l_144_26 (by decide) ?_
    refine q_iv [vi ((k : Nat) : Int), vi 2] [] l_144_27 rfl rfl (Nat.le_of_ble_eq_true rfl) (by rw [mx_24]; exact Nat.le_of_ble_eq_true rfl) (by rw [mt_24]; exact oLog_sh (oRun_o2 (oDropSwitch_o8 o))) (by rw [mt_24]; decide) (by rw [rk_24]; decide) (by have g9 := t_part2 (xs := xs) (T := T) (cc := cc) (zz := zz) (oRun_o2 (oDropSwitch_o8 o)) K.2.2.2.1.2 hk; rw [hpt] at g9; exact g9) ?_
    refine w_isn l_144_30 ⟨Nat.le_of_ble_eq_true rfl, rfl⟩ ?_
    refine w_aln l_144_31 rfl ?_
    refine w_gr l_144_32 (oDropSwitch_sh o) (oDropSwitch_r16 o) ?_
    refine w_ic l_144_35 (by decide) ?_
    refine w_pi l_144_36 (oLine_sh (oDropSwitch_o16 o)) ?_
    have H0 : lnS (up I (s + 97) 1 0) (s + 97) [] := ⟨up_eq, Nat.zero_le _, fun i hi => absurd hi (Nat.not_lt_zero i)⟩
    have F0 : fr I (up I (s + 97) 1 0) (s + 97) (s + 97 + 1) := (fr.rf _ _ _).up (Nat.le_refl _) (by omega)
    refine w_aln l_144_39 rfl ?_
    refine w_gr l_144_40 (oDropSwitch_sh o) (oDropSwitch_r16 o) ?_
    refine w_aln l_144_43 rfl ?_
    refine w_gr l_144_44 (oDropSwitch_sh o) (oDropSwitch_r8 o) ?_
    refine w_gr l_144_47 (oRun_sh (oDropSwitch_o8 o)) (oRun_r2 (oDropSwitch_o8 o)) ?_
    refine w_iln l_144_50 rfl ?_
    refine w_ic l_144_51 (by decide) ?_
    refine q_iv [vi ((k : Nat) : Int), vi 1] [vr (s + 97)] l_144_52 rfl rfl (Nat.le_of_ble_eq_true rfl) (by rw [mx_24]; exact Nat.le_of_ble_eq_true rfl) (by rw [mt_24]; exact oLog_sh (oRun_o2 (oDropSwitch_o8 o))) (by rw [mt_24]; decide) (by rw [rk_24]; decide) (t_part1 (oRun_o2 (oDropSwitch_o8 o)) (K.2.2.2.1.2.fr F0 (Or.inr (by omega))) hk) ?_
    refine p_iv [vi ((((runA h l noOut ne).2.1.getD k dr0).2.1 : Nat) : Int)] [] l_144_55 rfl rfl (Nat.le_of_ble_eq_true rfl) (by rw [mx_15]; exact Nat.le_of_ble_eq_true rfl) (by rw [mt_15]; exact oLine_sh (oDropSwitch_o16 o)) (by rw [mt_15]; decide) (by rw [rk_15]; decide) (s_15 (oDropSwitch_o16 o) H0 (by omega) (by first | omega | (simp only [List.length_append, List.length_cons, List.length_nil]; omega))) (fun v I1 hv => ?_)
    obtain ⟨rfl, H1, g1⟩ := hv
    have F1 := F0.tr g1
    refine w_aln l_144_58 rfl ?_
    refine w_gr l_144_59 (oDropSwitch_sh o) (oDropSwitch_r16 o) ?_
    refine w_bp l_144_62 (by decide) ?_
    refine p_iv [vi 64] [] l_144_64 rfl rfl (Nat.le_of_ble_eq_true rfl) (by rw [mx_13]; exact Nat.le_of_ble_eq_true rfl) (by rw [mt_13]; exact oLine_sh (oDropSwitch_o16 o)) (by rw [mt_13]; decide) (by rw [rk_13]; decide) (t_add (oDropSwitch_o16 o) H1 (by first | omega | (simp only [List.length_append, List.length_cons, List.length_nil]; omega)) (by decide)) (fun v I2 hv => ?_)
    obtain ⟨rfl, H2, g2⟩ := hv
    have F2 := F1.tr g2
    refine w_aln l_144_67 rfl ?_
    refine w_gr l_144_68 (oDropSwitch_sh o) (oDropSwitch_r16 o) ?_
    refine w_aln l_144_71 rfl ?_
    refine w_gr l_144_72 (oDropSwitch_sh o) (oDropSwitch_r8 o) ?_
    refine w_gr l_144_75 (oRun_sh (oDropSwitch_o8 o)) (oRun_r2 (oDropSwitch_o8 o)) ?_
    refine w_iln l_144_78 rfl ?_
    refine w_ic l_144_79 (by decide) ?_
    refine q_iv [vi ((k : Nat) : Int), vi 0] [vr (s + 97)] l_144_80 rfl rfl (Nat.le_of_ble_eq_true rfl) (by rw [mx_24]; exact Nat.le_of_ble_eq_true rfl) (by rw [mt_24]; exact oLog_sh (oRun_o2 (oDropSwitch_o8 o))) (by rw [mt_24]; decide) (by rw [rk_24]; decide) (t_part0 (oRun_o2 (oDropSwitch_o8 o)) (K.2.2.2.1.2.fr F2 (Or.inr (by omega))) hk) ?_
    refine p_iv [vi ((((runA h l noOut ne).2.1.getD k dr0).1 : Nat) : Int)] [] l_144_83 rfl rfl (Nat.le_of_ble_eq_true rfl) (by rw [mx_15]; exact Nat.le_of_ble_eq_true rfl) (by rw [mt_15]; exact oLine_sh (oDropSwitch_o16 o)) (by rw [mt_15]; decide) (by rw [rk_15]; decide) (s_15 (oDropSwitch_o16 o) H2 (by omega) (by first | omega | (simp only [List.length_append, List.length_cons, List.length_nil]; omega))) (fun v I3 hv => ?_)
    obtain ⟨rfl, H3, g3⟩ := hv
    have F3 := F2.tr g3
    refine w_aln l_144_86 rfl ?_
    refine w_gr l_144_87 (oDropSwitch_sh o) (oDropSwitch_r16 o) ?_
    refine w_bp l_144_90 (by decide) ?_
    refine p_iv [vi 32] [] l_144_92 rfl rfl (Nat.le_of_ble_eq_true rfl) (by rw [mx_13]; exact Nat.le_of_ble_eq_true rfl) (by rw [mt_13]; exact oLine_sh (oDropSwitch_o16 o)) (by rw [mt_13]; decide) (by rw [rk_13]; decide) (t_add (oDropSwitch_o16 o) H3 (by first | omega | (simp only [List.length_append, List.length_cons, List.length_nil]; omega)) (by decide)) (fun v I4 hv => ?_)
    obtain ⟨rfl, H4, g4⟩ := hv
    have F4 := F3.tr g4
    refine w_aln l_144_95 rfl ?_
    refine w_gr l_144_96 (oDropSwitch_sh o) (oDropSwitch_r16 o) ?_
    refine w_aln l_144_99 rfl ?_
    refine w_gr l_144_100 (oDropSwitch_sh o) (oDropSwitch_r8 o) ?_
    refine w_gr l_144_103 (oRun_sh (oDropSwitch_o8 o)) (oRun_r2 (oDropSwitch_o8 o)) ?_
    refine w_iln l_144_106 rfl ?_
    refine w_ic l_144_107 (by decide) ?_
    refine q_iv [vi ((k : Nat) : Int), vi 3] [vr (s + 97)] l_144_108 rfl rfl (Nat.le_of_ble_eq_true rfl) (by rw [mx_24]; exact Nat.le_of_ble_eq_true rfl) (by rw [mt_24]; exact oLog_sh (oRun_o2 (oDropSwitch_o8 o))) (by rw [mt_24]; decide) (by rw [rk_24]; decide) (t_part3 (oRun_o2 (oDropSwitch_o8 o)) (K.2.2.2.1.2.fr F4 (Or.inr (by omega))) hk) ?_
    refine q_st [vi ((((runA h l noOut ne).2.1.getD k dr0).2.2.2.1 : Nat) : Int)] [vr (s + 97)] l_144_111 (by decide) rfl rfl (Nat.le_of_ble_eq_true rfl) (by rw [mx_166]; exact Nat.le_of_ble_eq_true rfl) (by rw [rk_166]; decide) (s_166 hD.2.2.2.1) ?_
    refine p_iv [vs (2 * (16 + ((runA h l noOut ne).2.1.getD k dr0).2.2.2.1) + 4)] [] l_144_114 rfl rfl (Nat.le_of_ble_eq_true rfl) (by rw [mx_14]; exact Nat.le_of_ble_eq_true rfl) (by rw [mt_14]; exact oLine_sh (oDropSwitch_o16 o)) (by rw [mt_14]; decide) (by rw [rk_14]; decide) (s_14 (oDropSwitch_o16 o) H4 (w := 16 + ((runA h l noOut ne).2.1.getD k dr0).2.2.2.1) (by omega) (by first | omega | (simp only [List.length_append, List.length_cons, List.length_nil]; omega))) (fun v I5 hv => ?_)
    obtain ⟨rfl, H5, g5⟩ := hv
    have F5 := F4.tr g5
    refine w_iln l_144_117 rfl ?_
    refine w_ic l_144_118 (by decide) ?_
    refine w_ceq 139 l_144_119 (by decide) (fun hx => absurd hx (by omega)) (fun _ => ?_)
    refine w_aln l_144_122 rfl ?_
    refine w_gr l_144_123 (oDropSwitch_sh o) (oDropSwitch_r16 o) ?_
    refine w_bp l_144_126 (by decide) ?_
    refine p_iv [vi 61] [] l_144_128 rfl rfl (Nat.le_of_ble_eq_true rfl) (by rw [mx_13]; exact Nat.le_of_ble_eq_true rfl) (by rw [mt_13]; exact oLine_sh (oDropSwitch_o16 o)) (by rw [mt_13]; decide) (by rw [rk_13]; decide) (t_add (oDropSwitch_o16 o) H5 (by first | omega | (simp only [List.length_append, List.length_cons, List.length_nil]; omega)) (by decide)) (fun v I6 hv => ?_)
    obtain ⟨rfl, H6, g6⟩ := hv
    have F6 := F5.tr g6
    refine w_aln l_144_131 rfl ?_
    refine w_gr l_144_132 (oDropSwitch_sh o) (oDropSwitch_r16 o) ?_
    refine w_iln l_144_135 rfl ?_
    refine p_iv [vi ((dt : Nat) : Int)] [] l_144_136 rfl rfl (Nat.le_of_ble_eq_true rfl) (by rw [mx_15]; exact Nat.le_of_ble_eq_true rfl) (by rw [mt_15]; exact oLine_sh (oDropSwitch_o16 o)) (by rw [mt_15]; decide) (by rw [rk_15]; decide) (s_15 (oDropSwitch_o16 o) H6 (by omega) (by first | omega | (simp only [List.length_append, List.length_cons, List.length_nil]; omega))) (fun v I7 hv => ?_)
    obtain ⟨rfl, H7, g7⟩ := hv
    have F7 := F6.tr g7
    refine w_iln l_144_139 rfl ?_
    refine w_ic l_144_140 (by decide) ?_
    refine w_ceq 168 l_144_141 (by decide) (fun hx => absurd hx (by omega)) (fun _ => ?_)
    refine w_aln l_144_144 rfl ?_
    refine w_gr l_144_145 (oDropSwitch_sh o) (oDropSwitch_r16 o) ?_
    refine w_bp l_144_148 (by decide) ?_
    refine p_iv [vi 32] [] l_144_150 rfl rfl (Nat.le_of_ble_eq_true rfl) (by rw [mx_13]; exact Nat.le_of_ble_eq_true rfl) (by rw [mt_13]; exact oLine_sh (oDropSwitch_o16 o)) (by rw [mt_13]; decide) (by rw [rk_13]; decide) (t_add (oDropSwitch_o16 o) H7 (by first | omega | (simp only [List.length_append, List.length_cons, List.length_nil]; omega)) (by decide)) (fun v I8 hv => ?_)
    obtain ⟨rfl, H8, g8⟩ := hv
    have F8 := F7.tr g8
    refine w_aln l_144_153 rfl ?_
    refine w_gr l_144_154 (oDropSwitch_sh o) (oDropSwitch_r16 o) ?_
    refine w_aln l_144_157 rfl ?_
    refine w_gr l_144_158 (oDropSwitch_sh o) (oDropSwitch_r5 o) ?_
    refine w_iln l_144_161 rfl ?_
    refine q_iv [vi ((p : Nat) : Int)] [vr (s + 97)] l_144_162 rfl rfl (Nat.le_of_ble_eq_true rfl) (by rw [mx_69]; exact Nat.le_of_ble_eq_true rfl) (by rw [mt_69]; exact oSetup_sh (oDropSwitch_o5 o)) (by rw [mt_69]; decide) (by rw [rk_69]; decide) (s_69 (oDropSwitch_o5 o) (by omega) ((F8 _ (by omega) p).trans (NM p hp).2)) ?_
    refine p_iv [vi (((nvR (nm p)) : Nat) : Int)] [] l_144_165 rfl rfl (Nat.le_of_ble_eq_true rfl) (by rw [mx_16]; exact Nat.le_of_ble_eq_true rfl) (by rw [mt_16]; exact oLine_sh (oDropSwitch_o16 o)) (by rw [mt_16]; decide) (by rw [rk_16]; decide) (s_16 (oDropSwitch_o16 o) H8 (NM p hp).1 (by first | omega | (simp only [List.length_append, List.length_cons, List.length_nil]; omega))) (fun v I9 hv => ?_)
    obtain ⟨rfl, H9, g9⟩ := hv
    have F9 := F8.tr g9
    refine w_aln l_144_168 rfl ?_
    refine w_gr l_144_169 (oDropSwitch_sh o) (oDropSwitch_r16 o) ?_
    refine w_gi ((((((((((([] ++ numB ((runA h l noOut ne).2.1.getD k dr0).2.1) ++ [64]) ++ numB ((runA h l noOut ne).2.1.getD k dr0).1) ++ [32]) ++ strB (16 + ((runA h l noOut ne).2.1.getD k dr0).2.2.2.1)) ++ [61]) ++ numB dt) ++ [32]) ++ nameB (nm p)).length : Nat) : Int) l_144_172 (oLine_sh (oDropSwitch_o16 o)) H9.1 ?_
    refine w_ir l_144_175 (Or.inl rfl) ?_
    have e9 : dropB nm ((runA h l noOut ne).2.1.getD k dr0) = ((((((((([] ++ numB ((runA h l noOut ne).2.1.getD k dr0).2.1) ++ [64]) ++ numB ((runA h l noOut ne).2.1.getD k dr0).1) ++ [32]) ++ strB (16 + ((runA h l noOut ne).2.1.getD k dr0).2.2.2.1)) ++ [61]) ++ numB dt) ++ [32]) ++ nameB (nm p)) := by
      unfold dropB
      rw [hdt, hpt, if_neg (by omega), if_neg (by omega)]
      simp only [Int.toNat_natCast, List.append_assoc, List.nil_append, List.append_nil]
    rw [← e9] at H9
    refine ⟨_, _, rfl, rfl, by rw [e9], H9, F9⟩

theorem s_144n (o : oDropSwitch S T s q y) {ne np : Nat} {a : Nat → Nat} (K : KQ I s q h l a ne np) {k : Int} (hk : ¬ (0 ≤ k ∧ k < (((runA h l noOut ne).2.1.length : Nat) : Int))) (hc : 1 ≤ cc ∧ 6 ≤ zz) : CL xs 144 [vr s, vi k] (S, I, T, cc, zz) (TH 0 (S, I, T, cc - 1, zz - 6)) := by
  refine CL_start (r := 5) (ls := [vr s, vi k, vs 2, vs 2]) (rk_144 _) rfl ?_
  refine w_aln l_144_0 rfl ?_
  refine w_iln l_144_1 rfl ?_
  refine t_iv [vi k] [] l_144_2 rfl rfl (Nat.le_of_ble_eq_true rfl) (by rw [mx_152]; exact Nat.le_of_ble_eq_true rfl) (by rw [mt_152]; exact oDropSwitch_sh o) (by rw [mt_152]; decide) (by rw [rk_152]; decide) (s_152n o K hk hc) (by decide +kernel) ?_
  exact ⟨rfl, rfl⟩

end FMD
