/-! the class: formatted texts -/
def dropB (nm : Nat → List Nat) (d : Dr) : List Nat := numB d.2.1 ++ [64] ++ numB d.1 ++ [32] ++ strB (16 + d.2.2.2.1) ++ (if d.2.2.2.2 = -1 then [] else [61] ++ numB d.2.2.2.2.toNat) ++ (if d.2.2.1 = -1 then [] else [32] ++ nameB (nm d.2.2.1.toNat))
def itemB (h : Hi) (c : Cp) : List Nat := [32] ++ numB c.1 ++ [46] ++ numB (hRnk h c.1)
def queB (h : Hi) (n : List Nat) (q : List Cp) : List Nat := nameB n ++ (q.map (itemB h)).flatten
theorem queB_s {h : Hi} {n : List Nat} {q : List Cp} {k : Nat} (hk : k < q.length) : queB h n (q.take (k + 1)) = queB h n (q.take k) ++ [32] ++ numB (q.getD k (0, 0)).1 ++ [46] ++ numB (hRnk h (q.getD k (0, 0)).1) := by
  have e : q.take (k + 1) = q.take k ++ [q.getD k (0, 0)] := by
    rw [List.take_succ, List.getD_eq_getElem?_getD, List.getElem?_eq_getElem hk]
    rfl
  unfold queB
  rw [e, List.map_append, List.flatten_append]
  simp [itemB]
theorem nameB_len (n : List Nat) : (nameB n).length = n.length := by unfold nameB; simp
theorem numB_1 {v : Nat} (h : v < 10) : numB v = [48 + v] := by
  unfold numB
  rw [if_neg (by omega), if_neg (by omega), Nat.mod_eq_of_lt h]
  rfl
theorem queB_len {h : Hi} {n : List Nat} (ok : okHi h) : ∀ k (q : List Cp), k ≤ q.length → (queB h n (q.take k)).length ≤ n.length + 6 * k
  | 0, q, _ => by
    show (nameB n ++ (List.map (itemB h) (q.take 0)).flatten).length ≤ _
    rw [List.take_zero]
    simp [nameB_len]
  | k + 1, q, hk => by
    have ih := queB_len (h := h) (n := n) ok k q (by omega)
    rw [queB_s (by omega)]
    have h1 := numB_len (q.getD k (0, 0)).1
    have h2 := (ok (q.getD k (0, 0)).1).2.2.1
    rw [numB_1 (v := hRnk h (q.getD k (0, 0)).1) (by omega)]
    simp only [List.length_append, List.length_cons, List.length_nil]
    omega
/-- the class's names -/
def cNm (I : Ix) (q : Nat) (l : Li) (nm : Nat → List Nat) : Prop := ∀ p, p < lPorts l → okNm (nm p) ∧ I (q + 6) p = ((nvR (nm p) : Nat) : Int)
section FMD
variable {xs : List Int} {S : List (Nat × Nat)} {T : Nat → Nat → Nat} {cc zz s q y : Nat} {h : Hi} {l : Li} {I I' : Ix} {L : List Nat}

theorem mx_69 : mxl 69 = 2 := by decide +kernel
theorem mt_69 : mtc 69 = 6 := by decide +kernel
theorem rk_69 (as : List AV) : rkA 69 as = 0 := rfl
theorem l_69_0 : look 69 0 = some (.aload_n 0, 1, 0, 0, 0, 0) := by decide +kernel
theorem l_69_1 : look 69 1 = some (.getfield 18, 3, 6, 1, 2, 250) := by decide +kernel
theorem l_69_4 : look 69 4 = some (.iload_n 1, 1, 0, 0, 0, 0) := by decide +kernel
theorem l_69_5 : look 69 5 = some (.iaload, 1, 0, 0, 0, 0) := by decide +kernel
theorem l_69_6 : look 69 6 = some (.ireturn, 1, 0, 0, 0, 0) := by decide +kernel

theorem s_69 (os : oSetup S T q) {p : Nat} (hp : p < 4) {v : Int} (hv : I (q + 6) p = v) : CL xs 69 [vr q, vi ((p : Nat) : Int)] (S, I, T, cc, zz) (FN (some (vi v)) (S, I, T, cc, zz)) := by
  refine CL_start (r := 0) (ls := [vr q, vi ((p : Nat) : Int)]) (rk_69 _) rfl ?_
  refine w_aln l_69_0 rfl ?_
  refine w_gr l_69_1 (oSetup_sh os) (oSetup_r1 os) ?_
  refine w_iln l_69_4 rfl ?_
  refine w_ia p v l_69_5 (oSetup_s1 os) rfl (by omega) hv ?_
  refine w_ir l_69_6 (Or.inl rfl) ?_
  exact ⟨rfl, rfl⟩

theorem mx_166 : mxl 166 = 1 := by decide +kernel
theorem mt_166 : mtc 166 = 9 := by decide +kernel
theorem rk_166 (as : List AV) : rkA 166 as = 0 := rfl
theorem l_166_0 : look 166 0 = some (.iload_n 0, 1, 0, 0, 0, 0) := by decide +kernel
theorem l_166_1 : look 166 1 = some (.tableswitch 87 1 9 #[51, 55, 59, 63, 67, 71, 75, 79, 83], 51, 0, 0, 0, 0) := by decide +kernel
theorem l_166_52 : look 166 52 = some (.ldc_w 366, 3, 17, 0, 0, 1463) := by decide +kernel
theorem l_166_55 : look 166 55 = some (.areturn, 1, 0, 0, 0, 0) := by decide +kernel
theorem l_166_56 : look 166 56 = some (.ldc_w 368, 3, 18, 0, 0, 1464) := by decide +kernel
theorem l_166_59 : look 166 59 = some (.areturn, 1, 0, 0, 0, 0) := by decide +kernel
theorem l_166_60 : look 166 60 = some (.ldc_w 370, 3, 19, 0, 0, 1465) := by decide +kernel
theorem l_166_63 : look 166 63 = some (.areturn, 1, 0, 0, 0, 0) := by decide +kernel
theorem l_166_64 : look 166 64 = some (.ldc_w 372, 3, 20, 0, 0, 1466) := by decide +kernel
theorem l_166_67 : look 166 67 = some (.areturn, 1, 0, 0, 0, 0) := by decide +kernel
theorem l_166_68 : look 166 68 = some (.ldc_w 374, 3, 21, 0, 0, 1467) := by decide +kernel
theorem l_166_71 : look 166 71 = some (.areturn, 1, 0, 0, 0, 0) := by decide +kernel
theorem l_166_72 : look 166 72 = some (.ldc_w 376, 3, 22, 0, 0, 1468) := by decide +kernel
theorem l_166_75 : look 166 75 = some (.areturn, 1, 0, 0, 0, 0) := by decide +kernel
theorem l_166_76 : look 166 76 = some (.ldc_w 378, 3, 23, 0, 0, 1469) := by decide +kernel
theorem l_166_79 : look 166 79 = some (.areturn, 1, 0, 0, 0, 0) := by decide +kernel
theorem l_166_80 : look 166 80 = some (.ldc_w 380, 3, 24, 0, 0, 1470) := by decide +kernel
theorem l_166_83 : look 166 83 = some (.areturn, 1, 0, 0, 0, 0) := by decide +kernel
theorem l_166_84 : look 166 84 = some (.ldc_w 382, 3, 25, 0, 0, 1471) := by decide +kernel
theorem l_166_87 : look 166 87 = some (.areturn, 1, 0, 0, 0, 0) := by decide +kernel
theorem l_166_88 : look 166 88 = some (.ldc_w 384, 3, 26, 0, 0, 1472) := by decide +kernel
theorem l_166_91 : look 166 91 = some (.areturn, 1, 0, 0, 0, 0) := by decide +kernel

theorem s_166 {c : Nat} (hc : 1 ≤ c ∧ c ≤ 10) : CL xs 166 [vi ((c : Nat) : Int)] (S, I, T, cc, zz) (FN (some (vs (2 * (16 + c) + 4))) (S, I, T, cc, zz)) := by
  rcases (show c = 1 ∨ c = 2 ∨ c = 3 ∨ c = 4 ∨ c = 5 ∨ c = 6 ∨ c = 7 ∨ c = 8 ∨ c = 9 ∨ c = 10 by omega) with e | e | e | e | e | e | e | e | e | e <;> subst e
  · skip
    refine CL_start (r := 0) (ls := [vi 1]) (rk_166 _) rfl ?_
    refine w_iln l_166_0 rfl ?_
    refine w_swi 52 l_166_1 (by decide) rfl (by decide) ?_
    refine w_ldcw l_166_52 (by decide) ?_
    refine w_ars l_166_55 ?_
    exact ⟨rfl, rfl⟩
  · skip
    refine CL_start (r := 0) (ls := [vi 2]) (rk_166 _) rfl ?_
    refine w_iln l_166_0 rfl ?_
    refine w_swi 56 l_166_1 (by decide) rfl (by decide) ?_
    refine w_ldcw l_166_56 (by decide) ?_
    refine w_ars l_166_59 ?_
    exact ⟨rfl, rfl⟩
  · skip
    refine CL_start (r := 0) (ls := [vi 3]) (rk_166 _) rfl ?_
    refine w_iln l_166_0 rfl ?_
    refine w_swi 60 l_166_1 (by decide) rfl (by decide) ?_
    refine w_ldcw l_166_60 (by decide) ?_
    refine w_ars l_166_63 ?_
    exact ⟨rfl, rfl⟩
  · skip
    refine CL_start (r := 0) (ls := [vi 4]) (rk_166 _) rfl ?_
    refine w_iln l_166_0 rfl ?_
    refine w_swi 64 l_166_1 (by decide) rfl (by decide) ?_
    refine w_ldcw l_166_64 (by decide) ?_
    refine w_ars l_166_67 ?_
    exact ⟨rfl, rfl⟩
  · skip
    refine CL_start (r := 0) (ls := [vi 5]) (rk_166 _) rfl ?_
    refine w_iln l_166_0 rfl ?_
    refine w_swi 68 l_166_1 (by decide) rfl (by decide) ?_
    refine w_ldcw l_166_68 (by decide) ?_
    refine w_ars l_166_71 ?_
    exact ⟨rfl, rfl⟩
  · skip
    refine CL_start (r := 0) (ls := [vi 6]) (rk_166 _) rfl ?_
    refine w_iln l_166_0 rfl ?_
    refine w_swi 72 l_166_1 (by decide) rfl (by decide) ?_
    refine w_ldcw l_166_72 (by decide) ?_
    refine w_ars l_166_75 ?_
    exact ⟨rfl, rfl⟩
  · skip
    refine CL_start (r := 0) (ls := [vi 7]) (rk_166 _) rfl ?_
    refine w_iln l_166_0 rfl ?_
    refine w_swi 76 l_166_1 (by decide) rfl (by decide) ?_
    refine w_ldcw l_166_76 (by decide) ?_
    refine w_ars l_166_79 ?_
    exact ⟨rfl, rfl⟩
  · skip
    refine CL_start (r := 0) (ls := [vi 8]) (rk_166 _) rfl ?_
    refine w_iln l_166_0 rfl ?_
    refine w_swi 80 l_166_1 (by decide) rfl (by decide) ?_
    refine w_ldcw l_166_80 (by decide) ?_
    refine w_ars l_166_83 ?_
    exact ⟨rfl, rfl⟩
  · skip
    refine CL_start (r := 0) (ls := [vi 9]) (rk_166 _) rfl ?_
    refine w_iln l_166_0 rfl ?_
    refine w_swi 84 l_166_1 (by decide) rfl (by decide) ?_
    refine w_ldcw l_166_84 (by decide) ?_
    refine w_ars l_166_87 ?_
    exact ⟨rfl, rfl⟩
  · skip
    refine CL_start (r := 0) (ls := [vi 10]) (rk_166 _) rfl ?_
    refine w_iln l_166_0 rfl ?_
    refine w_swd 88 l_166_1 (by decide) (by decide) ?_
    refine w_ldcw l_166_88 (by decide) ?_
    refine w_ars l_166_91 ?_
    exact ⟨rfl, rfl⟩

theorem mx_144 : mxl 144 = 4 := by decide +kernel
theorem mt_144 : mtc 144 = 9 := by decide +kernel
theorem rk_144 (as : List AV) : rkA 144 as = 5 := rfl
theorem l_144_0 : look 144 0 = some (.aload_n 0, 1, 0, 0, 0, 0) := by decide +kernel
theorem l_144_1 : look 144 1 = some (.iload_n 1, 1, 0, 0, 0, 0) := by decide +kernel
theorem l_144_2 : look 144 2 = some (.invokevirtual 237, 3, 152, 2, 0, 1262) := by decide +kernel
theorem l_144_5 : look 144 5 = some (.aload_n 0, 1, 0, 0, 0, 0) := by decide +kernel
theorem l_144_6 : look 144 6 = some (.getfield 57, 3, 9, 8, 2, 546) := by decide +kernel
theorem l_144_9 : look 144 9 = some (.getfield 131, 3, 5, 2, 2, 451) := by decide +kernel
theorem l_144_12 : look 144 12 = some (.iload_n 1, 1, 0, 0, 0, 0) := by decide +kernel
theorem l_144_13 : look 144 13 = some (.iconst 4, 1, 0, 0, 0, 0) := by decide +kernel
theorem l_144_14 : look 144 14 = some (.invokevirtual 240, 3, 24, 3, 0, 1266) := by decide +kernel
theorem l_144_17 : look 144 17 = some (.istore_n 2, 1, 0, 0, 0, 0) := by decide +kernel
theorem l_144_18 : look 144 18 = some (.aload_n 0, 1, 0, 0, 0, 0) := by decide +kernel
theorem l_144_19 : look 144 19 = some (.getfield 57, 3, 9, 8, 2, 546) := by decide +kernel
theorem l_144_22 : look 144 22 = some (.getfield 131, 3, 5, 2, 2, 451) := by decide +kernel
theorem l_144_25 : look 144 25 = some (.iload_n 1, 1, 0, 0, 0, 0) := by decide +kernel
theorem l_144_26 : look 144 26 = some (.iconst 2, 1, 0, 0, 0, 0) := by decide +kernel
theorem l_144_27 : look 144 27 = some (.invokevirtual 240, 3, 24, 3, 0, 1266) := by decide +kernel
theorem l_144_30 : look 144 30 = some (.istore_n 3, 1, 0, 0, 0, 0) := by decide +kernel
theorem l_144_31 : look 144 31 = some (.aload_n 0, 1, 0, 0, 0, 0) := by decide +kernel
theorem l_144_32 : look 144 32 = some (.getfield 91, 3, 9, 16, 2, 554) := by decide +kernel
theorem l_144_35 : look 144 35 = some (.iconst 0, 1, 0, 0, 0, 0) := by decide +kernel
theorem l_144_36 : look 144 36 = some (.putfield 313, 3, 2, 1, 0, 489) := by decide +kernel
theorem l_144_39 : look 144 39 = some (.aload_n 0, 1, 0, 0, 0, 0) := by decide +kernel
theorem l_144_40 : look 144 40 = some (.getfield 91, 3, 9, 16, 2, 554) := by decide +kernel
theorem l_144_43 : look 144 43 = some (.aload_n 0, 1, 0, 0, 0, 0) := by decide +kernel
theorem l_144_44 : look 144 44 = some (.getfield 57, 3, 9, 8, 2, 546) := by decide +kernel
theorem l_144_47 : look 144 47 = some (.getfield 131, 3, 5, 2, 2, 451) := by decide +kernel
theorem l_144_50 : look 144 50 = some (.iload_n 1, 1, 0, 0, 0, 0) := by decide +kernel
theorem l_144_51 : look 144 51 = some (.iconst 1, 1, 0, 0, 0, 0) := by decide +kernel
theorem l_144_52 : look 144 52 = some (.invokevirtual 240, 3, 24, 3, 0, 1266) := by decide +kernel
theorem l_144_55 : look 144 55 = some (.invokevirtual 316, 3, 15, 2, 0, 1451) := by decide +kernel
theorem l_144_58 : look 144 58 = some (.aload_n 0, 1, 0, 0, 0, 0) := by decide +kernel
theorem l_144_59 : look 144 59 = some (.getfield 91, 3, 9, 16, 2, 554) := by decide +kernel
theorem l_144_62 : look 144 62 = some (.bipush 64, 2, 0, 0, 0, 0) := by decide +kernel
theorem l_144_64 : look 144 64 = some (.invokevirtual 319, 3, 13, 2, 0, 1459) := by decide +kernel
theorem l_144_67 : look 144 67 = some (.aload_n 0, 1, 0, 0, 0, 0) := by decide +kernel
theorem l_144_68 : look 144 68 = some (.getfield 91, 3, 9, 16, 2, 554) := by decide +kernel
theorem l_144_71 : look 144 71 = some (.aload_n 0, 1, 0, 0, 0, 0) := by decide +kernel
theorem l_144_72 : look 144 72 = some (.getfield 57, 3, 9, 8, 2, 546) := by decide +kernel
theorem l_144_75 : look 144 75 = some (.getfield 131, 3, 5, 2, 2, 451) := by decide +kernel
theorem l_144_78 : look 144 78 = some (.iload_n 1, 1, 0, 0, 0, 0) := by decide +kernel
theorem l_144_79 : look 144 79 = some (.iconst 0, 1, 0, 0, 0, 0) := by decide +kernel
theorem l_144_80 : look 144 80 = some (.invokevirtual 240, 3, 24, 3, 0, 1266) := by decide +kernel
theorem l_144_83 : look 144 83 = some (.invokevirtual 316, 3, 15, 2, 0, 1451) := by decide +kernel
theorem l_144_86 : look 144 86 = some (.aload_n 0, 1, 0, 0, 0, 0) := by decide +kernel
theorem l_144_87 : look 144 87 = some (.getfield 91, 3, 9, 16, 2, 554) := by decide +kernel
theorem l_144_90 : look 144 90 = some (.bipush 32, 2, 0, 0, 0, 0) := by decide +kernel
theorem l_144_92 : look 144 92 = some (.invokevirtual 319, 3, 13, 2, 0, 1459) := by decide +kernel
theorem l_144_95 : look 144 95 = some (.aload_n 0, 1, 0, 0, 0, 0) := by decide +kernel
theorem l_144_96 : look 144 96 = some (.getfield 91, 3, 9, 16, 2, 554) := by decide +kernel
theorem l_144_99 : look 144 99 = some (.aload_n 0, 1, 0, 0, 0, 0) := by decide +kernel
theorem l_144_100 : look 144 100 = some (.getfield 57, 3, 9, 8, 2, 546) := by decide +kernel
theorem l_144_103 : look 144 103 = some (.getfield 131, 3, 5, 2, 2, 451) := by decide +kernel
theorem l_144_106 : look 144 106 = some (.iload_n 1, 1, 0, 0, 0, 0) := by decide +kernel
theorem l_144_107 : look 144 107 = some (.iconst 3, 1, 0, 0, 0, 0) := by decide +kernel
theorem l_144_108 : look 144 108 = some (.invokevirtual 240, 3, 24, 3, 0, 1266) := by decide +kernel
theorem l_144_111 : look 144 111 = some (.invokestatic 322, 3, 166, 1, 1, 1460) := by decide +kernel
theorem l_144_114 : look 144 114 = some (.invokevirtual 326, 3, 14, 2, 0, 1473) := by decide +kernel
theorem l_144_117 : look 144 117 = some (.iload_n 2, 1, 0, 0, 0, 0) := by decide +kernel
theorem l_144_118 : look 144 118 = some (.iconst (-1), 1, 0, 0, 0, 0) := by decide +kernel
theorem l_144_119 : look 144 119 = some (.if_icmp .eq 20, 3, 0, 0, 0, 0) := by decide +kernel
theorem l_144_122 : look 144 122 = some (.aload_n 0, 1, 0, 0, 0, 0) := by decide +kernel
theorem l_144_123 : look 144 123 = some (.getfield 91, 3, 9, 16, 2, 554) := by decide +kernel
theorem l_144_126 : look 144 126 = some (.bipush 61, 2, 0, 0, 0, 0) := by decide +kernel
theorem l_144_128 : look 144 128 = some (.invokevirtual 319, 3, 13, 2, 0, 1459) := by decide +kernel
theorem l_144_131 : look 144 131 = some (.aload_n 0, 1, 0, 0, 0, 0) := by decide +kernel
theorem l_144_132 : look 144 132 = some (.getfield 91, 3, 9, 16, 2, 554) := by decide +kernel
theorem l_144_135 : look 144 135 = some (.iload_n 2, 1, 0, 0, 0, 0) := by decide +kernel
theorem l_144_136 : look 144 136 = some (.invokevirtual 316, 3, 15, 2, 0, 1451) := by decide +kernel
theorem l_144_139 : look 144 139 = some (.iload_n 3, 1, 0, 0, 0, 0) := by decide +kernel
theorem l_144_140 : look 144 140 = some (.iconst (-1), 1, 0, 0, 0, 0) := by decide +kernel
theorem l_144_141 : look 144 141 = some (.if_icmp .eq 27, 3, 0, 0, 0, 0) := by decide +kernel
theorem l_144_144 : look 144 144 = some (.aload_n 0, 1, 0, 0, 0, 0) := by decide +kernel
theorem l_144_145 : look 144 145 = some (.getfield 91, 3, 9, 16, 2, 554) := by decide +kernel
theorem l_144_148 : look 144 148 = some (.bipush 32, 2, 0, 0, 0, 0) := by decide +kernel
theorem l_144_150 : look 144 150 = some (.invokevirtual 319, 3, 13, 2, 0, 1459) := by decide +kernel
theorem l_144_153 : look 144 153 = some (.aload_n 0, 1, 0, 0, 0, 0) := by decide +kernel
theorem l_144_154 : look 144 154 = some (.getfield 91, 3, 9, 16, 2, 554) := by decide +kernel
theorem l_144_157 : look 144 157 = some (.aload_n 0, 1, 0, 0, 0, 0) := by decide +kernel
theorem l_144_158 : look 144 158 = some (.getfield 35, 3, 9, 5, 2, 543) := by decide +kernel
theorem l_144_161 : look 144 161 = some (.iload_n 3, 1, 0, 0, 0, 0) := by decide +kernel
theorem l_144_162 : look 144 162 = some (.invokevirtual 330, 3, 69, 2, 0, 1479) := by decide +kernel
theorem l_144_165 : look 144 165 = some (.invokevirtual 333, 3, 16, 2, 0, 1483) := by decide +kernel
theorem l_144_168 : look 144 168 = some (.aload_n 0, 1, 0, 0, 0, 0) := by decide +kernel
theorem l_144_169 : look 144 169 = some (.getfield 91, 3, 9, 16, 2, 554) := by decide +kernel
theorem l_144_172 : look 144 172 = some (.getfield 313, 3, 2, 1, 0, 489) := by decide +kernel
theorem l_144_175 : look 144 175 = some (.ireturn, 1, 0, 0, 0, 0) := by decide +kernel

theorem s_144 (hq : s < q ∧ q + 8 < s + 21) (o : oDropSwitch S T s q y) {ne np : Nat} {a : Nat → Nat} (K : KQ I s q h l a ne np) {nm : Nat → List Nat} (NM : cNm I q l nm) {k : Nat} (hk : k < (runA h l noOut ne).2.1.length) : CL xs 144 [vr s, vi ((k : Nat) : Int)] (S, I, T, cc, zz) (RP S T cc zz (fun v I' => v = some (vi (((dropB nm ((runA h l noOut ne).2.1.getD k dr0)).length : Nat) : Int)) ∧ lnS I' (s + 97) (dropB nm ((runA h l noOut ne).2.1.getD k dr0)) ∧ fr I I' (s + 97) (s + 97 + 1))) := by
  have hD0 := run_okD K.2.2.2.2.2.2.2.1 K.2.2.2.2.2.2.2.2.1 K.2.2.2.2.2.2.2.2.2 K.2.2.1.2.2.1 K.2.2.1.2.2.2.1 hk
  have hdt0 : ((runA h l noOut ne).2.1.getD k dr0).2.2.2.2 = -1 ∨ ∃ dt : Nat, ((runA h l noOut ne).2.1.getD k dr0).2.2.2.2 = ((dt : Nat) : Int) ∧ dt ≤ 200 := by
    by_cases h9 : ((runA h l noOut ne).2.1.getD k dr0).2.2.2.2 = -1
    · exact Or.inl h9
    · exact Or.inr ⟨((runA h l noOut ne).2.1.getD k dr0).2.2.2.2.toNat, by have := hD0.2.2.2.2; omega, by have := hD0.2.2.2.2; omega⟩
  have hpt0 : ((runA h l noOut ne).2.1.getD k dr0).2.2.1 = -1 ∨ ∃ p : Nat, ((runA h l noOut ne).2.1.getD k dr0).2.2.1 = ((p : Nat) : Int) ∧ p < lPorts l := by
    by_cases h9 : ((runA h l noOut ne).2.1.getD k dr0).2.2.1 = -1
    · exact Or.inl h9
    · exact Or.inr ⟨((runA h l noOut ne).2.1.getD k dr0).2.2.1.toNat, by have := hD0.2.2.1; omega, by have := hD0.2.2.1; omega⟩
  rcases hdt0 with hdt | ⟨dt, hdt, hdt2⟩ <;> rcases hpt0 with hpt | ⟨p, hpt, hp⟩
  · skip
    refine CL_start (r := 5) (ls := [vr s, vi ((k : Nat) : Int), vs 2, vs 2]) (rk_144 _) rfl ?_
    have hln := K.2.2.2.1.2.1.2
    have hD := run_okD K.2.2.2.2.2.2.2.1 K.2.2.2.2.2.2.2.2.1 K.2.2.2.2.2.2.2.2.2 K.2.2.1.2.2.1 K.2.2.1.2.2.2.1 hk
    have hl4 := K.2.2.2.2.2.2.2.1.1
    have hD1 := hD.1
    have hD2 := hD.2.1
    have hD3 := hD.2.2.1
    have hD4 := hD.2.2.2.1
    have hD5 := hD.2.2.2.2
    have b1 := numB_len ((runA h l noOut ne).2.1.getD k dr0).2.1
    have b2 := numB_len ((runA h l noOut ne).2.1.getD k dr0).1
    have b3 := strB_len (16 + ((runA h l noOut ne).2.1.getD k dr0).2.2.2.1)
    have b4 := stb_len (16 + ((runA h l noOut ne).2.1.getD k dr0).2.2.2.1) (by omega)
    refine w_aln l_144_0 rfl ?_
    refine w_iln l_144_1 rfl ?_
    refine q_iv [vi ((k : Nat) : Int)] [] l_144_2 rfl rfl (Nat.le_of_ble_eq_true rfl) (by rw [mx_152]; exact Nat.le_of_ble_eq_true rfl) (by rw [mt_152]; exact oDropSwitch_sh o) (by rw [mt_152]; decide) (by rw [rk_152]; decide) (s_152 o K hk) ?_
    refine w_aln l_144_5 rfl ?_
    refine w_gr l_144_6 (oDropSwitch_sh o) (oDropSwitch_r8 o) ?_
    refine w_gr l_144_9 (oRun_sh (oDropSwitch_o8 o)) (oRun_r2 (oDropSwitch_o8 o)) ?_
    refine w_iln l_144_12 rfl ?_
    refine w_ic l_144_13 (by decide) ?_
    refine q_iv [vi ((k : Nat) : Int), vi 4] [] l_144_14 rfl rfl (Nat.le_of_ble_eq_true rfl) (by rw [mx_24]; exact Nat.le_of_ble_eq_true rfl) (by rw [mt_24]; exact oLog_sh (oRun_o2 (oDropSwitch_o8 o))) (by rw [mt_24]; decide) (by rw [rk_24]; decide) (by have g9 := t_part4 (xs := xs) (T := T) (cc := cc) (zz := zz) (oRun_o2 (oDropSwitch_o8 o)) K.2.2.2.1.2 hk; rw [hdt] at g9; exact g9) ?_
    refine w_isn l_144_17 ⟨Nat.le_of_ble_eq_true rfl, rfl⟩ ?_
    refine w_aln l_144_18 rfl ?_
    refine w_gr l_144_19 (oDropSwitch_sh o) (oDropSwitch_r8 o) ?_
    refine w_gr l_144_22 (oRun_sh (oDropSwitch_o8 o)) (oRun_r2 (oDropSwitch_o8 o)) ?_
    refine w_iln l_144_25 rfl ?_
    refine w_ic l_144_26 (by decide) ?_
    refine q_iv [vi ((k : Nat) : Int), vi 2] [] l_144_27 rfl rfl (Nat.le_of_ble_eq_true rfl) (by rw [mx_24]; exact Nat.le_of_ble_eq_true rfl) (by rw [mt_24]; exact oLog_sh (oRun_o2 (oDropSwitch_o8 o))) (by rw [mt_24]; decide) (by rw [rk_24]; decide) (by have g9 := t_part2 (xs := xs) (T := T) (cc := cc) (zz := zz) (oRun_o2 (oDropSwitch_o8 o)) K.2.2.2.1.2 hk; rw [hpt] at g9; exact g9) ?_
    refine w_isn l_144_30 ⟨Nat.le_of_ble_eq_true rfl, rfl⟩ ?_
    refine w_aln l_144_31 rfl ?_
    refine w_gr l_144_32 (oDropSwitch_sh o) (oDropSwitch_r16 o) ?_
    refine w_ic l_144_35 (by decide) ?_
    refine w_pi l_144_36 (oLine_sh (oDropSwitch_o16 o)) ?_
    have H0 : lnS (up I (s + 97) 1 0) (s + 97) [] := ⟨up_eq, Nat.zero_le _, fun i hi => absurd hi (Nat.not_lt_zero i)⟩
    have F0 : fr I (up I (s + 97) 1 0) (s + 97) (s + 97 + 1) := (fr.rf _ _ _).up (Nat.le_refl _) (by omega)
    refine w_aln l_144_39 rfl ?_
    refine w_gr l_144_40 (oDropSwitch_sh o) (oDropSwitch_r16 o) ?_
    refine w_aln l_144_43 rfl ?_
    refine w_gr l_144_44 (oDropSwitch_sh o) (oDropSwitch_r8 o) ?_
    refine w_gr l_144_47 (oRun_sh (oDropSwitch_o8 o)) (oRun_r2 (oDropSwitch_o8 o)) ?_
    refine w_iln l_144_50 rfl ?_
    refine w_ic l_144_51 (by decide) ?_
    refine q_iv [vi ((k : Nat) : Int), vi 1] [vr (s + 97)] l_144_52 rfl rfl (Nat.le_of_ble_eq_true rfl) (by rw [mx_24]; exact Nat.le_of_ble_eq_true rfl) (by rw [mt_24]; exact oLog_sh (oRun_o2 (oDropSwitch_o8 o))) (by rw [mt_24]; decide) (by rw [rk_24]; decide) (t_part1 (oRun_o2 (oDropSwitch_o8 o)) (K.2.2.2.1.2.fr F0 (Or.inr (by omega))) hk) ?_
    refine p_iv [vi ((((runA h l noOut ne).2.1.getD k dr0).2.1 : Nat) : Int)] [] l_144_55 rfl rfl (Nat.le_of_ble_eq_true rfl) (by rw [mx_15]; exact Nat.le_of_ble_eq_true rfl) (by rw [mt_15]; exact oLine_sh (oDropSwitch_o16 o)) (by rw [mt_15]; decide) (by rw [rk_15]; decide) (s_15 (oDropSwitch_o16 o) H0 (by omega) (by first | omega | (simp only [List.length_append, List.length_cons, List.length_nil]; omega))) (fun v I1 hv => ?_)
    obtain ⟨rfl, H1, g1⟩ := hv
    have F1 := F0.tr g1
    refine w_aln l_144_58 rfl ?_
    refine w_gr l_144_59 (oDropSwitch_sh o) (oDropSwitch_r16 o) ?_
    refine w_bp l_144_62 (by decide) ?_
    refine p_iv [vi 64] [] l_144_64 rfl rfl (Nat.le_of_ble_eq_true rfl) (by rw [mx_13]; exact Nat.le_of_ble_eq_true rfl) (by rw [mt_13]; exact oLine_sh (oDropSwitch_o16 o)) (by rw [mt_13]; decide) (by rw [rk_13]; decide) (t_add (oDropSwitch_o16 o) H1 (by first | omega | (simp only [List.length_append, List.length_cons, List.length_nil]; omega)) (by decide)) (fun v I2 hv => ?_)
    obtain ⟨rfl, H2, g2⟩ := hv
    have F2 := F1.tr g2
    refine w_aln l_144_67 rfl ?_
    refine w_gr l_144_68 (oDropSwitch_sh o) (oDropSwitch_r16 o) ?_
    refine w_aln l_144_71 rfl ?_
    refine w_gr l_144_72 (oDropSwitch_sh o) (oDropSwitch_r8 o) ?_
    refine w_gr l_144_75 (oRun_sh (oDropSwitch_o8 o)) (oRun_r2 (oDropSwitch_o8 o)) ?_
    refine w_iln l_144_78 rfl ?_
    refine w_ic l_144_79 (by decide) ?_
    refine q_iv [vi ((k : Nat) : Int), vi 0] [vr (s + 97)] l_144_80 rfl rfl (Nat.le_of_ble_eq_true rfl) (by rw [mx_24]; exact Nat.le_of_ble_eq_true rfl) (by rw [mt_24]; exact oLog_sh (oRun_o2 (oDropSwitch_o8 o))) (by rw [mt_24]; decide) (by rw [rk_24]; decide) (t_part0 (oRun_o2 (oDropSwitch_o8 o)) (K.2.2.2.1.2.fr F2 (Or.inr (by omega))) hk) ?_
    refine p_iv [vi ((((runA h l noOut ne).2.1.getD k dr0).1 : Nat) : Int)] [] l_144_83 rfl rfl (Nat.le_of_ble_eq_true rfl) (by rw [mx_15]; exact Nat.le_of_ble_eq_true rfl) (by rw [mt_15]; exact oLine_sh (oDropSwitch_o16 o)) (by rw [mt_15]; decide) (by rw [rk_15]; decide) (s_15 (oDropSwitch_o16 o) H2 (by omega) (by first | omega | (simp only [List.length_append, List.length_cons, List.length_nil]; omega))) (fun v I3 hv => ?_)
    obtain ⟨rfl, H3, g3⟩ := hv
    have F3 := F2.tr g3
    refine w_aln l_144_86 rfl ?_
    refine w_gr l_144_87 (oDropSwitch_sh o) (oDropSwitch_r16 o) ?_
    refine w_bp l_144_90 (by decide) ?_
    refine p_iv [vi 32] [] l_144_92 rfl rfl (Nat.le_of_ble_eq_true rfl) (by rw [mx_13]; exact Nat.le_of_ble_eq_true rfl) (by rw [mt_13]; exact oLine_sh (oDropSwitch_o16 o)) (by rw [mt_13]; decide) (by rw [rk_13]; decide) (t_add (oDropSwitch_o16 o) H3 (by first | omega | (simp only [List.length_append, List.length_cons, List.length_nil]; omega)) (by decide)) (fun v I4 hv => ?_)
    obtain ⟨rfl, H4, g4⟩ := hv
    have F4 := F3.tr g4
    refine w_aln l_144_95 rfl ?_
    refine w_gr l_144_96 (oDropSwitch_sh o) (oDropSwitch_r16 o) ?_
    refine w_aln l_144_99 rfl ?_
    refine w_gr l_144_100 (oDropSwitch_sh o) (oDropSwitch_r8 o) ?_
    refine w_gr l_144_103 (oRun_sh (oDropSwitch_o8 o)) (oRun_r2 (oDropSwitch_o8 o)) ?_
    refine w_iln l_144_106 rfl ?_
    refine w_ic l_144_107 (by decide) ?_
    refine q_iv [vi ((k : Nat) : Int), vi 3] [vr (s + 97)] l_144_108 rfl rfl (Nat.le_of_ble_eq_true rfl) (by rw [mx_24]; exact Nat.le_of_ble_eq_true rfl) (by rw [mt_24]; exact oLog_sh (oRun_o2 (oDropSwitch_o8 o))) (by rw [mt_24]; decide) (by rw [rk_24]; decide) (t_part3 (oRun_o2 (oDropSwitch_o8 o)) (K.2.2.2.1.2.fr F4 (Or.inr (by omega))) hk) ?_
    refine q_st [vi ((((runA h l noOut ne).2.1.getD k dr0).2.2.2.1 : Nat) : Int)] [vr (s + 97)] l_144_111 (by decide) rfl rfl (Nat.le_of_ble_eq_true rfl) (by rw [mx_166]; exact Nat.le_of_ble_eq_true rfl) (by rw [rk_166]; decide) (s_166 hD.2.2.2.1) ?_
    refine p_iv [vs (2 * (16 + ((runA h l noOut ne).2.1.getD k dr0).2.2.2.1) + 4)] [] l_144_114 rfl rfl (Nat.le_of_ble_eq_true rfl) (by rw [mx_14]; exact Nat.le_of_ble_eq_true rfl) (by rw [mt_14]; exact oLine_sh (oDropSwitch_o16 o)) (by rw [mt_14]; decide) (by rw [rk_14]; decide) (s_14 (oDropSwitch_o16 o) H4 (w := 16 + ((runA h l noOut ne).2.1.getD k dr0).2.2.2.1) (by omega) (by first | omega | (simp only [List.length_append, List.length_cons, List.length_nil]; omega))) (fun v I5 hv => ?_)
    obtain ⟨rfl, H5, g5⟩ := hv
    have F5 := F4.tr g5
    refine w_iln l_144_117 rfl ?_
    refine w_ic l_144_118 (by decide) ?_
    refine w_ceq 139 l_144_119 (by decide) (fun _ => ?_) (fun hx => absurd hx (by decide))
    refine w_iln l_144_139 rfl ?_
    refine w_ic l_144_140 (by decide) ?_
    refine w_ceq 168 l_144_141 (by decide) (fun _ => ?_) (fun hx => absurd hx (by decide))
    refine w_aln l_144_168 rfl ?_
    refine w_gr l_144_169 (oDropSwitch_sh o) (oDropSwitch_r16 o) ?_
    refine w_gi ((((((([] ++ numB ((runA h l noOut ne).2.1.getD k dr0).2.1) ++ [64]) ++ numB ((runA h l noOut ne).2.1.getD k dr0).1) ++ [32]) ++ strB (16 + ((runA h l noOut ne).2.1.getD k dr0).2.2.2.1)).length : Nat) : Int) l_144_172 (oLine_sh (oDropSwitch_o16 o)) H5.1 ?_
    refine w_ir l_144_175 (Or.inl rfl) ?_
    have e9 : dropB nm ((runA h l noOut ne).2.1.getD k dr0) = ((((([] ++ numB ((runA h l noOut ne).2.1.getD k dr0).2.1) ++ [64]) ++ numB ((runA h l noOut ne).2.1.getD k dr0).1) ++ [32]) ++ strB (16 + ((runA h l noOut ne).2.1.getD k dr0).2.2.2.1)) := by
      unfold dropB
      rw [hdt, hpt, if_pos rfl, if_pos rfl]
      simp only [Int.toNat_natCast, List.append_assoc, List.nil_append, List.append_nil]
    rw [← e9] at H5
    refine ⟨_, _, rfl, rfl, by rw [e9], H5, F5⟩
  · skip
    refine CL_start (r := 5) (ls := [vr s, vi ((k : Nat) : Int), vs 2, vs 2]) (rk_144 _) rfl ?_
    have hln := K.2.2.2.1.2.1.2
    have hD := run_okD K.2.2.2.2.2.2.2.1 K.2.2.2.2.2.2.2.2.1 K.2.2.2.2.2.2.2.2.2 K.2.2.1.2.2.1 K.2.2.1.2.2.2.1 hk
    have hl4 := K.2.2.2.2.2.2.2.1.1
    have hD1 := hD.1
    have hD2 := hD.2.1
    have hD3 := hD.2.2.1
    have hD4 := hD.2.2.2.1
    have hD5 := hD.2.2.2.2
    have b1 := numB_len ((runA h l noOut ne).2.1.getD k dr0).2.1
    have b2 := numB_len ((runA h l noOut ne).2.1.getD k dr0).1
    have b3 := strB_len (16 + ((runA h l noOut ne).2.1.getD k dr0).2.2.2.1)
    have b4 := stb_len (16 + ((runA h l noOut ne).2.1.getD k dr0).2.2.2.1) (by omega)
    have b6 := (NM p hp).1.1
    have b7 := nameB_len (nm p)
    refine w_aln l_144_0 rfl ?_
    refine w_iln l_144_1 rfl ?_
    refine q_iv [vi ((k : Nat) : Int)] [] l_144_2 rfl rfl (Nat.le_of_ble_eq_true rfl) (by rw [mx_152]; exact Nat.le_of_ble_eq_true rfl) (by rw [mt_152]; exact oDropSwitch_sh o) (by rw [mt_152]; decide) (by rw [rk_152]; decide) (s_152 o K hk) ?_
    refine w_aln l_144_5 rfl ?_
    refine w_gr l_144_6 (oDropSwitch_sh o) (oDropSwitch_r8 o) ?_
    refine w_gr l_144_9 (oRun_sh (oDropSwitch_o8 o)) (oRun_r2 (oDropSwitch_o8 o)) ?_
    refine w_iln l_144_12 rfl ?_
    refine w_ic l_144_13 (by decide) ?_
    refine q_iv [vi ((k : Nat) : Int), vi 4] [] l_144_14 rfl rfl (Nat.le_of_ble_eq_true rfl) (by rw [mx_24]; exact Nat.le_of_ble_eq_true rfl) (by rw [mt_24]; exact oLog_sh (oRun_o2 (oDropSwitch_o8 o))) (by rw [mt_24]; decide) (by rw [rk_24]; decide) (by have g9 := t_part4 (xs := xs) (T := T) (cc := cc) (zz := zz) (oRun_o2 (oDropSwitch_o8 o)) K.2.2.2.1.2 hk; rw [hdt] at g9; exact g9) ?_
    refine w_isn l_144_17 ⟨Nat.le_of_ble_eq_true rfl, rfl⟩ ?_
    refine w_aln l_144_18 rfl ?_
    refine w_gr l_144_19 (oDropSwitch_sh o) (oDropSwitch_r8 o) ?_
    refine w_gr l_144_22 (oRun_sh (oDropSwitch_o8 o)) (oRun_r2 (oDropSwitch_o8 o)) ?_
    refine w_iln l_144_25 rfl ?_
    refine w_ic l_144_26 (by decide) ?_
    refine q_iv [vi ((k : Nat) : Int), vi 2] [] l_144_27 rfl rfl (Nat.le_of_ble_eq_true rfl) (by rw [mx_24]; exact Nat.le_of_ble_eq_true rfl) (by rw [mt_24]; exact oLog_sh (oRun_o2 (oDropSwitch_o8 o))) (by rw [mt_24]; decide) (by rw [rk_24]; decide) (by have g9 := t_part2 (xs := xs) (T := T) (cc := cc) (zz := zz) (oRun_o2 (oDropSwitch_o8 o)) K.2.2.2.1.2 hk; rw [hpt] at g9; exact g9) ?_
    refine w_isn l_144_30 ⟨Nat.le_of_ble_eq_true rfl, rfl⟩ ?_
    refine w_aln l_144_31 rfl ?_
    refine w_gr l_144_32 (oDropSwitch_sh o) (oDropSwitch_r16 o) ?_
    refine w_ic l_144_35 (by decide) ?_
    refine w_pi l_144_36 (oLine_sh (oDropSwitch_o16 o)) ?_
    have H0 : lnS (up I (s + 97) 1 0) (s + 97) [] := ⟨up_eq, Nat.zero_le _, fun i hi => absurd hi (Nat.not_lt_zero i)⟩
    have F0 : fr I (up I (s + 97) 1 0) (s + 97) (s + 97 + 1) := (fr.rf _ _ _).up (Nat.le_refl _) (by omega)
    refine w_aln l_144_39 rfl ?_
    refine w_gr l_144_40 (oDropSwitch_sh o) (oDropSwitch_r16 o) ?_
    refine w_aln l_144_43 rfl ?_
    refine w_gr l_144_44 (oDropSwitch_sh o) (oDropSwitch_r8 o) ?_
    refine w_gr l_144_47 (oRun_sh (oDropSwitch_o8 o)) (oRun_r2 (oDropSwitch_o8 o)) ?_
    refine w_iln l_144_50 rfl ?_
    refine w_ic l_144_51 (by decide) ?_
    refine q_iv [vi ((k : Nat) : Int), vi 1] [vr (s + 97)] l_144_52 rfl rfl (Nat.le_of_ble_eq_true rfl) (by rw [mx_24]; exact Nat.le_of_ble_eq_true rfl) (by rw [mt_24]; exact oLog_sh (oRun_o2 (oDropSwitch_o8 o))) (by rw [mt_24]; decide) (by rw [rk_24]; decide) (t_part1 (oRun_o2 (oDropSwitch_o8 o)) (K.2.2.2.1.2.fr F0 (Or.inr (by omega))) hk) ?_
    refine p_iv [vi ((((runA h l noOut ne).2.1.getD k dr0).2.1 : Nat) : Int)] [] l_144_55 rfl rfl (Nat.le_of_ble_eq_true rfl) (by rw [mx_15]; exact Nat.le_of_ble_eq_true rfl) (by rw [mt_15]; exact oLine_sh (oDropSwitch_o16 o)) (by rw [mt_15]; decide) (by rw [rk_15]; decide) (s_15 (oDropSwitch_o16 o) H0 (by omega) (by first | omega | (simp only [List.length_append, List.length_cons, List.length_nil]; omega))) (fun v I1 hv => ?_)
    obtain ⟨rfl, H1, g1⟩ := hv
    have F1 := F0.tr g1
    refine w_aln l_144_58 rfl ?_
    refine w_gr l_144_59 (oDropSwitch_sh o) (oDropSwitch_r16 o) ?_
    refine w_bp l_144_62 (by decide) ?_
    refine p_iv [vi 64] [] l_144_64 rfl rfl (Nat.le_of_ble_eq_true rfl) (by rw [mx_13]; exact Nat.le_of_ble_eq_true rfl) (by rw [mt_13]; exact oLine_sh (oDropSwitch_o16 o)) (by rw [mt_13]; decide) (by rw [rk_13]; decide) (t_add (oDropSwitch_o16 o) H1 (by first | omega | (simp only [List.length_append, List.length_cons, List.length_nil]; omega)) (by decide)) (fun v I2 hv => ?_)
    obtain ⟨rfl, H2, g2⟩ := hv
    have F2 := F1.tr g2
    refine w_aln l_144_67 rfl ?_
    refine w_gr l_144_68 (oDropSwitch_sh o) (oDropSwitch_r16 o) ?_
    refine w_aln l_144_71 rfl ?_
    refine w_gr l_144_72 (oDropSwitch_sh o) (oDropSwitch_r8 o) ?_
    refine w_gr l_144_75 (oRun_sh (oDropSwitch_o8 o)) (oRun_r2 (oDropSwitch_o8 o)) ?_
    refine w_iln l_144_78 rfl ?_
    refine w_ic l_144_79 (by decide) ?_
    refine q_iv [vi ((k : Nat) : Int), vi 0] [vr (s + 97)] l_144_80 rfl rfl (Nat.le_of_ble_eq_true rfl) (by rw [mx_24]; exact Nat.le_of_ble_eq_true rfl) (by rw [mt_24]; exact oLog_sh (oRun_o2 (oDropSwitch_o8 o))) (by rw [mt_24]; decide) (by rw [rk_24]; decide) (t_part0 (oRun_o2 (oDropSwitch_o8 o)) (K.2.2.2.1.2.fr F2 (Or.inr (by omega))) hk) ?_
    refine p_iv [vi ((((runA h l noOut ne).2.1.getD k dr0).1 : Nat) : Int)] [] l_144_83 rfl rfl (Nat.le_of_ble_eq_true rfl) (by rw [mx_15]; exact Nat.le_of_ble_eq_true rfl) (by rw [mt_15]; exact oLine_sh (oDropSwitch_o16 o)) (by rw [mt_15]; decide) (by rw [rk_15]; decide) (s_15 (oDropSwitch_o16 o) H2 (by omega) (by first | omega | (simp only [List.length_append, List.length_cons, List.length_nil]; omega))) (fun v I3 hv => ?_)
    obtain ⟨rfl, H3, g3⟩ := hv
    have F3 := F2.tr g3
    refine w_aln l_144_86 rfl ?_
    refine w_gr l_144_87 (oDropSwitch_sh o) (oDropSwitch_r16 o) ?_
    refine w_bp l_144_90 (by decide) ?_
    refine p_iv [vi 32] [] l_144_92 rfl rfl (Nat.le_of_ble_eq_true rfl) (by rw [mx_13]; exact Nat.le_of_ble_eq_true rfl) (by rw [mt_13]; exact oLine_sh (oDropSwitch_o16 o)) (by rw [mt_13]; decide) (by rw [rk_13]; decide) (t_add (oDropSwitch_o16 o) H3 (by first | omega | (simp only [List.length_append, List.length_cons, List.length_nil]; omega)) (by decide)) (fun v I4 hv => ?_)
    obtain ⟨rfl, H4, g4⟩ := hv
    have F4 := F3.tr g4
    refine w_aln l_144_95 rfl ?_
    refine w_gr l_144_96 (oDropSwitch_sh o) (oDropSwitch_r16 o) ?_
    refine w_aln l_144_99 rfl ?_
    refine w_gr l_144_100 (oDropSwitch_sh o) (oDropSwitch_r8 o) ?_
    refine w_gr l_144_103 (oRun_sh (oDropSwitch_o8 o)) (oRun_r2 (oDropSwitch_o8 o)) ?_
    refine w_iln l_144_106 rfl ?_
    refine w_ic l_144_107 (by decide) ?_
    refine q_iv [vi ((k : Nat) : Int), vi 3] [vr (s + 97)] l_144_108 rfl rfl (Nat.le_of_ble_eq_true rfl) (by rw [mx_24]; exact Nat.le_of_ble_eq_true rfl) (by rw [mt_24]; exact oLog_sh (oRun_o2 (oDropSwitch_o8 o))) (by rw [mt_24]; decide) (by rw [rk_24]; decide) (t_part3 (oRun_o2 (oDropSwitch_o8 o)) (K.2.2.2.1.2.fr F4 (Or.inr (by omega))) hk) ?_
    refine q_st [vi ((((runA h l noOut ne).2.1.getD k dr0).2.2.2.1 : Nat) : Int)] [vr (s + 97)] l_144_111 (by decide) rfl rfl (Nat.le_of_ble_eq_true rfl) (by rw [mx_166]; exact Nat.le_of_ble_eq_true rfl) (by rw [rk_166]; decide) (s_166 hD.2.2.2.1) ?_
    refine p_iv [vs (2 * (16 + ((runA h l noOut ne).2.1.getD k dr0).2.2.2.1) + 4)] [] l_144_114 rfl rfl (Nat.le_of_ble_eq_true rfl) (by rw [mx_14]; exact Nat.le_of_ble_eq_true rfl) (by rw [mt_14]; exact oLine_sh (oDropSwitch_o16 o)) (by rw [mt_14]; decide) (by rw [rk_14]; decide) (s_14 (oDropSwitch_o16 o) H4 (w := 16 + ((runA h l noOut ne).2.1.getD k dr0).2.2.2.1) (by omega) (by first | omega | (simp only [List.length_append, List.length_cons, List.length_nil]; omega))) (fun v I5 hv => ?_)
    obtain ⟨rfl, H5, g5⟩ := hv
    have F5 := F4.tr g5
    refine w_iln l_144_117 rfl ?_
    refine w_ic l_144_118 (by decide) ?_
    refine w_ceq 139 l_144_119 (by decide) (fun _ => ?_) (fun hx => absurd hx (by decide))
    refine w_iln l_144_139 rfl ?_
    refine w_ic l_144_140 (by decide) ?_
    refine w_ceq 168 l_144_141 (by decide) (fun hx => absurd hx (by omega)) (fun _ => ?_)
    refine w_aln l_144_144 rfl ?_
    refine w_gr l_144_145 (oDropSwitch_sh o) (oDropSwitch_r16 o) ?_
    refine w_bp l_144_148 (by decide) ?_
    refine p_iv [vi 32] [] l_144_150 rfl rfl (Nat.le_of_ble_eq_true rfl) (by rw [mx_13]; exact Nat.le_of_ble_eq_true rfl) (by rw [mt_13]; exact oLine_sh (oDropSwitch_o16 o)) (by rw [mt_13]; decide) (by rw [rk_13]; decide) (t_add (oDropSwitch_o16 o) H5 (by first | omega | (simp only [List.length_append, List.length_cons, List.length_nil]; omega)) (by decide)) (fun v I6 hv => ?_)
    obtain ⟨rfl, H6, g6⟩ := hv
    have F6 := F5.tr g6
    refine w_aln l_144_153 rfl ?_
    refine w_gr l_144_154 (oDropSwitch_sh o) (oDropSwitch_r16 o) ?_
    refine w_aln l_144_157 rfl ?_
    refine w_gr l_144_158 (oDropSwitch_sh o) (oDropSwitch_r5 o) ?_
    refine w_iln l_144_161 rfl ?_
    refine q_iv [vi ((p : Nat) : Int)] [vr (s + 97)] l_144_162 rfl rfl (Nat.le_of_ble_eq_true rfl) (by rw [mx_69]; exact Nat.le_of_ble_eq_true rfl) (by rw [mt_69]; exact oSetup_sh (oDropSwitch_o5 o)) (by rw [mt_69]; decide) (by rw [rk_69]; decide) (s_69 (oDropSwitch_o5 o) (by omega) ((F6 _ (by omega) p).trans (NM p hp).2)) ?_
    refine p_iv [vi (((nvR (nm p)) : Nat) : Int)] [] l_144_165 rfl rfl (Nat.le_of_ble_eq_true rfl) (by rw [mx_16]; exact Nat.le_of_ble_eq_true rfl) (by rw [mt_16]; exact oLine_sh (oDropSwitch_o16 o)) (by rw [mt_16]; decide) (by rw [rk_16]; decide) (s_16 (oDropSwitch_o16 o) H6 (NM p hp).1 (by first | omega | (simp only [List.length_append, List.length_cons, List.length_nil]; omega))) (fun v I7 hv => ?_)
    obtain ⟨rfl, H7, g7⟩ := hv
    have F7 := F6.tr g7
    refine w_aln l_144_168 rfl ?_
    refine w_gr l_144_169 (oDropSwitch_sh o) (oDropSwitch_r16 o) ?_
    refine w_gi ((((((((([] ++ numB ((runA h l noOut ne).2.1.getD k dr0).2.1) ++ [64]) ++ numB ((runA h l noOut ne).2.1.getD k dr0).1) ++ [32]) ++ strB (16 + ((runA h l noOut ne).2.1.getD k dr0).2.2.2.1)) ++ [32]) ++ nameB (nm p)).length : Nat) : Int) l_144_172 (oLine_sh (oDropSwitch_o16 o)) H7.1 ?_
    refine w_ir l_144_175 (Or.inl rfl) ?_
    have e9 : dropB nm ((runA h l noOut ne).2.1.getD k dr0) = ((((((([] ++ numB ((runA h l noOut ne).2.1.getD k dr0).2.1) ++ [64]) ++ numB ((runA h l noOut ne).2.1.getD k dr0).1) ++ [32]) ++ strB (16 + ((runA h l noOut ne).2.1.getD k dr0).2.2.2.1)) ++ [32]) ++ nameB (nm p)) := by
      unfold dropB
      rw [hdt, hpt, if_pos rfl, if_neg (by omega)]
      simp only [Int.toNat_natCast, List.append_assoc, List.nil_append, List.append_nil]
    rw [← e9] at H7
    refine ⟨_, _, rfl, rfl, by rw [e9], H7, F7⟩
  · skip
    refine CL_start (r := 5) (ls := [vr s, vi ((k : Nat) : Int), vs 2, vs 2]) (rk_144 _) rfl ?_
    have hln := K.2.2.2.1.2.1.2
    have hD := run_okD K.2.2.2.2.2.2.2.1 K.2.2.2.2.2.2.2.2.1 K.2.2.2.2.2.2.2.2.2 K.2.2.1.2.2.1 K.2.2.1.2.2.2.1 hk
    have hl4 := K.2.2.2.2.2.2.2.1.1
    have hD1 := hD.1
    have hD2 := hD.2.1
    have hD3 := hD.2.2.1
    have hD4 := hD.2.2.2.1
    have hD5 := hD.2.2.2.2
    have b1 := numB_len ((runA h l noOut ne).2.1.getD k dr0).2.1
    have b2 := numB_len ((runA h l noOut ne).2.1.getD k dr0).1
    have b3 := strB_len (16 + ((runA h l noOut ne).2.1.getD k dr0).2.2.2.1)
    have b4 := stb_len (16 + ((runA h l noOut ne).2.1.getD k dr0).2.2.2.1) (by omega)
    have b5 := numB_len dt
    refine w_aln l_144_0 rfl ?_
    refine w_iln l_144_1 rfl ?_
    refine q_iv [vi ((k : Nat) : Int)] [] l_144_2 rfl rfl (Nat.le_of_ble_eq_true rfl) (by rw [mx_152]; exact Nat.le_of_ble_eq_true rfl) (by rw [mt_152]; exact oDropSwitch_sh o) (by rw [mt_152]; decide) (by rw [rk_152]; decide) (s_152 o K hk) ?_
    refine w_aln l_144_5 rfl ?_
    refine w_gr l_144_6 (oDropSwitch_sh o) (oDropSwitch_r8 o) ?_
    refine w_gr l_144_9 (oRun_sh (oDropSwitch_o8 o)) (oRun_r2 (oDropSwitch_o8 o)) ?_
    refine w_iln l_144_12 rfl ?_
    refine w_ic l_144_13 (by decide) ?_
    refine q_iv [vi ((k : Nat) : Int), vi 4] [] l_144_14 rfl rfl (Nat.le_of_ble_eq_true rfl) (by rw [mx_24]; exact Nat.le_of_ble_eq_true rfl) (by rw [mt_24]; exact oLog_sh (oRun_o2 (oDropSwitch_o8 o))) (by rw [mt_24]; decide) (by rw [rk_24]; decide) (by have g9 := t_part4 (xs := xs) (T := T) (cc := cc) (zz := zz) (oRun_o2 (oDropSwitch_o8 o)) K.2.2.2.1.2 hk; rw [hdt] at g9; exact g9) ?_
    refine w_isn l_144_17 ⟨Nat.le_of_ble_eq_true rfl, rfl⟩ ?_
    refine w_aln l_144_18 rfl ?_
    refine w_gr l_144_19 (oDropSwitch_sh o) (oDropSwitch_r8 o) ?_
    refine w_gr l_144_22 (oRun_sh (oDropSwitch_o8 o)) (oRun_r2 (oDropSwitch_o8 o)) ?_
    refine w_iln l_144_25 rfl ?_
    refine w_ic l_144_26 (by decide) ?_
    refine q_iv [vi ((k : Nat) : Int), vi 2] [] l_144_27 rfl rfl (Nat.le_of_ble_eq_true rfl) (by rw [mx_24]; exact Nat.le_of_ble_eq_true rfl) (by rw [mt_24]; exact oLog_sh (oRun_o2 (oDropSwitch_o8 o))) (by rw [mt_24]; decide) (by rw [rk_24]; decide) (by have g9 := t_part2 (xs := xs) (T := T) (cc := cc) (zz := zz) (oRun_o2 (oDropSwitch_o8 o)) K.2.2.2.1.2 hk; rw [hpt] at g9; exact g9) ?_
    refine w_isn l_144_30 ⟨Nat.le_of_ble_eq_true rfl, rfl⟩ ?_
    refine w_aln l_144_31 rfl ?_
    refine w_gr l_144_32 (oDropSwitch_sh o) (oDropSwitch_r16 o) ?_
    refine w_ic l_144_35 (by decide) ?_
    refine w_pi l_144_36 (oLine_sh (oDropSwitch_o16 o)) ?_
    have H0 : lnS (up I (s + 97) 1 0) (s + 97) [] := ⟨up_eq, Nat.zero_le _, fun i hi => absurd hi (Nat.not_lt_zero i)⟩
    have F0 : fr I (up I (s + 97) 1 0) (s + 97) (s + 97 + 1) := (fr.rf _ _ _).up (Nat.le_refl _) (by omega)
    refine w_aln l_144_39 rfl ?_
    refine w_gr l_144_40 (oDropSwitch_sh o) (oDropSwitch_r16 o) ?_
    refine w_aln l_144_43 rfl ?_
    refine w_gr l_144_44 (oDropSwitch_sh o) (oDropSwitch_r8 o) ?_
    refine w_gr l_144_47 (oRun_sh (oDropSwitch_o8 o)) (oRun_r2 (oDropSwitch_o8 o)) ?_
    refine w_iln l_144_50 rfl ?_
    refine w_ic l_144_51 (by decide) ?_
    refine q_iv [vi ((k : Nat) : Int), vi 1] [vr (s + 97)] l_144_52 rfl rfl (Nat.le_of_ble_eq_true rfl) (by rw [mx_24]; exact Nat.le_of_ble_eq_true rfl) (by rw [mt_24]; exact oLog_sh (oRun_o2 (oDropSwitch_o8 o))) (by rw [mt_24]; decide) (by rw [rk_24]; decide) (t_part1 (oRun_o2 (oDropSwitch_o8 o)) (K.2.2.2.1.2.fr F0 (Or.inr (by omega))) hk) ?_
    refine p_iv [vi ((((runA h l noOut ne).2.1.getD k dr0).2.1 : Nat) : Int)] [] l_144_55 rfl rfl (Nat.le_of_ble_eq_true rfl) (by rw [mx_15]; exact Nat.le_of_ble_eq_true rfl) (by rw [mt_15]; exact oLine_sh (oDropSwitch_o16 o)) (by rw [mt_15]; decide) (by rw [rk_15]; decide) (s_15 (oDropSwitch_o16 o) H0 (by omega) (by first | omega | (simp only [List.length_append, List.length_cons, List.length_nil]; omega))) (fun v I1 hv => ?_)
    obtain ⟨rfl, H1, g1⟩ := hv
    have F1 := F0.tr g1
    refine w_aln l_144_58 rfl ?_
    refine w_gr l_144_59 (oDropSwitch_sh o) (oDropSwitch_r16 o) ?_
    refine w_bp l_144_62 (by decide) ?_
    refine p_iv [vi 64] [] l_144_64 rfl rfl (Nat.le_of_ble_eq_true rfl) (by rw [mx_13]; exact Nat.le_of_ble_eq_true rfl) (by rw [mt_13]; exact oLine_sh (oDropSwitch_o16 o)) (by rw [mt_13]; decide) (by rw [rk_13]; decide) (t_add (oDropSwitch_o16 o) H1 (by first | omega | (simp only [List.length_append, List.length_cons, List.length_nil]; omega)) (by decide)) (fun v I2 hv => ?_)
    obtain ⟨rfl, H2, g2⟩ := hv
    have F2 := F1.tr g2
    refine w_aln l_144_67 rfl ?_
    refine w_gr l_144_68 (oDropSwitch_sh o) (oDropSwitch_r16 o) ?_
    refine w_aln l_144_71 rfl ?_
    refine w_gr l_144_72 (oDropSwitch_sh o) (oDropSwitch_r8 o) ?_
    refine w_gr l_144_75 (oRun_sh (oDropSwitch_o8 o)) (oRun_r2 (oDropSwitch_o8 o)) ?_
    refine w_iln l_144_78 rfl ?_
    refine w_ic l_144_79 (by decide) ?_
    refine q_iv [vi ((k : Nat) : Int), vi 0] [vr (s + 97)] l_144_80 rfl rfl (Nat.le_of_ble_eq_true rfl) (by rw [mx_24]; exact Nat.le_of_ble_eq_true rfl) (by rw [mt_24]; exact oLog_sh (oRun_o2 (oDropSwitch_o8 o))) (by rw [mt_24]; decide) (by rw [rk_24]; decide) (t_part0 (oRun_o2 (oDropSwitch_o8 o)) (K.2.2.2.1.2.fr F2 (Or.inr (by omega))) hk) ?_
    refine p_iv [vi ((((runA h l noOut ne).2.1.getD k dr0).1 : Nat) : Int)] [] l_144_83 rfl rfl (Nat.le_of_ble_eq_true rfl) (by rw [mx_15]; exact Nat.le_of_ble_eq_true rfl) (by rw [mt_15]; exact oLine_sh (oDropSwitch_o16 o)) (by rw [mt_15]; decide) (by rw [rk_15]; decide) (s_15 (oDropSwitch_o16 o) H2 (by omega) (by first | omega | (simp only [List.length_append, List.length_cons, List.length_nil]; omega))) (fun v I3 hv => ?_)
    obtain ⟨rfl, H3, g3⟩ := hv
    have F3 := F2.tr g3
    refine w_aln l_144_86 rfl ?_
    refine w_gr l_144_87 (oDropSwitch_sh o) (oDropSwitch_r16 o) ?_
    refine w_bp l_144_90 (by decide) ?_
    refine p_iv [vi 32] [] l_144_92 rfl rfl (Nat.le_of_ble_eq_true rfl) (by rw [mx_13]; exact Nat.le_of_ble_eq_true rfl) (by rw [mt_13]; exact oLine_sh (oDropSwitch_o16 o)) (by rw [mt_13]; decide) (by rw [rk_13]; decide) (t_add (oDropSwitch_o16 o) H3 (by first | omega | (simp only [List.length_append, List.length_cons, List.length_nil]; omega)) (by decide)) (fun v I4 hv => ?_)
    obtain ⟨rfl, H4, g4⟩ := hv
    have F4 := F3.tr g4
    refine w_aln l_144_95 rfl ?_
    refine w_gr l_144_96 (oDropSwitch_sh o) (oDropSwitch_r16 o) ?_
    refine w_aln l_144_99 rfl ?_
    refine w_gr l_144_100 (oDropSwitch_sh o) (oDropSwitch_r8 o) ?_
    refine w_gr l_144_103 (oRun_sh (oDropSwitch_o8 o)) (oRun_r2 (oDropSwitch_o8 o)) ?_
    refine w_iln l_144_106 rfl ?_
    refine w_ic l_144_107 (by decide) ?_
    refine q_iv [vi ((k : Nat) : Int), vi 3] [vr (s + 97)] l_144_108 rfl rfl (Nat.le_of_ble_eq_true rfl) (by rw [mx_24]; exact Nat.le_of_ble_eq_true rfl) (by rw [mt_24]; exact oLog_sh (oRun_o2 (oDropSwitch_o8 o))) (by rw [mt_24]; decide) (by rw [rk_24]; decide) (t_part3 (oRun_o2 (oDropSwitch_o8 o)) (K.2.2.2.1.2.fr F4 (Or.inr (by omega))) hk) ?_
    refine q_st [vi ((((runA h l noOut ne).2.1.getD k dr0).2.2.2.1 : Nat) : Int)] [vr (s + 97)] l_144_111 (by decide) rfl rfl (Nat.le_of_ble_eq_true rfl) (by rw [mx_166]; exact Nat.le_of_ble_eq_true rfl) (by rw [rk_166]; decide) (s_166 hD.2.2.2.1) ?_
    refine p_iv [vs (2 * (16 + ((runA h l noOut ne).2.1.getD k dr0).2.2.2.1) + 4)] [] l_144_114 rfl rfl (Nat.le_of_ble_eq_true rfl) (by rw [mx_14]; exact Nat.le_of_ble_eq_true rfl) (by rw [mt_14]; exact oLine_sh (oDropSwitch_o16 o)) (by rw [mt_14]; decide) (by rw [rk_14]; decide) (s_14 (oDropSwitch_o16 o) H4 (w := 16 + ((runA h l noOut ne).2.1.getD k dr0).2.2.2.1) (by omega) (by first | omega | (simp only [List.length_append, List.length_cons, List.length_nil]; omega))) (fun v I5 hv => ?_)
    obtain ⟨rfl, H5, g5⟩ := hv
    have F5 := F4.tr g5
    refine w_iln l_144_117 rfl ?_
    refine w_ic l_144_118 (by decide) ?_
    refine w_ceq 139 l_144_119 (by decide) (fun hx => absurd hx (by omega)) (fun _ => ?_)
    refine w_aln l_144_122 rfl ?_
    refine w_gr l_144_123 (oDropSwitch_sh o) (oDropSwitch_r16 o) ?_
    refine w_bp l_144_126 (by decide) ?_
    refine p_iv [vi 61] [] l_144_128 rfl rfl (Nat.le_of_ble_eq_true rfl) (by rw [mx_13]; exact Nat.le_of_ble_eq_true rfl) (by rw [mt_13]; exact oLine_sh (oDropSwitch_o16 o)) (by rw [mt_13]; decide) (by rw [rk_13]; decide) (t_add (oDropSwitch_o16 o) H5 (by first | omega | (simp only [List.length_append, List.length_cons, List.length_nil]; omega)) (by decide)) (fun v I6 hv => ?_)
    obtain ⟨rfl, H6, g6⟩ := hv
    have F6 := F5.tr g6
    refine w_aln l_144_131 rfl ?_
    refine w_gr l_144_132 (oDropSwitch_sh o) (oDropSwitch_r16 o) ?_
    refine w_iln l_144_135 rfl ?_
    refine p_iv [vi ((dt : Nat) : Int)] [] l_144_136 rfl rfl (Nat.le_of_ble_eq_true rfl) (by rw [mx_15]; exact Nat.le_of_ble_eq_true rfl) (by rw [mt_15]; exact oLine_sh (oDropSwitch_o16 o)) (by rw [mt_15]; decide) (by rw [rk_15]; decide) (s_15 (oDropSwitch_o16 o) H6 (by omega) (by first | omega | (simp only [List.length_append, List.length_cons, List.length_nil]; omega))) (fun v I7 hv => ?_)
    obtain ⟨rfl, H7, g7⟩ := hv
    have F7 := F6.tr g7
    refine w_iln l_144_139 rfl ?_
    refine w_ic l_144_140 (by decide) ?_
    refine w_ceq 168 l_144_141 (by decide) (fun _ => ?_) (fun hx => absurd hx (by decide))
    refine w_aln l_144_168 rfl ?_
    refine w_gr l_144_169 (oDropSwitch_sh o) (oDropSwitch_r16 o) ?_
    refine w_gi ((((((((([] ++ numB ((runA h l noOut ne).2.1.getD k dr0).2.1) ++ [64]) ++ numB ((runA h l noOut ne).2.1.getD k dr0).1) ++ [32]) ++ strB (16 + ((runA h l noOut ne).2.1.getD k dr0).2.2.2.1)) ++ [61]) ++ numB dt).length : Nat) : Int) l_144_172 (oLine_sh (oDropSwitch_o16 o)) H7.1 ?_
    refine w_ir l_144_175 (Or.inl rfl) ?_
    have e9 : dropB nm ((runA h l noOut ne).2.1.getD k dr0) = ((((((([] ++ numB ((runA h l noOut ne).2.1.getD k dr0).2.1) ++ [64]) ++ numB ((runA h l noOut ne).2.1.getD k dr0).1) ++ [32]) ++ strB (16 + ((runA h l noOut ne).2.1.getD k dr0).2.2.2.1)) ++ [61]) ++ numB dt) := by
      unfold dropB
      rw [hdt, hpt, if_neg (by omega), if_pos rfl]
      simp only [Int.toNat_natCast, List.append_assoc, List.nil_append, List.append_nil]
    rw [← e9] at H7
    refine ⟨_, _, rfl, rfl, by rw [e9], H7, F7⟩
  · skip
    refine CL_start (r := 5) (ls := [vr s, vi ((k : Nat) : Int), vs 2, vs 2]) (rk_144 _) rfl ?_
    have hln := K.2.2.2.1.2.1.2
    have hD := run_okD K.2.2.2.2.2.2.2.1 K.2.2.2.2.2.2.2.2.1 K.2.2.2.2.2.2.2.2.2 K.2.2.1.2.2.1 K.2.2.1.2.2.2.1 hk
    have hl4 := K.2.2.2.2.2.2.2.1.1
    have hD1 := hD.1
    have hD2 := hD.2.1
    have hD3 := hD.2.2.1
    have hD4 := hD.2.2.2.1
    have hD5 := hD.2.2.2.2
    have b1 := numB_len ((runA h l noOut ne).2.1.getD k dr0).2.1
    have b2 := numB_len ((runA h l noOut ne).2.1.getD k dr0).1
    have b3 := strB_len (16 + ((runA h l noOut ne).2.1.getD k dr0).2.2.2.1)
    have b4 := stb_len (16 + ((runA h l noOut ne).2.1.getD k dr0).2.2.2.1) (by omega)
    have b5 := numB_len dt
    have b6 := (NM p hp).1.1
    have b7 := nameB_len (nm p)
    refine w_aln l_144_0 rfl ?_
    refine w_iln l_144_1 rfl ?_
    refine q_iv [vi ((k : Nat) : Int)] [] l_144_2 rfl rfl (Nat.le_of_ble_eq_true rfl) (by rw [mx_152]; exact Nat.le_of_ble_eq_true rfl) (by rw [mt_152]; exact oDropSwitch_sh o) (by rw [mt_152]; decide) (by rw [rk_152]; decide) (s_152 o K hk) ?_
    refine w_aln l_144_5 rfl ?_
    refine w_gr l_144_6 (oDropSwitch_sh o) (oDropSwitch_r8 o) ?_
    refine w_gr l_144_9 (oRun_sh (oDropSwitch_o8 o)) (oRun_r2 (oDropSwitch_o8 o)) ?_
    refine w_iln l_144_12 rfl ?_
    refine w_ic l_144_13 (by decide) ?_
    refine q_iv [vi ((k : Nat) : Int), vi 4] [] l_144_14 rfl rfl (Nat.le_of_ble_eq_true rfl) (by rw [mx_24]; exact Nat.le_of_ble_eq_true rfl) (by rw [mt_24]; exact oLog_sh (oRun_o2 (oDropSwitch_o8 o))) (by rw [mt_24]; decide) (by rw [rk_24]; decide) (by have g9 := t_part4 (xs := xs) (T := T) (cc := cc) (zz := zz) (oRun_o2 (oDropSwitch_o8 o)) K.2.2.2.1.2 hk; rw [hdt] at g9; exact g9) ?_
    refine w_isn l_144_17 ⟨Nat.le_of_ble_eq_true rfl, rfl⟩ ?_
    refine w_aln l_144_18 rfl ?_
    refine w_gr l_144_19 (oDropSwitch_sh o) (oDropSwitch_r8 o) ?_
    refine w_gr l_144_22 (oRun_sh (oDropSwitch_o8 o)) (oRun_r2 (oDropSwitch_o8 o)) ?_
    refine w_iln l_144_25 rfl ?_
    refine w_ic l_144_26 (by decide) ?_
    refine q_iv [vi ((k : Nat) : Int), vi 2] [] l_144_27 rfl rfl (Nat.le_of_ble_eq_true rfl) (by rw [mx_24]; exact Nat.le_of_ble_eq_true rfl) (by rw [mt_24]; exact oLog_sh (oRun_o2 (oDropSwitch_o8 o))) (by rw [mt_24]; decide) (by rw [rk_24]; decide) (by have g9 := t_part2 (xs := xs) (T := T) (cc := cc) (zz := zz) (oRun_o2 (oDropSwitch_o8 o)) K.2.2.2.1.2 hk; rw [hpt] at g9; exact g9) ?_
    refine w_isn l_144_30 ⟨Nat.le_of_ble_eq_true rfl, rfl⟩ ?_
    refine w_aln l_144_31 rfl ?_
    refine w_gr l_144_32 (oDropSwitch_sh o) (oDropSwitch_r16 o) ?_
    refine w_ic l_144_35 (by decide) ?_
    refine w_pi l_144_36 (oLine_sh (oDropSwitch_o16 o)) ?_
    have H0 : lnS (up I (s + 97) 1 0) (s + 97) [] := ⟨up_eq, Nat.zero_le _, fun i hi => absurd hi (Nat.not_lt_zero i)⟩
    have F0 : fr I (up I (s + 97) 1 0) (s + 97) (s + 97 + 1) := (fr.rf _ _ _).up (Nat.le_refl _) (by omega)
    refine w_aln l_144_39 rfl ?_
    refine w_gr l_144_40 (oDropSwitch_sh o) (oDropSwitch_r16 o) ?_
    refine w_aln l_144_43 rfl ?_
    refine w_gr l_144_44 (oDropSwitch_sh o) (oDropSwitch_r8 o) ?_
    refine w_gr l_144_47 (oRun_sh (oDropSwitch_o8 o)) (oRun_r2 (oDropSwitch_o8 o)) ?_
    refine w_iln l_144_50 rfl ?_
    refine w_ic l_144_51 (by decide) ?_
    refine q_iv [vi ((k : Nat) : Int), vi 1] [vr (s + 97)] l_144_52 rfl rfl (Nat.le_of_ble_eq_true rfl) (by rw [mx_24]; exact Nat.le_of_ble_eq_true rfl) (by rw [mt_24]; exact oLog_sh (oRun_o2 (oDropSwitch_o8 o))) (by rw [mt_24]; decide) (by rw [rk_24]; decide) (t_part1 (oRun_o2 (oDropSwitch_o8 o)) (K.2.2.2.1.2.fr F0 (Or.inr (by omega))) hk) ?_
    refine p_iv [vi ((((runA h l noOut ne).2.1.getD k dr0).2.1 : Nat) : Int)] [] l_144_55 rfl rfl (Nat.le_of_ble_eq_true rfl) (by rw [mx_15]; exact Nat.le_of_ble_eq_true rfl) (by rw [mt_15]; exact oLine_sh (oDropSwitch_o16 o)) (by rw [mt_15]; decide) (by rw [rk_15]; decide) (s_15 (oDropSwitch_o16 o) H0 (by omega) (by first | omega | (simp only [List.length_append, List.length_cons, List.length_nil]; omega))) (fun v I1 hv => ?_)
    obtain ⟨rfl, H1, g1⟩ := hv
    have F1 := F0.tr g1
    refine w_aln l_144_58 rfl ?_
    refine w_gr l_144_59 (oDropSwitch_sh o) (oDropSwitch_r16 o) ?_
    refine w_bp l_144_62 (by decide) ?_
    refine p_iv [vi 64] [] l_144_64 rfl rfl (Nat.le_of_ble_eq_true rfl) (by rw [mx_13]; exact Nat.le_of_ble_eq_true rfl) (by rw [mt_13]; exact oLine_sh (oDropSwitch_o16 o)) (by rw [mt_13]; decide) (by rw [rk_13]; decide) (t_add (oDropSwitch_o16 o) H1 (by first | omega | (simp only [List.length_append, List.length_cons, List.length_nil]; omega)) (by decide)) (fun v I2 hv => ?_)
    obtain ⟨rfl, H2, g2⟩ := hv
    have F2 := F1.tr g2
    refine w_aln l_144_67 rfl ?_
    refine w_gr l_144_68 (oDropSwitch_sh o) (oDropSwitch_r16 o) ?_
    refine w_aln l_144_71 rfl ?_
    refine w_gr l_144_72 (oDropSwitch_sh o) (oDropSwitch_r8 o) ?_
    refine w_gr l_144_75 (oRun_sh (oDropSwitch_o8 o)) (oRun_r2 (oDropSwitch_o8 o)) ?_
    refine w_iln l_144_78 rfl ?_
    refine w_ic l_144_79 (by decide) ?_
    refine q_iv [vi ((k : Nat) : Int), vi 0] [vr (s + 97)] l_144_80 rfl rfl (Nat.le_of_ble_eq_true rfl) (by rw [mx_24]; exact Nat.le_of_ble_eq_true rfl) (by rw [mt_24]; exact oLog_sh (oRun_o2 (oDropSwitch_o8 o))) (by rw [mt_24]; decide) (by rw [rk_24]; decide) (t_part0 (oRun_o2 (oDropSwitch_o8 o)) (K.2.2.2.1.2.fr F2 (Or.inr (by omega))) hk) ?_
    refine p_iv [vi ((((runA h l noOut ne).2.1.getD k dr0).1 : Nat) : Int)] [] l_144_83 rfl rfl (Nat.le_of_ble_eq_true rfl) (by rw [mx_15]; exact Nat.le_of_ble_eq_true rfl) (by rw [mt_15]; exact oLine_sh (oDropSwitch_o16 o)) (by rw [mt_15]; decide) (by rw [rk_15]; decide) (s_15 (oDropSwitch_o16 o) H2 (by omega) (by first | omega | (simp only [List.length_append, List.length_cons, List.length_nil]; omega))) (fun v I3 hv => ?_)
    obtain ⟨rfl, H3, g3⟩ := hv
    have F3 := F2.tr g3
    refine w_aln l_144_86 rfl ?_
    refine w_gr l_144_87 (oDropSwitch_sh o) (oDropSwitch_r16 o) ?_
    refine w_bp l_144_90 (by decide) ?_
    refine p_iv [vi 32] [] l_144_92 rfl rfl (Nat.le_of_ble_eq_true rfl) (by rw [mx_13]; exact Nat.le_of_ble_eq_true rfl) (by rw [mt_13]; exact oLine_sh (oDropSwitch_o16 o)) (by rw [mt_13]; decide) (by rw [rk_13]; decide) (t_add (oDropSwitch_o16 o) H3 (by first | omega | (simp only [List.length_append, List.length_cons, List.length_nil]; omega)) (by decide)) (fun v I4 hv => ?_)
    obtain ⟨rfl, H4, g4⟩ := hv
    have F4 := F3.tr g4
    refine w_aln l_144_95 rfl ?_
    refine w_gr l_144_96 (oDropSwitch_sh o) (oDropSwitch_r16 o) ?_
    refine w_aln l_144_99 rfl ?_
    refine w_gr l_144_100 (oDropSwitch_sh o) (oDropSwitch_r8 o) ?_
    refine w_gr l_144_103 (oRun_sh (oDropSwitch_o8 o)) (oRun_r2 (oDropSwitch_o8 o)) ?_
    refine w_iln l_144_106 rfl ?_
    refine w_ic l_144_107 (by decide) ?_
    refine q_iv [vi ((k : Nat) : Int), vi 3] [vr (s + 97)] l_144_108 rfl rfl (Nat.le_of_ble_eq_true rfl) (by rw [mx_24]; exact Nat.le_of_ble_eq_true rfl) (by rw [mt_24]; exact oLog_sh (oRun_o2 (oDropSwitch_o8 o))) (by rw [mt_24]; decide) (by rw [rk_24]; decide) (t_part3 (oRun_o2 (oDropSwitch_o8 o)) (K.2.2.2.1.2.fr F4 (Or.inr (by omega))) hk) ?_
    refine q_st [vi ((((runA h l noOut ne).2.1.getD k dr0).2.2.2.1 : Nat) : Int)] [vr (s + 97)] l_144_111 (by decide) rfl rfl (Nat.le_of_ble_eq_true rfl) (by rw [mx_166]; exact Nat.le_of_ble_eq_true rfl) (by rw [rk_166]; decide) (s_166 hD.2.2.2.1) ?_
    refine p_iv [vs (2 * (16 + ((runA h l noOut ne).2.1.getD k dr0).2.2.2.1) + 4)] [] l_144_114 rfl rfl (Nat.le_of_ble_eq_true rfl) (by rw [mx_14]; exact Nat.le_of_ble_eq_true rfl) (by rw [mt_14]; exact oLine_sh (oDropSwitch_o16 o)) (by rw [mt_14]; decide) (by rw [rk_14]; decide) (s_14 (oDropSwitch_o16 o) H4 (w := 16 + ((runA h l noOut ne).2.1.getD k dr0).2.2.2.1) (by omega) (by first | omega | (simp only [List.length_append, List.length_cons, List.length_nil]; omega))) (fun v I5 hv => ?_)
    obtain ⟨rfl, H5, g5⟩ := hv
    have F5 := F4.tr g5
    refine w_iln l_144_117 rfl ?_
    refine w_ic l_144_118 (by decide) ?_
    refine w_ceq 139 l_144_119 (by decide) (fun hx => absurd hx (by omega)) (fun _ => ?_)
    refine w_aln l_144_122 rfl ?_
    refine w_gr l_144_123 (oDropSwitch_sh o) (oDropSwitch_r16 o) ?_
    refine w_bp l_144_126 (by decide) ?_
    refine p_iv [vi 61] [] l_144_128 rfl rfl (Nat.le_of_ble_eq_true rfl) (by rw [mx_13]; exact Nat.le_of_ble_eq_true rfl) (by rw [mt_13]; exact oLine_sh (oDropSwitch_o16 o)) (by rw [mt_13]; decide) (by rw [rk_13]; decide) (t_add (oDropSwitch_o16 o) H5 (by first | omega | (simp only [List.length_append, List.length_cons, List.length_nil]; omega)) (by decide)) (fun v I6 hv => ?_)
    obtain ⟨rfl, H6, g6⟩ := hv
    have F6 := F5.tr g6
    refine w_aln l_144_131 rfl ?_
    refine w_gr l_144_132 (oDropSwitch_sh o) (oDropSwitch_r16 o) ?_
    refine w_iln l_144_135 rfl ?_
    refine p_iv [vi ((dt : Nat) : Int)] [] l_144_136 rfl rfl (Nat.le_of_ble_eq_true rfl) (by rw [mx_15]; exact Nat.le_of_ble_eq_true rfl) (by rw [mt_15]; exact oLine_sh (oDropSwitch_o16 o)) (by rw [mt_15]; decide) (by rw [rk_15]; decide) (s_15 (oDropSwitch_o16 o) H6 (by omega) (by first | omega | (simp only [List.length_append, List.length_cons, List.length_nil]; omega))) (fun v I7 hv => ?_)
    obtain ⟨rfl, H7, g7⟩ := hv
    have F7 := F6.tr g7
    refine w_iln l_144_139 rfl ?_
    refine w_ic l_144_140 (by decide) ?_
    refine w_ceq 168 l_144_141 (by decide) (fun hx => absurd hx (by omega)) (fun _ => ?_)
    refine w_aln l_144_144 rfl ?_
    refine w_gr l_144_145 (oDropSwitch_sh o) (oDropSwitch_r16 o) ?_
    refine w_bp l_144_148 (by decide) ?_
    refine p_iv [vi 32] [] l_144_150 rfl rfl (Nat.le_of_ble_eq_true rfl) (by rw [mx_13]; exact Nat.le_of_ble_eq_true rfl) (by rw [mt_13]; exact oLine_sh (oDropSwitch_o16 o)) (by rw [mt_13]; decide) (by rw [rk_13]; decide) (t_add (oDropSwitch_o16 o) H7 (by first | omega | (simp only [List.length_append, List.length_cons, List.length_nil]; omega)) (by decide)) (fun v I8 hv => ?_)
    obtain ⟨rfl, H8, g8⟩ := hv
    have F8 := F7.tr g8
    refine w_aln l_144_153 rfl ?_
    refine w_gr l_144_154 (oDropSwitch_sh o) (oDropSwitch_r16 o) ?_
    refine w_aln l_144_157 rfl ?_
    refine w_gr l_144_158 (oDropSwitch_sh o) (oDropSwitch_r5 o) ?_
    refine w_iln l_144_161 rfl ?_
    refine q_iv [vi ((p : Nat) : Int)] [vr (s + 97)] l_144_162 rfl rfl (Nat.le_of_ble_eq_true rfl) (by rw [mx_69]; exact Nat.le_of_ble_eq_true rfl) (by rw [mt_69]; exact oSetup_sh (oDropSwitch_o5 o)) (by rw [mt_69]; decide) (by rw [rk_69]; decide) (s_69 (oDropSwitch_o5 o) (by omega) ((F8 _ (by omega) p).trans (NM p hp).2)) ?_
    refine p_iv [vi (((nvR (nm p)) : Nat) : Int)] [] l_144_165 rfl rfl (Nat.le_of_ble_eq_true rfl) (by rw [mx_16]; exact Nat.le_of_ble_eq_true rfl) (by rw [mt_16]; exact oLine_sh (oDropSwitch_o16 o)) (by rw [mt_16]; decide) (by rw [rk_16]; decide) (s_16 (oDropSwitch_o16 o) H8 (NM p hp).1 (by first | omega | (simp only [List.length_append, List.length_cons, List.length_nil]; omega))) (fun v I9 hv => ?_)
    obtain ⟨rfl, H9, g9⟩ := hv
    have F9 := F8.tr g9
    refine w_aln l_144_168 rfl ?_
    refine w_gr l_144_169 (oDropSwitch_sh o) (oDropSwitch_r16 o) ?_
    refine w_gi ((((((((((([] ++ numB ((runA h l noOut ne).2.1.getD k dr0).2.1) ++ [64]) ++ numB ((runA h l noOut ne).2.1.getD k dr0).1) ++ [32]) ++ strB (16 + ((runA h l noOut ne).2.1.getD k dr0).2.2.2.1)) ++ [61]) ++ numB dt) ++ [32]) ++ nameB (nm p)).length : Nat) : Int) l_144_172 (oLine_sh (oDropSwitch_o16 o)) H9.1 ?_
    refine w_ir l_144_175 (Or.inl rfl) ?_
    have e9 : dropB nm ((runA h l noOut ne).2.1.getD k dr0) = ((((((((([] ++ numB ((runA h l noOut ne).2.1.getD k dr0).2.1) ++ [64]) ++ numB ((runA h l noOut ne).2.1.getD k dr0).1) ++ [32]) ++ strB (16 + ((runA h l noOut ne).2.1.getD k dr0).2.2.2.1)) ++ [61]) ++ numB dt) ++ [32]) ++ nameB (nm p)) := by
      unfold dropB
      rw [hdt, hpt, if_neg (by omega), if_neg (by omega)]
      simp only [Int.toNat_natCast, List.append_assoc, List.nil_append, List.append_nil]
    rw [← e9] at H9
    refine ⟨_, _, rfl, rfl, by rw [e9], H9, F9⟩

theorem s_144n (o : oDropSwitch S T s q y) {ne np : Nat} {a : Nat → Nat} (K : KQ I s q h l a ne np) {k : Int} (hk : ¬ (0 ≤ k ∧ k < (((runA h l noOut ne).2.1.length : Nat) : Int))) (hc : 1 ≤ cc ∧ 6 ≤ zz) : CL xs 144 [vr s, vi k] (S, I, T, cc, zz) (TH 0 (S, I, T, cc - 1, zz - 6)) := by
  refine CL_start (r := 5) (ls := [vr s, vi k, vs 2, vs 2]) (rk_144 _) rfl ?_
  refine w_aln l_144_0 rfl ?_
  refine w_iln l_144_1 rfl ?_
  refine t_iv [vi k] [] l_144_2 rfl rfl (Nat.le_of_ble_eq_true rfl) (by rw [mx_152]; exact Nat.le_of_ble_eq_true rfl) (by rw [mt_152]; exact oDropSwitch_sh o) (by rw [mt_152]; decide) (by rw [rk_152]; decide) (s_152n o K hk hc) (by decide +kernel) ?_
  exact ⟨rfl, rfl⟩

theorem mx_145 : mxl 145 = 4 := by decide +kernel
theorem mt_145 : mtc 145 = 9 := by decide +kernel
theorem rk_145 (as : List AV) : rkA 145 as = 2 := rfl
theorem l_145_0 : look 145 0 = some (.aload_n 0, 1, 0, 0, 0, 0) := by decide +kernel
theorem l_145_1 : look 145 1 = some (.iload_n 1, 1, 0, 0, 0, 0) := by decide +kernel
theorem l_145_2 : look 145 2 = some (.invokevirtual 150, 3, 147, 2, 0, 1069) := by decide +kernel
theorem l_145_5 : look 145 5 = some (.aload_n 0, 1, 0, 0, 0, 0) := by decide +kernel
theorem l_145_6 : look 145 6 = some (.getfield 91, 3, 9, 16, 2, 554) := by decide +kernel
theorem l_145_9 : look 145 9 = some (.iconst 0, 1, 0, 0, 0, 0) := by decide +kernel
theorem l_145_10 : look 145 10 = some (.putfield 313, 3, 2, 1, 0, 489) := by decide +kernel
theorem l_145_13 : look 145 13 = some (.aload_n 0, 1, 0, 0, 0, 0) := by decide +kernel
theorem l_145_14 : look 145 14 = some (.getfield 91, 3, 9, 16, 2, 554) := by decide +kernel
theorem l_145_17 : look 145 17 = some (.aload_n 0, 1, 0, 0, 0, 0) := by decide +kernel
theorem l_145_18 : look 145 18 = some (.getfield 35, 3, 9, 5, 2, 543) := by decide +kernel
theorem l_145_21 : look 145 21 = some (.iload_n 1, 1, 0, 0, 0, 0) := by decide +kernel
theorem l_145_22 : look 145 22 = some (.invokevirtual 330, 3, 69, 2, 0, 1479) := by decide +kernel
theorem l_145_25 : look 145 25 = some (.invokevirtual 333, 3, 16, 2, 0, 1483) := by decide +kernel
theorem l_145_28 : look 145 28 = some (.iconst 0, 1, 0, 0, 0, 0) := by decide +kernel
theorem l_145_29 : look 145 29 = some (.istore_n 2, 1, 0, 0, 0, 0) := by decide +kernel
theorem l_145_30 : look 145 30 = some (.iload_n 2, 1, 0, 0, 0, 0) := by decide +kernel
theorem l_145_31 : look 145 31 = some (.aload_n 0, 1, 0, 0, 0, 0) := by decide +kernel
theorem l_145_32 : look 145 32 = some (.getfield 57, 3, 9, 8, 2, 546) := by decide +kernel
theorem l_145_35 : look 145 35 = some (.getfield 140, 3, 5, 1, 2, 449) := by decide +kernel
theorem l_145_38 : look 145 38 = some (.getfield 208, 3, 7, 4, 2, 394) := by decide +kernel
theorem l_145_41 : look 145 41 = some (.iload_n 1, 1, 0, 0, 0, 0) := by decide +kernel
theorem l_145_42 : look 145 42 = some (.iaload, 1, 0, 0, 0, 0) := by decide +kernel
theorem l_145_43 : look 145 43 = some (.if_icmp .ge 63, 3, 0, 0, 0, 0) := by decide +kernel
theorem l_145_46 : look 145 46 = some (.aload_n 0, 1, 0, 0, 0, 0) := by decide +kernel
theorem l_145_47 : look 145 47 = some (.getfield 57, 3, 9, 8, 2, 546) := by decide +kernel
theorem l_145_50 : look 145 50 = some (.getfield 140, 3, 5, 1, 2, 449) := by decide +kernel
theorem l_145_53 : look 145 53 = some (.iload_n 1, 1, 0, 0, 0, 0) := by decide +kernel
theorem l_145_54 : look 145 54 = some (.iload_n 2, 1, 0, 0, 0, 0) := by decide +kernel
theorem l_145_55 : look 145 55 = some (.invokevirtual 211, 3, 84, 3, 0, 1216) := by decide +kernel
theorem l_145_58 : look 145 58 = some (.istore_n 3, 1, 0, 0, 0, 0) := by decide +kernel
theorem l_145_59 : look 145 59 = some (.aload_n 0, 1, 0, 0, 0, 0) := by decide +kernel
theorem l_145_60 : look 145 60 = some (.getfield 91, 3, 9, 16, 2, 554) := by decide +kernel
theorem l_145_63 : look 145 63 = some (.bipush 32, 2, 0, 0, 0, 0) := by decide +kernel
theorem l_145_65 : look 145 65 = some (.invokevirtual 319, 3, 13, 2, 0, 1459) := by decide +kernel
theorem l_145_68 : look 145 68 = some (.aload_n 0, 1, 0, 0, 0, 0) := by decide +kernel
theorem l_145_69 : look 145 69 = some (.getfield 91, 3, 9, 16, 2, 554) := by decide +kernel
theorem l_145_72 : look 145 72 = some (.iload_n 3, 1, 0, 0, 0, 0) := by decide +kernel
theorem l_145_73 : look 145 73 = some (.invokevirtual 316, 3, 15, 2, 0, 1451) := by decide +kernel
theorem l_145_76 : look 145 76 = some (.aload_n 0, 1, 0, 0, 0, 0) := by decide +kernel
theorem l_145_77 : look 145 77 = some (.getfield 91, 3, 9, 16, 2, 554) := by decide +kernel
theorem l_145_80 : look 145 80 = some (.bipush 46, 2, 0, 0, 0, 0) := by decide +kernel
theorem l_145_82 : look 145 82 = some (.invokevirtual 319, 3, 13, 2, 0, 1459) := by decide +kernel
theorem l_145_85 : look 145 85 = some (.aload_n 0, 1, 0, 0, 0, 0) := by decide +kernel
theorem l_145_86 : look 145 86 = some (.getfield 91, 3, 9, 16, 2, 554) := by decide +kernel
theorem l_145_89 : look 145 89 = some (.aload_n 0, 1, 0, 0, 0, 0) := by decide +kernel
theorem l_145_90 : look 145 90 = some (.getfield 42, 3, 9, 6, 2, 544) := by decide +kernel
theorem l_145_93 : look 145 93 = some (.iload_n 3, 1, 0, 0, 0, 0) := by decide +kernel
theorem l_145_94 : look 145 94 = some (.invokevirtual 336, 3, 6, 2, 0, 1494) := by decide +kernel
theorem l_145_97 : look 145 97 = some (.invokevirtual 316, 3, 15, 2, 0, 1451) := by decide +kernel
theorem l_145_100 : look 145 100 = some (.iinc 2 1, 3, 0, 0, 0, 0) := by decide +kernel
theorem l_145_103 : look 145 103 = some (.goto (-73), 3, 0, 0, 0, 0) := by decide +kernel
theorem l_145_106 : look 145 106 = some (.aload_n 0, 1, 0, 0, 0, 0) := by decide +kernel
theorem l_145_107 : look 145 107 = some (.getfield 91, 3, 9, 16, 2, 554) := by decide +kernel
theorem l_145_110 : look 145 110 = some (.getfield 313, 3, 2, 1, 0, 489) := by decide +kernel
theorem l_145_113 : look 145 113 = some (.ireturn, 1, 0, 0, 0, 0) := by decide +kernel

theorem lp_145 (o : oDropSwitch S T s q y) {ne np : Nat} {a : Nat → Nat} (K : KQ I s q h l a ne np) {nm : Nat → List Nat} (NM : cNm I q l nm) {p : Nat} (hp : p < lPorts l) : ∀ d k J (v3 : AV), k + d = (sQ (runA h l noOut ne).1 p).length → lnS J (s + 97) (queB h (nm p) ((sQ (runA h l noOut ne).1 p).take k)) → fr I J (s + 97) (s + 97 + 1) → WP xs 145 2 30 [vr s, vi ((p : Nat) : Int), vi ((k : Nat) : Int), v3] [] (S, J, T, cc, zz) (RP S T cc zz (fun v I' => v = some (vi (((queB h (nm p) (sQ (runA h l noOut ne).1 p)).length : Nat) : Int)) ∧ lnS I' (s + 97) (queB h (nm p) (sQ (runA h l noOut ne).1 p)) ∧ fr I I' (s + 97) (s + 97 + 1))) := by
  intro d
  have hl4 := K.2.2.2.2.2.2.2.1.1
  have hok := (run_ok K.2.2.2.2.2.2.1 K.2.2.2.2.2.2.2.1 K.2.2.2.2.2.2.2.2.1 (out := noOut) ne (Nat.le_refl ne)).1
  have hlen := ok_len hok K.2.2.2.2.2.2.1 p
  have hnm := (NM p hp).1.1
  induction d with
  | zero =>
    intro k J v3 hk0 H0 F0
    refine w_iln l_145_30 rfl ?_
    refine w_aln l_145_31 rfl ?_
    refine w_gr l_145_32 (oDropSwitch_sh o) (oDropSwitch_r8 o) ?_
    refine w_gr l_145_35 (oRun_sh (oDropSwitch_o8 o)) (oRun_r1 (oDropSwitch_o8 o)) ?_
    refine w_gr l_145_38 (oState_sh (oRun_o1 (oDropSwitch_o8 o))) (oState_r4 (oRun_o1 (oDropSwitch_o8 o))) ?_
    refine w_iln l_145_41 rfl ?_
    refine w_ia p (((sQ (runA h l noOut ne).1 p).length : Nat) : Int) l_145_42 (oState_s4 (oRun_o1 (oDropSwitch_o8 o))) rfl (by omega) ((F0 _ (by omega) p).trans (K.2.2.2.1.1.2.2.2.2.1 p (by omega)).1) ?_
    refine w_cge 106 l_145_43 (by decide) (fun _ => ?_) (fun hx => absurd hx (by omega))
    refine w_aln l_145_106 rfl ?_
    refine w_gr l_145_107 (oDropSwitch_sh o) (oDropSwitch_r16 o) ?_
    refine w_gi (((queB h (nm p) ((sQ (runA h l noOut ne).1 p).take k)).length : Nat) : Int) l_145_110 (oLine_sh (oDropSwitch_o16 o)) H0.1 ?_
    refine w_ir l_145_113 (Or.inl rfl) ?_
    rw [List.take_of_length_le (show (sQ (runA h l noOut ne).1 p).length ≤ k by omega)] at H0 ⊢
    exact ⟨_, _, rfl, rfl, rfl, H0, F0⟩
  | succ d ih =>
    intro k J v3 hk0 H0 F0
    have hk : k < (sQ (runA h l noOut ne).1 p).length := by omega
    have hcp := ok_hq hok k hk
    have hnp := K.2.2.1.2.2.2.1
    have hne := K.2.2.1.2.2.1
    have b0 := queB_len (h := h) (n := nm p) K.2.2.2.2.2.2.1 k (sQ (runA h l noOut ne).1 p) (by omega)
    have b1 := numB_len ((sQ (runA h l noOut ne).1 p).getD k (0, 0)).1
    have b2 := (K.2.2.2.2.2.2.1 ((sQ (runA h l noOut ne).1 p).getD k (0, 0)).1).2.2.1
    have b3 : (numB (hRnk h ((sQ (runA h l noOut ne).1 p).getD k (0, 0)).1)).length = 1 := by rw [numB_1 (by omega)]; rfl
    have b4 : (queB h (nm p) ((sQ (runA h l noOut ne).1 p).take (k + 1))).length ≤ 600 := by
      have := queB_len (h := h) (n := nm p) K.2.2.2.2.2.2.1 (k + 1) (sQ (runA h l noOut ne).1 p) (by omega)
      omega
    refine w_iln l_145_30 rfl ?_
    refine w_aln l_145_31 rfl ?_
    refine w_gr l_145_32 (oDropSwitch_sh o) (oDropSwitch_r8 o) ?_
    refine w_gr l_145_35 (oRun_sh (oDropSwitch_o8 o)) (oRun_r1 (oDropSwitch_o8 o)) ?_
    refine w_gr l_145_38 (oState_sh (oRun_o1 (oDropSwitch_o8 o))) (oState_r4 (oRun_o1 (oDropSwitch_o8 o))) ?_
    refine w_iln l_145_41 rfl ?_
    refine w_ia p (((sQ (runA h l noOut ne).1 p).length : Nat) : Int) l_145_42 (oState_s4 (oRun_o1 (oDropSwitch_o8 o))) rfl (by omega) ((F0 _ (by omega) p).trans (K.2.2.2.1.1.2.2.2.2.1 p (by omega)).1) ?_
    refine w_cge 106 l_145_43 (by decide) (fun hx => absurd hx (by omega)) (fun _ => ?_)
    refine w_aln l_145_46 rfl ?_
    refine w_gr l_145_47 (oDropSwitch_sh o) (oDropSwitch_r8 o) ?_
    refine w_gr l_145_50 (oRun_sh (oDropSwitch_o8 o)) (oRun_r1 (oDropSwitch_o8 o)) ?_
    refine w_iln l_145_53 rfl ?_
    refine w_iln l_145_54 rfl ?_
    refine q_iv [vi ((p : Nat) : Int), vi ((k : Nat) : Int)] [] l_145_55 rfl rfl (Nat.le_of_ble_eq_true rfl) (by rw [mx_84]; exact Nat.le_of_ble_eq_true rfl) (by rw [mt_84]; exact oState_sh (oRun_o1 (oDropSwitch_o8 o))) (by rw [mt_84]; decide) (by rw [rk_84]; decide) (t_packetAt (oRun_o1 (oDropSwitch_o8 o)) (cS.fr K.2.2.2.1.1 F0 (Or.inr (by omega))) (by omega) hk) ?_
    refine w_isn l_145_58 ⟨Nat.le_of_ble_eq_true rfl, rfl⟩ ?_
    refine w_aln l_145_59 rfl ?_
    refine w_gr l_145_60 (oDropSwitch_sh o) (oDropSwitch_r16 o) ?_
    refine w_bp l_145_63 (by decide) ?_
    refine p_iv [vi 32] [] l_145_65 rfl rfl (Nat.le_of_ble_eq_true rfl) (by rw [mx_13]; exact Nat.le_of_ble_eq_true rfl) (by rw [mt_13]; exact oLine_sh (oDropSwitch_o16 o)) (by rw [mt_13]; decide) (by rw [rk_13]; decide) (t_add (oDropSwitch_o16 o) H0 (by omega) (by decide)) (fun v I1 hv => ?_)
    obtain ⟨rfl, H1, g1⟩ := hv
    have F1 := F0.tr g1
    refine w_aln l_145_68 rfl ?_
    refine w_gr l_145_69 (oDropSwitch_sh o) (oDropSwitch_r16 o) ?_
    refine w_iln l_145_72 rfl ?_
    refine p_iv [vi ((((sQ (runA h l noOut ne).1 p).getD k (0, 0)).1 : Nat) : Int)] [] l_145_73 rfl rfl (Nat.le_of_ble_eq_true rfl) (by rw [mx_15]; exact Nat.le_of_ble_eq_true rfl) (by rw [mt_15]; exact oLine_sh (oDropSwitch_o16 o)) (by rw [mt_15]; decide) (by rw [rk_15]; decide) (s_15 (oDropSwitch_o16 o) H1 (by omega) (by first | omega | (simp only [List.length_append, List.length_cons, List.length_nil]; omega))) (fun v I2 hv => ?_)
    obtain ⟨rfl, H2, g2⟩ := hv
    have F2 := F1.tr g2
    refine w_aln l_145_76 rfl ?_
    refine w_gr l_145_77 (oDropSwitch_sh o) (oDropSwitch_r16 o) ?_
    refine w_bp l_145_80 (by decide) ?_
    refine p_iv [vi 46] [] l_145_82 rfl rfl (Nat.le_of_ble_eq_true rfl) (by rw [mx_13]; exact Nat.le_of_ble_eq_true rfl) (by rw [mt_13]; exact oLine_sh (oDropSwitch_o16 o)) (by rw [mt_13]; decide) (by rw [rk_13]; decide) (t_add (oDropSwitch_o16 o) H2 (by first | omega | (simp only [List.length_append, List.length_cons, List.length_nil]; omega)) (by decide)) (fun v I3 hv => ?_)
    obtain ⟨rfl, H3, g3⟩ := hv
    have F3 := F2.tr g3
    refine w_aln l_145_85 rfl ?_
    refine w_gr l_145_86 (oDropSwitch_sh o) (oDropSwitch_r16 o) ?_
    refine w_aln l_145_89 rfl ?_
    refine w_gr l_145_90 (oDropSwitch_sh o) (oDropSwitch_r6 o) ?_
    refine w_iln l_145_93 rfl ?_
    refine q_iv [vi ((((sQ (runA h l noOut ne).1 p).getD k (0, 0)).1 : Nat) : Int)] [vr (s + 97)] l_145_94 rfl rfl (Nat.le_of_ble_eq_true rfl) (by rw [mx_6]; exact Nat.le_of_ble_eq_true rfl) (by rw [mt_6]; exact oHistory_sh (oDropSwitch_o6 o)) (by rw [mt_6]; decide) (by rw [rk_6]; decide) (s_6r (K.2.2.1.fr F3 (Or.inr (by omega))) (oDropSwitch_o6 o) hcp) ?_
    refine p_iv [vi (((hRnk h ((sQ (runA h l noOut ne).1 p).getD k (0, 0)).1) : Nat) : Int)] [] l_145_97 rfl rfl (Nat.le_of_ble_eq_true rfl) (by rw [mx_15]; exact Nat.le_of_ble_eq_true rfl) (by rw [mt_15]; exact oLine_sh (oDropSwitch_o16 o)) (by rw [mt_15]; decide) (by rw [rk_15]; decide) (s_15 (oDropSwitch_o16 o) H3 (by omega) (by simp only [List.length_append, List.length_cons, List.length_nil]; rw [queB_s hk] at b4; simp only [List.length_append, List.length_cons, List.length_nil] at b4; omega)) (fun v I4 hv => ?_)
    obtain ⟨rfl, H4, g4⟩ := hv
    have F4 := F3.tr g4
    refine w_inc ((k + 1 : Nat) : Int) l_145_100 rfl rfl (by unfold wr; omega) ?_
    refine w_go 30 l_145_103 (by decide) ?_
    rw [← queB_s hk] at H4
    exact ih (k + 1) I4 _ (by omega) H4 F4
theorem s_145 (hq : s < q ∧ q + 8 < s + 21) (o : oDropSwitch S T s q y) {ne np : Nat} {a : Nat → Nat} (K : KQ I s q h l a ne np) {nm : Nat → List Nat} (NM : cNm I q l nm) {p : Nat} (hp : p < lPorts l) : CL xs 145 [vr s, vi ((p : Nat) : Int)] (S, I, T, cc, zz) (RP S T cc zz (fun v I' => v = some (vi (((queB h (nm p) (sQ (runA h l noOut ne).1 p)).length : Nat) : Int)) ∧ lnS I' (s + 97) (queB h (nm p) (sQ (runA h l noOut ne).1 p)) ∧ fr I I' (s + 97) (s + 97 + 1))) := by
  refine CL_start (r := 2) (ls := [vr s, vi ((p : Nat) : Int), vs 2, vs 2]) (rk_145 _) rfl ?_
  have hl4 := K.2.2.2.2.2.2.2.1.1
  have hok := (run_ok K.2.2.2.2.2.2.1 K.2.2.2.2.2.2.2.1 K.2.2.2.2.2.2.2.2.1 (out := noOut) ne (Nat.le_refl ne)).1
  have hlen := ok_len hok K.2.2.2.2.2.2.1 p
  have hnm := (NM p hp).1.1
  refine w_aln l_145_0 rfl ?_
  refine w_iln l_145_1 rfl ?_
  refine q_iv [vi ((p : Nat) : Int)] [] l_145_2 rfl rfl (Nat.le_of_ble_eq_true rfl) (by rw [mx_147]; exact Nat.le_of_ble_eq_true rfl) (by rw [mt_147]; exact oDropSwitch_sh o) (by rw [mt_147]; decide) (by rw [rk_147]; decide) (s_147 o K hp) ?_
  refine w_aln l_145_5 rfl ?_
  refine w_gr l_145_6 (oDropSwitch_sh o) (oDropSwitch_r16 o) ?_
  refine w_ic l_145_9 (by decide) ?_
  refine w_pi l_145_10 (oLine_sh (oDropSwitch_o16 o)) ?_
  have H0 : lnS (up I (s + 97) 1 0) (s + 97) [] := ⟨up_eq, Nat.zero_le _, fun i hi => absurd hi (Nat.not_lt_zero i)⟩
  have F0 : fr I (up I (s + 97) 1 0) (s + 97) (s + 97 + 1) := (fr.rf _ _ _).up (Nat.le_refl _) (by omega)
  refine w_aln l_145_13 rfl ?_
  refine w_gr l_145_14 (oDropSwitch_sh o) (oDropSwitch_r16 o) ?_
  refine w_aln l_145_17 rfl ?_
  refine w_gr l_145_18 (oDropSwitch_sh o) (oDropSwitch_r5 o) ?_
  refine w_iln l_145_21 rfl ?_
  refine q_iv [vi ((p : Nat) : Int)] [vr (s + 97)] l_145_22 rfl rfl (Nat.le_of_ble_eq_true rfl) (by rw [mx_69]; exact Nat.le_of_ble_eq_true rfl) (by rw [mt_69]; exact oSetup_sh (oDropSwitch_o5 o)) (by rw [mt_69]; decide) (by rw [rk_69]; decide) (s_69 (oDropSwitch_o5 o) (by omega) ((F0 _ (by omega) p).trans (NM p hp).2)) ?_
  refine p_iv [vi (((nvR (nm p)) : Nat) : Int)] [] l_145_25 rfl rfl (Nat.le_of_ble_eq_true rfl) (by rw [mx_16]; exact Nat.le_of_ble_eq_true rfl) (by rw [mt_16]; exact oLine_sh (oDropSwitch_o16 o)) (by rw [mt_16]; decide) (by rw [rk_16]; decide) (s_16 (oDropSwitch_o16 o) H0 (NM p hp).1 (by first | omega | (simp only [List.length_append, List.length_cons, List.length_nil]; omega))) (fun v I1 hv => ?_)
  obtain ⟨rfl, H1, g1⟩ := hv
  have F1 := F0.tr g1
  refine w_ic l_145_28 (by decide) ?_
  refine w_isn l_145_29 ⟨Nat.le_of_ble_eq_true rfl, rfl⟩ ?_
  refine lp_145 o K NM hp _ 0 I1 _ (Nat.zero_add _) ?_ F1
  rw [List.take_zero]
  rw [show queB h (nm p) [] = [] ++ nameB (nm p) by unfold queB; simp]
  exact H1

theorem s_145n (o : oDropSwitch S T s q y) {ne np : Nat} {a : Nat → Nat} (K : KQ I s q h l a ne np) {p : Int} (hp : ¬ (0 ≤ p ∧ p < ((lPorts l : Nat) : Int))) (hc : 1 ≤ cc ∧ 6 ≤ zz) : CL xs 145 [vr s, vi p] (S, I, T, cc, zz) (TH 0 (S, I, T, cc - 1, zz - 6)) := by
  refine CL_start (r := 2) (ls := [vr s, vi p, vs 2, vs 2]) (rk_145 _) rfl ?_
  refine w_aln l_145_0 rfl ?_
  refine w_iln l_145_1 rfl ?_
  refine t_iv [vi p] [] l_145_2 rfl rfl (Nat.le_of_ble_eq_true rfl) (by rw [mx_147]; exact Nat.le_of_ble_eq_true rfl) (by rw [mt_147]; exact oDropSwitch_sh o) (by rw [mt_147]; decide) (by rw [rk_147]; decide) (s_147n o K hp hc) (by decide +kernel) ?_
  exact ⟨rfl, rfl⟩

theorem mx_146 : mxl 146 = 2 := by decide +kernel
theorem mt_146 : mtc 146 = 9 := by decide +kernel
theorem rk_146 (as : List AV) : rkA 146 as = 0 := rfl
theorem l_146_0 : look 146 0 = some (.iload_n 1, 1, 0, 0, 0, 0) := by decide +kernel
theorem l_146_1 : look 146 1 = some (.ifCond .lt 26, 3, 0, 0, 0, 0) := by decide +kernel
theorem l_146_4 : look 146 4 = some (.iload_n 1, 1, 0, 0, 0, 0) := by decide +kernel
theorem l_146_5 : look 146 5 = some (.aload_n 0, 1, 0, 0, 0, 0) := by decide +kernel
theorem l_146_6 : look 146 6 = some (.getfield 91, 3, 9, 16, 2, 554) := by decide +kernel
theorem l_146_9 : look 146 9 = some (.getfield 313, 3, 2, 1, 0, 489) := by decide +kernel
theorem l_146_12 : look 146 12 = some (.if_icmp .ge 15, 3, 0, 0, 0, 0) := by decide +kernel
theorem l_146_15 : look 146 15 = some (.aload_n 0, 1, 0, 0, 0, 0) := by decide +kernel
theorem l_146_16 : look 146 16 = some (.getfield 91, 3, 9, 16, 2, 554) := by decide +kernel
theorem l_146_19 : look 146 19 = some (.getfield 339, 3, 2, 0, 2, 487) := by decide +kernel
theorem l_146_22 : look 146 22 = some (.iload_n 1, 1, 0, 0, 0, 0) := by decide +kernel
theorem l_146_23 : look 146 23 = some (.baload, 1, 0, 0, 0, 0) := by decide +kernel
theorem l_146_24 : look 146 24 = some (.goto 4, 3, 0, 0, 0, 0) := by decide +kernel
theorem l_146_27 : look 146 27 = some (.iconst (-1), 1, 0, 0, 0, 0) := by decide +kernel
theorem l_146_28 : look 146 28 = some (.ireturn, 1, 0, 0, 0, 0) := by decide +kernel

theorem s_146 (o : oDropSwitch S T s q y) (H : lnS I (s + 97) L) {k : Nat} (hk : k < L.length) : CL xs 146 [vr s, vi ((k : Nat) : Int)] (S, I, T, cc, zz) (FN (some (vi ((L.getD k 0 : Nat) : Int))) (S, I, T, cc, zz)) := by
  have hl6 := H.2.1
  refine CL_start (r := 0) (ls := [vr s, vi ((k : Nat) : Int)]) (rk_146 _) rfl ?_
  refine w_iln l_146_0 rfl ?_
  refine w_zlt 27 l_146_1 (by decide) (fun hx => absurd hx (by omega)) (fun _ => ?_)
  refine w_iln l_146_4 rfl ?_
  refine w_aln l_146_5 rfl ?_
  refine w_gr l_146_6 (oDropSwitch_sh o) (oDropSwitch_r16 o) ?_
  refine w_gi ((L.length : Nat) : Int) l_146_9 (oLine_sh (oDropSwitch_o16 o)) H.1 ?_
  refine w_cge 27 l_146_12 (by decide) (fun hx => absurd hx (by omega)) (fun _ => ?_)
  refine w_aln l_146_15 rfl ?_
  refine w_gr l_146_16 (oDropSwitch_sh o) (oDropSwitch_r16 o) ?_
  refine w_gr l_146_19 (oLine_sh (oDropSwitch_o16 o)) (oLine_r0 (oDropSwitch_o16 o)) ?_
  refine w_iln l_146_22 rfl ?_
  refine w_ba k (((L.getD k 0) : Nat) : Int) l_146_23 (Or.inl (oLine_s0 (oDropSwitch_o16 o))) rfl (by omega) (H.2.2 k hk) ?_
  refine w_go 28 l_146_24 (by decide) ?_
  refine w_ir l_146_28 (Or.inl rfl) ?_
  exact ⟨rfl, rfl⟩

theorem s_146n (o : oDropSwitch S T s q y) (H : lnS I (s + 97) L) {k : Int} (hk : ¬ (0 ≤ k ∧ k < ((L.length : Nat) : Int))) : CL xs 146 [vr s, vi k] (S, I, T, cc, zz) (FN (some (vi (-1))) (S, I, T, cc, zz)) := by
  refine CL_start (r := 0) (ls := [vr s, vi k]) (rk_146 _) rfl ?_
  refine w_iln l_146_0 rfl ?_
  refine w_zlt 27 l_146_1 (by decide) (fun h1 => ?_) (fun h1 => ?_)
  · skip
    refine w_ic l_146_27 (by decide) ?_
    refine w_ir l_146_28 (Or.inl rfl) ?_
    exact ⟨rfl, rfl⟩
  · skip
    refine w_iln l_146_4 rfl ?_
    refine w_aln l_146_5 rfl ?_
    refine w_gr l_146_6 (oDropSwitch_sh o) (oDropSwitch_r16 o) ?_
    refine w_gi ((L.length : Nat) : Int) l_146_9 (oLine_sh (oDropSwitch_o16 o)) H.1 ?_
    refine w_cge 27 l_146_12 (by decide) (fun h2 => ?_) (fun h2 => ?_)
    · skip
      refine w_ic l_146_27 (by decide) ?_
      refine w_ir l_146_28 (Or.inl rfl) ?_
      exact ⟨rfl, rfl⟩
    · skip
      exfalso
      omega

end FMD
