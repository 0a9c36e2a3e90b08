/-! contract: a text is handed to the class, and loaded -/
def bt8 (t : List Int) (m : Nat) : Nat := (t.getD m 0).toNat
def wdN (f : Nat → Nat) (b : Nat) : Nat := f (4 * b) * 16777216 + f (4 * b + 1) * 65536 + f (4 * b + 2) * 256 + f (4 * b + 3)
def ctN (t : List Int) (k i : Nat) : Nat → Nat := fun m => if m < i then bt8 t (k + m) else 0
def TXT (S : List (Nat × Nat)) (I : Ix) (T : Nat → Nat → Nat) (o b : Nat) (t : List Int) : Prop := S[o]? = some (0, 12) ∧ T o 0 = b + 1 ∧ S[b]? = some (3, t.length) ∧ I o 1 = 0 ∧ ∀ j, j < t.length → I b j = t.getD j 0
theorem or_pk {e m c : Nat} (hc : c < 2 ^ e) (hm : 2 ^ e * m < 2147483648) (h2 : c < 2147483648) : a2 (fun x y => x ||| y) ((2 ^ e * m : Nat) : Int) (c : Int) = ((2 ^ e * m + c : Nat) : Int) := by
  rw [or_nn hm h2, Nat.two_pow_add_eq_or_of_lt hc]
theorem bt8_l {t : List Int} (ht : ∀ x ∈ t, 0 ≤ x ∧ x < 128) (m : Nat) : bt8 t m < 128 := by
  unfold bt8
  rw [List.getD_eq_getElem?_getD]
  cases e : t[m]? with
  | none => decide
  | some x => have := ht x (List.mem_of_getElem? e); show x.toNat < 128; omega
theorem bt8_i {t : List Int} (ht : ∀ x ∈ t, 0 ≤ x ∧ x < 128) (m : Nat) : t.getD m 0 = ((bt8 t m : Nat) : Int) := by
  unfold bt8
  rw [List.getD_eq_getElem?_getD]
  cases e : t[m]? with
  | none => rfl
  | some x => have := ht x (List.mem_of_getElem? e); show x = ((x.toNat : Nat) : Int); omega
theorem ctN_l {t : List Int} (ht : ∀ x ∈ t, 0 ≤ x ∧ x < 128) (k i m : Nat) : ctN t k i m < 128 := by
  unfold ctN
  split
  · exact bt8_l ht _
  · decide
theorem ctN_s {t : List Int} {k i : Nat} {m : Nat} (h : m ≠ i) : ctN t k (i + 1) m = ctN t k i m := by
  unfold ctN
  by_cases h2 : m < i
  · rw [if_pos h2, if_pos (by omega)]
  · rw [if_neg h2, if_neg (by omega)]
theorem ctN_e {t : List Int} {k i : Nat} : ctN t k (i + 1) i = bt8 t (k + i) := if_pos (by omega)
theorem ctN_0 {t : List Int} {k i m : Nat} (h : i ≤ m) : ctN t k i m = 0 := if_neg (by omega)
/-- one more of the word's four -/
theorem wdN_s {t : List Int} (ht : ∀ x ∈ t, 0 ≤ x ∧ x < 128) {k i : Nat} : a2 (fun x y => x ||| y) ((wdN (ctN t k i) (i / 4) : Nat) : Int) ((bt8 t (k + i) * 2 ^ (24 - 8 * (i % 4)) : Nat) : Int) = ((wdN (ctN t k (i + 1)) (i / 4) : Nat) : Int) := by
  obtain ⟨b, r, hr, rfl⟩ : ∃ b r, r < 4 ∧ i = 4 * b + r := ⟨i / 4, i % 4, by omega, by omega⟩
  rw [show (4 * b + r) / 4 = b by omega, show (4 * b + r) % 4 = r by omega]
  have hc := bt8_l ht (k + (4 * b + r))
  have f0 := ctN_l ht k (4 * b + r) (4 * b)
  have f1 := ctN_l ht k (4 * b + r) (4 * b + 1)
  have f2 := ctN_l ht k (4 * b + r) (4 * b + 2)
  unfold wdN
  rcases (show r = 0 ∨ r = 1 ∨ r = 2 ∨ r = 3 by omega) with e | e | e | e <;> subst e
  · have s0 : ctN t k (4 * b + 0 + 1) (4 * b) = bt8 t (k + (4 * b + 0)) := ctN_e
    have z0 : ctN t k (4 * b + 0) (4 * b) = 0 := ctN_0 (by omega)
    have s1 : ctN t k (4 * b + 0 + 1) (4 * b + 1) = ctN t k (4 * b + 0) (4 * b + 1) := ctN_s (by omega)
    have z1 : ctN t k (4 * b + 0) (4 * b + 1) = 0 := ctN_0 (by omega)
    have s2 : ctN t k (4 * b + 0 + 1) (4 * b + 2) = ctN t k (4 * b + 0) (4 * b + 2) := ctN_s (by omega)
    have z2 : ctN t k (4 * b + 0) (4 * b + 2) = 0 := ctN_0 (by omega)
    have s3 : ctN t k (4 * b + 0 + 1) (4 * b + 3) = ctN t k (4 * b + 0) (4 * b + 3) := ctN_s (by omega)
    have z3 : ctN t k (4 * b + 0) (4 * b + 3) = 0 := ctN_0 (by omega)
    have g := or_pk (e := 32) (m := 0) (c := bt8 t (k + (4 * b + 0)) * 2 ^ 24) (by omega) (by omega) (by omega)
    refine (Eq.trans ?_ g).trans ?_
    · congr 2
      omega
    · congr 1
      omega
  · have s0 : ctN t k (4 * b + 1 + 1) (4 * b) = ctN t k (4 * b + 1) (4 * b) := ctN_s (by omega)
    have s1 : ctN t k (4 * b + 1 + 1) (4 * b + 1) = bt8 t (k + (4 * b + 1)) := ctN_e
    have z1 : ctN t k (4 * b + 1) (4 * b + 1) = 0 := ctN_0 (by omega)
    have s2 : ctN t k (4 * b + 1 + 1) (4 * b + 2) = ctN t k (4 * b + 1) (4 * b + 2) := ctN_s (by omega)
    have z2 : ctN t k (4 * b + 1) (4 * b + 2) = 0 := ctN_0 (by omega)
    have s3 : ctN t k (4 * b + 1 + 1) (4 * b + 3) = ctN t k (4 * b + 1) (4 * b + 3) := ctN_s (by omega)
    have z3 : ctN t k (4 * b + 1) (4 * b + 3) = 0 := ctN_0 (by omega)
    have g := or_pk (e := 24) (m := ctN t k (4 * b + 1) (4 * b)) (c := bt8 t (k + (4 * b + 1)) * 2 ^ 16) (by omega) (by omega) (by omega)
    refine (Eq.trans ?_ g).trans ?_
    · congr 2
      omega
    · congr 1
      omega
  · have s0 : ctN t k (4 * b + 2 + 1) (4 * b) = ctN t k (4 * b + 2) (4 * b) := ctN_s (by omega)
    have s1 : ctN t k (4 * b + 2 + 1) (4 * b + 1) = ctN t k (4 * b + 2) (4 * b + 1) := ctN_s (by omega)
    have s2 : ctN t k (4 * b + 2 + 1) (4 * b + 2) = bt8 t (k + (4 * b + 2)) := ctN_e
    have z2 : ctN t k (4 * b + 2) (4 * b + 2) = 0 := ctN_0 (by omega)
    have s3 : ctN t k (4 * b + 2 + 1) (4 * b + 3) = ctN t k (4 * b + 2) (4 * b + 3) := ctN_s (by omega)
    have z3 : ctN t k (4 * b + 2) (4 * b + 3) = 0 := ctN_0 (by omega)
    have g := or_pk (e := 16) (m := ctN t k (4 * b + 2) (4 * b) * 256 + ctN t k (4 * b + 2) (4 * b + 1)) (c := bt8 t (k + (4 * b + 2)) * 2 ^ 8) (by omega) (by omega) (by omega)
    refine (Eq.trans ?_ g).trans ?_
    · congr 2
      omega
    · congr 1
      omega
  · have s0 : ctN t k (4 * b + 3 + 1) (4 * b) = ctN t k (4 * b + 3) (4 * b) := ctN_s (by omega)
    have s1 : ctN t k (4 * b + 3 + 1) (4 * b + 1) = ctN t k (4 * b + 3) (4 * b + 1) := ctN_s (by omega)
    have s2 : ctN t k (4 * b + 3 + 1) (4 * b + 2) = ctN t k (4 * b + 3) (4 * b + 2) := ctN_s (by omega)
    have s3 : ctN t k (4 * b + 3 + 1) (4 * b + 3) = bt8 t (k + (4 * b + 3)) := ctN_e
    have z3 : ctN t k (4 * b + 3) (4 * b + 3) = 0 := ctN_0 (by omega)
    have g := or_pk (e := 8) (m := ctN t k (4 * b + 3) (4 * b) * 65536 + ctN t k (4 * b + 3) (4 * b + 1) * 256 + ctN t k (4 * b + 3) (4 * b + 2)) (c := bt8 t (k + (4 * b + 3)) * 2 ^ 0) (by omega) (by omega) (by omega)
    refine (Eq.trans ?_ g).trans ?_
    · congr 2
      omega
    · congr 1
      omega
/-- and out of the word again -/
theorem sby_w {f : Nat → Nat} (hf : ∀ m, f m < 128) {b r : Nat} (hr : r < 4) : sby ((wdN f b : Nat) : Int) r = ((f (4 * b + r) : Nat) : Int) := by
  have f0 := hf (4 * b)
  have f1 := hf (4 * b + 1)
  have f2 := hf (4 * b + 2)
  have f3 := hf (4 * b + 3)
  unfold sby
  rw [shr_n (by omega) (by unfold wdN; omega)]
  unfold wdN
  rcases (show r = 0 ∨ r = 1 ∨ r = 2 ∨ r = 3 by omega) with e | e | e | e <;> subst e
  · have : (f (4 * b) * 16777216 + f (4 * b + 1) * 65536 + f (4 * b + 2) * 256 + f (4 * b + 3)) / 2 ^ (24 - 8 * 0) = f (4 * b) := by omega
    rw [this]
    show wb _ = ((f (4 * b) : Nat) : Int)
    unfold wb
    omega
  · have : (f (4 * b) * 16777216 + f (4 * b + 1) * 65536 + f (4 * b + 2) * 256 + f (4 * b + 3)) / 2 ^ (24 - 8 * 1) = f (4 * b) * 256 + f (4 * b + 1) := by omega
    rw [this]
    unfold wb
    omega
  · have : (f (4 * b) * 16777216 + f (4 * b + 1) * 65536 + f (4 * b + 2) * 256 + f (4 * b + 3)) / 2 ^ (24 - 8 * 2) = f (4 * b) * 65536 + f (4 * b + 1) * 256 + f (4 * b + 2) := by omega
    rw [this]
    unfold wb
    omega
  · have : (f (4 * b) * 16777216 + f (4 * b + 1) * 65536 + f (4 * b + 2) * 256 + f (4 * b + 3)) / 2 ^ (24 - 8 * 3) = f (4 * b) * 16777216 + f (4 * b + 1) * 65536 + f (4 * b + 2) * 256 + f (4 * b + 3) := by omega
    rw [this]
    unfold wb
    omega
theorem apB_w {f : Nat → Nat} (hf : ∀ m, f m < 128) {j : Nat} (hj : j < 20) : apB ((wdN f 0 : Nat) : Int) ((wdN f 1 : Nat) : Int) ((wdN f 2 : Nat) : Int) ((wdN f 3 : Nat) : Int) ((wdN f 4 : Nat) : Int) j = ((f j : Nat) : Int) := by
  unfold apB wsel
  rcases (show j < 4 ∨ (4 ≤ j ∧ j < 8) ∨ (8 ≤ j ∧ j < 12) ∨ (12 ≤ j ∧ j < 16) ∨ (16 ≤ j ∧ j < 20) by omega) with e | e | e | e | e
  · rw [if_pos e, sby_w hf (by omega), show 4 * 0 + j % 4 = j by omega]
  · rw [if_neg (by omega), if_pos e.2, sby_w hf (by omega), show 4 * 1 + j % 4 = j by omega]
  · rw [if_neg (by omega), if_neg (by omega), if_pos e.2, sby_w hf (by omega), show 4 * 2 + j % 4 = j by omega]
  · rw [if_neg (by omega), if_neg (by omega), if_neg (by omega), if_pos e.2, sby_w hf (by omega), show 4 * 3 + j % 4 = j by omega]
  · rw [if_neg (by omega), if_neg (by omega), if_neg (by omega), if_neg (by omega), sby_w hf (by omega), show 4 * 4 + j % 4 = j by omega]
theorem TXT.mv {S S' : List (Nat × Nat)} {I I' : Ix} {T T' : Nat → Nat → Nat} {o b : Nat} {t : List Int} (h : TXT S I T o b t) (e : ex S S') (f : ∀ w, I' o w = I o w ∧ T' o w = T o w) (g : ∀ w, I' b w = I b w) : TXT S' I' T' o b t := by
  obtain ⟨h1, h2, h3, h4, h5⟩ := h
  exact ⟨e _ _ h1, ((f 0).2).trans h2, e _ _ h3, ((f 1).1).trans h4, fun j hj => (g j).trans (h5 j hj)⟩
section LDS
variable {xs : List Int} {S S0 : List (Nat × Nat)} {I I0 : Ix} {T T0 : Nat → Nat → Nat} {cc zz : Nat} {Q : Res → Mem → Prop} {s o b k w r : Nat} {t : List Int} {pv : Int}

theorem mx_212 : mxl 212 = 6 := by decide +kernel
theorem mt_212 : mtc 212 = 99 := by decide +kernel
theorem rk_212 (as : List AV) : rkA 212 as = 34 := rfl
theorem l_212_0 : look 212 0 = some (.iconst 0, 1, 0, 0, 0, 0) := by decide +kernel
theorem l_212_1 : look 212 1 = some (.istore_n 3, 1, 0, 0, 0, 0) := by decide +kernel
theorem l_212_2 : look 212 2 = some (.iload_n 3, 1, 0, 0, 0, 0) := by decide +kernel
theorem l_212_3 : look 212 3 = some (.aload_n 1, 1, 0, 0, 0, 0) := by decide +kernel
theorem l_212_4 : look 212 4 = some (.invokevirtual 8, 3, 299, 1, 0, 1027) := by decide +kernel
theorem l_212_7 : look 212 7 = some (.if_icmp .ge 96, 3, 0, 0, 0, 0) := by decide +kernel
theorem l_212_10 : look 212 10 = some (.iconst 5, 1, 0, 0, 0, 0) := by decide +kernel
theorem l_212_11 : look 212 11 = some (.newarray .int, 2, 1, 0, 0, 0) := by decide +kernel
theorem l_212_13 : look 212 13 = some (.astore 4, 2, 0, 0, 0, 0) := by decide +kernel
theorem l_212_15 : look 212 15 = some (.iconst 0, 1, 0, 0, 0, 0) := by decide +kernel
theorem l_212_16 : look 212 16 = some (.istore 5, 2, 0, 0, 0, 0) := by decide +kernel
theorem l_212_18 : look 212 18 = some (.iload 5, 2, 0, 0, 0, 0) := by decide +kernel
theorem l_212_20 : look 212 20 = some (.bipush 20, 2, 0, 0, 0, 0) := by decide +kernel
theorem l_212_22 : look 212 22 = some (.if_icmp .ge 49, 3, 0, 0, 0, 0) := by decide +kernel
theorem l_212_25 : look 212 25 = some (.iload_n 3, 1, 0, 0, 0, 0) := by decide +kernel
theorem l_212_26 : look 212 26 = some (.iload 5, 2, 0, 0, 0, 0) := by decide +kernel
theorem l_212_28 : look 212 28 = some (.iadd, 1, 0, 0, 0, 0) := by decide +kernel
theorem l_212_29 : look 212 29 = some (.aload_n 1, 1, 0, 0, 0, 0) := by decide +kernel
theorem l_212_30 : look 212 30 = some (.invokevirtual 8, 3, 299, 1, 0, 1027) := by decide +kernel
theorem l_212_33 : look 212 33 = some (.if_icmp .ge 38, 3, 0, 0, 0, 0) := by decide +kernel
theorem l_212_36 : look 212 36 = some (.aload 4, 2, 0, 0, 0, 0) := by decide +kernel
theorem l_212_38 : look 212 38 = some (.iload 5, 2, 0, 0, 0, 0) := by decide +kernel
theorem l_212_40 : look 212 40 = some (.iconst 4, 1, 0, 0, 0, 0) := by decide +kernel
theorem l_212_41 : look 212 41 = some (.idiv, 1, 0, 0, 0, 0) := by decide +kernel
theorem l_212_42 : look 212 42 = some (.dup2, 1, 0, 0, 0, 0) := by decide +kernel
theorem l_212_43 : look 212 43 = some (.iaload, 1, 0, 0, 0, 0) := by decide +kernel
theorem l_212_44 : look 212 44 = some (.aload_n 1, 1, 0, 0, 0, 0) := by decide +kernel
theorem l_212_45 : look 212 45 = some (.iload_n 3, 1, 0, 0, 0, 0) := by decide +kernel
theorem l_212_46 : look 212 46 = some (.iload 5, 2, 0, 0, 0, 0) := by decide +kernel
theorem l_212_48 : look 212 48 = some (.iadd, 1, 0, 0, 0, 0) := by decide +kernel
theorem l_212_49 : look 212 49 = some (.invokevirtual 14, 3, 300, 2, 0, 1028) := by decide +kernel
theorem l_212_52 : look 212 52 = some (.bipush 24, 2, 0, 0, 0, 0) := by decide +kernel
theorem l_212_54 : look 212 54 = some (.bipush 8, 2, 0, 0, 0, 0) := by decide +kernel
theorem l_212_56 : look 212 56 = some (.iload 5, 2, 0, 0, 0, 0) := by decide +kernel
theorem l_212_58 : look 212 58 = some (.iconst 4, 1, 0, 0, 0, 0) := by decide +kernel
theorem l_212_59 : look 212 59 = some (.irem, 1, 0, 0, 0, 0) := by decide +kernel
theorem l_212_60 : look 212 60 = some (.imul, 1, 0, 0, 0, 0) := by decide +kernel
theorem l_212_61 : look 212 61 = some (.isub, 1, 0, 0, 0, 0) := by decide +kernel
theorem l_212_62 : look 212 62 = some (.ishl, 1, 0, 0, 0, 0) := by decide +kernel
theorem l_212_63 : look 212 63 = some (.ior, 1, 0, 0, 0, 0) := by decide +kernel
theorem l_212_64 : look 212 64 = some (.iastore, 1, 0, 0, 0, 0) := by decide +kernel
theorem l_212_65 : look 212 65 = some (.iinc 5 1, 3, 0, 0, 0, 0) := by decide +kernel
theorem l_212_68 : look 212 68 = some (.goto (-50), 3, 0, 0, 0, 0) := by decide +kernel
theorem l_212_71 : look 212 71 = some (.aload_n 0, 1, 0, 0, 0, 0) := by decide +kernel
theorem l_212_72 : look 212 72 = some (.aload 4, 2, 0, 0, 0, 0) := by decide +kernel
theorem l_212_74 : look 212 74 = some (.iconst 0, 1, 0, 0, 0, 0) := by decide +kernel
theorem l_212_75 : look 212 75 = some (.iaload, 1, 0, 0, 0, 0) := by decide +kernel
theorem l_212_76 : look 212 76 = some (.aload 4, 2, 0, 0, 0, 0) := by decide +kernel
theorem l_212_78 : look 212 78 = some (.iconst 1, 1, 0, 0, 0, 0) := by decide +kernel
theorem l_212_79 : look 212 79 = some (.iaload, 1, 0, 0, 0, 0) := by decide +kernel
theorem l_212_80 : look 212 80 = some (.aload 4, 2, 0, 0, 0, 0) := by decide +kernel
theorem l_212_82 : look 212 82 = some (.iconst 2, 1, 0, 0, 0, 0) := by decide +kernel
theorem l_212_83 : look 212 83 = some (.iaload, 1, 0, 0, 0, 0) := by decide +kernel
theorem l_212_84 : look 212 84 = some (.aload 4, 2, 0, 0, 0, 0) := by decide +kernel
theorem l_212_86 : look 212 86 = some (.iconst 3, 1, 0, 0, 0, 0) := by decide +kernel
theorem l_212_87 : look 212 87 = some (.iaload, 1, 0, 0, 0, 0) := by decide +kernel
theorem l_212_88 : look 212 88 = some (.aload 4, 2, 0, 0, 0, 0) := by decide +kernel
theorem l_212_90 : look 212 90 = some (.iconst 4, 1, 0, 0, 0, 0) := by decide +kernel
theorem l_212_91 : look 212 91 = some (.iaload, 1, 0, 0, 0, 0) := by decide +kernel
theorem l_212_92 : look 212 92 = some (.invokevirtual 18, 3, 99, 6, 0, 1029) := by decide +kernel
theorem l_212_95 : look 212 95 = some (.istore 5, 2, 0, 0, 0, 0) := by decide +kernel
theorem l_212_97 : look 212 97 = some (.iinc 3 20, 3, 0, 0, 0, 0) := by decide +kernel
theorem l_212_100 : look 212 100 = some (.goto (-98), 3, 0, 0, 0, 0) := by decide +kernel
theorem l_212_103 : look 212 103 = some (.aload_n 0, 1, 0, 0, 0, 0) := by decide +kernel
theorem l_212_104 : look 212 104 = some (.aload_n 1, 1, 0, 0, 0, 0) := by decide +kernel
theorem l_212_105 : look 212 105 = some (.invokevirtual 8, 3, 299, 1, 0, 1027) := by decide +kernel
theorem l_212_108 : look 212 108 = some (.invokevirtual 24, 3, 100, 2, 0, 1037) := by decide +kernel
theorem l_212_111 : look 212 111 = some (.istore_n 3, 1, 0, 0, 0, 0) := by decide +kernel
theorem l_212_112 : look 212 112 = some (.aload_n 0, 1, 0, 0, 0, 0) := by decide +kernel
theorem l_212_113 : look 212 113 = some (.invokevirtual 28, 3, 101, 1, 0, 1041) := by decide +kernel
theorem l_212_116 : look 212 116 = some (.iload_n 2, 1, 0, 0, 0, 0) := by decide +kernel
theorem l_212_117 : look 212 117 = some (.if_icmp .ne 22, 3, 0, 0, 0, 0) := by decide +kernel
theorem l_212_120 : look 212 120 = some (.aload_n 0, 1, 0, 0, 0, 0) := by decide +kernel
theorem l_212_121 : look 212 121 = some (.invokevirtual 31, 3, 102, 1, 0, 1153) := by decide +kernel
theorem l_212_124 : look 212 124 = some (.iconst (-1), 1, 0, 0, 0, 0) := by decide +kernel
theorem l_212_125 : look 212 125 = some (.if_icmp .ne 14, 3, 0, 0, 0, 0) := by decide +kernel
theorem l_212_128 : look 212 128 = some (.aload_n 0, 1, 0, 0, 0, 0) := by decide +kernel
theorem l_212_129 : look 212 129 = some (.invokevirtual 34, 3, 103, 1, 0, 1157) := by decide +kernel
theorem l_212_132 : look 212 132 = some (.ifCond .ne 7, 3, 0, 0, 0, 0) := by decide +kernel
theorem l_212_135 : look 212 135 = some (.iconst 1, 1, 0, 0, 0, 0) := by decide +kernel
theorem l_212_136 : look 212 136 = some (.goto 4, 3, 0, 0, 0, 0) := by decide +kernel
theorem l_212_139 : look 212 139 = some (.iconst 0, 1, 0, 0, 0, 0) := by decide +kernel
theorem l_212_140 : look 212 140 = some (.ireturn, 1, 0, 0, 1, 0) := by decide +kernel

/-- up to 20 bytes into the words of w -/
theorem in_212 (ht : ∀ x ∈ t, 0 ≤ x ∧ x < 128) (hl : t.length ≤ 300) (hw : S[w]? = some (1, 5)) (hwo : w ≠ o ∧ w ≠ b) (hr : 4 ≤ r) (hk : k ≤ 300)
    (KK : ∀ (I1 : Ix) (i1 : Nat), (i1 = 20 ∨ k + i1 = t.length) → i1 ≤ 20 → k + i1 ≤ t.length → (∀ c, c < 5 → I1 w c = ((wdN (ctN t k i1) c : Nat) : Int)) → (∀ z j, z ≠ w → I1 z j = I0 z j) → WP xs 212 r 71 [vr s, vr o, vi pv, vi ((k : Nat) : Int), vr w, vi ((i1 : Nat) : Int)] [] (S, I1, T, cc, zz) Q) :
    ∀ (d i : Nat) {I : Ix}, 20 ≤ i + d → i ≤ 20 → k + i ≤ t.length → TXT S I T o b t → (∀ c, c < 5 → I w c = ((wdN (ctN t k i) c : Nat) : Int)) → (∀ z j, z ≠ w → I z j = I0 z j) → WP xs 212 r 18 [vr s, vr o, vi pv, vi ((k : Nat) : Int), vr w, vi ((i : Nat) : Int)] [] (S, I, T, cc, zz) Q := by
  intro d
  induction d with
  | zero =>
    intro i I h20 hi hik hX fv fr
    have hi20 : i = 20 := by omega
    subst hi20
    refine w_il l_212_18 rfl ?_
    refine w_bp l_212_20 (by decide) ?_
    exact w_cge 71 l_212_22 (by decide) (fun _ => KK I 20 (Or.inl rfl) (by omega) hik fv fr) (fun hx => absurd hx (by omega))
  | succ d ih0 =>
    intro i I h20 hi hik hX fv fr
    have ih := fun (j : Nat) (h1 : 20 ≤ j + d) (h2 : k + j ≤ t.length ∧ j ≤ 20) {I : Ix} => ih0 j (I := I) h1 h2.2 h2.1
    refine w_il l_212_18 rfl ?_
    refine w_bp l_212_20 (by decide) ?_
    by_cases hi20 : i = 20
    · subst hi20
      exact w_cge 71 l_212_22 (by decide) (fun _ => KK I 20 (Or.inl rfl) (by omega) hik fv fr) (fun hx => absurd hx (by omega))
    refine w_cge 71 l_212_22 (by decide) (fun hx => absurd hx (by omega)) (fun _ => ?_)
    refine w_iln l_212_25 rfl ?_
    refine w_il l_212_26 rfl ?_
    refine w_add ((k + i : Nat) : Int) l_212_28 (by unfold wr; omega) ?_
    refine w_aln l_212_29 rfl ?_
    refine q_iv [] [vi ((k + i : Nat) : Int)] l_212_30 rfl rfl (Nat.le_of_ble_eq_true rfl) (by rw [mx_299]; exact Nat.le_of_ble_eq_true rfl) (by rw [mt_299]; exact hX.1) (by rw [mt_299]; decide) (by rw [rk_299]; omega) (o_299 ⟨hX.1, hX.2.2.2.1⟩ hX.2.1 hX.2.2.1 (by omega)) ?_
    by_cases hkl : k + i = t.length
    · exact w_cge 71 l_212_33 (by decide) (fun _ => KK I i (Or.inr hkl) (by omega) hik fv fr) (fun hx => absurd hx (by omega))
    refine w_cge 71 l_212_33 (by decide) (fun hx => absurd hx (by omega)) (fun _ => ?_)
    refine w_al l_212_36 rfl ?_
    refine w_il l_212_38 rfl ?_
    refine w_ic l_212_40 (by decide) ?_
    refine w_div ((i / 4 : Nat) : Int) l_212_41 (by decide) (by rw [show ((i : Nat) : Int).tdiv 4 = ((i / 4 : Nat) : Int) from rfl]; unfold wr; omega) ?_
    refine w_dup2 l_212_42 rfl ?_
    refine w_ia (i / 4) ((wdN (ctN t k i) (i / 4) : Nat) : Int) l_212_43 hw rfl (by omega) (fv _ (by omega)) ?_
    refine w_aln l_212_44 rfl ?_
    refine w_iln l_212_45 rfl ?_
    refine w_il l_212_46 rfl ?_
    refine w_add ((k + i : Nat) : Int) l_212_48 (by unfold wr; omega) ?_
    refine q_iv [vi ((k + i : Nat) : Int)] [vi ((wdN (ctN t k i) (i / 4) : Nat) : Int), vi ((i / 4 : Nat) : Int), vr w] l_212_49 rfl rfl (Nat.le_of_ble_eq_true rfl) (by rw [mx_300]; exact Nat.le_of_ble_eq_true rfl) (by rw [mt_300]; exact hX.1) (by rw [mt_300]; decide) (by rw [rk_300]; omega) (o_300 ⟨hX.1, hX.2.2.2.1⟩ hX.2.1 hX.2.2.1 (by omega) ((hX.2.2.2.2 _ (by omega)).trans (bt8_i ht _)) (bt8_l ht _)) ?_
    refine w_bp l_212_52 (by decide) ?_
    refine w_bp l_212_54 (by decide) ?_
    refine w_il l_212_56 rfl ?_
    refine w_ic l_212_58 (by decide) ?_
    refine w_rem ((i % 4 : Nat) : Int) l_212_59 (by decide) rfl ?_
    refine w_mul ((8 * (i % 4) : Nat) : Int) l_212_60 (by unfold wr; omega) ?_
    refine w_sub ((24 - 8 * (i % 4) : Nat) : Int) l_212_61 (by unfold wr; omega) ?_
    have hb8 := bt8_l ht (k + i)
    refine w_shl ((bt8 t (k + i) * 2 ^ (24 - 8 * (i % 4)) : Nat) : Int) l_212_62 (shl_n (by omega) (Nat.lt_of_le_of_lt (Nat.mul_le_mul_left _ (Nat.pow_le_pow_right (by decide) (show 24 - 8 * (i % 4) ≤ 24 by omega))) (by omega))) ?_
    refine w_or _ l_212_63 (wdN_s ht) ?_
    refine w_iS (i / 4) l_212_64 hw rfl (by omega) ?_
    refine w_inc ((i + 1 : Nat) : Int) l_212_65 rfl rfl (by unfold wr; omega) ?_
    refine w_go 18 l_212_68 (by decide) ?_
    refine ih (i + 1) (by omega) (by omega) (hX.mv ex.r (fun v => ⟨up_out (by omega), rfl⟩) (fun v => up_out (by omega))) (fun c hc => ?_) (fun z j hz => (up_out (by omega)).trans (fr z j hz))
    by_cases hci : c = i / 4
    · subst hci; exact up_eq
    · rw [up_out (by omega), fv c hc]
      unfold wdN
      rw [ctN_s (by omega), ctN_s (by omega), ctN_s (by omega), ctN_s (by omega)]

end LDS
