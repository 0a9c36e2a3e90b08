/-! the reference: a packet arrives -/
theorem puts_keep {h : Hi} {l : Li} {e k : Nat} {way : Nat → Bool} {r : Ra} : ∀ n, (putsA h l e k way n r).1.1.1 = r.1.1 ∧ (putsA h l e k way n r).1.1.2.1 = r.1.2.1 ∧ (putsA h l e k way n r).1.1.2.2.2.2 = r.1.2.2.2.2
  | 0 => ⟨rfl, rfl, rfl⟩
  | n + 1 => by
    have h1 := puts_keep (h := h) (l := l) (e := e) (k := k) (way := way) (r := r) n
    cases hw : way n
    · rw [puts_f hw]; exact h1
    · rw [puts_t hw]
      have h2 := put_keep (p := n) (putsA h l e k way n r).1
      exact ⟨h2.1.trans h1.1, h2.2.1.trans h1.2.1, h2.2.2.trans h1.2.2⟩
where
  push_keep {p cap siz : Nat} : ∀ n (r : Ra), (pushA h cap siz e k p n r).1.1 = r.1.1 ∧ (pushA h cap siz e k p n r).1.2.1 = r.1.2.1 ∧ (pushA h cap siz e k p n r).1.2.2.2.2 = r.1.2.2.2.2
    | 0, r => ⟨rfl, rfl, rfl⟩
    | n + 1, r => by
      unfold pushA
      split
      · exact ⟨rfl, rfl, rfl⟩
      · exact push_keep n _
  put_keep {p : Nat} (r : Ra) : (putA h l e k p r).1.1.1 = r.1.1 ∧ (putA h l e k p r).1.1.2.1 = r.1.2.1 ∧ (putA h l e k p r).1.1.2.2.2.2 = r.1.2.2.2.2 := by
    unfold putA
    split
    · exact ⟨rfl, rfl, rfl⟩
    · split
      · exact ⟨rfl, rfl, rfl⟩
      · exact push_keep _ r
theorem puts_val {h : Hi} {l : Li} {e k n b : Nat} {way : Nat → Bool} {r : Ra} : validA l (putsA h l e k way n r).1.1 b = validA l r.1 b := by
  obtain ⟨h1, _, h3⟩ := puts_keep (h := h) (l := l) (e := e) (k := k) (way := way) (r := r) n
  unfold validA sTab sTime
  rw [h1, h3]
theorem puts_up {h : Hi} {l : Li} {e k n b : Nat} {way : Nat → Bool} {r : Ra} : sUp (putsA h l e k way n r).1.1 b = sUp r.1 b := by
  unfold sUp
  rw [(puts_keep (h := h) (l := l) (e := e) (k := k) (way := way) (r := r) n).2.1]
theorem ways_0 {way : Nat → Bool} : ∀ n, ways way n = 0 ↔ ∀ q, q < n → way q = false
  | 0 => ⟨fun _ q hq => absurd hq (Nat.not_lt_zero q), fun _ => rfl⟩
  | n + 1 => by
    have h1 := ways_0 (way := way) n
    unfold ways
    cases hw : way n
    · rw [if_neg (by decide), Nat.add_zero, h1]
      refine ⟨fun h q hq => ?_, fun h q hq => h q (by omega)⟩
      by_cases hqn : q = n
      · rw [hqn]; exact hw
      · exact h q (by omega)
    · rw [if_pos rfl]
      refine ⟨fun h => by omega, fun h => ?_⟩
      rw [h n (by omega)] at hw
      cases hw
theorem puts_none {h : Hi} {l : Li} {e k : Nat} {way : Nat → Bool} {r : Ra} : ∀ n, ways way n = 0 → putsA h l e k way n r = (r, 0)
  | 0, _ => rfl
  | n + 1, h0 => by
    have h1 := (ways_0 (n + 1)).mp h0
    rw [puts_f (h1 n (by omega))]
    exact puts_none n ((ways_0 n).mpr fun q hq => h1 q (by omega))
theorem ways_t {way : Nat → Bool} {n : Nat} (hw : way n = true) : ways way (n + 1) = ways way n + 1 := by rw [ways, if_pos hw]
theorem ways_f {way : Nat → Bool} {n : Nat} (hw : way n = false) : ways way (n + 1) = ways way n := by rw [ways, hw]; rfl
def okT (l : Li) (A : Sa) : Prop := ∀ b w t, sTab A b = some (w, t) → w < lPorts l
theorem valid_t {l : Li} {A : Sa} {b w : Nat} (hv : validA l A b = some w) : ∃ t, sTab A b = some (w, t) := by
  unfold validA at hv
  cases hT : sTab A b with
  | none => rw [hT] at hv; cases hv
  | some wt =>
    obtain ⟨w', t⟩ := wt
    rw [hT] at hv
    simp only at hv
    split at hv
    · injection hv with e
      exact ⟨t, by rw [e]⟩
    · cases hv
section REK
variable {xs : List Int} {S : List (Nat × Nat)} {T : Nat → Nat → Nat} {cc zz s : Nat} {h : Hi} {l : Li} {r : Ra} {I I' : Ix}

theorem nS_way (hR : nR I s l r) {b w : Nat} (hb : b < 64) (hv : validA l r.1 b = some w) : I (s + 32) b = (w : Int) := by
  obtain ⟨t, ht⟩ := valid_t hv
  have g := hR.1.2.2.2.2 b hb
  unfold nT at g
  rw [ht] at g
  exact g.1
theorem nS_learn (hR : nR I s l r) {b p : Nat} (hp : p < 4) : nR (up (up I (s + 32) b ((p : Nat) : Int)) (s + 33) b ((sTime r.1 : Nat) : Int)) s l (setTab r.1 b (some (p, sTime r.1)), r.2) ∧ mfc I (up (up I (s + 32) b ((p : Nat) : Int)) (s + 33) b ((sTime r.1 : Nat) : Int)) s 0 0 := by
  refine nR_S hR ?_ fun x y h1 h2 => by rw [up_no (by intro e; have := h2 (by omega); omega), up_no (by intro e; have := h2 (by omega); omega)]
  obtain ⟨h1, h2, h3, h4, h5⟩ := hR.1
  have hn : ∀ x y, x ≠ s + 32 → x ≠ s + 33 → up (up I (s + 32) b ((p : Nat) : Int)) (s + 33) b ((sTime r.1 : Nat) : Int) x y = I x y := fun x y hx hy => by rw [up_no hy, up_no hx]
  refine ⟨by rw [hn _ _ (by omega) (by omega)]; exact h1, fun x hx => by rw [hn _ _ (by omega) (by omega)]; exact h2 x hx, fun x hx => ?_, fun x hx => by rw [hn _ _ (by omega) (by omega)]; exact h4 x hx, fun a ha => ?_⟩
  · obtain ⟨g1, g2, g3⟩ := h3 x hx
    exact ⟨by rw [hn _ _ (by omega) (by omega)]; exact g1, g2, fun k hk => by rw [hn _ _ (by omega) (by omega), hn _ _ (by omega) (by omega)]; exact g3 k hk⟩
  · have e : sTab (setTab r.1 b (some (p, sTime r.1))) a = if a = b then some (p, sTime r.1) else sTab r.1 a := rfl
    rw [e]
    unfold nT
    rw [up_no (x := s + 32) (by omega)]
    by_cases hab : a = b
    · subst hab
      rw [if_pos rfl, up_eq, up_eq]
      exact ⟨rfl, hp, rfl, h1.2⟩
    · rw [if_neg hab, up_nj hab, up_nj hab, up_nj hab]
      exact h5 a ha
theorem nS_tk (hR : nR I s l r) {A : Sa} {p : Nat} {v : Int} (e1 : A.1 = r.1.1) (e2 : A.2.1 = r.1.2.1) (e3 : A.2.2.2 = r.1.2.2.2) (ht : ∀ x, x < lPorts l → x ≠ p → tokI l A x = tokI l r.1 x) (hv : p < lPorts l → v = tokI l A p ∧ v ≤ 99) : nR (up I (s + 31) p v) s l (A, r.2) ∧ mfc I (up I (s + 31) p v) s 0 0 := by
  refine nR_S hR ?_ fun x y h1 h2 => up_no (by intro e; have := h2 (by omega); omega)
  obtain ⟨h1, h2, h3, h4, h5⟩ := hR.1
  have eT : sTime A = sTime r.1 := e1
  have eU : ∀ x, sUp A x = sUp r.1 x := fun x => by unfold sUp; rw [e2]
  have eQ : ∀ x, sQ A x = sQ r.1 x := fun x => by unfold sQ; rw [e3]
  have eB : ∀ x, sTab A x = sTab r.1 x := fun x => by unfold sTab; rw [e3]
  refine ⟨by rw [up_no (by omega), eT]; exact h1, fun x hx => by rw [up_no (by omega), eU]; exact h2 x hx, fun x hx => ?_, fun x hx => ?_, fun a ha => ?_⟩
  · rw [eQ]
    obtain ⟨g1, g2, g3⟩ := h3 x hx
    exact ⟨by rw [up_no (by omega)]; exact g1, g2, fun k hk => by rw [up_no (by omega), up_no (by omega)]; exact g3 k hk⟩
  · by_cases hxp : x = p
    · rw [hxp, up_eq]
      have g := hv (by omega)
      exact ⟨g.1, by rw [← g.1]; exact g.2⟩
    · rw [up_nj hxp, ht x hx hxp]
      exact h4 x hx
  · rw [eB]
    have g := h5 a ha
    unfold nT at g ⊢
    rw [up_no (by omega), up_no (by omega)]
    exact g

theorem r_valid1 (hm : oModel S T s) {e ne np u b w : Nat} {a : Nat → Nat} (E : ME I s e h l a ne np) (hR : nR I s l r) (hok : okR h l np u r) (hb : b < 64) (hv : validA l r.1 b = some w) : CL xs 221 [vr s, vi ((b : Nat) : Int)] (S, I, T, cc, zz) (FN (some (vi 1)) (S, I, T, cc, zz)) := by
  have h9 := s_221 (xs := xs) (T := T) (cc := cc) (zz := zz) hm E hR hok hb
  rw [hv] at h9
  exact h9
theorem r_valid0 (hm : oModel S T s) {e ne np u b : Nat} {a : Nat → Nat} (E : ME I s e h l a ne np) (hR : nR I s l r) (hok : okR h l np u r) (hb : b < 64) (hv : validA l r.1 b = none) : CL xs 221 [vr s, vi ((b : Nat) : Int)] (S, I, T, cc, zz) (FN (some (vi 0)) (S, I, T, cc, zz)) := by
  have h9 := s_221 (xs := xs) (T := T) (cc := cc) (zz := zz) hm E hR hok hb
  rw [hv] at h9
  exact h9

theorem mx_222 : mxl 222 = 9 := by decide +kernel
theorem mt_222 : mtc 222 = 10 := by decide +kernel
theorem rk_222 (as : List AV) : rkA 222 as = 6 := rfl
theorem l_222_0 : look 222 0 = some (.aload_n 0, 1, 0, 0, 0, 0) := by decide +kernel
theorem l_222_1 : look 222 1 = some (.getfield 113, 3, 10, 56, 2, 1557) := by decide +kernel
theorem l_222_4 : look 222 4 = some (.iload_n 1, 1, 0, 0, 0, 0) := by decide +kernel
theorem l_222_5 : look 222 5 = some (.baload, 1, 0, 0, 0, 0) := by decide +kernel
theorem l_222_6 : look 222 6 = some (.ifCond .ne 12, 3, 0, 0, 0, 0) := by decide +kernel
theorem l_222_9 : look 222 9 = some (.aload_n 0, 1, 0, 0, 0, 0) := by decide +kernel
theorem l_222_10 : look 222 10 = some (.iload_n 2, 1, 0, 0, 0, 0) := by decide +kernel
theorem l_222_11 : look 222 11 = some (.iconst (-1), 1, 0, 0, 0, 0) := by decide +kernel
theorem l_222_12 : look 222 12 = some (.iconst 1, 1, 0, 0, 0, 0) := by decide +kernel
theorem l_222_13 : look 222 13 = some (.iconst (-1), 1, 0, 0, 0, 0) := by decide +kernel
theorem l_222_14 : look 222 14 = some (.invokevirtual 405, 3, 211, 5, 0, 1925) := by decide +kernel
theorem l_222_17 : look 222 17 = some (.return_, 1, 0, 0, 0, 0) := by decide +kernel
theorem l_222_18 : look 222 18 = some (.aload_n 0, 1, 0, 0, 0, 0) := by decide +kernel
theorem l_222_19 : look 222 19 = some (.iload_n 2, 1, 0, 0, 0, 0) := by decide +kernel
theorem l_222_20 : look 222 20 = some (.invokevirtual 418, 3, 220, 2, 0, 1929) := by decide +kernel
theorem l_222_23 : look 222 23 = some (.istore_n 3, 1, 0, 0, 0, 0) := by decide +kernel
theorem l_222_24 : look 222 24 = some (.iload_n 3, 1, 0, 0, 0, 0) := by decide +kernel
theorem l_222_25 : look 222 25 = some (.iconst (-1), 1, 0, 0, 0, 0) := by decide +kernel
theorem l_222_26 : look 222 26 = some (.if_icmp .eq 12, 3, 0, 0, 0, 0) := by decide +kernel
theorem l_222_29 : look 222 29 = some (.aload_n 0, 1, 0, 0, 0, 0) := by decide +kernel
theorem l_222_30 : look 222 30 = some (.iload_n 2, 1, 0, 0, 0, 0) := by decide +kernel
theorem l_222_31 : look 222 31 = some (.iconst (-1), 1, 0, 0, 0, 0) := by decide +kernel
theorem l_222_32 : look 222 32 = some (.iconst 2, 1, 0, 0, 0, 0) := by decide +kernel
theorem l_222_33 : look 222 33 = some (.iload_n 3, 1, 0, 0, 0, 0) := by decide +kernel
theorem l_222_34 : look 222 34 = some (.invokevirtual 405, 3, 211, 5, 0, 1925) := by decide +kernel
theorem l_222_37 : look 222 37 = some (.return_, 1, 0, 0, 0, 0) := by decide +kernel
theorem l_222_38 : look 222 38 = some (.aload_n 0, 1, 0, 0, 0, 0) := by decide +kernel
theorem l_222_39 : look 222 39 = some (.getfield 23, 3, 10, 6, 2, 1507) := by decide +kernel
theorem l_222_42 : look 222 42 = some (.iload_n 1, 1, 0, 0, 0, 0) := by decide +kernel
theorem l_222_43 : look 222 43 = some (.iaload, 1, 0, 0, 0, 0) := by decide +kernel
theorem l_222_44 : look 222 44 = some (.iconst (-1), 1, 0, 0, 0, 0) := by decide +kernel
theorem l_222_45 : look 222 45 = some (.if_icmp .eq 26, 3, 0, 0, 0, 0) := by decide +kernel
theorem l_222_48 : look 222 48 = some (.aload_n 0, 1, 0, 0, 0, 0) := by decide +kernel
theorem l_222_49 : look 222 49 = some (.getfield 125, 3, 10, 60, 2, 1561) := by decide +kernel
theorem l_222_52 : look 222 52 = some (.iload_n 1, 1, 0, 0, 0, 0) := by decide +kernel
theorem l_222_53 : look 222 53 = some (.iaload, 1, 0, 0, 0, 0) := by decide +kernel
theorem l_222_54 : look 222 54 = some (.aload_n 0, 1, 0, 0, 0, 0) := by decide +kernel
theorem l_222_55 : look 222 55 = some (.iload_n 2, 1, 0, 0, 0, 0) := by decide +kernel
theorem l_222_56 : look 222 56 = some (.invokevirtual 363, 3, 207, 2, 0, 1948) := by decide +kernel
theorem l_222_59 : look 222 59 = some (.if_icmp .ge 12, 3, 0, 0, 0, 0) := by decide +kernel
theorem l_222_62 : look 222 62 = some (.aload_n 0, 1, 0, 0, 0, 0) := by decide +kernel
theorem l_222_63 : look 222 63 = some (.iload_n 2, 1, 0, 0, 0, 0) := by decide +kernel
theorem l_222_64 : look 222 64 = some (.iconst (-1), 1, 0, 0, 0, 0) := by decide +kernel
theorem l_222_65 : look 222 65 = some (.iconst 3, 1, 0, 0, 0, 0) := by decide +kernel
theorem l_222_66 : look 222 66 = some (.iconst (-1), 1, 0, 0, 0, 0) := by decide +kernel
theorem l_222_67 : look 222 67 = some (.invokevirtual 405, 3, 211, 5, 0, 1925) := by decide +kernel
theorem l_222_70 : look 222 70 = some (.return_, 1, 0, 0, 0, 0) := by decide +kernel
theorem l_222_71 : look 222 71 = some (.aload_n 0, 1, 0, 0, 0, 0) := by decide +kernel
theorem l_222_72 : look 222 72 = some (.getfield 125, 3, 10, 60, 2, 1561) := by decide +kernel
theorem l_222_75 : look 222 75 = some (.iload_n 1, 1, 0, 0, 0, 0) := by decide +kernel
theorem l_222_76 : look 222 76 = some (.dup2, 1, 0, 0, 0, 0) := by decide +kernel
theorem l_222_77 : look 222 77 = some (.iaload, 1, 0, 0, 0, 0) := by decide +kernel
theorem l_222_78 : look 222 78 = some (.aload_n 0, 1, 0, 0, 0, 0) := by decide +kernel
theorem l_222_79 : look 222 79 = some (.getfield 23, 3, 10, 6, 2, 1507) := by decide +kernel
theorem l_222_82 : look 222 82 = some (.iload_n 1, 1, 0, 0, 0, 0) := by decide +kernel
theorem l_222_83 : look 222 83 = some (.iaload, 1, 0, 0, 0, 0) := by decide +kernel
theorem l_222_84 : look 222 84 = some (.iconst (-1), 1, 0, 0, 0, 0) := by decide +kernel
theorem l_222_85 : look 222 85 = some (.if_icmp .ne 7, 3, 0, 0, 0, 0) := by decide +kernel
theorem l_222_88 : look 222 88 = some (.iconst 0, 1, 0, 0, 0, 0) := by decide +kernel
theorem l_222_89 : look 222 89 = some (.goto 8, 3, 0, 0, 0, 0) := by decide +kernel
theorem l_222_92 : look 222 92 = some (.aload_n 0, 1, 0, 0, 0, 0) := by decide +kernel
theorem l_222_93 : look 222 93 = some (.iload_n 2, 1, 0, 0, 0, 0) := by decide +kernel
theorem l_222_94 : look 222 94 = some (.invokevirtual 363, 3, 207, 2, 0, 1948) := by decide +kernel
theorem l_222_97 : look 222 97 = some (.isub, 1, 0, 0, 0, 0) := by decide +kernel
theorem l_222_98 : look 222 98 = some (.iastore, 1, 0, 0, 0, 0) := by decide +kernel
theorem l_222_99 : look 222 99 = some (.aload_n 0, 1, 0, 0, 0, 0) := by decide +kernel
theorem l_222_100 : look 222 100 = some (.iload_n 2, 1, 0, 0, 0, 0) := by decide +kernel
theorem l_222_101 : look 222 101 = some (.iconst 2, 1, 0, 0, 0, 0) := by decide +kernel
theorem l_222_102 : look 222 102 = some (.invokevirtual 360, 3, 206, 3, 0, 1944) := by decide +kernel
theorem l_222_105 : look 222 105 = some (.istore 4, 2, 0, 0, 0, 0) := by decide +kernel
theorem l_222_107 : look 222 107 = some (.aload_n 0, 1, 0, 0, 0, 0) := by decide +kernel
theorem l_222_108 : look 222 108 = some (.iload_n 2, 1, 0, 0, 0, 0) := by decide +kernel
theorem l_222_109 : look 222 109 = some (.iconst 3, 1, 0, 0, 0, 0) := by decide +kernel
theorem l_222_110 : look 222 110 = some (.invokevirtual 360, 3, 206, 3, 0, 1944) := by decide +kernel
theorem l_222_113 : look 222 113 = some (.istore 5, 2, 0, 0, 0, 0) := by decide +kernel
theorem l_222_115 : look 222 115 = some (.aload_n 0, 1, 0, 0, 0, 0) := by decide +kernel
theorem l_222_116 : look 222 116 = some (.getfield 128, 3, 10, 61, 2, 1562) := by decide +kernel
theorem l_222_119 : look 222 119 = some (.iload 4, 2, 0, 0, 0, 0) := by decide +kernel
theorem l_222_121 : look 222 121 = some (.iload_n 1, 1, 0, 0, 0, 0) := by decide +kernel
theorem l_222_122 : look 222 122 = some (.iastore, 1, 0, 0, 0, 0) := by decide +kernel
theorem l_222_123 : look 222 123 = some (.aload_n 0, 1, 0, 0, 0, 0) := by decide +kernel
theorem l_222_124 : look 222 124 = some (.getfield 131, 3, 10, 62, 2, 1563) := by decide +kernel
theorem l_222_127 : look 222 127 = some (.iload 4, 2, 0, 0, 0, 0) := by decide +kernel
theorem l_222_129 : look 222 129 = some (.aload_n 0, 1, 0, 0, 0, 0) := by decide +kernel
theorem l_222_130 : look 222 130 = some (.getfield 375, 3, 10, 55, 0, 1556) := by decide +kernel
theorem l_222_133 : look 222 133 = some (.iastore, 1, 0, 0, 0, 0) := by decide +kernel
theorem l_222_134 : look 222 134 = some (.aload_n 0, 1, 0, 0, 0, 0) := by decide +kernel
theorem l_222_135 : look 222 135 = some (.iload 5, 2, 0, 0, 0, 0) := by decide +kernel
theorem l_222_137 : look 222 137 = some (.invokevirtual 421, 3, 221, 2, 0, 1952) := by decide +kernel
theorem l_222_140 : look 222 140 = some (.ifCond .eq 23, 3, 0, 0, 0, 0) := by decide +kernel
theorem l_222_143 : look 222 143 = some (.aload_n 0, 1, 0, 0, 0, 0) := by decide +kernel
theorem l_222_144 : look 222 144 = some (.getfield 128, 3, 10, 61, 2, 1562) := by decide +kernel
theorem l_222_147 : look 222 147 = some (.iload 5, 2, 0, 0, 0, 0) := by decide +kernel
theorem l_222_149 : look 222 149 = some (.iaload, 1, 0, 0, 0, 0) := by decide +kernel
theorem l_222_150 : look 222 150 = some (.iload_n 1, 1, 0, 0, 0, 0) := by decide +kernel
theorem l_222_151 : look 222 151 = some (.if_icmp .ne 12, 3, 0, 0, 0, 0) := by decide +kernel
theorem l_222_154 : look 222 154 = some (.aload_n 0, 1, 0, 0, 0, 0) := by decide +kernel
theorem l_222_155 : look 222 155 = some (.iload_n 2, 1, 0, 0, 0, 0) := by decide +kernel
theorem l_222_156 : look 222 156 = some (.iconst (-1), 1, 0, 0, 0, 0) := by decide +kernel
theorem l_222_157 : look 222 157 = some (.iconst 4, 1, 0, 0, 0, 0) := by decide +kernel
theorem l_222_158 : look 222 158 = some (.iconst (-1), 1, 0, 0, 0, 0) := by decide +kernel
theorem l_222_159 : look 222 159 = some (.invokevirtual 405, 3, 211, 5, 0, 1925) := by decide +kernel
theorem l_222_162 : look 222 162 = some (.return_, 1, 0, 0, 0, 0) := by decide +kernel
theorem l_222_163 : look 222 163 = some (.iconst 0, 1, 0, 0, 0, 0) := by decide +kernel
theorem l_222_164 : look 222 164 = some (.istore 6, 2, 0, 0, 0, 0) := by decide +kernel
theorem l_222_166 : look 222 166 = some (.iconst 0, 1, 0, 0, 0, 0) := by decide +kernel
theorem l_222_167 : look 222 167 = some (.istore 7, 2, 0, 0, 0, 0) := by decide +kernel
theorem l_222_169 : look 222 169 = some (.iload 7, 2, 0, 0, 0, 0) := by decide +kernel
theorem l_222_171 : look 222 171 = some (.aload_n 0, 1, 0, 0, 0, 0) := by decide +kernel
theorem l_222_172 : look 222 172 = some (.getfield 324, 3, 10, 1, 0, 1502) := by decide +kernel
theorem l_222_175 : look 222 175 = some (.if_icmp .ge 76, 3, 0, 0, 0, 0) := by decide +kernel
theorem l_222_178 : look 222 178 = some (.aload_n 0, 1, 0, 0, 0, 0) := by decide +kernel
theorem l_222_179 : look 222 179 = some (.iload 5, 2, 0, 0, 0, 0) := by decide +kernel
theorem l_222_181 : look 222 181 = some (.invokevirtual 421, 3, 221, 2, 0, 1952) := by decide +kernel
theorem l_222_184 : look 222 184 = some (.ifCond .eq 23, 3, 0, 0, 0, 0) := by decide +kernel
theorem l_222_187 : look 222 187 = some (.aload_n 0, 1, 0, 0, 0, 0) := by decide +kernel
theorem l_222_188 : look 222 188 = some (.getfield 128, 3, 10, 61, 2, 1562) := by decide +kernel
theorem l_222_191 : look 222 191 = some (.iload 5, 2, 0, 0, 0, 0) := by decide +kernel
theorem l_222_193 : look 222 193 = some (.iaload, 1, 0, 0, 0, 0) := by decide +kernel
theorem l_222_194 : look 222 194 = some (.iload 7, 2, 0, 0, 0, 0) := by decide +kernel
theorem l_222_196 : look 222 196 = some (.if_icmp .ne 7, 3, 0, 0, 0, 0) := by decide +kernel
theorem l_222_199 : look 222 199 = some (.iconst 1, 1, 0, 0, 0, 0) := by decide +kernel
theorem l_222_200 : look 222 200 = some (.goto 28, 3, 0, 0, 0, 0) := by decide +kernel
theorem l_222_203 : look 222 203 = some (.iconst 0, 1, 0, 0, 0, 0) := by decide +kernel
theorem l_222_204 : look 222 204 = some (.goto 24, 3, 0, 0, 0, 0) := by decide +kernel
theorem l_222_207 : look 222 207 = some (.iload 7, 2, 0, 0, 0, 0) := by decide +kernel
theorem l_222_209 : look 222 209 = some (.iload_n 1, 1, 0, 0, 0, 0) := by decide +kernel
theorem l_222_210 : look 222 210 = some (.if_icmp .eq 17, 3, 0, 0, 0, 0) := by decide +kernel
theorem l_222_213 : look 222 213 = some (.aload_n 0, 1, 0, 0, 0, 0) := by decide +kernel
theorem l_222_214 : look 222 214 = some (.getfield 113, 3, 10, 56, 2, 1557) := by decide +kernel
theorem l_222_217 : look 222 217 = some (.iload 7, 2, 0, 0, 0, 0) := by decide +kernel
theorem l_222_219 : look 222 219 = some (.baload, 1, 0, 0, 0, 0) := by decide +kernel
theorem l_222_220 : look 222 220 = some (.ifCond .eq 7, 3, 0, 0, 0, 0) := by decide +kernel
theorem l_222_223 : look 222 223 = some (.iconst 1, 1, 0, 0, 0, 0) := by decide +kernel
theorem l_222_224 : look 222 224 = some (.goto 4, 3, 0, 0, 0, 0) := by decide +kernel
theorem l_222_227 : look 222 227 = some (.iconst 0, 1, 0, 0, 0, 0) := by decide +kernel
theorem l_222_228 : look 222 228 = some (.istore 8, 2, 0, 0, 0, 0) := by decide +kernel
theorem l_222_230 : look 222 230 = some (.iload 8, 2, 0, 0, 0, 0) := by decide +kernel
theorem l_222_232 : look 222 232 = some (.ifCond .eq 13, 3, 0, 0, 0, 0) := by decide +kernel
theorem l_222_235 : look 222 235 = some (.iinc 6 1, 3, 0, 0, 0, 0) := by decide +kernel
theorem l_222_238 : look 222 238 = some (.aload_n 0, 1, 0, 0, 0, 0) := by decide +kernel
theorem l_222_239 : look 222 239 = some (.iload 7, 2, 0, 0, 0, 0) := by decide +kernel
theorem l_222_241 : look 222 241 = some (.iload_n 2, 1, 0, 0, 0, 0) := by decide +kernel
theorem l_222_242 : look 222 242 = some (.invokevirtual 425, 3, 225, 3, 0, 1956) := by decide +kernel
theorem l_222_245 : look 222 245 = some (.iinc 7 1, 3, 0, 0, 0, 0) := by decide +kernel
theorem l_222_248 : look 222 248 = some (.goto (-79), 3, 0, 0, 0, 0) := by decide +kernel
theorem l_222_251 : look 222 251 = some (.iload 6, 2, 0, 0, 0, 0) := by decide +kernel
theorem l_222_253 : look 222 253 = some (.ifCond .ne 11, 3, 0, 0, 0, 0) := by decide +kernel
theorem l_222_256 : look 222 256 = some (.aload_n 0, 1, 0, 0, 0, 0) := by decide +kernel
theorem l_222_257 : look 222 257 = some (.iload_n 2, 1, 0, 0, 0, 0) := by decide +kernel
theorem l_222_258 : look 222 258 = some (.iconst (-1), 1, 0, 0, 0, 0) := by decide +kernel
theorem l_222_259 : look 222 259 = some (.iconst 5, 1, 0, 0, 0, 0) := by decide +kernel
theorem l_222_260 : look 222 260 = some (.iconst (-1), 1, 0, 0, 0, 0) := by decide +kernel
theorem l_222_261 : look 222 261 = some (.invokevirtual 405, 3, 211, 5, 0, 1925) := by decide +kernel
theorem l_222_264 : look 222 264 = some (.return_, 1, 0, 0, 0, 0) := by decide +kernel

theorem ways_le' {way : Nat → Bool} : ∀ n, ways way n ≤ n
  | 0 => Nat.le_refl _
  | n + 1 => by
    have h1 := ways_le' (way := way) n
    unfold ways
    split <;> omega

theorem lp_222S {I0 : Ix} (hm : oModel S T s) {e ne np u p k w : Nat} {a : Nat → Nat} {v3 v4 : Int} (E : ME I0 s e h l a ne np) (hok0 : okR h l np u r) (hk : k < np) (hu : u + ways (fun o => o == w) (lPorts l) ≤ 360) (hu9 : u < 360) (hv : validA l r.1 (hTgt h k) = some w) : ∀ d q I v8, q + d = lPorts l → nR I s l (putsA h l e k (fun o => o == w) q r).1 → mfc I0 I s (((putsA h l e k (fun o => o == w) q r).2 : Nat) : Int) 0 →
    WP xs 222 6 169 [vr s, vi ((p : Nat) : Int), vi ((k : Nat) : Int), vi v3, vi v4, vi (((hTgt h k) : Nat) : Int), vi (((ways (fun o => o == w) q) : Nat) : Int), vi ((q : Nat) : Int), v8] [] (S, I, T, cc, zz) (RP S T cc zz (fun v I' => v = none ∧ nR I' s l (if ways (fun o => o == w) (lPorts l) = 0 then refA e k 5 (-1) r else putsA h l e k (fun o => o == w) (lPorts l) r).1 ∧ mfc I0 I' s (((if ways (fun o => o == w) (lPorts l) = 0 then refA e k 5 (-1) r else putsA h l e k (fun o => o == w) (lPorts l) r).2 : Nat) : Int) 0)) := by
  intro d
  have hl4 := E.okl.1
  have hk120 := E.np hk
  have ht64 := (E.ok k).2.2.2.2
  induction d with
  | zero =>
    intro q I v8 hq hR f
    have hok := putsA_ok E.ok E.okl (e := e) (way := (fun o => o == w)) hk hok0 q (by omega)
    refine w_il l_222_169 rfl ?_
    refine w_aln l_222_171 rfl ?_
    refine w_gi (((lPorts l) : Nat) : Int) l_222_172 (oModel_sh hm) ((E.fr f.1).L.1) ?_
    refine w_cge 251 l_222_175 (by decide) (fun _ => ?_) (fun hx => absurd hx (by omega))
    have e9 : q = lPorts l := by omega
    rw [e9] at hR f hok
    rw [e9]
    refine w_il l_222_251 rfl ?_
    refine w_zne 264 l_222_253 (by decide) (fun h1 => ?_) (fun h1 => ?_)
    · skip
      refine w_vr l_222_264 ?_
      rw [if_neg (by omega)]
      exact ⟨_, _, rfl, rfl, rfl, hR, f⟩
    · skip
      have h0 : ways (fun o => o == w) (lPorts l) = 0 := by omega
      have hlt : (putsA h l e k (fun o => o == w) (lPorts l) r).1.2.1.length < 360 := by
        rw [puts_none _ h0]
        have := hok0.2.2
        unfold tot at this
        show r.2.1.length < 360
        omega
      refine w_aln l_222_256 rfl ?_
      refine w_iln l_222_257 rfl ?_
      refine w_ic l_222_258 (by decide) ?_
      refine w_ic l_222_259 (by decide) ?_
      refine w_ic l_222_260 (by decide) ?_
      refine p_iv [vi ((k : Nat) : Int), vi (-1), vi 5, vi (-1)] [] l_222_261 rfl rfl (Nat.le_of_ble_eq_true rfl) (by rw [mx_211]; exact Nat.le_of_ble_eq_true rfl) (by rw [mt_211]; exact oModel_sh hm) (by rw [mt_211]; decide) (by rw [rk_211]; decide) (r_drops0 hm hR (E.fr f.1).ev (E.np hk) hlt) (fun v I1 hv => ?_)
      obtain ⟨rfl, hR1, f1⟩ := hv
      refine w_vr l_222_264 ?_
      rw [if_pos h0]
      rw [puts_none _ h0] at f hR1
      exact ⟨_, _, rfl, rfl, rfl, hR1, f.t1 f1⟩
  | succ d ih =>
    intro q I v8 hq hR f
    have hok := putsA_ok E.ok E.okl (e := e) (way := (fun o => o == w)) hk hok0 q (by omega)
    have hwl := (ways_le' (way := (fun o => o == w)) q)
    refine w_il l_222_169 rfl ?_
    refine w_aln l_222_171 rfl ?_
    refine w_gi (((lPorts l) : Nat) : Int) l_222_172 (oModel_sh hm) ((E.fr f.1).L.1) ?_
    refine w_cge 251 l_222_175 (by decide) (fun hx => absurd hx (by omega)) (fun _ => ?_)
    refine w_aln l_222_178 rfl ?_
    refine w_il l_222_179 rfl ?_
    refine q_iv [vi (((hTgt h k) : Nat) : Int)] [] l_222_181 rfl rfl (Nat.le_of_ble_eq_true rfl) (by rw [mx_221]; exact Nat.le_of_ble_eq_true rfl) (by rw [mt_221]; exact oModel_sh hm) (by rw [mt_221]; decide) (by rw [rk_221]; decide) (r_valid1 hm (E.fr f.1) hR hok (E.ok k).2.2.2.2 (by rw [puts_val]; exact hv)) ?_
    refine w_zeq 207 l_222_184 (by decide) (fun hx => absurd hx (by decide)) (fun _ => ?_)
    refine w_aln l_222_187 rfl ?_
    refine w_gr l_222_188 (oModel_sh hm) (oModel_r61 hm) ?_
    refine w_il l_222_191 rfl ?_
    refine w_ia (hTgt h k) ((w : Nat) : Int) l_222_193 (oModel_s61 hm) rfl (by omega) (nS_way hR (E.ok k).2.2.2.2 (by rw [puts_val]; exact hv)) ?_
    refine w_il l_222_194 rfl ?_
    refine w_cne 203 l_222_196 (by decide) (fun h1 => ?_) (fun h1 => ?_)
    · skip
      refine w_ic l_222_203 (by decide) ?_
      refine w_go 228 l_222_204 (by decide) ?_
      refine w_is l_222_228 ⟨Nat.le_of_ble_eq_true rfl, rfl⟩ ?_
      refine w_il l_222_230 rfl ?_
      refine w_zeq 245 l_222_232 (by decide) (fun _ => ?_) (fun hx => absurd hx (by decide))
      refine w_inc ((q + 1 : Nat) : Int) l_222_245 rfl rfl (by unfold wr; omega) ?_
      refine w_go 169 l_222_248 (by decide) ?_
      have hw : (fun o => o == w) q = false := by simp; omega
      have e9 := ih (q + 1) I (vi 0) (by omega) (by rw [puts_f (way := (fun o => o == w)) (n := q) hw]; exact hR) (by rw [puts_f (way := (fun o => o == w)) (n := q) hw]; exact f)
      rw [ways_f (way := (fun o => o == w)) (n := q) hw] at e9
      exact e9
    · skip
      refine w_ic l_222_199 (by decide) ?_
      refine w_go 228 l_222_200 (by decide) ?_
      refine w_is l_222_228 ⟨Nat.le_of_ble_eq_true rfl, rfl⟩ ?_
      refine w_il l_222_230 rfl ?_
      refine w_zeq 245 l_222_232 (by decide) (fun hx => absurd hx (by decide)) (fun _ => ?_)
      have hw : (fun o => o == w) q = true := by simp; omega
      have hmw := ways_mono (way := (fun o => o == w)) (q := q + 1) (lPorts l) (by omega)
      rw [ways_t (way := (fun o => o == w)) (n := q) hw] at hmw
      have hpl := puts_le (h := h) (l := l) (e := e) (k := k) (way := (fun o => o == w)) (r := r) q
      refine w_inc (((ways (fun o => o == w) q) + 1 : Nat) : Int) l_222_235 rfl rfl (by unfold wr; omega) ?_
      refine w_aln l_222_238 rfl ?_
      refine w_il l_222_239 rfl ?_
      refine w_iln l_222_241 rfl ?_
      refine p_iv [vi ((q : Nat) : Int), vi ((k : Nat) : Int)] [] l_222_242 rfl rfl (Nat.le_of_ble_eq_true rfl) (by rw [mx_225]; exact Nat.le_of_ble_eq_true rfl) (by rw [mt_225]; exact oModel_sh hm) (by rw [mt_225]; decide) (by rw [rk_225]; decide) (s_225 hm (E.fr f.1) hR hok (by omega) hk (by omega)) (fun v I1 hv => ?_)
      obtain ⟨rfl, hR1, f1⟩ := hv
      refine w_inc ((q + 1 : Nat) : Int) l_222_245 rfl rfl (by unfold wr; omega) ?_
      refine w_go 169 l_222_248 (by decide) ?_
      have e9 := ih (q + 1) I1 (vi 1) (by omega) (by rw [puts_t (way := (fun o => o == w)) (n := q) hw]; exact hR1) (by rw [puts_t (way := (fun o => o == w)) (n := q) hw]; exact f.tr f1)
      rw [ways_t (way := (fun o => o == w)) (n := q) hw] at e9
      exact e9
theorem lp_222N {I0 : Ix} (hm : oModel S T s) {e ne np u p k : Nat} {a : Nat → Nat} {v3 v4 : Int} (E : ME I0 s e h l a ne np) (hok0 : okR h l np u r) (hk : k < np) (hu : u + ways (fun o => o != p && sUp r.1 o) (lPorts l) ≤ 360) (hu9 : u < 360) (hv : validA l r.1 (hTgt h k) = none) : ∀ d q I v8, q + d = lPorts l → nR I s l (putsA h l e k (fun o => o != p && sUp r.1 o) q r).1 → mfc I0 I s (((putsA h l e k (fun o => o != p && sUp r.1 o) q r).2 : Nat) : Int) 0 →
    WP xs 222 6 169 [vr s, vi ((p : Nat) : Int), vi ((k : Nat) : Int), vi v3, vi v4, vi (((hTgt h k) : Nat) : Int), vi (((ways (fun o => o != p && sUp r.1 o) q) : Nat) : Int), vi ((q : Nat) : Int), v8] [] (S, I, T, cc, zz) (RP S T cc zz (fun v I' => v = none ∧ nR I' s l (if ways (fun o => o != p && sUp r.1 o) (lPorts l) = 0 then refA e k 5 (-1) r else putsA h l e k (fun o => o != p && sUp r.1 o) (lPorts l) r).1 ∧ mfc I0 I' s (((if ways (fun o => o != p && sUp r.1 o) (lPorts l) = 0 then refA e k 5 (-1) r else putsA h l e k (fun o => o != p && sUp r.1 o) (lPorts l) r).2 : Nat) : Int) 0)) := by
  intro d
  have hl4 := E.okl.1
  have hk120 := E.np hk
  have ht64 := (E.ok k).2.2.2.2
  induction d with
  | zero =>
    intro q I v8 hq hR f
    have hok := putsA_ok E.ok E.okl (e := e) (way := (fun o => o != p && sUp r.1 o)) hk hok0 q (by omega)
    refine w_il l_222_169 rfl ?_
    refine w_aln l_222_171 rfl ?_
    refine w_gi (((lPorts l) : Nat) : Int) l_222_172 (oModel_sh hm) ((E.fr f.1).L.1) ?_
    refine w_cge 251 l_222_175 (by decide) (fun _ => ?_) (fun hx => absurd hx (by omega))
    have e9 : q = lPorts l := by omega
    rw [e9] at hR f hok
    rw [e9]
    refine w_il l_222_251 rfl ?_
    refine w_zne 264 l_222_253 (by decide) (fun h1 => ?_) (fun h1 => ?_)
    · skip
      refine w_vr l_222_264 ?_
      rw [if_neg (by omega)]
      exact ⟨_, _, rfl, rfl, rfl, hR, f⟩
    · skip
      have h0 : ways (fun o => o != p && sUp r.1 o) (lPorts l) = 0 := by omega
      have hlt : (putsA h l e k (fun o => o != p && sUp r.1 o) (lPorts l) r).1.2.1.length < 360 := by
        rw [puts_none _ h0]
        have := hok0.2.2
        unfold tot at this
        show r.2.1.length < 360
        omega
      refine w_aln l_222_256 rfl ?_
      refine w_iln l_222_257 rfl ?_
      refine w_ic l_222_258 (by decide) ?_
      refine w_ic l_222_259 (by decide) ?_
      refine w_ic l_222_260 (by decide) ?_
      refine p_iv [vi ((k : Nat) : Int), vi (-1), vi 5, vi (-1)] [] l_222_261 rfl rfl (Nat.le_of_ble_eq_true rfl) (by rw [mx_211]; exact Nat.le_of_ble_eq_true rfl) (by rw [mt_211]; exact oModel_sh hm) (by rw [mt_211]; decide) (by rw [rk_211]; decide) (r_drops0 hm hR (E.fr f.1).ev (E.np hk) hlt) (fun v I1 hv => ?_)
      obtain ⟨rfl, hR1, f1⟩ := hv
      refine w_vr l_222_264 ?_
      rw [if_pos h0]
      rw [puts_none _ h0] at f hR1
      exact ⟨_, _, rfl, rfl, rfl, hR1, f.t1 f1⟩
  | succ d ih =>
    intro q I v8 hq hR f
    have hok := putsA_ok E.ok E.okl (e := e) (way := (fun o => o != p && sUp r.1 o)) hk hok0 q (by omega)
    have hwl := (ways_le' (way := (fun o => o != p && sUp r.1 o)) q)
    refine w_il l_222_169 rfl ?_
    refine w_aln l_222_171 rfl ?_
    refine w_gi (((lPorts l) : Nat) : Int) l_222_172 (oModel_sh hm) ((E.fr f.1).L.1) ?_
    refine w_cge 251 l_222_175 (by decide) (fun hx => absurd hx (by omega)) (fun _ => ?_)
    refine w_aln l_222_178 rfl ?_
    refine w_il l_222_179 rfl ?_
    refine q_iv [vi (((hTgt h k) : Nat) : Int)] [] l_222_181 rfl rfl (Nat.le_of_ble_eq_true rfl) (by rw [mx_221]; exact Nat.le_of_ble_eq_true rfl) (by rw [mt_221]; exact oModel_sh hm) (by rw [mt_221]; decide) (by rw [rk_221]; decide) (r_valid0 hm (E.fr f.1) hR hok (E.ok k).2.2.2.2 (by rw [puts_val]; exact hv)) ?_
    refine w_zeq 207 l_222_184 (by decide) (fun _ => ?_) (fun hx => absurd hx (by decide))
    refine w_il l_222_207 rfl ?_
    refine w_iln l_222_209 rfl ?_
    refine w_ceq 227 l_222_210 (by decide) (fun h1 => ?_) (fun h1 => ?_)
    · skip
      refine w_ic l_222_227 (by decide) ?_
      refine w_is l_222_228 ⟨Nat.le_of_ble_eq_true rfl, rfl⟩ ?_
      refine w_il l_222_230 rfl ?_
      refine w_zeq 245 l_222_232 (by decide) (fun _ => ?_) (fun hx => absurd hx (by decide))
      refine w_inc ((q + 1 : Nat) : Int) l_222_245 rfl rfl (by unfold wr; omega) ?_
      refine w_go 169 l_222_248 (by decide) ?_
      have hw : (fun o => o != p && sUp r.1 o) q = false := by
        first
          | (simp; intro h9; omega)
          | (rw [show (fun o => o != p && sUp r.1 o) q = (q != p && sUp r.1 q) from rfl, ‹sUp r.1 q = false›]; simp)
      have e9 := ih (q + 1) I (vi 0) (by omega) (by rw [puts_f (way := (fun o => o != p && sUp r.1 o)) (n := q) hw]; exact hR) (by rw [puts_f (way := (fun o => o != p && sUp r.1 o)) (n := q) hw]; exact f)
      rw [ways_f (way := (fun o => o != p && sUp r.1 o)) (n := q) hw] at e9
      exact e9
    · skip
      refine w_aln l_222_213 rfl ?_
      refine w_gr l_222_214 (oModel_sh hm) (oModel_r56 hm) ?_
      refine w_il l_222_217 rfl ?_
      refine w_ba q (b2i (sUp r.1 q)) l_222_219 (Or.inr (oModel_s56 hm)) rfl (by omega) ((hR.1.2.1 q (by omega)).trans (by rw [puts_up])) ?_
      refine w_beq 227 l_222_220 (by decide) (fun h2 => ?_) (fun h2 => ?_)
      · skip
        refine w_ic l_222_227 (by decide) ?_
        refine w_is l_222_228 ⟨Nat.le_of_ble_eq_true rfl, rfl⟩ ?_
        refine w_il l_222_230 rfl ?_
        refine w_zeq 245 l_222_232 (by decide) (fun _ => ?_) (fun hx => absurd hx (by decide))
        refine w_inc ((q + 1 : Nat) : Int) l_222_245 rfl rfl (by unfold wr; omega) ?_
        refine w_go 169 l_222_248 (by decide) ?_
        have hw : (fun o => o != p && sUp r.1 o) q = false := by
          first
            | (simp; intro h9; omega)
            | (rw [show (fun o => o != p && sUp r.1 o) q = (q != p && sUp r.1 q) from rfl, ‹sUp r.1 q = false›]; simp)
        have e9 := ih (q + 1) I (vi 0) (by omega) (by rw [puts_f (way := (fun o => o != p && sUp r.1 o)) (n := q) hw]; exact hR) (by rw [puts_f (way := (fun o => o != p && sUp r.1 o)) (n := q) hw]; exact f)
        rw [ways_f (way := (fun o => o != p && sUp r.1 o)) (n := q) hw] at e9
        exact e9
      · skip
        refine w_ic l_222_223 (by decide) ?_
        refine w_go 228 l_222_224 (by decide) ?_
        refine w_is l_222_228 ⟨Nat.le_of_ble_eq_true rfl, rfl⟩ ?_
        refine w_il l_222_230 rfl ?_
        refine w_zeq 245 l_222_232 (by decide) (fun hx => absurd hx (by decide)) (fun _ => ?_)
        have hw : (fun o => o != p && sUp r.1 o) q = true := by
          rw [show (fun o => o != p && sUp r.1 o) q = (q != p && sUp r.1 q) from rfl, ‹sUp r.1 q = true›]
          simp
          omega
        have hmw := ways_mono (way := (fun o => o != p && sUp r.1 o)) (q := q + 1) (lPorts l) (by omega)
        rw [ways_t (way := (fun o => o != p && sUp r.1 o)) (n := q) hw] at hmw
        have hpl := puts_le (h := h) (l := l) (e := e) (k := k) (way := (fun o => o != p && sUp r.1 o)) (r := r) q
        refine w_inc (((ways (fun o => o != p && sUp r.1 o) q) + 1 : Nat) : Int) l_222_235 rfl rfl (by unfold wr; omega) ?_
        refine w_aln l_222_238 rfl ?_
        refine w_il l_222_239 rfl ?_
        refine w_iln l_222_241 rfl ?_
        refine p_iv [vi ((q : Nat) : Int), vi ((k : Nat) : Int)] [] l_222_242 rfl rfl (Nat.le_of_ble_eq_true rfl) (by rw [mx_225]; exact Nat.le_of_ble_eq_true rfl) (by rw [mt_225]; exact oModel_sh hm) (by rw [mt_225]; decide) (by rw [rk_225]; decide) (s_225 hm (E.fr f.1) hR hok (by omega) hk (by omega)) (fun v I1 hv => ?_)
        obtain ⟨rfl, hR1, f1⟩ := hv
        refine w_inc ((q + 1 : Nat) : Int) l_222_245 rfl rfl (by unfold wr; omega) ?_
        refine w_go 169 l_222_248 (by decide) ?_
        have e9 := ih (q + 1) I1 (vi 1) (by omega) (by rw [puts_t (way := (fun o => o != p && sUp r.1 o)) (n := q) hw]; exact hR1) (by rw [puts_t (way := (fun o => o != p && sUp r.1 o)) (n := q) hw]; exact f.tr f1)
        rw [ways_t (way := (fun o => o != p && sUp r.1 o)) (n := q) hw] at e9
        exact e9
end REK
