/-! the class: which rules hold for a packet -/
def itemOf (c : Nat × Nat × Nat) : Nat := if c.1 = 6 then 0 else if c.1 = 7 then 1 else if c.1 = 8 then 2 else if c.1 = 5 then 3 else if c.1 = 4 then c.2.1 * 16 + 4 else (c.2.1 * 4 + (c.1 - 1)) * 16 + (5 + c.2.2)
def tN : List Bool → Nat
  | [] => 0
  | b :: r => 2 * tN r + b2n b
theorem tN_lt : ∀ st : List Bool, tN st < 2 ^ st.length
  | [] => by decide
  | b :: r => by
    have h := tN_lt r
    have h2 : b2n b ≤ 1 := by cases b <;> decide
    show 2 * tN r + b2n b < 2 ^ (r.length + 1)
    rw [Nat.pow_succ]
    omega
theorem tN_31 {st : List Bool} (h : st.length ≤ 31) : tN st < 2147483648 := Nat.lt_of_lt_of_le (tN_lt st) (Nat.pow_le_pow_right (n := 2) (by decide) h)
theorem tN_30 {st : List Bool} (h : st.length ≤ 30) : tN st < 1073741824 := Nat.lt_of_lt_of_le (tN_lt st) (Nat.pow_le_pow_right (n := 2) (by decide) h)
theorem tN_not (b : Bool) (r : List Bool) : (if tN (b :: r) % 2 = 0 then tN (b :: r) + 1 else tN (b :: r) - 1) = tN ((!b) :: r) := by
  cases b with
  | false =>
    show (if (2 * tN r + 0) % 2 = 0 then 2 * tN r + 0 + 1 else _) = 2 * tN r + 1
    rw [if_pos (by omega)]
  | true =>
    show (if (2 * tN r + 1) % 2 = 0 then _ else 2 * tN r + 1 - 1) = 2 * tN r + 0
    rw [if_neg (by omega)]
    omega
theorem tN_mod (b : Bool) (r : List Bool) : tN (b :: r) % 2 = b2n b := by
  show (2 * tN r + b2n b) % 2 = b2n b
  have : b2n b ≤ 1 := by cases b <;> decide
  omega
def cmpB (v n o : Nat) : Bool := if o = 0 then decide (v < n) else if o = 1 then decide (v = n) else decide (n < v)
/-- how the class has the rules -/
def cC (I : Ix) (q : Nat) (l : Li) (cd : Nat → Cd) : Prop := ∀ r, r < lRules l → wfP (cd r) 0 ∧ ∃ o : Nat, I (q + 7) r = (o : Int) ∧ I (q + 7) (r + 1) = ((o + (cd r).length : Nat) : Int) ∧ o + (cd r).length ≤ 600 ∧ ∀ j, j < (cd r).length → I (q + 8) (o + j) = ((itemOf ((cd r).getD j (0, 0, 0)) : Nat) : Int) ∧ 1 ≤ ((cd r).getD j (0, 0, 0)).1
theorem cC.fr {I J : Ix} {q : Nat} {l : Li} {cd : Nat → Cd} {lo hi : Nat} (H : cC I q l cd) (f : fr I J lo hi) (d : q + 8 < lo) : cC J q l cd := fun r hr => by
  obtain ⟨h1, o, h2, h3, h4, h5⟩ := H r hr
  exact ⟨h1, o, (f _ (by omega) _).trans h2, (f _ (by omega) _).trans h3, h4, fun j hj => ⟨(f _ (by omega) _).trans (h5 j hj).1, (h5 j hj).2⟩⟩
section CHO
variable {xs : List Int} {S : List (Nat × Nat)} {T : Nat → Nat → Nat} {cc zz s q x : Nat} {h : Hi} {l : Li} {I I' : Ix}

theorem mx_297 : mxl 297 = 2 := by decide +kernel
theorem mt_297 : mtc 297 = 99 := by decide +kernel
theorem rk_297 (as : List AV) : rkA 297 as = 0 := rfl
theorem l_297_0 : look 297 0 = some (.iload_n 0, 1, 0, 0, 0, 0) := by decide +kernel
theorem l_297_1 : look 297 1 = some (.iload_n 1, 1, 0, 0, 0, 0) := by decide +kernel
theorem l_297_2 : look 297 2 = some (.if_icmp .ge 7, 3, 0, 0, 0, 0) := by decide +kernel
theorem l_297_5 : look 297 5 = some (.iconst (-1), 1, 0, 0, 0, 0) := by decide +kernel
theorem l_297_6 : look 297 6 = some (.goto 13, 3, 0, 0, 0, 0) := by decide +kernel
theorem l_297_9 : look 297 9 = some (.iload_n 0, 1, 0, 0, 0, 0) := by decide +kernel
theorem l_297_10 : look 297 10 = some (.iload_n 1, 1, 0, 0, 0, 0) := by decide +kernel
theorem l_297_11 : look 297 11 = some (.if_icmp .ne 7, 3, 0, 0, 0, 0) := by decide +kernel
theorem l_297_14 : look 297 14 = some (.iconst 0, 1, 0, 0, 0, 0) := by decide +kernel
theorem l_297_15 : look 297 15 = some (.goto 4, 3, 0, 0, 0, 0) := by decide +kernel
theorem l_297_18 : look 297 18 = some (.iconst 1, 1, 0, 0, 0, 0) := by decide +kernel
theorem l_297_19 : look 297 19 = some (.ireturn, 1, 0, 0, 0, 0) := by decide +kernel
theorem s_297 {v w : Int} : CL xs 297 [vi v, vi w] (S, I, T, cc, zz) (FN (some (vi (cmpL v w))) (S, I, T, cc, zz)) := by
  refine CL_start (r := 0) (ls := [vi v, vi w]) (rk_297 _) rfl ?_
  refine w_iln l_297_0 rfl ?_
  refine w_iln l_297_1 rfl ?_
  refine w_cge 9 l_297_2 (by decide) (fun h1 => ?_) (fun h1 => ?_)
  · skip
    refine w_iln l_297_9 rfl ?_
    refine w_iln l_297_10 rfl ?_
    refine w_cne 18 l_297_11 (by decide) (fun h2 => ?_) (fun h2 => ?_)
    · skip
      refine w_ic l_297_18 (by decide) ?_
      refine w_ir l_297_19 (Or.inl rfl) ?_
      refine ⟨?_, rfl⟩
      unfold cmpL
      first
      | (rw [if_pos (by omega)])
      | (rw [if_neg (by omega), if_pos (by omega)])
      | (rw [if_neg (by omega), if_neg (by omega)])
    · skip
      refine w_ic l_297_14 (by decide) ?_
      refine w_go 19 l_297_15 (by decide) ?_
      refine w_ir l_297_19 (Or.inl rfl) ?_
      refine ⟨?_, rfl⟩
      unfold cmpL
      first
      | (rw [if_pos (by omega)])
      | (rw [if_neg (by omega), if_pos (by omega)])
      | (rw [if_neg (by omega), if_neg (by omega)])
  · skip
    refine w_ic l_297_5 (by decide) ?_
    refine w_go 19 l_297_6 (by decide) ?_
    refine w_ir l_297_19 (Or.inl rfl) ?_
    refine ⟨?_, rfl⟩
    unfold cmpL
    first
    | (rw [if_pos (by omega)])
    | (rw [if_neg (by omega), if_pos (by omega)])
    | (rw [if_neg (by omega), if_neg (by omega)])

theorem mx_76 : mxl 76 = 2 := by decide +kernel
theorem mt_76 : mtc 76 = 6 := by decide +kernel
theorem rk_76 (as : List AV) : rkA 76 as = 1 := rfl
theorem l_76_0 : look 76 0 = some (.iload_n 0, 1, 0, 0, 0, 0) := by decide +kernel
theorem l_76_1 : look 76 1 = some (.iload_n 1, 1, 0, 0, 0, 0) := by decide +kernel
theorem l_76_2 : look 76 2 = some (.iconst 2, 1, 0, 0, 0, 0) := by decide +kernel
theorem l_76_3 : look 76 3 = some (.ishr, 1, 0, 0, 0, 0) := by decide +kernel
theorem l_76_4 : look 76 4 = some (.invokestatic 86, 3, 297, 2, 1, 1244) := by decide +kernel
theorem l_76_7 : look 76 7 = some (.iload_n 1, 1, 0, 0, 0, 0) := by decide +kernel
theorem l_76_8 : look 76 8 = some (.iconst 3, 1, 0, 0, 0, 0) := by decide +kernel
theorem l_76_9 : look 76 9 = some (.iand, 1, 0, 0, 0, 0) := by decide +kernel
theorem l_76_10 : look 76 10 = some (.iconst 1, 1, 0, 0, 0, 0) := by decide +kernel
theorem l_76_11 : look 76 11 = some (.isub, 1, 0, 0, 0, 0) := by decide +kernel
theorem l_76_12 : look 76 12 = some (.if_icmp .ne 7, 3, 0, 0, 0, 0) := by decide +kernel
theorem l_76_15 : look 76 15 = some (.iconst 1, 1, 0, 0, 0, 0) := by decide +kernel
theorem l_76_16 : look 76 16 = some (.goto 4, 3, 0, 0, 0, 0) := by decide +kernel
theorem l_76_19 : look 76 19 = some (.iconst 0, 1, 0, 0, 0, 0) := by decide +kernel
theorem l_76_20 : look 76 20 = some (.ireturn, 1, 0, 0, 1, 0) := by decide +kernel
theorem s_76 {v m c : Nat} (hm : m ≤ 999) (hc : c = 0 ∨ c = 1 ∨ c = 2) : CL xs 76 [vi ((v : Nat) : Int), vi (((m * 4 + c) : Nat) : Int)] (S, I, T, cc, zz) (FN (some (vi (b2i (cmpB v m c)))) (S, I, T, cc, zz)) := by
  refine CL_start (r := 1) (ls := [vi ((v : Nat) : Int), vi (((m * 4 + c) : Nat) : Int)]) (rk_76 _) rfl ?_
  refine w_iln l_76_0 rfl ?_
  refine w_iln l_76_1 rfl ?_
  refine w_ic l_76_2 (by decide) ?_
  refine w_shr ((m : Nat) : Int) l_76_3 ((shr_n (k := 2) (by decide) (by omega)).trans (congrArg (fun z : Nat => (z : Int)) (show (m * 4 + c) / 2 ^ 2 = m by omega))) ?_
  refine q_st [vi ((v : Nat) : Int), vi ((m : Nat) : Int)] [] l_76_4 (by decide) rfl rfl (Nat.le_of_ble_eq_true rfl) (by rw [mx_297]; exact Nat.le_of_ble_eq_true rfl) (by rw [rk_297]; decide) (s_297) ?_
  refine w_iln l_76_7 rfl ?_
  refine w_ic l_76_8 (by decide) ?_
  refine w_and ((c : Nat) : Int) l_76_9 ((and_3 (by omega)).trans (congrArg (fun z : Nat => (z : Int)) (show (m * 4 + c) % 4 = c by omega))) ?_
  refine w_ic l_76_10 (by decide) ?_
  refine w_sub (((c : Nat) : Int) - 1) l_76_11 (by unfold wr; omega) ?_
  refine w_cne 19 l_76_12 (by decide) (fun h1 => ?_) (fun h1 => ?_)
  · skip
    refine w_ic l_76_19 (by decide) ?_
    refine w_ir l_76_20 (by decide) ?_
    have e9 : cmpB v m c = false := by
      unfold cmpB
      unfold cmpL at h1
      rcases hc with e | e | e <;> subst e
      · show decide (v < m) = _
        exact decide_eq_false (by split at h1 <;> (try split at h1) <;> omega)
      · show decide (v = m) = _
        exact decide_eq_false (by split at h1 <;> (try split at h1) <;> omega)
      · show decide (m < v) = _
        exact decide_eq_false (by split at h1 <;> (try split at h1) <;> omega)
    rw [e9]
    exact ⟨rfl, rfl⟩
  · skip
    refine w_ic l_76_15 (by decide) ?_
    refine w_go 20 l_76_16 (by decide) ?_
    refine w_ir l_76_20 (by decide) ?_
    have e9 : cmpB v m c = true := by
      unfold cmpB
      unfold cmpL at h1
      rcases hc with e | e | e <;> subst e
      · show decide (v < m) = _
        exact decide_eq_true (by split at h1 <;> (try split at h1) <;> omega)
      · show decide (v = m) = _
        exact decide_eq_true (by split at h1 <;> (try split at h1) <;> omega)
      · show decide (m < v) = _
        exact decide_eq_true (by split at h1 <;> (try split at h1) <;> omega)
    rw [e9]
    exact ⟨rfl, rfl⟩

theorem mx_74 : mxl 74 = 4 := by decide +kernel
theorem mt_74 : mtc 74 = 6 := by decide +kernel
theorem rk_74 (as : List AV) : rkA 74 as = 2 := rfl
theorem l_74_0 : look 74 0 = some (.iload_n 0, 1, 0, 0, 0, 0) := by decide +kernel
theorem l_74_1 : look 74 1 = some (.iconst 4, 1, 0, 0, 0, 0) := by decide +kernel
theorem l_74_2 : look 74 2 = some (.ishr, 1, 0, 0, 0, 0) := by decide +kernel
theorem l_74_3 : look 74 3 = some (.istore_n 3, 1, 0, 0, 0, 0) := by decide +kernel
theorem l_74_4 : look 74 4 = some (.iload_n 0, 1, 0, 0, 0, 0) := by decide +kernel
theorem l_74_5 : look 74 5 = some (.bipush 15, 2, 0, 0, 0, 0) := by decide +kernel
theorem l_74_7 : look 74 7 = some (.iand, 1, 0, 0, 0, 0) := by decide +kernel
theorem l_74_8 : look 74 8 = some (.tableswitch 95 4 8 #[36, 51, 62, 73, 84], 36, 0, 0, 0, 0) := by decide +kernel
theorem l_74_44 : look 74 44 = some (.aload_n 1, 1, 0, 0, 0, 0) := by decide +kernel
theorem l_74_45 : look 74 45 = some (.iload_n 2, 1, 0, 0, 0, 0) := by decide +kernel
theorem l_74_46 : look 74 46 = some (.invokevirtual 64, 3, 4, 2, 0, 1237) := by decide +kernel
theorem l_74_49 : look 74 49 = some (.iload_n 3, 1, 0, 0, 0, 0) := by decide +kernel
theorem l_74_50 : look 74 50 = some (.if_icmp .ne 7, 3, 0, 0, 0, 0) := by decide +kernel
theorem l_74_53 : look 74 53 = some (.iconst 1, 1, 0, 0, 0, 0) := by decide +kernel
theorem l_74_54 : look 74 54 = some (.goto 4, 3, 0, 0, 0, 0) := by decide +kernel
theorem l_74_57 : look 74 57 = some (.iconst 0, 1, 0, 0, 0, 0) := by decide +kernel
theorem l_74_58 : look 74 58 = some (.ireturn, 1, 0, 0, 1, 0) := by decide +kernel
theorem l_74_59 : look 74 59 = some (.aload_n 1, 1, 0, 0, 0, 0) := by decide +kernel
theorem l_74_60 : look 74 60 = some (.getfield 70, 3, 0, 6, 2, 521) := by decide +kernel
theorem l_74_63 : look 74 63 = some (.iload_n 2, 1, 0, 0, 0, 0) := by decide +kernel
theorem l_74_64 : look 74 64 = some (.iaload, 1, 0, 0, 0, 0) := by decide +kernel
theorem l_74_65 : look 74 65 = some (.iload_n 3, 1, 0, 0, 0, 0) := by decide +kernel
theorem l_74_66 : look 74 66 = some (.invokestatic 73, 3, 76, 2, 1, 1241) := by decide +kernel
theorem l_74_69 : look 74 69 = some (.ireturn, 1, 0, 0, 1, 0) := by decide +kernel
theorem l_74_70 : look 74 70 = some (.aload_n 1, 1, 0, 0, 0, 0) := by decide +kernel
theorem l_74_71 : look 74 71 = some (.getfield 77, 3, 0, 7, 2, 524) := by decide +kernel
theorem l_74_74 : look 74 74 = some (.iload_n 2, 1, 0, 0, 0, 0) := by decide +kernel
theorem l_74_75 : look 74 75 = some (.iaload, 1, 0, 0, 0, 0) := by decide +kernel
theorem l_74_76 : look 74 76 = some (.iload_n 3, 1, 0, 0, 0, 0) := by decide +kernel
theorem l_74_77 : look 74 77 = some (.invokestatic 73, 3, 76, 2, 1, 1241) := by decide +kernel
theorem l_74_80 : look 74 80 = some (.ireturn, 1, 0, 0, 1, 0) := by decide +kernel
theorem l_74_81 : look 74 81 = some (.aload_n 1, 1, 0, 0, 0, 0) := by decide +kernel
theorem l_74_82 : look 74 82 = some (.getfield 80, 3, 0, 8, 2, 526) := by decide +kernel
theorem l_74_85 : look 74 85 = some (.iload_n 2, 1, 0, 0, 0, 0) := by decide +kernel
theorem l_74_86 : look 74 86 = some (.iaload, 1, 0, 0, 0, 0) := by decide +kernel
theorem l_74_87 : look 74 87 = some (.iload_n 3, 1, 0, 0, 0, 0) := by decide +kernel
theorem l_74_88 : look 74 88 = some (.invokestatic 73, 3, 76, 2, 1, 1241) := by decide +kernel
theorem l_74_91 : look 74 91 = some (.ireturn, 1, 0, 0, 1, 0) := by decide +kernel
theorem l_74_92 : look 74 92 = some (.aload_n 1, 1, 0, 0, 0, 0) := by decide +kernel
theorem l_74_93 : look 74 93 = some (.getfield 83, 3, 0, 9, 2, 528) := by decide +kernel
theorem l_74_96 : look 74 96 = some (.iload_n 2, 1, 0, 0, 0, 0) := by decide +kernel
theorem l_74_97 : look 74 97 = some (.iaload, 1, 0, 0, 0, 0) := by decide +kernel
theorem l_74_98 : look 74 98 = some (.iload_n 3, 1, 0, 0, 0, 0) := by decide +kernel
theorem l_74_99 : look 74 99 = some (.invokestatic 73, 3, 76, 2, 1, 1241) := by decide +kernel
theorem l_74_102 : look 74 102 = some (.ireturn, 1, 0, 0, 1, 0) := by decide +kernel
theorem l_74_103 : look 74 103 = some (.iconst 1, 1, 0, 0, 0, 0) := by decide +kernel
theorem l_74_104 : look 74 104 = some (.ireturn, 1, 0, 0, 1, 0) := by decide +kernel
theorem s_74_3 (o : oHistory S T x) {a : Nat → Nat} {ne np k m : Nat} (H : cH I x h a ne np) (hk : k < np) (hm : m = 0) : CL xs 74 [vi (((m * 16 + 3) : Nat) : Int), vr x, vi ((k : Nat) : Int)] (S, I, T, cc, zz) (FN (some (vi (b2i true))) (S, I, T, cc, zz)) := by
  have hnp := H.2.2.1
  have hnp2 := H.2.2.2.1
  have hkk := H.2.2.2.2.2 k hk
  refine CL_start (r := 2) (ls := [vi (((m * 16 + 3) : Nat) : Int), vr x, vi ((k : Nat) : Int), vs 2]) (rk_74 _) rfl ?_
  refine w_iln l_74_0 rfl ?_
  refine w_ic l_74_1 (by decide) ?_
  refine w_shr ((m : Nat) : Int) l_74_2 ((shr_n (k := 4) (by decide) (by omega)).trans (congrArg (fun z : Nat => (z : Int)) (show (m * 16 + 3) / 2 ^ 4 = m by omega))) ?_
  refine w_isn l_74_3 ⟨Nat.le_of_ble_eq_true rfl, rfl⟩ ?_
  refine w_iln l_74_4 rfl ?_
  refine w_bp l_74_5 (by decide) ?_
  refine w_and 3 l_74_7 ((and_15 (by omega)).trans (congrArg (fun z : Nat => (z : Int)) (show (m * 16 + 3) % 16 = 3 by omega))) ?_
  refine w_swd 103 l_74_8 (by decide) (by decide) ?_
  refine w_ic l_74_103 (by decide) ?_
  refine w_ir l_74_104 (by decide) ?_
  exact ⟨rfl, rfl⟩

theorem s_74_4 (o : oHistory S T x) {a : Nat → Nat} {ne np k m : Nat} (H : cH I x h a ne np) (hk : k < np) (hm : m ≤ 999) (hp : hKind h (a k) = 0 ∧ I (x + 2) (a k) = ((hPort h (a k) : Nat) : Int)) : CL xs 74 [vi (((m * 16 + 4) : Nat) : Int), vr x, vi ((k : Nat) : Int)] (S, I, T, cc, zz) (FN (some (vi (b2i (decide (hPort h (a k) = m))))) (S, I, T, cc, zz)) := by
  have hnp := H.2.2.1
  have hnp2 := H.2.2.2.1
  have hkk := H.2.2.2.2.2 k hk
  refine CL_start (r := 2) (ls := [vi (((m * 16 + 4) : Nat) : Int), vr x, vi ((k : Nat) : Int), vs 2]) (rk_74 _) rfl ?_
  refine w_iln l_74_0 rfl ?_
  refine w_ic l_74_1 (by decide) ?_
  refine w_shr ((m : Nat) : Int) l_74_2 ((shr_n (k := 4) (by decide) (by omega)).trans (congrArg (fun z : Nat => (z : Int)) (show (m * 16 + 4) / 2 ^ 4 = m by omega))) ?_
  refine w_isn l_74_3 ⟨Nat.le_of_ble_eq_true rfl, rfl⟩ ?_
  refine w_iln l_74_4 rfl ?_
  refine w_bp l_74_5 (by decide) ?_
  refine w_and 4 l_74_7 ((and_15 (by omega)).trans (congrArg (fun z : Nat => (z : Int)) (show (m * 16 + 4) % 16 = 4 by omega))) ?_
  refine w_swi 44 l_74_8 (by decide) rfl (by decide) ?_
  refine w_aln l_74_44 rfl ?_
  refine w_iln l_74_45 rfl ?_
  refine q_iv [vi ((k : Nat) : Int)] [] l_74_46 rfl rfl (Nat.le_of_ble_eq_true rfl) (by rw [mx_4]; exact Nat.le_of_ble_eq_true rfl) (by rw [mt_4]; exact oHistory_sh o) (by rw [mt_4]; decide) (by rw [rk_4]; decide) (s_4 o (by omega) hkk.1 (by omega)) ?_
  refine w_iln l_74_49 rfl ?_
  refine w_cne 57 l_74_50 (by decide) (fun h1 => ?_) (fun h1 => ?_)
  · skip
    refine w_ic l_74_57 (by decide) ?_
    refine w_ir l_74_58 (by decide) ?_
    rw [hp.2] at h1
    rw [show decide (hPort h (a k) = m) = false from decide_eq_false (by omega)]
    exact ⟨rfl, rfl⟩
  · skip
    refine w_ic l_74_53 (by decide) ?_
    refine w_go 58 l_74_54 (by decide) ?_
    refine w_ir l_74_58 (by decide) ?_
    rw [hp.2] at h1
    rw [show decide (hPort h (a k) = m) = true from decide_eq_true (by omega)]
    exact ⟨rfl, rfl⟩

theorem s_74_5 (o : oHistory S T x) {a : Nat → Nat} {ne np k m c : Nat} (H : cH I x h a ne np) (hk : k < np) (hm : m ≤ 999) (hc : c = 0 ∨ c = 1 ∨ c = 2) : CL xs 74 [vi ((((m * 4 + c) * 16 + 5) : Nat) : Int), vr x, vi ((k : Nat) : Int)] (S, I, T, cc, zz) (FN (some (vi (b2i (cmpB (hSrc h k) m c)))) (S, I, T, cc, zz)) := by
  have hnp := H.2.2.1
  have hnp2 := H.2.2.2.1
  have hkk := H.2.2.2.2.2 k hk
  refine CL_start (r := 2) (ls := [vi ((((m * 4 + c) * 16 + 5) : Nat) : Int), vr x, vi ((k : Nat) : Int), vs 2]) (rk_74 _) rfl ?_
  refine w_iln l_74_0 rfl ?_
  refine w_ic l_74_1 (by decide) ?_
  refine w_shr (((m * 4 + c) : Nat) : Int) l_74_2 ((shr_n (k := 4) (by decide) (by omega)).trans (congrArg (fun z : Nat => (z : Int)) (show ((m * 4 + c) * 16 + 5) / 2 ^ 4 = (m * 4 + c) by omega))) ?_
  refine w_isn l_74_3 ⟨Nat.le_of_ble_eq_true rfl, rfl⟩ ?_
  refine w_iln l_74_4 rfl ?_
  refine w_bp l_74_5 (by decide) ?_
  refine w_and 5 l_74_7 ((and_15 (by omega)).trans (congrArg (fun z : Nat => (z : Int)) (show ((m * 4 + c) * 16 + 5) % 16 = 5 by omega))) ?_
  refine w_swi 59 l_74_8 (by decide) rfl (by decide) ?_
  refine w_aln l_74_59 rfl ?_
  refine w_gr l_74_60 (oHistory_sh o) (oHistory_r6 o) ?_
  refine w_iln l_74_63 rfl ?_
  refine w_ia k (((hSrc h k) : Nat) : Int) l_74_64 (oHistory_s6 o) rfl (by omega) hkk.2.2.1 ?_
  refine w_iln l_74_65 rfl ?_
  refine q_st [vi (((hSrc h k) : Nat) : Int), vi (((m * 4 + c) : Nat) : Int)] [] l_74_66 (by decide) rfl rfl (Nat.le_of_ble_eq_true rfl) (by rw [mx_76]; exact Nat.le_of_ble_eq_true rfl) (by rw [rk_76]; decide) (s_76 hm hc) ?_
  refine w_ir l_74_69 (Or.inr (Or.inl ⟨rfl, (b2i_r _).1, (b2i_r _).2⟩)) ?_
  exact ⟨rfl, rfl⟩

theorem s_74_6 (o : oHistory S T x) {a : Nat → Nat} {ne np k m c : Nat} (H : cH I x h a ne np) (hk : k < np) (hm : m ≤ 999) (hc : c = 0 ∨ c = 1 ∨ c = 2) : CL xs 74 [vi ((((m * 4 + c) * 16 + 6) : Nat) : Int), vr x, vi ((k : Nat) : Int)] (S, I, T, cc, zz) (FN (some (vi (b2i (cmpB (hTgt h k) m c)))) (S, I, T, cc, zz)) := by
  have hnp := H.2.2.1
  have hnp2 := H.2.2.2.1
  have hkk := H.2.2.2.2.2 k hk
  refine CL_start (r := 2) (ls := [vi ((((m * 4 + c) * 16 + 6) : Nat) : Int), vr x, vi ((k : Nat) : Int), vs 2]) (rk_74 _) rfl ?_
  refine w_iln l_74_0 rfl ?_
  refine w_ic l_74_1 (by decide) ?_
  refine w_shr (((m * 4 + c) : Nat) : Int) l_74_2 ((shr_n (k := 4) (by decide) (by omega)).trans (congrArg (fun z : Nat => (z : Int)) (show ((m * 4 + c) * 16 + 6) / 2 ^ 4 = (m * 4 + c) by omega))) ?_
  refine w_isn l_74_3 ⟨Nat.le_of_ble_eq_true rfl, rfl⟩ ?_
  refine w_iln l_74_4 rfl ?_
  refine w_bp l_74_5 (by decide) ?_
  refine w_and 6 l_74_7 ((and_15 (by omega)).trans (congrArg (fun z : Nat => (z : Int)) (show ((m * 4 + c) * 16 + 6) % 16 = 6 by omega))) ?_
  refine w_swi 70 l_74_8 (by decide) rfl (by decide) ?_
  refine w_aln l_74_70 rfl ?_
  refine w_gr l_74_71 (oHistory_sh o) (oHistory_r7 o) ?_
  refine w_iln l_74_74 rfl ?_
  refine w_ia k (((hTgt h k) : Nat) : Int) l_74_75 (oHistory_s7 o) rfl (by omega) hkk.2.2.2.1 ?_
  refine w_iln l_74_76 rfl ?_
  refine q_st [vi (((hTgt h k) : Nat) : Int), vi (((m * 4 + c) : Nat) : Int)] [] l_74_77 (by decide) rfl rfl (Nat.le_of_ble_eq_true rfl) (by rw [mx_76]; exact Nat.le_of_ble_eq_true rfl) (by rw [rk_76]; decide) (s_76 hm hc) ?_
  refine w_ir l_74_80 (Or.inr (Or.inl ⟨rfl, (b2i_r _).1, (b2i_r _).2⟩)) ?_
  exact ⟨rfl, rfl⟩

theorem s_74_7 (o : oHistory S T x) {a : Nat → Nat} {ne np k m c : Nat} (H : cH I x h a ne np) (hk : k < np) (hm : m ≤ 999) (hc : c = 0 ∨ c = 1 ∨ c = 2) : CL xs 74 [vi ((((m * 4 + c) * 16 + 7) : Nat) : Int), vr x, vi ((k : Nat) : Int)] (S, I, T, cc, zz) (FN (some (vi (b2i (cmpB (hSiz h k) m c)))) (S, I, T, cc, zz)) := by
  have hnp := H.2.2.1
  have hnp2 := H.2.2.2.1
  have hkk := H.2.2.2.2.2 k hk
  refine CL_start (r := 2) (ls := [vi ((((m * 4 + c) * 16 + 7) : Nat) : Int), vr x, vi ((k : Nat) : Int), vs 2]) (rk_74 _) rfl ?_
  refine w_iln l_74_0 rfl ?_
  refine w_ic l_74_1 (by decide) ?_
  refine w_shr (((m * 4 + c) : Nat) : Int) l_74_2 ((shr_n (k := 4) (by decide) (by omega)).trans (congrArg (fun z : Nat => (z : Int)) (show ((m * 4 + c) * 16 + 7) / 2 ^ 4 = (m * 4 + c) by omega))) ?_
  refine w_isn l_74_3 ⟨Nat.le_of_ble_eq_true rfl, rfl⟩ ?_
  refine w_iln l_74_4 rfl ?_
  refine w_bp l_74_5 (by decide) ?_
  refine w_and 7 l_74_7 ((and_15 (by omega)).trans (congrArg (fun z : Nat => (z : Int)) (show ((m * 4 + c) * 16 + 7) % 16 = 7 by omega))) ?_
  refine w_swi 81 l_74_8 (by decide) rfl (by decide) ?_
  refine w_aln l_74_81 rfl ?_
  refine w_gr l_74_82 (oHistory_sh o) (oHistory_r8 o) ?_
  refine w_iln l_74_85 rfl ?_
  refine w_ia k (((hSiz h k) : Nat) : Int) l_74_86 (oHistory_s8 o) rfl (by omega) hkk.2.2.2.2.1 ?_
  refine w_iln l_74_87 rfl ?_
  refine q_st [vi (((hSiz h k) : Nat) : Int), vi (((m * 4 + c) : Nat) : Int)] [] l_74_88 (by decide) rfl rfl (Nat.le_of_ble_eq_true rfl) (by rw [mx_76]; exact Nat.le_of_ble_eq_true rfl) (by rw [rk_76]; decide) (s_76 hm hc) ?_
  refine w_ir l_74_91 (Or.inr (Or.inl ⟨rfl, (b2i_r _).1, (b2i_r _).2⟩)) ?_
  exact ⟨rfl, rfl⟩

theorem s_74_8 (o : oHistory S T x) {a : Nat → Nat} {ne np k m c : Nat} (H : cH I x h a ne np) (hk : k < np) (hm : m ≤ 999) (hc : c = 0 ∨ c = 1 ∨ c = 2) : CL xs 74 [vi ((((m * 4 + c) * 16 + 8) : Nat) : Int), vr x, vi ((k : Nat) : Int)] (S, I, T, cc, zz) (FN (some (vi (b2i (cmpB (hRnk h k) m c)))) (S, I, T, cc, zz)) := by
  have hnp := H.2.2.1
  have hnp2 := H.2.2.2.1
  have hkk := H.2.2.2.2.2 k hk
  refine CL_start (r := 2) (ls := [vi ((((m * 4 + c) * 16 + 8) : Nat) : Int), vr x, vi ((k : Nat) : Int), vs 2]) (rk_74 _) rfl ?_
  refine w_iln l_74_0 rfl ?_
  refine w_ic l_74_1 (by decide) ?_
  refine w_shr (((m * 4 + c) : Nat) : Int) l_74_2 ((shr_n (k := 4) (by decide) (by omega)).trans (congrArg (fun z : Nat => (z : Int)) (show ((m * 4 + c) * 16 + 8) / 2 ^ 4 = (m * 4 + c) by omega))) ?_
  refine w_isn l_74_3 ⟨Nat.le_of_ble_eq_true rfl, rfl⟩ ?_
  refine w_iln l_74_4 rfl ?_
  refine w_bp l_74_5 (by decide) ?_
  refine w_and 8 l_74_7 ((and_15 (by omega)).trans (congrArg (fun z : Nat => (z : Int)) (show ((m * 4 + c) * 16 + 8) % 16 = 8 by omega))) ?_
  refine w_swi 92 l_74_8 (by decide) rfl (by decide) ?_
  refine w_aln l_74_92 rfl ?_
  refine w_gr l_74_93 (oHistory_sh o) (oHistory_r9 o) ?_
  refine w_iln l_74_96 rfl ?_
  refine w_ia k (((hRnk h k) : Nat) : Int) l_74_97 (oHistory_s9 o) rfl (by omega) hkk.2.2.2.2.2 ?_
  refine w_iln l_74_98 rfl ?_
  refine q_st [vi (((hRnk h k) : Nat) : Int), vi (((m * 4 + c) : Nat) : Int)] [] l_74_99 (by decide) rfl rfl (Nat.le_of_ble_eq_true rfl) (by rw [mx_76]; exact Nat.le_of_ble_eq_true rfl) (by rw [rk_76]; decide) (s_76 hm hc) ?_
  refine w_ir l_74_102 (Or.inr (Or.inl ⟨rfl, (b2i_r _).1, (b2i_r _).2⟩)) ?_
  exact ⟨rfl, rfl⟩

theorem tell_cmp {h : Hi} {a : Nat → Nat} {k : Nat} {c : Nat × Nat × Nat} (h1 : 1 ≤ c.1 ∧ c.1 ≤ 3) : tellP h a k c = cmpB (factOf h k c.2.2) c.2.1 (c.1 - 1) := by
  unfold tellP cmpB
  rcases (show c.1 = 1 ∨ c.1 = 2 ∨ c.1 = 3 by omega) with e | e | e <;> rw [e] <;> rfl
theorem s_74 (o : oHistory S T x) {a : Nat → Nat} {ne np k : Nat} (H : cH I x h a ne np) (hk : k < np) (hp : hKind h (a k) = 0 ∧ I (x + 2) (a k) = ((hPort h (a k) : Nat) : Int)) {c : Nat × Nat × Nat} (h1 : 1 ≤ c.1 ∧ c.1 ≤ 5) (h2 : c.2.1 ≤ 999) (h3 : c.2.2 ≤ 3) : CL xs 74 [vi ((itemOf c : Nat) : Int), vr x, vi ((k : Nat) : Int)] (S, I, T, cc, zz) (FN (some (vi (b2i (tellP h a k c)))) (S, I, T, cc, zz)) := by
  rcases (show c.1 = 5 ∨ c.1 = 4 ∨ (1 ≤ c.1 ∧ c.1 ≤ 3) by omega) with e | e | e
  · have g := s_74_3 (xs := xs) (cc := cc) (zz := zz) o H hk (m := 0) rfl
    have e1 : itemOf c = 0 * 16 + 3 := by unfold itemOf; rw [e]; rfl
    have e2 : tellP h a k c = true := by unfold tellP; rw [e]; rfl
    rw [e1, e2]
    exact g
  · have g := s_74_4 (xs := xs) (cc := cc) (zz := zz) o H hk (m := c.2.1) h2 hp
    have e1 : itemOf c = c.2.1 * 16 + 4 := by unfold itemOf; rw [e]; rfl
    have e2 : tellP h a k c = decide (hPort h (a k) = c.2.1) := by unfold tellP; rw [e]; rfl
    rw [e1, e2]
    exact g
  · rw [tell_cmp e]
    have hc : c.1 - 1 = 0 ∨ c.1 - 1 = 1 ∨ c.1 - 1 = 2 := by omega
    have e1 : itemOf c = (c.2.1 * 4 + (c.1 - 1)) * 16 + (5 + c.2.2) := by
      unfold itemOf
      rw [if_neg (by omega), if_neg (by omega), if_neg (by omega), if_neg (by omega), if_neg (by omega)]
    rw [e1]
    rcases (show c.2.2 = 0 ∨ c.2.2 = 1 ∨ c.2.2 = 2 ∨ c.2.2 = 3 by omega) with e3 | e3 | e3 | e3 <;> rw [e3]
    · exact s_74_5 o H hk h2 hc
    · exact s_74_6 o H hk h2 hc
    · exact s_74_7 o H hk h2 hc
    · exact s_74_8 o H hk h2 hc

theorem mx_73 : mxl 73 = 6 := by decide +kernel
theorem mt_73 : mtc 73 = 6 := by decide +kernel
theorem rk_73 (as : List AV) : rkA 73 as = 3 := rfl
theorem l_73_0 : look 73 0 = some (.iconst 0, 1, 0, 0, 0, 0) := by decide +kernel
theorem l_73_1 : look 73 1 = some (.istore 4, 2, 0, 0, 0, 0) := by decide +kernel
theorem l_73_3 : look 73 3 = some (.aload_n 0, 1, 0, 0, 0, 0) := by decide +kernel
theorem l_73_4 : look 73 4 = some (.getfield 22, 3, 6, 3, 2, 445) := by decide +kernel
theorem l_73_7 : look 73 7 = some (.iload_n 1, 1, 0, 0, 0, 0) := by decide +kernel
theorem l_73_8 : look 73 8 = some (.iaload, 1, 0, 0, 0, 0) := by decide +kernel
theorem l_73_9 : look 73 9 = some (.istore 5, 2, 0, 0, 0, 0) := by decide +kernel
theorem l_73_11 : look 73 11 = some (.iload 5, 2, 0, 0, 0, 0) := by decide +kernel
theorem l_73_13 : look 73 13 = some (.aload_n 0, 1, 0, 0, 0, 0) := by decide +kernel
theorem l_73_14 : look 73 14 = some (.getfield 22, 3, 6, 3, 2, 445) := by decide +kernel
theorem l_73_17 : look 73 17 = some (.iload_n 1, 1, 0, 0, 0, 0) := by decide +kernel
theorem l_73_18 : look 73 18 = some (.iconst 1, 1, 0, 0, 0, 0) := by decide +kernel
theorem l_73_19 : look 73 19 = some (.iadd, 1, 0, 0, 0, 0) := by decide +kernel
theorem l_73_20 : look 73 20 = some (.iaload, 1, 0, 0, 0, 0) := by decide +kernel
theorem l_73_21 : look 73 21 = some (.if_icmp .ge 110, 3, 0, 0, 0, 0) := by decide +kernel
theorem l_73_24 : look 73 24 = some (.aload_n 0, 1, 0, 0, 0, 0) := by decide +kernel
theorem l_73_25 : look 73 25 = some (.getfield 25, 3, 6, 4, 2, 446) := by decide +kernel
theorem l_73_28 : look 73 28 = some (.iload 5, 2, 0, 0, 0, 0) := by decide +kernel
theorem l_73_30 : look 73 30 = some (.iaload, 1, 0, 0, 0, 0) := by decide +kernel
theorem l_73_31 : look 73 31 = some (.bipush 15, 2, 0, 0, 0, 0) := by decide +kernel
theorem l_73_33 : look 73 33 = some (.iand, 1, 0, 0, 0, 0) := by decide +kernel
theorem l_73_34 : look 73 34 = some (.tableswitch 64 0 2 #[26, 35, 50], 26, 0, 0, 0, 0) := by decide +kernel
theorem l_73_60 : look 73 60 = some (.iload 4, 2, 0, 0, 0, 0) := by decide +kernel
theorem l_73_62 : look 73 62 = some (.iconst 1, 1, 0, 0, 0, 0) := by decide +kernel
theorem l_73_63 : look 73 63 = some (.ixor, 1, 0, 0, 0, 0) := by decide +kernel
theorem l_73_64 : look 73 64 = some (.istore 4, 2, 0, 0, 0, 0) := by decide +kernel
theorem l_73_66 : look 73 66 = some (.goto 59, 3, 0, 0, 0, 0) := by decide +kernel
theorem l_73_69 : look 73 69 = some (.iload 4, 2, 0, 0, 0, 0) := by decide +kernel
theorem l_73_71 : look 73 71 = some (.iconst 1, 1, 0, 0, 0, 0) := by decide +kernel
theorem l_73_72 : look 73 72 = some (.iushr, 1, 0, 0, 0, 0) := by decide +kernel
theorem l_73_73 : look 73 73 = some (.iload 4, 2, 0, 0, 0, 0) := by decide +kernel
theorem l_73_75 : look 73 75 = some (.bipush (-2), 2, 0, 0, 0, 0) := by decide +kernel
theorem l_73_77 : look 73 77 = some (.ior, 1, 0, 0, 0, 0) := by decide +kernel
theorem l_73_78 : look 73 78 = some (.iand, 1, 0, 0, 0, 0) := by decide +kernel
theorem l_73_79 : look 73 79 = some (.istore 4, 2, 0, 0, 0, 0) := by decide +kernel
theorem l_73_81 : look 73 81 = some (.goto 44, 3, 0, 0, 0, 0) := by decide +kernel
theorem l_73_84 : look 73 84 = some (.iload 4, 2, 0, 0, 0, 0) := by decide +kernel
theorem l_73_86 : look 73 86 = some (.iconst 1, 1, 0, 0, 0, 0) := by decide +kernel
theorem l_73_87 : look 73 87 = some (.iushr, 1, 0, 0, 0, 0) := by decide +kernel
theorem l_73_88 : look 73 88 = some (.iload 4, 2, 0, 0, 0, 0) := by decide +kernel
theorem l_73_90 : look 73 90 = some (.iconst 1, 1, 0, 0, 0, 0) := by decide +kernel
theorem l_73_91 : look 73 91 = some (.iand, 1, 0, 0, 0, 0) := by decide +kernel
theorem l_73_92 : look 73 92 = some (.ior, 1, 0, 0, 0, 0) := by decide +kernel
theorem l_73_93 : look 73 93 = some (.istore 4, 2, 0, 0, 0, 0) := by decide +kernel
theorem l_73_95 : look 73 95 = some (.goto 30, 3, 0, 0, 0, 0) := by decide +kernel
theorem l_73_98 : look 73 98 = some (.iload 4, 2, 0, 0, 0, 0) := by decide +kernel
theorem l_73_100 : look 73 100 = some (.iconst 1, 1, 0, 0, 0, 0) := by decide +kernel
theorem l_73_101 : look 73 101 = some (.ishl, 1, 0, 0, 0, 0) := by decide +kernel
theorem l_73_102 : look 73 102 = some (.aload_n 0, 1, 0, 0, 0, 0) := by decide +kernel
theorem l_73_103 : look 73 103 = some (.getfield 25, 3, 6, 4, 2, 446) := by decide +kernel
theorem l_73_106 : look 73 106 = some (.iload 5, 2, 0, 0, 0, 0) := by decide +kernel
theorem l_73_108 : look 73 108 = some (.iaload, 1, 0, 0, 0, 0) := by decide +kernel
theorem l_73_109 : look 73 109 = some (.aload_n 2, 1, 0, 0, 0, 0) := by decide +kernel
theorem l_73_110 : look 73 110 = some (.iload_n 3, 1, 0, 0, 0, 0) := by decide +kernel
theorem l_73_111 : look 73 111 = some (.invokestatic 61, 3, 74, 3, 1, 1234) := by decide +kernel
theorem l_73_114 : look 73 114 = some (.ifCond .eq 7, 3, 0, 0, 0, 0) := by decide +kernel
theorem l_73_117 : look 73 117 = some (.iconst 1, 1, 0, 0, 0, 0) := by decide +kernel
theorem l_73_118 : look 73 118 = some (.goto 4, 3, 0, 0, 0, 0) := by decide +kernel
theorem l_73_121 : look 73 121 = some (.iconst 0, 1, 0, 0, 0, 0) := by decide +kernel
theorem l_73_122 : look 73 122 = some (.ior, 1, 0, 0, 0, 0) := by decide +kernel
theorem l_73_123 : look 73 123 = some (.istore 4, 2, 0, 0, 0, 0) := by decide +kernel
theorem l_73_125 : look 73 125 = some (.iinc 5 1, 3, 0, 0, 0, 0) := by decide +kernel
theorem l_73_128 : look 73 128 = some (.goto (-117), 3, 0, 0, 0, 0) := by decide +kernel
theorem l_73_131 : look 73 131 = some (.iload 4, 2, 0, 0, 0, 0) := by decide +kernel
theorem l_73_133 : look 73 133 = some (.iconst 1, 1, 0, 0, 0, 0) := by decide +kernel
theorem l_73_134 : look 73 134 = some (.iand, 1, 0, 0, 0, 0) := by decide +kernel
theorem l_73_135 : look 73 135 = some (.ifCond .eq 7, 3, 0, 0, 0, 0) := by decide +kernel
theorem l_73_138 : look 73 138 = some (.iconst 1, 1, 0, 0, 0, 0) := by decide +kernel
theorem l_73_139 : look 73 139 = some (.goto 4, 3, 0, 0, 0, 0) := by decide +kernel
theorem l_73_142 : look 73 142 = some (.iconst 0, 1, 0, 0, 0, 0) := by decide +kernel
theorem l_73_143 : look 73 143 = some (.ireturn, 1, 0, 0, 1, 0) := by decide +kernel
theorem lp_73 (os : oSetup S T q) (oh : oHistory S T x) {a : Nat → Nat} {ne np k r o9 n9 : Nat} (H : cH I x h a ne np) (hk : k < np) (hp : hKind h (a k) = 0 ∧ I (x + 2) (a k) = ((hPort h (a k) : Nat) : Int)) (hr : r < 8) (hfi : I (q + 7) r = ((o9 : Nat) : Int)) (hfi1 : I (q + 7) (r + 1) = (((o9 + n9) : Nat) : Int)) (hbd : o9 + n9 ≤ 600) : ∀ (cs : Cd) (j : Nat) (st : List Bool), (∀ i, i < cs.length → I (q + 8) (o9 + j + i) = ((itemOf (cs.getD i (0, 0, 0)) : Nat) : Int) ∧ 1 ≤ (cs.getD i (0, 0, 0)).1) → (st.length ≤ 31 ∧ wfP cs st.length) → j + cs.length = n9 →
    WP xs 73 3 11 [vr q, vi ((r : Nat) : Int), vr x, vi ((k : Nat) : Int), vi (((tN st) : Nat) : Int), vi (((o9 + j) : Nat) : Int)] [] (S, I, T, cc, zz) (FN (some (vi (b2i ((evalP h a k cs st).headD false)))) (S, I, T, cc, zz)) := by
  intro cs
  induction cs with
  | nil =>
    intro j st hit hw hlen
    obtain ⟨hn31, hw⟩ := hw
    simp only [List.length_nil] at hlen
    have hw1 : st.length = 1 := hw
    obtain ⟨b, rfl⟩ : ∃ b, st = [b] := by
      cases st with
      | nil => exact absurd hw1 (by decide)
      | cons b r9 =>
        cases r9 with
        | nil => exact ⟨b, rfl⟩
        | cons c9 r8 => exact absurd hw1 (by simp)
    refine w_il l_73_11 rfl ?_
    refine w_aln l_73_13 rfl ?_
    refine w_gr l_73_14 (oSetup_sh os) (oSetup_r3 os) ?_
    refine w_iln l_73_17 rfl ?_
    refine w_ic l_73_18 (by decide) ?_
    refine w_add ((r + 1 : Nat) : Int) l_73_19 (by unfold wr; omega) ?_
    refine w_ia (r + 1) (((o9 + n9) : Nat) : Int) l_73_20 (oSetup_s3 os) rfl (by omega) hfi1 ?_
    refine w_cge 131 l_73_21 (by decide) (fun _ => ?_) (fun hx => absurd hx (by omega))
    refine w_il l_73_131 rfl ?_
    refine w_ic l_73_133 (by decide) ?_
    refine w_and (b2i b) l_73_134 ((and1 _).trans (by cases b <;> rfl)) ?_
    refine w_zeq 142 l_73_135 (by decide) (fun h1 => ?_) (fun h1 => ?_)
    · skip
      refine w_ic l_73_142 (by decide) ?_
      refine w_ir l_73_143 (by decide) ?_
      rw [show b = false from b2i_0.mp h1]
      exact ⟨rfl, rfl⟩
    · skip
      refine w_ic l_73_138 (by decide) ?_
      refine w_go 143 l_73_139 (by decide) ?_
      refine w_ir l_73_143 (by decide) ?_
      cases b
      · exact absurd rfl h1
      · exact ⟨rfl, rfl⟩
  | cons c cs ih =>
    intro j st hit hw hlen
    obtain ⟨hn31, hw⟩ := hw
    have hi0 : I (q + 8) (o9 + j) = ((itemOf c : Nat) : Int) := (hit 0 (by simp)).1
    have hc1 : 1 ≤ c.1 := (hit 0 (by simp)).2
    have hit2 : ∀ i, i < cs.length → I (q + 8) (o9 + (j + 1) + i) = ((itemOf (cs.getD i (0, 0, 0)) : Nat) : Int) ∧ 1 ≤ (cs.getD i (0, 0, 0)).1 := fun i hi => by
      have g := hit (i + 1) (by simp only [List.length_cons]; omega)
      rw [show o9 + j + (i + 1) = o9 + (j + 1) + i by omega] at g
      exact g
    simp only [List.length_cons] at hlen
    unfold wfP at hw
    have hst9 := tN_31 hn31
    by_cases e : c.1 = 6
    · rw [if_pos e] at hw
      have hi6 : itemOf c = 0 := by unfold itemOf; rw [if_pos e]
      have hib : itemOf c < 2147483648 := by omega
      have hkd : itemOf c % 16 = 0 := by omega
      cases st with
      | nil => exact absurd hw.1 (by simp)
      | cons b r9 =>
        have hw : (b :: r9).length ≤ 31 ∧ wfP cs (b :: r9).length := ⟨hn31, hw.2⟩
        refine w_il l_73_11 rfl ?_
        refine w_aln l_73_13 rfl ?_
        refine w_gr l_73_14 (oSetup_sh os) (oSetup_r3 os) ?_
        refine w_iln l_73_17 rfl ?_
        refine w_ic l_73_18 (by decide) ?_
        refine w_add ((r + 1 : Nat) : Int) l_73_19 (by unfold wr; omega) ?_
        refine w_ia (r + 1) (((o9 + n9) : Nat) : Int) l_73_20 (oSetup_s3 os) rfl (by omega) hfi1 ?_
        refine w_cge 131 l_73_21 (by decide) (fun hx => absurd hx (by omega)) (fun _ => ?_)
        refine w_aln l_73_24 rfl ?_
        refine w_gr l_73_25 (oSetup_sh os) (oSetup_r4 os) ?_
        refine w_il l_73_28 rfl ?_
        refine w_ia (o9 + j) (((itemOf c) : Nat) : Int) l_73_30 (oSetup_s4 os) rfl (by omega) hi0 ?_
        refine w_bp l_73_31 (by decide) ?_
        refine w_and 0 l_73_33 ((and_15 hib).trans (congrArg (fun z : Nat => (z : Int)) hkd)) ?_
        refine w_swi 60 l_73_34 (by decide) rfl (by decide) ?_
        refine w_il l_73_60 rfl ?_
        refine w_ic l_73_62 (by decide) ?_
        refine w_xor (((tN ((!b) :: r9)) : Nat) : Int) l_73_63 ((xor_1 (tN_31 hn31)).trans (congrArg (fun z : Nat => (z : Int)) (tN_not b r9))) ?_
        refine w_is l_73_64 ⟨Nat.le_of_ble_eq_true rfl, rfl⟩ ?_
        refine w_go 125 l_73_66 (by decide) ?_
        refine w_inc (((o9 + j) + 1 : Nat) : Int) l_73_125 rfl rfl (by unfold wr; omega) ?_
        refine w_go 11 l_73_128 (by decide) ?_
        have e8 : stepP h a k c (b :: r9) = (!b) :: r9 := by
          unfold stepP
          rw [if_pos e]
        rw [show evalP h a k (c :: cs) (b :: r9) = evalP h a k cs ((!b) :: r9) from congrArg (evalP h a k cs) e8]
        exact ih (j + 1) ((!b) :: r9) hit2 (by simp only [List.length_cons] at hw ⊢; exact hw) (by omega)
    rw [if_neg e] at hw
    by_cases e7 : c.1 = 7
    · rw [if_pos (Or.inl e7)] at hw
      have e := e7
      have hi6 : itemOf c = 1 := by unfold itemOf; rw [if_neg (by omega), if_pos e7]
      have hib : itemOf c < 2147483648 := by omega
      have hkd : itemOf c % 16 = 1 := by omega
      cases st with
      | nil => exact absurd hw.1 (by simp)
      | cons b r9 =>
        cases r9 with
        | nil => exact absurd hw.1 (by simp)
        | cons b' r9 =>
          have hw : r9.length + 1 ≤ 31 ∧ wfP cs (r9.length + 1) := ⟨by simp only [List.length_cons] at hn31; omega, by simpa using hw.2⟩
          refine w_il l_73_11 rfl ?_
          refine w_aln l_73_13 rfl ?_
          refine w_gr l_73_14 (oSetup_sh os) (oSetup_r3 os) ?_
          refine w_iln l_73_17 rfl ?_
          refine w_ic l_73_18 (by decide) ?_
          refine w_add ((r + 1 : Nat) : Int) l_73_19 (by unfold wr; omega) ?_
          refine w_ia (r + 1) (((o9 + n9) : Nat) : Int) l_73_20 (oSetup_s3 os) rfl (by omega) hfi1 ?_
          refine w_cge 131 l_73_21 (by decide) (fun hx => absurd hx (by omega)) (fun _ => ?_)
          refine w_aln l_73_24 rfl ?_
          refine w_gr l_73_25 (oSetup_sh os) (oSetup_r4 os) ?_
          refine w_il l_73_28 rfl ?_
          refine w_ia (o9 + j) (((itemOf c) : Nat) : Int) l_73_30 (oSetup_s4 os) rfl (by omega) hi0 ?_
          refine w_bp l_73_31 (by decide) ?_
          refine w_and 1 l_73_33 ((and_15 hib).trans (congrArg (fun z : Nat => (z : Int)) hkd)) ?_
          refine w_swi 69 l_73_34 (by decide) rfl (by decide) ?_
          refine w_il l_73_69 rfl ?_
          refine w_ic l_73_71 (by decide) ?_
          refine w_ushr (((tN (b' :: r9)) : Nat) : Int) l_73_72 ((ushr_n (k := 1) (by decide) (tN_31 (by simp only [List.length_cons] at hn31 ⊢; omega))).trans (congrArg (fun z : Nat => (z : Int)) (by show (2 * tN (b' :: r9) + b2n b) / 2 ^ 1 = _; have : b2n b ≤ 1 := (by cases b <;> decide); omega))) ?_
          refine w_il l_73_73 rfl ?_
          refine w_bp l_73_75 (by decide) ?_
          refine w_or (if tN (b :: b' :: r9) % 2 = 0 then -2 else -1 : Int) l_73_77 (or_m2 _) ?_
          refine w_and (((tN ((b' && b) :: r9)) : Nat) : Int) l_73_78 (by
              have hlt : tN (b' :: r9) < 2147483648 := tN_31 (by simp only [List.length_cons] at hn31 ⊢; omega)
              cases b with
              | true =>
                rw [if_neg (show ¬ (tN (true :: b' :: r9) % 2 = 0) by show ¬ ((2 * tN (b' :: r9) + 1) % 2 = 0); omega), and_m1 hlt, Bool.and_true]
              | false =>
                rw [if_pos (show tN (false :: b' :: r9) % 2 = 0 by show (2 * tN (b' :: r9) + 0) % 2 = 0; omega), and_m2 hlt, Bool.and_false]
                congr 1
                show (2 * tN r9 + b2n b') / 2 * 2 = 2 * tN r9 + 0
                have : b2n b' ≤ 1 := by cases b' <;> decide
                omega) ?_
          refine w_is l_73_79 ⟨Nat.le_of_ble_eq_true rfl, rfl⟩ ?_
          refine w_go 125 l_73_81 (by decide) ?_
          refine w_inc (((o9 + j) + 1 : Nat) : Int) l_73_125 rfl rfl (by unfold wr; omega) ?_
          refine w_go 11 l_73_128 (by decide) ?_
          have e8 : stepP h a k c (b :: b' :: r9) = (b' && b) :: r9 := by
            unfold stepP
            rw [if_neg (by omega), if_pos e]
          rw [show evalP h a k (c :: cs) (b :: b' :: r9) = evalP h a k cs ((b' && b) :: r9) from congrArg (evalP h a k cs) e8]
          exact ih (j + 1) ((b' && b) :: r9) hit2 (by simp only [List.length_cons] at hw ⊢; exact hw) (by omega)
    by_cases e8 : c.1 = 8
    · rw [if_pos (Or.inr e8)] at hw
      have e := e8
      have hi6 : itemOf c = 2 := by unfold itemOf; rw [if_neg (by omega), if_neg (by omega), if_pos e8]
      have hib : itemOf c < 2147483648 := by omega
      have hkd : itemOf c % 16 = 2 := by omega
      cases st with
      | nil => exact absurd hw.1 (by simp)
      | cons b r9 =>
        cases r9 with
        | nil => exact absurd hw.1 (by simp)
        | cons b' r9 =>
          have hw : r9.length + 1 ≤ 31 ∧ wfP cs (r9.length + 1) := ⟨by simp only [List.length_cons] at hn31; omega, by simpa using hw.2⟩
          refine w_il l_73_11 rfl ?_
          refine w_aln l_73_13 rfl ?_
          refine w_gr l_73_14 (oSetup_sh os) (oSetup_r3 os) ?_
          refine w_iln l_73_17 rfl ?_
          refine w_ic l_73_18 (by decide) ?_
          refine w_add ((r + 1 : Nat) : Int) l_73_19 (by unfold wr; omega) ?_
          refine w_ia (r + 1) (((o9 + n9) : Nat) : Int) l_73_20 (oSetup_s3 os) rfl (by omega) hfi1 ?_
          refine w_cge 131 l_73_21 (by decide) (fun hx => absurd hx (by omega)) (fun _ => ?_)
          refine w_aln l_73_24 rfl ?_
          refine w_gr l_73_25 (oSetup_sh os) (oSetup_r4 os) ?_
          refine w_il l_73_28 rfl ?_
          refine w_ia (o9 + j) (((itemOf c) : Nat) : Int) l_73_30 (oSetup_s4 os) rfl (by omega) hi0 ?_
          refine w_bp l_73_31 (by decide) ?_
          refine w_and 2 l_73_33 ((and_15 hib).trans (congrArg (fun z : Nat => (z : Int)) hkd)) ?_
          refine w_swi 84 l_73_34 (by decide) rfl (by decide) ?_
          refine w_il l_73_84 rfl ?_
          refine w_ic l_73_86 (by decide) ?_
          refine w_ushr (((tN (b' :: r9)) : Nat) : Int) l_73_87 ((ushr_n (k := 1) (by decide) (tN_31 (by simp only [List.length_cons] at hn31 ⊢; omega))).trans (congrArg (fun z : Nat => (z : Int)) (by show (2 * tN (b' :: r9) + b2n b) / 2 ^ 1 = _; have : b2n b ≤ 1 := (by cases b <;> decide); omega))) ?_
          refine w_il l_73_88 rfl ?_
          refine w_ic l_73_90 (by decide) ?_
          refine w_and (((b2n b) : Nat) : Int) l_73_91 ((and1 _).trans (by have g9 := tN_mod b (b' :: r9); omega)) ?_
          refine w_or (((tN ((b' || b) :: r9)) : Nat) : Int) l_73_92 (by
              have hlt : tN (b' :: r9) < 1073741824 := tN_30 (by simp only [List.length_cons] at hn31 ⊢; omega)
              cases b with
              | true =>
                show a2 _ ((tN (b' :: r9) : Nat) : Int) 1 = _
                rw [or_1 (by omega), Bool.or_true]
                congr 1
                show (2 * tN r9 + b2n b') / 2 * 2 + 1 = 2 * tN r9 + 1
                have : b2n b' ≤ 1 := by cases b' <;> decide
                omega
              | false =>
                show a2 _ ((tN (b' :: r9) : Nat) : Int) 0 = _
                rw [or_0 (by omega), Bool.or_false]) ?_
          refine w_is l_73_93 ⟨Nat.le_of_ble_eq_true rfl, rfl⟩ ?_
          refine w_go 125 l_73_95 (by decide) ?_
          refine w_inc (((o9 + j) + 1 : Nat) : Int) l_73_125 rfl rfl (by unfold wr; omega) ?_
          refine w_go 11 l_73_128 (by decide) ?_
          have e8 : stepP h a k c (b :: b' :: r9) = (b' || b) :: r9 := by
            unfold stepP
            rw [if_neg (by omega), if_neg (by omega), if_pos e]
          rw [show evalP h a k (c :: cs) (b :: b' :: r9) = evalP h a k cs ((b' || b) :: r9) from congrArg (evalP h a k cs) e8]
          exact ih (j + 1) ((b' || b) :: r9) hit2 (by simp only [List.length_cons] at hw ⊢; exact hw) (by omega)
    rw [if_neg (by omega)] at hw
    have hkb : itemOf c < 2147483648 ∧ 2 < itemOf c % 16 := by
      unfold itemOf
      rw [if_neg e, if_neg e7, if_neg e8]
      split
      · exact ⟨by decide, by decide⟩
      · split <;> omega
    have hib := hkb.1
    have hkd := hkb.2
    have ht30 := tN_30 (st := st) (by omega)
    have hw9 := hw
    have hw : c.1 ≤ 5 ∧ c.2.1 ≤ 999 ∧ c.2.2 ≤ 3 ∧ (st.length + 1 ≤ 31 ∧ wfP cs (st.length + 1)) := ⟨hw9.1, hw9.2.1, hw9.2.2.1, by omega, hw9.2.2.2.2⟩
    refine w_il l_73_11 rfl ?_
    refine w_aln l_73_13 rfl ?_
    refine w_gr l_73_14 (oSetup_sh os) (oSetup_r3 os) ?_
    refine w_iln l_73_17 rfl ?_
    refine w_ic l_73_18 (by decide) ?_
    refine w_add ((r + 1 : Nat) : Int) l_73_19 (by unfold wr; omega) ?_
    refine w_ia (r + 1) (((o9 + n9) : Nat) : Int) l_73_20 (oSetup_s3 os) rfl (by omega) hfi1 ?_
    refine w_cge 131 l_73_21 (by decide) (fun hx => absurd hx (by omega)) (fun _ => ?_)
    refine w_aln l_73_24 rfl ?_
    refine w_gr l_73_25 (oSetup_sh os) (oSetup_r4 os) ?_
    refine w_il l_73_28 rfl ?_
    refine w_ia (o9 + j) (((itemOf c) : Nat) : Int) l_73_30 (oSetup_s4 os) rfl (by omega) hi0 ?_
    refine w_bp l_73_31 (by decide) ?_
    refine w_and (((itemOf c % 16) : Nat) : Int) l_73_33 (and_15 hib) ?_
    refine w_swd 98 l_73_34 (by omega) (by decide) ?_
    refine w_il l_73_98 rfl ?_
    refine w_ic l_73_100 (by decide) ?_
    refine w_shl (((tN st * 2 ^ 1) : Nat) : Int) l_73_101 (shl_n (k := 1) (by decide) (by omega)) ?_
    refine w_aln l_73_102 rfl ?_
    refine w_gr l_73_103 (oSetup_sh os) (oSetup_r4 os) ?_
    refine w_il l_73_106 rfl ?_
    refine w_ia (o9 + j) (((itemOf c) : Nat) : Int) l_73_108 (oSetup_s4 os) rfl (by omega) hi0 ?_
    refine w_aln l_73_109 rfl ?_
    refine w_iln l_73_110 rfl ?_
    refine q_st [vi (((itemOf c) : Nat) : Int), vr x, vi ((k : Nat) : Int)] [vi (((tN st * 2 ^ 1) : Nat) : Int)] l_73_111 (by decide) rfl rfl (Nat.le_of_ble_eq_true rfl) (by rw [mx_74]; exact Nat.le_of_ble_eq_true rfl) (by rw [rk_74]; decide) (s_74 oh H hk hp ⟨hc1, by omega⟩ hw.2.1 hw.2.2.1) ?_
    refine w_beq 121 l_73_114 (by decide) (fun h1 => ?_) (fun h1 => ?_)
    · skip
      refine w_ic l_73_121 (by decide) ?_
      refine w_or (((tN (false :: st)) : Nat) : Int) l_73_122 ((or_0 (by omega)).trans (congrArg (fun z : Nat => (z : Int)) (show tN st * 2 ^ 1 = 2 * tN st + 0 by omega))) ?_
      refine w_is l_73_123 ⟨Nat.le_of_ble_eq_true rfl, rfl⟩ ?_
      refine w_inc (((o9 + j) + 1 : Nat) : Int) l_73_125 rfl rfl (by unfold wr; omega) ?_
      refine w_go 11 l_73_128 (by decide) ?_
      have e8 : stepP h a k c st = false :: st := by
        unfold stepP
        rw [if_neg (by omega), if_neg (by omega), if_neg (by omega), h1]
      rw [show evalP h a k (c :: cs) st = evalP h a k cs (false :: st) from congrArg (evalP h a k cs) e8]
      exact ih (j + 1) (false :: st) hit2 (by simp only [List.length_cons] at hw ⊢; exact hw.2.2.2) (by omega)
    · skip
      refine w_ic l_73_117 (by decide) ?_
      refine w_go 122 l_73_118 (by decide) ?_
      refine w_or (((tN (true :: st)) : Nat) : Int) l_73_122 ((or_1 (by omega)).trans (congrArg (fun z : Nat => (z : Int)) (show tN st * 2 ^ 1 / 2 * 2 + 1 = 2 * tN st + 1 by omega))) ?_
      refine w_is l_73_123 ⟨Nat.le_of_ble_eq_true rfl, rfl⟩ ?_
      refine w_inc (((o9 + j) + 1 : Nat) : Int) l_73_125 rfl rfl (by unfold wr; omega) ?_
      refine w_go 11 l_73_128 (by decide) ?_
      have e8 : stepP h a k c st = true :: st := by
        unfold stepP
        rw [if_neg (by omega), if_neg (by omega), if_neg (by omega), h1]
      rw [show evalP h a k (c :: cs) st = evalP h a k cs (true :: st) from congrArg (evalP h a k cs) e8]
      exact ih (j + 1) (true :: st) hit2 (by simp only [List.length_cons] at hw ⊢; exact hw.2.2.2) (by omega)
theorem s_73 (os : oSetup S T q) (oh : oHistory S T x) {a : Nat → Nat} {cd : Nat → Cd} {ne np k r : Nat} (H : cH I x h a ne np) (hk : k < np) (hp : hKind h (a k) = 0 ∧ I (x + 2) (a k) = ((hPort h (a k) : Nat) : Int)) (hr : r < lRules l) (hr8 : r < 8) (C : cC I q l cd) : CL xs 73 [vr q, vi ((r : Nat) : Int), vr x, vi ((k : Nat) : Int)] (S, I, T, cc, zz) (FN (some (vi (b2i (hHold h a k (cd r))))) (S, I, T, cc, zz)) := by
  obtain ⟨hw, o9, hfi, hfi1, hbd, hit⟩ := C r hr
  have hn9 : ∃ n9, (cd r).length = n9 := ⟨_, rfl⟩
  obtain ⟨n9, hn9⟩ := hn9
  rw [hn9] at hfi1 hbd
  refine CL_start (r := 3) (ls := [vr q, vi ((r : Nat) : Int), vr x, vi ((k : Nat) : Int), vs 2, vs 2]) (rk_73 _) rfl ?_
  refine w_ic l_73_0 (by decide) ?_
  refine w_is l_73_1 ⟨Nat.le_of_ble_eq_true rfl, rfl⟩ ?_
  refine w_aln l_73_3 rfl ?_
  refine w_gr l_73_4 (oSetup_sh os) (oSetup_r3 os) ?_
  refine w_iln l_73_7 rfl ?_
  refine w_ia r ((o9 : Nat) : Int) l_73_8 (oSetup_s3 os) rfl (by omega) hfi ?_
  refine w_is l_73_9 ⟨Nat.le_of_ble_eq_true rfl, rfl⟩ ?_
  exact lp_73 os oh H hk hp hr8 hfi hfi1 hbd (cd r) 0 [] (fun i hi => by rw [Nat.add_zero]; exact hit i hi) ⟨by decide, hw⟩ (by omega)

theorem mx_72 : mxl 72 = 5 := by decide +kernel
theorem mt_72 : mtc 72 = 6 := by decide +kernel
theorem rk_72 (as : List AV) : rkA 72 as = 4 := rfl
theorem l_72_0 : look 72 0 = some (.iconst 0, 1, 0, 0, 0, 0) := by decide +kernel
theorem l_72_1 : look 72 1 = some (.istore_n 3, 1, 0, 0, 0, 0) := by decide +kernel
theorem l_72_2 : look 72 2 = some (.iconst 0, 1, 0, 0, 0, 0) := by decide +kernel
theorem l_72_3 : look 72 3 = some (.istore 4, 2, 0, 0, 0, 0) := by decide +kernel
theorem l_72_5 : look 72 5 = some (.iload 4, 2, 0, 0, 0, 0) := by decide +kernel
theorem l_72_7 : look 72 7 = some (.aload_n 0, 1, 0, 0, 0, 0) := by decide +kernel
theorem l_72_8 : look 72 8 = some (.getfield 32, 3, 6, 2, 0, 442) := by decide +kernel
theorem l_72_11 : look 72 11 = some (.if_icmp .ge 27, 3, 0, 0, 0, 0) := by decide +kernel
theorem l_72_14 : look 72 14 = some (.aload_n 0, 1, 0, 0, 0, 0) := by decide +kernel
theorem l_72_15 : look 72 15 = some (.iload 4, 2, 0, 0, 0, 0) := by decide +kernel
theorem l_72_17 : look 72 17 = some (.aload_n 1, 1, 0, 0, 0, 0) := by decide +kernel
theorem l_72_18 : look 72 18 = some (.iload_n 2, 1, 0, 0, 0, 0) := by decide +kernel
theorem l_72_19 : look 72 19 = some (.invokevirtual 57, 3, 73, 4, 0, 1230) := by decide +kernel
theorem l_72_22 : look 72 22 = some (.ifCond .eq 10, 3, 0, 0, 0, 0) := by decide +kernel
theorem l_72_25 : look 72 25 = some (.iload_n 3, 1, 0, 0, 0, 0) := by decide +kernel
theorem l_72_26 : look 72 26 = some (.iconst 1, 1, 0, 0, 0, 0) := by decide +kernel
theorem l_72_27 : look 72 27 = some (.iload 4, 2, 0, 0, 0, 0) := by decide +kernel
theorem l_72_29 : look 72 29 = some (.ishl, 1, 0, 0, 0, 0) := by decide +kernel
theorem l_72_30 : look 72 30 = some (.ior, 1, 0, 0, 0, 0) := by decide +kernel
theorem l_72_31 : look 72 31 = some (.istore_n 3, 1, 0, 0, 0, 0) := by decide +kernel
theorem l_72_32 : look 72 32 = some (.iinc 4 1, 3, 0, 0, 0, 0) := by decide +kernel
theorem l_72_35 : look 72 35 = some (.goto (-30), 3, 0, 0, 0, 0) := by decide +kernel
theorem l_72_38 : look 72 38 = some (.iload_n 3, 1, 0, 0, 0, 0) := by decide +kernel
theorem l_72_39 : look 72 39 = some (.ireturn, 1, 0, 0, 0, 0) := by decide +kernel
theorem lp_72 (os : oSetup S T q) (oh : oHistory S T x) {a : Nat → Nat} {cd : Nat → Cd} {ne np k : Nat} (H : cH I x h a ne np) (hk : k < np) (hp : hKind h (a k) = 0 ∧ I (x + 2) (a k) = ((hPort h (a k) : Nat) : Int)) (h2 : I q 2 = ((lRules l : Nat) : Int)) (hr8 : lRules l ≤ 8) (C : cC I q l cd) : ∀ d r, r + d = lRules l → WP xs 72 4 5 [vr q, vr x, vi ((k : Nat) : Int), vi (((wbits (fun r => hHold h a k (cd r)) r) : Nat) : Int), vi ((r : Nat) : Int)] [] (S, I, T, cc, zz) (FN (some (vi ((wbits (fun r => hHold h a k (cd r)) (lRules l) : Nat) : Int))) (S, I, T, cc, zz)) := by
  intro d
  induction d with
  | zero =>
    intro r he
    refine w_il l_72_5 rfl ?_
    refine w_aln l_72_7 rfl ?_
    refine w_gi (((lRules l) : Nat) : Int) l_72_8 (oSetup_sh os) h2 ?_
    refine w_cge 38 l_72_11 (by decide) (fun _ => ?_) (fun hx => absurd hx (by omega))
    refine w_iln l_72_38 rfl ?_
    refine w_ir l_72_39 (Or.inl rfl) ?_
    have e9 : r = lRules l := by omega
    rw [e9]
    exact ⟨rfl, rfl⟩
  | succ d ih =>
    intro r he
    refine w_il l_72_5 rfl ?_
    refine w_aln l_72_7 rfl ?_
    refine w_gi (((lRules l) : Nat) : Int) l_72_8 (oSetup_sh os) h2 ?_
    refine w_cge 38 l_72_11 (by decide) (fun hx => absurd hx (by omega)) (fun _ => ?_)
    refine w_aln l_72_14 rfl ?_
    refine w_il l_72_15 rfl ?_
    refine w_aln l_72_17 rfl ?_
    refine w_iln l_72_18 rfl ?_
    refine q_iv [vi ((r : Nat) : Int), vr x, vi ((k : Nat) : Int)] [] l_72_19 rfl rfl (Nat.le_of_ble_eq_true rfl) (by rw [mx_73]; exact Nat.le_of_ble_eq_true rfl) (by rw [mt_73]; exact oSetup_sh os) (by rw [mt_73]; decide) (by rw [rk_73]; decide) (s_73 os oh H hk hp (by omega) (by omega) C) ?_
    refine w_beq 32 l_72_22 (by decide) (fun h1 => ?_) (fun h1 => ?_)
    · skip
      refine w_inc ((r + 1 : Nat) : Int) l_72_32 rfl rfl (by unfold wr; omega) ?_
      refine w_go 5 l_72_35 (by decide) ?_
      have e9 := ih (r + 1) (by omega)
      rw [wbits_f (way := (fun r => hHold h a k (cd r))) h1] at e9
      exact e9
    · skip
      refine w_iln l_72_25 rfl ?_
      refine w_ic l_72_26 (by decide) ?_
      refine w_il l_72_27 rfl ?_
      refine w_shl (((2 ^ r) : Nat) : Int) l_72_29 (shl1 r (by omega)) ?_
      refine w_or ((((wbits (fun r => hHold h a k (cd r)) r) + 2 ^ r) : Nat) : Int) l_72_30 (or8 r (by omega) _ (wbits_lt _ r)) ?_
      refine w_isn l_72_31 ⟨Nat.le_of_ble_eq_true rfl, rfl⟩ ?_
      refine w_inc ((r + 1 : Nat) : Int) l_72_32 rfl rfl (by unfold wr; omega) ?_
      refine w_go 5 l_72_35 (by decide) ?_
      have e9 := ih (r + 1) (by omega)
      rw [wbits_t (way := (fun r => hHold h a k (cd r))) h1] at e9
      exact e9
theorem s_72 (os : oSetup S T q) (oh : oHistory S T x) {a : Nat → Nat} {cd : Nat → Cd} {ne np k : Nat} (H : cH I x h a ne np) (hk : k < np) (hp : hKind h (a k) = 0 ∧ I (x + 2) (a k) = ((hPort h (a k) : Nat) : Int)) (h2 : I q 2 = ((lRules l : Nat) : Int)) (hr8 : lRules l ≤ 8) (C : cC I q l cd) : CL xs 72 [vr q, vr x, vi ((k : Nat) : Int)] (S, I, T, cc, zz) (FN (some (vi ((wbits (fun r => hHold h a k (cd r)) (lRules l) : Nat) : Int))) (S, I, T, cc, zz)) := by
  refine CL_start (r := 4) (ls := [vr q, vr x, vi ((k : Nat) : Int), vs 2, vs 2]) (rk_72 _) rfl ?_
  refine w_ic l_72_0 (by decide) ?_
  refine w_isn l_72_1 ⟨Nat.le_of_ble_eq_true rfl, rfl⟩ ?_
  refine w_ic l_72_2 (by decide) ?_
  refine w_is l_72_3 ⟨Nat.le_of_ble_eq_true rfl, rfl⟩ ?_
  exact lp_72 os oh H hk hp h2 hr8 C (lRules l) 0 (Nat.zero_add _)

end CHO
