/-! the class: a packet arrives -/
def arriveC (h : Hi) (l : Li) (e p k : Nat) (r : Ra) : Ra × Nat :=
  match validA l (setTab r.1 (hSrc h k) (some (p, sTime r.1))) (hTgt h k) with
  | some w => if w = p then refA e k 4 (-1) (setTab r.1 (hSrc h k) (some (p, sTime r.1)), r.2) else putsA h l e k (fun o => o == w) (lPorts l) (setTab r.1 (hSrc h k) (some (p, sTime r.1)), r.2)
  | none => if (List.range (lPorts l)).all (fun o => o == p || !sUp (setTab r.1 (hSrc h k) (some (p, sTime r.1))) o) then refA e k 5 (-1) (setTab r.1 (hSrc h k) (some (p, sTime r.1)), r.2)
    else putsA h l e k (fun o => o != p && sUp (setTab r.1 (hSrc h k) (some (p, sTime r.1))) o) (lPorts l) (setTab r.1 (hSrc h k) (some (p, sTime r.1)), r.2)
def arriveB (h : Hi) (l : Li) (e p k : Nat) (r : Ra) : Ra × Nat := match policeA l r.1 p (hSiz h k) with
  | none => refA e k 3 (-1) r
  | some s1 => arriveC h l e p k (s1, r.2)
theorem arrive_dn {h : Hi} {l : Li} {e p k : Nat} {r : Ra} (hu : sUp r.1 p = false) : arriveA h l e p k r = refA e k 1 (-1) r := by
  unfold arriveA; rw [if_pos hu]
theorem arrive_n {h : Hi} {l : Li} {e p k : Nat} {r : Ra} (hu : sUp r.1 p = true) (hr : ruleA h l k = none) : arriveA h l e p k r = arriveB h l e p k r := by
  unfold arriveA arriveB; rw [if_neg (by rw [hu]; decide), hr]; rfl
theorem arrive_s {h : Hi} {l : Li} {e p k x : Nat} {r : Ra} (hu : sUp r.1 p = true) (hr : ruleA h l k = some x) (hd : lDrop l x = false) : arriveA h l e p k r = arriveB h l e p k r := by
  unfold arriveA arriveB; rw [if_neg (by rw [hu]; decide), hr]; simp only; rw [if_neg (by rw [hd]; decide)]; rfl
theorem arrive_d {h : Hi} {l : Li} {e p k x : Nat} {r : Ra} (hu : sUp r.1 p = true) (hr : ruleA h l k = some x) (hd : lDrop l x = true) : arriveA h l e p k r = refA e k 2 x r := by
  unfold arriveA; rw [if_neg (by rw [hu]; decide), hr]; simp only; rw [if_pos hd]
theorem puts_t {h : Hi} {l : Li} {e k n : Nat} {way : Nat → Bool} {r : Ra} (hw : way n = true) : putsA h l e k way (n + 1) r = ((putA h l e k n (putsA h l e k way n r).1).1, (putsA h l e k way n r).2 + (putA h l e k n (putsA h l e k way n r).1).2) := by
  rw [putsA]; exact if_pos hw
theorem puts_f {h : Hi} {l : Li} {e k n : Nat} {way : Nat → Bool} {r : Ra} (hw : way n = false) : putsA h l e k way (n + 1) r = putsA h l e k way n r := by
  rw [putsA]; exact if_neg (by rw [hw]; decide)
theorem putA_le {h : Hi} {l : Li} {e k p : Nat} {r : Ra} : (putA h l e k p r).2 ≤ 1 := by
  unfold putA
  split
  · exact Nat.zero_le _
  · split
    · exact Nat.zero_le _
    · exact Nat.le_refl _
theorem puts_le {h : Hi} {l : Li} {e k : Nat} {way : Nat → Bool} {r : Ra} : ∀ n, (putsA h l e k way n r).2 ≤ n
  | 0 => Nat.le_refl _
  | n + 1 => by
    have h1 := puts_le (h := h) (l := l) (e := e) (k := k) (way := way) (r := r) n
    have h2 := putA_le (h := h) (l := l) (e := e) (k := k) (p := n) (r := (putsA h l e k way n r).1)
    cases hw : way n
    · rw [puts_f hw]; omega
    · rw [puts_t hw]
      show _ + _ ≤ n + 1
      omega
theorem ways_mono {way : Nat → Bool} {q : Nat} : ∀ n, q ≤ n → ways way q ≤ ways way n
  | 0, h => by rw [Nat.le_zero.mp h]; exact Nat.le_refl _
  | n + 1, h => by
    by_cases hq : q = n + 1
    · rw [hq]; exact Nat.le_refl _
    · have h1 := ways_mono (way := way) (q := q) n (by omega)
      show _ ≤ ways way n + _
      omega
theorem bt_pow : ∀ w : Nat, w < 4 → ∀ q : Nat, q < 4 → (bt (2 ^ w) q ≠ 0 ↔ (q == w) = true) := by decide +kernel
theorem all_w {A : Sa} {p n : Nat} : (List.range n).all (fun o => o == p || !sUp A o) = decide (wbits (fun o => o != p && sUp A o) n = 0) := by
  have h1 := wbits_0 (way := fun o => o != p && sUp A o) n
  by_cases h2 : wbits (fun o => o != p && sUp A o) n = 0
  · rw [decide_eq_true h2, List.all_eq_true]
    intro q hq
    have h3 := h1.mp h2 q (List.mem_range.mp hq)
    cases h4 : sUp A q
    · simp
    · rw [h4] at h3
      simp at h3 ⊢
      exact h3
  · rw [decide_eq_false h2]
    cases h5 : (List.range n).all (fun o => o == p || !sUp A o)
    · rfl
    · refine absurd (h1.mpr fun q hq => ?_) h2
      rw [List.all_eq_true] at h5
      have h3 := h5 q (List.mem_range.mpr hq)
      cases h4 : sUp A q
      · simp
      · rw [h4] at h3
        simp at h3 ⊢
        exact h3
section DON
variable {xs : List Int} {S : List (Nat × Nat)} {T : Nat → Nat → Nat} {cc zz s x : Nat} {h : Hi} {l : Li} {r : Ra} {I I' : Ix}

theorem mx_52 : mxl 52 = 7 := by decide +kernel
theorem mt_52 : mtc 52 = 5 := by decide +kernel
theorem rk_52 (as : List AV) : rkA 52 as = 3 := rfl
theorem l_52_0 : look 52 0 = some (.aload_n 0, 1, 0, 0, 0, 0) := by decide +kernel
theorem l_52_1 : look 52 1 = some (.getfield 21, 3, 5, 1, 2, 636) := by decide +kernel
theorem l_52_4 : look 52 4 = some (.iload_n 2, 1, 0, 0, 0, 0) := by decide +kernel
theorem l_52_5 : look 52 5 = some (.invokevirtual 83, 3, 80, 2, 0, 1259) := by decide +kernel
theorem l_52_8 : look 52 8 = some (.ifCond .ne 11, 3, 0, 0, 0, 0) := by decide +kernel
theorem l_52_11 : look 52 11 = some (.aload_n 0, 1, 0, 0, 0, 0) := by decide +kernel
theorem l_52_12 : look 52 12 = some (.iload_n 1, 1, 0, 0, 0, 0) := by decide +kernel
theorem l_52_13 : look 52 13 = some (.iconst 1, 1, 0, 0, 0, 0) := by decide +kernel
theorem l_52_14 : look 52 14 = some (.iconst (-1), 1, 0, 0, 0, 0) := by decide +kernel
theorem l_52_15 : look 52 15 = some (.invokevirtual 87, 3, 53, 4, 0, 1263) := by decide +kernel
theorem l_52_18 : look 52 18 = some (.ireturn, 1, 0, 0, 0, 0) := by decide +kernel
theorem l_52_19 : look 52 19 = some (.aload_n 0, 1, 0, 0, 0, 0) := by decide +kernel
theorem l_52_20 : look 52 20 = some (.iload_n 1, 1, 0, 0, 0, 0) := by decide +kernel
theorem l_52_21 : look 52 21 = some (.invokevirtual 91, 3, 54, 2, 0, 1275) := by decide +kernel
theorem l_52_24 : look 52 24 = some (.istore_n 3, 1, 0, 0, 0, 0) := by decide +kernel
theorem l_52_25 : look 52 25 = some (.iload_n 3, 1, 0, 0, 0, 0) := by decide +kernel
theorem l_52_26 : look 52 26 = some (.iconst (-1), 1, 0, 0, 0, 0) := by decide +kernel
theorem l_52_27 : look 52 27 = some (.if_icmp .eq 22, 3, 0, 0, 0, 0) := by decide +kernel
theorem l_52_30 : look 52 30 = some (.aload_n 0, 1, 0, 0, 0, 0) := by decide +kernel
theorem l_52_31 : look 52 31 = some (.getfield 12, 3, 5, 0, 2, 634) := by decide +kernel
theorem l_52_34 : look 52 34 = some (.iload_n 3, 1, 0, 0, 0, 0) := by decide +kernel
theorem l_52_35 : look 52 35 = some (.invokevirtual 94, 3, 11, 2, 0, 1279) := by decide +kernel
theorem l_52_38 : look 52 38 = some (.ifCond .eq 11, 3, 0, 0, 0, 0) := by decide +kernel
theorem l_52_41 : look 52 41 = some (.aload_n 0, 1, 0, 0, 0, 0) := by decide +kernel
theorem l_52_42 : look 52 42 = some (.iload_n 1, 1, 0, 0, 0, 0) := by decide +kernel
theorem l_52_43 : look 52 43 = some (.iconst 2, 1, 0, 0, 0, 0) := by decide +kernel
theorem l_52_44 : look 52 44 = some (.iload_n 3, 1, 0, 0, 0, 0) := by decide +kernel
theorem l_52_45 : look 52 45 = some (.invokevirtual 87, 3, 53, 4, 0, 1263) := by decide +kernel
theorem l_52_48 : look 52 48 = some (.ireturn, 1, 0, 0, 0, 0) := by decide +kernel
theorem l_52_49 : look 52 49 = some (.aload_n 0, 1, 0, 0, 0, 0) := by decide +kernel
theorem l_52_50 : look 52 50 = some (.getfield 12, 3, 5, 0, 2, 634) := by decide +kernel
theorem l_52_53 : look 52 53 = some (.iload_n 2, 1, 0, 0, 0, 0) := by decide +kernel
theorem l_52_54 : look 52 54 = some (.invokevirtual 97, 3, 10, 2, 0, 1283) := by decide +kernel
theorem l_52_57 : look 52 57 = some (.ifCond .eq 30, 3, 0, 0, 0, 0) := by decide +kernel
theorem l_52_60 : look 52 60 = some (.aload_n 0, 1, 0, 0, 0, 0) := by decide +kernel
theorem l_52_61 : look 52 61 = some (.getfield 21, 3, 5, 1, 2, 636) := by decide +kernel
theorem l_52_64 : look 52 64 = some (.iload_n 2, 1, 0, 0, 0, 0) := by decide +kernel
theorem l_52_65 : look 52 65 = some (.aload_n 0, 1, 0, 0, 0, 0) := by decide +kernel
theorem l_52_66 : look 52 66 = some (.getfield 32, 3, 5, 3, 2, 640) := by decide +kernel
theorem l_52_69 : look 52 69 = some (.iload_n 1, 1, 0, 0, 0, 0) := by decide +kernel
theorem l_52_70 : look 52 70 = some (.invokevirtual 100, 3, 5, 2, 0, 1287) := by decide +kernel
theorem l_52_73 : look 52 73 = some (.invokevirtual 103, 3, 82, 3, 0, 1291) := by decide +kernel
theorem l_52_76 : look 52 76 = some (.ifCond .ne 11, 3, 0, 0, 0, 0) := by decide +kernel
theorem l_52_79 : look 52 79 = some (.aload_n 0, 1, 0, 0, 0, 0) := by decide +kernel
theorem l_52_80 : look 52 80 = some (.iload_n 1, 1, 0, 0, 0, 0) := by decide +kernel
theorem l_52_81 : look 52 81 = some (.iconst 3, 1, 0, 0, 0, 0) := by decide +kernel
theorem l_52_82 : look 52 82 = some (.iconst (-1), 1, 0, 0, 0, 0) := by decide +kernel
theorem l_52_83 : look 52 83 = some (.invokevirtual 87, 3, 53, 4, 0, 1263) := by decide +kernel
theorem l_52_86 : look 52 86 = some (.ireturn, 1, 0, 0, 0, 0) := by decide +kernel
theorem l_52_87 : look 52 87 = some (.aload_n 0, 1, 0, 0, 0, 0) := by decide +kernel
theorem l_52_88 : look 52 88 = some (.getfield 21, 3, 5, 1, 2, 636) := by decide +kernel
theorem l_52_91 : look 52 91 = some (.aload_n 0, 1, 0, 0, 0, 0) := by decide +kernel
theorem l_52_92 : look 52 92 = some (.getfield 32, 3, 5, 3, 2, 640) := by decide +kernel
theorem l_52_95 : look 52 95 = some (.getfield 107, 3, 0, 6, 2, 520) := by decide +kernel
theorem l_52_98 : look 52 98 = some (.iload_n 1, 1, 0, 0, 0, 0) := by decide +kernel
theorem l_52_99 : look 52 99 = some (.iaload, 1, 0, 0, 0, 0) := by decide +kernel
theorem l_52_100 : look 52 100 = some (.iload_n 2, 1, 0, 0, 0, 0) := by decide +kernel
theorem l_52_101 : look 52 101 = some (.invokevirtual 110, 3, 88, 3, 0, 1295) := by decide +kernel
theorem l_52_104 : look 52 104 = some (.aload_n 0, 1, 0, 0, 0, 0) := by decide +kernel
theorem l_52_105 : look 52 105 = some (.iload_n 1, 1, 0, 0, 0, 0) := by decide +kernel
theorem l_52_106 : look 52 106 = some (.iload_n 2, 1, 0, 0, 0, 0) := by decide +kernel
theorem l_52_107 : look 52 107 = some (.invokevirtual 114, 3, 55, 3, 0, 1299) := by decide +kernel
theorem l_52_110 : look 52 110 = some (.istore 4, 2, 0, 0, 0, 0) := by decide +kernel
theorem l_52_112 : look 52 112 = some (.iload 4, 2, 0, 0, 0, 0) := by decide +kernel
theorem l_52_114 : look 52 114 = some (.iconst 1, 1, 0, 0, 0, 0) := by decide +kernel
theorem l_52_115 : look 52 115 = some (.iload_n 2, 1, 0, 0, 0, 0) := by decide +kernel
theorem l_52_116 : look 52 116 = some (.ishl, 1, 0, 0, 0, 0) := by decide +kernel
theorem l_52_117 : look 52 117 = some (.if_icmp .ne 11, 3, 0, 0, 0, 0) := by decide +kernel
theorem l_52_120 : look 52 120 = some (.aload_n 0, 1, 0, 0, 0, 0) := by decide +kernel
theorem l_52_121 : look 52 121 = some (.iload_n 1, 1, 0, 0, 0, 0) := by decide +kernel
theorem l_52_122 : look 52 122 = some (.iconst 4, 1, 0, 0, 0, 0) := by decide +kernel
theorem l_52_123 : look 52 123 = some (.iconst (-1), 1, 0, 0, 0, 0) := by decide +kernel
theorem l_52_124 : look 52 124 = some (.invokevirtual 87, 3, 53, 4, 0, 1263) := by decide +kernel
theorem l_52_127 : look 52 127 = some (.ireturn, 1, 0, 0, 0, 0) := by decide +kernel
theorem l_52_128 : look 52 128 = some (.iload 4, 2, 0, 0, 0, 0) := by decide +kernel
theorem l_52_130 : look 52 130 = some (.ifCond .ne 11, 3, 0, 0, 0, 0) := by decide +kernel
theorem l_52_133 : look 52 133 = some (.aload_n 0, 1, 0, 0, 0, 0) := by decide +kernel
theorem l_52_134 : look 52 134 = some (.iload_n 1, 1, 0, 0, 0, 0) := by decide +kernel
theorem l_52_135 : look 52 135 = some (.iconst 5, 1, 0, 0, 0, 0) := by decide +kernel
theorem l_52_136 : look 52 136 = some (.iconst (-1), 1, 0, 0, 0, 0) := by decide +kernel
theorem l_52_137 : look 52 137 = some (.invokevirtual 87, 3, 53, 4, 0, 1263) := by decide +kernel
theorem l_52_140 : look 52 140 = some (.ireturn, 1, 0, 0, 0, 0) := by decide +kernel
theorem l_52_141 : look 52 141 = some (.iconst 0, 1, 0, 0, 0, 0) := by decide +kernel
theorem l_52_142 : look 52 142 = some (.istore 5, 2, 0, 0, 0, 0) := by decide +kernel
theorem l_52_144 : look 52 144 = some (.iconst 0, 1, 0, 0, 0, 0) := by decide +kernel
theorem l_52_145 : look 52 145 = some (.istore 6, 2, 0, 0, 0, 0) := by decide +kernel
theorem l_52_147 : look 52 147 = some (.iload 6, 2, 0, 0, 0, 0) := by decide +kernel
theorem l_52_149 : look 52 149 = some (.aload_n 0, 1, 0, 0, 0, 0) := by decide +kernel
theorem l_52_150 : look 52 150 = some (.getfield 12, 3, 5, 0, 2, 634) := by decide +kernel
theorem l_52_153 : look 52 153 = some (.getfield 117, 3, 1, 0, 0, 378) := by decide +kernel
theorem l_52_156 : look 52 156 = some (.if_icmp .ge 31, 3, 0, 0, 0, 0) := by decide +kernel
theorem l_52_159 : look 52 159 = some (.iload 4, 2, 0, 0, 0, 0) := by decide +kernel
theorem l_52_161 : look 52 161 = some (.iload 6, 2, 0, 0, 0, 0) := by decide +kernel
theorem l_52_163 : look 52 163 = some (.ishr, 1, 0, 0, 0, 0) := by decide +kernel
theorem l_52_164 : look 52 164 = some (.iconst 1, 1, 0, 0, 0, 0) := by decide +kernel
theorem l_52_165 : look 52 165 = some (.iand, 1, 0, 0, 0, 0) := by decide +kernel
theorem l_52_166 : look 52 166 = some (.ifCond .eq 15, 3, 0, 0, 0, 0) := by decide +kernel
theorem l_52_169 : look 52 169 = some (.iload 5, 2, 0, 0, 0, 0) := by decide +kernel
theorem l_52_171 : look 52 171 = some (.aload_n 0, 1, 0, 0, 0, 0) := by decide +kernel
theorem l_52_172 : look 52 172 = some (.iload_n 1, 1, 0, 0, 0, 0) := by decide +kernel
theorem l_52_173 : look 52 173 = some (.iload 6, 2, 0, 0, 0, 0) := by decide +kernel
theorem l_52_175 : look 52 175 = some (.invokevirtual 120, 3, 56, 3, 0, 1307) := by decide +kernel
theorem l_52_178 : look 52 178 = some (.iadd, 1, 0, 0, 0, 0) := by decide +kernel
theorem l_52_179 : look 52 179 = some (.istore 5, 2, 0, 0, 0, 0) := by decide +kernel
theorem l_52_181 : look 52 181 = some (.iinc 6 1, 3, 0, 0, 0, 0) := by decide +kernel
theorem l_52_184 : look 52 184 = some (.goto (-37), 3, 0, 0, 0, 0) := by decide +kernel
theorem l_52_187 : look 52 187 = some (.iload 5, 2, 0, 0, 0, 0) := by decide +kernel
theorem l_52_189 : look 52 189 = some (.ireturn, 1, 0, 0, 0, 0) := by decide +kernel
theorem lp_52c {I0 : Ix} (o : oRun S T s x) {e ne np : Nat} {a : Nat → Nat} {k p u wv : Nat} {way : Nat → Bool} {v3 : Int} (E : CE I0 s x e h l a ne np) (hok0 : okR h l np u r) (hk : k < np) (hw16 : wv < 16) (hwb : ∀ q, q < lPorts l → (bt wv q ≠ 0 ↔ way q = true)) (hu : u + ways way (lPorts l) ≤ 360) : ∀ d q I, q + d = lPorts l → cR I s h l (putsA h l e k way q r).1 → fr I0 I (s + 6) (s + 17) →
    WP xs 52 3 147 [vr s, vi ((k : Nat) : Int), vi ((p : Nat) : Int), vi v3, vi ((wv : Nat) : Int), vi (((putsA h l e k way q r).2 : Nat) : Int), vi ((q : Nat) : Int)] [] (S, I, T, cc, zz) (RP S T cc zz (fun v I' => v = some (vi (((putsA h l e k way (lPorts l) r).2 : Nat) : Int)) ∧ cR I' s h l (putsA h l e k way (lPorts l) r).1 ∧ fr I0 I' (s + 6) (s + 17))) := by
  intro d
  have hl4 := E.okl.1
  induction d with
  | zero =>
    intro q I hq hR f
    refine w_il l_52_147 rfl ?_
    refine w_aln l_52_149 rfl ?_
    refine w_gr l_52_150 (oRun_sh o) (oRun_r0 o) ?_
    refine w_gi (((lPorts l) : Nat) : Int) l_52_153 (oLimits_sh (oRun_o0 o)) ((E.fr f).L.1) ?_
    refine w_cge 187 l_52_156 (by decide) (fun _ => ?_) (fun hx => absurd hx (by omega))
    refine w_il l_52_187 rfl ?_
    refine w_ir l_52_189 (Or.inl rfl) ?_
    have e9 : q = lPorts l := by omega
    rw [← e9]
    exact ⟨_, _, rfl, rfl, rfl, hR, f⟩
  | succ d ih =>
    intro q I hq hR f
    have hok := putsA_ok E.ok E.okl (e := e) (way := way) hk hok0 q (by omega)
    have hpq := puts_le (h := h) (l := l) (e := e) (k := k) (way := way) (r := r) q
    refine w_il l_52_147 rfl ?_
    refine w_aln l_52_149 rfl ?_
    refine w_gr l_52_150 (oRun_sh o) (oRun_r0 o) ?_
    refine w_gi (((lPorts l) : Nat) : Int) l_52_153 (oLimits_sh (oRun_o0 o)) ((E.fr f).L.1) ?_
    refine w_cge 187 l_52_156 (by decide) (fun hx => absurd hx (by omega)) (fun _ => ?_)
    refine w_il l_52_159 rfl ?_
    refine w_il l_52_161 rfl ?_
    refine w_shr (((wv / 2 ^ q) : Nat) : Int) l_52_163 (shr4 wv hw16 q (by omega)) ?_
    refine w_ic l_52_164 (by decide) ?_
    refine w_and (((bt wv q) : Nat) : Int) l_52_165 (and1 _) ?_
    refine w_zeq 181 l_52_166 (by decide) (fun h1 => ?_) (fun h1 => ?_)
    · skip
      refine w_inc ((q + 1 : Nat) : Int) l_52_181 rfl rfl (by unfold wr; omega) ?_
      refine w_go 147 l_52_184 (by decide) ?_
      have hw : way q = false := by
        have h9 := hwb q (by omega)
        cases hw : way q
        · rfl
        · exact absurd (h9.mpr hw) (by omega)
      have e9 := ih (q + 1) I (by omega) (by rw [puts_f hw]; exact hR) f
      rw [puts_f hw] at e9
      exact e9
    · skip
      have hw : way q = true := (hwb q (by omega)).mp (by omega)
      have hm := ways_mono (way := way) (lPorts l) (show q + 1 ≤ lPorts l by omega)
      have hm1 : ways way (q + 1) = ways way q + (if way q then 1 else 0) := rfl
      rw [if_pos hw] at hm1
      have hpl := putA_le (h := h) (l := l) (e := e) (k := k) (p := q) (r := (putsA h l e k way q r).1)
      refine w_il l_52_169 rfl ?_
      refine w_aln l_52_171 rfl ?_
      refine w_iln l_52_172 rfl ?_
      refine w_il l_52_173 rfl ?_
      refine p_iv [vi ((k : Nat) : Int), vi ((q : Nat) : Int)] [vi (((putsA h l e k way q r).2 : Nat) : Int)] l_52_175 rfl rfl (Nat.le_of_ble_eq_true rfl) (by rw [mx_56]; exact Nat.le_of_ble_eq_true rfl) (by rw [mt_56]; exact oRun_sh o) (by rw [mt_56]; decide) (by rw [rk_56]; decide) (s_56 o (E.fr f) hR hok hk (by omega) (by omega)) (fun v I1 hv => ?_)
      obtain ⟨rfl, hR1, f1⟩ := hv
      refine w_add (((putsA h l e k way q r).2 + (putA h l e k q (putsA h l e k way q r).1).2 : Nat) : Int) l_52_178 (by unfold wr; omega) ?_
      refine w_is l_52_179 ⟨Nat.le_of_ble_eq_true rfl, rfl⟩ ?_
      refine w_inc ((q + 1 : Nat) : Int) l_52_181 rfl rfl (by unfold wr; omega) ?_
      refine w_go 147 l_52_184 (by decide) ?_
      have e9 := ih (q + 1) I1 (by omega) (by rw [puts_t hw]; exact hR1) (f.tr f1)
      rw [puts_t hw] at e9
      exact e9
theorem lp_52b {I0 : Ix} (o : oRun S T s x) {e ne np : Nat} {a : Nat → Nat} {k p u : Nat} {v3 : Int} (E : CE I0 s x e h l a ne np) (hR : cR I s h l r) (hok : okR h l np u r) (hk : k < np) (hp : p < lPorts l) (hu : u + 3 ≤ 360) (f : fr I0 I (s + 6) (s + 17)) :
    WP xs 52 3 87 [vr s, vi ((k : Nat) : Int), vi ((p : Nat) : Int), vi v3, vs 2, vs 2, vs 2] [] (S, I, T, cc, zz) (RP S T cc zz (fun v I' => v = some (vi (((arriveC h l e p k r).2 : Nat) : Int)) ∧ cR I' s h l (arriveC h l e p k r).1 ∧ fr I0 I' (s + 6) (s + 17))) := by
  have hp4 := E.p4 hp
  have hk120 := E.np hk
  have hlt : r.2.1.length < 360 := by have h9 := ok_lt hok hp4; omega
  have hok2 : okR h l np u (setTab r.1 (hSrc h k) (some (p, sTime r.1)), r.2) := ⟨hok.1, hok.2.1, hok.2.2⟩
  cases hv : validA l (setTab r.1 (hSrc h k) (some (p, sTime r.1))) (hTgt h k) with
  | some w =>
    have hwB : wayB h l (setTab r.1 (hSrc h k) (some (p, sTime r.1)), r.2).1 k p = 2 ^ w := by unfold wayB; rw [hv]
    have hw4 : w < 4 := by
      unfold validA at hv
      have e : sTab (setTab r.1 (hSrc h k) (some (p, sTime r.1))) (hTgt h k) = if hTgt h k = hSrc h k then some (p, sTime r.1) else sTab r.1 (hTgt h k) := rfl
      rw [e] at hv
      by_cases h9 : hTgt h k = hSrc h k
      · rw [if_pos h9] at hv
        simp only at hv
        split at hv
        · injection hv with e; omega
        · cases hv
      · rw [if_neg h9] at hv
        exact valid_lt o hR (E.ok k).2.2.2.2 hv
    refine w_aln l_52_87 rfl ?_
    refine w_gr l_52_88 (oRun_sh o) (oRun_r1 o) ?_
    refine w_aln l_52_91 rfl ?_
    refine w_gr l_52_92 (oRun_sh o) (oRun_r3 o) ?_
    refine w_gr l_52_95 (oHistory_sh (oRun_o3 o)) (oHistory_r6 (oRun_o3 o)) ?_
    refine w_iln l_52_98 rfl ?_
    refine w_ia k (((hSrc h k) : Nat) : Int) l_52_99 (oHistory_s6 (oRun_o3 o)) rfl (by omega) (((E.fr f).H.2.2.2.2.2 k hk).2.2.1) ?_
    refine w_iln l_52_100 rfl ?_
    refine p_iv [vi (((hSrc h k) : Nat) : Int), vi ((p : Nat) : Int)] [] l_52_101 rfl rfl (Nat.le_of_ble_eq_true rfl) (by rw [mx_88]; exact Nat.le_of_ble_eq_true rfl) (by rw [mt_88]; exact oState_sh (oRun_o1 o)) (by rw [mt_88]; decide) (by rw [rk_88]; decide) (c_learn o hR (E.ok k).2.2.2.1 hp4) (fun v I1 hv => ?_)
    obtain ⟨rfl, hR1, f1⟩ := hv
    refine w_aln l_52_104 rfl ?_
    refine w_iln l_52_105 rfl ?_
    refine w_iln l_52_106 rfl ?_
    refine q_iv [vi ((k : Nat) : Int), vi ((p : Nat) : Int)] [] l_52_107 rfl rfl (Nat.le_of_ble_eq_true rfl) (by rw [mx_55]; exact Nat.le_of_ble_eq_true rfl) (by rw [mt_55]; exact oRun_sh o) (by rw [mt_55]; decide) (by rw [rk_55]; decide) ((by have h9 := s_55 (xs := xs) (cc := cc) (zz := zz) o ((E.fr f).fr f1) hR1 (p := p) hk; rw [hwB] at h9; exact h9)) ?_
    refine w_is l_52_110 ⟨Nat.le_of_ble_eq_true rfl, rfl⟩ ?_
    refine w_il l_52_112 rfl ?_
    refine w_ic l_52_114 (by decide) ?_
    refine w_iln l_52_115 rfl ?_
    refine w_shl (((2 ^ p) : Nat) : Int) l_52_116 (shl1 p (by omega)) ?_
    refine w_cne 128 l_52_117 (by decide) (fun h1 => ?_) (fun h1 => ?_)
    · skip
      refine w_il l_52_128 rfl ?_
      refine w_zne 141 l_52_130 (by decide) (fun _ => ?_) (fun hx => absurd hx (by have := Nat.two_pow_pos w; omega))
      refine w_ic l_52_141 (by decide) ?_
      refine w_is l_52_142 ⟨Nat.le_of_ble_eq_true rfl, rfl⟩ ?_
      refine w_ic l_52_144 (by decide) ?_
      refine w_is l_52_145 ⟨Nat.le_of_ble_eq_true rfl, rfl⟩ ?_
      have hwp : w ≠ p := fun q => by rw [q] at h1; exact h1 rfl
      rw [show arriveC h l e p k r = putsA h l e k (fun o => o == w) (lPorts l) (setTab r.1 (hSrc h k) (some (p, sTime r.1)), r.2) by unfold arriveC; rw [hv]; exact if_neg hwp]
      refine lp_52c o (E.fr f |>.fr f1) hok2 hk ?_ ?_ ?_ _ 0 I1 (Nat.zero_add _) hR1 (fr.rf _ _ _) |> fun q => WP_mono q fun _ _ ⟨v, J, g1, g2, g3, g4, g5⟩ => ⟨v, J, g1, g2, g3, g4, (f.tr f1).tr g5⟩
      · have := pow4 w hw4; omega
      · exact fun q hq => bt_pow w hw4 q (by have := E.okl.1; omega)
      · have := ways_1 (w := w) (lPorts l)
        have h9 : (if w < lPorts l then 1 else 0) ≤ 1 := by split <;> omega
        omega
    · skip
      refine w_aln l_52_120 rfl ?_
      refine w_iln l_52_121 rfl ?_
      refine w_ic l_52_122 (by decide) ?_
      refine w_ic l_52_123 (by decide) ?_
      refine p_iv [vi ((k : Nat) : Int), vi 4, vi (-1)] [] l_52_124 rfl rfl (Nat.le_of_ble_eq_true rfl) (by rw [mx_53]; exact Nat.le_of_ble_eq_true rfl) (by rw [mt_53]; exact oRun_sh o) (by rw [mt_53]; decide) (by rw [rk_53]; decide) (s_53 o ((E.fr f).fr f1) hR1 hk hlt) (fun v I2 hv => ?_)
      obtain ⟨rfl, hR2, f2⟩ := hv
      refine w_ir l_52_127 (Or.inl rfl) ?_
      have hwp : w = p := (Nat.pow_right_inj (by decide)).mp (show (2 : Nat) ^ w = 2 ^ p by omega)
      rw [show arriveC h l e p k r = refA e k 4 (-1) (setTab r.1 (hSrc h k) (some (p, sTime r.1)), r.2) by unfold arriveC; rw [hv]; exact if_pos hwp]
      exact ⟨_, _, rfl, rfl, rfl, hR2, (f.tr f1).tr f2⟩
  | none =>
    have hwB : wayB h l (setTab r.1 (hSrc h k) (some (p, sTime r.1)), r.2).1 k p = (wbits (fun o => o != p && sUp (setTab r.1 (hSrc h k) (some (p, sTime r.1))) o) (lPorts l)) := by unfold wayB; rw [hv]
    have hWp : (fun o => o != p && sUp (setTab r.1 (hSrc h k) (some (p, sTime r.1))) o) p = false := by simp
    have hne : (wbits (fun o => o != p && sUp (setTab r.1 (hSrc h k) (some (p, sTime r.1))) o) (lPorts l)) ≠ 2 ^ p := fun q => by
      have h9 := bt_w (way := (fun o => o != p && sUp (setTab r.1 (hSrc h k) (some (p, sTime r.1))) o)) (lPorts l) p hp
      rw [q] at h9
      have h8 := h9.mp ((bt_pow p hp4 p hp4).mpr (by simp))
      exact absurd (hWp.symm.trans h8) (by decide)
    refine w_aln l_52_87 rfl ?_
    refine w_gr l_52_88 (oRun_sh o) (oRun_r1 o) ?_
    refine w_aln l_52_91 rfl ?_
    refine w_gr l_52_92 (oRun_sh o) (oRun_r3 o) ?_
    refine w_gr l_52_95 (oHistory_sh (oRun_o3 o)) (oHistory_r6 (oRun_o3 o)) ?_
    refine w_iln l_52_98 rfl ?_
    refine w_ia k (((hSrc h k) : Nat) : Int) l_52_99 (oHistory_s6 (oRun_o3 o)) rfl (by omega) (((E.fr f).H.2.2.2.2.2 k hk).2.2.1) ?_
    refine w_iln l_52_100 rfl ?_
    refine p_iv [vi (((hSrc h k) : Nat) : Int), vi ((p : Nat) : Int)] [] l_52_101 rfl rfl (Nat.le_of_ble_eq_true rfl) (by rw [mx_88]; exact Nat.le_of_ble_eq_true rfl) (by rw [mt_88]; exact oState_sh (oRun_o1 o)) (by rw [mt_88]; decide) (by rw [rk_88]; decide) (c_learn o hR (E.ok k).2.2.2.1 hp4) (fun v I1 hv => ?_)
    obtain ⟨rfl, hR1, f1⟩ := hv
    refine w_aln l_52_104 rfl ?_
    refine w_iln l_52_105 rfl ?_
    refine w_iln l_52_106 rfl ?_
    refine q_iv [vi ((k : Nat) : Int), vi ((p : Nat) : Int)] [] l_52_107 rfl rfl (Nat.le_of_ble_eq_true rfl) (by rw [mx_55]; exact Nat.le_of_ble_eq_true rfl) (by rw [mt_55]; exact oRun_sh o) (by rw [mt_55]; decide) (by rw [rk_55]; decide) ((by have h9 := s_55 (xs := xs) (cc := cc) (zz := zz) o ((E.fr f).fr f1) hR1 (p := p) hk; rw [hwB] at h9; exact h9)) ?_
    refine w_is l_52_110 ⟨Nat.le_of_ble_eq_true rfl, rfl⟩ ?_
    refine w_il l_52_112 rfl ?_
    refine w_ic l_52_114 (by decide) ?_
    refine w_iln l_52_115 rfl ?_
    refine w_shl (((2 ^ p) : Nat) : Int) l_52_116 (shl1 p (by omega)) ?_
    refine w_cne 128 l_52_117 (by decide) (fun _ => ?_) (fun hx => absurd hx (by exact fun hx => hne (by omega)))
    refine w_il l_52_128 rfl ?_
    refine w_zne 141 l_52_130 (by decide) (fun h1 => ?_) (fun h1 => ?_)
    · skip
      refine w_ic l_52_141 (by decide) ?_
      refine w_is l_52_142 ⟨Nat.le_of_ble_eq_true rfl, rfl⟩ ?_
      refine w_ic l_52_144 (by decide) ?_
      refine w_is l_52_145 ⟨Nat.le_of_ble_eq_true rfl, rfl⟩ ?_
      rw [show arriveC h l e p k r = putsA h l e k (fun o => o != p && sUp (setTab r.1 (hSrc h k) (some (p, sTime r.1))) o) (lPorts l) (setTab r.1 (hSrc h k) (some (p, sTime r.1)), r.2) by unfold arriveC; rw [hv]; exact if_neg (by rw [all_w]; exact fun q => absurd (of_decide_eq_true q) (by omega))]
      refine lp_52c o (E.fr f |>.fr f1) hok2 hk ?_ ?_ ?_ _ 0 I1 (Nat.zero_add _) hR1 (fr.rf _ _ _) |> fun q => WP_mono q fun _ _ ⟨v, J, g1, g2, g3, g4, g5⟩ => ⟨v, J, g1, g2, g3, g4, (f.tr f1).tr g5⟩
      · have h9 := wbits_lt (fun o => o != p && sUp (setTab r.1 (hSrc h k) (some (p, sTime r.1))) o) (lPorts l)
        have h8 : 2 ^ lPorts l ≤ 16 := Nat.pow_le_pow_right (by decide) E.okl.1
        omega
      · exact fun q hq => bt_w (lPorts l) q hq
      · have := (ways_le (way := (fun o => o != p && sUp (setTab r.1 (hSrc h k) (some (p, sTime r.1))) o)) (p := p) hWp (lPorts l)).2 hp
        have := E.okl.1
        omega
    · skip
      refine w_aln l_52_133 rfl ?_
      refine w_iln l_52_134 rfl ?_
      refine w_ic l_52_135 (by decide) ?_
      refine w_ic l_52_136 (by decide) ?_
      refine p_iv [vi ((k : Nat) : Int), vi 5, vi (-1)] [] l_52_137 rfl rfl (Nat.le_of_ble_eq_true rfl) (by rw [mx_53]; exact Nat.le_of_ble_eq_true rfl) (by rw [mt_53]; exact oRun_sh o) (by rw [mt_53]; decide) (by rw [rk_53]; decide) (s_53 o ((E.fr f).fr f1) hR1 hk hlt) (fun v I2 hv => ?_)
      obtain ⟨rfl, hR2, f2⟩ := hv
      refine w_ir l_52_140 (Or.inl rfl) ?_
      rw [show arriveC h l e p k r = refA e k 5 (-1) (setTab r.1 (hSrc h k) (some (p, sTime r.1)), r.2) by unfold arriveC; rw [hv]; exact if_pos (by rw [all_w]; exact decide_eq_true (by omega))]
      exact ⟨_, _, rfl, rfl, rfl, hR2, (f.tr f1).tr f2⟩
end DON
