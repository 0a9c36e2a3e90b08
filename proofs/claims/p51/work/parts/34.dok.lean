/-! the class: a run's doings, 3 -/
def ruleI : Option Nat → Int
  | some x => (x : Int)
  | none => -1
theorem ruleA_s {h : Hi} {l : Li} {k q : Nat} (hq : q < lRules l) (h1 : lIdle l q = false) (h2 : hHol h k q = true) (h3 : ∀ j, j < q → ¬ (lIdle l j = false ∧ hHol h k j = true)) : ruleA h l k = some q := by
  unfold ruleA
  rw [List.find?_range_eq_some]
  refine ⟨by rw [h1, h2]; rfl, List.mem_range.mpr hq, fun j hj => ?_⟩
  have h4 := h3 j hj
  cases h5 : lIdle l j <;> cases h6 : hHol h k j <;> simp_all
theorem ruleA_n {h : Hi} {l : Li} {k : Nat} (h3 : ∀ j, j < lRules l → ¬ (lIdle l j = false ∧ hHol h k j = true)) : ruleA h l k = none := by
  unfold ruleA
  rw [List.find?_range_eq_none]
  intro j hj
  have h4 := h3 j hj
  cases h5 : lIdle l j <;> cases h6 : hHol h k j <;> simp_all
/-- the ways as bits -/
def wbits (way : Nat → Bool) : Nat → Nat
  | 0 => 0
  | n + 1 => if way n then wbits way n + 2 ^ n else wbits way n
theorem wbits_lt (way : Nat → Bool) : ∀ n, wbits way n < 2 ^ n
  | 0 => Nat.zero_lt_one
  | n + 1 => by
    have h1 := wbits_lt way n
    unfold wbits
    rw [Nat.pow_succ]
    split <;> omega
theorem or4 : ∀ o : Nat, o < 4 → ∀ w : Nat, w < 2 ^ o → a2 (fun x y => x ||| y) (w : Int) ((2 ^ o : Nat) : Int) = ((w + 2 ^ o : Nat) : Int) := by decide +kernel
theorem pow4 : ∀ o : Nat, o < 4 → 2 ^ o ≤ 8 := by decide
theorem bt_hi {w q : Nat} (h : w < 2 ^ q) : bt w q = 0 := by
  unfold bt; rw [Nat.div_eq_of_lt h]
theorem bt_ap {w n q : Nat} (h : q < n) : bt (w + 2 ^ n) q = bt w q := by
  unfold bt
  have h1 : (2 : Nat) ^ n = 2 ^ q * (2 * 2 ^ (n - q - 1)) := by
    rw [← Nat.mul_assoc, ← Nat.pow_succ, ← Nat.pow_add]
    congr 1
    omega
  rw [h1, Nat.add_mul_div_left _ _ (Nat.two_pow_pos q)]
  omega
theorem bt_an {w n : Nat} (h : w < 2 ^ n) : bt (w + 2 ^ n) n = 1 := by
  unfold bt
  rw [Nat.add_div_right _ (Nat.two_pow_pos n), Nat.div_eq_of_lt h]
theorem bt_w {way : Nat → Bool} : ∀ n q, q < n → (bt (wbits way n) q ≠ 0 ↔ way q = true)
  | n + 1, q, hq => by
    unfold wbits
    by_cases hn : q = n
    · subst hn
      by_cases hw : way q = true
      · rw [if_pos hw, bt_an (wbits_lt way q)]
        exact ⟨fun _ => hw, fun _ => by decide⟩
      · rw [if_neg hw, bt_hi (wbits_lt way q)]
        exact ⟨fun h => absurd rfl h, fun h => absurd h hw⟩
    · have h1 := bt_w (way := way) n q (by omega)
      split
      · rw [bt_ap (by omega)]; exact h1
      · exact h1
theorem wbits_0 {way : Nat → Bool} : ∀ n, wbits way n = 0 ↔ ∀ q, q < n → way q = false
  | 0 => ⟨fun _ q hq => absurd hq (Nat.not_lt_zero q), fun _ => rfl⟩
  | n + 1 => by
    have h1 := wbits_0 (way := way) n
    have h2 := Nat.two_pow_pos n
    unfold wbits
    by_cases hw : way n = true
    · rw [if_pos hw]
      refine ⟨fun h => by omega, fun h => ?_⟩
      rw [h n (by omega)] at hw
      cases hw
    · rw [if_neg hw, h1]
      refine ⟨fun h q hq => ?_, fun h q hq => h q (by omega)⟩
      by_cases hqn : q = n
      · rw [hqn]; simpa using hw
      · exact h q (by omega)
def wayB (h : Hi) (l : Li) (A : Sa) (k p : Nat) : Nat := match validA l A (hTgt h k) with
  | some w => 2 ^ w
  | none => wbits (fun o => o != p && sUp A o) (lPorts l)
section DOK
variable {xs : List Int} {S : List (Nat × Nat)} {T : Nat → Nat → Nat} {cc zz s x : Nat} {h : Hi} {l : Li} {r : Ra} {I I' : Ix}

theorem mx_54 : mxl 54 = 4 := by decide +kernel
theorem mt_54 : mtc 54 = 5 := by decide +kernel
theorem rk_54 (as : List AV) : rkA 54 as = 0 := rfl
theorem l_54_0 : look 54 0 = some (.aload_n 0, 1, 0, 0, 0, 0) := by decide +kernel
theorem l_54_1 : look 54 1 = some (.getfield 32, 3, 5, 3, 2, 640) := by decide +kernel
theorem l_54_4 : look 54 4 = some (.getfield 127, 3, 0, 10, 2, 530) := by decide +kernel
theorem l_54_7 : look 54 7 = some (.iload_n 1, 1, 0, 0, 0, 0) := by decide +kernel
theorem l_54_8 : look 54 8 = some (.iaload, 1, 0, 0, 0, 0) := by decide +kernel
theorem l_54_9 : look 54 9 = some (.aload_n 0, 1, 0, 0, 0, 0) := by decide +kernel
theorem l_54_10 : look 54 10 = some (.getfield 12, 3, 5, 0, 2, 634) := by decide +kernel
theorem l_54_13 : look 54 13 = some (.getfield 130, 3, 1, 9, 0, 407) := by decide +kernel
theorem l_54_16 : look 54 16 = some (.iconst (-1), 1, 0, 0, 0, 0) := by decide +kernel
theorem l_54_17 : look 54 17 = some (.ixor, 1, 0, 0, 0, 0) := by decide +kernel
theorem l_54_18 : look 54 18 = some (.iand, 1, 0, 0, 0, 0) := by decide +kernel
theorem l_54_19 : look 54 19 = some (.istore_n 2, 1, 0, 0, 0, 0) := by decide +kernel
theorem l_54_20 : look 54 20 = some (.iconst 0, 1, 0, 0, 0, 0) := by decide +kernel
theorem l_54_21 : look 54 21 = some (.istore_n 3, 1, 0, 0, 0, 0) := by decide +kernel
theorem l_54_22 : look 54 22 = some (.iload_n 3, 1, 0, 0, 0, 0) := by decide +kernel
theorem l_54_23 : look 54 23 = some (.bipush 8, 2, 0, 0, 0, 0) := by decide +kernel
theorem l_54_25 : look 54 25 = some (.if_icmp .ge 19, 3, 0, 0, 0, 0) := by decide +kernel
theorem l_54_28 : look 54 28 = some (.iload_n 2, 1, 0, 0, 0, 0) := by decide +kernel
theorem l_54_29 : look 54 29 = some (.iload_n 3, 1, 0, 0, 0, 0) := by decide +kernel
theorem l_54_30 : look 54 30 = some (.ishr, 1, 0, 0, 0, 0) := by decide +kernel
theorem l_54_31 : look 54 31 = some (.iconst 1, 1, 0, 0, 0, 0) := by decide +kernel
theorem l_54_32 : look 54 32 = some (.iand, 1, 0, 0, 0, 0) := by decide +kernel
theorem l_54_33 : look 54 33 = some (.ifCond .eq 5, 3, 0, 0, 0, 0) := by decide +kernel
theorem l_54_36 : look 54 36 = some (.iload_n 3, 1, 0, 0, 0, 0) := by decide +kernel
theorem l_54_37 : look 54 37 = some (.ireturn, 1, 0, 0, 0, 0) := by decide +kernel
theorem l_54_38 : look 54 38 = some (.iinc 3 1, 3, 0, 0, 0, 0) := by decide +kernel
theorem l_54_41 : look 54 41 = some (.goto (-19), 3, 0, 0, 0, 0) := by decide +kernel
theorem l_54_44 : look 54 44 = some (.iconst (-1), 1, 0, 0, 0, 0) := by decide +kernel
theorem l_54_45 : look 54 45 = some (.ireturn, 1, 0, 0, 0, 0) := by decide +kernel
theorem lp_54 {k w : Nat} (hl8 : lRules l ≤ 8) (hw8 : w < 256) (hw : ∀ r, r < 8 → (bt w r ≠ 0 ↔ (r < lRules l ∧ hHol h k r = true) ∧ lIdle l r = false)) : ∀ d q, q + d = 8 → (∀ j, j < q → bt w j = 0) → WP xs 54 0 22 [vr s, vi ((k : Nat) : Int), vi ((w : Nat) : Int), vi ((q : Nat) : Int)] [] (S, I, T, cc, zz) (FN (some (vi (ruleI (ruleA h l k)))) (S, I, T, cc, zz)) := by
  intro d
  induction d with
  | zero =>
    intro q hq hz
    refine w_iln l_54_22 rfl ?_
    refine w_bp l_54_23 (by decide) ?_
    refine w_cge 44 l_54_25 (by decide) (fun _ => ?_) (fun hx => absurd hx (by omega))
    refine w_ic l_54_44 (by decide) ?_
    refine w_ir l_54_45 (Or.inl rfl) ?_
    rw [ruleA_n fun j hj h9 => (hw j (by omega)).mpr ⟨⟨hj, h9.2⟩, h9.1⟩ (hz j (by omega))]
    exact ⟨rfl, rfl⟩
  | succ d ih =>
    intro q hq hz
    refine w_iln l_54_22 rfl ?_
    refine w_bp l_54_23 (by decide) ?_
    refine w_cge 44 l_54_25 (by decide) (fun hx => absurd hx (by omega)) (fun _ => ?_)
    refine w_iln l_54_28 rfl ?_
    refine w_iln l_54_29 rfl ?_
    refine w_shr (((w / 2 ^ q) : Nat) : Int) l_54_30 (shr8 w hw8 q (by omega)) ?_
    refine w_ic l_54_31 (by decide) ?_
    refine w_and (((bt w q) : Nat) : Int) l_54_32 (and1 _) ?_
    refine w_zeq 38 l_54_33 (by decide) (fun h1 => ?_) (fun h1 => ?_)
    · skip
      refine w_inc ((q + 1 : Nat) : Int) l_54_38 rfl rfl (by unfold wr; omega) ?_
      refine w_go 22 l_54_41 (by decide) ?_
      exact ih (q + 1) (by omega) (fun j hj => by
        by_cases hjq : j = q
        · rw [hjq]; omega
        · exact hz j (by omega))
    · skip
      refine w_iln l_54_36 rfl ?_
      refine w_ir l_54_37 (Or.inl rfl) ?_
      obtain ⟨⟨e1, e2⟩, e3⟩ := (hw q (by omega)).mp (by omega)
      rw [ruleA_s e1 e3 e2 fun j hj h9 => (hw j (by omega)).mpr ⟨⟨by omega, h9.2⟩, h9.1⟩ (hz j hj)]
      exact ⟨rfl, rfl⟩
theorem s_54 (o : oRun S T s x) {e ne np : Nat} {a : Nat → Nat} (E : CE I s x e h l a ne np) {k : Nat} (hk : k < np) : CL xs 54 [vr s, vi ((k : Nat) : Int)] (S, I, T, cc, zz) (FN (some (vi (ruleI (ruleA h l k)))) (S, I, T, cc, zz)) := by
  refine CL_start (r := 0) (ls := [vr s, vi ((k : Nat) : Int), vs 2, vs 2]) (rk_54 _) rfl ?_
  have hk120 := E.np hk
  obtain ⟨d, d1, d2, d3⟩ := E.rules k hk
  obtain ⟨g, g1, g2, g3⟩ := E.L.2.2.2.2.2.2
  have hw : ∀ r, r < 8 → (bt (andn d g) r ≠ 0 ↔ (r < lRules l ∧ hHol h k r = true) ∧ lIdle l r = false) := by
    intro r hr
    rw [bt_andn hr, d3 r hr]
    have h1 := g3 r hr
    refine and_congr_right fun _ => ?_
    cases h2 : lIdle l r <;> rw [h2] at h1 <;> simp at h1 ⊢ <;> omega
  refine w_aln l_54_0 rfl ?_
  refine w_gr l_54_1 (oRun_sh o) (oRun_r3 o) ?_
  refine w_gr l_54_4 (oHistory_sh (oRun_o3 o)) (oHistory_r10 (oRun_o3 o)) ?_
  refine w_iln l_54_7 rfl ?_
  refine w_ia k ((d : Nat) : Int) l_54_8 (oHistory_s10 (oRun_o3 o)) rfl (by omega) d1 ?_
  refine w_aln l_54_9 rfl ?_
  refine w_gr l_54_10 (oRun_sh o) (oRun_r0 o) ?_
  refine w_gi ((g : Nat) : Int) l_54_13 (oLimits_sh (oRun_o0 o)) g1 ?_
  refine w_ic l_54_16 (by decide) ?_
  refine w_xor (-((g : Nat) : Int) - 1) l_54_17 (xor8 g g2) ?_
  refine w_and (((andn d g) : Nat) : Int) l_54_18 (andn8 d d2 g g2) ?_
  refine w_isn l_54_19 ⟨Nat.le_of_ble_eq_true rfl, rfl⟩ ?_
  refine w_ic l_54_20 (by decide) ?_
  refine w_isn l_54_21 ⟨Nat.le_of_ble_eq_true rfl, rfl⟩ ?_
  exact lp_54 E.okl.2.1 (andn_lt d2) hw 8 0 rfl (fun j hj => absurd hj (Nat.not_lt_zero j))

theorem c_wayTo (o : oRun S T s x) (hR : cR I s h l r) {a : Nat} (ha : a < 64) {y : Option Nat} (hy : validA l r.1 a = y) : CL xs 90 [vr (s + 6), vi ((a : Nat) : Int), vi ((lAge l : Nat) : Int)] (S, I, T, cc, zz) (FN (some (vi (ruleI y))) (S, I, T, cc, zz)) := by
  obtain ⟨⟨t, t1, t2⟩, t3⟩ := hR.1.2.2.2.2.2 a ha
  have ht := hR.1.1
  refine CL_mono (s_90 (w := I (s + 6 + 6) a) (oRun_o1 o) ha ht.1 (by omega) rfl t1 (by omega)) ?_
  rintro q m' ⟨rfl, rfl⟩
  refine ⟨?_, rfl⟩
  have e : (if I (s + 6 + 6) a ≠ -1 ∧ ((sTime r.1 : Nat) : Int) - ((t : Nat) : Int) ≤ ((lAge l : Nat) : Int) then I (s + 6 + 6) a else -1) = ruleI y := by
    unfold validA at hy
    cases hT : sTab r.1 a with
    | none =>
      rw [hT] at t3 hy
      change I (s + 6 + 6) a = -1 at t3
      rw [← hy, if_neg (fun q => q.1 t3)]
      rfl
    | some wt =>
      obtain ⟨w, t'⟩ := wt
      rw [hT] at t3 hy
      change I (s + 6 + 6) a = (w : Int) ∧ w < 4 ∧ I (s + 6 + 7) a = (t' : Int) at t3
      have ett : t = t' := by have := t3.2.2; omega
      subst ett
      simp only at hy
      rw [← hy]
      by_cases hc : sTime r.1 - t ≤ lAge l
      · rw [if_pos hc, if_pos (by refine ⟨?_, ?_⟩ <;> omega), t3.1]
        rfl
      · rw [if_neg hc, if_neg (by omega)]
        rfl
  rw [e]
theorem c_learn (o : oRun S T s x) (hR : cR I s h l r) {b p : Nat} (hb : b < 64) (hp : p < 4) : CL xs 88 [vr (s + 6), vi ((b : Nat) : Int), vi ((p : Nat) : Int)] (S, I, T, cc, zz) (RP S T cc zz (fun v I' => v = none ∧ cR I' s h l (setTab r.1 b (some (p, sTime r.1)), r.2) ∧ fr I I' (s + 6) (s + 17))) := by
  refine CL_mono (s_88 (oRun_o1 o) hb) ?_
  rintro q m' ⟨rfl, rfl⟩
  refine ⟨none, _, rfl, rfl, rfl, cR_S hR ?_ (((fr.rf _ _ _).up (by omega) (by omega)).up (by omega) (by omega))⟩
  obtain ⟨h1, h2, h3, h4, h5, h6⟩ := hR.1
  have hn : ∀ x y, x ≠ s + 6 + 6 → x ≠ s + 6 + 7 → up (up I (s + 6 + 6) b ((p : Nat) : Int)) (s + 6 + 7) b (I (s + 6) 0) x y = I x y := fun x y hx hy => by rw [up_no hy, up_no hx]
  refine ⟨by rw [hn _ _ (by omega) (by omega)]; exact h1, by rw [hn _ _ (by omega) (by omega)]; exact h2, fun p hp hl => by rw [hn _ _ (by omega) (by omega)]; exact h3 p hp hl, fun p hp => by rw [hn _ _ (by omega) (by omega)]; exact h4 p hp, fun p hp => ?_, fun a ha => ?_⟩
  · obtain ⟨g1, g2, g3, g4⟩ := h5 p hp
    exact ⟨by rw [hn _ _ (by omega) (by omega)]; exact g1, g2, rowR_eq g3 (fun k _ => hn _ _ (by omega) (by omega)), rowR_eq g4 (fun k _ => hn _ _ (by omega) (by omega))⟩
  · have e : sTab (setTab r.1 b (some (p, sTime r.1))) a = if a = b then some (p, sTime r.1) else sTab r.1 a := rfl
    rw [e]
    unfold cT
    rw [up_no (x := s + 6 + 6) (by omega)]
    by_cases hab : a = b
    · subst hab
      rw [if_pos rfl, up_eq, up_eq]
      exact ⟨⟨sTime r.1, h1.1, h1.2⟩, rfl, hp, h1.1⟩
    · rw [if_neg hab, up_nj hab, up_nj hab, up_nj hab]
      exact h6 a ha
theorem c_spend (o : oRun S T s x) (hR : cR I s h l r) {p z : Nat} (hp : p < 4) (hl : lPol l p ≠ none) (hz : z ≤ 9) : CL xs 82 [vr (s + 6), vi ((p : Nat) : Int), vi ((z : Nat) : Int)] (S, I, T, cc, zz) (RP S T cc zz (fun v I' => v = some (vi (b2i (decide (z ≤ sTok r.1 p)))) ∧ cR I' s h l (if z ≤ sTok r.1 p then (setTok r.1 p (sTok r.1 p - z), r.2) else r) ∧ fr I I' (s + 6) (s + 17))) := by
  obtain ⟨g1, g2⟩ := hR.1.2.2.1 p hp hl
  refine CL_mono (s_82 (oRun_o1 o) hp g1 g2 hz) ?_
  rintro q m' ⟨rfl, rfl⟩
  refine ⟨_, _, rfl, rfl, rfl, ?_⟩
  by_cases hc : z ≤ sTok r.1 p
  · rw [if_pos hc, if_pos hc]
    refine cR_S hR ?_ ((fr.rf _ _ _).up (by omega) (by omega))
    obtain ⟨h1, h2, h3, h4, h5, h6⟩ := hR.1
    refine ⟨by rw [up_no (by omega)]; exact h1, by rw [up_no (by omega)]; exact h2, fun p' hp' hl' => ?_, fun p hp => by rw [up_no (by omega)]; exact h4 p hp, fun p hp => ?_, fun a ha => ?_⟩
    · show _ = ((if p' = p then sTok r.1 p - z else sTok r.1 p' : Nat) : Int) ∧ (if p' = p then sTok r.1 p - z else sTok r.1 p') ≤ 99
      by_cases hpp : p' = p
      · rw [if_pos hpp, hpp, up_eq]
        exact ⟨rfl, by omega⟩
      · rw [if_neg hpp, up_nj hpp]
        exact h3 p' hp' hl'
    · obtain ⟨g1, g2, g3, g4⟩ := h5 p hp
      exact ⟨by rw [up_no (by omega)]; exact g1, g2, rowR_eq g3 (fun k _ => up_no (by omega)), rowR_eq g4 (fun k _ => up_no (by omega))⟩
    · have g := h6 a ha
      unfold cT at g ⊢
      rw [up_no (by omega), up_no (by omega)]
      exact g
  · rw [if_neg hc, if_neg hc]
    exact ⟨hR, fr.rf _ _ _⟩
theorem c_hasPol (o : oRun S T s x) (hL : cLi I (s + 1) l) {p : Nat} (hp : p < lPorts l) (hp4 : p < 4) : CL xs 10 [vr (s + 1), vi ((p : Nat) : Int)] (S, I, T, cc, zz) (FN (some (vi (b2i (lPol l p).isSome))) (S, I, T, cc, zz)) := by
  have h1 := s_10 (xs := xs) (cc := cc) (zz := zz) (I := I) (oRun_o0 o) hp4
  have h2 := (hL.2.1 p hp).2.2
  have h3 : decide (I (s + 1 + 3) p ≠ -1) = (lPol l p).isSome := by
    cases h4 : lPol l p with
    | none =>
      rw [h4] at h2
      change I (s + 1 + 3) p = -1 at h2
      rw [decide_eq_false (fun q => q h2)]
      rfl
    | some rb =>
      obtain ⟨ra, b⟩ := rb
      rw [h4] at h2
      change I (s + 1 + 3) p = (ra : Int) ∧ _ at h2
      rw [decide_eq_true (by have := h2.1; omega)]
      rfl
  rw [h3] at h1
  exact h1
theorem c_isDrop (o : oRun S T s x) (hL : cLi I (s + 1) l) {k : Nat} (hk : k < 8) : CL xs 11 [vr (s + 1), vi ((k : Nat) : Int)] (S, I, T, cc, zz) (FN (some (vi (b2i (lDrop l k)))) (S, I, T, cc, zz)) := by
  obtain ⟨d, d1, d2, d3⟩ := hL.2.2.2.2.2.1
  have h1 := s_11 (xs := xs) (cc := cc) (zz := zz) (oRun_o0 o) d1 d2 hk
  have h3 : decide (bt d k ≠ 0) = lDrop l k := by
    have h4 := d3 k hk
    cases h5 : lDrop l k
    · rw [decide_eq_false]
      intro q
      rw [h4.mp q] at h5
      cases h5
    · exact decide_eq_true (h4.mpr h5)
  rw [h3] at h1
  exact h1
theorem fillQ_nl {A : Sa} {p : Nat} (hq : sQ A p = []) : fillP h A p = 0 := by
  unfold fillP; rw [hq]; rfl
theorem fillAll_4 {np u : Nat} (okl : okLi l) (H : okR h l np u r) : fillAll h (lPorts l) r.1 = 0 + fillP h r.1 0 + fillP h r.1 1 + fillP h r.1 2 + fillP h r.1 3 := by
  have h0 : ∀ p, lPorts l ≤ p → fillP h r.1 p = 0 := fun p hp => fillQ_nl (List.eq_nil_iff_forall_not_mem.mpr fun c hc => by have := (H.1 p c hc).1; omega)
  have h4 := okl.1
  unfold fillAll
  rcases (show lPorts l = 0 ∨ lPorts l = 1 ∨ lPorts l = 2 ∨ lPorts l = 3 ∨ lPorts l = 4 by omega) with e | e | e | e | e <;> rw [e] at h0 ⊢
  · rw [h0 0 (by omega), h0 1 (by omega), h0 2 (by omega), h0 3 (by omega)]; rfl
  · rw [h0 1 (by omega), h0 2 (by omega), h0 3 (by omega)]; simp [List.range_succ]
  · rw [h0 2 (by omega), h0 3 (by omega)]; simp [List.range_succ]
  · rw [h0 3 (by omega)]; simp [List.range_succ, Nat.add_assoc]
  · simp [List.range_succ, Nat.add_assoc]
theorem c_allUnits (o : oRun S T s x) {e ne np : Nat} {a : Nat → Nat} {u : Nat} (E : CE I s x e h l a ne np) (hR : cR I s h l r) (hk : okR h l np u r) : CL xs 83 [vr (s + 6)] (S, I, T, cc, zz) (FN (some (vi ((fillAll h (lPorts l) r.1 : Nat) : Int))) (S, I, T, cc, zz)) := by
  have g := hR.1.2.2.2.1
  have f := hk.2.1
  rw [fillAll_4 E.okl hk]
  exact s_83 (oRun_o1 o) (g 0 (by decide)) (g 1 (by decide)) (g 2 (by decide)) (g 3 (by decide)) (by have := f 0; have := f 1; have := f 2; have := f 3; omega)

end DOK
