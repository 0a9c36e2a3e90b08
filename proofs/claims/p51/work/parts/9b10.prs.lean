/-! the text's lines are read one by one, wherever they stand -/
/-- the text has u from a on, and behind it no blank -/
def agr (t : Nat → Int) (n : Nat) (u : List Int) (a : Nat) : Prop := a + u.length ≤ n ∧ (∀ j, j < u.length → t (a + j) = u.getD j 0) ∧ (a + u.length < n → isWs (t (a + u.length)) = false) ∧ 1 ≤ u.length ∧ u.getD (u.length - 1) 0 = 59
abbrev tl (u : List Int) : Nat → Int := fun j => u.getD j 0
def sh1 {β : Type} (a : Nat) : PR (Nat × β) → PR (Nat × β)
  | .inl (e, p) => .inl (e, a + p)
  | .inr (p, x) => .inr (a + p, x)
def sh2 {β : Type} (a : Nat) : PR (β × Nat) → PR (β × Nat)
  | .inl (e, p) => .inl (e, a + p)
  | .inr (x, p) => .inr (x, a + p)
def sh0 {β : Type} (a : Nat) : PR β → PR β
  | .inl (e, p) => .inl (e, a + p)
  | .inr x => .inr x
section AGR
variable {t : Nat → Int} {n a : Nat} {u : List Int}
theorem run_sh (A : agr t n u a) {f : Int → Bool} (h : f 59 = false) : ∀ d p, u.length ≤ p + d → p < u.length → runX f t n (n - (a + p)) (a + p) = a + runX f (tl u) u.length (u.length - p) p ∧ p ≤ runX f (tl u) u.length (u.length - p) p ∧ runX f (tl u) u.length (u.length - p) p < u.length := by
  intro d
  induction d with
  | zero => intro p h1 h2; omega
  | succ d ih =>
    intro p h1 h2
    obtain ⟨a1, a2, a3, a4, a5⟩ := id A
    by_cases hf : f (u.getD p 0) = true
    · have hp : p + 1 < u.length := by
        refine Classical.byContradiction fun q => ?_
        have : p = u.length - 1 := by omega
        rw [this, a5, h] at hf
        cases hf
      have g := ih (p + 1) (by omega) hp
      rw [runX_t (by omega) (by rw [a2 p h2]; exact hf), runX_t (t := tl u) h2 hf]
      refine ⟨?_, by omega, g.2.2⟩
      exact g.1
    · rw [runX_f (fun q => hf (by rw [← a2 p h2]; exact q.2)), runX_f (t := tl u) (fun q => hf q.2)]
      exact ⟨rfl, Nat.le_refl _, h2⟩
theorem lo59 : isLo 59 = false := by decide
theorem dg59 : isDg 59 = false := by decide
theorem ws59 : isWs 59 = false := by decide
theorem skw_n {t : Nat → Int} {n : Nat} : skw t n n = n := runX_f (fun q => Nat.lt_irrefl _ q.1)
theorem skw_sh (A : agr t n u a) {p : Nat} (hp : p ≤ u.length) : skw t n (a + p) = a + skw (tl u) u.length p ∧ p ≤ skw (tl u) u.length p ∧ (p < u.length → skw (tl u) u.length p < u.length) := by
  by_cases h : p < u.length
  · have := run_sh A ws59 u.length p (by omega) h
    exact ⟨this.1, this.2.1, fun _ => this.2.2⟩
  · have : p = u.length := by omega
    subst this
    obtain ⟨a1, a2, a3, a4, a5⟩ := id A
    refine ⟨?_, by rw [skw_n]; exact Nat.le_refl _, fun q => absurd q h⟩
    rw [skw_n]
    refine runX_f (fun q => ?_)
    have := a3 q.1
    rw [this] at q
    exact absurd q.2 (by decide)
theorem wEnd_sh (A : agr t n u a) {p : Nat} (hp : p < u.length) : wEnd t n (a + p) = a + wEnd (tl u) u.length p ∧ p ≤ wEnd (tl u) u.length p ∧ wEnd (tl u) u.length p < u.length := run_sh A lo59 u.length p (by omega) hp
theorem dEnd_sh (A : agr t n u a) {p : Nat} (hp : p < u.length) : dEnd t n (a + p) = a + dEnd (tl u) u.length p ∧ p ≤ dEnd (tl u) u.length p ∧ dEnd (tl u) u.length p < u.length := run_sh A dg59 u.length p (by omega) hp
theorem tkk_sh (A : agr t n u a) {p : Nat} (hp : p < u.length) : tkk t n (a + p) = tkk (tl u) u.length p := by
  obtain ⟨a1, a2, a3, a4, a5⟩ := id A
  unfold tkk
  rw [if_pos (by omega), if_pos hp, a2 p hp]
theorem tEnd_sh (A : agr t n u a) {p : Nat} (hp : p < u.length) : tEnd t n (a + p) = a + tEnd (tl u) u.length p ∧ p < tEnd (tl u) u.length p ∧ tEnd (tl u) u.length p ≤ u.length ∧ (u.getD p 0 ≠ 59 → tEnd (tl u) u.length p < u.length) := by
  obtain ⟨a1, a2, a3, a4, a5⟩ := id A
  have hw := wEnd_sh A hp
  have hd := dEnd_sh A hp
  unfold tEnd
  rw [if_pos (by omega), if_pos hp, a2 p hp]
  by_cases h1 : isLo (u.getD p 0) = true
  · rw [if_pos h1, if_pos h1]
    refine ⟨hw.1, ?_, by omega, fun _ => hw.2.2⟩
    have : wEnd (tl u) u.length p = runX isLo (tl u) u.length (u.length - (p + 1)) (p + 1) := runX_t (t := tl u) hp h1
    rw [this]
    exact runX_ge _ _
  · rw [if_neg h1, if_neg h1]
    by_cases h2 : isDg (u.getD p 0) = true
    · rw [if_pos h2, if_pos h2]
      refine ⟨hd.1, ?_, by omega, fun _ => hd.2.2⟩
      have : dEnd (tl u) u.length p = runX isDg (tl u) u.length (u.length - (p + 1)) (p + 1) := runX_t (t := tl u) hp h2
      rw [this]
      exact runX_ge _ _
    · rw [if_neg h2, if_neg h2]
      refine ⟨by omega, by omega, by omega, fun h => ?_⟩
      refine Classical.byContradiction fun q => h ?_
      have : p = u.length - 1 := by omega
      rw [this]; exact a5
theorem nxt_sh (A : agr t n u a) {p : Nat} (hp : p < u.length) : nxt t n (a + p) = a + nxt (tl u) u.length p ∧ p < nxt (tl u) u.length p ∧ (u.getD p 0 ≠ 59 → nxt (tl u) u.length p < u.length) := by
  have h := tEnd_sh A hp
  unfold nxt
  have g := skw_sh A h.2.2.1
  rw [h.1]
  exact ⟨g.1, by omega, fun q => g.2.2 (h.2.2.2 q)⟩
theorem isWL_sh (A : agr t n u a) {p : Nat} (hp : p < u.length) (w : List Nat) : isWL t n w (a + p) = isWL (tl u) u.length w p := by
  have h := wEnd_sh A hp
  obtain ⟨a1, a2, a3, a4, a5⟩ := id A
  unfold isWL
  rw [h.1]
  by_cases e : wEnd (tl u) u.length p = p + w.length
  · have e1 : decide (a + wEnd (tl u) u.length p = a + p + w.length) = decide (wEnd (tl u) u.length p = p + w.length) := by rw [decide_eq_true e, decide_eq_true (by omega)]
    rw [e1]
    congr 1
    rw [Bool.eq_iff_iff, List.all_eq_true, List.all_eq_true]
    have key : ∀ i, i < w.length → t (a + p + i) = tl u (p + i) := fun i hi => by
      rw [Nat.add_assoc]; exact a2 _ (by omega)
    exact ⟨fun g i hi => by rw [← key i (List.mem_range.mp hi)]; exact g i hi, fun g i hi => by rw [key i (List.mem_range.mp hi)]; exact g i hi⟩
  · rw [decide_eq_false e, decide_eq_false (by omega)]
    simp
theorem isSg_sh (A : agr t n u a) {p : Nat} (hp : p < u.length) (c : Int) : isSg t n c (a + p) = isSg (tl u) u.length c p := by
  obtain ⟨a1, a2, a3, a4, a5⟩ := id A
  unfold isSg
  rw [a2 p hp, decide_eq_true (show a + p < n by omega), decide_eq_true hp]
theorem numV_sh (A : agr t n u a) {p : Nat} : ∀ k, p + k ≤ u.length → numV t (a + p) k = numV (tl u) p k
  | 0, _ => rfl
  | k + 1, h => by
    unfold numV
    rw [numV_sh A k (by omega), Nat.add_assoc, A.2.1 (p + k) (by omega)]
theorem nmL_sh (A : agr t n u a) : ∀ k p, p + k ≤ u.length → nmL t (a + p) k = nmL (tl u) p k
  | 0, _, _ => rfl
  | k + 1, p, h => by
    unfold nmL
    rw [nmL_sh A k p (by omega), Nat.add_assoc, A.2.1 (p + k) (by omega)]
/-- a kind tells that the token is not the line's end -/
theorem no59 {p : Nat} (h : tkk (tl u) u.length p ≠ 3) (hp : p < u.length) : u.getD p 0 ≠ 59 := fun e => by
  apply h
  unfold tkk
  rw [if_pos hp]
  show (if isLo (u.getD p 0) = true then 1 else if isDg (u.getD p 0) = true then 2 else 3) = 3
  rw [e]; decide
theorem no59w {w : List Nat} {p : Nat} (h : isWL (tl u) u.length w p = true) (hw : w.getD 0 0 ≠ 59) : u.getD p 0 ≠ 59 := fun e => by
  unfold isWL at h
  rw [Bool.and_eq_true, Bool.and_eq_true] at h
  have h1 := of_decide_eq_true h.1.2
  have h2 := List.all_eq_true.mp h.2 0 (List.mem_range.mpr (List.length_pos_iff.mpr h1))
  have h3 := of_decide_eq_true h2
  rw [Nat.add_zero] at h3
  have h4 : u.getD p 0 = ((w.getD 0 0 : Nat) : Int) := h3
  rw [e] at h4
  omega
theorem no59s {c : Int} {p : Nat} (h : isSg (tl u) u.length c p = true) (hc : c ≠ 59) : u.getD p 0 ≠ 59 := fun e => by
  unfold isSg at h
  rw [Bool.and_eq_true] at h
  have h3 : u.getD p 0 = c := of_decide_eq_true h.2
  exact hc (h3.symm.trans e)
theorem numR_sh (A : agr t n u a) {p : Nat} (hp : p < u.length) (lo hi : Nat) : numR t n lo hi (a + p) = sh2 a (numR (tl u) u.length lo hi p) ∧ ∀ v q, numR (tl u) u.length lo hi p = .inr (v, q) → p < q ∧ q < u.length := by
  have hd := dEnd_sh A hp
  have hx := nxt_sh A hp
  unfold numR
  rw [tkk_sh A hp, hd.1, show a + dEnd (tl u) u.length p - (a + p) = dEnd (tl u) u.length p - p by omega, numV_sh A _ (by omega), hx.1]
  split
  · exact ⟨rfl, fun v q h => by cases h⟩
  · rename_i h1
    split
    · exact ⟨rfl, fun v q h => by cases h⟩
    · split
      · exact ⟨rfl, fun v q h => by cases h⟩
      · refine ⟨rfl, fun v q h => ?_⟩
        cases h
        exact ⟨hx.2.1, hx.2.2 (no59 (by omega) hp)⟩
theorem nameR_sh (A : agr t n u a) {p : Nat} (hp : p < u.length) : nameR t n (a + p) = sh0 a (nameR (tl u) u.length p) ∧ ∀ x, nameR (tl u) u.length p = .inr x → p < nxt (tl u) u.length p ∧ nxt (tl u) u.length p < u.length := by
  have hd := wEnd_sh A hp
  have hx := nxt_sh A hp
  unfold nameR
  rw [tkk_sh A hp, hd.1, show a + wEnd (tl u) u.length p - (a + p) = wEnd (tl u) u.length p - p by omega, nmL_sh A _ _ (by omega)]
  split
  · exact ⟨rfl, fun x h => by cases h⟩
  · rename_i h1
    exact ⟨rfl, fun x h => ⟨hx.2.1, hx.2.2 (no59 (by omega) hp)⟩⟩
theorem portR_sh (A : agr t n u a) {p : Nat} (hp : p < u.length) (P : Ps) : portR t n P (a + p) = sh2 a (portR (tl u) u.length P p) ∧ ∀ i q, portR (tl u) u.length P p = .inr (i, q) → p < q ∧ q < u.length := by
  have h := nameR_sh A hp
  unfold portR
  rw [h.1]
  cases e : nameR (tl u) u.length p with
  | inl e2 => exact ⟨rfl, fun i q h => by cases h⟩
  | inr x =>
    have g := h.2 x e
    simp only [sh0]
    cases fnd P x with
    | none => exact ⟨rfl, fun i q h => by cases h⟩
    | some i =>
      refine ⟨?_, fun i q h => by cases h; exact g⟩
      show _ = Sum.inr (i, a + nxt (tl u) u.length p)
      rw [(nxt_sh A hp).1]
theorem cmpR_sh (A : agr t n u a) {p : Nat} (hp : p < u.length) (f : Nat) : cmpR t n f (a + p) = sh1 a (cmpR (tl u) u.length f p) ∧ ∀ q c, cmpR (tl u) u.length f p = .inr (q, c) → p < q ∧ q < u.length := by
  unfold cmpR
  rw [isSg_sh A hp, isSg_sh A hp, isSg_sh A hp]
  have hx := nxt_sh A hp
  split
  · rename_i h1
    have h59 : u.getD p 0 ≠ 59 := by
      rw [Bool.or_eq_true, Bool.or_eq_true] at h1
      rcases h1 with (h1 | h1) | h1
      · exact no59s h1 (by decide)
      · exact no59s h1 (by decide)
      · exact no59s h1 (by decide)
    have g := numR_sh A (hx.2.2 h59) 0 999
    rw [hx.1, g.1]
    cases e : numR (tl u) u.length 0 999 (nxt (tl u) u.length p) with
    | inl e2 => exact ⟨rfl, fun q c h => by cases h⟩
    | inr x =>
      obtain ⟨v, p2⟩ := x
      have g2 := g.2 v p2 e
      exact ⟨rfl, fun q c h => by cases h; exact ⟨by omega, g2.2⟩⟩
  · exact ⟨rfl, fun q c h => by cases h⟩
theorem strB_n : ∀ k, k < 27 → (strB k).getD 0 0 ≠ 59 := by decide +kernel
theorem leafR_sh (A : agr t n u a) {p : Nat} (hp : p < u.length) (P : Ps) : leafR t n P (a + p) = sh1 a (leafR (tl u) u.length P p) ∧ ∀ q c, leafR (tl u) u.length P p = .inr (q, c) → p < q ∧ q < u.length := by
  have hx := nxt_sh A hp
  unfold leafR
  rw [isWL_sh A hp, isWL_sh A hp, isWL_sh A hp, isWL_sh A hp, isWL_sh A hp, isWL_sh A hp, hx.1]
  have lift : ∀ (f : Nat) (k : Nat), k < 27 → isWL (tl u) u.length (strB k) p = true → (cmpR t n f (a + nxt (tl u) u.length p) = sh1 a (cmpR (tl u) u.length f (nxt (tl u) u.length p)) ∧ ∀ q c, cmpR (tl u) u.length f (nxt (tl u) u.length p) = .inr (q, c) → p < q ∧ q < u.length) := fun f k hk h => by
    have g := cmpR_sh A (hx.2.2 (no59w h (strB_n k hk))) f
    exact ⟨g.1, fun q c e => ⟨by have := (g.2 q c e).1; omega, (g.2 q c e).2⟩⟩
  split
  · rename_i h1
    exact ⟨rfl, fun q c h => by cases h; exact ⟨hx.2.1, hx.2.2 (no59w h1 (strB_n 6 (by decide)))⟩⟩
  · split
    · rename_i h1
      have g := portR_sh A (hx.2.2 (no59w h1 (strB_n 7 (by decide)))) P
      rw [g.1]
      cases e : portR (tl u) u.length P (nxt (tl u) u.length p) with
      | inl e2 => exact ⟨rfl, fun q c h => by cases h⟩
      | inr x =>
        obtain ⟨i, p2⟩ := x
        have g2 := g.2 i p2 e
        exact ⟨rfl, fun q c h => by cases h; exact ⟨by omega, g2.2⟩⟩
    · split
      · exact lift 0 8 (by decide) (by assumption)
      · split
        · exact lift 1 9 (by decide) (by assumption)
        · split
          · exact lift 2 10 (by decide) (by assumption)
          · split
            · exact lift 3 11 (by decide) (by assumption)
            · exact ⟨rfl, fun q c h => by cases h⟩
/-- what reads alike here and there -/
def RD (t : Nat → Int) (n a : Nat) (u : List Int) (f f' : Nat → PR (Nat × Cd)) : Prop := ∀ p, p < u.length → f (a + p) = sh1 a (f' p) ∧ ∀ q c, f' p = .inr (q, c) → p < q ∧ q < u.length
theorem moreR_sh (A : agr t n u a) {f f' : Nat → PR (Nat × Cd)} (R : RD t n a u f f') {k c : Nat} (hk : k < 27) : ∀ d d' p cs, p < u.length → u.length ≤ p + d → u.length ≤ p + d' → moreR t n f (strB k) c d (a + p) cs = sh1 a (moreR (tl u) u.length f' (strB k) c d' p cs) ∧ ∀ q c2, moreR (tl u) u.length f' (strB k) c d' p cs = .inr (q, c2) → p ≤ q ∧ q < u.length
  | 0, _, p, _, h1, h2, _ => by omega
  | _ + 1, 0, p, _, h1, _, h3 => by omega
  | d + 1, d' + 1, p, cs, h1, h2, h3 => by
    have hx := nxt_sh A h1
    unfold moreR
    rw [isWL_sh A h1, hx.1]
    split
    · rename_i hw
      have hn := hx.2.2 (no59w hw (strB_n k hk))
      have g := R _ hn
      rw [g.1]
      cases e : f' (nxt (tl u) u.length p) with
      | inl e2 => exact ⟨rfl, fun q c h => by cases h⟩
      | inr x =>
        obtain ⟨p2, c2⟩ := x
        have g2 := g.2 p2 c2 e
        have g3 := moreR_sh A R hk (c := c) d d' p2 (cs ++ c2 ++ [(c, 0, 0)]) g2.2 (by omega) (by omega)
        exact ⟨g3.1, fun q c3 h => ⟨by have := (g3.2 q c3 h).1; omega, (g3.2 q c3 h).2⟩⟩
    · exact ⟨rfl, fun q c h => by cases h; exact ⟨Nat.le_refl _, h1⟩⟩
theorem listR_sh (A : agr t n u a) {f f' : Nat → PR (Nat × Cd)} (R : RD t n a u f f') {k c : Nat} (hk : k < 27) : RD t n a u (listR t n f (strB k) c) (listR (tl u) u.length f' (strB k) c) := fun p hp => by
  have g := R p hp
  have a1 := A.1
  unfold listR
  rw [g.1]
  cases e : f' p with
  | inl e2 => exact ⟨rfl, fun q c h => by cases h⟩
  | inr x =>
    obtain ⟨p2, c2⟩ := x
    have g2 := g.2 p2 c2 e
    have g3 := moreR_sh A R hk (c := c) n u.length p2 c2 g2.2 (by omega) (by omega)
    exact ⟨g3.1, fun q c3 h => ⟨by have := (g3.2 q c3 h).1; omega, (g3.2 q c3 h).2⟩⟩
theorem condR_sh (A : agr t n u a) {f f' : Nat → PR (Nat × Cd)} (R : RD t n a u f f') : RD t n a u (condR t n f) (condR (tl u) u.length f') := listR_sh A (listR_sh A R (k := 12) (by decide)) (k := 13) (by decide)
theorem isNest_sh (A : agr t n u a) {p : Nat} (hp : p < u.length) : isNest t n (a + p) = isNest (tl u) u.length p := by
  unfold isNest
  rw [isWL_sh A hp, isSg_sh A hp]
theorem atomR_sh (A : agr t n u a) (P : Ps) : ∀ d, RD t n a u (atomR t n P d) (atomR (tl u) u.length P d)
  | 0, p, hp => by
    have g := leafR_sh A hp P
    unfold atomR
    rw [isNest_sh A hp, g.1]
    split
    · exact ⟨rfl, fun q c h => by cases h⟩
    · cases e : leafR (tl u) u.length P p with
      | inl e2 => exact ⟨rfl, fun q c h => by cases h⟩
      | inr x =>
        obtain ⟨p2, c2⟩ := x
        have g2 := g.2 p2 c2 e
        exact ⟨rfl, fun q c h => by cases h; exact g2⟩
  | d + 1, p, hp => by
    have g := leafR_sh A hp P
    have hx := nxt_sh A hp
    have R := atomR_sh A P d
    unfold atomR
    rw [isNest_sh A hp, g.1, isWL_sh A hp, hx.1]
    split
    · rename_i hnest
      split
      · rename_i hw
        have hn := hx.2.2 (no59w hw (strB_n 5 (by decide)))
        have g := R _ hn
        rw [g.1]
        cases e : atomR (tl u) u.length P d (nxt (tl u) u.length p) with
        | inl e2 => exact ⟨rfl, fun q c h => by cases h⟩
        | inr x =>
          obtain ⟨p2, c2⟩ := x
          have g2 := g.2 p2 c2 e
          exact ⟨rfl, fun q c h => by cases h; exact ⟨by omega, g2.2⟩⟩
      · rename_i hw
        have hs : isSg (tl u) u.length 40 p = true := by
          unfold isNest at hnest
          rw [Bool.or_eq_true] at hnest
          exact hnest.resolve_left hw
        have hn := hx.2.2 (no59s hs (by decide))
        have g := condR_sh A R _ hn
        rw [g.1]
        cases e : condR (tl u) u.length (atomR (tl u) u.length P d) (nxt (tl u) u.length p) with
        | inl e2 => exact ⟨rfl, fun q c h => by cases h⟩
        | inr x =>
          obtain ⟨p2, c2⟩ := x
          have g2 := g.2 p2 c2 e
          simp only [sh1]
          rw [isSg_sh A g2.2, (nxt_sh A g2.2).1]
          split
          · rename_i h41
            have g3 := nxt_sh A g2.2
            refine ⟨rfl, fun q c h => ?_⟩
            cases h
            exact ⟨by omega, g3.2.2 (no59s h41 (by decide))⟩
          · exact ⟨rfl, fun q c h => by cases h⟩
    · cases e : leafR (tl u) u.length P p with
      | inl e2 => exact ⟨rfl, fun q c h => by cases h⟩
      | inr x =>
        obtain ⟨p2, c2⟩ := x
        have g2 := g.2 p2 c2 e
        exact ⟨rfl, fun q c h => by cases h; exact g2⟩
end AGR
