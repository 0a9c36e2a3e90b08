/-! what is read: how far, how deep -/
theorem isWL_nx {t : Nat → Int} {n p q : Nat} (hq : q < 27) (h : isWL t n (strB q) p = true) : p + 2 ≤ nxt t n p ∧ p < n := by
  obtain ⟨h1, h2⟩ := isWL_1 h
  have h3 : ∀ q : Nat, q < 27 → 2 ≤ (strB q).length := by decide +kernel
  have h4 := h3 q hq
  have h5 := skw_ge (t := t) (n := n) (i := tEnd t n p)
  have h6 := (tkk_1.mp h1).1
  unfold nxt
  omega
theorem portR_ok {t : Nat → Int} {n : Nat} {P : Ps} {p : Nat} {a : Nat × Nat} (h : portR t n P p = .inr a) : a.1 < lPorts P.1 ∧ a.2 = nxt t n p := by
  unfold portR at h
  cases hx : nameR t n p with
  | inl e => rw [hx] at h; cases h
  | inr w =>
    rw [hx] at h
    have h : (match fnd P w with
      | none => (.inl (3, p) : PR (Nat × Nat))
      | some i => .inr (i, nxt t n p)) = .inr a := h
    cases hi : fnd P w with
    | none => rw [hi] at h; cases h
    | some i =>
      rw [hi] at h
      cases h
      have := fndF_lt _ _ _ (show fndF P.2.1 w (lPorts P.1) 0 = some i from hi)
      exact ⟨by omega, rfl⟩
/-- an atom's code as it may be -/
def okC (c : Nat × Nat × Nat) : Prop := 1 ≤ c.1 ∧ c.1 ≤ 5 ∧ c.2.1 ≤ 999 ∧ c.2.2 ≤ 3
theorem cmpR_ok {t : Nat → Int} {n f p : Nat} {a : Nat × (Nat × Nat × Nat)} (hp : p ≤ n) (hf : f ≤ 3) (h : cmpR t n f p = .inr a) : p ≤ a.1 ∧ a.1 ≤ n ∧ okC a.2 := by
  unfold cmpR at h
  split at h
  · split at h
    · cases h
    · rename_i v p2 hn
      cases h
      obtain ⟨h1, h2, h3, _⟩ := numR_ok hn
      have h2 : v ≤ 999 := h2
      have h3 : p2 = nxt t n (nxt t n p) := h3
      have h4 := nxt_ge (t := t) (n := n) (p := p)
      have h5 := nxt_ge (t := t) (n := n) (p := nxt t n p)
      have h6 := nxt_le (t := t) (nxt_le (t := t) hp)
      refine ⟨by show p ≤ p2; omega, by show p2 ≤ n; omega, ?_, ?_, h2, hf⟩
      · show 1 ≤ (if _ then _ else _)
        split
        · decide
        · split <;> decide
      · show (if _ then _ else _) ≤ 5
        split
        · decide
        · split <;> decide
  · cases h
theorem leafR_ok {t : Nat → Int} {n : Nat} {P : Ps} {p : Nat} {a : Nat × (Nat × Nat × Nat)} (hp : p ≤ n) (h4 : lPorts P.1 ≤ 4) (h : leafR t n P p = .inr a) : p + 2 ≤ a.1 ∧ a.1 ≤ n ∧ okC a.2 := by
  have hn := nxt_le (t := t) hp
  unfold leafR at h
  split at h
  · rename_i hw
    cases h
    exact ⟨(isWL_nx (by decide) hw).1, hn, (by decide : 1 ≤ 5), (by decide : 5 ≤ 5), (by decide : 0 ≤ 999), (by decide : 0 ≤ 3)⟩
  · split at h
    · rename_i hw
      split at h
      · cases h
      · rename_i i p2 hq
        cases h
        obtain ⟨h1, h2⟩ := portR_ok hq
        have h1 : i < lPorts P.1 := h1
        have h2 : p2 = nxt t n (nxt t n p) := h2
        have h3 := (isWL_nx (by decide) hw).1
        have h5 := nxt_ge (t := t) (n := n) (p := nxt t n p)
        have h6 := nxt_le (t := t) hn
        exact ⟨by show p + 2 ≤ p2; omega, by show p2 ≤ n; omega, (by decide : 1 ≤ 4), (by decide : 4 ≤ 5), by show i ≤ 999; omega, (by decide : 0 ≤ 3)⟩
    · split at h
      · rename_i hw
        have h3 := (isWL_nx (by decide) hw).1
        obtain ⟨g1, g2, g3⟩ := cmpR_ok hn (by decide) h
        exact ⟨by omega, g2, g3⟩
      · split at h
        · rename_i hw
          have h3 := (isWL_nx (by decide) hw).1
          obtain ⟨g1, g2, g3⟩ := cmpR_ok hn (by decide) h
          exact ⟨by omega, g2, g3⟩
        · split at h
          · rename_i hw
            have h3 := (isWL_nx (by decide) hw).1
            obtain ⟨g1, g2, g3⟩ := cmpR_ok hn (by decide) h
            exact ⟨by omega, g2, g3⟩
          · split at h
            · rename_i hw
              have h3 := (isWL_nx (by decide) hw).1
              obtain ⟨g1, g2, g3⟩ := cmpR_ok hn (by decide) h
              exact ⟨by omega, g2, g3⟩
            · cases h
/-- codes that are read from p on: each takes two bytes or more; they need a depth of B above the one that they begin at -/
def okA (n B p : Nat) (a : Nat × Cd) : Prop := p + 2 * a.2.length ≤ a.1 ∧ a.1 ≤ n ∧ (∀ m, m + B ≤ 31 → ∀ rest, wfP rest (m + 1) → wfP (a.2 ++ rest) m) ∧ (∀ c, c ∈ a.2 → 1 ≤ c.1) ∧ 1 ≤ a.2.length
theorem okA.mono {n B B' p : Nat} {a : Nat × Cd} (h : okA n B p a) (hB : B ≤ B') : okA n B' p a := ⟨h.1, h.2.1, fun m hm => h.2.2.1 m (by omega), h.2.2.2⟩
theorem more_ok {t : Nat → Int} {n B p0 q c : Nat} {f : Nat → PR (Nat × Cd)} (hf : ∀ p, p ≤ n → ∀ a, f p = .inr a → okA n B p a) (hq : q < 27) (hc : c = 7 ∨ c = 8) : ∀ d p cs a, okA n (B + 1) p0 (p, cs) → moreR t n f (strB q) c d p cs = .inr a → okA n (B + 1) p0 a
  | 0, p, cs, a, h0, h => by
    cases h
    exact h0
  | d + 1, p, cs, a, h0, h => by
    unfold moreR at h
    split at h
    · rename_i hw
      split at h
      · cases h
      · rename_i p2 c2 hf2
        obtain ⟨g1, g2, g3, g4, g5⟩ := hf _ (nxt_le h0.2.1) _ hf2
        obtain ⟨k1, k2, k3, k4, k5⟩ := h0
        have h3 := (isWL_nx hq hw).1
        have g1 : nxt t n p + 2 * c2.length ≤ p2 := g1
        have k1 : p0 + 2 * cs.length ≤ p := k1
        refine more_ok hf hq hc d p2 (cs ++ c2 ++ [(c, 0, 0)]) a ⟨?_, g2, fun m hm rest hr => ?_, fun x hx => ?_, ?_⟩ h
        · show p0 + 2 * (cs ++ c2 ++ [(c, 0, 0)]).length ≤ p2
          simp only [List.length_append, List.length_cons, List.length_nil]
          omega
        · show wfP (cs ++ c2 ++ [(c, 0, 0)] ++ rest) m
          rw [List.append_assoc, List.append_assoc]
          refine k3 m hm _ (g3 (m + 1) (by omega) _ ?_)
          show (if c = 6 then _ else if c = 7 ∨ c = 8 then 2 ≤ m + 1 + 1 ∧ wfP rest (m + 1 + 1 - 1) else _)
          rw [if_neg (by omega), if_pos hc]
          exact ⟨by omega, hr⟩
        · rcases List.mem_append.mp hx with hx | hx
          · rcases List.mem_append.mp hx with hx | hx
            · exact k4 x hx
            · exact g4 x hx
          · rw [List.mem_singleton.mp hx]
            show 1 ≤ c
            omega
        · show 1 ≤ (cs ++ c2 ++ [(c, 0, 0)]).length
          simp only [List.length_append, List.length_cons, List.length_nil]
          omega
    · cases h
      exact h0
theorem list_ok {t : Nat → Int} {n B q c : Nat} {f : Nat → PR (Nat × Cd)} (hf : ∀ p, p ≤ n → ∀ a, f p = .inr a → okA n B p a) (hq : q < 27) (hc : c = 7 ∨ c = 8) : ∀ p, p ≤ n → ∀ a, listR t n f (strB q) c p = .inr a → okA n (B + 1) p a := by
  intro p hp a h
  unfold listR at h
  split at h
  · cases h
  · rename_i p2 c2 hf2
    exact more_ok hf hq hc n p2 c2 a ((hf p hp _ hf2).mono (by omega)) h
theorem cond_ok {t : Nat → Int} {n B : Nat} {f : Nat → PR (Nat × Cd)} (hf : ∀ p, p ≤ n → ∀ a, f p = .inr a → okA n B p a) : ∀ p, p ≤ n → ∀ a, condR t n f p = .inr a → okA n (B + 2) p a :=
  list_ok (B := B + 1) (list_ok hf (by decide) (Or.inl rfl)) (by decide) (Or.inr rfl)
theorem leaf_A {t : Nat → Int} {n : Nat} {P : Ps} {p : Nat} {a : Nat × (Nat × Nat × Nat)} {B : Nat} (hp : p ≤ n) (h4 : lPorts P.1 ≤ 4) (hB : 1 ≤ B) (h : leafR t n P p = .inr a) : okA n B p (a.1, [a.2]) := by
  obtain ⟨h1, h2, h3⟩ := leafR_ok hp h4 h
  refine ⟨h1, h2, fun m hm rest hr => ?_, fun c hc => by rw [List.mem_singleton.mp hc]; exact h3.1, Nat.le_refl _⟩
  show (if a.2.1 = 6 then _ else if a.2.1 = 7 ∨ a.2.1 = 8 then _ else a.2.1 ≤ 5 ∧ a.2.2.1 ≤ 999 ∧ a.2.2.2 ≤ 3 ∧ m < 31 ∧ wfP rest (m + 1))
  have h5 := h3.2.1
  rw [if_neg (by omega), if_neg (by omega)]
  exact ⟨h5, h3.2.2.1, h3.2.2.2, by omega, hr⟩
theorem atom_ok {t : Nat → Int} {n : Nat} {P : Ps} (h4 : lPorts P.1 ≤ 4) : ∀ d p, p ≤ n → ∀ a, atomR t n P d p = .inr a → okA n (2 * d + 1) p a
  | 0, p, hp, a, h => by
    unfold atomR at h
    split at h
    · cases h
    · split at h
      · cases h
      · rename_i p2 c hl
        cases h
        exact leaf_A hp h4 (by omega) hl
  | d + 1, p, hp, a, h => by
    have hn := nxt_le (t := t) hp
    have ih := atom_ok (t := t) (n := n) h4 d
    unfold atomR at h
    split at h
    · split at h
      · rename_i hw
        split at h
        · cases h
        · rename_i p2 cs hf2
          cases h
          obtain ⟨g1, g2, g3, g4, g5⟩ := ih _ hn _ hf2
          have h3 := (isWL_nx (by decide) hw).1
          have g1 : nxt t n p + 2 * cs.length ≤ p2 := g1
          refine ⟨?_, g2, fun m hm rest hr => ?_, fun x hx => ?_, ?_⟩
          · show p + 2 * (cs ++ [(6, 0, 0)]).length ≤ p2
            simp only [List.length_append, List.length_cons, List.length_nil]
            omega
          · show wfP (cs ++ [(6, 0, 0)] ++ rest) m
            rw [List.append_assoc]
            refine g3 m (by omega) _ ?_
            show (if (6 : Nat) = 6 then 1 ≤ m + 1 ∧ wfP rest (m + 1) else _)
            rw [if_pos rfl]
            exact ⟨by omega, hr⟩
          · rcases List.mem_append.mp hx with hx | hx
            · exact g4 x hx
            · rw [List.mem_singleton.mp hx]
              decide
          · show 1 ≤ (cs ++ [(6, 0, 0)]).length
            simp only [List.length_append, List.length_cons, List.length_nil]
            omega
      · split at h
        · cases h
        · rename_i p2 cs hf2
          split at h
          · cases h
            obtain ⟨g1, g2, g3, g4, g5⟩ := cond_ok ih _ hn _ hf2
            have h5 := nxt_ge (t := t) (n := n) (p := p)
            have h6 := nxt_ge (t := t) (n := n) (p := p2)
            have g1 : nxt t n p + 2 * cs.length ≤ p2 := g1
            exact ⟨by show p + 2 * cs.length ≤ nxt t n p2; omega, nxt_le g2, fun m hm rest hr => g3 m (by omega) rest hr, g4, g5⟩
          · cases h
    · split at h
      · cases h
      · rename_i p2 c hl
        cases h
        exact leaf_A hp h4 (by omega) hl
