/-! the reference: what a run holds -/
def mfr (I J : Ix) (s : Nat) : Prop := ∀ y z, (y = s → z ≠ 55 ∧ z ≠ 66 ∧ z ≠ 68 ∧ z ≠ 69) → (s < y → y < s + 27 ∨ s + 37 < y) → J y z = I y z
theorem mfr.rf (I : Ix) (s : Nat) : mfr I I s := fun _ _ _ _ => rfl
theorem mfr.tr {I J K : Ix} {s : Nat} (h1 : mfr I J s) (h2 : mfr J K s) : mfr I K s := fun y z a b => (h2 y z a b).trans (h1 y z a b)
theorem mQ.fr {I J : Ix} {s p : Nat} {q : List Cp} (H : mQ I s p q) (e : ∀ y, s + 27 ≤ y → y ≤ s + 33 → ∀ z, J y z = I y z) : mQ J s p q := by
  obtain ⟨h1, h2, h3⟩ := H
  refine ⟨by rw [e _ (by omega) (by omega)]; exact h1, h2, fun k hk => ?_⟩
  rw [e _ (by omega) (by omega), e _ (by omega) (by omega)]
  exact h3 k hk
theorem mH.fr {I J : Ix} {s : Nat} {h : Hi} {a : Nat → Nat} {ne np : Nat} (H : mH I s h a ne np) (f : mfr I J s) : mH J s h a ne np := by
  have e : ∀ j, j ≤ 26 ∧ 0 < j → ∀ z, J (s + j) z = I (s + j) z := fun j hj z => f (s + j) z (fun e => by omega) (fun _ => by omega)
  unfold mH at H ⊢
  simp only [e 10 (by decide), e 11 (by decide)]
  exact H
