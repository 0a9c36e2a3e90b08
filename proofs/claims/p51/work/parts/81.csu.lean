/-! the class: what is supposed is run -/
/-- what the class's runs go by: events, packets, the rules that hold -/
def KB (I : Ix) (s : Nat) (h : Hi) (l : Li) (a : Nat → Nat) (ne np : Nat) : Prop := cH I (s + 21) h a ne np ∧ (∀ k, k < np → ∃ d : Nat, I (s + 30) k = (d : Int) ∧ d < 256 ∧ ∀ r, r < 8 → (bt d r ≠ 0 ↔ (r < lRules l ∧ hHol h k r = true))) ∧ okHi h ∧ okLi l ∧ okEv h l ne np ∧ (∀ p, lPorts l ≤ p → lPol l p = none) ∧ ∀ r, lIdle l r = false
theorem KB.fr {I J : Ix} {s : Nat} {h : Hi} {l : Li} {a : Nat → Nat} {ne np lo hi : Nat} (K : KB I s h l a ne np) (f : fr I J lo hi) (d : s + 30 < lo) : KB J s h l a ne np :=
  ⟨K.1.fr f (Or.inr (by omega)), fun k hk => by rw [f (s + 30) (by omega) k]; exact K.2.1 k hk, K.2.2⟩
/-- with other limits l' of the same ports and rules -/
theorem KB.CB {I : Ix} {s t : Nat} {h : Hi} {l l' : Li} {a : Nat → Nat} {ne np : Nat} (K : KB I s h l a ne np) (hL : cLi I (t + 1) l') (ht : s + 30 < t) (ok : okLi l') (e1 : l'.1 = l.1) : CB I t (s + 21) h l' a ne np := by
  obtain ⟨k1, k2, k3, k4, k5, k6, k7⟩ := K
  refine ⟨k1, hL, by omega, fun k hk => ?_, k3, ok, fun e he h1 => ?_⟩
  · obtain ⟨d, d1, d2, d3⟩ := k2 k hk
    refine ⟨d, d1, d2, fun r hr => ?_⟩
    rw [d3 r hr]
    unfold lRules
    rw [e1]
  · have := (k5 e he).1 h1
    unfold lPorts at this ⊢
    rw [e1]
    exact this
section CSU
variable {xs : List Int} {S : List (Nat × Nat)} {T : Nat → Nat → Nat} {cc zz s q y : Nat} {h : Hi} {l : Li} {I I' : Ix}

end CSU
