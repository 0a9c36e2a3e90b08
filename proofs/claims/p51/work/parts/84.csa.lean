/-! the class: what is supposed is asked -/
/-- all but the run of what is supposed -/
def mfg (I J : Ix) (s : Nat) : Prop := ∀ y z, (y < s + 75 ∨ s + 94 < y) → (y = s → z ≠ 13) → J y z = I y z
theorem cR.tim {I : Ix} {s : Nat} {h : Hi} {l : Li} {r : Ra} (H : cR I s h l r) : ∀ b, b < 64 → ∃ t : Nat, I (s + 6 + 7) b = (t : Int) ∧ t ≤ 120 := fun b hb => (H.1.2.2.2.2.2 b hb).1
/-- what the class answers from of what is supposed -/
def KS (I : Ix) (s q : Nat) (h : Hi) (l : Li) (a : Nat → Nat) (ne np : Nat) (su : Su) : Prop := (s < q ∧ q + 8 < s + 21) ∧ KB I s h l a ne np ∧ cSu I (s + 72) su ∧ okSu su ∧ (∀ b, b < 64 → ∃ t : Nat, I (s + 75 + 6 + 7) b = (t : Int) ∧ t ≤ 120) ∧ (I s 13 = I s 12 → cR I (s + 75) h (supL l su) (runA h (supL l su) su.2.2.2 ne))
section CSA
variable {xs : List Int} {S : List (Nat × Nat)} {T : Nat → Nat → Nat} {cc zz s q y : Nat} {h : Hi} {l : Li} {I I' : Ix}

end CSA
