/-! the reference: the rule against a packet -/
theorem codes_fr {I J : Ix} {s o : Nat} {cs : Cd} (h : codesAt I s o cs) (e : ∀ z, J (s + 9) z = I (s + 9) z) : codesAt J s o cs := by
  unfold codesAt at h ⊢
  simp only [e]
  exact h
section REJ
variable {xs : List Int} {S : List (Nat × Nat)} {T : Nat → Nat → Nat} {cc zz s : Nat} {h : Hi} {l : Li} {r : Ra} {I I' : Ix}

end REJ
