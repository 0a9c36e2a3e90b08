/-! the class: calls that suppose -/
/-- all but what is supposed -/
def mfs (I J : Ix) (s : Nat) : Prop := ∀ y z, (y = s → z ≠ 13) → (y ≠ s + 73 ∧ y ≠ s + 74) → J y z = I y z
theorem mfs.fr {I J J' : Ix} {s : Nat} (f : mfs I J s) (g : fr J J' (s + 73) (s + 74)) : mfs I J' s := fun y z h1 h2 => by
  rw [g y (by omega) z]; exact f y z h1 h2
section CSQ
variable {xs : List Int} {S : List (Nat × Nat)} {T : Nat → Nat → Nat} {cc zz s q y : Nat} {h : Hi} {l : Li} {I I' : Ix}

end CSQ
