/-! the reference's reader: bytes, words -/
/-- all but the reader's place and its error -/
def fT (I J : Ix) (s : Nat) : Prop := ∀ z w, (z = s → w ≠ 22 ∧ w ≠ 23 ∧ w ≠ 24) → J z w = I z w
theorem fT.rf (I : Ix) (s : Nat) : fT I I s := fun _ _ _ => rfl
theorem fT.tr {I J K : Ix} {s : Nat} (f : fT I J s) (g : fT J K s) : fT I K s := fun z w h => (g z w h).trans (f z w h)
theorem fT.up {I J : Ix} {s j : Nat} {v : Int} (f : fT I J s) (hj : j = 22 ∨ j = 23 ∨ j = 24) : fT I (up J s j v) s := fun z w h => (up_out (by omega)).trans (f z w h)
section RFT
variable {xs : List Int} {S : List (Nat × Nat)} {T : Nat → Nat → Nat} {cc zz s : Nat} {I I' : Ix} {t : Nat → Int} {n : Nat}

end RFT
