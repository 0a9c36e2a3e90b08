/-! the reference's reader: openings, facts -/
/-- all but the reader's place and error, the pile, the codes -/
def fC (I J : Ix) (s : Nat) : Prop := ∀ z w, (z = s → w ≠ 22 ∧ w ≠ 23 ∧ w ≠ 24 ∧ w ≠ 39 ∧ w ≠ 41 ∧ w ≠ 42) → (z < s + 21 ∨ s + 22 < z) → J z w = I z w
theorem fC.rf (I : Ix) (s : Nat) : fC I I s := fun _ _ _ _ => rfl
theorem fC.tr {I J K : Ix} {s : Nat} (f : fC I J s) (g : fC J K s) : fC I K s := fun z w h h2 => (g z w h h2).trans (f z w h h2)
theorem fT.C {I J : Ix} {s : Nat} (f : fT I J s) : fC I J s := fun z w h _ => f z w (fun e => by have := h e; omega)
theorem fC.up {I J : Ix} {s z w : Nat} {v : Int} (f : fC I J s) (h : (z = s ∧ 22 ≤ w ∧ (w ≤ 24 ∨ w = 39 ∨ w = 41 ∨ w = 42)) ∨ (s + 21 ≤ z ∧ z ≤ s + 22)) : fC I (up J z w v) s := fun z' w' h1 h2 => (up_out (by omega)).trans (f z' w' h1 h2)
section RGA
variable {xs : List Int} {S : List (Nat × Nat)} {T : Nat → Nat → Nat} {cc zz s : Nat} {I I' : Ix} {t : Nat → Int} {n : Nat}

end RGA
