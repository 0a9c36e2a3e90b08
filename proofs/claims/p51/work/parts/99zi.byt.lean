/-! bytes of the input -/
def okB (bf : Nat → Int) (n : Nat) : Prop := ∀ j, j < n → -128 ≤ bf j ∧ bf j ≤ 127
theorem sby_r (w : Int) (k : Nat) : -128 ≤ sby w k ∧ sby w k ≤ 127 := wb_r _
theorem okB.A {bf : Nat → Int} {n : Nat} (h : okB bf n) (w0 w1 w2 w3 w4 : Int) : okB (bfA bf n w0 w1 w2 w3 w4) (n + 20) := fun j hj => by
  unfold bfA apB
  by_cases hjn : j < n
  · rw [if_pos hjn]; exact h j hjn
  · rw [if_neg hjn]; exact sby_r _ _
theorem okB_0 (bf : Nat → Int) : okB bf 0 := fun j hj => absurd hj (Nat.not_lt_zero j)
theorem okB.t {bf : Nat → Int} {n m : Nat} (h : okB bf n) (hm : m ≤ n) : okB bf m := fun j hj => h j (by omega)
