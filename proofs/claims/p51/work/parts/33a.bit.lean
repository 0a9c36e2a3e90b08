/-! the class: a run's doings, 3 -/
theorem bt_tb (d r : Nat) : bt d r ≠ 0 ↔ d.testBit r = true := by
  unfold bt
  rw [Nat.testBit_eq_decide_div_mod_eq, decide_eq_true_iff]
  have := Nat.mod_two_eq_zero_or_one (d / 2 ^ r)
  omega
def andn (d e : Nat) : Nat := d &&& (e ^^^ 255)
theorem tb255 : ∀ r : Nat, r < 8 → Nat.testBit 255 r = true := by decide +kernel
theorem bt_andn {d e r : Nat} (hr : r < 8) : bt (andn d e) r ≠ 0 ↔ (bt d r ≠ 0 ∧ bt e r = 0) := by
  have h1 : bt e r = 0 ↔ e.testBit r = false := by
    have h2 := bt_tb e r
    cases h3 : e.testBit r <;> rw [h3] at h2 <;> simp at h2 ⊢ <;> exact h2
  rw [bt_tb, bt_tb, h1]
  unfold andn
  rw [Nat.testBit_and, Nat.testBit_xor, tb255 r hr]
  cases d.testBit r <;> cases e.testBit r <;> decide
theorem andn_lt {d e : Nat} (hd : d < 256) : andn d e < 256 := Nat.lt_of_le_of_lt Nat.and_le_left hd
theorem xor8 : ∀ d : Nat, d < 256 → a2 (fun x y => x ^^^ y) (d : Int) (-1) = -(d : Int) - 1 := by decide +kernel
theorem andn8 : ∀ d : Nat, d < 256 → ∀ e : Nat, e < 256 → a2 (fun x y => x &&& y) (d : Int) (-(e : Int) - 1) = ((andn d e : Nat) : Int) := by decide +kernel
