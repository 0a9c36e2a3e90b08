/-! premises of the start, casts -/
theorem ncw : ∀ a, a < 4 → ∀ b, b < 4 → a ≠ b → prem[ncT.getD (4 * a + b) 0]? = some (Cond.not (.castable (exn a) (exn b))) := by decide +kernel
