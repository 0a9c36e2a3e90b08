/-! premises of the start, record -/
theorem law_rec : ∃ q : Mrec, mtb[(344 : Nat)]? = some q ∧ q.1 = ⟨R_law, "law", "([I)Z"⟩ ∧ q.2.1 = code ∧ q.2.2.1 = 15 ∧ q.2.2.2.1 = ret ∧ q.2.2.2.2.1 = [] := ⟨_, rfl, rfl, rfl, rfl, rfl, rfl⟩
theorem law_rk : rkA 344 [vs 3] = 36 := by decide +kernel
