/-! premises of the start, references -/
theorem stw_R : ∀ i, i < 53 → lw_tbl[srT.getD i 0]? = some (Cond.stringRef (stq i).1 (stq i).2.1 (stq i).2.2) := by decide +kernel
