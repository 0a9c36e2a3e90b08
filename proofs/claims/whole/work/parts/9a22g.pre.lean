/-! premises of the start, strings -/
theorem exp_ok : ((prem.drop 67).filter notSame).take 430 = exps := by decide +kernel
theorem exp_in {i : Nat} (hi : i < 53) {w : Cond} (h : w ∈ exps1 i) : w ∈ prem := by
  have h1 : w ∈ exps := List.mem_flatMap.mpr ⟨i, List.mem_range.mpr hi, h⟩
  have h2 : w ∈ ((prem.drop 67).filter notSame).take 430 := by rw [exp_ok]; exact h1
  exact List.mem_of_mem_drop (List.mem_filter.mp (List.mem_of_mem_take h2)).1
theorem stw_x {i : Nat} (hi : i < 53) : Cond.exactly (stT i) "java/lang/String" ∈ prem := exp_in hi (by unfold exps1; exact List.mem_cons_self ..)
theorem stw_c {i : Nat} (hi : i < 53) : Cond.eq (.field (stT i) "java/lang/String" "coder" "B") (.int 0) ∈ prem := exp_in hi (by unfold exps1; exact List.mem_cons_of_mem _ (List.mem_cons_self ..))
theorem stw_a {i : Nat} (hi : i < 53) : Cond.arrayOf (.field (stT i) "java/lang/String" "value" "[B") .byte ∈ prem := exp_in hi (by unfold exps1; exact List.mem_cons_of_mem _ (List.mem_cons_of_mem _ (List.mem_cons_self ..)))
theorem stw_l {i : Nat} (hi : i < 53) : Cond.eq (.length (.field (stT i) "java/lang/String" "value" "[B")) (.int (Int32.ofNat (stl i))) ∈ prem := exp_in hi (by unfold exps1; exact List.mem_cons_of_mem _ (List.mem_cons_of_mem _ (List.mem_cons_of_mem _ (List.mem_cons_self ..))))
theorem stw_e {i j : Nat} (hi : i < 53) (hj : j < stl i) : Cond.eq (.elem (.field (stT i) "java/lang/String" "value" "[B") (.int (Int32.ofNat j))) (.int (i32 ((stb.getD i []).getD j 0))) ∈ prem :=
  exp_in hi (by unfold exps1; exact List.mem_cons_of_mem _ (List.mem_cons_of_mem _ (List.mem_cons_of_mem _ (List.mem_cons_of_mem _ (List.mem_map.mpr ⟨j, List.mem_range.mpr hj, rfl⟩)))))
