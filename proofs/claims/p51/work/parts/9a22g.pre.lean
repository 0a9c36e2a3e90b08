/-! premises of the start, strings -/
theorem exp_ok : ((prem.drop 217).filter notSame).take 397 = exps := by decide +kernel
theorem exp_in0 {i : Nat} (hi : i ∈ exO) {w : Cond} (h : w ∈ exps1 i) : w ∈ prem := by
  have h1 : w ∈ exps := List.mem_flatMap.mpr ⟨i, hi, h⟩
  have h2 : w ∈ ((prem.drop 217).filter notSame).take 397 := by rw [exp_ok]; exact h1
  exact List.mem_of_mem_drop (List.mem_filter.mp (List.mem_of_mem_take h2)).1
theorem exO_all : ∀ i, i < 45 → i ∈ exO := by decide
theorem ex_dup : ∀ i, 45 ≤ i → i < 53 → stq i = stq 0 ∧ stb.getD i [] = stb.getD 0 [] := by
  intro i h1 h2
  have : i = 45 ∨ i = 46 ∨ i = 47 ∨ i = 48 ∨ i = 49 ∨ i = 50 ∨ i = 51 ∨ i = 52 := by omega
  rcases this with rfl | rfl | rfl | rfl | rfl | rfl | rfl | rfl <;> exact ⟨rfl, rfl⟩
theorem exp_in {i : Nat} (hi : i < 53) {w : Cond} (h : w ∈ exps1 i) : w ∈ prem := by
  by_cases h45 : i < 45
  · exact exp_in0 (exO_all i h45) h
  · obtain ⟨e1, e2⟩ := ex_dup i (by omega) hi
    refine exp_in0 (exO_all 0 (by decide)) ?_
    unfold exps1 stT stl at h ⊢
    rw [e1, e2] at h
    exact h
theorem stw_x {i : Nat} (hi : i < 53) : Cond.exactly (stT i) "java/lang/String" ∈ prem := exp_in hi (by unfold exps1; exact List.mem_cons_self ..)
theorem stw_c {i : Nat} (hi : i < 53) : Cond.eq (.field (stT i) "java/lang/String" "coder" "B") (.int 0) ∈ prem := exp_in hi (by unfold exps1; exact List.mem_cons_of_mem _ (List.mem_cons_self ..))
theorem stw_a {i : Nat} (hi : i < 53) : Cond.arrayOf (.field (stT i) "java/lang/String" "value" "[B") .byte ∈ prem := exp_in hi (by unfold exps1; exact List.mem_cons_of_mem _ (List.mem_cons_of_mem _ (List.mem_cons_self ..)))
theorem stw_l {i : Nat} (hi : i < 53) : Cond.eq (.length (.field (stT i) "java/lang/String" "value" "[B")) (.int (Int32.ofNat (stl i))) ∈ prem := exp_in hi (by unfold exps1; exact List.mem_cons_of_mem _ (List.mem_cons_of_mem _ (List.mem_cons_of_mem _ (List.mem_cons_self ..))))
theorem stw_e {i j : Nat} (hi : i < 53) (hj : j < stl i) : Cond.eq (.elem (.field (stT i) "java/lang/String" "value" "[B") (.int (Int32.ofNat j))) (.int (i32 ((stb.getD i []).getD j 0))) ∈ prem :=
  exp_in hi (by unfold exps1; exact List.mem_cons_of_mem _ (List.mem_cons_of_mem _ (List.mem_cons_of_mem _ (List.mem_cons_of_mem _ (List.mem_map.mpr ⟨j, List.mem_range.mpr hj, rfl⟩)))))
theorem dg_1 : (prem.drop 12).take 102 = dgs "DigitOnes" 53 := by decide +kernel
theorem dg_2 : (prem.drop 115).take 102 = dgs "DigitTens" 54 := by decide +kernel
theorem dg_in1 {w : Cond} (h : w ∈ dgs "DigitOnes" 53) : w ∈ prem := by rw [← dg_1] at h; exact List.mem_of_mem_drop (List.mem_of_mem_take h)
theorem dg_in2 {w : Cond} (h : w ∈ dgs "DigitTens" 54) : w ∈ prem := by rw [← dg_2] at h; exact List.mem_of_mem_drop (List.mem_of_mem_take h)
theorem dg_row {args : Array Value} {s : State} {nm : String} {i : Nat} {A : Nat → Prop} (hm : ∀ {w : Cond}, w ∈ dgs nm i → w.before args s = true) (hi : stl i < 2 ^ 31) (hA : ∀ a : Nat, a < s.heap.size → ¬ A a) : ∃ t : Nat, (Term.static "java/lang/Integer" nm "[B").eval args s none [] s = some (.ref t) ∧ va_T .byte t (stl i) (fun j => .int (i32 ((stb.getD i []).getD j 0))) A s s.heap :=
  va_Tof (f := fun j => .int (i32 ((stb.getD i []).getD j 0))) hi (hm (by unfold dgs; exact List.mem_cons_self ..)) (va_eqt (hm (by unfold dgs; exact List.mem_cons_of_mem _ (List.mem_cons_self ..)))) (fun j hj => va_eqt (hm (by unfold dgs; exact List.mem_cons_of_mem _ (List.mem_cons_of_mem _ (List.mem_map.mpr ⟨j, List.mem_range.mpr hj, rfl⟩))))) hA
theorem sel_p {args : Array Value} {s : State} {C : String} {y z : MethodName} (hy : y.cls ≠ "java/lang/invoke/MethodHandle" ∧ y.cls ≠ "java/lang/invoke/VarHandle") (hc : y.cls = z.cls) (hz : (Cond.selects C z z).before args s = true) (hp : (Cond.privateMethod y).before args s = true) (hi : (Cond.instanceMethod y).before args s = true) : (Cond.selects C y y).before args s = true := by
  obtain ⟨c2, r2, m2, q1, q2, q3, q4, kP, hkP, hkPi⟩ := Cond.selects_spec hz
  obtain ⟨mk, methM, hnamed, hmethM, -, -⟩ := Cond.instanceMethod_spec hi
  have hfound : s.methodFound? y.cls y.name y.desc = some mk := State.methodFound?_of_named hnamed hy
  have e : mk.cls = m2.cls := by
    have h1 := findClass_of_methodNamed hnamed
    have h2 := findClass_of_methodNamed q3
    rw [hc] at h1
    exact Option.some.inj (h1.symm.trans h2)
  have hsel : selectMethod {} s.vm c2 mk = .method mk := selectMethod_private hmethM (Cond.privateMethod_at hp mk methM hnamed hmethM)
  simp only [Cond.before, Cond.holds, Cond.value, q1, hfound, hnamed, hsel, e, hkP]
  simp; exact hkPi
theorem privY_all {y : MethodName} (h : y ∈ privY) : ∃ i, i < 6 ∧ privY.getD i yX0_init = y := by
  obtain ⟨i, hi, rfl⟩ := List.getElem_of_mem h
  have h6 : i < 6 := hi
  exact ⟨i, h6, by rw [List.getD_eq_getElem?_getD, List.getElem?_eq_getElem hi]; rfl⟩
theorem privY_c : ∀ i, i < 6 → (privY.getD i yX0_init).cls = "java/lang/AbstractStringBuilder" := by decide +kernel
