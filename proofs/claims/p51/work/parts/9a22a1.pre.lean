/-! premises of the start, forget -/
theorem sbn_forget {s s' : State} {L : List Loc} {k n k' n' : Nat} (h : s.sameButNew s' L k n) (hL : ∀ q ∈ L, s.heap.size ≤ q.base) (hk : k ≤ k') (hn : n ≤ n') : s.sameButNew s' [] k' n' := by
  obtain ⟨h1, h2, h3, h4, h5, h6⟩ := h
  refine ⟨h1, h2, by omega, h4, by omega, fun a c hc => ?_⟩
  obtain ⟨c', g1, g2, g3, g4⟩ := h6 a c hc
  refine ⟨c', g1, g2, g3, fun i _ => g4 i fun hm => ?_⟩
  have := hL _ hm
  have h9 : a < s.heap.size := (Array.getElem?_eq_some_iff.mp hc).1
  have h8 : s.heap.size ≤ a := this
  exact absurd h9 (Nat.not_lt.mpr h8)
