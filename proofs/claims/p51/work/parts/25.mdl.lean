/-! the reference: numbers and queues -/
/-- the reference's events and packets are those of h (packet k arrives in the event a k), of ne events and np packets -/
def mH (I : Ix) (s : Nat) (h : Hi) (a : Nat → Nat) (ne np : Nat) : Prop := ne ≤ 120 ∧ np ≤ ne ∧ (∀ e, e < ne → I (s + 10) (7 * e) = (hKind h e : Int) ∧ (hKind h e ≠ 1 → I (s + 10) (7 * e + 1) = (hPort h e : Int)) ∧ (hKind h e = 0 → I (s + 10) (7 * e + 6) = (hPk h e : Int))) ∧
  ∀ k, k < np → I (s + 11) k = (a k : Int) ∧ a k < ne ∧ I (s + 10) (7 * a k + 2) = (hSrc h k : Int) ∧ I (s + 10) (7 * a k + 3) = (hTgt h k : Int) ∧ I (s + 10) (7 * a k + 4) = (hSiz h k : Int) ∧ I (s + 10) (7 * a k + 5) = (hRnk h k : Int)
def okHi (h : Hi) : Prop := ∀ k, hSiz h k ≤ 9 ∧ 1 ≤ hSiz h k ∧ hRnk h k ≤ 3 ∧ hSrc h k < 64 ∧ hTgt h k < 64
/-- a queue of the reference -/
def mQ (I : Ix) (s p : Nat) (q : List Cp) : Prop := I (s + 30) p = (q.length : Int) ∧ q.length ≤ 99 ∧ ∀ k, k < q.length → I (s + 28) (100 * p + k) = ((q.getD k (0, 0)).1 : Int) ∧ I (s + 29) (100 * p + k) = ((q.getD k (0, 0)).2 : Int)
theorem fillQ_nil (h : Hi) : fillQ h [] = 0 := rfl
theorem take_s {q : List Cp} {k : Nat} (hk : k < q.length) : q.take (k + 1) = q.take k ++ [q.getD k (0, 0)] := by
  rw [List.take_succ, List.getD_eq_getElem?_getD, List.getElem?_eq_getElem hk]; rfl
theorem fillQ_app (h : Hi) (a b : List Cp) : fillQ h (a ++ b) = fillQ h a + fillQ h b := by
  unfold fillQ; rw [List.map_append, List.sum_append]
theorem fillQ_s {h : Hi} {q : List Cp} {k : Nat} (hk : k < q.length) : fillQ h (q.take (k + 1)) = fillQ h (q.take k) + hSiz h (q.getD k (0, 0)).1 := by
  rw [take_s hk, fillQ_app]; rfl
theorem fillQ_le {h : Hi} (ok : okHi h) : ∀ q : List Cp, fillQ h q ≤ 9 * q.length
  | [] => Nat.le_refl _
  | c :: r => by
    have h1 := fillQ_le ok r
    have h2 := (ok c.1).1
    show hSiz h c.1 + fillQ h r ≤ 9 * (r.length + 1)
    omega
section MDL
variable {xs : List Int} {S : List (Nat × Nat)} {T : Nat → Nat → Nat} {cc zz s : Nat}

end MDL
