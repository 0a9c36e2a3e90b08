/-! rows of numbers and lists -/
/-- the places from b on of the row o are the list q -/
def rowR (I : Ix) (o b : Nat) (q : List Nat) : Prop := ∀ k, k < q.length → I o (b + k) = ((q.getD k 0 : Nat) : Int)
theorem getD_e {α : Type} {q : List α} {i j : Nat} {d : α} (hj : j < (q.eraseIdx i).length) : (q.eraseIdx i).getD j d = if j < i then q.getD j d else q.getD (j + 1) d := by
  rw [List.getD_eq_getElem?_getD, List.getElem?_eraseIdx]
  split <;> rw [List.getD_eq_getElem?_getD]
theorem len_e {α : Type} {q : List α} {i : Nat} (hi : i < q.length) : (q.eraseIdx i).length = q.length - 1 := List.length_eraseIdx_of_lt hi
theorem getD_a {α : Type} {q : List α} {x d : α} {j : Nat} (hj : j < q.length + 1) : (q ++ [x]).getD j d = if j < q.length then q.getD j d else x := by
  rw [List.getD_eq_getElem?_getD]
  split
  · rename_i h; rw [List.getElem?_append_left h, List.getD_eq_getElem?_getD]
  · rename_i h
    rw [List.getElem?_append_right (by omega)]
    have : j - q.length = 0 := by omega
    rw [this]; rfl
theorem rowR_er {I : Ix} {o b i : Nat} {q : List Nat} (h : rowR I o b q) (hi : i < q.length) : rowR (cpy I o (b + i + 1) o (b + i) (q.length - i - 1)) o b (q.eraseIdx i) := by
  intro k hk
  have hl := len_e hi
  rw [getD_e hk]
  by_cases hki : k < i
  · rw [if_pos hki]
    show (if o = o ∧ b + i ≤ b + k ∧ b + k < b + i + (q.length - i - 1) then _ else _) = _
    rw [if_neg (by omega)]
    exact h k (by omega)
  · rw [if_neg hki]
    show (if o = o ∧ b + i ≤ b + k ∧ b + k < b + i + (q.length - i - 1) then _ else _) = _
    rw [if_pos ⟨rfl, by omega, by omega⟩, show b + i + 1 + (b + k - (b + i)) = b + (k + 1) by omega]
    exact h (k + 1) (by omega)
theorem rowR_ap {I : Ix} {o b x : Nat} {q : List Nat} (h : rowR I o b q) : rowR (up I o (b + q.length) (x : Int)) o b (q ++ [x]) := by
  intro k hk
  have hk : k < q.length + 1 := by simpa using hk
  rw [getD_a hk]
  by_cases hki : k < q.length
  · rw [if_pos hki, up_nj (by omega)]
    exact h k hki
  · rw [if_neg hki]
    have : k = q.length := by omega
    subst this
    exact up_eq
/-- what is elsewhere stays -/
theorem rowR_eq {I I' : Ix} {o b : Nat} {q : List Nat} (h : rowR I o b q) (e : ∀ k, k < q.length → I' o (b + k) = I o (b + k)) : rowR I' o b q := fun k hk => (e k hk).trans (h k hk)
/-- one place more of a shift to the left -/
theorem cpy_0 (I : Ix) (a sp b dp : Nat) : cpy I a sp b dp 0 = I := by
  funext x y; unfold cpy; rw [if_neg (by omega)]
theorem cpy_s (I : Ix) (a sp n : Nat) : up (cpy I a (sp + 1) a sp n) a (sp + n) (I a (sp + n + 1)) = cpy I a (sp + 1) a sp (n + 1) := by
  funext x y; unfold up cpy
  by_cases h : x = a ∧ y = sp + n
  · rw [if_pos h, if_pos ⟨h.1, by omega, by omega⟩, h.2]
    congr 1; omega
  · rw [if_neg h]
    by_cases h2 : x = a ∧ sp ≤ y ∧ y < sp + n
    · rw [if_pos h2, if_pos ⟨h2.1, h2.2.1, by omega⟩]
    · rw [if_neg h2, if_neg (by omega)]
theorem up_cm {I : Ix} {a j b k : Nat} {v w : Int} (h : a ≠ b) : up (up I a j v) b k w = up (up I b k w) a j v := by
  funext x y; unfold up
  by_cases h1 : x = b ∧ y = k
  · rw [if_pos h1, if_neg (by omega), if_pos h1]
  · rw [if_neg h1, if_neg (c := x = b ∧ y = k) h1]
theorem cpy_cm {I : Ix} {a j o sp dp n : Nat} {v : Int} (h : a ≠ o) : cpy (up I a j v) o sp o dp n = up (cpy I o sp o dp n) a j v := by
  funext x y; unfold up cpy
  by_cases h1 : x = o ∧ dp ≤ y ∧ y < dp + n
  · rw [if_pos h1, if_neg (by omega), if_pos h1]
    exact if_neg (fun q => h q.1.symm)
  · rw [if_neg h1, if_neg (c := x = o ∧ dp ≤ y ∧ y < dp + n) h1]
/-- sums, the first of the greatest, the last of the least -/
theorem hiK_lt (f : Nat → Nat) : ∀ n, 0 < n → hiK f n < n
  | 0, h => absurd h (by omega)
  | n + 1, _ => by
    unfold hiK
    split
    · omega
    · have := hiK_lt f n (by omega)
      split <;> omega
theorem loK_lt (f : Nat → Nat) : ∀ n, 0 < n → loK f n < n
  | 0, h => absurd h (by omega)
  | n + 1, _ => by
    unfold loK
    split
    · omega
    · have := loK_lt f n (by omega)
      split <;> omega
theorem loK_le (f : Nat → Nat) : ∀ n k, k < n → f (loK f n) ≤ f k
  | 0, k, h => absurd h (by omega)
  | n + 1, k, h => by
    unfold loK
    by_cases hn : n = 0
    · rw [if_pos hn]
      have : k = 0 := by omega
      subst this; exact Nat.le_refl _
    · rw [if_neg hn]
      by_cases hf : f n ≤ f (loK f n)
      · rw [if_pos hf]
        by_cases hk : k = n
        · subst hk; exact Nat.le_refl _
        · exact Nat.le_trans hf (loK_le f n k (by omega))
      · rw [if_neg hf]
        by_cases hk : k = n
        · subst hk; omega
        · exact loK_le f n k (by omega)
theorem loK_la (f : Nat → Nat) : ∀ n k, k < n → loK f n < k → f (loK f n) < f k
  | 0, k, h, _ => absurd h (by omega)
  | n + 1, k, h, h2 => by
    unfold loK at h2 ⊢
    by_cases hn : n = 0
    · rw [if_pos hn] at h2 ⊢
      omega
    · rw [if_neg hn] at h2 ⊢
      by_cases hf : f n ≤ f (loK f n)
      · rw [if_pos hf] at h2 ⊢
        omega
      · rw [if_neg hf] at h2 ⊢
        by_cases hk : k = n
        · subst hk; omega
        · exact loK_la f n k (by omega) h2
