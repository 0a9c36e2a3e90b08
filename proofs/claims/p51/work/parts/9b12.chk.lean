/-! the law's lines, checked one by one -/
def csN (u : List Int) (K : Ps) (p : Nat) : Cd := match condR (tl u) u.length (atomR (tl u) u.length K 5) p with
  | .inr (_, c) => c
  | .inl _ => []
/-- K ports of the names a to d, with p before -/
def PK (K : Nat) : Ps := (((K, 0), (fun _ => (0, 0)), (fun _ => none), (400, 99, 100), (fun _ => false), fun _ => false), (fun i => [i + 1, 16]), fun _ => [])
def no4 (u : List Int) : Bool := !isWL (tl u) u.length (strB 0) 0 && !isWL (tl u) u.length (strB 1) 0 && !isWL (tl u) u.length (strB 2) 0 && !isWL (tl u) u.length (strB 3) 0
def ckBuf (u : List Int) (V : Nat) : Bool := okU u && no4 u && isWL (tl u) u.length (strB 14) 0 && decide (numR (tl u) u.length 1 400 (nxt (tl u) u.length 0) = .inr (V, u.length - 1))
def ckWait (u : List Int) (V : Nat) : Bool := okU u && no4 u && !isWL (tl u) u.length (strB 14) 0 && !isWL (tl u) u.length (strB 15) 0 && isWL (tl u) u.length (strB 16) 0 && decide (numR (tl u) u.length 1 99 (nxt (tl u) u.length 0) = .inr (V, u.length - 1))
def ckAge (u : List Int) (V : Nat) : Bool := okU u && no4 u && !isWL (tl u) u.length (strB 14) 0 && isWL (tl u) u.length (strB 15) 0 && decide (numR (tl u) u.length 0 999 (nxt (tl u) u.length 0) = .inr (V, u.length - 1))
def ckPol (u : List Int) (R B : Nat) : Bool := okU u && !isWL (tl u) u.length (strB 0) 0 && isWL (tl u) u.length (strB 1) 0 && decide (nameR (tl u) u.length (nxt (tl u) u.length 0) = .inr [1, 16]) && decide (numR (tl u) u.length 0 99 (nxt (tl u) u.length (nxt (tl u) u.length 0)) = .inr (R, qN u 0 99 (nxt (tl u) u.length (nxt (tl u) u.length 0)))) && decide (numR (tl u) u.length 0 99 (qN u 0 99 (nxt (tl u) u.length (nxt (tl u) u.length 0))) = .inr (B, u.length - 1))
def ckRule (K : Nat) (u : List Int) : Bool := okU u && !isWL (tl u) u.length (strB 0) 0 && !isWL (tl u) u.length (strB 1) 0 && (isWL (tl u) u.length (strB 2) 0 || isWL (tl u) u.length (strB 3) 0) && isWL (tl u) u.length (strB 4) (nxt (tl u) u.length 0) && decide (condR (tl u) u.length (atomR (tl u) u.length (PK K) 5) (nxt (tl u) u.length (nxt (tl u) u.length 0)) = .inr (u.length - 1, csN u (PK K) (nxt (tl u) u.length (nxt (tl u) u.length 0))))
theorem ck_buf : ∀ V, V < 38 → 8 ≤ V → ckBuf (uSet 0 V) V = true := by decide +kernel
theorem ck_wait : ∀ V, V < 11 → 2 ≤ V → ckWait (uSet 1 V) V = true := by decide +kernel
theorem ck_age : ∀ V, V < 12 → ckAge (uSet 2 V) V = true := by decide +kernel
theorem ck_pol : ∀ R, R < 5 → ∀ B, B < 15 → ckPol (uPol R B) R B = true := by decide +kernel
theorem ck_r1 : ∀ K, K < 5 → 2 ≤ K → ∀ ps ng o : Bool, ∀ k, k < 6 → ckRule K (uRule ps ng o (uAtom true (3 + k) 0)) = true := by decide +kernel
theorem ck_r2 : ∀ ps ng o : Bool, ∀ x, x < 6 → ∀ y, y < 6 → ckRule 2 (uRule ps ng o (uAtom false x y)) = true := by decide +kernel
theorem ck_r3 : ∀ ps ng o : Bool, ∀ x, x < 6 → ∀ y, y < 6 → ckRule 3 (uRule ps ng o (uAtom false x y)) = true := by decide +kernel
theorem ck_r4 : ∀ ps ng o : Bool, ∀ x, x < 6 → ∀ y, y < 6 → ckRule 4 (uRule ps ng o (uAtom false x y)) = true := by decide +kernel
theorem ck_fn : ∀ K, K < 4 → fnd (PK K) [K + 1, 16] = none := by decide +kernel
theorem ck_fa : ∀ K, K < 5 → 1 ≤ K → fnd (PK K) [1, 16] = some 0 := by decide +kernel
