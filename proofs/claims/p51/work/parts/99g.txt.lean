/-! THE MODEL of the input text: tokens, numbers, names, conditions, lines -/
def isWs (b : Int) : Bool := decide (b = 32) || decide (b = 9) || decide (b = 10)
def isLo (b : Int) : Bool := decide (97 ≤ b) && decide (b ≤ 122)
def isDg (b : Int) : Bool := decide (48 ≤ b) && decide (b ≤ 57)
/-- from i on, behind all that is of f -/
def runX (f : Int → Bool) (t : Nat → Int) (n : Nat) : Nat → Nat → Nat
  | 0, i => i
  | d + 1, i => if decide (i < n) && f (t i) then runX f t n d (i + 1) else i
theorem runX_ge {f : Int → Bool} {t : Nat → Int} {n : Nat} : ∀ d i, i ≤ runX f t n d i
  | 0, i => Nat.le_refl i
  | d + 1, i => by
    unfold runX
    split
    · exact Nat.le_trans (Nat.le_succ i) (runX_ge d (i + 1))
    · exact Nat.le_refl i
theorem runX_le {f : Int → Bool} {t : Nat → Int} {n : Nat} : ∀ d i, i ≤ n → runX f t n d i ≤ n
  | 0, i, h => h
  | d + 1, i, h => by
    unfold runX
    split
    · rename_i hc
      rw [Bool.and_eq_true, decide_eq_true_iff] at hc
      exact runX_le d (i + 1) hc.1
    · exact h
theorem runX_all {f : Int → Bool} {t : Nat → Int} {n : Nat} : ∀ d i k, i ≤ k → k < runX f t n d i → f (t k) = true ∧ k < n
  | 0, i, k, h1, h2 => absurd h2 (by unfold runX; omega)
  | d + 1, i, k, h1, h2 => by
    unfold runX at h2
    split at h2
    · rename_i hc
      rw [Bool.and_eq_true, decide_eq_true_iff] at hc
      by_cases hk : k = i
      · rw [hk]; exact ⟨hc.2, hc.1⟩
      · exact runX_all d (i + 1) k (by omega) h2
    · omega
theorem runX_stop {f : Int → Bool} {t : Nat → Int} {n : Nat} : ∀ d i, n ≤ i + d → runX f t n d i < n → f (t (runX f t n d i)) = false
  | 0, i, h1, h2 => absurd h2 (by unfold runX; omega)
  | d + 1, i, h1, h2 => by
    unfold runX at h2 ⊢
    split
    · rename_i hc
      rw [if_pos hc] at h2
      exact runX_stop d (i + 1) (by omega) h2
    · rename_i hc
      rw [if_neg hc] at h2
      rw [Bool.and_eq_true, decide_eq_true_iff] at hc
      exact Bool.eq_false_iff.mpr fun hf => hc ⟨h2, hf⟩
theorem runX_t {f : Int → Bool} {t : Nat → Int} {n i : Nat} (h : i < n) (hf : f (t i) = true) : runX f t n (n - i) i = runX f t n (n - (i + 1)) (i + 1) := by
  rw [show n - i = (n - (i + 1)) + 1 by omega]
  show (if _ then _ else _) = _
  rw [if_pos (by rw [hf, decide_eq_true h]; rfl)]
theorem runX_f {f : Int → Bool} {t : Nat → Int} {n i : Nat} (h : ¬ (i < n ∧ f (t i) = true)) : runX f t n (n - i) i = i := by
  cases hd : n - i with
  | zero => rfl
  | succ d =>
    show (if _ then _ else _) = _
    rw [if_neg (by rw [Bool.and_eq_true, decide_eq_true_iff]; exact h)]
section TXT
variable (t : Nat → Int) (n : Nat)
def skw (i : Nat) : Nat := runX isWs t n (n - i) i
def wEnd (i : Nat) : Nat := runX isLo t n (n - i) i
def dEnd (i : Nat) : Nat := runX isDg t n (n - i) i
/-- the kind of the token at p: 0 none, 1 a word, 2 a number, 3 a sign -/
def tkk (p : Nat) : Nat := if p < n then (if isLo (t p) then 1 else if isDg (t p) then 2 else 3) else 0
def tEnd (p : Nat) : Nat := if p < n then (if isLo (t p) then wEnd t n p else if isDg (t p) then dEnd t n p else p + 1) else p
def nxt (p : Nat) : Nat := skw t n (tEnd t n p)
def isWL (w : List Nat) (p : Nat) : Bool := decide (wEnd t n p = p + w.length) && decide (w ≠ []) && (List.range w.length).all (fun i => decide (t (p + i) = ((w.getD i 0 : Nat) : Int)))
def isSg (c : Int) (p : Nat) : Bool := decide (p < n) && decide (t p = c)
def numV (p : Nat) : Nat → Nat
  | 0 => 0
  | k + 1 => numV p k * 10 + (t (p + k) - 48).toNat
def nmL (p : Nat) : Nat → List Nat
  | 0 => []
  | k + 1 => (t (p + k) - 96).toNat :: nmL p k
end TXT
abbrev PR (α : Type) : Type := (Nat × Nat) ⊕ α
def fndF (nm : Nat → List Nat) (x : List Nat) : Nat → Nat → Option Nat
  | 0, _ => none
  | d + 1, i => if nm i = x then some i else fndF nm x d (i + 1)
/-- settings, names, codes of rules: what the lines so far have told -/
abbrev Ps : Type := Li × (Nat → List Nat) × (Nat → Cd)
def fnd (P : Ps) (x : List Nat) : Option Nat := fndF P.2.1 x (lPorts P.1) 0
section GRM
variable (t : Nat → Int) (n : Nat)
/-- a number, and where it goes on; errors: 1 syntax, 2 number, 3 name, 4 too many -/
def numR (lo hi p : Nat) : PR (Nat × Nat) :=
  if tkk t n p ≠ 2 then .inl (1, p) else if 3 < dEnd t n p - p then .inl (2, p) else if numV t p (dEnd t n p - p) < lo ∨ hi < numV t p (dEnd t n p - p) then .inl (2, p) else .inr (numV t p (dEnd t n p - p), nxt t n p)
def nameR (p : Nat) : PR (List Nat) := if tkk t n p ≠ 1 ∨ 6 < wEnd t n p - p then .inl (1, p) else .inr (nmL t p (wEnd t n p - p))
/-- the number of a port that was told, by its name -/
def portR (P : Ps) (p : Nat) : PR (Nat × Nat) := match nameR t n p with
  | .inl e => .inl e
  | .inr x => match fnd P x with
    | none => .inl (3, p)
    | some i => .inr (i, nxt t n p)
def cmpR (f p : Nat) : PR (Nat × (Nat × Nat × Nat)) :=
  if isSg t n 60 p || isSg t n 61 p || isSg t n 62 p then (match numR t n 0 999 (nxt t n p) with
    | .inl e => .inl e
    | .inr (v, p2) => .inr (p2, ((if isSg t n 60 p then 1 else if isSg t n 62 p then 3 else 2), v, f))) else .inl (1, p)
/-- an atom that is no nesting -/
def leafR (P : Ps) (p : Nat) : PR (Nat × (Nat × Nat × Nat)) :=
  if isWL t n (strB 6) p then .inr (nxt t n p, (5, 0, 0)) else if isWL t n (strB 7) p then (match portR t n P (nxt t n p) with
    | .inl e => .inl e
    | .inr (i, p2) => .inr (p2, (4, i, 0)))
  else if isWL t n (strB 8) p then cmpR t n 0 (nxt t n p) else if isWL t n (strB 9) p then cmpR t n 1 (nxt t n p) else if isWL t n (strB 10) p then cmpR t n 2 (nxt t n p) else if isWL t n (strB 11) p then cmpR t n 3 (nxt t n p)
  else .inl (1, p)
/-- what f reads, and more of it behind each word w, with the code c behind each more -/
def moreR (f : Nat → PR (Nat × Cd)) (w : List Nat) (c : Nat) : Nat → Nat → Cd → PR (Nat × Cd)
  | 0, p, cs => .inr (p, cs)
  | d + 1, p, cs => if isWL t n w p then (match f (nxt t n p) with
    | .inl e => .inl e
    | .inr (p2, c2) => moreR f w c d p2 (cs ++ c2 ++ [(c, 0, 0)])) else .inr (p, cs)
def listR (f : Nat → PR (Nat × Cd)) (w : List Nat) (c : Nat) (p : Nat) : PR (Nat × Cd) := match f p with
  | .inl e => .inl e
  | .inr (p2, c2) => moreR t n f w c n p2 c2
def allR (f : Nat → PR (Nat × Cd)) : Nat → PR (Nat × Cd) := listR t n f (strB 12) 7
def condR (f : Nat → PR (Nat × Cd)) : Nat → PR (Nat × Cd) := listR t n (allR t n f) (strB 13) 8
def isNest (p : Nat) : Bool := isWL t n (strB 5) p || isSg t n 40 p
/-- an atom, with d nestings more to come at most -/
def atomR (P : Ps) : Nat → Nat → PR (Nat × Cd)
  | 0, p => if isNest t n p then .inl (4, p) else (match leafR t n P p with
    | .inl e => .inl e
    | .inr (p2, c) => .inr (p2, [c]))
  | d + 1, p => if isNest t n p then (if isWL t n (strB 5) p then (match atomR P d (nxt t n p) with
      | .inl e => .inl e
      | .inr (p2, cs) => .inr (p2, cs ++ [(6, 0, 0)]))
    else (match condR t n (atomR P d) (nxt t n p) with
      | .inl e => .inl e
      | .inr (p2, cs) => if isSg t n 41 p2 then .inr (nxt t n p2, cs) else .inl (1, p2))) else (match leafR t n P p with
    | .inl e => .inl e
    | .inr (p2, c) => .inr (p2, [c]))
def psPort (P : Ps) (x : List Nat) (c sp : Nat) : Ps := (((lPorts P.1 + 1, lRules P.1), fu P.1.2.1 (lPorts P.1) (c, sp), fu P.1.2.2.1 (lPorts P.1) none, P.1.2.2.2), fu P.2.1 (lPorts P.1) x, P.2.2)
def psPol (P : Ps) (i r b : Nat) : Ps := ((P.1.1, P.1.2.1, fu P.1.2.2.1 i (some (r, b)), P.1.2.2.2), P.2)
def psBuf (P : Ps) (v : Nat) : Ps := ((P.1.1, P.1.2.1, P.1.2.2.1, (v, lWait P.1, lAge P.1), P.1.2.2.2.2), P.2)
def psWait (P : Ps) (v : Nat) : Ps := ((P.1.1, P.1.2.1, P.1.2.2.1, (lBuf P.1, v, lAge P.1), P.1.2.2.2.2), P.2)
def psAge (P : Ps) (v : Nat) : Ps := ((P.1.1, P.1.2.1, P.1.2.2.1, (lBuf P.1, lWait P.1, v), P.1.2.2.2.2), P.2)
def psRule (P : Ps) (b : Bool) (cs : Cd) : Ps := (((lPorts P.1, lRules P.1 + 1), P.1.2.1, P.1.2.2.1, P.1.2.2.2.1, fu P.1.2.2.2.2.1 (lRules P.1) b, P.1.2.2.2.2.2), P.2.1, fu P.2.2 (lRules P.1) cs)
def ps0 : Ps := (((0, 0), (fun _ => (0, 0)), (fun _ => none), (400, 99, 100), (fun _ => false), fun _ => false), (fun _ => []), fun _ => [])
def portL (P : Ps) (p : Nat) : PR (Ps × Nat) := if 4 ≤ lPorts P.1 then .inl (4, p) else match nameR t n (nxt t n p) with
  | .inl e => .inl e
  | .inr x => if (fnd P x).isSome then .inl (3, nxt t n p) else match numR t n 1 99 (nxt t n (nxt t n p)) with
    | .inl e => .inl e
    | .inr (c, p3) => match numR t n 0 9 p3 with
      | .inl e => .inl e
      | .inr (sp, p4) => .inr (psPort P x c sp, p4)
def polL (P : Ps) (p : Nat) : PR (Ps × Nat) := match portR t n P (nxt t n p) with
  | .inl e => .inl e
  | .inr (i, p2) => match numR t n 0 99 p2 with
    | .inl e => .inl e
    | .inr (r, p3) => match numR t n 0 99 p3 with
      | .inl e => .inl e
      | .inr (b, p4) => .inr (psPol P i r b, p4)
def setL (P : Ps) (g : Ps → Nat → Ps) (lo hi p : Nat) : PR (Ps × Nat) := match numR t n lo hi (nxt t n p) with
  | .inl e => .inl e
  | .inr (v, p2) => .inr (g P v, p2)
def rulL' (P : Ps) (b : Bool) (p : Nat) : PR (Ps × Nat) := if 8 ≤ lRules P.1 then .inl (4, p) else if isWL t n (strB 4) (nxt t n p) then (match condR t n (atomR t n P 5) (nxt t n (nxt t n p)) with
    | .inl e => .inl e
    | .inr (p2, cs) => .inr (psRule P b cs, p2)) else .inl (1, nxt t n p)
def lineR (P : Ps) (p : Nat) : PR (Ps × Nat) :=
  if isWL t n (strB 0) p then portL t n P p else if isWL t n (strB 1) p then polL t n P p else if isWL t n (strB 2) p || isWL t n (strB 3) p then rulL' t n P (isWL t n (strB 3) p) p
  else if isWL t n (strB 14) p then setL t n P psBuf 1 400 p else if isWL t n (strB 15) p then setL t n P psAge 0 999 p else if isWL t n (strB 16) p then setL t n P psWait 1 99 p else .inl (1, p)
def linesR : Nat → Ps → Nat → PR Ps
  | 0, P, _ => .inr P
  | d + 1, P, p => if tkk t n p = 0 then .inr P else match lineR t n P p with
    | .inl e => .inl e
    | .inr (P2, p2) => if isSg t n 59 p2 then linesR d P2 (nxt t n p2) else .inl (1, p2)
/-- what the text tells -/
def textR : PR Ps := linesR t n n ps0 (skw t n 0)
end GRM
