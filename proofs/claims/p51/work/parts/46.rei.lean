/-! the reference: a copy is put; what a rule tells -/
abbrev Cd : Type := List (Nat × Nat × Nat)
def factOf (h : Hi) (k f : Nat) : Nat := if f = 0 then hSrc h k else if f = 1 then hTgt h k else if f = 2 then hSiz h k else hRnk h k
def tellP (h : Hi) (a : Nat → Nat) (k : Nat) (c : Nat × Nat × Nat) : Bool :=
  if c.1 = 1 then decide (factOf h k c.2.2 < c.2.1) else if c.1 = 2 then decide (factOf h k c.2.2 = c.2.1) else if c.1 = 3 then decide (c.2.1 < factOf h k c.2.2) else if c.1 = 4 then decide (hPort h (a k) = c.2.1) else true
def stepP (h : Hi) (a : Nat → Nat) (k : Nat) (c : Nat × Nat × Nat) (st : List Bool) : List Bool :=
  if c.1 = 6 then (match st with
    | b :: r => (!b) :: r
    | [] => []) else if c.1 = 7 then (match st with
    | b :: b' :: r => (b' && b) :: r
    | r => r) else if c.1 = 8 then (match st with
    | b :: b' :: r => (b' || b) :: r
    | r => r) else tellP h a k c :: st
def evalP (h : Hi) (a : Nat → Nat) (k : Nat) : Cd → List Bool → List Bool
  | [], st => st
  | c :: r, st => evalP h a k r (stepP h a k c st)
/-- from a depth n on the codes keep within 1 and 31, and end at 1 -/
def wfP : Cd → Nat → Prop
  | [], n => n = 1
  | c :: r, n => if c.1 = 6 then 1 ≤ n ∧ wfP r n else if c.1 = 7 ∨ c.1 = 8 then 2 ≤ n ∧ wfP r (n - 1) else c.1 ≤ 5 ∧ c.2.1 ≤ 999 ∧ c.2.2 ≤ 3 ∧ n < 31 ∧ wfP r (n + 1)
def hHold (h : Hi) (a : Nat → Nat) (k : Nat) (cs : Cd) : Bool := (evalP h a k cs []).headD false
def codesAt (I : Ix) (s o : Nat) (cs : Cd) : Prop := ∀ j, j < cs.length → I (s + 9) (3 * (o + j)) = ((cs.getD j (0, 0, 0)).1 : Int) ∧ I (s + 9) (3 * (o + j) + 1) = ((cs.getD j (0, 0, 0)).2.1 : Int) ∧ I (s + 9) (3 * (o + j) + 2) = ((cs.getD j (0, 0, 0)).2.2 : Int)
/-- the reference's rules -/
def nC (I : Ix) (s : Nat) (h : Hi) (l : Li) (a : Nat → Nat) (np : Nat) (cd : Nat → Cd) : Prop := ∀ r, r < lRules l → (∃ o : Nat, I (s + 7) r = (o : Int) ∧ I (s + 8) r = ((o + (cd r).length : Nat) : Int) ∧ o + (cd r).length ≤ 300 ∧ codesAt I s o (cd r)) ∧ wfP (cd r) 0 ∧ ∀ k, k < np → hHol h k r = hHold h a k (cd r)
theorem nC.fr {I J : Ix} {s : Nat} {h : Hi} {l : Li} {a : Nat → Nat} {np : Nat} {cd : Nat → Cd} (H : nC I s h l a np cd) (f : mfr I J s) : nC J s h l a np cd := by
  have e : ∀ j, j ≤ 26 ∧ 0 < j → ∀ z, J (s + j) z = I (s + j) z := fun j hj z => f (s + j) z (fun e => by omega) (fun _ => by omega)
  unfold nC codesAt at H ⊢
  simp only [e 7 (by decide), e 8 (by decide), e 9 (by decide)]
  exact H
section REI
variable {xs : List Int} {S : List (Nat × Nat)} {T : Nat → Nat → Nat} {cc zz s : Nat} {h : Hi} {l : Li} {r : Ra} {I I' : Ix}

end REI
