/-! the reference: answers, 2 -/
def firstK (f : Dr → Bool) (g : List Dr) : Nat → Nat → Int
  | 0, _ => -1
  | d + 1, k => if f (g.getD k dr0) then (k : Int) else firstK f g d (k + 1)
def isPk (k : Int) : Dr → Bool := fun d => decide ((d.2.1 : Int) = k)
section RB
variable {xs : List Int} {S : List (Nat × Nat)} {T : Nat → Nat → Nat} {cc zz s : Nat} {h : Hi} {l : Li} {r : Ra} {g : Lo} {I I' : Ix}

end RB
