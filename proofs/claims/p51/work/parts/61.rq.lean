/-! the reference: what its drops are asked -/
def isPP (k : Int) (P : Int) : Dr → Bool := fun d => decide ((d.2.1 : Int) = k) && decide (d.2.2.1 = P)
section RQ
variable {xs : List Int} {S : List (Nat × Nat)} {T : Nat → Nat → Nat} {cc zz s : Nat} {g : Lo} {I I' : Ix}

end RQ
