/-! the reference: suppositions -/
def b2n (b : Bool) : Nat := if b then 1 else 0
def su0 : Su := ((fun _ => none), (none, none, none), (fun _ => false), fun _ => false)
section RG
variable {xs : List Int} {S : List (Nat × Nat)} {T : Nat → Nat → Nat} {cc zz s : Nat} {h : Hi} {l : Li} {r : Ra} {g : Lo} {I I' : Ix}

end RG
