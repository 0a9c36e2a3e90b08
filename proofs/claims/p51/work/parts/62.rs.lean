/-! the reference: is it dropped still, what is evidence -/
def still (G : List Dr) (k P : Int) : Bool := decide (cntK (isPP k P) G G.length ≠ 0)
section RS
variable {xs : List Int} {S : List (Nat × Nat)} {T : Nat → Nat → Nat} {cc zz s : Nat} {h : Hi} {l l' : Li} {g : Lo} {I I' : Ix}

end RS
