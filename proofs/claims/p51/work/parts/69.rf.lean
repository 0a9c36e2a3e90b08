/-! the reference: answers, 6 -/
def repA (e ne : Nat) : Nat := if e = 0 then 0 else if e = ne then (e - 1) % 16 + 1 else e % 16
section RF
variable {xs : List Int} {S : List (Nat × Nat)} {T : Nat → Nat → Nat} {cc zz s : Nat} {h : Hi} {l : Li} {r : Ra} {g : Lo} {I I' : Ix}

end RF
