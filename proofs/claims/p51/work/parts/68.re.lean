/-! the reference: answers, 5 -/
def pkA (h : Hi) (l : Li) (p : Nat) : Nat → Nat × Int
  | 0 => (0, -1)
  | e + 1 => if (pkA h l p e).1 < fillP h (runA h l noOut (e + 1)).1 p then (fillP h (runA h l noOut (e + 1)).1 p, (e : Int)) else pkA h l p e
section RE
variable {xs : List Int} {S : List (Nat × Nat)} {T : Nat → Nat → Nat} {cc zz s : Nat} {h : Hi} {l : Li} {r : Ra} {g : Lo} {I I' : Ix}

end RE
