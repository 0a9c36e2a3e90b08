/-! the reference: answers, 4 -/
theorem or8 : ∀ o : Nat, o < 8 → ∀ w : Nat, w < 2 ^ o → a2 (fun x y => x ||| y) (w : Int) ((2 ^ o : Nat) : Int) = ((w + 2 ^ o : Nat) : Int) := by decide +kernel
section RD
variable {xs : List Int} {S : List (Nat × Nat)} {T : Nat → Nat → Nat} {cc zz s : Nat} {h : Hi} {l : Li} {r : Ra} {g : Lo} {I I' : Ix}

end RD
