/-! the reference: events -/
/-- the packet of an event as it is answered -/
def pkO (h : Hi) (e : Nat) : Int := if hKind h e = 0 then (hPk h e : Int) else -1
/-- the new event's packet is told, the other events' rows are kept -/
def p6 (I J : Ix) (s ne : Nat) (v : Int) : Prop := J (s + 10) (7 * ne + 6) = v ∧ ∀ z, z < 7 * ne → J (s + 10) z = I (s + 10) z
section RI
variable {xs : List Int} {S : List (Nat × Nat)} {T : Nat → Nat → Nat} {cc zz s : Nat} {h : Hi} {l : Li} {r : Ra} {g : Lo} {I I' : Ix}

end RI
