/-! the reference: answers, 1 -/
theorem MP.run {I : Ix} {s : Nat} {h : Hi} {l : Li} {a : Nat → Nat} {ne np : Nat} {cd : Nat → Cd} (B : MP I s h l a ne np cd) (out : Nat → Bool) {n : Nat} (hn : n ≤ ne) : okR h l np (3 * n) (runA h l out n) ∧ okT l (runA h l out n).1 ∧ sTime (runA h l out n).1 ≤ n := run_ok B.2.2.2.1 B.2.2.2.2.1 B.2.2.2.2.2.1 n hn
section RA
variable {xs : List Int} {S : List (Nat × Nat)} {T : Nat → Nat → Nat} {cc zz s : Nat} {h : Hi} {l : Li} {r : Ra} {I I' : Ix}

end RA
