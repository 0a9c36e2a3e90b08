/-! premises of the start, law -/
def lawM0 : Mem := ([], (fun _ _ => 0), (fun _ _ => 0), 600086, 7301442)
/-- what is owed of the abstract machine: over every script the law comes to its end with 1 -/
def AMLAW : Prop := ∀ xs : List Int, (∀ x ∈ xs, inI x) → xs.length ≤ 260 → CL xs 344 [vs 3] lawM0 (fun o _ => o = .inl (some (vi 1)))
