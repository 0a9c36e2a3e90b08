/-! the class: the checkpoints' states -/
def oCk (S : List (Nat × Nat)) (T : Nat → Nat → Nat) (s : Nat) : Prop := ∀ c, c < 8 → T (s + 31) c = s + 99 + 8 * c + 1 ∧ oState S T (s + 99 + 8 * c)
/-- each checkpoint that is kept (those ahead of events that have happened; the first always) holds the state after its events -/
def cCk (I : Ix) (s : Nat) (h : Hi) (l : Li) (ne : Nat) : Prop := ∀ c, c < 8 → c * 16 ≤ ne - 1 → cS I (s + 99 + 8 * c) h l (runA h l noOut (c * 16)).1
theorem cCk.fr {I J : Ix} {s lo hi ne : Nat} {h : Hi} {l : Li} (H : cCk I s h l ne) (f : fr I J lo hi) (d : hi < s + 99 ∨ s + 162 < lo) : cCk J s h l ne := fun c hc hn => (H c hc hn).fr f (by omega)
/-- the trial's times of the table are small -/
def tmR (I : Ix) (s : Nat) : Prop := ∀ b, b < 64 → ∃ t : Nat, I (s + 52 + 6 + 7) b = (t : Int) ∧ t ≤ 120
section CRE
variable {xs : List Int} {S : List (Nat × Nat)} {T : Nat → Nat → Nat} {cc zz s q y : Nat} {h : Hi} {l : Li} {I I' : Ix}

end CRE
