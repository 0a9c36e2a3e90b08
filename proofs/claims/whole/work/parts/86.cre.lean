/-! the class: the checkpoints' states -/
def oCk (S : List (Nat × Nat)) (T : Nat → Nat → Nat) (s : Nat) : Prop := ∀ c, c < 8 → T (s + 31) c = s + 99 + 8 * c + 1 ∧ oState S T (s + 99 + 8 * c)
/-- each checkpoint reached holds the state after its events -/
def cCk (I : Ix) (s : Nat) (h : Hi) (l : Li) (ne : Nat) : Prop := ∀ c, c < 8 → c * 16 ≤ ne → cS I (s + 99 + 8 * c) h l (runA h l noOut (c * 16)).1
theorem cCk.fr {I J : Ix} {s lo hi ne : Nat} {h : Hi} {l : Li} (H : cCk I s h l ne) (f : fr I J lo hi) (d : hi < s + 99 ∨ s + 162 < lo) : cCk J s h l ne := fun c hc hn => (H c hc hn).fr f (by omega)
theorem ltC_16 {e ne : Nat} (he : e ≤ ne) (hn : ne ≤ 120) : ∃ c, ltC e ne = c * 16 ∧ c < 8 ∧ c * 16 ≤ ne ∧ ltC e ne / 16 = c := by
  refine ⟨ltC e ne / 16, ?_, ?_, ?_, rfl⟩ <;> unfold ltC <;> (repeat split) <;> omega
section CRE
variable {xs : List Int} {S : List (Nat × Nat)} {T : Nat → Nat → Nat} {cc zz s q y : Nat} {h : Hi} {l : Li} {I I' : Ix}

end CRE
