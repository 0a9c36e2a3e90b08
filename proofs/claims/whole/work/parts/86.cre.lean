/-! the class: the checkpoints' states -/
def oCk (S : List (Nat × Nat)) (T : Nat → Nat → Nat) (s : Nat) : Prop := ∀ c, c < 8 → T (s + 31) c = s + 99 + 8 * c + 1 ∧ oState S T (s + 99 + 8 * c)
/-- each checkpoint reached holds the state after its events -/
def cCk (I : Ix) (s : Nat) (h : Hi) (l : Li) (ne : Nat) : Prop := ∀ c, c < 8 → c * 16 ≤ ne → cS I (s + 99 + 8 * c) h l (runA h l noOut (c * 16)).1
theorem cCk.fr {I J : Ix} {s lo hi ne : Nat} {h : Hi} {l : Li} (H : cCk I s h l ne) (f : fr I J lo hi) (d : hi < s + 99 ∨ s + 162 < lo) : cCk J s h l ne := fun c hc hn => (H c hc hn).fr f (by omega)
theorem ltC_16 {e ne : Nat} (he : e ≤ ne) (hn : ne ≤ 120) : ∃ c, ltC e ne = c * 16 ∧ c < 8 ∧ c * 16 ≤ ne ∧ ltC e ne / 16 = c := by
  refine ⟨ltC e ne / 16, ?_, ?_, ?_, rfl⟩ <;> unfold ltC <;> (repeat split) <;> omega
theorem ok_lo0 {h : Hi} {l : Li} {np u : Nat} {r : Ra} (H : okR h l np u r) : okR h l np u (r.1, lo0) := by
  refine ⟨H.1, H.2.1, Nat.le_trans ?_ H.2.2⟩
  show 0 + qlen r.1 + (0 + 0 + 0 + 0) ≤ r.2.1.length + qlen r.1 + dsum r.2
  omega
/-- what stays true of a replay -/
theorem rep_ok {h : Hi} {l : Li} {ne np : Nat} (ok : okHi h) (okl : okLi l) (hev : okEv h l ne np) {out out' : Nat → Bool} {f : Nat} : ∀ n, f + n ≤ ne → okR h l np (3 * (f + n)) (runF h l out' ((runA h l out f).1, lo0) f n) ∧ okT l (runF h l out' ((runA h l out f).1, lo0) f n).1 ∧ sTime (runF h l out' ((runA h l out f).1, lo0) f n).1 ≤ f + n
  | 0, he => by
    obtain ⟨h1, h2, h3⟩ := run_ok (out := out) ok okl hev f (by omega)
    exact ⟨ok_lo0 h1, h2, h3⟩
  | n + 1, he => by
    obtain ⟨h1, h2, h3⟩ := rep_ok (out := out) (out' := out') (f := f) ok okl hev n (by omega)
    unfold runF
    split
    · exact ⟨ok_le h1 (by omega), h2, by omega⟩
    · have g := step_ok (e := f + n) h1 h2 ok okl hev (by omega)
      exact ⟨ok_le g.1 (by omega), g.2.1, by omega⟩
section CRE
variable {xs : List Int} {S : List (Nat × Nat)} {T : Nat → Nat → Nat} {cc zz s q y : Nat} {h : Hi} {l : Li} {I I' : Ix}

end CRE
