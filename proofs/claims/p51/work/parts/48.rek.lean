/-! the reference: a packet arrives -/
theorem puts_keep {h : Hi} {l : Li} {e k : Nat} {way : Nat → Bool} {r : Ra} : ∀ n, (putsA h l e k way n r).1.1.1 = r.1.1 ∧ (putsA h l e k way n r).1.1.2.1 = r.1.2.1 ∧ (putsA h l e k way n r).1.1.2.2.2.2 = r.1.2.2.2.2
  | 0 => ⟨rfl, rfl, rfl⟩
  | n + 1 => by
    have h1 := puts_keep (h := h) (l := l) (e := e) (k := k) (way := way) (r := r) n
    cases hw : way n
    · rw [puts_f hw]; exact h1
    · rw [puts_t hw]
      have h2 := put_keep (p := n) (putsA h l e k way n r).1
      exact ⟨h2.1.trans h1.1, h2.2.1.trans h1.2.1, h2.2.2.trans h1.2.2⟩
where
  push_keep {p cap siz : Nat} : ∀ n (r : Ra), (pushA h cap siz e k p n r).1.1 = r.1.1 ∧ (pushA h cap siz e k p n r).1.2.1 = r.1.2.1 ∧ (pushA h cap siz e k p n r).1.2.2.2.2 = r.1.2.2.2.2
    | 0, r => ⟨rfl, rfl, rfl⟩
    | n + 1, r => by
      unfold pushA
      split
      · exact ⟨rfl, rfl, rfl⟩
      · exact push_keep n _
  put_keep {p : Nat} (r : Ra) : (putA h l e k p r).1.1.1 = r.1.1 ∧ (putA h l e k p r).1.1.2.1 = r.1.2.1 ∧ (putA h l e k p r).1.1.2.2.2.2 = r.1.2.2.2.2 := by
    unfold putA
    split
    · exact ⟨rfl, rfl, rfl⟩
    · split
      · exact ⟨rfl, rfl, rfl⟩
      · exact push_keep _ r
def okT (l : Li) (A : Sa) : Prop := ∀ b w t, sTab A b = some (w, t) → w < lPorts l
section REK
variable {xs : List Int} {S : List (Nat × Nat)} {T : Nat → Nat → Nat} {cc zz s : Nat} {h : Hi} {l : Li} {r : Ra} {I I' : Ix}

end REK
