/-! the reference: plain, supposed, now -/
def noOut : Nat → Bool := fun _ => false
/-- the reference's settings as the text tells them -/
def nB (I : Ix) (s : Nat) (l : Li) : Prop := I s 1 = (lPorts l : Int) ∧ (∀ p, p < lPorts l → I (s + 2) p = (lCap l p : Int) ∧ I (s + 3) p = (lSpeed l p : Int) ∧ (match lPol l p with
  | none => I (s + 4) p = 0 ∧ I (s + 5) p = -1
  | some (r, b) => I (s + 4) p = (r : Int) ∧ I (s + 5) p = (b : Int))) ∧ I s 7 = (lBuf l : Int) ∧ I s 9 = (lWait l : Int) ∧ I s 8 = (lAge l : Int) ∧ I s 10 = (lRules l : Int) ∧ (∀ r, r < lRules l → I (s + 6) r = b2i (lDrop l r)) ∧ ∀ r, lIdle l r = false
/-- all but what a run and its settings change -/
def mfb (I J : Ix) (s : Nat) : Prop := ∀ y z, (y = s → z < 50 ∨ 54 = z ∨ (56 ≤ z ∧ z ≤ 65) ∨ 69 < z) → (s < y → y < s + 25 ∨ s + 37 < y) → J y z = I y z
theorem mfb.rf (I : Ix) (s : Nat) : mfb I I s := fun _ _ _ _ => rfl
theorem mfb.tr {I J K : Ix} {s : Nat} (h1 : mfb I J s) (h2 : mfb J K s) : mfb I K s := fun y z a b => (h2 y z a b).trans (h1 y z a b)
abbrev Su : Type := (Nat → Option Nat) × (Option Nat × Option Nat × Option Nat) × (Nat → Bool) × (Nat → Bool)
def oI : Option Nat → Int
  | some x => (x : Int)
  | none => -1
def oD (o : Option Nat) (x : Nat) : Nat := match o with
  | some y => y
  | none => x
/-- the settings with what is supposed -/
def supL (l : Li) (su : Su) : Li := (l.1, (fun p => (oD (su.1 p) (lCap l p), lSpeed l p)), l.2.2.1, (oD su.2.1.1 (lBuf l), oD su.2.1.2.1 (lWait l), oD su.2.1.2.2 (lAge l)), l.2.2.2.2.1, su.2.2.1)
def okSu (su : Su) : Prop := (∀ p v, su.1 p = some v → v ≤ 99) ∧ (∀ v, su.2.1.1 = some v → v ≤ 400) ∧ (∀ v, su.2.1.2.1 = some v → v ≤ 99) ∧ ∀ v, su.2.1.2.2 = some v → v ≤ 999
/-- what the reference keeps between calls -/
def MP (I : Ix) (s : Nat) (h : Hi) (l : Li) (a : Nat → Nat) (ne np : Nat) (cd : Nat → Cd) : Prop := mH I s h a ne np ∧ nB I s l ∧ nC I s h l a np cd ∧ okHi h ∧ okLi l ∧ okEv h l ne np ∧ (∀ k, k < np → I (s + 10) (7 * a k + 1) = ((hPort h (a k) : Nat) : Int)) ∧ I s 15 = (ne : Int) ∧ I s 16 = (np : Int)
theorem MP.fr {I J : Ix} {s : Nat} {h : Hi} {l : Li} {a : Nat → Nat} {ne np : Nat} {cd : Nat → Cd} (B : MP I s h l a ne np cd) (f : mfb I J s) : MP J s h l a ne np cd := by
  obtain ⟨b1, b2, b3, b4, b5, b6, b7, b8, b9⟩ := B
  have e0 : ∀ j, j < 50 → J s j = I s j := fun j hj => f s j (fun _ => Or.inl hj) (fun e => absurd e (Nat.lt_irrefl s))
  have e : ∀ j, j ≤ 24 ∧ 0 < j → ∀ z, J (s + j) z = I (s + j) z := fun j hj z => f (s + j) z (fun e => by omega) (fun _ => by omega)
  refine ⟨?_, ?_, ?_, b4, b5, b6, fun k hk => by rw [e 10 (by decide)]; exact b7 k hk, by rw [e0 15 (by decide)]; exact b8, by rw [e0 16 (by decide)]; exact b9⟩
  · unfold mH at b1 ⊢
    simp only [e 10 (by decide), e 11 (by decide)]
    exact b1
  · unfold nB at b2 ⊢
    simp only [e0 1 (by decide), e0 7 (by decide), e0 8 (by decide), e0 9 (by decide), e0 10 (by decide), e 2 (by decide), e 3 (by decide), e 4 (by decide), e 5 (by decide), e 6 (by decide)]
    exact b2
  · unfold nC codesAt at b3 ⊢
    simp only [e 7 (by decide), e 8 (by decide), e 9 (by decide)]
    exact b3
section REQ
variable {xs : List Int} {S : List (Nat × Nat)} {T : Nat → Nat → Nat} {cc zz s : Nat} {h : Hi} {l : Li} {r : Ra} {I I' : Ix}

end REQ
