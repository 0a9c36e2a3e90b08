/-! the reference: what a run holds -/
def tokI (l : Li) (A : Sa) (p : Nat) : Int := match lPol l p with
  | none => -1
  | some _ => (sTok A p : Int)
def nT (I : Ix) (s a : Nat) (o : Option (Nat × Nat)) : Prop := match o with
  | some (w, t) => I (s + 32) a = (w : Int) ∧ w < 4 ∧ I (s + 33) a = (t : Int) ∧ t ≤ 120
  | none => I (s + 32) a = -1
def nS (I : Ix) (s : Nat) (l : Li) (A : Sa) : Prop := (I s 55 = (sTime A : Int) ∧ sTime A ≤ 120) ∧ (∀ p, p < 4 → I (s + 27) p = b2i (sUp A p)) ∧ (∀ p, p < 4 → mQ I s p (sQ A p)) ∧ (∀ p, p < lPorts l → I (s + 31) p = tokI l A p ∧ tokI l A p ≤ 99) ∧ ∀ a, a < 64 → nT I s a (sTab A a)
def nL (I : Ix) (s : Nat) (g : Lo) : Prop := (I s 66 = (g.1.length : Int) ∧ g.1.length ≤ 360) ∧
  (∀ j, j < g.1.length → I (s + 36) (5 * j) = ((g.1.getD j dr0).1 : Int) ∧ I (s + 36) (5 * j + 1) = ((g.1.getD j dr0).2.1 : Int) ∧ I (s + 36) (5 * j + 2) = (g.1.getD j dr0).2.2.1 ∧ I (s + 36) (5 * j + 3) = ((g.1.getD j dr0).2.2.2.1 : Int) ∧ I (s + 36) (5 * j + 4) = (g.1.getD j dr0).2.2.2.2) ∧
  (∀ k, k < 120 → ∀ p, p < 4 → I (s + 34) (4 * k + p) = (g.2.1 k (p + 1) : Int)) ∧ ∀ p, p < 4 → I (s + 35) p = (g.2.2 p : Int)
def nR (I : Ix) (s : Nat) (l : Li) (r : Ra) : Prop := nS I s l r.1 ∧ nL I s r.2
/-- all but the state, all but the log, all but the counts, all but all these -/
def mfS (I J : Ix) (s : Nat) : Prop := ∀ y z, (y = s → z ≠ 55) → (s < y → y < s + 27 ∨ s + 33 < y) → J y z = I y z
def mfL (I J : Ix) (s : Nat) : Prop := ∀ y z, (y = s → z ≠ 66) → (s < y → y < s + 34 ∨ s + 36 < y) → J y z = I y z
def mfr (I J : Ix) (s : Nat) : Prop := ∀ y z, (y = s → z ≠ 55 ∧ z ≠ 66 ∧ z ≠ 68 ∧ z ≠ 69) → (s < y → y < s + 27 ∨ s + 37 < y) → J y z = I y z
theorem mfr.rf (I : Ix) (s : Nat) : mfr I I s := fun _ _ _ _ => rfl
theorem mfr.tr {I J K : Ix} {s : Nat} (h1 : mfr I J s) (h2 : mfr J K s) : mfr I K s := fun y z a b => (h2 y z a b).trans (h1 y z a b)
theorem mfS.rf (I : Ix) (s : Nat) : mfS I I s := fun _ _ _ _ => rfl
theorem mfL.rf (I : Ix) (s : Nat) : mfL I I s := fun _ _ _ _ => rfl
theorem mfS.tr {I J K : Ix} {s : Nat} (h1 : mfS I J s) (h2 : mfS J K s) : mfS I K s := fun y z a b => (h2 y z a b).trans (h1 y z a b)
theorem mfS.to {I J : Ix} {s : Nat} (f : mfS I J s) : mfr I J s := fun y z a b => f y z (fun e => (a e).1) (fun e => by have := b e; omega)
theorem mfL.to {I J : Ix} {s : Nat} (f : mfL I J s) : mfr I J s := fun y z a b => f y z (fun e => (a e).2.1) (fun e => by have := b e; omega)
theorem mfr.u1 {I J : Ix} {s j : Nat} {v : Int} (f : mfr I J s) (hj : j = 55 ∨ j = 66 ∨ j = 68 ∨ j = 69) : mfr I (up J s j v) s := fun y z a b => by
  by_cases hy : y = s
  · rw [hy, up_nj (by have := a hy; omega), ← hy]; exact f y z a b
  · rw [up_no hy]; exact f y z a b
theorem mfr.u2 {I J : Ix} {s b j : Nat} {v : Int} (f : mfr I J s) (hb : s + 27 ≤ b ∧ b ≤ s + 37) : mfr I (up J b j v) s := fun y z p q => by
  rw [up_no (by intro e; have := q (by omega); omega)]; exact f y z p q
/-- y is u + x but for wraps; in the range if u is -/
def cg (u x y : Int) : Prop := (∃ q : Int, y = u + x + 4294967296 * q) ∧ (-2147483648 ≤ u ∧ u < 2147483648 → -2147483648 ≤ y ∧ y < 2147483648)
theorem cg.rf (u : Int) : cg u 0 u := ⟨⟨0, by omega⟩, id⟩
theorem cg.of {u y : Int} (h : y = u) : cg u 0 y := by rw [h]; exact cg.rf u
theorem cg.tr {u x y x' z : Int} (h1 : cg u x y) (h2 : cg y x' z) : cg u (x + x') z := by
  obtain ⟨⟨q, e1⟩, r1⟩ := h1
  obtain ⟨⟨q', e2⟩, r2⟩ := h2
  exact ⟨⟨q + q', by omega⟩, fun h => r2 (r1 h)⟩
theorem cg.wr {u : Int} : cg u 1 (wr (u + 1)) := by
  unfold Pilot.CDropSwitchLaw_law_r5250_239799.wr
  exact ⟨⟨-((u + 1 + 2147483648) / 4294967296), by omega⟩, fun _ => by omega⟩
theorem cg.val {x y : Int} (h : cg 0 x y) (h1 : 0 ≤ x ∧ x ≤ 10000) : y = x := by
  obtain ⟨⟨q, e1⟩, r1⟩ := h
  have := r1 (by decide)
  omega
/-- what is put and what is delivered are x, y more -/
def mfc (I J : Ix) (s : Nat) (x y : Int) : Prop := mfr I J s ∧ cg (I s 68) x (J s 68) ∧ cg (I s 69) y (J s 69)
theorem mfc.rf (I : Ix) (s : Nat) : mfc I I s 0 0 := ⟨mfr.rf I s, cg.rf _, cg.rf _⟩
theorem mfc.tr {I J K : Ix} {s : Nat} {x y x' y' : Int} (h1 : mfc I J s x y) (h2 : mfc J K s x' y') : mfc I K s (x + x') (y + y') :=
  ⟨h1.1.tr h2.1, h1.2.1.tr h2.2.1, h1.2.2.tr h2.2.2⟩
theorem mfc.t0 {I J K : Ix} {s : Nat} {x y : Int} (h1 : mfc I J s 0 0) (h2 : mfc J K s x y) : mfc I K s x y := by
  have h := h1.tr h2
  rw [Int.zero_add, Int.zero_add] at h
  exact h
theorem mfc.t1 {I J K : Ix} {s : Nat} {x y : Int} (h1 : mfc I J s x y) (h2 : mfc J K s 0 0) : mfc I K s x y := by
  have h := h1.tr h2
  rw [Int.add_zero, Int.add_zero] at h
  exact h
theorem mfS.tc {I J : Ix} {s : Nat} (f : mfS I J s) : mfc I J s 0 0 := ⟨f.to, cg.of (f s 68 (fun _ => by decide) (fun e => absurd e (Nat.lt_irrefl s))), cg.of (f s 69 (fun _ => by decide) (fun e => absurd e (Nat.lt_irrefl s)))⟩
theorem mfL.tc {I J : Ix} {s : Nat} (f : mfL I J s) : mfc I J s 0 0 := ⟨f.to, cg.of (f s 68 (fun _ => by decide) (fun e => absurd e (Nat.lt_irrefl s))), cg.of (f s 69 (fun _ => by decide) (fun e => absurd e (Nat.lt_irrefl s)))⟩
theorem mQ.fr {I J : Ix} {s p : Nat} {q : List Cp} (H : mQ I s p q) (e : ∀ y, s + 27 ≤ y → y ≤ s + 33 → ∀ z, J y z = I y z) : mQ J s p q := by
  obtain ⟨h1, h2, h3⟩ := H
  refine ⟨by rw [e _ (by omega) (by omega)]; exact h1, h2, fun k hk => ?_⟩
  rw [e _ (by omega) (by omega), e _ (by omega) (by omega)]
  exact h3 k hk
theorem nS.fr {I J : Ix} {s : Nat} {l : Li} {A : Sa} (H : nS I s l A) (e0 : J s 55 = I s 55) (e : ∀ y, s + 27 ≤ y → y ≤ s + 33 → ∀ z, J y z = I y z) : nS J s l A := by
  obtain ⟨h1, h2, h3, h4, h5⟩ := H
  refine ⟨by rw [e0]; exact h1, fun p hp => by rw [e _ (by omega) (by omega)]; exact h2 p hp, fun p hp => (h3 p hp).fr e, fun p hp => by rw [e _ (by omega) (by omega)]; exact h4 p hp, fun a ha => ?_⟩
  have g := h5 a ha
  unfold nT at g ⊢
  rw [e _ (by omega) (by omega), e _ (by omega) (by omega)]
  exact g
theorem nL.fr {I J : Ix} {s : Nat} {g : Lo} (H : nL I s g) (e0 : J s 66 = I s 66) (e : ∀ y, s + 34 ≤ y → y ≤ s + 36 → ∀ z, J y z = I y z) : nL J s g := by
  obtain ⟨h1, h2, h3, h4⟩ := H
  refine ⟨by rw [e0]; exact h1, fun j hj => ?_, fun k hk p hp => by rw [e _ (by omega) (by omega)]; exact h3 k hk p hp, fun p hp => by rw [e _ (by omega) (by omega)]; exact h4 p hp⟩
  rw [e _ (by omega) (by omega), e _ (by omega) (by omega), e _ (by omega) (by omega), e _ (by omega) (by omega), e _ (by omega) (by omega)]
  exact h2 j hj
theorem nR_S {I J : Ix} {s : Nat} {l : Li} {r : Ra} {A : Sa} (hR : nR I s l r) (hS : nS J s l A) (f : mfS I J s) : nR J s l (A, r.2) ∧ mfc I J s 0 0 :=
  ⟨⟨hS, hR.2.fr (f s 66 (fun _ => by decide) (fun e => absurd e (Nat.lt_irrefl s))) fun y h1 h2 z => f y z (fun e => by omega) (fun _ => by omega)⟩, f.tc⟩
theorem nR_L {I J : Ix} {s : Nat} {l : Li} {r : Ra} {g : Lo} (hR : nR I s l r) (hL : nL J s g) (f : mfL I J s) : nR J s l (r.1, g) ∧ mfc I J s 0 0 :=
  ⟨⟨hR.1.fr (f s 55 (fun _ => by decide) (fun e => absurd e (Nat.lt_irrefl s))) fun y h1 h2 z => f y z (fun e => by omega) (fun _ => by omega), hL⟩, f.tc⟩
theorem nR_c {I : Ix} {s j : Nat} {v : Int} {l : Li} {r : Ra} (hR : nR I s l r) (hj : j = 68 ∨ j = 69) : nR (up I s j v) s l r :=
  ⟨hR.1.fr (up_nj (by omega)) fun y h1 h2 z => up_no (by omega), hR.2.fr (up_nj (by omega)) fun y h1 h2 z => up_no (by omega)⟩
/-- the settings that the reference goes by now -/
def nLi (I : Ix) (s : Nat) (l : Li) : Prop := I s 1 = (lPorts l : Int) ∧ (∀ p, p < lPorts l → I (s + 25) p = (lCap l p : Int) ∧ I (s + 3) p = (lSpeed l p : Int) ∧ (match lPol l p with
  | none => I (s + 4) p = 0 ∧ I (s + 5) p = -1
  | some (r, b) => I (s + 4) p = (r : Int) ∧ I (s + 5) p = (b : Int))) ∧ I s 50 = (lBuf l : Int) ∧ I s 51 = (lWait l : Int) ∧ I s 52 = (lAge l : Int) ∧ I s 10 = (lRules l : Int) ∧ (∀ r, r < lRules l → I (s + 6) r = b2i (lDrop l r)) ∧
  ∃ d : Nat, I s 53 = (d : Int) ∧ d < 256 ∧ ∀ r, r < 8 → (bt d r ≠ 0 ↔ lIdle l r = true)
theorem nLi.fr {I J : Ix} {s : Nat} {l : Li} (H : nLi I s l) (f : mfr I J s) : nLi J s l := by
  have e0 : ∀ j, j ≠ 55 ∧ j ≠ 66 ∧ j ≠ 68 ∧ j ≠ 69 → J s j = I s j := fun j hj => f s j (fun _ => hj) (fun e => absurd e (Nat.lt_irrefl s))
  have e : ∀ j, j ≤ 26 ∧ 0 < j → ∀ z, J (s + j) z = I (s + j) z := fun j hj z => f (s + j) z (fun e => by omega) (fun _ => by omega)
  unfold nLi at H ⊢
  simp only [e0 1 (by decide), e0 50 (by decide), e0 51 (by decide), e0 52 (by decide), e0 53 (by decide), e0 10 (by decide), e 25 (by decide), e 3 (by decide), e 4 (by decide), e 5 (by decide), e 6 (by decide)]
  exact H
theorem mH.fr {I J : Ix} {s : Nat} {h : Hi} {a : Nat → Nat} {ne np : Nat} (H : mH I s h a ne np) (f : mfr I J s) : mH J s h a ne np := by
  have e : ∀ j, j ≤ 26 ∧ 0 < j → ∀ z, J (s + j) z = I (s + j) z := fun j hj z => f (s + j) z (fun e => by omega) (fun _ => by omega)
  unfold mH at H ⊢
  simp only [e 10 (by decide), e 11 (by decide)]
  exact H
