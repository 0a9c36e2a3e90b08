/-! the class: an event is added and happens -/
/-- all but the new event's places, the new packet's, and their numbers -/
def mfh (I J : Ix) (x ne np : Nat) : Prop := ∀ y z, (y = x → 1 < z) → (y = x + 1 ∨ y = x + 2 ∨ y = x + 3 → z ≠ ne) → (x + 4 ≤ y ∧ y ≤ x + 8 → z ≠ np) → J y z = I y z
theorem cH_E {I J : Ix} {x : Nat} {h : Hi} {a : Nat → Nat} {ne np kind p : Nat} {pI : Int} (H : cH I x h a ne np) (hne : ne < 120) (hk : kind = 1 ∨ kind = 2 ∨ kind = 3) (hp : kind ≠ 1 → pI = (p : Int) ∧ p < 4) (f : mfh I J x ne np) (e0 : J x 0 = ((ne + 1 : Nat) : Int)) (e1 : J x 1 = (np : Int)) (k1 : J (x + 1) ne = (kind : Int)) (k2 : J (x + 2) ne = pI) : cH J x (addE h ne kind p) a (ne + 1) np := by
  obtain ⟨h1, h2, h3, h4, h5, h6⟩ := H
  have g : ∀ j, 0 < j ∧ j ≤ 3 → ∀ z, z ≠ ne → J (x + j) z = I (x + j) z := fun j hj z hz => f (x + j) z (fun e => by omega) (fun _ => hz) (fun e => by omega)
  have g4 : ∀ j, 4 ≤ j ∧ j ≤ 8 → ∀ z, z ≠ np → J (x + j) z = I (x + j) z := fun j hj z hz => f (x + j) z (fun e => by omega) (fun e => by omega) (fun _ => hz)
  have hq := addE_eq (h := h) (ne := ne) (kind := kind) (p := p)
  refine ⟨e0, e1, by omega, by omega, fun e he => ?_, fun k hk' => ?_⟩
  · by_cases hee : e = ne
    · subst hee
      rw [hq.1, hq.2]
      exact ⟨k1, by omega, fun q => by rw [k2]; exact hp q, fun q => by omega⟩
    · obtain ⟨q1, q2, q3⟩ := addE_ne (h := h) (kind := kind) (p := p) hee
      rw [q1, q2, q3, g 1 (by decide) e hee, g 2 (by decide) e hee, g 3 (by decide) e hee]
      exact h5 e (by omega)
  · obtain ⟨q1, q2, q3, q4, q5, q6⟩ := h6 k hk'
    rw [g4 4 (by decide) k (by omega), g4 5 (by decide) k (by omega), g4 6 (by decide) k (by omega), g4 7 (by decide) k (by omega), g4 8 (by decide) k (by omega)]
    exact ⟨q1, by omega, q3, q4, q5, q6⟩
theorem cH_P {I J : Ix} {x : Nat} {h : Hi} {a : Nat → Nat} {ne np p sr tg sz rn : Nat} {cd : Nat → Cd} (H : cH I x h a ne np) (hne : ne < 120) (hp : p < 4) (f : mfh I J x ne np) (e0 : J x 0 = ((ne + 1 : Nat) : Int)) (e1 : J x 1 = ((np + 1 : Nat) : Int)) (k1 : J (x + 1) ne = 0) (k2 : J (x + 2) ne = (p : Int)) (k3 : J (x + 3) ne = (np : Int)) (k4 : J (x + 4) np = (ne : Int)) (k5 : J (x + 5) np = (sr : Int)) (k6 : J (x + 6) np = (tg : Int)) (k7 : J (x + 7) np = (sz : Int)) (k8 : J (x + 8) np = (rn : Int)) :
    cH J x (addP h a np ne p (sr, tg, sz, rn) cd) (fu a np ne) (ne + 1) (np + 1) := by
  obtain ⟨h1, h2, h3, h4, h5, h6⟩ := H
  have g : ∀ j, 0 < j ∧ j ≤ 3 → ∀ z, z ≠ ne → J (x + j) z = I (x + j) z := fun j hj z hz => f (x + j) z (fun e => by omega) (fun _ => hz) (fun e => by omega)
  have g4 : ∀ j, 4 ≤ j ∧ j ≤ 8 → ∀ z, z ≠ np → J (x + j) z = I (x + j) z := fun j hj z hz => f (x + j) z (fun e => by omega) (fun e => by omega) (fun _ => hz)
  have hq := addP_eq (h := h) (a := a) (np := np) (ne := ne) (p := p) (f := (sr, tg, sz, rn)) (cd := cd)
  have hn := addP_new (h := h) (a := a) (np := np) (ne := ne) (p := p) (f := (sr, tg, sz, rn)) (cd := cd)
  refine ⟨e0, e1, by omega, by omega, fun e he => ?_, fun k hk' => ?_⟩
  · by_cases hee : e = ne
    · subst hee
      rw [hq.1, hq.2.1, hq.2.2]
      exact ⟨k1, by omega, fun _ => ⟨k2, hp⟩, fun _ => ⟨k3, by omega⟩⟩
    · obtain ⟨q1, q2, q3⟩ := addP_ne (h := h) (a := a) (np := np) (p := p) (f := (sr, tg, sz, rn)) (cd := cd) hee
      rw [q1, q2, q3, g 1 (by decide) e hee, g 2 (by decide) e hee, g 3 (by decide) e hee]
      obtain ⟨c1, c2, c3, c4⟩ := h5 e (by omega)
      exact ⟨c1, c2, c3, fun q => ⟨(c4 q).1, by have := (c4 q).2; omega⟩⟩
  · by_cases hkn : k = np
    · subst hkn
      rw [hn.1, hn.2.1, hn.2.2.1, hn.2.2.2.1, hn.2.2.2.2]
      exact ⟨k4, by omega, k5, k6, k7, k8⟩
    · obtain ⟨m1, m2, m3, m4, m5, _⟩ := addP_old (h := h) (a := a) (np := np) (ne := ne) (p := p) (f := (sr, tg, sz, rn)) (cd := cd) hkn
      obtain ⟨q1, q2, q3, q4, q5, q6⟩ := h6 k (by omega)
      rw [m1, m2, m3, m4, m5, g4 4 (by decide) k hkn, g4 5 (by decide) k hkn, g4 6 (by decide) k hkn, g4 7 (by decide) k hkn, g4 8 (by decide) k hkn]
      exact ⟨q1, by omega, q3, q4, q5, q6⟩
theorem cS_eq {I J : Ix} {s : Nat} {h : Hi} {l : Li} {A : Sa} (H : cS I s h l A) (e : ∀ j, j ≤ 7 → ∀ z, J (s + j) z = I (s + j) z) : cS J s h l A := by
  have e0 : ∀ y, J s y = I s y := fun y => e 0 (by decide) y
  unfold cS cQ cT rowR at H ⊢
  simp only [e0, e 1 (by decide), e 2 (by decide), e 3 (by decide), e 4 (by decide), e 5 (by decide), e 6 (by decide), e 7 (by decide)]
  exact H
theorem cL_eq {I J : Ix} {s : Nat} {g : Lo} (H : cL I s g) (e : ∀ j, j ≤ 3 → ∀ z, J (s + j) z = I (s + j) z) : cL J s g := by
  have e0 : ∀ y, J s y = I s y := fun y => e 0 (by decide) y
  unfold cL at H ⊢
  simp only [e0, e 1 (by decide), e 2 (by decide), e 3 (by decide)]
  exact H
/-- what is true of the class between calls, of its events and suppositions -/
def XC (I : Ix) (s q : Nat) (h : Hi) (l : Li) (a : Nat → Nat) (ne np : Nat) (su : Su) (cd : Nat → Cd) (c : Nat) : Prop :=
  (s < q ∧ q + 8 < s + 21) ∧ KQ I s q h l a ne np ∧ KB I s h l a ne np ∧ KS I s q h l a ne np su ∧ cCk I s h l ne ∧ KE I s h l ne ∧ cC I q l cd ∧ HW h a ne np ∧ HC h l a np cd ∧ (∀ e, e < ne → I (s + 24) e = pkO h e) ∧ (I s 12 = (c : Int) ∧ 1 ≤ c ∧ c < 100000) ∧ (0 ≤ I s 13 ∧ I s 13 ≤ (c : Int))
section CXS
variable {I J : Ix} {s q : Nat} {h : Hi} {l : Li} {a : Nat → Nat} {ne np c : Nat} {su : Su} {cd : Nat → Cd}
theorem XC.hq (X : XC I s q h l a ne np su cd c) : s < q ∧ q + 8 < s + 21 := X.1
theorem XC.K (X : XC I s q h l a ne np su cd c) : KQ I s q h l a ne np := X.2.1
theorem XC.B (X : XC I s q h l a ne np su cd c) : KB I s h l a ne np := X.2.2.1
theorem XC.Z (X : XC I s q h l a ne np su cd c) : KS I s q h l a ne np su := X.2.2.2.1
theorem XC.C (X : XC I s q h l a ne np su cd c) : cCk I s h l ne := X.2.2.2.2.1
theorem XC.E (X : XC I s q h l a ne np su cd c) : KE I s h l ne := X.2.2.2.2.2.1
theorem XC.R (X : XC I s q h l a ne np su cd c) : cC I q l cd := X.2.2.2.2.2.2.1
theorem XC.W (X : XC I s q h l a ne np su cd c) : HW h a ne np := X.2.2.2.2.2.2.2.1
theorem XC.D (X : XC I s q h l a ne np su cd c) : HC h l a np cd := X.2.2.2.2.2.2.2.2.1
theorem XC.pk (X : XC I s q h l a ne np su cd c) : ∀ e, e < ne → I (s + 24) e = pkO h e := X.2.2.2.2.2.2.2.2.2.1
theorem XC.ch (X : XC I s q h l a ne np su cd c) : I s 12 = (c : Int) ∧ 1 ≤ c ∧ c < 100000 := X.2.2.2.2.2.2.2.2.2.2.1
theorem XC.at (X : XC I s q h l a ne np su cd c) : 0 ≤ I s 13 ∧ I s 13 ≤ (c : Int) := X.2.2.2.2.2.2.2.2.2.2.2
/-- the trial and what was tried have changed -/
theorem XC.v (X : XC I s q h l a ne np su cd c) (f : mfv I J s) (e : KE J s h l ne) : XC J s q h l a ne np su cd c := by
  obtain ⟨x1, x2, x3, x4, x5, x6, x7, x8, x9, x10, x11, x12⟩ := X
  have e0 : ∀ z, J s z = I s z := fun z => f s z (by omega) (by omega) (by omega)
  obtain ⟨z1, z2, z3, z4, z5, z6⟩ := x4
  have f1 : fr I J (s + 52) (s + 96) := f.frm
  have fs : fr (up I (s + 52) 0 0) (up I (s + 52) 0 0) (s + 52) (s + 52) := fr.rf _ _ _
  refine ⟨x1, KQ.fr x1 x2 f1 (by omega), x3.fr f1 (by omega), ⟨z1, z2.fr f1 (by omega), ?_, z4, fun b hb => ?_, fun hh => ?_⟩, x5.fr f1 (Or.inl (by omega)), e, x7.fr f1 (by omega), x8, x9, fun e he => ?_, ?_, ?_⟩
  · obtain ⟨s1, s2, s3, s4, s5, s6⟩ := z3
    have g1 : ∀ z, J (s + 72 + 1) z = I (s + 72 + 1) z := fun z => f _ z (by omega) (by omega) (by omega)
    have g2 : ∀ z, J (s + 72 + 2) z = I (s + 72 + 2) z := fun z => f _ z (by omega) (by omega) (by omega)
    refine ⟨fun p hp => by rw [g1]; exact s1 p hp, by rw [g1]; exact s2, by rw [g1]; exact s3, by rw [g1]; exact s4, fun r hr => by rw [g1]; exact s5 r hr, fun e he => by rw [g2]; exact s6 e he⟩
  · obtain ⟨t, g1, g2⟩ := z5 b hb
    exact ⟨t, (f _ b (by omega) (by omega) (by omega)).trans g1, g2⟩
  · rw [e0, e0] at hh
    obtain ⟨r1, r2⟩ := z6 hh
    have fx : ∀ y, s + 75 ≤ y → y ≤ s + 94 → ∀ z, J y z = I y z := fun y a b z => f y z (by omega) (by omega) (by omega)
    refine ⟨cS_eq r1 fun j hj z => fx _ (by omega) (by omega) z, cL_eq r2 fun j hj z => fx _ (by omega) (by omega) z⟩
  · exact (f _ e (by omega) (by omega) (by omega)).trans (x10 e he)
  · rw [e0]; exact x11
  · rw [e0]; exact x12
theorem XC.t (X : XC I s q h l a ne np su cd c) (f : fr I J (s + 52) (s + 71)) (t : tmR J s) : XC J s q h l a ne np su cd c := X.v (mfv.of f) (X.E.fr f t)
end CXS
