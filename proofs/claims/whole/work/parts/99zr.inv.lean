/-! class and reference side by side: what is true between the law's calls -/
/-- the places of the class that its state rests on, all but the input, the errors, the names, the line -/
def cfr (I J : Ix) (s q : Nat) : Prop := J s 12 = I s 12 ∧ J s 13 = I s 13 ∧ (∀ y z, q ≤ y → y ≤ q + 8 → J y z = I y z) ∧ (∀ y z, s + 21 ≤ y → y ≤ s + 96 → J y z = I y z) ∧ ∀ y z, s + 99 ≤ y → y ≤ s + 162 → J y z = I y z
section INV
variable {I J : Ix} {s q y m : Nat} {h : Hi} {l : Li} {a : Nat → Nat} {ne np c : Nat} {su : Su} {cd : Nat → Cd} {nm : Nat → List Nat} {L : List Nat} {bf : Nat → Int} {n : Nat} {eo ek : Int} {S : List (Nat × Nat)} {T : Nat → Nat → Nat}
theorem XC.eq (X : XC I s q h l a ne np su cd c) (f : cfr I J s q) : XC J s q h l a ne np su cd c := by
  obtain ⟨f1, f2, f3, f4, f5⟩ := f
  have hq := X.hq
  have e4 : ∀ k, k ≤ 8 → ∀ z, J (q + k) z = I (q + k) z := fun k hk z => f3 _ z (by omega) (by omega)
  have B : KB J s h l a ne np := X.B.eq fun y h1 h2 z => f4 y z (by omega) (by omega)
  obtain ⟨k1, k2, k3, k4, k5, k6, k7⟩ := X.K
  have K : KQ J s q h l a ne np := ⟨cLi_eq k1 fun j hj z => f3 _ z (by omega) (by omega), (f3 q 2 (by omega) (by omega)).trans k2, cH_eq k3 fun j hj z => f4 _ z (by omega) (by omega), ⟨cS_eq k4.1 fun j hj z => f4 _ z (by omega) (by omega), cL_eq k4.2 fun j hj z => f4 _ z (by omega) (by omega)⟩, cP_eq k5 fun j hj z => f4 _ z (by omega) (by omega), cLi_eq k6 fun j hj z => f4 _ z (by omega) (by omega), k7⟩
  obtain ⟨z1, z2, z3, z4, z5, z6⟩ := X.Z
  refine ⟨hq, K, B, ⟨z1, B, cSu_eq z3 fun j hj z => f4 _ z (by omega) (by omega), z4, fun b hb => ?_, fun hh => ?_⟩, X.C.eq fun y h1 h2 z => f5 y z h1 h2, X.E.eq (fun y h1 h2 _ z => f4 y z (by omega) h2) f1, X.R.eq e4, X.W, X.D, fun e he => (f4 _ e (by omega) (by omega)).trans (X.pk e he), ?_, ?_⟩
  · rw [f4 _ b (by omega) (by omega)]; exact z5 b hb
  · rw [f1, f2] at hh
    obtain ⟨r1, r2⟩ := z6 hh
    exact ⟨cS_eq r1 fun j hj z => f4 _ z (by omega) (by omega), cL_eq r2 fun j hj z => f4 _ z (by omega) (by omega)⟩
  · rw [f1]; exact X.ch
  · rw [f2]; exact X.at
/-- the class -/
def CW (S : List (Nat × Nat)) (T : Nat → Nat → Nat) (I : Ix) (s q y : Nat) (h : Hi) (l : Li) (a : Nat → Nat) (ne np : Nat) (su : Su) (cd : Nat → Cd) (c : Nat) (nm : Nat → List Nat) (L : List Nat) (bf : Nat → Int) (n : Nat) (eo ek : Int) : Prop :=
  (oDropSwitch S T s q y ∧ oCk S T s ∧ dQ s q y) ∧ XC I s q h l a ne np su cd c ∧ cNm I q l nm ∧ cIn I s bf n ∧ lnS I (s + 97) L ∧ (I s 2 = eo ∧ I s 3 = ek) ∧ I (q + 7) 0 = 0 ∧ I (y + 7) 0 = 0
/-- the reference -/
def RW (I : Ix) (m : Nat) (h : Hi) (l : Li) (a : Nat → Nat) (ne np : Nat) (su : Su) (cd : Nat → Cd) (nm : Nat → List Nat) (L : List Nat) (bf : Nat → Int) (n : Nat) (eo ek : Int) : Prop :=
  MP I m h l a ne np cd ∧ nSu I m su ∧ mNm I m l nm ∧ mIn I m bf n ∧ mlS I m L ∧ (I m 23 = eo ∧ I m 24 = ek) ∧ (∀ e, e < ne → I (m + 10) (7 * e + 6) = pkO h e) ∧ okB bf n
/-- both, and the row for answers behind them -/
def INV (S : List (Nat × Nat)) (T : Nat → Nat → Nat) (I : Ix) (s c : Nat) : Prop :=
  oModel S T (s + 163) ∧ S[s + 203]? = some (2, 1) ∧ ∃ q y h l a ne np su cd nm L bf n eo ek, CW S T I s q y h l a ne np su cd c nm L bf n eo ek ∧ RW I (s + 163) h l a ne np su cd nm L bf n eo ek
theorem CW.o (W : CW S T I s q y h l a ne np su cd c nm L bf n eo ek) : oDropSwitch S T s q y := W.1.1
theorem CW.ck (W : CW S T I s q y h l a ne np su cd c nm L bf n eo ek) : oCk S T s := W.1.2.1
theorem CW.dq (W : CW S T I s q y h l a ne np su cd c nm L bf n eo ek) : dQ s q y := W.1.2.2
theorem CW.X (W : CW S T I s q y h l a ne np su cd c nm L bf n eo ek) : XC I s q h l a ne np su cd c := W.2.1
theorem CW.nam (W : CW S T I s q y h l a ne np su cd c nm L bf n eo ek) : cNm I q l nm := W.2.2.1
theorem CW.inp (W : CW S T I s q y h l a ne np su cd c nm L bf n eo ek) : cIn I s bf n := W.2.2.2.1
theorem CW.ln (W : CW S T I s q y h l a ne np su cd c nm L bf n eo ek) : lnS I (s + 97) L := W.2.2.2.2.1
theorem CW.er (W : CW S T I s q y h l a ne np su cd c nm L bf n eo ek) : I s 2 = eo ∧ I s 3 = ek := W.2.2.2.2.2.1
theorem CW.q7 (W : CW S T I s q y h l a ne np su cd c nm L bf n eo ek) : I (q + 7) 0 = 0 := W.2.2.2.2.2.2.1
theorem CW.y7 (W : CW S T I s q y h l a ne np su cd c nm L bf n eo ek) : I (y + 7) 0 = 0 := W.2.2.2.2.2.2.2
/-- the state may have changed, the rest hasn't -/
theorem CW.nx {h' : Hi} {l' : Li} {a' : Nat → Nat} {ne' np' c' : Nat} {su' : Su} {cd' : Nat → Cd} (W : CW S T I s q y h l a ne np su cd c nm L bf n eo ek) (X : XC J s q h' l' a' ne' np' su' cd' c') (el : lPorts l' = lPorts l) (f : ∀ b z, (b = s → z = 1 ∨ z = 2 ∨ z = 3) → (b < s + 21 ∨ b = s + 97 ∨ b = s + 98) → J b z = I b z) : CW S T J s q y h' l' a' ne' np' su' cd' c' nm L bf n eo ek := by
  have hq := W.dq
  obtain ⟨d1, d2, d3, d4, d5⟩ := hq
  refine ⟨⟨W.o, W.ck, W.dq⟩, X, fun p hp => ?_, ?_, ?_, ⟨(f s 2 (by omega) (by omega)).trans W.er.1, (f s 3 (by omega) (by omega)).trans W.er.2⟩, (f _ 0 (by omega) (by omega)).trans W.q7, (f _ 0 (by omega) (by omega)).trans W.y7⟩
  · rw [f _ p (by omega) (by omega)]
    rw [el] at hp
    exact W.nam p hp
  · obtain ⟨i1, i2, i3⟩ := W.inp
    exact ⟨(f s 1 (by omega) (by omega)).trans i1, i2, fun j hj => (f _ j (by omega) (by omega)).trans (i3 j hj)⟩
  · obtain ⟨i1, i2, i3⟩ := W.ln
    exact ⟨(f _ 1 (by omega) (by omega)).trans i1, i2, fun j hj => (f _ j (by omega) (by omega)).trans (i3 j hj)⟩
theorem CW.al (W : CW S T I s q y h l a ne np su cd c nm L bf n eo ek) (f : ∀ b z, b < s + 163 → J b z = I b z) : CW S T J s q y h l a ne np su cd c nm L bf n eo ek := by
  have hq := W.dq
  obtain ⟨d1, d2, d3, d4, d5⟩ := hq
  exact W.nx (W.X.eq ⟨f _ _ (by omega), f _ _ (by omega), fun b z _ _ => f b z (by omega), fun b z _ _ => f b z (by omega), fun b z _ _ => f b z (by omega)⟩) rfl (fun b z _ hb => f b z (by omega))
theorem CW.t (W : CW S T I s q y h l a ne np su cd c nm L bf n eo ek) (f : fr I J (s + 52) (s + 71)) (t : tmR J s) : CW S T J s q y h l a ne np su cd c nm L bf n eo ek := W.nx (W.X.t f t) rfl (fun b z _ hb => f b (by omega) z)
theorem CW.v (W : CW S T I s q y h l a ne np su cd c nm L bf n eo ek) (f : mfv I J s) (e : KE J s h l ne) : CW S T J s q y h l a ne np su cd c nm L bf n eo ek := W.nx (W.X.v f e) rfl (fun b z _ hb => f b z (by omega) (by omega) (by omega))
theorem CW.g (W : CW S T I s q y h l a ne np su cd c nm L bf n eo ek) (hR : cR J (s + 75) h (supL l su) (runA h (supL l su) su.2.2.2 ne)) (h13 : J s 13 = I s 12) (f : mfg I J s) : CW S T J s q y h l a ne np su cd c nm L bf n eo ek := W.nx (W.X.g hR h13 f) rfl (fun b z h1 hb => f b z (by omega) (fun e => by have := h1 e; omega))
theorem CW.sp {su' : Su} (W : CW S T I s q y h l a ne np su cd c nm L bf n eo ek) (hS : cSu J (s + 72) su') (hsu : okSu su') (h13 : J s 13 = 0) (f : mfs I J s) : CW S T J s q y h l a ne np su' cd c nm L bf n eo ek := W.nx (W.X.sp hS hsu h13 f) rfl (fun b z h1 hb => f b z (fun e => by have := h1 e; omega) ⟨by omega, by omega⟩)
theorem CW.K {h' : Hi} {l' : Li} {a' : Nat → Nat} {ne' np' c' : Nat} {su' : Su} {cd' : Nat → Cd} (W : CW S T I s q y h l a ne np su cd c nm L bf n eo ek) (X : XC J s q h' l' a' ne' np' su' cd' c') (el : lPorts l' = lPorts l) (f : mfK I J s) : CW S T J s q y h' l' a' ne' np' su' cd' c' nm L bf n eo ek := W.nx X el (fun b z h1 hb => f b z (fun e => by have := h1 e; omega) (by omega))
theorem CW.line {L' : List Nat} (W : CW S T I s q y h l a ne np su cd c nm L bf n eo ek) (hL : lnS J (s + 97) L') (f : fr I J (s + 97) (s + 97 + 1)) : CW S T J s q y h l a ne np su cd c nm L' bf n eo ek := by
  have hq := W.dq
  obtain ⟨d1, d2, d3, d4, d5⟩ := hq
  refine ⟨⟨W.o, W.ck, W.dq⟩, W.X.eq ⟨f s (by omega) _, f s (by omega) _, fun b z _ _ => f b (by omega) z, fun b z _ _ => f b (by omega) z, fun b z _ _ => f b (by omega) z⟩, fun p hp => ?_, ?_, hL, ⟨(f s (by omega) 2).trans W.er.1, (f s (by omega) 3).trans W.er.2⟩, (f _ (by omega) 0).trans W.q7, (f _ (by omega) 0).trans W.y7⟩
  · rw [f _ (by omega) p]; exact W.nam p hp
  · obtain ⟨i1, i2, i3⟩ := W.inp
    exact ⟨(f s (by omega) 1).trans i1, i2, fun j hj => (f _ (by omega) j).trans (i3 j hj)⟩
theorem CW.txt {bf' : Nat → Int} {n' : Nat} (W : CW S T I s q y h l a ne np su cd c nm L bf n eo ek) (hI : cIn J s bf' n') (f : ∀ b z, (b = s → z ≠ 1) → b ≠ s + 1 → J b z = I b z) : CW S T J s q y h l a ne np su cd c nm L bf' n' eo ek := by
  have hq := W.dq
  obtain ⟨d1, d2, d3, d4, d5⟩ := hq
  refine ⟨⟨W.o, W.ck, W.dq⟩, W.X.eq ⟨f s _ (fun _ => by decide) (by omega), f s _ (fun _ => by decide) (by omega), fun b z _ _ => f b z (fun e => by omega) (by omega), fun b z _ _ => f b z (fun e => by omega) (by omega), fun b z _ _ => f b z (fun e => by omega) (by omega)⟩, fun p hp => ?_, hI, ?_, ⟨(f s 2 (by omega) (by omega)).trans W.er.1, (f s 3 (by omega) (by omega)).trans W.er.2⟩, (f _ 0 (by omega) (by omega)).trans W.q7, (f _ 0 (by omega) (by omega)).trans W.y7⟩
  · rw [f _ p (by omega) (by omega)]; exact W.nam p hp
  · obtain ⟨i1, i2, i3⟩ := W.ln
    exact ⟨(f _ 1 (by omega) (by omega)).trans i1, i2, fun j hj => (f _ j (by omega) (by omega)).trans (i3 j hj)⟩
/-! the reference -/
theorem RW.P (R : RW I m h l a ne np su cd nm L bf n eo ek) : MP I m h l a ne np cd := R.1
theorem RW.sup (R : RW I m h l a ne np su cd nm L bf n eo ek) : nSu I m su := R.2.1
theorem RW.nam (R : RW I m h l a ne np su cd nm L bf n eo ek) : mNm I m l nm := R.2.2.1
theorem RW.inp (R : RW I m h l a ne np su cd nm L bf n eo ek) : mIn I m bf n := R.2.2.2.1
theorem RW.ln (R : RW I m h l a ne np su cd nm L bf n eo ek) : mlS I m L := R.2.2.2.2.1
theorem RW.er (R : RW I m h l a ne np su cd nm L bf n eo ek) : I m 23 = eo ∧ I m 24 = ek := R.2.2.2.2.2.1
theorem RW.pk (R : RW I m h l a ne np su cd nm L bf n eo ek) : ∀ e, e < ne → I (m + 10) (7 * e + 6) = pkO h e := R.2.2.2.2.2.2.1
theorem RW.ob (R : RW I m h l a ne np su cd nm L bf n eo ek) : okB bf n := R.2.2.2.2.2.2.2
theorem MP.lo (B : MP I m h l a ne np cd) (e0 : ∀ j, 0 < j ∧ j < 44 → j ≠ 20 ∧ j ≠ 23 ∧ j ≠ 24 → J m j = I m j) (e : ∀ j, j ≤ 22 ∧ 0 < j → j ≠ 12 → ∀ z, J (m + j) z = I (m + j) z) : MP J m h l a ne np cd := by
  obtain ⟨b1, b2, b3, b4, b5, b6, b7, b8, b9⟩ := B
  refine ⟨?_, ?_, ?_, b4, b5, b6, fun k hk => by rw [e 10 (by decide) (by decide)]; exact b7 k hk, by rw [e0 15 (by decide) (by decide)]; exact b8, by rw [e0 16 (by decide) (by decide)]; exact b9⟩
  · unfold mH at b1 ⊢
    simp only [e 10 (by decide) (by decide), e 11 (by decide) (by decide)]
    exact b1
  · unfold nB at b2 ⊢
    simp only [e0 1 (by decide) (by decide), e0 7 (by decide) (by decide), e0 8 (by decide) (by decide), e0 9 (by decide) (by decide), e0 10 (by decide) (by decide), e 2 (by decide) (by decide), e 3 (by decide) (by decide), e 4 (by decide) (by decide), e 5 (by decide) (by decide), e 6 (by decide) (by decide)]
    exact b2
  · unfold nC codesAt at b3 ⊢
    simp only [e 7 (by decide) (by decide), e 8 (by decide) (by decide), e 9 (by decide) (by decide)]
    exact b3
theorem nSu.lo (H : nSu I m su) (e0 : ∀ j, 43 < j ∧ j < 48 → J m j = I m j) (e : ∀ j, j = 23 ∨ j = 24 → ∀ z, J (m + j) z = I (m + j) z) : nSu J m su := by
  unfold nSu at H ⊢
  simp only [e0 44 (by decide), e0 45 (by decide), e0 46 (by decide), e0 47 (by decide), e 23 (by decide), e 24 (by decide)]
  exact H
/-- the reference's state may have changed, the rest hasn't -/
theorem RW.nx {h' : Hi} {l' : Li} {a' : Nat → Nat} {ne' np' : Nat} {su' : Su} {cd' : Nat → Cd} (R : RW I m h l a ne np su cd nm L bf n eo ek) (P : MP J m h' l' a' ne' np' cd') (Z : nSu J m su') (K : ∀ e, e < ne' → J (m + 10) (7 * e + 6) = pkO h' e) (el : lPorts l' = lPorts l) (f : ∀ b z, (b = m → z = 20 ∨ z = 23 ∨ z = 24 ∨ z = 75) → (b = m ∨ b = m + 1 ∨ b = m + 12 ∨ b = m + 39) → J b z = I b z) : RW J m h' l' a' ne' np' su' cd' nm L bf n eo ek := by
  refine ⟨P, Z, fun p hp => ?_, ?_, ?_, ⟨(f m 23 (by omega) (by omega)).trans R.er.1, (f m 24 (by omega) (by omega)).trans R.er.2⟩, K, R.ob⟩
  · rw [f _ p (by omega) (by omega)]
    rw [el] at hp
    exact R.nam p hp
  · obtain ⟨i1, i2, i3⟩ := R.inp
    exact ⟨(f m 20 (by omega) (by omega)).trans i1, i2, fun j hj => (f _ j (by omega) (by omega)).trans (i3 j hj)⟩
  · obtain ⟨i1, i2, i3⟩ := R.ln
    exact ⟨(f m 75 (by omega) (by omega)).trans i1, i2, fun j hj => (f _ j (by omega) (by omega)).trans (i3 j hj)⟩
theorem RW.k (R : RW I m h l a ne np su cd nm L bf n eo ek) (f : mfk I J m) : RW J m h l a ne np su cd nm L bf n eo ek :=
  R.nx (R.P.k f) (R.sup.k f) (fun e he => (f _ _ (by omega) (by omega)).trans (R.pk e he)) rfl (fun b z h1 h2 => f b z (fun e => by have := h1 e; omega) (by omega))
theorem RW.al (R : RW I m h l a ne np su cd nm L bf n eo ek) (f : ∀ b z, m ≤ b → b ≤ m + 39 → J b z = I b z) : RW J m h l a ne np su cd nm L bf n eo ek :=
  R.nx (R.P.lo (fun j _ _ => f m j (by omega) (by omega)) (fun j hj _ z => f _ z (by omega) (by omega))) (R.sup.lo (fun j _ => f m j (by omega) (by omega)) (fun j hj z => f _ z (by omega) (by omega))) (fun e he => (f _ _ (by omega) (by omega)).trans (R.pk e he)) rfl (fun b z h1 h2 => f b z (by omega) (by omega))
theorem RW.e {h' : Hi} {a' : Nat → Nat} {np' : Nat} {v : Int} (R : RW I m h l a ne np su cd nm L bf n eo ek) (P : MP J m h' l a' (ne + 1) np' cd) (f : mfe I J m) (p : p6 I J m ne v) (hv : v = pkO h' ne) (ho : ∀ e, e < ne → pkO h' e = pkO h e) : RW J m h' l a' (ne + 1) np' su cd nm L bf n eo ek :=
  R.nx P (R.sup.e f) (fun e he => by
    by_cases hee : e = ne
    · subst hee
      rw [p.1, hv]
    · rw [p.2 _ (by omega), ho e (by omega)]
      exact R.pk e (by omega)) rfl (fun b z h1 h2 => f b z (fun e => by have := h1 e; omega) (by omega))
theorem RW.o {su' : Su} (R : RW I m h l a ne np su cd nm L bf n eo ek) (Z : nSu J m su') (f : mfo I J m) : RW J m h l a ne np su' cd nm L bf n eo ek :=
  R.nx (R.P.o f) Z (fun e he => (f _ _ (by omega) (by omega)).trans (R.pk e he)) rfl (fun b z h1 h2 => f b z (fun e => by have := h1 e; omega) (by omega))
theorem RW.w {ne' np' : Nat} {su' : Su} (R : RW I m h l a ne np su cd nm L bf n eo ek) (P : MP J m h l a ne' np' cd) (Z : nSu J m su') (hn : ne' ≤ ne) (f : mfw I J m) : RW J m h l a ne' np' su' cd nm L bf n eo ek :=
  R.nx P Z (fun e he => (f _ _ (by omega) (by omega)).trans (R.pk e (by omega))) rfl (fun b z h1 h2 => f b z (fun e => by have := h1 e; omega) (by omega))
theorem RW.line {L' : List Nat} (R : RW I m h l a ne np su cd nm L bf n eo ek) (hL : mlS J m L') (f : mfF I J m) : RW J m h l a ne np su cd nm L' bf n eo ek := by
  have e0 : ∀ j, 0 < j ∧ j < 50 → J m j = I m j := fun j hj => f m j (fun _ => ⟨by omega, by omega, Or.inl hj.2⟩) (fun e => absurd e (Nat.lt_irrefl m))
  have e : ∀ j, j ≤ 24 ∧ 0 < j → ∀ z, J (m + j) z = I (m + j) z := fun j hj z => f (m + j) z (fun e => by omega) (fun _ => by omega)
  refine ⟨R.P.lo (fun j hj _ => e0 j (by omega)) (fun j hj _ z => e j (by omega) z), R.sup.lo (fun j hj => e0 j (by omega)) (fun j hj z => e j (by omega) z), fun p hp => ?_, ?_, hL, ⟨(e0 23 (by decide)).trans R.er.1, (e0 24 (by decide)).trans R.er.2⟩, fun x hx => (e 10 (by decide) _).trans (R.pk x hx), R.ob⟩
  · rw [e 1 (by decide)]; exact R.nam p hp
  · obtain ⟨i1, i2, i3⟩ := R.inp
    exact ⟨(e0 20 (by decide)).trans i1, i2, fun j hj => (e 12 (by decide) j).trans (i3 j hj)⟩
theorem RW.txt {bf' : Nat → Int} {n' : Nat} (R : RW I m h l a ne np su cd nm L bf n eo ek) (hI : mIn J m bf' n') (ob : okB bf' n') (f : ∀ b z, (b = m → z ≠ 0 ∧ z ≠ 20) → b ≠ m + 12 → J b z = I b z) : RW J m h l a ne np su cd nm L bf' n' eo ek := by
  refine ⟨R.P.lo (fun j hj h2 => f m j (fun _ => by omega) (by omega)) (fun j hj h2 z => f _ z (by omega) (by omega)), R.sup.lo (fun j hj => f m j (by omega) (by omega)) (fun j hj z => f _ z (by omega) (by omega)), fun p hp => ?_, hI, ?_, ⟨(f m 23 (by omega) (by omega)).trans R.er.1, (f m 24 (by omega) (by omega)).trans R.er.2⟩, fun x hx => (f _ _ (by omega) (by omega)).trans (R.pk x hx), ob⟩
  · rw [f _ p (by omega) (by omega)]; exact R.nam p hp
  · obtain ⟨i1, i2, i3⟩ := R.ln
    exact ⟨(f m 75 (by omega) (by omega)).trans i1, i2, fun j hj => (f _ j (by omega) (by omega)).trans (i3 j hj)⟩
theorem RW.u0 {v : Int} (R : RW I m h l a ne np su cd nm L bf n eo ek) : RW (up I m 0 v) m h l a ne np su cd nm L bf n eo ek := R.k (mfk.u (Or.inl rfl))
end INV
/-! a call of the class in its cover, then the reference's -/
/-- a value, with what is then -/
def VP (S : List (Nat × Nat)) (cc zz : Nat) (P : Int → Ix → (Nat → Nat → Nat) → Prop) : Res → Mem → Prop := fun r m1 => ∃ V I1 T1, r = .inl (some (vi V)) ∧ m1 = (S, I1, T1, cc, zz) ∧ P V I1 T1
def WV (S : List (Nat × Nat)) (w cc zz : Nat) (P : Int → Ix → (Nat → Nat → Nat) → Prop) : Res → Mem → Prop := fun r m1 => ∃ V I1 T1, r = .inl (some (vi 0)) ∧ m1 = (S, up I1 w 0 V, T1, cc, zz) ∧ P V I1 T1
/-- an exception -/
def XP (S : List (Nat × Nat)) (T : Nat → Nat → Nat) (cc zz x : Nat) (P : Ix → Prop) : Res → Mem → Prop := fun r m1 => ∃ I1, r = .inr x ∧ m1 = (S, I1, T, cc - 1, zz - 6) ∧ P I1
def WXP (S : List (Nat × Nat)) (T : Nat → Nat → Nat) (cc zz : Nat) (k : Int) (P : Ix → Prop) : Res → Mem → Prop := fun r m1 => ∃ I1, r = .inl (some (vi k)) ∧ m1 = (S, I1, T, cc - 1, zz - 6) ∧ P I1
/-- what the law finds behind the cover's call: the reference's call agrees -/
def PP (xs : List Int) (S : List (Nat × Nat)) (s cc zz c jr : Nat) (A : List AV) (B : Int → Prop) : Res → Mem → Prop := fun r m1 => ∃ k I1 T1 c1 z1, r = .inl (some (vi k)) ∧ m1 = (S, I1, T1, c1, z1) ∧ cc ≤ c1 + 1 ∧ zz ≤ z1 + 6 ∧ CL xs jr (vr (s + 163) :: A) m1 (fun r2 m2 => ∃ b I2 c', r2 = .inl (some (vi b)) ∧ m2 = (S, I2, T1, c1, z1) ∧ INV S T1 I2 s c' ∧ c' ≤ c + 1 ∧ I2 (s + 163) 0 = k ∧ (k = 0 → I2 (s + 203) 0 = b) ∧ B b)
/-- the same without a cover -/
def PY (xs : List Int) (S : List (Nat × Nat)) (T : Nat → Nat → Nat) (s cc zz c jr : Nat) (A : List AV) : Res → Mem → Prop := fun r m1 => ∃ V I1, r = .inl (some (vi V)) ∧ m1 = (S, I1, T, cc, zz) ∧ CL xs jr (vr (s + 163) :: A) m1 (fun r2 m2 => ∃ I2 c', r2 = .inl (some (vi V)) ∧ m2 = (S, I2, T, cc, zz) ∧ INV S T I2 s c' ∧ c' ≤ c + 1)
section PGS
variable {xs : List Int} {I : Ix} {s q y : Nat} {h h' : Hi} {l l' : Li} {a a' : Nat → Nat} {ne np ne' np' c c' : Nat} {su su' : Su} {cd cd' : Nat → Cd} {nm nm' : Nat → List Nat} {L L' : List Nat} {bf bf' : Nat → Int} {n n' : Nat} {eo ek eo' ek' : Int} {S : List (Nat × Nat)} {T : Nat → Nat → Nat} {cc zz jw jr q' y' : Nat} {AW A : List AV} {V0 k : Int} {B : Int → Prop}
theorem PG (h203 : S[s + 203]? = some (2, 1)) (R : RW I (s + 163) h l a ne np su cd nm L bf n eo ek)
    (h1 : CL xs jw AW (S, I, T, cc, zz) (WV S (s + 203) cc zz (fun V I1 T1 => V = V0 ∧ CW S T1 I1 s q' y' h' l' a' ne' np' su' cd' c' nm' L' bf' n' eo' ek' ∧ oModel S T1 (s + 163) ∧ ∀ b z, s + 163 ≤ b → I1 b z = I b z)))
    (h2 : ∀ J T1, RW J (s + 163) h l a ne np su cd nm L bf n eo ek → oModel S T1 (s + 163) → CL xs jr (vr (s + 163) :: A) (S, J, T1, cc, zz) (RP S T1 cc zz (fun v J' => v = some (vi V0) ∧ J' (s + 163) 0 = 0 ∧ RW J' (s + 163) h' l' a' ne' np' su' cd' nm' L' bf' n' eo' ek' ∧ ∀ b z, (b < s + 163 ∨ b = s + 203) → J' b z = J b z)))
    (hc : c' ≤ c + 1) (hB : B V0) : CL xs jw AW (S, I, T, cc, zz) (PP xs S s cc zz c jr A B) := by
  refine CL_mono h1 fun r m1 hr => ?_
  obtain ⟨V, I1, T1, rfl, rfl, rfl, W, hm, f⟩ := hr
  refine ⟨0, _, T1, cc, zz, rfl, rfl, by omega, by omega, ?_⟩
  have R1 : RW (up I1 (s + 203) 0 V) (s + 163) h l a ne np su cd nm L bf n eo ek := R.al fun b z b1 b2 => (up_no (by omega)).trans (f b z b1)
  refine CL_mono (h2 _ T1 R1 hm) fun r2 m2 hr2 => ?_
  obtain ⟨v, J', rfl, rfl, rfl, e0, R', g⟩ := hr2
  refine ⟨V, J', c', rfl, rfl, ⟨hm, h203, q', y', h', l', a', ne', np', su', cd', nm', L', bf', n', eo', ek', W.al fun b z hb => (g b z (by omega)).trans (up_no (by omega)), R'⟩, hc, e0, fun _ => (g _ _ (by omega)).trans up_eq, hB⟩
theorem PX (h203 : S[s + 203]? = some (2, 1)) (hm : oModel S T (s + 163)) (R : RW I (s + 163) h l a ne np su cd nm L bf n eo ek)
    (h1 : CL xs jw AW (S, I, T, cc, zz) (WXP S T cc zz k (fun I1 => CW S T I1 s q' y' h' l' a' ne' np' su' cd' c' nm' L' bf' n' eo' ek' ∧ ∀ b z, s + 163 ≤ b → I1 b z = I b z)))
    (h2 : ∀ J cc zz, RW J (s + 163) h l a ne np su cd nm L bf n eo ek → CL xs jr (vr (s + 163) :: A) (S, J, T, cc, zz) (RP S T cc zz (fun v J' => v = some (vi 0) ∧ J' (s + 163) 0 = k ∧ RW J' (s + 163) h' l' a' ne' np' su' cd' nm' L' bf' n' eo' ek' ∧ ∀ b z, (b < s + 163 ∨ b = s + 203) → J' b z = J b z)))
    (hk : k ≠ 0) (hc : c' ≤ c + 1) (hB : B 0) : CL xs jw AW (S, I, T, cc, zz) (PP xs S s cc zz c jr A B) := by
  refine CL_mono h1 fun r m1 hr => ?_
  obtain ⟨I1, rfl, rfl, W, f⟩ := hr
  refine ⟨k, _, T, cc - 1, zz - 6, rfl, rfl, by omega, by omega, ?_⟩
  have R1 : RW I1 (s + 163) h l a ne np su cd nm L bf n eo ek := R.al fun b z b1 b2 => f b z b1
  refine CL_mono (h2 _ _ _ R1) fun r2 m2 hr2 => ?_
  obtain ⟨v, J', rfl, rfl, rfl, e0, R', g⟩ := hr2
  exact ⟨0, J', c', rfl, rfl, ⟨hm, h203, q', y', h', l', a', ne', np', su', cd', nm', L', bf', n', eo', ek', W.al fun b z hb => g b z (by omega), R'⟩, hc, e0, fun e => absurd e hk, hB⟩
theorem PBG (h203 : S[s + 203]? = some (2, 1)) (hm : oModel S T (s + 163)) (R : RW I (s + 163) h l a ne np su cd nm L bf n eo ek)
    (h1 : CL xs jw AW (S, I, T, cc, zz) (RP S T cc zz (fun v I1 => v = some (vi V0) ∧ CW S T I1 s q' y' h' l' a' ne' np' su' cd' c' nm' L' bf' n' eo' ek' ∧ ∀ b z, s + 163 ≤ b → I1 b z = I b z)))
    (h2 : ∀ J, RW J (s + 163) h l a ne np su cd nm L bf n eo ek → CL xs jr (vr (s + 163) :: A) (S, J, T, cc, zz) (RP S T cc zz (fun v J' => v = some (vi V0) ∧ RW J' (s + 163) h' l' a' ne' np' su' cd' nm' L' bf' n' eo' ek' ∧ ∀ b z, (b < s + 163 ∨ b = s + 203) → J' b z = J b z)))
    (hc : c' ≤ c + 1) : CL xs jw AW (S, I, T, cc, zz) (PY xs S T s cc zz c jr A) := by
  refine CL_mono h1 fun r m1 hr => ?_
  obtain ⟨v, I1, rfl, rfl, rfl, W, f⟩ := hr
  refine ⟨V0, _, rfl, rfl, ?_⟩
  have R1 : RW I1 (s + 163) h l a ne np su cd nm L bf n eo ek := R.al fun b z b1 b2 => f b z b1
  refine CL_mono (h2 _ R1) fun r2 m2 hr2 => ?_
  obtain ⟨v, J', rfl, rfl, rfl, R', g⟩ := hr2
  exact ⟨J', c', rfl, rfl, ⟨hm, h203, q', y', h', l', a', ne', np', su', cd', nm', L', bf', n', eo', ek', W.al fun b z hb => g b z (by omega), R'⟩, hc⟩
end PGS
