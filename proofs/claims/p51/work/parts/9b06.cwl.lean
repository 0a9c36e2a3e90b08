/-! the class, as the law sees it -/
/-- the places of the class that its state rests on, all but the input, the errors, the names, the line -/
def cfr (I J : Ix) (s q : Nat) : Prop := J s 12 = I s 12 ∧ J s 13 = I s 13 ∧ (∀ y z, q ≤ y → y ≤ q + 8 → J y z = I y z) ∧ (∀ y z, s + 21 ≤ y → y ≤ s + 96 → J y z = I y z) ∧ ∀ y z, s + 99 ≤ y → y ≤ s + 162 → J y z = I y z
section INV
variable {I J : Ix} {s q y m : Nat} {h : Hi} {l : Li} {a : Nat → Nat} {ne np c : Nat} {su : Su} {cd : Nat → Cd} {nm : Nat → List Nat} {L : List Nat} {bf : Nat → Int} {n : Nat} {eo ek : Int} {S : List (Nat × Nat)} {T : Nat → Nat → Nat}
theorem XC.eq (X : XC I s q h l a ne np su cd c) (f : cfr I J s q) : XC J s q h l a ne np su cd c := by
  obtain ⟨f1, f2, f3, f4, f5⟩ := f
  have hq := X.hq
  have e4 : ∀ k, k ≤ 8 → ∀ z, J (q + k) z = I (q + k) z := fun k hk z => f3 _ z (by omega) (by omega)
  have B : KB J s h l a ne np := X.B.eq fun y h1 h2 z => f4 y z (by omega) (by omega)
  obtain ⟨k1, k2, k3, k4, k5, k6, k7⟩ := X.K
  have K : KQ J s q h l a ne np := ⟨cLi_eq k1 fun j hj z => f3 _ z (by omega) (by omega), (f3 q 2 (by omega) (by omega)).trans k2, cH_eq k3 fun j hj z => f4 _ z (by omega) (by omega), ⟨cS_eq k4.1 fun j hj z => f4 _ z (by omega) (by omega), cL_eq k4.2 fun j hj z => f4 _ z (by omega) (by omega)⟩, cP_eq k5 fun j hj z => f4 _ z (by omega) (by omega), cLi_eq k6 fun j hj z => f4 _ z (by omega) (by omega), k7⟩
  obtain ⟨z1, z2, z3, z4, z5, z6⟩ := X.Z
  refine ⟨hq, K, B, ⟨z1, B, cSu_eq z3 fun j hj z => f4 _ z (by omega) (by omega), z4, fun b hb => ?_, fun hh => ?_⟩, X.C.eq fun y h1 h2 z => f5 y z h1 h2, X.E.eq (fun y h1 h2 _ z => f4 y z (by omega) h2) f1, X.R.eq e4, X.W, X.D, fun e he => (f4 _ e (by omega) (by omega)).trans (X.pk e he), ?_, ?_⟩
  · rw [f4 _ b (by omega) (by omega)]; exact z5 b hb
  · rw [f1, f2] at hh
    obtain ⟨r1, r2⟩ := z6 hh
    exact ⟨cS_eq r1 fun j hj z => f4 _ z (by omega) (by omega), cL_eq r2 fun j hj z => f4 _ z (by omega) (by omega)⟩
  · rw [f1]; exact X.ch
  · rw [f2]; exact X.at
/-- the class -/
def CW (S : List (Nat × Nat)) (T : Nat → Nat → Nat) (I : Ix) (s q y : Nat) (h : Hi) (l : Li) (a : Nat → Nat) (ne np : Nat) (su : Su) (cd : Nat → Cd) (c : Nat) (nm : Nat → List Nat) (L : List Nat) (bf : Nat → Int) (n : Nat) (eo ek : Int) : Prop :=
  (oDropSwitch S T s q y ∧ oCk S T s ∧ dQ s q y) ∧ XC I s q h l a ne np su cd c ∧ cNm I q l nm ∧ cIn I s bf n ∧ lnS I (s + 97) L ∧ (I s 2 = eo ∧ I s 3 = ek) ∧ I (q + 7) 0 = 0 ∧ I (y + 7) 0 = 0
theorem CW.o (W : CW S T I s q y h l a ne np su cd c nm L bf n eo ek) : oDropSwitch S T s q y := W.1.1
theorem CW.ck (W : CW S T I s q y h l a ne np su cd c nm L bf n eo ek) : oCk S T s := W.1.2.1
theorem CW.dq (W : CW S T I s q y h l a ne np su cd c nm L bf n eo ek) : dQ s q y := W.1.2.2
theorem CW.X (W : CW S T I s q y h l a ne np su cd c nm L bf n eo ek) : XC I s q h l a ne np su cd c := W.2.1
theorem CW.nam (W : CW S T I s q y h l a ne np su cd c nm L bf n eo ek) : cNm I q l nm := W.2.2.1
theorem CW.inp (W : CW S T I s q y h l a ne np su cd c nm L bf n eo ek) : cIn I s bf n := W.2.2.2.1
theorem CW.ln (W : CW S T I s q y h l a ne np su cd c nm L bf n eo ek) : lnS I (s + 97) L := W.2.2.2.2.1
theorem CW.er (W : CW S T I s q y h l a ne np su cd c nm L bf n eo ek) : I s 2 = eo ∧ I s 3 = ek := W.2.2.2.2.2.1
theorem CW.q7 (W : CW S T I s q y h l a ne np su cd c nm L bf n eo ek) : I (q + 7) 0 = 0 := W.2.2.2.2.2.2.1
theorem CW.y7 (W : CW S T I s q y h l a ne np su cd c nm L bf n eo ek) : I (y + 7) 0 = 0 := W.2.2.2.2.2.2.2
/-- the state may have changed, the rest hasn't -/
theorem CW.nx {h' : Hi} {l' : Li} {a' : Nat → Nat} {ne' np' c' : Nat} {su' : Su} {cd' : Nat → Cd} (W : CW S T I s q y h l a ne np su cd c nm L bf n eo ek) (X : XC J s q h' l' a' ne' np' su' cd' c') (el : lPorts l' = lPorts l) (f : ∀ b z, s ≤ b → (b = s → z = 1 ∨ z = 2 ∨ z = 3) → (b < s + 21 ∨ b = s + 97 ∨ b = s + 98) → J b z = I b z) : CW S T J s q y h' l' a' ne' np' su' cd' c' nm L bf n eo ek := by
  have hq := W.dq
  obtain ⟨d1, d2, d3, d4, d5⟩ := hq
  refine ⟨⟨W.o, W.ck, W.dq⟩, X, fun p hp => ?_, ?_, ?_, ⟨(f s 2 (by omega) (by omega) (by omega)).trans W.er.1, (f s 3 (by omega) (by omega) (by omega)).trans W.er.2⟩, (f _ 0 (by omega) (by omega) (by omega)).trans W.q7, (f _ 0 (by omega) (by omega) (by omega)).trans W.y7⟩
  · rw [f _ p (by omega) (by omega) (by omega)]
    rw [el] at hp
    exact W.nam p hp
  · obtain ⟨i1, i2, i3⟩ := W.inp
    exact ⟨(f s 1 (by omega) (by omega) (by omega)).trans i1, i2, fun j hj => (f _ j (by omega) (by omega) (by omega)).trans (i3 j hj)⟩
  · obtain ⟨i1, i2, i3⟩ := W.ln
    exact ⟨(f _ 1 (by omega) (by omega) (by omega)).trans i1, i2, fun j hj => (f _ j (by omega) (by omega) (by omega)).trans (i3 j hj)⟩
theorem CW.al (W : CW S T I s q y h l a ne np su cd c nm L bf n eo ek) (f : ∀ b z, s ≤ b → b < s + 163 → J b z = I b z) : CW S T J s q y h l a ne np su cd c nm L bf n eo ek := by
  have hq := W.dq
  obtain ⟨d1, d2, d3, d4, d5⟩ := hq
  exact W.nx (W.X.eq ⟨f _ _ (by omega) (by omega), f _ _ (by omega) (by omega), fun b z _ _ => f b z (by omega) (by omega), fun b z _ _ => f b z (by omega) (by omega), fun b z _ _ => f b z (by omega) (by omega)⟩) rfl (fun b z hs _ hb => f b z hs (by omega))
theorem CW.t (W : CW S T I s q y h l a ne np su cd c nm L bf n eo ek) (f : fr I J (s + 52) (s + 71)) (t : tmR J s) : CW S T J s q y h l a ne np su cd c nm L bf n eo ek := W.nx (W.X.t f t) rfl (fun b z _ _ hb => f b (by omega) z)
theorem CW.v (W : CW S T I s q y h l a ne np su cd c nm L bf n eo ek) (f : mfv I J s) (e : KE J s h l ne) : CW S T J s q y h l a ne np su cd c nm L bf n eo ek := W.nx (W.X.v f e) rfl (fun b z _ _ hb => f b z (by omega) (by omega) (by omega))
theorem CW.g (W : CW S T I s q y h l a ne np su cd c nm L bf n eo ek) (hR : cR J (s + 75) h (supL l su) (runA h (supL l su) su.2.2.2 ne)) (h13 : J s 13 = I s 12) (f : mfg I J s) : CW S T J s q y h l a ne np su cd c nm L bf n eo ek := W.nx (W.X.g hR h13 f) rfl (fun b z _ h1 hb => f b z (by omega) (fun e => by have := h1 e; omega))
theorem CW.sp {su' : Su} (W : CW S T I s q y h l a ne np su cd c nm L bf n eo ek) (hS : cSu J (s + 72) su') (hsu : okSu su') (h13 : J s 13 = 0) (f : mfs I J s) : CW S T J s q y h l a ne np su' cd c nm L bf n eo ek := W.nx (W.X.sp hS hsu h13 f) rfl (fun b z _ h1 hb => f b z (fun e => by have := h1 e; omega) ⟨by omega, by omega⟩)
theorem CW.K {h' : Hi} {l' : Li} {a' : Nat → Nat} {ne' np' c' : Nat} {su' : Su} {cd' : Nat → Cd} (W : CW S T I s q y h l a ne np su cd c nm L bf n eo ek) (X : XC J s q h' l' a' ne' np' su' cd' c') (el : lPorts l' = lPorts l) (f : mfK I J s) : CW S T J s q y h' l' a' ne' np' su' cd' c' nm L bf n eo ek := W.nx X el (fun b z _ h1 hb => f b z (fun e => by have := h1 e; omega) (by omega))
theorem CW.line {L' : List Nat} (W : CW S T I s q y h l a ne np su cd c nm L bf n eo ek) (hL : lnS J (s + 97) L') (f : fr I J (s + 97) (s + 97 + 1)) : CW S T J s q y h l a ne np su cd c nm L' bf n eo ek := by
  have hq := W.dq
  obtain ⟨d1, d2, d3, d4, d5⟩ := hq
  refine ⟨⟨W.o, W.ck, W.dq⟩, W.X.eq ⟨f s (by omega) _, f s (by omega) _, fun b z _ _ => f b (by omega) z, fun b z _ _ => f b (by omega) z, fun b z _ _ => f b (by omega) z⟩, fun p hp => ?_, ?_, hL, ⟨(f s (by omega) 2).trans W.er.1, (f s (by omega) 3).trans W.er.2⟩, (f _ (by omega) 0).trans W.q7, (f _ (by omega) 0).trans W.y7⟩
  · rw [f _ (by omega) p]; exact W.nam p hp
  · obtain ⟨i1, i2, i3⟩ := W.inp
    exact ⟨(f s (by omega) 1).trans i1, i2, fun j hj => (f _ (by omega) j).trans (i3 j hj)⟩
theorem CW.txt {bf' : Nat → Int} {n' : Nat} (W : CW S T I s q y h l a ne np su cd c nm L bf n eo ek) (hI : cIn J s bf' n') (f : ∀ b z, (b = s → z ≠ 1) → b ≠ s + 1 → J b z = I b z) : CW S T J s q y h l a ne np su cd c nm L bf' n' eo ek := by
  have hq := W.dq
  obtain ⟨d1, d2, d3, d4, d5⟩ := hq
  refine ⟨⟨W.o, W.ck, W.dq⟩, W.X.eq ⟨f s _ (fun _ => by decide) (by omega), f s _ (fun _ => by decide) (by omega), fun b z _ _ => f b z (fun e => by omega) (by omega), fun b z _ _ => f b z (fun e => by omega) (by omega), fun b z _ _ => f b z (fun e => by omega) (by omega)⟩, fun p hp => ?_, hI, ?_, ⟨(f s 2 (by omega) (by omega)).trans W.er.1, (f s 3 (by omega) (by omega)).trans W.er.2⟩, (f _ 0 (by omega) (by omega)).trans W.q7, (f _ 0 (by omega) (by omega)).trans W.y7⟩
  · rw [f _ p (by omega) (by omega)]; exact W.nam p hp
  · obtain ⟨i1, i2, i3⟩ := W.ln
    exact ⟨(f _ 1 (by omega) (by omega)).trans i1, i2, fun j hj => (f _ j (by omega) (by omega)).trans (i3 j hj)⟩
/-- a longer memory, the class's references as they were -/
theorem oDropSwitch_ex2 {S' : List (Nat × Nat)} {T' : Nat → Nat → Nat} {s q y : Nat} (h : oDropSwitch S T s q y) (e : ex S S') (f : ∀ z w, s ≤ z → z < s + 163 → T' z w = T z w) (hq : s ≤ q ∧ q + 8 < s + 21) (hy : s ≤ y ∧ y + 8 < s + 21) : oDropSwitch S' T' s q y := by
  have g := oDropSwitch_ex (T' := fun z w => if s ≤ z then T' z w else T z w) h e (fun z w h1 _ => by
    by_cases hz : s ≤ z
    · rw [if_pos hz]; exact f z w hz (by omega)
    · rw [if_neg hz]) hq.2 hy.2
  obtain ⟨h1, h2, h3, h4, h5, h6, h7, h8, h9, h10, h11, h12, h13, h14, h15, h16, h17, h18, h19, h20, h21, h22, h23, h24, h25⟩ := g
  have f0 : ∀ z w, s ≤ z → T' z w = (if s ≤ z then T' z w else T z w) := fun z w hz => by rw [if_pos hz]
  have e9 : ex S' S' := fun _ _ h => h
  exact ⟨h1, h2, (f0 _ _ (by omega)).trans h3, oReader_ex h4 e9 (fun w => f0 _ w (by omega)) (fun j w a b => f0 _ w (by omega)), (f0 _ _ (by omega)).trans h5, oSetup_ex h6 e9 (fun j w a b => f0 _ w (by omega)), (f0 _ _ (by omega)).trans h7, oHistory_ex h8 e9 (fun w => f0 _ w (by omega)), (f0 _ _ (by omega)).trans h9, h10, (f0 _ _ (by omega)).trans h11, oRun_ex h12 e9 (fun j w a b => f0 _ w (by omega)) (fun w => f0 _ w (by omega)), (f0 _ _ (by omega)).trans h13, oRun_ex h14 e9 (fun j w a b => f0 _ w (by omega)) (fun w => f0 _ w (by omega)), (f0 _ _ (by omega)).trans h15, oSuppositions_ex h16 e9 (fun w => f0 _ w (by omega)), (f0 _ _ (by omega)).trans h17, oRun_ex h18 e9 (fun j w a b => f0 _ w (by omega)) (fun w => f0 _ w (by omega)), (f0 _ _ (by omega)).trans h19, h20, (f0 _ _ (by omega)).trans h21, h22, (f0 _ _ (by omega)).trans h23, oLine_ex h24 e9 (fun w => f0 _ w (by omega)), (f0 _ _ (by omega)).trans h25⟩
theorem oCk_ex2 {S' : List (Nat × Nat)} {T' : Nat → Nat → Nat} {s : Nat} (h : oCk S T s) (e : ex S S') (f : ∀ z w, s ≤ z → z < s + 163 → T' z w = T z w) : oCk S' T' s := fun c hc => ⟨(f _ _ (by omega) (by omega)).trans (h c hc).1, oState_ex (h c hc).2 e (fun w => f _ w (by omega) (by omega))⟩
/-- the class, beside what others do -/
theorem CW.mv {S' : List (Nat × Nat)} {T' : Nat → Nat → Nat} (W : CW S T I s q y h l a ne np su cd c nm L bf n eo ek) (e : ex S S') (f : ∀ b z, s ≤ b → b < s + 163 → J b z = I b z ∧ T' b z = T b z) : CW S' T' J s q y h l a ne np su cd c nm L bf n eo ek := by
  have W2 := W.al fun b z h1 h2 => (f b z h1 h2).1
  have hq := W.dq
  obtain ⟨d1, d2, d3, d4, d5⟩ := hq
  exact ⟨⟨oDropSwitch_ex2 W.o e (fun z w h1 h2 => (f z w h1 h2).2) (by omega) (by omega), oCk_ex2 W.ck e (fun z w h1 h2 => (f z w h1 h2).2), W.dq⟩, W2.2⟩
theorem ex_ap {S L : List (Nat × Nat)} : ex S (S ++ L) := fun _ _ h => ap_l h
end INV
