/-! the class: what stays true -/
theorem cLi_eq {I J : Ix} {s : Nat} {l : Li} (H : cLi I s l) (e : ∀ j, j ≤ 4 → ∀ z, J (s + j) z = I (s + j) z) : cLi J s l := by
  have e0 : ∀ y, J s y = I s y := fun y => e 0 (by decide) y
  unfold cLi at H ⊢
  simp only [e0, e 1 (by decide), e 2 (by decide), e 3 (by decide), e 4 (by decide)]
  exact H
theorem cH_eq {I J : Ix} {x : Nat} {h : Hi} {a : Nat → Nat} {ne np : Nat} (H : cH I x h a ne np) (e : ∀ j, j ≤ 8 → ∀ z, J (x + j) z = I (x + j) z) : cH J x h a ne np := by
  have e0 : ∀ y, J x y = I x y := fun y => e 0 (by decide) y
  unfold cH at H ⊢
  simp only [e0, e 1 (by decide), e 2 (by decide), e 3 (by decide), e 4 (by decide), e 5 (by decide), e 6 (by decide), e 7 (by decide), e 8 (by decide)]
  exact H
theorem cP_eq {I J : Ix} {b : Nat} {pk : Pk} (H : cP I b pk) (e : ∀ j, j ≤ 5 → ∀ z, J (b + j) z = I (b + j) z) : cP J b pk := fun p hp => by
  rw [e 4 (by decide), e 5 (by decide)]; exact H p hp
theorem cSu_eq {I J : Ix} {s : Nat} {su : Su} (H : cSu I s su) (e : ∀ j, j ≤ 2 → ∀ z, J (s + j) z = I (s + j) z) : cSu J s su := by
  unfold cSu at H ⊢
  simp only [e 1 (by decide), e 2 (by decide)]
  exact H
section XCS
variable {I J : Ix} {s q : Nat} {h : Hi} {l : Li} {a : Nat → Nat} {ne np c : Nat} {su : Su} {cd : Nat → Cd}
theorem KQ.eq (hq : s < q ∧ q + 8 < s + 21) (K : KQ I s q h l a ne np) (e : ∀ y, s < y → y ≤ s + 51 → ∀ z, J y z = I y z) : KQ J s q h l a ne np := by
  obtain ⟨k1, k2, k3, k4, k5, k6, k7⟩ := K
  exact ⟨cLi_eq k1 fun j hj z => e _ (by omega) (by omega) z, (e q (by omega) (by omega) 2).trans k2, cH_eq k3 fun j hj z => e _ (by omega) (by omega) z, ⟨cS_eq k4.1 fun j hj z => e _ (by omega) (by omega) z, cL_eq k4.2 fun j hj z => e _ (by omega) (by omega) z⟩, cP_eq k5 fun j hj z => e _ (by omega) (by omega) z, cLi_eq k6 fun j hj z => e _ (by omega) (by omega) z, k7⟩
theorem KB.eq (K : KB I s h l a ne np) (e : ∀ y, s + 20 < y → y ≤ s + 30 → ∀ z, J y z = I y z) : KB J s h l a ne np := by
  obtain ⟨k1, k2, k3⟩ := K
  exact ⟨cH_eq k1 fun j hj z => e _ (by omega) (by omega) z, fun k hk => by rw [e _ (by omega) (by omega)]; exact k2 k hk, k3⟩
theorem cC.eq (H : cC I q l cd) (e : ∀ j, j ≤ 8 → ∀ z, J (q + j) z = I (q + j) z) : cC J q l cd := fun r hr => by
  obtain ⟨h1, o, h2, h3, h4, h5⟩ := H r hr
  exact ⟨h1, o, (e 7 (by decide) _).trans h2, (e 7 (by decide) _).trans h3, h4, fun j hj => ⟨(e 8 (by decide) _).trans (h5 j hj).1, (h5 j hj).2⟩⟩
theorem cCk.eq (H : cCk I s h l ne) (e : ∀ y, s + 99 ≤ y → y ≤ s + 162 → ∀ z, J y z = I y z) : cCk J s h l ne := fun c hc hn => cS_eq (H c hc hn) fun j hj z => e _ (by omega) (by omega) z
/-- what J must keep for the class to stay right with other suppositions -/
theorem XC.gen {su' : Su} (X : XC I s q h l a ne np su cd c) (e1 : ∀ y, s < y → y ≤ s + 51 → ∀ z, J y z = I y z) (e2 : ∀ y, s + 99 ≤ y → y ≤ s + 162 → ∀ z, J y z = I y z) (e3 : J s 12 = I s 12) (e4 : 0 ≤ J s 13 ∧ J s 13 ≤ (c : Int)) (e5 : KE J s h l ne) (e6 : cSu J (s + 72) su') (e7 : okSu su') (e8 : ∀ b, b < 64 → ∃ t : Nat, J (s + 75 + 6 + 7) b = (t : Int) ∧ t ≤ 120) (e9 : J s 13 = J s 12 → cR J (s + 75) h (supL l su') (runA h (supL l su') su'.2.2.2 ne)) : XC J s q h l a ne np su' cd c := by
  have hq := X.hq
  have B := X.B.eq (J := J) fun y h1 h2 z => e1 y (by omega) (by omega) z
  exact ⟨hq, KQ.eq hq X.K e1, B, ⟨hq, B, e6, e7, e8, e9⟩, X.C.eq e2, e5, X.R.eq fun j hj z => e1 _ (by omega) (by omega) z, X.W, X.D, fun e he => (e1 _ (by omega) (by omega) e).trans (X.pk e he), ⟨e3.trans X.ch.1, X.ch.2⟩, e4⟩
theorem KE.eq (E : KE I s h l ne) (e : ∀ y, s + 52 ≤ y → y ≤ s + 96 → (y ≤ s + 71 ∨ s + 95 ≤ y) → ∀ z, J y z = I y z) (e0 : J s 12 = I s 12) : KE J s h l ne := by
  obtain ⟨h1, h2, h3⟩ := E
  refine ⟨fun b hb => ?_, fun x hx => ?_, fun x hx hv k hk => ?_⟩
  · rw [e _ (by omega) (by omega) (by omega)]; exact h1 b hb
  · rw [e _ (by omega) (by omega) (by omega), e0]; exact h2 x hx
  · rw [e _ (by omega) (by omega) (by omega), e0] at hv
    rw [e _ (by omega) (by omega) (by omega)]
    exact h3 x hx hv k hk
/-- a question of what is supposed -/
theorem XC.g (X : XC I s q h l a ne np su cd c) (hR : cR J (s + 75) h (supL l su) (runA h (supL l su) su.2.2.2 ne)) (h13 : J s 13 = I s 12) (f : mfg I J s) : XC J s q h l a ne np su cd c := by
  have e0 : ∀ z, z ≠ 13 → J s z = I s z := fun z hz => f s z (by omega) (fun _ => hz)
  have e : ∀ y, y ≠ s → (y < s + 75 ∨ s + 94 < y) → ∀ z, J y z = I y z := fun y h1 h2 z => f y z h2 (fun e => absurd e h1)
  have h12 := X.ch.1
  exact X.gen (fun y h1 h2 z => e y (by omega) (by omega) z) (fun y h1 h2 z => e y (by omega) (by omega) z) (e0 12 (by decide)) (by rw [h13, h12]; omega) (X.E.eq (fun y h1 h2 h3 z => e y (by omega) (by omega) z) (e0 12 (by decide))) (cSu_eq X.Z.2.2.1 fun j hj z => e _ (by omega) (by omega) z) X.Z.2.2.2.1 hR.tim fun _ => hR
/-- other suppositions -/
theorem XC.sp {su' : Su} (X : XC I s q h l a ne np su cd c) (hS : cSu J (s + 72) su') (hsu : okSu su') (h13 : J s 13 = 0) (f : mfs I J s) : XC J s q h l a ne np su' cd c := by
  have e0 : ∀ z, z ≠ 13 → J s z = I s z := fun z hz => f s z (fun _ => hz) ⟨by omega, by omega⟩
  have e : ∀ y, y ≠ s → (y < s + 73 ∨ s + 74 < y) → ∀ z, J y z = I y z := fun y h1 h2 z => f y z (fun e => absurd e h1) ⟨by omega, by omega⟩
  have h12 := X.ch
  refine X.gen (fun y h1 h2 z => e y (by omega) (by omega) z) (fun y h1 h2 z => e y (by omega) (by omega) z) (e0 12 (by decide)) (by rw [h13]; omega) (X.E.eq (fun y h1 h2 h3 z => e y (by omega) (by omega) z) (e0 12 (by decide))) hS hsu (fun b hb => ?_) fun hh => ?_
  · rw [e _ (by omega) (by omega)]; exact X.Z.2.2.2.2.1 b hb
  · rw [h13, e0 12 (by decide), h12.1] at hh
    omega
/-- what an event changes -/
def mfq (I J : Ix) (s : Nat) : Prop := ∀ y z, (y = s → z ≠ 12) → (y < s + 32 ∨ (s + 32 < y ∧ y < s + 38) ∨ (s + 51 < y ∧ y < s + 99) ∨ s + 162 < y) → J y z = I y z
/-- the event is added, and hasn't happened yet -/
def AE (M : Ix) (s : Nat) (h' : Hi) (l : Li) (a' : Nat → Nat) (ne np' c : Nat) : Prop := KB M s h' l a' (ne + 1) np' ∧ cR M (s + 32) h' l (runA h' l noOut ne) ∧ cP M (s + 46) (pkC h' l ne) ∧ cLi M (s + 33) l ∧ (∀ c, c < 8 → c * 16 ≤ ne - 1 → cS M (s + 99 + 8 * c) h' l (runA h' l noOut (c * 16)).1) ∧ M s 12 = (c : Int)
theorem XC.ae {M : Ix} {h' : Hi} {a' : Nat → Nat} {np' : Nat} (X : XC I s q h l a ne np su cd c) (D : AddH h h' l a' ne np np') (eM : ∀ y z, (y < s + 21 ∨ s + 30 < y) → M y z = I y z) (hH : cH M (s + 21) h' a' (ne + 1) np') (hb : ∀ k, k < np' → ∃ d : Nat, M (s + 30) k = (d : Int) ∧ d < 256 ∧ ∀ r, r < 8 → (bt d r ≠ 0 ↔ (r < lRules l ∧ hHol h' k r = true))) : AE M s h' l a' ne np' c := by
  obtain ⟨k1, k2, k3, k4, k5, k6, k7, k8, k9, k10⟩ := X.K
  have hok := fun e he => (run_ok k7 k8 k9 (out := noOut) e he).1
  have eR : ∀ e, e ≤ ne → runA h' l noOut e = runA h l noOut e := fun e he => D.run k7 k8 k9 he
  obtain ⟨b1, b2, b3, b4, b5, b6, b7⟩ := X.B
  refine ⟨⟨hH, hb, D.2.2.1, b4, D.2.2.2.1, b6, b7⟩, ?_, ?_, cLi_eq k6 fun j hj z => eM _ z (by omega), fun c hc hn => ?_, (eM s 12 (by omega)).trans X.ch.1⟩
  · rw [eR ne (Nat.le_refl _)]
    exact D.cR (hok ne (Nat.le_refl _)) ⟨cS_eq k4.1 fun j hj z => eM _ z (by omega), cL_eq k4.2 fun j hj z => eM _ z (by omega)⟩
  · rw [show pkC h' l ne = pkC h l ne from funext fun p => D.pk k7 k8 k9 p ne (Nat.le_refl _)]
    exact cP_eq k5 fun j hj z => eM _ z (by omega)
  · rw [eR _ (by omega)]
    exact AddH.cS D (hok _ (by omega)) (cS_eq (X.C c hc hn) fun j hj z => eM _ z (by omega))
theorem XC.done {M : Ix} {h' : Hi} {a' : Nat → Nat} {np' : Nat} (X : XC I s q h l a ne np su cd c) (D : AddH h h' l a' ne np np') (D2 : HC h' l a' np' cd) (eM : ∀ y z, (y < s + 21 ∨ s + 30 < y) → M y z = I y z) (A : AE M s h' l a' ne np' c) (hpk : ∀ e, e < ne + 1 → M (s + 24) e = pkO h' e) (hc : c + 1 < 100000)
    (hR : cR J (s + 32) h' l (runA h' l noOut (ne + 1))) (hP : cP J (s + 46) (pkC h' l (ne + 1))) (hC : cCk J s h' l (ne + 1)) (h12 : J s 12 = ((c + 1 : Nat) : Int)) (f : mfq M J s) : XC J s q h' l a' (ne + 1) np' su cd (c + 1) := by
  have e0 : ∀ z, z ≠ 12 → J s z = I s z := fun z hz => (f s z (fun _ => hz) (by omega)).trans (eM s z (by omega))
  have e : ∀ y, y ≠ s → ((y < s + 21) ∨ (s + 32 < y ∧ y < s + 38) ∨ (s + 51 < y ∧ y < s + 99) ∨ s + 162 < y) → ∀ z, J y z = I y z := fun y h1 h2 z => (f y z (fun q => absurd q h1) (by omega)).trans (eM y z (by omega))
  have em : ∀ y, s + 20 < y → y < s + 31 → ∀ z, J y z = M y z := fun y h1 h2 z => f y z (fun q => by omega) (by omega)
  obtain ⟨k1, k2, k3, k4, k5, k6, k7⟩ := X.K
  have hq := X.hq
  have B : KB J s h' l a' (ne + 1) np' := A.1.eq fun y h1 h2 z => em y h1 (by omega) z
  have h13 := X.at
  have h12' := X.ch
  have hE := X.E
  refine ⟨hq, ⟨cLi_eq k1 fun j hj z => e _ (by omega) (by omega) z, (e q (by omega) (by omega) 2).trans k2, B.1, hR, hP, cLi_eq A.2.2.2.1 fun j hj z => f _ z (fun q => by omega) (by omega), D.2.2.1, k7.2.1, D.2.2.2.1, D.2.2.2.2.1.1⟩, B, ⟨hq, B, cSu_eq X.Z.2.2.1 fun j hj z => e _ (by omega) (by omega) z, X.Z.2.2.2.1, fun b hb => ?_, fun hh => ?_⟩, hC, ⟨fun b hb => ?_, fun x hx => ?_, fun x hx hv => ?_⟩, X.R.eq fun j hj z => e _ (by omega) (by omega) z, D.2.2.2.2.1, D2, fun x hx => (em _ (by omega) (by omega) x).trans (hpk x hx), ⟨h12, by omega, hc⟩, ?_⟩
  · rw [e _ (by omega) (by omega)]; exact X.Z.2.2.2.2.1 b hb
  · rw [h12, e0 13 (by decide)] at hh
    omega
  · rw [e _ (by omega) (by omega)]; exact hE.1 b hb
  · rw [e _ (by omega) (by omega), h12]
    have := hE.2.1 x hx
    omega
  · rw [e _ (by omega) (by omega), h12] at hv
    have := hE.2.1 x (by have := k3.2.2.1; have := B.1.2.2.1; omega)
    omega
  · rw [e0 13 (by decide)]; omega
end XCS
