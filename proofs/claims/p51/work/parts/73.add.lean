/-! the reference: an event is added -/
def addE (h : Hi) (ne kind p : Nat) : Hi := (fu h.1 ne (kind, p, 0), h.2)
def addP0 (h : Hi) (np ne p : Nat) (f : Nat × Nat × Nat × Nat) : Hi := (fu h.1 ne (0, p, np), fu h.2.1 np f, h.2.2)
def addP (h : Hi) (a : Nat → Nat) (np ne p : Nat) (f : Nat × Nat × Nat × Nat) (cd : Nat → Cd) : Hi :=
  (fu h.1 ne (0, p, np), fu h.2.1 np f, fun k r => if k = np then hHold (addP0 h np ne p f) (fu a np ne) np (cd r) else h.2.2 k r)
theorem tell_cg {h h' : Hi} {a a' : Nat → Nat} {k k' : Nat} (hf : ∀ f, factOf h' k' f = factOf h k f) (hp : hPort h' (a' k') = hPort h (a k)) (c : Nat × Nat × Nat) : tellP h' a' k' c = tellP h a k c := by
  unfold tellP
  rw [hf, hp]
theorem eval_cg {h h' : Hi} {a a' : Nat → Nat} {k k' : Nat} (hf : ∀ f, factOf h' k' f = factOf h k f) (hp : hPort h' (a' k') = hPort h (a k)) : ∀ (cs : Cd) (st : List Bool), evalP h' a' k' cs st = evalP h a k cs st
  | [], _ => rfl
  | c :: r, st => by
    show evalP h' a' k' r (stepP h' a' k' c st) = evalP h a k r (stepP h a k c st)
    have e : stepP h' a' k' c st = stepP h a k c st := by unfold stepP; rw [tell_cg hf hp]
    rw [e]
    exact eval_cg hf hp r _
theorem hold_cg {h h' : Hi} {a a' : Nat → Nat} {k k' : Nat} (hf : ∀ f, factOf h' k' f = factOf h k f) (hp : hPort h' (a' k') = hPort h (a k)) (cs : Cd) : hHold h' a' k' cs = hHold h a k cs := by
  unfold hHold
  rw [eval_cg hf hp]
section ADD
variable {h : Hi} {l : Li} {a : Nat → Nat} {ne np s : Nat} {cd : Nat → Cd} {I J : Ix}
/-- all but the new event's row, the new packet's arrival, the numbers of both -/
def mfa (I J : Ix) (s ne np : Nat) : Prop := ∀ y z, (y = s → z ≠ 15 ∧ z ≠ 16) → (y = s + 10 → z < 7 * ne) → (y = s + 11 → z < np) → J y z = I y z
theorem addE_ok (B : MP I s h l a ne np cd) (f : mfa I J s ne np) (hne : ne < 120) {kind p : Nat} (hk : kind = 1 ∨ kind = 2 ∨ kind = 3) (hp : kind ≠ 1 → p < lPorts l) (e0 : J (s + 10) (7 * ne) = (kind : Int)) (e1 : J (s + 10) (7 * ne + 1) = (p : Int)) (e2 : J s 15 = ((ne + 1 : Nat) : Int)) (e3 : J s 16 = (np : Int)) : MP J s (addE h ne kind p) l a (ne + 1) np cd := by
  obtain ⟨b1, b2, b3, b4, b5, b6, b7, b8, b9⟩ := B
  have g0 : ∀ j, j ≠ 15 ∧ j ≠ 16 → J s j = I s j := fun j hj => f s j (fun _ => hj) (fun e => by omega) (fun e => by omega)
  have g : ∀ j, 0 < j ∧ j ≠ 10 ∧ j ≠ 11 → ∀ z, J (s + j) z = I (s + j) z := fun j hj z => f (s + j) z (fun e => by omega) (fun e => by omega) (fun e => by omega)
  have g10 : ∀ z, z < 7 * ne → J (s + 10) z = I (s + 10) z := fun z hz => f (s + 10) z (fun e => by omega) (fun _ => hz) (fun e => by omega)
  have g11 : ∀ z, z < np → J (s + 11) z = I (s + 11) z := fun z hz => f (s + 11) z (fun e => by omega) (fun e => by omega) (fun _ => hz)
  have k1 : ∀ e, e ≠ ne → hKind (addE h ne kind p) e = hKind h e ∧ hPort (addE h ne kind p) e = hPort h e ∧ hPk (addE h ne kind p) e = hPk h e := fun e he => by
    unfold addE hKind hPort hPk fu
    simp only [if_neg he, and_self]
  have k2 : hKind (addE h ne kind p) ne = kind ∧ hPort (addE h ne kind p) ne = p := by
    unfold addE hKind hPort fu
    simp only [if_true, and_self]
  refine ⟨⟨by omega, by have := b1.2.1; omega, fun e he => ?_, fun k hk' => ?_⟩, ?_, ?_, b4, b5, fun e he => ?_, fun k hk' => ?_, e2, e3⟩
  · by_cases hee : e = ne
    · subst hee
      rw [k2.1, k2.2]
      exact ⟨e0, fun _ => e1, fun q => by omega⟩
    · obtain ⟨q1, q2, q3⟩ := k1 e hee
      rw [q1, q2, q3, g10 _ (by omega), g10 _ (by omega), g10 _ (by omega)]
      exact b1.2.2.1 e (by omega)
  · obtain ⟨q1, q2, q3, q4, q5, q6⟩ := b1.2.2.2 k hk'
    rw [g11 k hk', g10 _ (by omega), g10 _ (by omega), g10 _ (by omega), g10 _ (by omega)]
    exact ⟨q1, by omega, q3, q4, q5, q6⟩
  · unfold nB at b2 ⊢
    simp only [g0 1 (by decide), g0 7 (by decide), g0 8 (by decide), g0 9 (by decide), g0 10 (by decide), g 2 (by decide), g 3 (by decide), g 4 (by decide), g 5 (by decide), g 6 (by decide)]
    exact b2
  · intro r hr
    obtain ⟨⟨o, o1, o2, o3, o4⟩, o5, o6⟩ := b3 r hr
    refine ⟨⟨o, by rw [g 7 (by decide)]; exact o1, by rw [g 8 (by decide)]; exact o2, o3, codes_fr o4 fun z => g 9 (by decide) z⟩, o5, fun k hk' => ?_⟩
    rw [hold_cg (h := h) (h' := addE h ne kind p) (a := a) (a' := a) (k := k) (k' := k) (fun f => rfl) (by have := (b1.2.2.2 k hk').2.1; exact (k1 (a k) (by omega)).2.1)]
    exact o6 k hk'
  · by_cases hee : e = ne
    · subst hee
      rw [k2.1, k2.2]
      exact ⟨hp, fun q => by omega, by omega⟩
    · obtain ⟨q1, q2, q3⟩ := k1 e hee
      rw [q1, q2, q3]
      exact b6 e (by omega)
  · have hak := (b1.2.2.2 k hk').2.1
    rw [g10 _ (by omega), (k1 (a k) (by omega)).2.1]
    exact b7 k hk'
theorem addP_ok (B : MP I s h l a ne np cd) (f : mfa I J s ne np) (hne : ne < 120) {p sr tg sz rn : Nat} (hp : p < lPorts l) (hs : sr < 64) (ht : tg < 64) (hz : 1 ≤ sz ∧ sz ≤ 9) (hr : rn ≤ 3) (e0 : J (s + 10) (7 * ne) = 0) (e1 : J (s + 10) (7 * ne + 1) = (p : Int)) (e2 : J (s + 10) (7 * ne + 2) = (sr : Int)) (e3 : J (s + 10) (7 * ne + 3) = (tg : Int)) (e4 : J (s + 10) (7 * ne + 4) = (sz : Int)) (e5 : J (s + 10) (7 * ne + 5) = (rn : Int)) (e6 : J (s + 10) (7 * ne + 6) = (np : Int)) (e7 : J (s + 11) np = (ne : Int)) (e8 : J s 15 = ((ne + 1 : Nat) : Int)) (e9 : J s 16 = ((np + 1 : Nat) : Int)) :
    MP J s (addP h a np ne p (sr, tg, sz, rn) cd) l (fu a np ne) (ne + 1) (np + 1) cd := by
  obtain ⟨b1, b2, b3, b4, b5, b6, b7, b8, b9⟩ := B
  have hnp := b1.2.1
  have g0 : ∀ j, j ≠ 15 ∧ j ≠ 16 → J s j = I s j := fun j hj => f s j (fun _ => hj) (fun e => by omega) (fun e => by omega)
  have g : ∀ j, 0 < j ∧ j ≠ 10 ∧ j ≠ 11 → ∀ z, J (s + j) z = I (s + j) z := fun j hj z => f (s + j) z (fun e => by omega) (fun e => by omega) (fun e => by omega)
  have g10 : ∀ z, z < 7 * ne → J (s + 10) z = I (s + 10) z := fun z hz => f (s + 10) z (fun e => by omega) (fun _ => hz) (fun e => by omega)
  have g11 : ∀ z, z < np → J (s + 11) z = I (s + 11) z := fun z hz => f (s + 11) z (fun e => by omega) (fun e => by omega) (fun _ => hz)
  have k1 : ∀ e, e ≠ ne → hKind (addP h a np ne p (sr, tg, sz, rn) cd) e = hKind h e ∧ hPort (addP h a np ne p (sr, tg, sz, rn) cd) e = hPort h e ∧ hPk (addP h a np ne p (sr, tg, sz, rn) cd) e = hPk h e := fun e he => by
    unfold addP hKind hPort hPk fu
    simp only [if_neg he, and_self]
  have k2 : hKind (addP h a np ne p (sr, tg, sz, rn) cd) ne = 0 ∧ hPort (addP h a np ne p (sr, tg, sz, rn) cd) ne = p ∧ hPk (addP h a np ne p (sr, tg, sz, rn) cd) ne = np := by
    unfold addP hKind hPort hPk fu
    simp only [if_true, and_self]
  have k3 : ∀ k, k ≠ np → hSrc (addP h a np ne p (sr, tg, sz, rn) cd) k = hSrc h k ∧ hTgt (addP h a np ne p (sr, tg, sz, rn) cd) k = hTgt h k ∧ hSiz (addP h a np ne p (sr, tg, sz, rn) cd) k = hSiz h k ∧ hRnk (addP h a np ne p (sr, tg, sz, rn) cd) k = hRnk h k ∧ fu a np ne k = a k := fun k hk => by
    unfold addP hSrc hTgt hSiz hRnk fu
    simp only [if_neg hk, and_self]
  have k4 : hSrc (addP h a np ne p (sr, tg, sz, rn) cd) np = sr ∧ hTgt (addP h a np ne p (sr, tg, sz, rn) cd) np = tg ∧ hSiz (addP h a np ne p (sr, tg, sz, rn) cd) np = sz ∧ hRnk (addP h a np ne p (sr, tg, sz, rn) cd) np = rn ∧ fu a np ne np = ne := by
    unfold addP hSrc hTgt hSiz hRnk fu
    simp only [if_true, and_self]
  refine ⟨⟨by omega, by omega, fun e he => ?_, fun k hk' => ?_⟩, ?_, ?_, fun k => ?_, b5, fun e he => ?_, fun k hk' => ?_, e8, e9⟩
  · by_cases hee : e = ne
    · subst hee
      rw [k2.1, k2.2.1, k2.2.2]
      exact ⟨e0, fun _ => e1, fun _ => e6⟩
    · obtain ⟨q1, q2, q3⟩ := k1 e hee
      rw [q1, q2, q3, g10 _ (by omega), g10 _ (by omega), g10 _ (by omega)]
      exact b1.2.2.1 e (by omega)
  · by_cases hkn : k = np
    · subst hkn
      rw [k4.1, k4.2.1, k4.2.2.1, k4.2.2.2.1, k4.2.2.2.2]
      exact ⟨e7, by omega, e2, e3, e4, e5⟩
    · obtain ⟨q1, q2, q3, q4, q5, q6⟩ := b1.2.2.2 k (by omega)
      obtain ⟨m1, m2, m3, m4, m5⟩ := k3 k hkn
      rw [m1, m2, m3, m4, m5, g11 k (by omega), g10 _ (by omega), g10 _ (by omega), g10 _ (by omega), g10 _ (by omega)]
      exact ⟨q1, by omega, q3, q4, q5, q6⟩
  · unfold nB at b2 ⊢
    simp only [g0 1 (by decide), g0 7 (by decide), g0 8 (by decide), g0 9 (by decide), g0 10 (by decide), g 2 (by decide), g 3 (by decide), g 4 (by decide), g 5 (by decide), g 6 (by decide)]
    exact b2
  · intro r hr'
    obtain ⟨⟨o, o1, o2, o3, o4⟩, o5, o6⟩ := b3 r hr'
    refine ⟨⟨o, by rw [g 7 (by decide)]; exact o1, by rw [g 8 (by decide)]; exact o2, o3, codes_fr o4 fun z => g 9 (by decide) z⟩, o5, fun k hk' => ?_⟩
    by_cases hkn : k = np
    · subst hkn
      show (if k = k then hHold (addP0 h k ne p (sr, tg, sz, rn)) (fu a k ne) k (cd r) else h.2.2 k r) = _
      rw [if_pos rfl]
      exact hold_cg (h' := addP0 h k ne p (sr, tg, sz, rn)) (h := addP h a k ne p (sr, tg, sz, rn) cd) (a := fu a k ne) (a' := fu a k ne) (k := k) (k' := k) (fun f => rfl) rfl _
    · show (if k = np then hHold (addP0 h np ne p (sr, tg, sz, rn)) (fu a np ne) np (cd r) else h.2.2 k r) = _
      rw [if_neg hkn]
      obtain ⟨m1, m2, m3, m4, m5⟩ := k3 k hkn
      rw [hold_cg (h := h) (h' := addP h a np ne p (sr, tg, sz, rn) cd) (a := a) (a' := fu a np ne) (k := k) (k' := k) (fun f => by unfold factOf; rw [m1, m2, m3, m4]) (by
        have := (b1.2.2.2 k (by omega)).2.1
        rw [m5]
        exact (k1 (a k) (by omega)).2.1)]
      exact o6 k (by omega)
  · by_cases hkn : k = np
    · subst hkn
      rw [k4.1, k4.2.1, k4.2.2.1, k4.2.2.2.1]
      exact ⟨hz.2, hz.1, hr, hs, ht⟩
    · obtain ⟨m1, m2, m3, m4, m5⟩ := k3 k hkn
      rw [m1, m2, m3, m4]
      exact b4 k
  · by_cases hee : e = ne
    · subst hee
      rw [k2.1, k2.2.1, k2.2.2]
      exact ⟨fun _ => hp, fun _ => by omega, by omega⟩
    · obtain ⟨q1, q2, q3⟩ := k1 e hee
      rw [q1, q2, q3]
      obtain ⟨c1, c2, c3⟩ := b6 e (by omega)
      exact ⟨c1, fun q => by have := c2 q; omega, c3⟩
  · by_cases hkn : k = np
    · subst hkn
      rw [k4.2.2.2.2, k2.2.1]
      exact e1
    · have hak := (b1.2.2.2 k (by omega)).2.1
      rw [(k3 k hkn).2.2.2.2, g10 _ (by omega), (k1 (a k) (by omega)).2.1]
      exact b7 k (by omega)
end ADD
