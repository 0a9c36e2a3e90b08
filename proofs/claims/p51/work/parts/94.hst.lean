/-! an event more: what stays of the history -/
def AddH (h h' : Hi) (l : Li) (a' : Nat → Nat) (ne np np' : Nat) : Prop := agH h h' np ∧ (∀ e, e < ne → agE h h' e) ∧ okHi h' ∧ okEv h' l (ne + 1) np' ∧ HW h' a' (ne + 1) np' ∧ np ≤ np'
theorem arr_ag {h h' : Hi} {ne : Nat} (E : ∀ e, e < ne → agE h h' e) : ∀ e, e ≤ ne → arr h' e = arr h e
  | 0, _ => rfl
  | e + 1, he => by
    have g := arr_ag E e (by omega)
    show (if hKind h' e = 0 then arr h' e + 1 else arr h' e) = (if hKind h e = 0 then arr h e + 1 else arr h e)
    rw [g, (E e (by omega)).1]
theorem addE_ne {h : Hi} {ne kind p e : Nat} (he : e ≠ ne) : hKind (addE h ne kind p) e = hKind h e ∧ hPort (addE h ne kind p) e = hPort h e ∧ hPk (addE h ne kind p) e = hPk h e := by
  unfold addE hKind hPort hPk fu
  simp only [if_neg he, and_self]
theorem addE_eq {h : Hi} {ne kind p : Nat} : hKind (addE h ne kind p) ne = kind ∧ hPort (addE h ne kind p) ne = p := by
  unfold addE hKind hPort fu
  simp only [if_true, and_self]
theorem addP_ne {h : Hi} {a : Nat → Nat} {np ne p : Nat} {f : Nat × Nat × Nat × Nat} {cd : Nat → Cd} {e : Nat} (he : e ≠ ne) : hKind (addP h a np ne p f cd) e = hKind h e ∧ hPort (addP h a np ne p f cd) e = hPort h e ∧ hPk (addP h a np ne p f cd) e = hPk h e := by
  unfold addP hKind hPort hPk fu
  simp only [if_neg he, and_self]
theorem addP_eq {h : Hi} {a : Nat → Nat} {np ne p : Nat} {f : Nat × Nat × Nat × Nat} {cd : Nat → Cd} : hKind (addP h a np ne p f cd) ne = 0 ∧ hPort (addP h a np ne p f cd) ne = p ∧ hPk (addP h a np ne p f cd) ne = np := by
  unfold addP hKind hPort hPk fu
  simp only [if_true, and_self]
theorem addP_old {h : Hi} {a : Nat → Nat} {np ne p : Nat} {f : Nat × Nat × Nat × Nat} {cd : Nat → Cd} {k : Nat} (hk : k ≠ np) : hSrc (addP h a np ne p f cd) k = hSrc h k ∧ hTgt (addP h a np ne p f cd) k = hTgt h k ∧ hSiz (addP h a np ne p f cd) k = hSiz h k ∧ hRnk (addP h a np ne p f cd) k = hRnk h k ∧ fu a np ne k = a k ∧ ∀ r, hHol (addP h a np ne p f cd) k r = hHol h k r := by
  unfold addP hSrc hTgt hSiz hRnk hHol fu
  simp only [if_neg hk, and_self, implies_true]
theorem addP_new {h : Hi} {a : Nat → Nat} {np ne p : Nat} {f : Nat × Nat × Nat × Nat} {cd : Nat → Cd} : hSrc (addP h a np ne p f cd) np = f.1 ∧ hTgt (addP h a np ne p f cd) np = f.2.1 ∧ hSiz (addP h a np ne p f cd) np = f.2.2.1 ∧ hRnk (addP h a np ne p f cd) np = f.2.2.2 ∧ fu a np ne np = ne := by
  unfold addP hSrc hTgt hSiz hRnk fu
  simp only [if_true, and_self]
theorem addE_H {h : Hi} {l : Li} {a : Nat → Nat} {ne np kind p : Nat} (ok : okHi h) (hev : okEv h l ne np) (H : HW h a ne np) (hk : kind = 1 ∨ kind = 2 ∨ kind = 3) (hp : kind ≠ 1 → p < lPorts l) : AddH h (addE h ne kind p) l a ne np np := by
  have E : ∀ e, e < ne → agE h (addE h ne kind p) e := fun e he => by
    obtain ⟨h1, h2, h3⟩ := addE_ne (h := h) (kind := kind) (p := p) (e := e) (ne := ne) (by omega)
    exact ⟨h1, h2, fun _ => h3⟩
  have hq := addE_eq (h := h) (ne := ne) (kind := kind) (p := p)
  refine ⟨fun k hk => ⟨rfl, rfl, rfl, rfl, fun r => rfl⟩, E, ok, fun e he => ?_, ⟨fun e he => ?_, ?_, fun k hk' => ?_⟩, Nat.le_refl _⟩
  · by_cases hee : e = ne
    · subst hee
      rw [hq.1, hq.2]
      exact ⟨hp, fun q => by omega, by omega⟩
    · obtain ⟨q1, q2, q3⟩ := addE_ne (h := h) (kind := kind) (p := p) hee
      rw [q1, q2, q3]
      exact hev e (by omega)
  · by_cases hee : e = ne
    · subst hee
      rw [hq.1]
      exact ⟨fun q => by omega, by omega⟩
    · obtain ⟨q1, q2, q3⟩ := addE_ne (h := h) (kind := kind) (p := p) hee
      rw [q1, q3, arr_ag E e (by omega)]
      exact H.1 e (by omega)
  · show np = (if hKind (addE h ne kind p) ne = 0 then arr (addE h ne kind p) ne + 1 else arr (addE h ne kind p) ne)
    rw [hq.1, if_neg (by omega), arr_ag E ne (Nat.le_refl _)]
    exact H.2.1
  · obtain ⟨g1, g2, g3⟩ := H.2.2 k hk'
    obtain ⟨q1, q2, q3⟩ := addE_ne (h := h) (kind := kind) (p := p) (e := a k) (ne := ne) (by omega)
    exact ⟨by omega, q1.trans g2, q3.trans g3⟩
theorem addP_H {h : Hi} {l : Li} {a : Nat → Nat} {ne np p sr tg sz rn : Nat} {cd : Nat → Cd} (ok : okHi h) (hev : okEv h l ne np) (H : HW h a ne np) (hp : p < lPorts l) (hs : sr < 64) (ht : tg < 64) (hz : 1 ≤ sz ∧ sz ≤ 9) (hr : rn ≤ 3) : AddH h (addP h a np ne p (sr, tg, sz, rn) cd) l (fu a np ne) ne np (np + 1) := by
  have E : ∀ e, e < ne → agE h (addP h a np ne p (sr, tg, sz, rn) cd) e := fun e he => by
    obtain ⟨h1, h2, h3⟩ := addP_ne (h := h) (a := a) (np := np) (p := p) (f := (sr, tg, sz, rn)) (cd := cd) (e := e) (ne := ne) (by omega)
    exact ⟨h1, h2, fun _ => h3⟩
  have hq := addP_eq (h := h) (a := a) (np := np) (ne := ne) (p := p) (f := (sr, tg, sz, rn)) (cd := cd)
  have hn := addP_new (h := h) (a := a) (np := np) (ne := ne) (p := p) (f := (sr, tg, sz, rn)) (cd := cd)
  refine ⟨fun k hk => ?_, E, fun k => ?_, fun e he => ?_, ⟨fun e he => ?_, ?_, fun k hk' => ?_⟩, Nat.le_succ _⟩
  · obtain ⟨h1, h2, h3, h4, _, h6⟩ := addP_old (h := h) (a := a) (np := np) (ne := ne) (p := p) (f := (sr, tg, sz, rn)) (cd := cd) (k := k) (by omega)
    exact ⟨h3, h4, h1, h2, h6⟩
  · by_cases hkn : k = np
    · subst hkn
      rw [hn.1, hn.2.1, hn.2.2.1, hn.2.2.2.1]
      exact ⟨hz.2, hz.1, hr, hs, ht⟩
    · obtain ⟨m1, m2, m3, m4, _⟩ := addP_old (h := h) (a := a) (np := np) (ne := ne) (p := p) (f := (sr, tg, sz, rn)) (cd := cd) hkn
      rw [m1, m2, m3, m4]
      exact ok k
  · by_cases hee : e = ne
    · subst hee
      rw [hq.1, hq.2.1, hq.2.2]
      exact ⟨fun _ => hp, fun _ => by omega, by omega⟩
    · obtain ⟨q1, q2, q3⟩ := addP_ne (h := h) (a := a) (np := np) (p := p) (f := (sr, tg, sz, rn)) (cd := cd) hee
      rw [q1, q2, q3]
      obtain ⟨c1, c2, c3⟩ := hev e (by omega)
      exact ⟨c1, fun q => by have := c2 q; omega, c3⟩
  · by_cases hee : e = ne
    · subst hee
      rw [hq.1, hq.2.2, arr_ag E e (Nat.le_refl _)]
      exact ⟨fun _ => H.2.1, by omega⟩
    · obtain ⟨q1, q2, q3⟩ := addP_ne (h := h) (a := a) (np := np) (p := p) (f := (sr, tg, sz, rn)) (cd := cd) hee
      rw [q1, q3, arr_ag E e (by omega)]
      exact H.1 e (by omega)
  · show np + 1 = (if hKind (addP h a np ne p (sr, tg, sz, rn) cd) ne = 0 then arr (addP h a np ne p (sr, tg, sz, rn) cd) ne + 1 else arr (addP h a np ne p (sr, tg, sz, rn) cd) ne)
    rw [hq.1, if_pos rfl, arr_ag E ne (Nat.le_refl _), ← H.2.1]
  · by_cases hkn : k = np
    · subst hkn
      rw [hn.2.2.2.2]
      exact ⟨by omega, hq.1, hq.2.2⟩
    · obtain ⟨g1, g2, g3⟩ := H.2.2 k (by omega)
      obtain ⟨q1, q2, q3⟩ := addP_ne (h := h) (a := a) (np := np) (p := p) (f := (sr, tg, sz, rn)) (cd := cd) (e := a k) (ne := ne) (by omega)
      rw [(addP_old (h := h) (a := a) (np := np) (ne := ne) (p := p) (f := (sr, tg, sz, rn)) (cd := cd) hkn).2.2.2.2.1]
      exact ⟨by omega, q1.trans g2, q3.trans g3⟩
/-- which rules hold for which packets, by their codes -/
def HC (h : Hi) (l : Li) (a : Nat → Nat) (np : Nat) (cd : Nat → Cd) : Prop := ∀ r, r < lRules l → ∀ k, k < np → hHol h k r = hHold h a k (cd r)
theorem HC_E {h : Hi} {l : Li} {a : Nat → Nat} {ne np kind p : Nat} {cd : Nat → Cd} (H : HW h a ne np) (C : HC h l a np cd) : HC (addE h ne kind p) l a np cd := fun r hr k hk => by
  have hak := (H.2.2 k hk).1
  rw [hold_cg (h := h) (h' := addE h ne kind p) (a := a) (a' := a) (k := k) (k' := k) (fun f => rfl) (addE_ne (by omega)).2.1]
  exact C r hr k hk
theorem HC_P {h : Hi} {l : Li} {a : Nat → Nat} {ne np p : Nat} {f : Nat × Nat × Nat × Nat} {cd : Nat → Cd} (H : HW h a ne np) (C : HC h l a np cd) : HC (addP h a np ne p f cd) l (fu a np ne) (np + 1) cd := fun r hr k hk => by
  by_cases hkn : k = np
  · subst hkn
    show (if k = k then hHold (addP0 h k ne p f) (fu a k ne) k (cd r) else h.2.2 k r) = _
    rw [if_pos rfl]
    exact hold_cg (h' := addP0 h k ne p f) (h := addP h a k ne p f cd) (a := fu a k ne) (a' := fu a k ne) (k := k) (k' := k) (fun f => rfl) rfl _
  · show (if k = np then hHold (addP0 h np ne p f) (fu a np ne) np (cd r) else h.2.2 k r) = _
    rw [if_neg hkn]
    obtain ⟨m1, m2, m3, m4, m5, _⟩ := addP_old (h := h) (a := a) (np := np) (ne := ne) (p := p) (f := f) (cd := cd) hkn
    have hak := (H.2.2 k (by omega)).1
    rw [hold_cg (h := h) (h' := addP h a np ne p f cd) (a := a) (a' := fu a np ne) (k := k) (k' := k) (fun f => by unfold factOf; rw [m1, m2, m3, m4]) (by
      rw [m5]
      exact (addP_ne (by omega)).2.1)]
    exact C r hr k (by omega)
section HST
variable {h h' : Hi} {l : Li} {a' : Nat → Nat} {ne np np' : Nat}
theorem AddH.run (D : AddH h h' l a' ne np np') (ok : okHi h) (okl : okLi l) (hev : okEv h l ne np) {out : Nat → Bool} {e : Nat} (he : e ≤ ne) : runA h' l out e = runA h l out e := run_ag D.1 D.2.1 ok okl hev e he he
theorem okR_mq {u : Nat} {r : Ra} (H : okR h l np u r) : mq np r.1 := fun p c hc => (H.1 p c hc).2.1
theorem AddH.fill (D : AddH h h' l a' ne np np') {u : Nat} {r : Ra} (H : okR h l np u r) (p : Nat) : fillP h' r.1 p = fillP h r.1 p := fillQ_ag D.1 _ fun c hc => (H.1 p c hc).2.1
theorem AddH.cS (D : AddH h h' l a' ne np np') {I : Ix} {s u : Nat} {r : Ra} (H : okR h l np u r) (hS : cS I s h l r.1) : cS I s h' l r.1 := by
  obtain ⟨h1, h2, h3, h4, h5⟩ := hS
  exact ⟨h1, h2, h3, fun p hp => by rw [D.fill H]; exact h4 p hp, h5⟩
theorem AddH.cR (D : AddH h h' l a' ne np np') {I : Ix} {s u : Nat} {r : Ra} (H : okR h l np u r) (hR : cR I s h l r) : cR I s h' l r := ⟨AddH.cS D H hR.1, hR.2⟩
theorem AddH.pk (D : AddH h h' l a' ne np np') (ok : okHi h) (okl : okLi l) (hev : okEv h l ne np) (p : Nat) : ∀ e, e ≤ ne → pkA h' l p e = pkA h l p e
  | 0, _ => rfl
  | e + 1, he => by
    have g := AddH.pk D ok okl hev p e (by omega)
    unfold pkA
    rw [g, D.run ok okl hev (out := noOut) he, D.fill (run_ok ok okl hev (out := noOut) (e + 1) he).1]
end HST
