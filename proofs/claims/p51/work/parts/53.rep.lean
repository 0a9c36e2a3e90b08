/-! the reference: a run -/
def okEv (h : Hi) (l : Li) (ne np : Nat) : Prop := ∀ e, e < ne → (hKind h e ≠ 1 → hPort h e < lPorts l) ∧ (hKind h e = 0 → hPk h e < np) ∧ hKind h e ≤ 3
theorem okT_of {l : Li} {A B : Sa} (H : okT l A) (e : B.2.2.2.2 = A.2.2.2.2) : okT l B := fun b w t hb => H b w t (by unfold sTab at hb ⊢; rw [← e]; exact hb)
theorem okT_tab {l : Li} {A : Sa} {b p t : Nat} (H : okT l A) (hp : p < lPorts l) : okT l (setTab A b (some (p, t))) := fun x w t' hb => by
  have e : sTab (setTab A b (some (p, t))) x = if x = b then some (p, t) else sTab A x := rfl
  rw [e] at hb
  split at hb
  · injection hb with e; injection e with e1 e2; omega
  · exact H x w t' hb
theorem arrive_T {h : Hi} {l : Li} {e p k : Nat} {r : Ra} (H : okT l r.1) (hp : p < lPorts l) : okT l (arriveA h l e p k r).1.1 := by
  unfold arriveA
  split
  · exact H
  · split
    · exact H
    · split
      · exact H
      · rename_i s1 hs
        have hs1 : okT l s1 := by
          unfold policeA at hs
          split at hs
          · injection hs with e; subst e; exact H
          · split at hs
            · cases hs
            · injection hs with e; subst e; exact okT_of H rfl
        have hs2 : okT l (setTab s1 (hSrc h k) (some (p, sTime s1))) := okT_tab hs1 hp
        simp only
        split
        · split
          · exact hs2
          · exact okT_of hs2 (puts_keep (r := (setTab s1 (hSrc h k) (some (p, sTime s1)), r.2)) _).2.2
        · split
          · exact hs2
          · exact okT_of hs2 (puts_keep (r := (setTab s1 (hSrc h k) (some (p, sTime s1)), r.2)) _).2.2
theorem delA_T {h : Hi} {p : Nat} : ∀ d (r : Ra), (delA h p d r).1.2.2.2.2 = r.1.2.2.2.2
  | 0, _ => rfl
  | d + 1, r => delA_T d _
theorem delsA_T {h : Hi} {l : Li} {r : Ra} : ∀ n, (delsA h l n r).1.1.2.2.2.2 = r.1.2.2.2.2
  | 0 => rfl
  | n + 1 => by
    cases hw : sUp (delsA h l n r).1.1 n
    · rw [dels_f hw]; exact delsA_T n
    · rw [dels_t hw]; exact (delA_T _ _).trans (delsA_T n)
theorem stalesA_T {l : Li} {e : Nat} {r : Ra} : ∀ n, (stalesA l e n r).1.2.2.2.2 = r.1.2.2.2.2
  | 0 => rfl
  | n + 1 => stalesA_T (l := l) (e := e) (r := r) n
theorem step_ok {h : Hi} {l : Li} {ne np u e : Nat} {r : Ra} (H : okR h l np u r) (hT : okT l r.1) (ok : okHi h) (okl : okLi l) (hev : okEv h l ne np) (he : e < ne) : okR h l np (u + 3) (stepA h l e r).1 ∧ okT l (stepA h l e r).1.1 ∧ sTime (stepA h l e r).1.1 ≤ sTime r.1 + 1 := by
  obtain ⟨h1, h2, h3⟩ := hev e he
  rcases (show hKind h e = 0 ∨ hKind h e = 1 ∨ hKind h e = 2 ∨ hKind h e = 3 by omega) with hk0 | hk0 | hk0 | hk0
  · rw [step_0 hk0]
    have g := arriveA_ok (e := e) H ok okl (h2 hk0) (h1 (by omega))
    exact ⟨g.1, arrive_T hT (h1 (by omega)), by rw [g.2]; exact Nat.le_succ _⟩
  · rw [step_1 hk0]
    have g := tickA_ok (e := e) H ok okl
    refine ⟨ok_le g.1 (by omega), okT_of hT ?_, by rw [g.2]; exact Nat.le_refl _⟩
    show (stalesA l e (lPorts l) (delsA h l (lPorts l) r).1).1.2.2.2.2 = _
    rw [stalesA_T, delsA_T]
  · rw [step_2 hk0]
    exact ⟨ok_le (show okR h l np u (setUp r.1 (hPort h e) true, r.2) from ⟨H.1, H.2.1, H.2.2⟩) (by omega), okT_of hT rfl, Nat.le_succ _⟩
  · rw [step_3 hk0]
    refine ⟨ok_le (loseA_ok H (Nat.lt_of_lt_of_le (h1 (by omega)) okl.1)) (by omega), fun b w t hb => ?_, Nat.le_succ _⟩
    have e1 : sTab (loseA e (hPort h e) r).1.1 b = match sTab r.1 b with
      | some (x, t) => if x = hPort h e then none else some (x, t)
      | none => none := rfl
    rw [e1] at hb
    cases hB : sTab r.1 b with
    | none => rw [hB] at hb; cases hb
    | some wt =>
      obtain ⟨w', t'⟩ := wt
      rw [hB] at hb
      simp only at hb
      split at hb
      · cases hb
      · rw [hb] at hB
        exact hT b w t hB
theorem begin_ok {h : Hi} {l : Li} {np : Nat} : okR h l np 0 (beginA l) ∧ okT l (beginA l).1 := by
  refine ⟨⟨fun p c hc => (by cases hc), fun p => Nat.zero_le _, Nat.le_refl _⟩, fun b w t hb => (by cases hb)⟩
theorem run_ok {h : Hi} {l : Li} {ne np : Nat} (ok : okHi h) (okl : okLi l) (hev : okEv h l ne np) {out : Nat → Bool} : ∀ e, e ≤ ne → okR h l np (3 * e) (runA h l out e) ∧ okT l (runA h l out e).1 ∧ sTime (runA h l out e).1 ≤ e
  | 0, _ => ⟨(begin_ok (h := h) (l := l) (np := np)).1, (begin_ok (h := h) (l := l) (np := np)).2, Nat.le_refl _⟩
  | e + 1, he => by
    obtain ⟨h1, h2, h3⟩ := run_ok (out := out) ok okl hev e (by omega)
    unfold runA
    split
    · exact ⟨ok_le h1 (by omega), h2, by omega⟩
    · have g := step_ok (e := e) h1 h2 ok okl hev (by omega)
      exact ⟨ok_le g.1 (by omega), g.2.1, by omega⟩
section REP
variable {xs : List Int} {S : List (Nat × Nat)} {T : Nat → Nat → Nat} {cc zz s : Nat} {h : Hi} {l : Li} {r : Ra} {I I' : Ix}

theorem run_s {out : Nat → Bool} {e : Nat} (ho : out e = false) : runA h l out (e + 1) = (stepA h l e (runA h l out e)).1 := by
  rw [runA, if_neg (by rw [ho]; decide)]
theorem run_o {out : Nat → Bool} {e : Nat} (ho : out e = true) : runA h l out (e + 1) = runA h l out e := by
  rw [runA, if_pos ho]
end REP
