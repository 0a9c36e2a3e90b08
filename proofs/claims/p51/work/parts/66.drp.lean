/-! the drops of a run: packets and ports -/
theorem log_keep2 {Q : Lo → Prop} {h : Hi} {l : Li} {e : Nat} (h1 : ∀ g k (port : Int) c d, -1 ≤ port ∧ port ≤ 3 → Q g → Q (addDr g e k port c d)) (h2 : ∀ g k p, Q g → Q (addDel g k p)) (h3 : ∀ g k t v, Q g → Q (setFate g k t v)) (hk : hKind h e ≤ 3) (hl : lPorts l ≤ 4) (hp : hKind h e ≠ 1 → hPort h e < lPorts l) (r : Ra) (H : Q r.2) : Q (stepA h l e r).1.2 := by
  have hpush : ∀ n cap siz k p (r : Ra), p < 4 → Q r.2 → Q (pushA h cap siz e k p n r).2 := by
    intro n cap siz k p
    induction n with
    | zero => intro r _ H; exact H
    | succ n ih =>
      intro r hp H
      unfold pushA
      split
      · exact H
      · exact ih _ hp (h1 _ _ _ _ _ (by omega) H)
  have hput : ∀ k p (r : Ra), p < 4 → Q r.2 → Q (putA h l e k p r).1.2 := by
    intro k p r hp H
    unfold putA
    split
    · exact h1 _ _ _ _ _ (by omega) H
    · split
      · exact h1 _ _ _ _ _ (by omega) H
      · exact h3 _ _ _ _ (hpush _ _ _ _ _ _ hp H)
  have hputs : ∀ way k n (r : Ra), n ≤ 4 → Q r.2 → Q (putsA h l e k way n r).1.2 := by
    intro way k n r hn H
    induction n with
    | zero => exact H
    | succ n ih =>
      cases hw : way n
      · rw [puts_f hw]; exact ih (by omega)
      · rw [puts_t hw]; exact hput _ _ _ (by omega) (ih (by omega))
  have hfold : ∀ (p : Nat) c (q : List Cp) (g : Lo), p < 4 → Q g → Q (q.foldl (fun g c' => addDr g e c'.1 p c (-1)) g) := by
    intro p c q
    induction q with
    | nil => intro g _ H; exact H
    | cons x q ih => intro g hp H; exact ih _ hp (h1 _ _ _ _ _ (by omega) H)
  have hdel : ∀ p d (r : Ra), Q r.2 → Q (delA h p d r).2 := by
    intro p d
    induction d with
    | zero => intro r H; exact H
    | succ d ih => intro r H; exact ih _ (h2 _ _ _ H)
  rcases (show hKind h e = 0 ∨ hKind h e = 1 ∨ hKind h e = 2 ∨ hKind h e = 3 by omega) with hk0 | hk0 | hk0 | hk0
  · rw [step_0 hk0]
    unfold arriveA
    split
    · exact h1 _ _ _ _ _ (by decide) H
    · split
      · exact h1 _ _ _ _ _ (by decide) H
      · split
        · exact h1 _ _ _ _ _ (by decide) H
        · simp only
          split
          · split
            · exact h1 _ _ _ _ _ (by decide) H
            · exact hputs _ _ _ _ hl H
          · split
            · exact h1 _ _ _ _ _ (by decide) H
            · exact hputs _ _ _ _ hl H
  · rw [step_1 hk0]
    have hdels : ∀ n, Q (delsA h l n r).1.2 := by
      intro n
      induction n with
      | zero => exact H
      | succ n ih =>
        cases hw : sUp (delsA h l n r).1.1 n
        · rw [dels_f hw]; exact ih
        · rw [dels_t hw]; exact hdel _ _ _ ih
    have hst : ∀ n (r : Ra), n ≤ 4 → Q r.2 → Q (stalesA l e n r).2 := by
      intro n r hn H
      induction n with
      | zero => exact H
      | succ n ih => exact hfold _ _ _ _ (by omega) (ih (by omega))
    exact hst _ _ hl (hdels _)
  · rw [step_2 hk0]; exact H
  · rw [step_3 hk0]
    have := hp (by omega)
    exact hfold _ _ _ _ (by omega) H
theorem drp_port {h : Hi} {l : Li} {ne np : Nat} (okl : okLi l) (hev : okEv h l ne np) {out : Nat → Bool} : ∀ n, n ≤ ne → ∀ d, d ∈ (runA h l out n).2.1 → d.2.2.1 ≤ 3
  | 0, _, d, hd => by cases hd
  | n + 1, hn, d, hd => by
    have ih := drp_port okl hev (out := out) n (by omega)
    obtain ⟨g1, g2, g3⟩ := hev n (by omega)
    cases ho : out n with
    | true => rw [run_o ho] at hd; exact ih d hd
    | false =>
      rw [run_s ho] at hd
      exact log_keep2 (Q := fun g => ∀ d, d ∈ g.1 → d.2.2.1 ≤ 3) (fun g k port c x hp H d hd => by
        have hd' : d ∈ g.1 ++ [(n, k, port, c, x)] := hd
        rcases List.mem_append.mp hd' with hd | hd
        · exact H d hd
        · rw [List.mem_singleton] at hd; rw [hd]; exact hp.2) (fun g k p H => H) (fun g k t v H => H) g3 okl.1 g1 (runA h l out n) ih d hd
theorem arr_e {h : Hi} : ∀ e, arr h e ≤ e
  | 0 => Nat.le_refl _
  | e + 1 => by
    have := arr_e (h := h) e
    show (if hKind h e = 0 then arr h e + 1 else arr h e) ≤ e + 1
    split <;> omega
theorem run_okDr {h : Hi} {l : Li} {ne np : Nat} (okl : okLi l) (hev : okEv h l ne np) (hpk : okPk h ne) (h120 : ne ≤ 120) {out : Nat → Bool} {n : Nat} (hn : n ≤ ne) : okDr (runA h l out n).2.1 := by
  intro k hk
  have hm : (runA h l out n).2.1.getD k dr0 ∈ (runA h l out n).2.1 := by
    rw [List.getD_eq_getElem?_getD, List.getElem?_eq_getElem hk]
    exact List.getElem_mem hk
  have g := (uq_run (l := l) (out := out) hpk n hn).2.2.1 _ hm
  have := arr_e (h := h) n
  exact ⟨by omega, g.2.1, drp_port okl hev n hn _ hm⟩
