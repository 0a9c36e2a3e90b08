/-! what is counted: a tick, a link, the run -/
section ACE
variable {n e m : Nat} {ar : Nat → Nat} {r : Ra} {h : Hi} {l : Li}
theorem AC_delA {p : Nat} : ∀ d (r : Ra), d ≤ (sQ r.1 p).length → AC n (e + 1) m ar r ∧ FF n m r → AC n (e + 1) m ar (delA h p d r) ∧ FF n m (delA h p d r)
  | 0, _, _, H => H
  | d + 1, r, hd, H => by
    have hi := hiK_lt (rkQ h (sQ r.1 p)) (sQ r.1 p).length (by omega)
    exact AC_delA d (setQ r.1 p ((sQ r.1 p).eraseIdx (hiK (rkQ h (sQ r.1 p)) (sQ r.1 p).length)), addDel r.2 ((sQ r.1 p).getD (hiK (rkQ h (sQ r.1 p)) (sQ r.1 p).length) (0, 0)).1 p) (by
      show d ≤ (sQ (setQ r.1 p _) p).length
      rw [sQ_set, if_pos rfl, len_e hi]
      omega) ⟨AC_del H.1 hi, FF_del H.2 H.1 hi⟩
theorem AC_dels (H : AC n (e + 1) m ar r ∧ FF n m r) : ∀ z, AC n (e + 1) m ar (delsA h l z r).1 ∧ FF n m (delsA h l z r).1
  | 0 => H
  | z + 1 => by
    have g := AC_dels H z
    cases hw : sUp (delsA h l z r).1.1 z
    · rw [dels_f hw]; exact g
    · rw [dels_t hw]; exact AC_delA _ _ (Nat.min_le_right _ _) g
theorem AC_stales (har : ∀ k, k < m → ar k ≤ e) (H : AC n (e + 1) m ar r ∧ FF n m r) : ∀ z, AC n (e + 1) m ar (stalesA l e z r) ∧ FF n m (stalesA l e z r)
  | 0 => H
  | z + 1 => stale_keep (P := fun r => AC n (e + 1) m ar r ∧ FF n m r) (fun r i H hi => ⟨AC_out H.1 har hi ⟨by decide, by decide, by decide⟩, FF_out H.2 H.1 hi⟩) _ [] (stalesA l e z r) rfl (AC_stales har H z)
theorem AC_step (H : AC (lPorts l) (e + 1) (arr h e) ar r) (F : FF (lPorts l) (arr h e) r) (hT : okT l r.1) (hp : hKind h e ≠ 1 → hPort h e < lPorts l) (hk : hKind h e = 0 → hPk h e = arr h e) (h3 : hKind h e ≤ 3) (har : ∀ k, k < arr h (e + 1) → ar k ≤ e) : AC (lPorts l) (e + 1) (arr h (e + 1)) ar (stepA h l e r).1 ∧ FF (lPorts l) (arr h (e + 1)) (stepA h l e r).1 := by
  rcases (show hKind h e = 0 ∨ hKind h e = 1 ∨ hKind h e = 2 ∨ hKind h e = 3 by omega) with hk0 | hk0 | hk0 | hk0
  · have ea : arr h (e + 1) = arr h e + 1 := if_pos hk0
    rw [ea] at har ⊢
    rw [step_0 hk0, hk hk0]
    exact AC_arrive H F hT (hp (by omega)) har
  · have ea : arr h (e + 1) = arr h e := if_neg (by omega)
    rw [ea] at har ⊢
    rw [step_1 hk0]
    have g := AC_stales (l := l) har (AC_dels (h := h) (l := l) ⟨H, F⟩ (lPorts l)) (lPorts l)
    exact ⟨AC_q (r := stalesA l e (lPorts l) (delsA h l (lPorts l) r).1) (fun _ => rfl) g.1, g.2⟩
  · have ea : arr h (e + 1) = arr h e := if_neg (by omega)
    rw [ea] at har ⊢
    rw [step_2 hk0]
    exact ⟨AC_q (fun _ => rfl) H, F⟩
  · have ea : arr h (e + 1) = arr h e := if_neg (by omega)
    rw [ea] at har ⊢
    rw [step_3 hk0]
    exact lose_keep (P := fun r => AC (lPorts l) (e + 1) (arr h e) ar r ∧ FF (lPorts l) (arr h e) r) (fun r i H hi => ⟨AC_out H.1 har hi ⟨by decide, by decide, by decide⟩, FF_out H.2 H.1 hi⟩) (fun r H => ⟨AC_q (fun _ => rfl) H.1, H.2⟩) (sQ r.1 (hPort h e)) r rfl ⟨H, F⟩
theorem AC_b (H : AC n e m ar r) : AC n (e + 1) m ar r := by
  obtain ⟨h1, h2, h3, h4, h5, h6, h7⟩ := H
  exact ⟨h1, h2, h3, h4, h5, fun d hd => ⟨Nat.lt_succ_of_lt (h6 d hd).1, (h6 d hd).2⟩, h7⟩
theorem AC_run {ne np : Nat} (ok : okHi h) (okl : okLi l) (hev : okEv h l ne np) (hpk : okPk h ne) (har : ∀ e, e < ne → ∀ k, k < arr h (e + 1) → ar k ≤ e) : ∀ e, e ≤ ne → AC (lPorts l) e (arr h e) ar (runA h l noOut e) ∧ FF (lPorts l) (arr h e) (runA h l noOut e)
  | 0, _ => ⟨⟨uq_run hpk 0 (Nat.zero_le _), fun k p => ⟨fun q => absurd q (show (0 : Nat) ≠ 1 by decide), fun ⟨c, hc, _⟩ => (by cases hc)⟩, fun p => rfl, fun k s _ => rfl, fun p c hc => (by cases hc), fun d hd => (by cases hd), List.Pairwise.nil⟩, fun k hk => absurd hk (Nat.not_lt_zero k)⟩
  | e + 1, he => by
    have g := AC_run ok okl hev hpk har e (by omega)
    have k := hpk e (by omega)
    have k2 := hev e (by omega)
    rw [run_s rfl]
    exact AC_step (AC_b g.1) g.2 (run_ok ok okl hev e (by omega)).2.1 k2.1 k.1 k.2 (har e (by omega))
theorem HW_ar {ne np : Nat} {a : Nat → Nat} (H : HW h a ne np) (hpk : okPk h ne) : ∀ e, e < ne → ∀ k, k < arr h (e + 1) → a k ≤ e := by
  intro e he k hk
  have h1 := arr_mono (h := h) ne (show e + 1 ≤ ne by omega)
  have h2 : k < np := by rw [H.2.1]; omega
  obtain ⟨g1, g2, g3⟩ := H.2.2 k h2
  have h3 := (hpk (a k) g1).1 g2
  refine Classical.byContradiction fun q => ?_
  have h4 := arr_mono (h := h) (a k) (show e + 1 ≤ a k by omega)
  omega
end ACE
