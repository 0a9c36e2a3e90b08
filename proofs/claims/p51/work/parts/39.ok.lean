/-! the class: a tick -/
theorem delA_ok {h : Hi} {l : Li} {np u p : Nat} (hp : p < 4) : ∀ d (r : Ra), d ≤ (sQ r.1 p).length → okR h l np u r → okR h l np u (delA h p d r) ∧ sTime (delA h p d r).1 = sTime r.1 ∧ (delA h p d r).1.2.1 = r.1.2.1
  | 0, r, _, H => ⟨H, rfl, rfl⟩
  | d + 1, r, hd, H => by
    have hi := hiK_lt (rkQ h (sQ r.1 p)) (sQ r.1 p).length (by omega)
    have h1 := delA_ok hp d (setQ r.1 p ((sQ r.1 p).eraseIdx (hiK (rkQ h (sQ r.1 p)) (sQ r.1 p).length)), addDel r.2 ((sQ r.1 p).getD (hiK (rkQ h (sQ r.1 p)) (sQ r.1 p).length) (0, 0)).1 p) (by
      show d ≤ (sQ (setQ r.1 p _) p).length
      rw [sQ_set, if_pos rfl, len_e hi]
      omega) (ok_del H hp hi)
    exact h1
theorem dels_t {h : Hi} {l : Li} {n : Nat} {r : Ra} (hw : sUp (delsA h l n r).1.1 n = true) : delsA h l (n + 1) r = (delA h n (min (lSpeed l n) (sQ (delsA h l n r).1.1 n).length) (delsA h l n r).1, (delsA h l n r).2 + min (lSpeed l n) (sQ (delsA h l n r).1.1 n).length) := by
  rw [delsA]; exact if_pos hw
theorem dels_f {h : Hi} {l : Li} {n : Nat} {r : Ra} (hw : sUp (delsA h l n r).1.1 n = false) : delsA h l (n + 1) r = delsA h l n r := by
  rw [delsA]; exact if_neg (by rw [hw]; decide)
theorem delsA_ok {h : Hi} {l : Li} {np u : Nat} {r : Ra} (H : okR h l np u r) (ok : okHi h) : ∀ n, n ≤ 4 → okR h l np u (delsA h l n r).1 ∧ sTime (delsA h l n r).1.1 = sTime r.1 ∧ (delsA h l n r).2 ≤ 99 * n
  | 0, _ => ⟨H, rfl, Nat.le_refl _⟩
  | n + 1, hn => by
    obtain ⟨h1, h2, h3⟩ := delsA_ok (l := l) H ok n (by omega)
    cases hw : sUp (delsA h l n r).1.1 n
    · rw [dels_f hw]; exact ⟨h1, h2, by omega⟩
    · rw [dels_t hw]
      have h5 := ok_len h1 ok n
      have h4 := delA_ok (p := n) (by omega) (min (lSpeed l n) (sQ (delsA h l n r).1.1 n).length) _ (Nat.min_le_right _ _) h1
      exact ⟨h4.1, h4.2.1.trans h2, by show _ + _ ≤ _; omega⟩
theorem fold_len {e p c : Nat} : ∀ (q : List Cp) (g : Lo), (q.foldl (fun g c' => addDr g e c'.1 p c (-1)) g).1.length = g.1.length + q.length ∧ (q.foldl (fun g c' => addDr g e c'.1 p c (-1)) g).2.2 = g.2.2
  | [], g => ⟨rfl, rfl⟩
  | x :: q, g => by
    have h1 := fold_len (e := e) (p := p) (c := c) q (addDr g e x.1 p c (-1))
    refine ⟨h1.1.trans ?_, h1.2⟩
    show (g.1 ++ [_]).length + q.length = _
    rw [List.length_append]
    show g.1.length + 1 + q.length = g.1.length + (q.length + 1)
    omega
theorem flt_len {f : Cp → Bool} : ∀ q : List Cp, (q.filter f).length + (q.filter (fun c => !f c)).length = q.length
  | [] => rfl
  | x :: q => by
    have h1 := flt_len (f := f) q
    cases hx : f x
    · rw [List.filter_cons_of_neg (by rw [hx]; decide), List.filter_cons_of_pos (by rw [hx]; rfl)]
      show _ + (_ + 1) = _ + 1
      omega
    · rw [List.filter_cons_of_pos hx, List.filter_cons_of_neg (by rw [hx]; decide)]
      show _ + 1 + _ = _ + 1
      omega
theorem flt_fill {h : Hi} {f : Cp → Bool} : ∀ q : List Cp, fillQ h (q.filter f) ≤ fillQ h q
  | [] => Nat.le_refl _
  | x :: q => by
    have h1 := flt_fill (h := h) (f := f) q
    cases hx : f x
    · rw [List.filter_cons_of_neg (by rw [hx]; decide)]
      show _ ≤ hSiz h x.1 + fillQ h q
      omega
    · rw [List.filter_cons_of_pos hx]
      show hSiz h x.1 + fillQ h (q.filter f) ≤ hSiz h x.1 + fillQ h q
      omega
/-- a queue loses copies, each of which is dropped -/
theorem ok_flt {h : Hi} {l : Li} {np u p : Nat} {r : Ra} (H : okR h l np u r) (hp : p < 4) {q : List Cp} {g : Lo} (hm : ∀ c, c ∈ q → c ∈ sQ r.1 p) (hf : fillQ h q ≤ fillQ h (sQ r.1 p)) (hg : g.1.length + dsum g + q.length = r.2.1.length + dsum r.2 + (sQ r.1 p).length) : okR h l np u (setQ r.1 p q, g) := by
  refine ⟨fun x c hc => ?_, fun x => ?_, ?_⟩
  · change c ∈ sQ (setQ r.1 p _) x at hc
    rw [sQ_set] at hc
    by_cases hx : x = p
    · rw [if_pos hx] at hc
      rw [hx]
      exact H.1 p c (hm c hc)
    · rw [if_neg hx] at hc
      exact H.1 x c hc
  · show fillQ h (sQ (setQ r.1 p _) x) ≤ 99
    rw [sQ_set]
    by_cases hx : x = p
    · rw [if_pos hx]
      exact Nat.le_trans hf (H.2.1 p)
    · rw [if_neg hx]
      exact H.2.1 x
  · have h1 := H.2.2
    have h2 := qlen_set (A := r.1) (q := q) hp
    unfold tot at h1 ⊢
    simp only
    omega
theorem staleA_ok {h : Hi} {l : Li} {np u e p : Nat} {r : Ra} (H : okR h l np u r) (hp : p < 4) : okR h l np u (staleA l e p r) := by
  have h1 := fold_len (e := e) (p := p) (c := 9) ((sQ r.1 p).filter (isStale l r.1)) r.2
  refine ok_flt H hp (fun c hc => (List.mem_filter.mp hc).1) (flt_fill _) ?_
  have h2 := flt_len (f := isStale l r.1) (sQ r.1 p)
  unfold dsum
  rw [h1.1, h1.2]
  omega
theorem stalesA_ok {h : Hi} {l : Li} {np u e : Nat} {r : Ra} (H : okR h l np u r) : ∀ n, n ≤ 4 → okR h l np u (stalesA l e n r) ∧ sTime (stalesA l e n r).1 = sTime r.1
  | 0, _ => ⟨H, rfl⟩
  | n + 1, hn => by
    obtain ⟨h1, h2⟩ := stalesA_ok (e := e) H n (by omega)
    exact ⟨staleA_ok h1 (by omega), h2⟩
theorem loseA_ok {h : Hi} {l : Li} {np u e p : Nat} {r : Ra} (H : okR h l np u r) (hp : p < 4) : okR h l np u (loseA e p r).1 := by
  have h1 := fold_len (e := e) (p := p) (c := 10) (sQ r.1 p) r.2
  have h2 : okR h l np u (setQ r.1 p [], (sQ r.1 p).foldl (fun g c => addDr g e c.1 p 10 (-1)) r.2) := by
    refine ok_flt H hp (fun c hc => by cases hc) (Nat.zero_le _) ?_
    unfold dsum
    rw [h1.1, h1.2]
    show _ + _ + 0 = _
    omega
  exact ⟨h2.1, h2.2.1, h2.2.2⟩
theorem tickA_ok {h : Hi} {l : Li} {np u e : Nat} {r : Ra} (H : okR h l np u r) (ok : okHi h) (okl : okLi l) : okR h l np u (tickA h l e r).1 ∧ sTime (tickA h l e r).1.1 = sTime r.1 + 1 := by
  obtain ⟨h1, h2, _⟩ := delsA_ok (l := l) H ok (lPorts l) okl.1
  obtain ⟨h3, h4⟩ := stalesA_ok (e := e) h1 (lPorts l) okl.1
  refine ⟨⟨fun p c hc => ?_, h3.2.1, h3.2.2⟩, ?_⟩
  · obtain ⟨g1, g2, g3⟩ := h3.1 p c hc
    exact ⟨g1, g2, Nat.le_succ_of_le g3⟩
  · show sTime (stalesA l e (lPorts l) (delsA h l (lPorts l) r).1).1 + 1 = _
    rw [h4, h2]
theorem push_time {h : Hi} {cap siz e k p : Nat} : ∀ n (r : Ra), sTime (pushA h cap siz e k p n r).1 = sTime r.1
  | 0, _ => rfl
  | n + 1, r => by
    unfold pushA
    split
    · rfl
    · exact push_time n _
theorem arriveA_ok {h : Hi} {l : Li} {np u e p k : Nat} {r : Ra} (H : okR h l np u r) (ok : okHi h) (okl : okLi l) (hk : k < np) (hp : p < lPorts l) : okR h l np (u + 3) (arriveA h l e p k r).1 ∧ sTime (arriveA h l e p k r).1.1 = sTime r.1 := by
  have hR : ∀ (r : Ra) c d, okR h l np u r → okR h l np (u + 3) (refA e k c d r).1 := fun r c d H => ok_le (ok_dr H) (by omega)
  have hP : ∀ way (r : Ra), ways way (lPorts l) ≤ 3 → okR h l np u r → okR h l np (u + 3) (putsA h l e k way (lPorts l) r).1 := fun way r hw H => ok_le (putsA_ok ok okl hk H (lPorts l) (Nat.le_refl _)) (by omega)
  have tA : ∀ p (r : Ra), sTime (putA h l e k p r).1.1 = sTime r.1 := by
    intro p r
    unfold putA
    split
    · rfl
    · split
      · rfl
      · exact push_time _ r
  have tP : ∀ way n (r : Ra), sTime (putsA h l e k way n r).1.1 = sTime r.1 := by
    intro way n r
    induction n with
    | zero => rfl
    | succ n ih =>
      cases hw : way n
      · rw [puts_f hw]; exact ih
      · rw [puts_t hw]; exact (tA _ _).trans ih
  have h4 := okl.1
  unfold arriveA
  split
  · exact ⟨hR _ _ _ H, rfl⟩
  · split
    · exact ⟨hR _ _ _ H, rfl⟩
    · split
      · exact ⟨hR _ _ _ H, rfl⟩
      · rename_i s1 hs
        have hs1 : okR h l np u (setTab s1 (hSrc h k) (some (p, sTime s1)), r.2) ∧ sTime s1 = sTime r.1 := by
          unfold policeA at hs
          split at hs
          · injection hs with e; subst e
            exact ⟨⟨H.1, H.2.1, H.2.2⟩, rfl⟩
          · split at hs
            · cases hs
            · injection hs with e; subst e
              exact ⟨⟨H.1, H.2.1, H.2.2⟩, rfl⟩
        simp only
        split
        · rename_i w hw
          split
          · exact ⟨hR _ _ _ hs1.1, hs1.2⟩
          · refine ⟨hP _ _ ?_ hs1.1, (tP _ _ _).trans hs1.2⟩
            have h9 := ways_1 (w := w) (lPorts l)
            have h8 : (if w < lPorts l then 1 else 0) ≤ 1 := by split <;> omega
            omega
        · split
          · exact ⟨hR _ _ _ hs1.1, hs1.2⟩
          · refine ⟨hP _ _ ?_ hs1.1, (tP _ _ _).trans hs1.2⟩
            have h9 := (ways_le (way := fun o => o != p && sUp (setTab s1 (hSrc h k) (some (p, sTime s1))) o) (p := p) (by simp) (lPorts l)).2 hp
            omega
