/-! queues and the buffer are never fuller than they may be -/
def FIL (h : Hi) (l : Li) (r : Ra) : Prop := (∀ p, p < lPorts l → fillP h r.1 p ≤ lCap l p) ∧ fillAll h (lPorts l) r.1 ≤ lBuf l
section FLS
variable {h : Hi} {l : Li} {e k p : Nat} {r : Ra}
theorem fa_s {n : Nat} {A : Sa} : fillAll h (n + 1) A = fillAll h n A + fillP h A n := by
  unfold fillAll
  rw [List.range_succ, List.map_append, List.sum_append]
  simp
theorem fa_le {A B : Sa} (H : ∀ p, fillP h A p ≤ fillP h B p) : ∀ n, fillAll h n A ≤ fillAll h n B
  | 0 => Nat.le_refl _
  | n + 1 => by
    rw [fa_s, fa_s]
    have := fa_le H n
    have := H n
    omega
theorem fa_one {A B : Sa} (H : ∀ y, y ≠ p → fillP h B y = fillP h A y) : ∀ n, fillAll h n B + (if p < n then fillP h A p else 0) = fillAll h n A + (if p < n then fillP h B p else 0)
  | 0 => rfl
  | n + 1 => by
    have g := fa_one H n
    rw [fa_s, fa_s]
    by_cases hp : p = n
    · subst hp
      rw [if_neg (Nat.lt_irrefl _), if_neg (Nat.lt_irrefl _)] at g
      rw [if_pos (Nat.lt_succ_self _), if_pos (Nat.lt_succ_self _)]
      omega
    · have := H n (fun q => hp q.symm)
      by_cases h2 : p < n
      · rw [if_pos h2, if_pos h2] at g
        rw [if_pos (by omega), if_pos (by omega)]
        omega
      · rw [if_neg h2, if_neg h2] at g
        rw [if_neg (by omega), if_neg (by omega)]
        omega
theorem FIL.le {r' : Ra} (F : FIL h l r) (H : ∀ p, fillP h r'.1 p ≤ fillP h r.1 p) : FIL h l r' := ⟨fun p hp => Nat.le_trans (H p) (F.1 p hp), Nat.le_trans (fa_le H _) F.2⟩
theorem fq_er {q : List Cp} : ∀ i, fillQ h (q.eraseIdx i) ≤ fillQ h q := by
  induction q with
  | nil => intro i; exact Nat.le_refl _
  | cons c q ih =>
    intro i
    cases i with
    | zero => show fillQ h q ≤ fillQ h (c :: q); unfold fillQ; rw [List.map_cons, List.sum_cons]; omega
    | succ i =>
      have := ih i
      show fillQ h (c :: q.eraseIdx i) ≤ fillQ h (c :: q)
      unfold fillQ at this ⊢
      rw [List.map_cons, List.sum_cons, List.map_cons, List.sum_cons]
      omega
theorem fq_ap {q : List Cp} {c : Cp} : fillQ h (q ++ [c]) = fillQ h q + hSiz h c.1 := by
  unfold fillQ
  rw [List.map_append, List.sum_append]
  simp
theorem fp_set {A : Sa} {q : List Cp} {y : Nat} : fillP h (setQ A p q) y = if y = p then fillQ h q else fillP h A y := by
  unfold fillP
  rw [sQ_set]
  split <;> rfl
theorem le_er {A : Sa} {i : Nat} (y : Nat) : fillP h (setQ A p ((sQ A p).eraseIdx i)) y ≤ fillP h A y := by
  rw [fp_set]
  split
  · rename_i hy
    rw [hy]
    exact fq_er i
  · exact Nat.le_refl _
theorem push_le {cap siz : Nat} : ∀ z (r : Ra) y, fillP h (pushA h cap siz e k p z r).1 y ≤ fillP h r.1 y
  | 0, _, _ => Nat.le_refl _
  | z + 1, r, y => by
    unfold pushA
    split
    · exact Nat.le_refl _
    · exact Nat.le_trans (push_le z _ y) (le_er y)
theorem FIL_putA {np u : Nat} (ok : okHi h) (okl : okLi l) (H : okR h l np u r) (hp : p < lPorts l) (F : FIL h l r) : FIL h l (putA h l e k p r).1 := by
  have h4 : p < 4 := by have := okl.1; omega
  unfold putA
  split
  · exact F
  · split
    · exact F
    · rename_i h1 h2
      have g := (push_ok ok (cap := lCap l p) (siz := hSiz h k) (e := e) (k := k) (z := hRnk h k) h4 _ r H rfl (by omega)).2
      have g2 : ∀ y, fillP h (pushA h (lCap l p) (hSiz h k) e k p (sQ r.1 p).length r).1 y ≤ fillP h r.1 y := fun y => push_le _ r y
      generalize pushA h (lCap l p) (hSiz h k) e k p (sQ r.1 p).length r = r' at g g2 ⊢
      have e1 : fillP h (putEnd e k p r').1 p = fillP h r'.1 p + hSiz h k := by
        show fillP h (setQ r'.1 p _) p = _
        rw [fp_set, if_pos rfl, fq_ap]
        rfl
      have e2 : ∀ y, y ≠ p → fillP h (putEnd e k p r').1 y = fillP h r'.1 y := fun y hy => by
        show fillP h (setQ r'.1 p _) y = _
        rw [fp_set, if_neg hy]
      refine ⟨fun y hy => ?_, ?_⟩
      · by_cases hyp : y = p
        · rw [hyp, e1]; exact g
        · show fillP h (putEnd e k p r').1 y ≤ _
          rw [e2 y hyp]
          exact Nat.le_trans (g2 y) (F.1 y hy)
      · have g3 := fa_one (h := h) (p := p) (A := r'.1) (B := (putEnd e k p r').1) e2 (lPorts l)
        rw [if_pos hp, if_pos hp, e1] at g3
        have g4 := fa_le g2 (lPorts l)
        show fillAll h (lPorts l) (putEnd e k p r').1 ≤ _
        omega
theorem FIL_puts {np u : Nat} {way : Nat → Bool} (ok : okHi h) (okl : okLi l) (hk : k < np) (H : okR h l np u r) (F : FIL h l r) : ∀ z, z ≤ lPorts l → FIL h l (putsA h l e k way z r).1
  | 0, _ => F
  | z + 1, hz => by
    have g := FIL_puts (way := way) ok okl hk H F z (by omega)
    cases hw : way z
    · rw [puts_f hw]; exact g
    · rw [puts_t hw]
      exact FIL_putA ok okl (putsA_ok ok okl hk H z (by omega)) (by omega) g
theorem okR_q {np u : Nat} {B : Sa} (H : okR h l np u r) (h1 : ∀ y, sQ B y = sQ r.1 y) (h2 : sTime B = sTime r.1) : okR h l np u (B, r.2) := by
  obtain ⟨g1, g2, g3⟩ := H
  refine ⟨fun p c hc => ?_, fun p => ?_, ?_⟩
  · change c ∈ sQ B p at hc
    rw [h1] at hc
    show p < lPorts l ∧ c.1 < np ∧ c.2 ≤ sTime B
    rw [h2]
    exact g1 p c hc
  · show fillQ h (sQ B p) ≤ 99
    rw [h1]; exact g2 p
  · unfold tot qlen at g3 ⊢
    simp only [h1]
    exact g3
theorem FIL_arrive {np u : Nat} (ok : okHi h) (okl : okLi l) (hk : k < np) (H : okR h l np u r) (F : FIL h l r) : FIL h l (arriveA h l e p k r).1 := by
  unfold arriveA
  split
  · exact F
  · split
    · exact F
    · split
      · exact F
      · rename_i s1 hs
        have hq : (∀ y, sQ (setTab s1 (hSrc h k) (some (p, sTime s1))) y = sQ r.1 y) ∧ sTime (setTab s1 (hSrc h k) (some (p, sTime s1))) = sTime r.1 := by
          unfold policeA at hs
          split at hs
          · injection hs with e; subst e; exact ⟨fun _ => rfl, rfl⟩
          · split at hs
            · cases hs
            · injection hs with e; subst e; exact ⟨fun _ => rfl, rfl⟩
        have H2 : okR h l np u (setTab s1 (hSrc h k) (some (p, sTime s1)), r.2) := okR_q H hq.1 hq.2
        have F2 : FIL h l (setTab s1 (hSrc h k) (some (p, sTime s1)), r.2) := F.le fun y => by
          show fillQ h (sQ (setTab s1 (hSrc h k) (some (p, sTime s1))) y) ≤ _
          rw [hq.1]; exact Nat.le_refl _
        simp only
        split
        · split
          · exact F2
          · exact FIL_puts ok okl hk H2 F2 _ (Nat.le_refl _)
        · split
          · exact F2
          · exact FIL_puts ok okl hk H2 F2 _ (Nat.le_refl _)
theorem delA_le : ∀ d (r : Ra) y, fillP h (delA h p d r).1 y ≤ fillP h r.1 y
  | 0, _, _ => Nat.le_refl _
  | d + 1, r, y => Nat.le_trans (delA_le d _ y) (le_er y)
theorem delsA_le : ∀ z y, fillP h (delsA h l z r).1.1 y ≤ fillP h r.1 y
  | 0, _ => Nat.le_refl _
  | z + 1, y => by
    cases hw : sUp (delsA h l z r).1.1 z
    · rw [dels_f hw]; exact delsA_le z y
    · rw [dels_t hw]; exact Nat.le_trans (delA_le _ _ y) (delsA_le z y)
theorem stalesA_le : ∀ z (r : Ra) y, fillP h (stalesA l e z r).1 y ≤ fillP h r.1 y
  | 0, _, _ => Nat.le_refl _
  | z + 1, r, y => by
    refine Nat.le_trans ?_ (stalesA_le z r y)
    show fillP h (setQ (stalesA l e z r).1 z _) y ≤ _
    rw [fp_set]
    split
    · rename_i hy
      rw [hy]
      exact flt_fill _
    · exact Nat.le_refl _
theorem FIL_step {np u : Nat} (ok : okHi h) (okl : okLi l) (H : okR h l np u r) (hk : hKind h e = 0 → hPk h e < np) (h3 : hKind h e ≤ 3) (F : FIL h l r) : FIL h l (stepA h l e r).1 := by
  rcases (show hKind h e = 0 ∨ hKind h e = 1 ∨ hKind h e = 2 ∨ hKind h e = 3 by omega) with hk0 | hk0 | hk0 | hk0
  · rw [step_0 hk0]; exact FIL_arrive ok okl (hk hk0) H F
  · rw [step_1 hk0]
    exact F.le fun y => Nat.le_trans (stalesA_le (l := l) (e := e) (lPorts l) _ y) (delsA_le (lPorts l) y)
  · rw [step_2 hk0]; exact F.le fun y => Nat.le_refl _
  · rw [step_3 hk0]
    refine F.le fun y => ?_
    show fillQ h (fu r.1.2.2.2.1 (hPort h e) [] y) ≤ fillQ h (sQ r.1 y)
    by_cases hy : y = hPort h e
    · rw [hy, fu_e]; exact Nat.zero_le _
    · rw [fu_o hy]; exact Nat.le_refl _
theorem FIL_run {ne np : Nat} (ok : okHi h) (okl : okLi l) (hev : okEv h l ne np) : ∀ e, e ≤ ne → FIL h l (runA h l noOut e)
  | 0, _ => ⟨fun p _ => Nat.zero_le _, by
    have : ∀ n, fillAll h n (beginA l).1 = 0 := fun n => by
      induction n with
      | zero => rfl
      | succ n ih => rw [fa_s, ih]; rfl
    show fillAll h (lPorts l) (beginA l).1 ≤ _
    rw [this]; exact Nat.zero_le _⟩
  | e + 1, he => by
    have g := FIL_run ok okl hev e (by omega)
    have k := hev e (by omega)
    rw [run_s rfl]
    exact FIL_step ok okl (run_ok ok okl hev e (by omega)).1 k.2.1 k.2.2 g
end FLS
