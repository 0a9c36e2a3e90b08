/-! replays: the log's beginning changes nothing; drops have the number of their event -/
/-- the same state; the drops of the first are P, then those of the second -/
def lr (P : List Dr) (r r' : Ra) : Prop := r.1 = r'.1 ∧ r.2.1 = P ++ r'.2.1
section RPL
variable {P : List Dr} {r r' : Ra}
theorem lr_dr (H : lr P r r') {e k c : Nat} {port d : Int} : lr P (r.1, addDr r.2 e k port c d) (r'.1, addDr r'.2 e k port c d) :=
  ⟨H.1, by show r.2.1 ++ [_] = P ++ (r'.2.1 ++ [_]); rw [H.2, List.append_assoc]⟩
theorem lr_out (H : lr P r r') {e p i c : Nat} {d : Int} : lr P (outDr e p i c d r) (outDr e p i c d r') := by
  unfold outDr
  rw [H.1]
  exact ⟨rfl, by show r.2.1 ++ [_] = P ++ (r'.2.1 ++ [_]); rw [H.2, List.append_assoc]⟩
theorem lr_push {h : Hi} {cap siz e k p : Nat} : ∀ n (r r' : Ra), lr P r r' → lr P (pushA h cap siz e k p n r) (pushA h cap siz e k p n r')
  | 0, _, _, H => H
  | n + 1, r, r', H => by
    unfold pushA
    rw [H.1]
    split
    · exact H
    · exact lr_push n _ _ (lr_out H)
theorem lr_putA (H : lr P r r') {h : Hi} {l : Li} {e k p : Nat} : lr P (putA h l e k p r).1 (putA h l e k p r').1 ∧ (putA h l e k p r).2 = (putA h l e k p r').2 := by
  unfold putA
  rw [H.1]
  split
  · exact ⟨⟨rfl, (lr_dr H).2⟩, rfl⟩
  · split
    · exact ⟨⟨rfl, (lr_dr H).2⟩, rfl⟩
    · have g := lr_push (P := P) (h := h) (cap := lCap l p) (siz := hSiz h k) (e := e) (k := k) (p := p) (sQ r'.1 p).length r r' H
      refine ⟨⟨?_, g.2⟩, rfl⟩
      unfold putEnd
      rw [g.1]
theorem lr_puts (H : lr P r r') {h : Hi} {l : Li} {e k : Nat} {way : Nat → Bool} : ∀ n, lr P (putsA h l e k way n r).1 (putsA h l e k way n r').1 ∧ (putsA h l e k way n r).2 = (putsA h l e k way n r').2
  | 0 => ⟨H, rfl⟩
  | n + 1 => by
    have g := lr_puts H (h := h) (l := l) (e := e) (k := k) (way := way) n
    cases hw : way n
    · rw [puts_f hw, puts_f hw]; exact g
    · rw [puts_t hw, puts_t hw]
      have g2 := lr_putA g.1 (h := h) (l := l) (e := e) (k := k) (p := n)
      exact ⟨g2.1, by show _ + _ = _ + _; rw [g.2, g2.2]⟩
theorem lr_arrive (H : lr P r r') {h : Hi} {l : Li} {e p k : Nat} : lr P (arriveA h l e p k r).1 (arriveA h l e p k r').1 ∧ (arriveA h l e p k r).2 = (arriveA h l e p k r').2 := by
  have hd : ∀ (s : Sa) c d, lr P (refA e k c d (s, r.2)).1 (refA e k c d (s, r'.2)).1 ∧ (refA e k c d (s, r.2)).2 = (refA e k c d (s, r'.2)).2 := fun s c d => ⟨lr_dr (r := (s, r.2)) (r' := (s, r'.2)) ⟨rfl, H.2⟩, rfl⟩
  have hr : r = (r'.1, r.2) := by rw [← H.1]
  unfold arriveA
  rw [H.1]
  split
  · have := hd r'.1 1 (-1)
    rw [← hr] at this
    exact this
  · split
    · rename_i x _
      have := hd r'.1 2 x
      rw [← hr] at this
      exact this
    · split
      · have := hd r'.1 3 (-1)
        rw [← hr] at this
        exact this
      · rename_i s1 _
        simp only
        split
        · split
          · exact hd _ 4 (-1)
          · exact lr_puts (show lr P (setTab s1 (hSrc h k) (some (p, sTime s1)), r.2) (setTab s1 (hSrc h k) (some (p, sTime s1)), r'.2) from ⟨rfl, H.2⟩) _
        · split
          · exact hd _ 5 (-1)
          · exact lr_puts (show lr P (setTab s1 (hSrc h k) (some (p, sTime s1)), r.2) (setTab s1 (hSrc h k) (some (p, sTime s1)), r'.2) from ⟨rfl, H.2⟩) _
theorem lr_delA {h : Hi} {p : Nat} : ∀ d (r r' : Ra), lr P r r' → lr P (delA h p d r) (delA h p d r')
  | 0, _, _, H => H
  | d + 1, r, r', H => by
    unfold delA
    rw [H.1]
    exact lr_delA d _ _ ⟨rfl, H.2⟩
theorem lr_dels (H : lr P r r') {h : Hi} {l : Li} : ∀ n, lr P (delsA h l n r).1 (delsA h l n r').1 ∧ (delsA h l n r).2 = (delsA h l n r').2
  | 0 => ⟨H, rfl⟩
  | n + 1 => by
    have g := lr_dels H (h := h) (l := l) n
    cases hw : sUp (delsA h l n r').1.1 n
    · rw [dels_f hw, dels_f (by rw [g.1.1]; exact hw)]; exact g
    · rw [dels_t hw, dels_t (by rw [g.1.1]; exact hw), g.1.1, g.2]
      exact ⟨lr_delA _ _ _ g.1, rfl⟩
theorem lr_fold {e p c : Nat} : ∀ (q : List Cp) (g g' : Lo), g.1 = P ++ g'.1 → (q.foldl (fun g c' => addDr g e c'.1 p c (-1)) g).1 = P ++ (q.foldl (fun g c' => addDr g e c'.1 p c (-1)) g').1
  | [], _, _, h => h
  | x :: q, g, g', h => lr_fold q _ _ (by show g.1 ++ [_] = P ++ (g'.1 ++ [_]); rw [h, List.append_assoc])
theorem lr_stales (H : lr P r r') {l : Li} {e : Nat} : ∀ n, lr P (stalesA l e n r) (stalesA l e n r')
  | 0 => H
  | n + 1 => by
    have g := lr_stales H (l := l) (e := e) n
    refine ⟨?_, ?_⟩
    · show setQ (stalesA l e n r).1 n _ = setQ (stalesA l e n r').1 n _
      rw [g.1]
    · show (((sQ (stalesA l e n r).1 n).filter (isStale l (stalesA l e n r).1)).foldl _ (stalesA l e n r).2).1 = P ++ (((sQ (stalesA l e n r').1 n).filter (isStale l (stalesA l e n r').1)).foldl _ (stalesA l e n r').2).1
      rw [g.1]
      exact lr_fold _ _ _ g.2
theorem lr_step (H : lr P r r') {h : Hi} {l : Li} {e : Nat} (h3 : hKind h e ≤ 3) : lr P (stepA h l e r).1 (stepA h l e r').1 ∧ (stepA h l e r).2 = (stepA h l e r').2 := by
  rcases (show hKind h e = 0 ∨ hKind h e = 1 ∨ hKind h e = 2 ∨ hKind h e = 3 by omega) with hk0 | hk0 | hk0 | hk0
  · rw [step_0 hk0, step_0 hk0]; exact lr_arrive H
  · rw [step_1 hk0, step_1 hk0]
    have g := lr_dels H (h := h) (l := l) (lPorts l)
    have g2 := lr_stales g.1 (l := l) (e := e) (lPorts l)
    refine ⟨⟨?_, g2.2⟩, g.2⟩
    show (sTime (stalesA l e (lPorts l) (delsA h l (lPorts l) r).1).1 + 1, _, refillA l (stalesA l e (lPorts l) (delsA h l (lPorts l) r).1).1, _) = (sTime (stalesA l e (lPorts l) (delsA h l (lPorts l) r').1).1 + 1, _, refillA l (stalesA l e (lPorts l) (delsA h l (lPorts l) r').1).1, _)
    rw [g2.1]
  · rw [step_2 hk0, step_2 hk0]
    exact ⟨⟨by show setUp r.1 _ _ = setUp r'.1 _ _; rw [H.1], H.2⟩, rfl⟩
  · rw [step_3 hk0, step_3 hk0]
    unfold loseA
    rw [H.1]
    exact ⟨⟨rfl, lr_fold _ _ _ H.2⟩, rfl⟩
/-- what the log's changes keep, an event keeps -/
theorem log_keep {Q : Lo → Prop} {h : Hi} {l : Li} {e : Nat} (h1 : ∀ g k port c d, Q g → Q (addDr g e k port c d)) (h2 : ∀ g k p, Q g → Q (addDel g k p)) (h3 : ∀ g k t v, Q g → Q (setFate g k t v)) (hk : hKind h e ≤ 3) (r : Ra) (H : Q r.2) : Q (stepA h l e r).1.2 := by
  have hpush : ∀ n cap siz k p (r : Ra), Q r.2 → Q (pushA h cap siz e k p n r).2 := by
    intro n cap siz k p
    induction n with
    | zero => intro r H; exact H
    | succ n ih =>
      intro r H
      unfold pushA
      split
      · exact H
      · exact ih _ (h1 _ _ _ _ _ H)
  have hput : ∀ k p (r : Ra), Q r.2 → Q (putA h l e k p r).1.2 := by
    intro k p r H
    unfold putA
    split
    · exact h1 _ _ _ _ _ H
    · split
      · exact h1 _ _ _ _ _ H
      · exact h3 _ _ _ _ (hpush _ _ _ _ _ _ H)
  have hputs : ∀ way k n (r : Ra), Q r.2 → Q (putsA h l e k way n r).1.2 := by
    intro way k n r H
    induction n with
    | zero => exact H
    | succ n ih =>
      cases hw : way n
      · rw [puts_f hw]; exact ih
      · rw [puts_t hw]; exact hput _ _ _ ih
  have hfold : ∀ p c (q : List Cp) (g : Lo), Q g → Q (q.foldl (fun g c' => addDr g e c'.1 p c (-1)) g) := by
    intro p c q
    induction q with
    | nil => intro g H; exact H
    | cons x q ih => intro g H; exact ih _ (h1 _ _ _ _ _ H)
  have hdel : ∀ p d (r : Ra), Q r.2 → Q (delA h p d r).2 := by
    intro p d
    induction d with
    | zero => intro r H; exact H
    | succ d ih => intro r H; exact ih _ (h2 _ _ _ H)
  rcases (show hKind h e = 0 ∨ hKind h e = 1 ∨ hKind h e = 2 ∨ hKind h e = 3 by omega) with hk0 | hk0 | hk0 | hk0
  · rw [step_0 hk0]
    unfold arriveA
    split
    · exact h1 _ _ _ _ _ H
    · split
      · exact h1 _ _ _ _ _ H
      · split
        · exact h1 _ _ _ _ _ H
        · simp only
          split
          · split
            · exact h1 _ _ _ _ _ H
            · exact hputs _ _ _ _ H
          · split
            · exact h1 _ _ _ _ _ H
            · exact hputs _ _ _ _ H
  · rw [step_1 hk0]
    have hdels : ∀ n, Q (delsA h l n r).1.2 := by
      intro n
      induction n with
      | zero => exact H
      | succ n ih =>
        cases hw : sUp (delsA h l n r).1.1 n
        · rw [dels_f hw]; exact ih
        · rw [dels_t hw]; exact hdel _ _ _ ih
    have hst : ∀ n (r : Ra), Q r.2 → Q (stalesA l e n r).2 := by
      intro n r H
      induction n with
      | zero => exact H
      | succ n ih => exact hfold _ _ _ _ ih
    exact hst _ _ (hdels _)
  · rw [step_2 hk0]; exact H
  · rw [step_3 hk0]; exact hfold _ _ _ _ H
/-- the drops that an event makes have its number and come last -/
theorem step_ev {h : Hi} {l : Li} {e : Nat} (hk : hKind h e ≤ 3) (r : Ra) : ∃ D, (stepA h l e r).1.2.1 = r.2.1 ++ D ∧ ∀ d, d ∈ D → d.1 = e :=
  log_keep (Q := fun g => ∃ D, g.1 = r.2.1 ++ D ∧ ∀ d, d ∈ D → d.1 = e) (fun g k port c d ⟨D, e1, e2⟩ => ⟨D ++ [(e, k, port, c, d)], by show g.1 ++ [_] = _; rw [e1, List.append_assoc], fun x hx => by
    rcases List.mem_append.mp hx with hx | hx
    · exact e2 x hx
    · rw [List.mem_singleton] at hx; rw [hx]⟩) (fun g k p H => H) (fun g k t v H => H) hk r ⟨[], (List.append_nil _).symm, fun d hd => (by cases hd)⟩
/-- from r on the events f, f + 1, .. -/
def runF (h : Hi) (l : Li) (out : Nat → Bool) (r : Ra) (f : Nat) : Nat → Ra
  | 0 => r
  | n + 1 => if out (f + n) then runF h l out r f n else (stepA h l (f + n) (runF h l out r f n)).1
theorem runF_A {h : Hi} {l : Li} {out : Nat → Bool} {f : Nat} : ∀ n, runF h l out (runA h l out f) f n = runA h l out (f + n)
  | 0 => rfl
  | n + 1 => by
    show (if out (f + n) then _ else _) = (if out (f + n) then _ else _)
    rw [runF_A n]
    rfl
theorem run_ext {h : Hi} {l : Li} {out out' : Nat → Bool} : ∀ n, (∀ k, k < n → out k = out' k) → runA h l out n = runA h l out' n
  | 0, _ => rfl
  | n + 1, he => by
    have g := run_ext (h := h) (l := l) n fun k hk => he k (by omega)
    unfold runA
    rw [he n (by omega), g]
theorem lr_run {h : Hi} {l : Li} {out : Nat → Bool} {f : Nat} {r r' : Ra} (H : lr P r r') : ∀ n, (∀ e, e < f + n → hKind h e ≤ 3) → lr P (runF h l out r f n) (runF h l out r' f n)
  | 0, _ => H
  | n + 1, hk => by
    have g := lr_run (l := l) (out := out) (f := f) H n fun e he => hk e (by omega)
    unfold runF
    split
    · exact g
    · exact (lr_step g (hk (f + n) (by omega))).1
/-- a replay from a state with an empty log -/
theorem replay {h : Hi} {l : Li} {out : Nat → Bool} {f n : Nat} (hk : ∀ e, e < f + n → hKind h e ≤ 3) : lr (runA h l out f).2.1 (runA h l out (f + n)) (runF h l out ((runA h l out f).1, lo0) f n) := by
  rw [← runF_A]
  exact lr_run (r := runA h l out f) (r' := ((runA h l out f).1, lo0)) ⟨rfl, (List.append_nil _).symm⟩ n hk
/-- the drops of a run: those of the first events first -/
theorem run_pre {h : Hi} {l : Li} {out : Nat → Bool} {f : Nat} : ∀ n, (∀ e, e < f + n → hKind h e ≤ 3) → ∃ D, (runA h l out (f + n)).2.1 = (runA h l out f).2.1 ++ D ∧ ∀ d, d ∈ D → f ≤ d.1 ∧ d.1 < f + n
  | 0, _ => ⟨[], (List.append_nil _).symm, fun d hd => (by cases hd)⟩
  | n + 1, hk => by
    obtain ⟨D, e1, e2⟩ := run_pre (l := l) (out := out) (f := f) n fun e he => hk e (by omega)
    rw [show f + (n + 1) = f + n + 1 from rfl]
    cases ho : out (f + n) with
    | true =>
      rw [run_o ho]
      exact ⟨D, e1, fun d hd => ⟨(e2 d hd).1, by have := (e2 d hd).2; omega⟩⟩
    | false =>
      rw [run_s ho]
      obtain ⟨D', g1, g2⟩ := step_ev (l := l) (hk (f + n) (by omega)) (runA h l out (f + n))
      refine ⟨D ++ D', by rw [g1, e1, List.append_assoc], fun d hd => ?_⟩
      rcases List.mem_append.mp hd with hd | hd
      · exact ⟨(e2 d hd).1, by have := (e2 d hd).2; omega⟩
      · have := g2 d hd; omega
theorem run_ev {h : Hi} {l : Li} {out : Nat → Bool} {n : Nat} (hk : ∀ e, e < n → hKind h e ≤ 3) : ∀ d, d ∈ (runA h l out n).2.1 → d.1 < n := by
  obtain ⟨D, e1, e2⟩ := run_pre (h := h) (l := l) (out := out) (f := 0) n (by rw [Nat.zero_add]; exact hk)
  rw [Nat.zero_add] at e1 e2
  intro d hd
  rw [e1] at hd
  have hd2 : d ∈ D := by simpa [runA, beginA] using hd
  exact (e2 d hd2).2
/-- drop (k, P) is among the drops -/
def has (g : List Dr) (k : Nat) (P : Int) : Prop := ∃ d, d ∈ g ∧ d.2.1 = k ∧ d.2.2.1 = P
theorem has_fate {m : Nat} {r : Ra} (H : uq m r) {k : Nat} {P : Int} (hP : -1 ≤ P) : r.2.2.1 k (P + 1).toNat = 3 ↔ has r.2.1 k P := H.2.2.2.1 k P hP
end RPL
