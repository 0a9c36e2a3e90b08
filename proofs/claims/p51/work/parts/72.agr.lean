/-! histories that agree so far have the same runs -/
def agH (h h' : Hi) (m : Nat) : Prop := ∀ k, k < m → hSiz h' k = hSiz h k ∧ hRnk h' k = hRnk h k ∧ hSrc h' k = hSrc h k ∧ hTgt h' k = hTgt h k ∧ ∀ r, hHol h' k r = hHol h k r
theorem loK_cg {f f' : Nat → Nat} : ∀ n, (∀ i, i < n → f' i = f i) → loK f' n = loK f n
  | 0, _ => rfl
  | n + 1, he => by
    have ih := loK_cg n fun i hi => he i (by omega)
    show (if n = 0 then 0 else if f' n ≤ f' (loK f' n) then n else loK f' n) = (if n = 0 then 0 else if f n ≤ f (loK f n) then n else loK f n)
    by_cases hn : n = 0
    · rw [if_pos hn, if_pos hn]
    · rw [if_neg hn, if_neg hn, ih, he n (by omega), he (loK f n) (by have := loK_lt f n (by omega); omega)]
theorem hiK_cg {f f' : Nat → Nat} : ∀ n, (∀ i, i < n → f' i = f i) → hiK f' n = hiK f n
  | 0, _ => rfl
  | n + 1, he => by
    have ih := hiK_cg n fun i hi => he i (by omega)
    show (if n = 0 then 0 else if f' (hiK f' n) < f' n then n else hiK f' n) = (if n = 0 then 0 else if f (hiK f n) < f n then n else hiK f n)
    by_cases hn : n = 0
    · rw [if_pos hn, if_pos hn]
    · rw [if_neg hn, if_neg hn, ih, he n (by omega), he (hiK f n) (by have := hiK_lt f n (by omega); omega)]
section AGR
variable {h h' : Hi} {m : Nat}
theorem fillQ_ag (A : agH h h' m) : ∀ q : List Cp, (∀ c, c ∈ q → c.1 < m) → fillQ h' q = fillQ h q
  | [], _ => rfl
  | c :: q, hq => by
    have ih := fillQ_ag A q fun c hc => hq c (List.mem_cons_of_mem _ hc)
    show hSiz h' c.1 + fillQ h' q = hSiz h c.1 + fillQ h q
    rw [ih, (A c.1 (hq c (List.mem_cons_self ..))).1]
theorem below_ag (A : agH h h' m) (z : Nat) : ∀ q : List Cp, (∀ c, c ∈ q → c.1 < m) → belowQ h' z q = belowQ h z q
  | [], _ => rfl
  | c :: q, hq => by
    have ih := below_ag A z q fun c hc => hq c (List.mem_cons_of_mem _ hc)
    have g := A c.1 (hq c (List.mem_cons_self ..))
    show (if hRnk h' c.1 < z then hSiz h' c.1 else 0) + belowQ h' z q = (if hRnk h c.1 < z then hSiz h c.1 else 0) + belowQ h z q
    rw [ih, g.1, g.2.1]
theorem rkQ_ag (A : agH h h' m) {q : List Cp} (hq : ∀ c, c ∈ q → c.1 < m) {i : Nat} (hi : i < q.length) : rkQ h' q i = rkQ h q i := (A _ (hq _ (mem_g hi))).2.1
def mq (m : Nat) (A : Sa) : Prop := ∀ p c, c ∈ sQ A p → c.1 < m
theorem mq_er {A : Sa} (M : mq m A) {p i : Nat} : mq m (setQ A p ((sQ A p).eraseIdx i)) := fun x c hc => by
  rw [sQ_set] at hc
  split at hc
  · exact M p c (List.mem_of_mem_eraseIdx hc)
  · exact M x c hc
theorem push_ag (A : agH h h' m) {cap siz e k p : Nat} : ∀ n (r : Ra), mq m r.1 → pushA h' cap siz e k p n r = pushA h cap siz e k p n r ∧ mq m (pushA h cap siz e k p n r).1
  | 0, r, M => ⟨rfl, M⟩
  | n + 1, r, M => by
    unfold pushA
    rw [show fillP h' r.1 p = fillP h r.1 p from fillQ_ag A _ (M p)]
    split
    · exact ⟨rfl, M⟩
    · rw [show loK (rkQ h' (sQ r.1 p)) (sQ r.1 p).length = loK (rkQ h (sQ r.1 p)) (sQ r.1 p).length from loK_cg _ fun i hi => rkQ_ag A (M p) hi]
      exact push_ag A n _ (mq_er M)
theorem fillAll_ag (A : agH h h' m) {n : Nat} {s : Sa} (M : mq m s) : fillAll h' n s = fillAll h n s := by
  unfold fillAll
  have e : fillP h' s = fillP h s := funext fun p => fillQ_ag A _ (M p)
  rw [e]
theorem putA_ag (A : agH h h' m) {l : Li} {e k p : Nat} {r : Ra} (M : mq m r.1) (hk : k < m) : putA h' l e k p r = putA h l e k p r ∧ mq m (putA h l e k p r).1.1 := by
  obtain ⟨a1, a2, _⟩ := A k hk
  unfold putA
  rw [fillAll_ag A M, a1, a2, below_ag A _ _ (M p), show fillP h' r.1 p = fillP h r.1 p from fillQ_ag A _ (M p)]
  split
  · exact ⟨rfl, M⟩
  · split
    · exact ⟨rfl, M⟩
    · obtain ⟨g1, g2⟩ := push_ag A (cap := lCap l p) (siz := hSiz h k) (e := e) (k := k) (p := p) (sQ r.1 p).length r M
      rw [g1]
      refine ⟨rfl, fun x c hc => ?_⟩
      change c ∈ sQ (setQ _ p _) x at hc
      rw [sQ_set] at hc
      split at hc
      · rcases List.mem_append.mp hc with hc | hc
        · exact g2 p c hc
        · rw [List.mem_singleton] at hc; rw [hc]; exact hk
      · exact g2 x c hc
theorem putsA_ag (A : agH h h' m) {l : Li} {e k : Nat} {way : Nat → Bool} {r : Ra} (M : mq m r.1) (hk : k < m) : ∀ n, putsA h' l e k way n r = putsA h l e k way n r ∧ mq m (putsA h l e k way n r).1.1
  | 0 => ⟨rfl, M⟩
  | n + 1 => by
    obtain ⟨g1, g2⟩ := putsA_ag A (l := l) (e := e) (way := way) M hk n
    cases hw : way n
    · rw [puts_f hw, puts_f hw]; exact ⟨g1, g2⟩
    · rw [puts_t hw, puts_t hw, g1]
      obtain ⟨k1, k2⟩ := putA_ag A (l := l) (e := e) (p := n) g2 hk
      rw [k1]
      exact ⟨rfl, k2⟩
theorem arrive_ag (A : agH h h' m) {l : Li} {e p k : Nat} {r : Ra} (M : mq m r.1) (hk : k < m) : arriveA h' l e p k r = arriveA h l e p k r := by
  obtain ⟨a1, a2, a3, a4, a5⟩ := A k hk
  have e1 : ruleA h' l k = ruleA h l k := by unfold ruleA; simp only [a5]
  unfold arriveA
  rw [e1, a1, a3, a4]
  split
  · rfl
  · split
    · rfl
    · split
      · rfl
      · rename_i s1 hs
        have hM : mq m (setTab s1 (hSrc h k) (some (p, sTime s1))) := by
          have hq : ∀ y, sQ s1 y = sQ r.1 y := by
            intro y
            unfold policeA at hs
            split at hs
            · injection hs with e; subst e; rfl
            · split at hs
              · cases hs
              · injection hs with e; subst e; rfl
          intro y c hc
          exact M y c (by rw [← hq]; exact hc)
        simp only
        split
        · split
          · rfl
          · exact (putsA_ag A (r := (setTab s1 (hSrc h k) (some (p, sTime s1)), r.2)) hM hk _).1
        · split
          · rfl
          · exact (putsA_ag A (r := (setTab s1 (hSrc h k) (some (p, sTime s1)), r.2)) hM hk _).1
theorem delA_ag (A : agH h h' m) {p : Nat} : ∀ d (r : Ra), mq m r.1 → delA h' p d r = delA h p d r ∧ mq m (delA h p d r).1
  | 0, r, M => ⟨rfl, M⟩
  | d + 1, r, M => by
    unfold delA
    rw [show hiK (rkQ h' (sQ r.1 p)) (sQ r.1 p).length = hiK (rkQ h (sQ r.1 p)) (sQ r.1 p).length from hiK_cg _ fun i hi => rkQ_ag A (M p) hi]
    exact delA_ag A d _ (mq_er M)
theorem dels_ag (A : agH h h' m) {l : Li} {r : Ra} (M : mq m r.1) : ∀ n, delsA h' l n r = delsA h l n r ∧ mq m (delsA h l n r).1.1
  | 0 => ⟨rfl, M⟩
  | n + 1 => by
    obtain ⟨g1, g2⟩ := dels_ag A (l := l) M n
    cases hw : sUp (delsA h l n r).1.1 n
    · rw [dels_f hw, dels_f (by rw [g1]; exact hw)]; exact ⟨g1, g2⟩
    · rw [dels_t hw, dels_t (by rw [g1]; exact hw), g1]
      obtain ⟨k1, k2⟩ := delA_ag A (p := n) (min (lSpeed l n) (sQ (delsA h l n r).1.1 n).length) _ g2
      rw [k1]
      exact ⟨rfl, k2⟩
/-- the event e is the same -/
def agE (h h' : Hi) (e : Nat) : Prop := hKind h' e = hKind h e ∧ hPort h' e = hPort h e ∧ (hKind h e = 0 → hPk h' e = hPk h e)
theorem step_ag (A : agH h h' m) {l : Li} {e : Nat} {r : Ra} (M : mq m r.1) (E : agE h h' e) (hk : hKind h e = 0 → hPk h e < m) (h3 : hKind h e ≤ 3) : stepA h' l e r = stepA h l e r := by
  obtain ⟨e1, e2, e3⟩ := E
  rcases (show hKind h e = 0 ∨ hKind h e = 1 ∨ hKind h e = 2 ∨ hKind h e = 3 by omega) with hk0 | hk0 | hk0 | hk0
  · rw [step_0 hk0, step_0 (e1.trans hk0), e2, e3 hk0]
    exact arrive_ag A M (hk hk0)
  · rw [step_1 hk0, step_1 (e1.trans hk0)]
    unfold tickA
    rw [(dels_ag A (l := l) M (lPorts l)).1]
  · rw [step_2 hk0, step_2 (e1.trans hk0), e2]
  · rw [step_3 hk0, step_3 (e1.trans hk0), e2]
theorem run_ag {l : Li} {ne np n : Nat} (A : agH h h' np) (E : ∀ e, e < n → agE h h' e) (ok : okHi h) (okl : okLi l) (hev : okEv h l ne np) {out : Nat → Bool} : ∀ e, e ≤ n → e ≤ ne → runA h' l out e = runA h l out e
  | 0, _, _ => rfl
  | e + 1, h1, h2 => by
    have ih := run_ag A E ok okl hev (out := out) e (by omega) (by omega)
    have g := hev e (by omega)
    cases ho : out e with
    | true => rw [run_o ho, run_o ho]; exact ih
    | false =>
      rw [run_s ho, run_s ho, ih, step_ag A (fun p c hc => ((run_ok ok okl hev (out := out) e (by omega)).1.1 p c hc).2.1) (E e (by omega)) g.2.1 g.2.2]
end AGR
