/-! a capacity that was never in the way -/
/-- l' is l but for a capacity at P that is no less -/
def capUp (P : Nat) (l l' : Li) : Prop := l'.1 = l.1 ∧ (∀ p, lSpeed l' p = lSpeed l p) ∧ (∀ p, p ≠ P → lCap l' p = lCap l p) ∧ lCap l P ≤ lCap l' P ∧ l'.2.2 = l.2.2
def nocr (P : Nat) (g : List Dr) : Prop := ∀ d, d ∈ g → d.2.2.1 = (P : Int) → d.2.2.2.1 ≠ 7 ∧ d.2.2.2.1 ≠ 8
theorem nocr_l {P : Nat} {g D : List Dr} (H : nocr P (g ++ D)) : nocr P g := fun d hd => H d (List.mem_append.mpr (Or.inl hd))
theorem push_pre {h : Hi} {cap siz e k p : Nat} : ∀ n (r : Ra), ∃ D, (pushA h cap siz e k p n r).2.1 = r.2.1 ++ D
  | 0, r => ⟨[], (List.append_nil _).symm⟩
  | n + 1, r => by
    unfold pushA
    split
    · exact ⟨[], (List.append_nil _).symm⟩
    · obtain ⟨D, hD⟩ := push_pre (h := h) (cap := cap) (siz := siz) (e := e) (k := k) (p := p) n (outDr e p (loK (rkQ h (sQ r.1 p)) (sQ r.1 p).length) 8 k r)
      refine ⟨[(e, ((sQ r.1 p).getD (loK (rkQ h (sQ r.1 p)) (sQ r.1 p).length) (0, 0)).1, ((p : Nat) : Int), 8, (k : Int))] ++ D, ?_⟩
      rw [hD, ← List.append_assoc]
      rfl
theorem putA_pre {h : Hi} {l : Li} {e k p : Nat} (r : Ra) : ∃ D, (putA h l e k p r).1.2.1 = r.2.1 ++ D := by
  unfold putA
  split
  · exact ⟨_, rfl⟩
  · split
    · exact ⟨_, rfl⟩
    · exact push_pre _ _
theorem putsA_pre {h : Hi} {l : Li} {e k : Nat} {way : Nat → Bool} {r : Ra} (n : Nat) : ∃ D, (putsA h l e k way (n + 1) r).1.2.1 = (putsA h l e k way n r).1.2.1 ++ D := by
  cases hw : way n
  · rw [puts_f hw]; exact ⟨[], (List.append_nil _).symm⟩
  · rw [puts_t hw]; exact putA_pre _
section CAP
variable {h : Hi} {l l' : Li} {P : Nat}
theorem cu_ports (C : capUp P l l') : lPorts l' = lPorts l := by unfold lPorts; rw [C.1]
theorem cu_rest (C : capUp P l l') : lPol l' = lPol l ∧ lBuf l' = lBuf l ∧ lWait l' = lWait l ∧ lAge l' = lAge l ∧ lDrop l' = lDrop l ∧ lIdle l' = lIdle l ∧ lRules l' = lRules l := by
  unfold lPol lBuf lWait lAge lRules
  rw [C.2.2.2.2, C.1]
  refine ⟨rfl, rfl, rfl, rfl, ?_, ?_, rfl⟩
  · funext x; unfold lDrop; rw [C.2.2.2.2]
  · funext x; unfold lIdle; rw [C.2.2.2.2]
theorem putA_cu (C : capUp P l l') {e k p : Nat} {r : Ra} (hn : nocr P (putA h l e k p r).1.2.1) : putA h l' e k p r = putA h l e k p r := by
  obtain ⟨_, c2, _, _, _, _, _⟩ := cu_rest C
  by_cases hp : p = P
  · subst hp
    have hcap := C.2.2.2.1
    unfold putA at hn ⊢
    rw [cu_ports C, c2]
    by_cases h1 : lBuf l < fillAll h (lPorts l) r.1 + hSiz h k
    · rw [if_pos h1, if_pos h1]
    · rw [if_neg h1] at hn
      rw [if_neg h1, if_neg h1]
      by_cases h2 : lCap l p + belowQ h (hRnk h k) (sQ r.1 p) < fillP h r.1 p + hSiz h k
      · rw [if_pos h2] at hn
        have := hn (e, k, ((p : Nat) : Int), 7, -1) (List.mem_append.mpr (Or.inr (List.mem_singleton.mpr rfl))) rfl
        exact absurd rfl this.1
      · rw [if_neg h2] at hn
        rw [if_neg h2, if_neg (by omega)]
        by_cases h3 : fillP h r.1 p + hSiz h k ≤ lCap l p
        · rw [push_stop h3, push_stop (Nat.le_trans h3 hcap)]
        · exfalso
          have hlen : (sQ r.1 p).length ≠ 0 := fun q => by
            have e0 := List.eq_nil_of_length_eq_zero q
            rw [e0] at h2
            exact h3 (Nat.le_of_not_lt h2)
          obtain ⟨n, hn2⟩ : ∃ n, (sQ r.1 p).length = n + 1 := ⟨(sQ r.1 p).length - 1, by omega⟩
          obtain ⟨D, hD⟩ := push_pre (h := h) (cap := lCap l p) (siz := hSiz h k) (e := e) (k := k) (p := p) n (outDr e p (loK (rkQ h (sQ r.1 p)) (sQ r.1 p).length) 8 k r)
          have hn3 : nocr p (pushA h (lCap l p) (hSiz h k) e k p (sQ r.1 p).length r).2.1 := hn
          rw [show pushA h (lCap l p) (hSiz h k) e k p (sQ r.1 p).length r = pushA h (lCap l p) (hSiz h k) e k p (n + 1) r by rw [hn2], push_go h3, hD] at hn3
          have hn4 : nocr p (r.2.1 ++ [(e, ((sQ r.1 p).getD (loK (rkQ h (sQ r.1 p)) (sQ r.1 p).length) (0, 0)).1, ((p : Nat) : Int), 8, (k : Int))]) := nocr_l hn3
          have := hn4 _ (List.mem_append.mpr (Or.inr (List.mem_singleton.mpr rfl))) rfl
          exact absurd rfl this.2
  · have hcap := C.2.2.1 p hp
    unfold putA
    rw [cu_ports C, c2, hcap]
theorem putsA_cu (C : capUp P l l') {e k : Nat} {way : Nat → Bool} {r : Ra} : ∀ n, nocr P (putsA h l e k way n r).1.2.1 → putsA h l' e k way n r = putsA h l e k way n r
  | 0, _ => rfl
  | n + 1, hn => by
    obtain ⟨D, hD⟩ := putsA_pre (h := h) (l := l) (e := e) (k := k) (way := way) (r := r) n
    have g := putsA_cu C (e := e) (k := k) (way := way) (r := r) n (by rw [hD] at hn; exact nocr_l hn)
    cases hw : way n
    · rw [puts_f hw, puts_f hw]; exact g
    · rw [puts_t hw] at hn
      rw [puts_t hw, puts_t hw, g, putA_cu C hn]
theorem arrive_cu (C : capUp P l l') {e p k : Nat} {r : Ra} (hn : nocr P (arriveA h l e p k r).1.2.1) : arriveA h l' e p k r = arriveA h l e p k r := by
  obtain ⟨c1, c2, c3, c4, c5, c6, c7⟩ := cu_rest C
  have e1 : ruleA h l' k = ruleA h l k := by unfold ruleA; rw [c7, c6]
  have e2 : ∀ s p' z, policeA l' s p' z = policeA l s p' z := by intro s p' z; unfold policeA; rw [c1]
  have e3 : ∀ s b, validA l' s b = validA l s b := by intro s b; unfold validA; rw [c4]
  unfold arriveA at hn ⊢
  rw [e1, c5, e2, cu_ports C]
  simp only [e3]
  split
  · rfl
  · rename_i hu
    rw [if_neg hu] at hn
    split
    · rfl
    · rename_i hr
      rw [hr] at hn
      simp only at hn
      split
      · rfl
      · rename_i s1 hs
        rw [hs] at hn
        simp only at hn
        split
        · rename_i w hw
          rw [hw] at hn
          simp only at hn
          split
          · rfl
          · rename_i hwp
            rw [if_neg hwp] at hn
            exact putsA_cu C _ hn
        · rename_i hw
          rw [hw] at hn
          simp only at hn
          split
          · rfl
          · rename_i hall
            rw [if_neg hall] at hn
            exact putsA_cu C _ hn
theorem dels_cu (C : capUp P l l') {r : Ra} : ∀ n, delsA h l' n r = delsA h l n r
  | 0 => rfl
  | n + 1 => by
    unfold delsA
    rw [dels_cu C n, C.2.1 n]
theorem stales_cu (C : capUp P l l') {e : Nat} {r : Ra} : ∀ n, stalesA l' e n r = stalesA l e n r
  | 0 => rfl
  | n + 1 => by
    have e1 : isStale l' = isStale l := by funext s c; unfold isStale; rw [(cu_rest C).2.2.1]
    unfold stalesA staleA
    rw [stales_cu C n, e1]
theorem step_cu (C : capUp P l l') {e : Nat} {r : Ra} (h3 : hKind h e ≤ 3) (hn : nocr P (stepA h l e r).1.2.1) : stepA h l' e r = stepA h l e r := by
  rcases (show hKind h e = 0 ∨ hKind h e = 1 ∨ hKind h e = 2 ∨ hKind h e = 3 by omega) with hk0 | hk0 | hk0 | hk0
  · rw [step_0 hk0] at hn
    rw [step_0 hk0, step_0 hk0]
    exact arrive_cu C hn
  · rw [step_1 hk0, step_1 hk0]
    have e1 : ∀ s, refillA l' s = refillA l s := by intro s; unfold refillA; rw [(cu_rest C).1, cu_ports C]
    unfold tickA
    rw [cu_ports C, dels_cu C]
    simp only [stales_cu C, e1]
  · rw [step_2 hk0, step_2 hk0]
  · rw [step_3 hk0, step_3 hk0]
theorem begin_cu (C : capUp P l l') : beginA l' = beginA l := by
  unfold beginA
  rw [(cu_rest C).1]
theorem run_cu (C : capUp P l l') {out : Nat → Bool} : ∀ n, (∀ e, e < n → hKind h e ≤ 3) → nocr P (runA h l out n).2.1 → runA h l' out n = runA h l out n
  | 0, _, _ => begin_cu C
  | n + 1, hk, hn => by
    cases ho : out n with
    | true =>
      rw [run_o ho] at hn
      rw [run_o ho, run_o ho]
      exact run_cu C n (fun e he => hk e (by omega)) hn
    | false =>
      rw [run_s ho] at hn
      have hn0 : nocr P (runA h l out n).2.1 := by
        obtain ⟨D, hD, _⟩ := step_ev (l := l) (hk n (by omega)) (runA h l out n)
        rw [hD] at hn
        exact nocr_l hn
      rw [run_s ho, run_s ho, run_cu C n (fun e he => hk e (by omega)) hn0, step_cu C (hk n (by omega)) hn]
end CAP
