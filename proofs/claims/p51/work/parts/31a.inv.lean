/-! what stays true of a run -/
def okLi (l : Li) : Prop := lPorts l ≤ 4 ∧ lRules l ≤ 8 ∧ (∀ p, p < lPorts l → lCap l p ≤ 99 ∧ lSpeed l p ≤ 99) ∧ (∀ p r b, lPol l p = some (r, b) → r ≤ 99 ∧ b ≤ 99) ∧ lBuf l ≤ 400 ∧ lWait l ≤ 99 ∧ lAge l ≤ 999
def qlen (A : Sa) : Nat := (sQ A 0).length + (sQ A 1).length + (sQ A 2).length + (sQ A 3).length
def dsum (g : Lo) : Nat := g.2.2 0 + g.2.2 1 + g.2.2 2 + g.2.2 3
def tot (r : Ra) : Nat := r.2.1.length + qlen r.1 + dsum r.2
/-- copies are of the first np packets, for ports of l, no younger than the time; queues are not too full; of drops, deliveries and copies together there are u at most -/
def okR (h : Hi) (l : Li) (np u : Nat) (r : Ra) : Prop :=
  (∀ p c, c ∈ sQ r.1 p → p < lPorts l ∧ c.1 < np ∧ c.2 ≤ sTime r.1) ∧ (∀ p, fillP h r.1 p ≤ 99) ∧ tot r ≤ u
theorem four {p : Nat} (h : p < 4) : p = 0 ∨ p = 1 ∨ p = 2 ∨ p = 3 := by omega
theorem qlen_set {A : Sa} {p : Nat} {q : List Cp} (hp : p < 4) : qlen (setQ A p q) + (sQ A p).length = qlen A + q.length := by
  unfold qlen
  rcases four hp with rfl | rfl | rfl | rfl <;> simp only [sQ_set] <;> simp <;> omega
theorem dsum_add {g : Lo} {k p : Nat} (hp : p < 4) : dsum (addDel g k p) = dsum g + 1 := by
  unfold dsum addDel fu
  rcases four hp with rfl | rfl | rfl | rfl <;> simp <;> omega
theorem qlen_ge {A : Sa} {p : Nat} (hp : p < 4) : (sQ A p).length ≤ qlen A := by
  unfold qlen
  rcases four hp with rfl | rfl | rfl | rfl <;> omega
theorem mem_g {q : List Cp} {i : Nat} (hi : i < q.length) : q.getD i (0, 0) ∈ q := by
  rw [List.getD_eq_getElem?_getD, List.getElem?_eq_getElem hi]
  exact List.getElem_mem hi
theorem len_fill {h : Hi} (ok : okHi h) : ∀ q : List Cp, q.length ≤ fillQ h q
  | [] => Nat.le_refl _
  | c :: r => by
    have h1 := len_fill ok r
    have h2 := (ok c.1).2.1
    show r.length + 1 ≤ hSiz h c.1 + fillQ h r
    omega
theorem setQ_set {A : Sa} {p : Nat} {q q' : List Cp} : setQ (setQ A p q) p q' = setQ A p q' := by
  unfold setQ fu
  simp only
  congr 4
  funext x
  by_cases hx : x = p
  · rw [if_pos hx, if_pos hx]
  · rw [if_neg hx, if_neg hx, if_neg hx]
theorem setQ_id {A : Sa} {p : Nat} : setQ A p (sQ A p) = A := by
  unfold setQ fu
  have e : (fun x => if x = p then sQ A p else A.2.2.2.1 x) = A.2.2.2.1 := by
    funext x
    by_cases hx : x = p
    · rw [if_pos hx, hx]; rfl
    · rw [if_neg hx]
  rw [e]
section INV
variable {h : Hi} {l : Li} {np u : Nat} {r : Ra}
theorem ok_hq (H : okR h l np u r) {p : Nat} : ∀ k, k < (sQ r.1 p).length → ((sQ r.1 p).getD k (0, 0)).1 < np := fun k hk => (H.1 p _ (mem_g hk)).2.1
theorem ok_len (H : okR h l np u r) (ok : okHi h) (p : Nat) : (sQ r.1 p).length ≤ 99 := Nat.le_trans (len_fill ok _) (H.2.1 p)
theorem ok_lt (H : okR h l np u r) {p : Nat} (hp : p < 4) : r.2.1.length + (sQ r.1 p).length ≤ u := by
  have h1 := H.2.2
  have h2 := qlen_ge (A := r.1) hp
  unfold tot at h1
  omega
theorem ok_dl (H : okR h l np u r) {p : Nat} (hp : p < 4) : r.2.2.2 p + (sQ r.1 p).length ≤ u := by
  have h1 := H.2.2
  have h2 := qlen_ge (A := r.1) hp
  unfold tot dsum at h1
  rcases four hp with rfl | rfl | rfl | rfl <;> omega
theorem ok_le {v : Nat} (H : okR h l np u r) (huv : u ≤ v) : okR h l np v r := ⟨H.1, H.2.1, Nat.le_trans H.2.2 huv⟩
theorem ok_np {v : Nat} (H : okR h l np u r) (huv : np ≤ v) : okR h l v u r := ⟨fun p c hc => ⟨(H.1 p c hc).1, Nat.lt_of_lt_of_le (H.1 p c hc).2.1 huv, (H.1 p c hc).2.2⟩, H.2.1, H.2.2⟩
/-- a queue loses a copy -/
theorem ok_er (H : okR h l np u r) {p i : Nat} (hp : p < 4) (hi : i < (sQ r.1 p).length) {g : Lo} (hg : g.1.length + dsum g = r.2.1.length + dsum r.2 + 1) : okR h l np u (setQ r.1 p ((sQ r.1 p).eraseIdx i), g) := by
  refine ⟨fun x c hc => ?_, fun x => ?_, ?_⟩
  · change c ∈ sQ (setQ r.1 p _) x at hc
    rw [sQ_set] at hc
    by_cases hx : x = p
    · rw [if_pos hx] at hc
      rw [hx]
      exact H.1 p c (List.mem_of_mem_eraseIdx hc)
    · rw [if_neg hx] at hc
      exact H.1 x c hc
  · show fillQ h (sQ (setQ r.1 p _) x) ≤ 99
    rw [sQ_set]
    by_cases hx : x = p
    · rw [if_pos hx]
      have h1 := fillQ_er (h := h) hi
      have h2 : fillQ h (sQ r.1 p) ≤ 99 := H.2.1 p
      omega
    · rw [if_neg hx]
      exact H.2.1 x
  · have h1 := H.2.2
    have h2 := qlen_set (A := r.1) (q := (sQ r.1 p).eraseIdx i) hp
    have h3 := len_e hi
    unfold tot at h1 ⊢
    simp only
    omega
theorem ok_out (H : okR h l np u r) {e p i c : Nat} {d : Int} (hp : p < 4) (hi : i < (sQ r.1 p).length) : okR h l np u (outDr e p i c d r) :=
  ok_er H hp hi (by
    show (r.2.1 ++ [_]).length + dsum r.2 = _
    rw [List.length_append]
    show r.2.1.length + 1 + dsum r.2 = _
    omega)
theorem ok_del (H : okR h l np u r) {p i k : Nat} (hp : p < 4) (hi : i < (sQ r.1 p).length) : okR h l np u (setQ r.1 p ((sQ r.1 p).eraseIdx i), addDel r.2 k p) :=
  ok_er H hp hi (by
    rw [dsum_add hp]
    show r.2.1.length + _ = _
    omega)
theorem ok_dr (H : okR h l np u r) {e k c : Nat} {port d : Int} : okR h l np (u + 1) (r.1, addDr r.2 e k port c d) := by
  refine ⟨H.1, H.2.1, ?_⟩
  have h1 := H.2.2
  unfold tot at h1 ⊢
  show (r.2.1 ++ [_]).length + qlen r.1 + dsum r.2 ≤ _
  rw [List.length_append]
  show r.2.1.length + 1 + _ + _ ≤ _
  omega
theorem ok_put (H : okR h l np u r) {e k p : Nat} (hl : lPorts l ≤ 4) (hp : p < lPorts l) (hk : k < np) (hf : fillP h r.1 p + hSiz h k ≤ 99) : okR h l np (u + 1) (putEnd e k p r) := by
  refine ⟨fun x c hc => ?_, fun x => ?_, ?_⟩
  · change c ∈ sQ (setQ r.1 p _) x at hc
    rw [sQ_set] at hc
    by_cases hx : x = p
    · rw [if_pos hx, List.mem_append] at hc
      rw [hx]
      rcases hc with hc | hc
      · exact H.1 p c hc
      · rw [List.mem_singleton] at hc
        rw [hc]
        exact ⟨hp, hk, Nat.le_refl _⟩
    · rw [if_neg hx] at hc
      exact H.1 x c hc
  · show fillQ h (sQ (setQ r.1 p _) x) ≤ 99
    rw [sQ_set]
    by_cases hx : x = p
    · rw [if_pos hx, fillQ_app]
      exact hf
    · rw [if_neg hx]
      exact H.2.1 x
  · have h1 := H.2.2
    have h2 := qlen_set (A := r.1) (q := sQ r.1 p ++ [(k, sTime r.1)]) (Nat.lt_of_lt_of_le hp hl)
    rw [List.length_append] at h2
    unfold tot at h1 ⊢
    show r.2.1.length + qlen (setQ r.1 p _) + dsum r.2 ≤ _
    have h3 : ([(k, sTime r.1)] : List Cp).length = 1 := rfl
    omega
/-- pushing makes room -/
theorem push_ok (ok : okHi h) {cap siz e k p z : Nat} (hp : p < 4) : ∀ n (r : Ra), okR h l np u r → (sQ r.1 p).length = n → fillP h r.1 p + siz ≤ cap + belowQ h z (sQ r.1 p) → okR h l np u (pushA h cap siz e k p n r) ∧ fillP h (pushA h cap siz e k p n r).1 p + siz ≤ cap
  | 0, r, H, hn, hb => by
    have e : sQ r.1 p = [] := List.eq_nil_of_length_eq_zero hn
    rw [e] at hb
    exact ⟨H, hb⟩
  | n + 1, r, H, hn, hb => by
    unfold pushA
    by_cases hc : fillP h r.1 p + siz ≤ cap
    · rw [if_pos hc]; exact ⟨H, hc⟩
    · rw [if_neg hc]
      have hi : loK (rkQ h (sQ r.1 p)) (sQ r.1 p).length < (sQ r.1 p).length := loK_lt _ _ (by omega)
      refine push_ok (z := z) ok hp n _ (ok_out H hp hi) ?_ ?_
      · show (sQ (setQ r.1 p _) p).length = n
        rw [sQ_set, if_pos rfl, len_e hi]
        omega
      · show fillQ h (sQ (setQ r.1 p _) p) + siz ≤ cap + belowQ h z (sQ (setQ r.1 p _) p)
        rw [sQ_set, if_pos rfl]
        have h1 := fillQ_er (h := h) hi
        have h2 := below_er (h := h) (z := z) hi
        have h3 : rkQ h (sQ r.1 p) (loK (rkQ h (sQ r.1 p)) (sQ r.1 p).length) < z := by
          refine Nat.lt_of_not_le fun h4 => hc ?_
          have h5 : belowQ h z (sQ r.1 p) = 0 := below_0 fun i hi => Nat.le_trans h4 (loK_le _ _ _ hi)
          omega
        have h6 : hRnk h ((sQ r.1 p).getD (loK (rkQ h (sQ r.1 p)) (sQ r.1 p).length) (0, 0)).1 < z := h3
        rw [if_pos h6] at h2
        have h7 : fillP h r.1 p = fillQ h (sQ r.1 p) := rfl
        omega
where
  below_er {h : Hi} {z : Nat} {q : List Cp} {i : Nat} (hi : i < q.length) : belowQ h z (q.eraseIdx i) + (if hRnk h (q.getD i (0, 0)).1 < z then hSiz h (q.getD i (0, 0)).1 else 0) = belowQ h z q := by
    induction q generalizing i with
    | nil => cases hi
    | cons a r ih => cases i with
      | zero =>
        show belowQ h z r + (if hRnk h a.1 < z then hSiz h a.1 else 0) = (if hRnk h a.1 < z then hSiz h a.1 else 0) + belowQ h z r
        omega
      | succ i =>
        have := ih (i := i) (by simpa using hi)
        show (if hRnk h a.1 < z then hSiz h a.1 else 0) + belowQ h z (r.eraseIdx i) + (if hRnk h (r.getD i (0, 0)).1 < z then hSiz h (r.getD i (0, 0)).1 else 0) = (if hRnk h a.1 < z then hSiz h a.1 else 0) + belowQ h z r
        omega
  below_0 {h : Hi} {z : Nat} {q : List Cp} (hq : ∀ i, i < q.length → z ≤ rkQ h q i) : belowQ h z q = 0 := by
    induction q with
    | nil => rfl
    | cons a r ih =>
      have h1 := ih fun i hi => hq (i + 1) (by simpa using hi)
      have h2 : z ≤ hRnk h a.1 := hq 0 (by simp)
      show (if hRnk h a.1 < z then hSiz h a.1 else 0) + belowQ h z r = 0
      rw [if_neg (by omega), h1]
/-- a copy is put, or dropped -/
theorem putA_ok (ok : okHi h) (okl : okLi l) {e k p : Nat} (hp : p < lPorts l) (hk : k < np) (H : okR h l np u r) : okR h l np (u + 1) (putA h l e k p r).1 := by
  have hl := okl.1
  have hc := (okl.2.2.1 p hp).1
  unfold putA
  by_cases h1 : lBuf l < fillAll h (lPorts l) r.1 + hSiz h k
  · rw [if_pos h1]; exact ok_dr H
  · rw [if_neg h1]
    by_cases h2 : lCap l p + belowQ h (hRnk h k) (sQ r.1 p) < fillP h r.1 p + hSiz h k
    · rw [if_pos h2]; exact ok_dr H
    · rw [if_neg h2]
      obtain ⟨h3, h4⟩ := push_ok (cap := lCap l p) (siz := hSiz h k) (e := e) (k := k) (z := hRnk h k) ok (Nat.lt_of_lt_of_le hp hl) _ r H rfl (Nat.le_of_not_lt h2)
      exact ok_put (e := e) h3 hl hp hk (Nat.le_trans h4 hc)
/-- how many of the first n ways are open -/
def ways (way : Nat → Bool) : Nat → Nat
  | 0 => 0
  | n + 1 => ways way n + if way n then 1 else 0
theorem putsA_ok (ok : okHi h) (okl : okLi l) {e k : Nat} {way : Nat → Bool} (hk : k < np) (H : okR h l np u r) : ∀ n, n ≤ lPorts l → okR h l np (u + ways way n) (putsA h l e k way n r).1
  | 0, _ => H
  | n + 1, hn => by
    have h1 := putsA_ok ok okl (e := e) (way := way) hk H n (by omega)
    unfold putsA ways
    by_cases hw : way n = true
    · simp only [hw, if_true]
      have h2 := putA_ok ok okl (e := e) (p := n) (by omega) hk h1
      exact h2
    · simp only [hw]
      exact h1
/-- the ways are three at most if one is none -/
theorem ways_le {way : Nat → Bool} {p : Nat} (hw : way p = false) : ∀ n, ways way n ≤ n ∧ (p < n → ways way n + 1 ≤ n)
  | 0 => ⟨Nat.le_refl _, fun h => absurd h (Nat.not_lt_zero _)⟩
  | n + 1 => by
    have h1 := ways_le hw n
    unfold ways
    refine ⟨?_, fun hp => ?_⟩
    · have := h1.1
      split <;> omega
    · by_cases hpn : p = n
      · subst hpn
        rw [hw]
        have := h1.1
        simp only [if_neg (Bool.false_ne_true)]
        omega
      · have := h1.2 (by omega)
        split <;> omega
theorem ways_1 {w : Nat} : ∀ n, ways (fun o => o == w) n ≤ if w < n then 1 else 0
  | 0 => by unfold ways; omega
  | n + 1 => by
    have h1 := ways_1 (w := w) n
    unfold ways
    by_cases hw : n = w
    · subst hw
      rw [if_neg (by omega)] at h1
      simp only [beq_self_eq_true, if_true]
      rw [if_pos (by omega)]
      omega
    · have e : (n == w) = false := by simpa using hw
      show ways (fun o => o == w) n + (if (n == w) = true then 1 else 0) ≤ _
      rw [e, if_neg Bool.false_ne_true]
      by_cases h2 : w < n
      · rw [if_pos h2] at h1
        rw [if_pos (show w < n + 1 by omega)]
        omega
      · rw [if_neg h2] at h1
        rw [if_neg (show ¬ w < n + 1 by omega)]
        omega
end INV
