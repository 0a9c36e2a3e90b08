/-! the reference's way through a condition, as a machine; it tells what condR tells -/
/-- go on with what was read -/
def bnd (r : PR (Nat × Cd)) (g : Nat → Cd → PR (Nat × Cd)) : PR (Nat × Cd) := match r with
  | .inl e => .inl e
  | .inr a => g a.1 a.2
def f78 (X : List Nat × Cd) : List Nat × Cd := flu 8 (flu 7 X.1 X.2).1 (flu 7 X.1 X.2).2
section MCH
variable (t : Nat → Int) (n : Nat)
def opG : Nat → Nat → List Nat → PR (Nat × List Nat)
  | 0, p, K => .inr (p, K)
  | d + 1, p, K => if isNest t n p then (if kW K = 5 then .inl (4, p) else opG d (nxt t n p) ((if isWL t n (strB 5) p then 6 else 9) :: K)) else .inr (p, K)
def clG : Nat → Nat → List Nat → Cd → Nat × List Nat × Cd
  | 0, p, K, C => (p, flu 6 K C)
  | d + 1, p, K, C => if kO (flu 6 K C).1 ≠ 0 ∧ isSg t n 41 p = true then clG d (nxt t n p) (f78 (flu 6 K C)).1.tail (f78 (flu 6 K C)).2 else (p, flu 6 K C)
def aG (f : Nat → List Nat → Cd → PR (Nat × Cd)) (p : Nat) (K : List Nat) (C : Cd) : PR (Nat × Cd) :=
  if isWL t n (strB 12) (clG t n (kO K) p K C).1 then f (nxt t n (clG t n (kO K) p K C).1) (7 :: (flu 7 (clG t n (kO K) p K C).2.1 (clG t n (kO K) p K C).2.2).1) (flu 7 (clG t n (kO K) p K C).2.1 (clG t n (kO K) p K C).2.2).2
  else if isWL t n (strB 13) (clG t n (kO K) p K C).1 then f (nxt t n (clG t n (kO K) p K C).1) (8 :: (f78 (clG t n (kO K) p K C).2).1) (f78 (clG t n (kO K) p K C).2).2
  else if kO (clG t n (kO K) p K C).2.1 ≠ 0 then .inl (1, (clG t n (kO K) p K C).1) else .inr ((clG t n (kO K) p K C).1, (f78 (clG t n (kO K) p K C).2).2)
def cdG (P : Ps) : Nat → Nat → List Nat → Cd → PR (Nat × Cd)
  | 0, p, _, C => .inr (p, C)
  | d + 1, p, K, C => match opG t n (6 - kW K) p K with
    | .inl e => .inl e
    | .inr (p1, K1) => match leafR t n P p1 with
      | .inl e => .inl e
      | .inr (p2, c) => aG t n (cdG P d) p2 K1 (C ++ [c])
end MCH
section MCP
variable {t : Nat → Int} {n : Nat}
theorem isNest_lt {p : Nat} (h : isNest t n p = true) : p < n := by
  unfold isNest at h
  rw [Bool.or_eq_true] at h
  rcases h with h | h
  · exact (isWL_nx (by decide) h).2
  · exact (isSg_iff.mp h).1
theorem opG_ok : ∀ d p K a, p ≤ n → opG t n d p K = .inr a → p ≤ a.1 ∧ a.1 ≤ n
  | 0, p, K, a, hp, h => by cases h; exact ⟨Nat.le_refl _, hp⟩
  | d + 1, p, K, a, hp, h => by
    unfold opG at h
    split at h
    · rename_i hn
      split at h
      · cases h
      · have h1 := opG_ok d _ _ a (nxt_le hp) h
        have h2 := nxt_ge (t := t) (n := n) (p := p)
        exact ⟨by omega, h1.2⟩
    · cases h; exact ⟨Nat.le_refl _, hp⟩
theorem clG_ok : ∀ d p K C, p ≤ n → p ≤ (clG t n d p K C).1 ∧ (clG t n d p K C).1 ≤ n
  | 0, p, K, C, hp => ⟨Nat.le_refl _, hp⟩
  | d + 1, p, K, C, hp => by
    unfold clG
    split
    · have h1 := clG_ok d (nxt t n p) (f78 (flu 6 K C)).1.tail (f78 (flu 6 K C)).2 (nxt_le hp)
      have h2 := nxt_ge (t := t) (n := n) (p := p)
      exact ⟨by omega, h1.2⟩
    · exact ⟨Nat.le_refl _, hp⟩
theorem aG_cong {f g : Nat → List Nat → Cd → PR (Nat × Cd)} {p : Nat} {K : List Nat} {C : Cd} (hp : p ≤ n) (h : ∀ q K C, p < q → q ≤ n → f q K C = g q K C) : aG t n f p K C = aG t n g p K C := by
  unfold aG
  have h1 := clG_ok (t := t) (kO K) p K C hp
  generalize clG t n (kO K) p K C = X at h1 ⊢
  by_cases hA : isWL t n (strB 12) X.1 = true
  · have h2 := isWL_nx (by decide) hA
    rw [if_pos hA, if_pos hA]
    exact h _ _ _ (by omega) (nxt_le h1.2)
  · rw [if_neg hA, if_neg hA]
    by_cases hO : isWL t n (strB 13) X.1 = true
    · have h2 := isWL_nx (by decide) hO
      rw [if_pos hO, if_pos hO]
      exact h _ _ _ (by omega) (nxt_le h1.2)
    · rw [if_neg hO, if_neg hO]
theorem cd_ir {P : Ps} (h4 : lPorts P.1 ≤ 4) : ∀ d d' p K C, p ≤ n → n + 1 ≤ p + d → n + 1 ≤ p + d' → cdG t n P d p K C = cdG t n P d' p K C
  | 0, d', p, K, C, hp, h1, h2 => by omega
  | d + 1, 0, p, K, C, hp, h1, h2 => by omega
  | d + 1, d' + 1, p, K, C, hp, h1, h2 => by
    unfold cdG
    cases ho : opG t n (6 - kW K) p K with
    | inl e => rfl
    | inr a =>
      obtain ⟨p1, K1⟩ := a
      have hk := opG_ok _ _ _ _ hp ho
      have hk1 : p ≤ p1 := hk.1
      have hk2 : p1 ≤ n := hk.2
      simp only []
      cases hl : leafR t n P p1 with
      | inl e => rfl
      | inr b =>
        obtain ⟨p2, c⟩ := b
        have hm := leafR_ok hk2 h4 hl
        have hm1 : p1 + 2 ≤ p2 := hm.1
        simp only []
        exact aG_cong hm.2.1 fun q K C hq hqn => cd_ir h4 d d' q K C hqn (by omega) (by omega)
def cE (t : Nat → Int) (n : Nat) (P : Ps) (p : Nat) (K : List Nat) (C : Cd) : PR (Nat × Cd) := cdG t n P (n + 1) p K C
def cA (t : Nat → Int) (n : Nat) (P : Ps) (p : Nat) (K : List Nat) (C : Cd) : PR (Nat × Cd) := aG t n (cE t n P) p K C
theorem cE_eq {P : Ps} (h4 : lPorts P.1 ≤ 4) {p : Nat} {K : List Nat} {C : Cd} (hp : p ≤ n) : cE t n P p K C = match opG t n (6 - kW K) p K with
    | .inl e => .inl e
    | .inr (p1, K1) => match leafR t n P p1 with
      | .inl e => .inl e
      | .inr (p2, c) => cA t n P p2 K1 (C ++ [c]) := by
  unfold cE
  rw [cdG]
  cases ho : opG t n (6 - kW K) p K with
  | inl e => rfl
  | inr a =>
    obtain ⟨p1, K1⟩ := a
    have hk := opG_ok _ _ _ _ hp ho
    have hk2 : p1 ≤ n := hk.2
    simp only []
    cases hl : leafR t n P p1 with
    | inl e => rfl
    | inr b =>
      obtain ⟨p2, c⟩ := b
      have hm := leafR_ok hk2 h4 hl
      have hm1 : p1 + 2 ≤ p2 := hm.1
      simp only []
      exact aG_cong hm.2.1 fun q K C hq hqn => cd_ir h4 n (n + 1) q K C hqn (by omega) (by omega)
theorem cE_leaf {P : Ps} (h4 : lPorts P.1 ≤ 4) {p : Nat} {K : List Nat} {C : Cd} (hp : p ≤ n) (hn : ¬ isNest t n p = true) : cE t n P p K C = match leafR t n P p with
      | .inl e => .inl e
      | .inr (p2, c) => cA t n P p2 K (C ++ [c]) := by
  rw [cE_eq h4 hp]
  have ho : opG t n (6 - kW K) p K = .inr (p, K) := by
    cases 6 - kW K with
    | zero => rfl
    | succ d => exact if_neg hn
  rw [ho]
theorem cE_4 {P : Ps} (h4 : lPorts P.1 ≤ 4) {p : Nat} {K : List Nat} {C : Cd} (hp : p ≤ n) (hn : isNest t n p = true) (h5 : kW K = 5) : cE t n P p K C = .inl (4, p) := by
  rw [cE_eq h4 hp, h5]
  have ho : opG t n (6 - 5) p K = .inl (4, p) := by
    show (if _ then _ else _) = _
    rw [if_pos hn, if_pos h5]
  rw [ho]
theorem cE_n {P : Ps} (h4 : lPorts P.1 ≤ 4) {p x : Nat} {K : List Nat} {C : Cd} (hp : p ≤ n) (hn : isNest t n p = true) (h5 : kW K < 5) (hx9 : (if isWL t n (strB 5) p then 6 else 9) = x) : cE t n P p K C = cE t n P (nxt t n p) (x :: K) C := by
  rw [cE_eq h4 hp, cE_eq h4 (nxt_le hp)]
  have hkx : kW (x :: K) = kW K + 1 := by
    rw [← hx9]
    split
    · exact kW_6
    · exact kW_9
  have ho : opG t n (6 - kW K) p K = opG t n (6 - kW (x :: K)) (nxt t n p) (x :: K) := by
    rw [hkx, show 6 - kW K = (6 - (kW K + 1)) + 1 by omega]
    rw [opG, if_pos hn, if_neg (by omega), hx9]
  rw [ho]
def tp (K : List Nat) : Nat := K.headD 0
theorem flu_ne {op : Nat} {K : List Nat} {C : Cd} (h : tp K ≠ op) : flu op K C = (K, C) := by
  cases K with
  | nil => rfl
  | cons x K => exact if_neg h
theorem flu_eq {op : Nat} {K : List Nat} {C : Cd} : flu op (op :: K) C = flu op K (C ++ [(op, 0, 0)]) := if_pos rfl
/-- when two states go on alike -/
theorem aG_same {f : Nat → List Nat → Cd → PR (Nat × Cd)} {p : Nat} {K K' : List Nat} {C C' : Cd} (h : clG t n (kO K) p K C = clG t n (kO K') p K' C' ∨ ∃ q, clG t n (kO K) p K C = (q, K, C) ∧ clG t n (kO K') p K' C' = (q, K', C') ∧ (isWL t n (strB 12) q = true → flu 7 K C = flu 7 K' C') ∧ f78 (K, C) = f78 (K', C') ∧ kO K = kO K') : aG t n f p K C = aG t n f p K' C' := by
  unfold aG
  rcases h with h | ⟨q, h1, h2, h3, h4, h5⟩
  · rw [h]
  · rw [h1, h2]
    simp only []
    by_cases hA : isWL t n (strB 12) q = true
    · rw [if_pos hA, if_pos hA, h3 hA]
    · rw [if_neg hA, if_neg hA, h4, h5]
theorem cA_6 {P : Ps} {p : Nat} {K : List Nat} {C : Cd} : cA t n P p (6 :: K) C = cA t n P p K (C ++ [(6, 0, 0)]) := by
  refine aG_same (Or.inl ?_)
  rw [kO_x (by decide)]
  cases kO K with
  | zero => rw [clG, clG, flu_eq]
  | succ d => rw [clG, clG, flu_eq]
theorem cl_two {p : Nat} {K K' : List Nat} {C C' : Cd} (h6 : tp K ≠ 6) (h6' : tp K' ≠ 6) (hO : kO K = kO K') (h7 : isWL t n (strB 12) p = true → flu 7 K C = flu 7 K' C') (h8 : f78 (K, C) = f78 (K', C')) : clG t n (kO K) p K C = clG t n (kO K') p K' C' ∨ ∃ q, clG t n (kO K) p K C = (q, K, C) ∧ clG t n (kO K') p K' C' = (q, K', C') ∧ (isWL t n (strB 12) q = true → flu 7 K C = flu 7 K' C') ∧ f78 (K, C) = f78 (K', C') ∧ kO K = kO K' := by
  rw [← hO]
  cases hk : kO K with
  | zero =>
    refine Or.inr ⟨p, ?_, ?_, h7, h8, rfl⟩
    · rw [clG, flu_ne h6]
    · rw [clG, flu_ne h6']
  | succ d =>
    rw [clG, clG, flu_ne h6, flu_ne h6']
    by_cases hs : isSg t n 41 p = true
    · refine Or.inl ?_
      rw [if_pos ⟨by show kO K ≠ 0; omega, hs⟩, if_pos ⟨by show kO K' ≠ 0; omega, hs⟩, h8]
    · rw [if_neg (fun q => hs q.2), if_neg (fun q => hs q.2)]
      exact Or.inr ⟨p, rfl, rfl, h7, h8, rfl⟩
theorem cA_7 {P : Ps} {p : Nat} {K : List Nat} {C : Cd} (h6 : tp K ≠ 6) : cA t n P p (7 :: K) C = cA t n P p K (C ++ [(7, 0, 0)]) := by
  refine aG_same (cl_two (show (7 : Nat) ≠ 6 by decide) h6 (kO_x (by decide)) (fun _ => flu_eq) ?_)
  unfold f78
  rw [flu_eq]
theorem cA_8 {P : Ps} {p : Nat} {K : List Nat} {C : Cd} (h6 : tp K ≠ 6) (h7 : tp K ≠ 7) (ha : isWL t n (strB 12) p = false) : cA t n P p (8 :: K) C = cA t n P p K (C ++ [(8, 0, 0)]) := by
  refine aG_same (cl_two (show (8 : Nat) ≠ 6 by decide) h6 (kO_x (by decide)) (fun q => by rw [ha] at q; cases q) ?_)
  unfold f78
  rw [flu_ne (op := 7) (K := 8 :: K) (show (8 : Nat) ≠ 7 by decide), flu_ne h7]
  exact flu_eq
theorem cA_9 {P : Ps} {p : Nat} {K : List Nat} {C : Cd} (hs : isSg t n 41 p = true) : cA t n P p (9 :: K) C = cA t n P (nxt t n p) K C := by
  have hc : clG t n (kO (9 :: K)) p (9 :: K) C = clG t n (kO K) (nxt t n p) K C := by
    rw [kO_9, clG, flu_ne (op := 6) (K := 9 :: K) (show (9 : Nat) ≠ 6 by decide), if_pos ⟨by rw [kO_9]; omega, hs⟩]
    unfold f78
    rw [flu_ne (op := 7) (K := 9 :: K) (show (9 : Nat) ≠ 7 by decide), flu_ne (op := 8) (K := 9 :: K) (show (9 : Nat) ≠ 8 by decide)]
    rfl
  unfold cA aG
  rw [hc]
theorem cA_9n {P : Ps} {p : Nat} {K : List Nat} {C : Cd} (hs : ¬ isSg t n 41 p = true) (ha : isWL t n (strB 12) p = false) (ho : isWL t n (strB 13) p = false) : cA t n P p (9 :: K) C = .inl (1, p) := by
  have hc : clG t n (kO (9 :: K)) p (9 :: K) C = (p, 9 :: K, C) := by
    rw [kO_9, clG, flu_ne (op := 6) (K := 9 :: K) (show (9 : Nat) ≠ 6 by decide), if_neg (fun q => hs q.2)]
  unfold cA aG
  rw [hc]
  simp only []
  rw [if_neg (by rw [ha]; decide), if_neg (by rw [ho]; decide), if_pos (by rw [kO_9]; omega)]
theorem cA_0 {P : Ps} {p : Nat} {C : Cd} (ha : isWL t n (strB 12) p = false) (ho : isWL t n (strB 13) p = false) : cA t n P p [] C = .inr (p, C) := by
  have hc : clG t n (kO []) p [] C = (p, [], C) := rfl
  unfold cA aG
  rw [hc]
  simp only []
  rw [if_neg (by rw [ha]; decide), if_neg (by rw [ho]; decide), if_neg (fun q => q rfl)]
  rfl
theorem wl_sg {q p : Nat} (hq : q < 53) (h : isWL t n (strB q) p = true) : ¬ isSg t n 41 p = true := fun hs => by
  have h1 := tkk_1.mp (isWL_1 h).1
  have h2 := (isSg_iff.mp hs).2
  omega
theorem cl_id {q p : Nat} {K : List Nat} {C : Cd} (hq : q < 53) (h : isWL t n (strB q) p = true) (h6 : tp K ≠ 6) : clG t n (kO K) p K C = (p, K, C) := by
  cases hk : kO K with
  | zero => rw [clG, flu_ne h6]
  | succ d => rw [clG, flu_ne h6, if_neg (fun q' => wl_sg hq h q'.2)]
theorem cA_and {P : Ps} {p : Nat} {K : List Nat} {C : Cd} (ha : isWL t n (strB 12) p = true) (h6 : tp K ≠ 6) (h7 : tp K ≠ 7) : cA t n P p K C = cE t n P (nxt t n p) (7 :: K) C := by
  unfold cA aG
  rw [cl_id (by decide) ha h6]
  simp only []
  rw [if_pos ha, flu_ne h7]
theorem cA_or {P : Ps} {p : Nat} {K : List Nat} {C : Cd} (ha : isWL t n (strB 12) p = false) (ho : isWL t n (strB 13) p = true) (h6 : tp K ≠ 6) (h7 : tp K ≠ 7) (h8 : tp K ≠ 8) : cA t n P p K C = cE t n P (nxt t n p) (8 :: K) C := by
  unfold cA aG
  rw [cl_id (by decide) ho h6]
  simp only []
  rw [if_neg (by rw [ha]; decide), if_pos ho]
  unfold f78
  simp only []
  rw [flu_ne h7, flu_ne h8]
theorem more_end {f : Nat → PR (Nat × Cd)} {q c : Nat} (hq : q < 53) (hf : ∀ p, p ≤ n → ∀ a, f p = .inr a → p ≤ a.1 ∧ a.1 ≤ n) : ∀ m p cs a, p ≤ n → n ≤ p + m → moreR t n f (strB q) c m p cs = .inr a → isWL t n (strB q) a.1 = false ∧ p ≤ a.1 ∧ a.1 ≤ n
  | 0, p, cs, a, hp, hm, h => by
    cases h
    refine ⟨Bool.eq_false_iff.mpr fun hh => ?_, Nat.le_refl _, hp⟩
    have := (isWL_nx hq hh).2
    omega
  | m + 1, p, cs, a, hp, hm, h => by
    unfold moreR at h
    split at h
    · rename_i hw
      have hnx := isWL_nx hq hw
      cases hf1 : f (nxt t n p) with
      | inl e => simp only [hf1] at h; cases h
      | inr b =>
        obtain ⟨p2, c2⟩ := b
        have hb := hf _ (nxt_le hp) _ hf1
        have hb1 : nxt t n p ≤ p2 := hb.1
        have hb2 : p2 ≤ n := hb.2
        simp only [hf1] at h
        have h2 := more_end hq hf m p2 _ a hb2 (by omega) h
        exact ⟨h2.1, by omega, h2.2.2⟩
    · rename_i hw
      cases h
      exact ⟨Bool.eq_false_iff.mpr hw, Nat.le_refl _, hp⟩
theorem list_end {f : Nat → PR (Nat × Cd)} {q c : Nat} (hq : q < 53) (hf : ∀ p, p ≤ n → ∀ a, f p = .inr a → p ≤ a.1 ∧ a.1 ≤ n) {p : Nat} {a : Nat × Cd} (hp : p ≤ n) (h : listR t n f (strB q) c p = .inr a) : isWL t n (strB q) a.1 = false ∧ p ≤ a.1 ∧ a.1 ≤ n := by
  unfold listR at h
  cases hf1 : f p with
  | inl e => simp only [hf1] at h; cases h
  | inr b =>
    obtain ⟨p2, c2⟩ := b
    have hb := hf _ hp _ hf1
    have hb1 : p ≤ p2 := hb.1
    simp only [hf1] at h
    have h2 := more_end hq hf n p2 _ a hb.2 (by omega) h
    exact ⟨h2.1, by omega, h2.2.2⟩
/-- what an atom's reader d deep does from where an operand is expected -/
def mEo (t : Nat → Int) (n : Nat) (P : Ps) (w : Nat) (ok : List Nat → Prop) (f : Nat → PR (Nat × Cd)) : Prop := ∀ p K C, p ≤ n → kW K = w → ok K → cE t n P p K C = bnd (f p) (fun p2 cs => cA t n P p2 K (C ++ cs))
theorem more_E {P : Ps} {w : Nat} {ok : List Nat → Prop} {f : Nat → PR (Nat × Cd)} {K : List Nat} {q c : Nat} {Q : Nat → Prop} (hq : q < 53) (hf : ∀ p, p ≤ n → ∀ a, f p = .inr a → (p ≤ a.1 ∧ a.1 ≤ n) ∧ Q a.1) (hA : ∀ p C, p ≤ n → Q p → isWL t n (strB q) p = true → cA t n P p K C = bnd (f (nxt t n p)) (fun p2 cs => cA t n P p2 K (C ++ cs ++ [(c, 0, 0)]))) : ∀ m p cs C, p ≤ n → n ≤ p + m → Q p → cA t n P p K (C ++ cs) = bnd (moreR t n f (strB q) c m p cs) (fun p2 cs => cA t n P p2 K (C ++ cs))
  | 0, p, cs, C, hp, hm, hQ => rfl
  | m + 1, p, cs, C, hp, hm, hQ => by
    unfold moreR
    by_cases hw : isWL t n (strB q) p = true
    · rw [if_pos hw, hA p _ hp hQ hw]
      have hnx := isWL_nx hq hw
      cases hf1 : f (nxt t n p) with
      | inl e => rfl
      | inr b =>
        obtain ⟨p2, c2⟩ := b
        have hb := hf _ (nxt_le hp) _ hf1
        have hb1 : nxt t n p ≤ p2 := hb.1.1
        have h2 := more_E (w := w) (ok := ok) hq hf hA m p2 (cs ++ c2 ++ [(c, 0, 0)]) C hb.1.2 (by omega) hb.2
        refine Eq.trans ?_ h2
        show cA t n P p2 K (C ++ cs ++ c2 ++ [(c, 0, 0)]) = _
        simp only [List.append_assoc]
    · rw [if_neg hw]
      rfl
theorem all_E {P : Ps} {w : Nat} {f : Nat → PR (Nat × Cd)} (hw : w ≤ 5) (hf : ∀ p, p ≤ n → ∀ a, f p = .inr a → p ≤ a.1 ∧ a.1 ≤ n) (hA : mEo t n P w (fun _ => True) f) : mEo t n P w (fun K => tp K ≠ 6 ∧ tp K ≠ 7) (allR t n f) := by
  intro p K C hp hk hok
  rw [hA p K C hp hk trivial]
  unfold allR listR
  cases hf1 : f p with
  | inl e => rfl
  | inr b =>
    obtain ⟨p1, c1⟩ := b
    have hb := hf _ hp _ hf1
    have hb2 : p1 ≤ n := hb.2
    simp only [bnd]
    refine more_E (w := w) (ok := fun _ => True) (Q := fun _ => True) (by decide) (fun p hp a h => ⟨hf p hp a h, trivial⟩) (fun p' C' hp' _ ha => ?_) n p1 c1 C hb2 (by omega) trivial
    rw [cA_and ha hok.1 hok.2, hA _ (7 :: K) C' (nxt_le hp') (kW_7.trans hk) trivial]
    congr 1
    funext p2 cs
    exact cA_7 hok.1
theorem cond_E {P : Ps} {w : Nat} {f : Nat → PR (Nat × Cd)} (hw : w ≤ 5) (hf : ∀ p, p ≤ n → ∀ a, f p = .inr a → p ≤ a.1 ∧ a.1 ≤ n) (hA : mEo t n P w (fun _ => True) f) : mEo t n P w (fun K => tp K ≠ 6 ∧ tp K ≠ 7 ∧ tp K ≠ 8) (condR t n f) := by
  intro p K C hp hk hok
  have hE := all_E hw hf hA
  have hfa : ∀ p, p ≤ n → ∀ a, allR t n f p = .inr a → (p ≤ a.1 ∧ a.1 ≤ n) ∧ isWL t n (strB 12) a.1 = false := fun p hp a h => by
    have := list_end (by decide) hf hp h
    exact ⟨this.2, this.1⟩
  rw [hE p K C hp hk ⟨hok.1, hok.2.1⟩]
  unfold condR
  rw [listR]
  cases hf1 : allR t n f p with
  | inl e => rfl
  | inr b =>
    obtain ⟨p1, c1⟩ := b
    have hb := hfa _ hp _ hf1
    have hb2 : p1 ≤ n := hb.1.2
    simp only [bnd]
    refine more_E (w := w) (ok := fun _ => True) (Q := fun p => isWL t n (strB 12) p = false) (by decide) hfa (fun p' C' hp' hQ ho => ?_) n p1 c1 C hb2 (by omega) hb.2
    rw [cA_or hQ ho hok.1 hok.2.1 hok.2.2, hE _ (8 :: K) C' (nxt_le hp') (kW_8.trans hk) ⟨show (8 : Nat) ≠ 6 by decide, show (8 : Nat) ≠ 7 by decide⟩]
    cases hf2 : allR t n f (nxt t n p') with
    | inl e => rfl
    | inr b2 =>
      obtain ⟨p2, c2⟩ := b2
      have hb3 := hfa _ (nxt_le hp') _ hf2
      exact cA_8 hok.1 hok.2.1 hb3.2
theorem cond_end {f : Nat → PR (Nat × Cd)} (hf : ∀ p, p ≤ n → ∀ a, f p = .inr a → p ≤ a.1 ∧ a.1 ≤ n) {p : Nat} {a : Nat × Cd} (hp : p ≤ n) (h : condR t n f p = .inr a) : isWL t n (strB 13) a.1 = false ∧ isWL t n (strB 12) a.1 = false := by
  have hfa : ∀ p, p ≤ n → ∀ a, allR t n f p = .inr a → p ≤ a.1 ∧ a.1 ≤ n := fun p hp a h => (list_end (by decide) hf hp h).2
  have h1 := list_end (by decide) hfa hp h
  refine ⟨h1.1, ?_⟩
  have key : ∀ m p cs a, p ≤ n → isWL t n (strB 12) p = false → moreR t n (allR t n f) (strB 13) 8 m p cs = .inr a → isWL t n (strB 12) a.1 = false := by
    intro m
    induction m with
    | zero =>
      intro p cs a hp hw h
      cases h
      exact hw
    | succ m ih =>
      intro p cs a hp hw h
      unfold moreR at h
      split at h
      · cases hf1 : allR t n f (nxt t n p) with
        | inl e => simp only [hf1] at h; cases h
        | inr b =>
          obtain ⟨p2, c2⟩ := b
          simp only [hf1] at h
          have h3 := list_end (by decide) hf (nxt_le hp) hf1
          exact ih p2 _ a h3.2.2 h3.1 h
      · cases h
        exact hw
  unfold condR at h
  rw [listR] at h
  cases hf1 : allR t n f p with
  | inl e => simp only [hf1] at h; cases h
  | inr b =>
    obtain ⟨p2, c2⟩ := b
    simp only [hf1] at h
    have h3 := list_end (by decide) hf hp hf1
    exact key n p2 _ a h3.2.2 h3.1 h
theorem atom_ge {P : Ps} (h4 : lPorts P.1 ≤ 4) (d : Nat) : ∀ p, p ≤ n → ∀ a, atomR t n P d p = .inr a → p ≤ a.1 ∧ a.1 ≤ n := fun p hp a h => by
  have := atom_ok h4 d p hp a h
  exact ⟨by have := this.1; omega, this.2.1⟩
theorem atom_E {P : Ps} (h4 : lPorts P.1 ≤ 4) : ∀ d, d ≤ 5 → mEo t n P (5 - d) (fun _ => True) (atomR t n P d)
  | 0, hd => by
    intro p K C hp hk _
    unfold atomR
    by_cases hn : isNest t n p = true
    · rw [if_pos hn, cE_4 h4 hp hn (by omega)]
      rfl
    · rw [if_neg hn, cE_leaf h4 hp hn]
      cases leafR t n P p with
      | inl e => rfl
      | inr b => rfl
  | d + 1, hd => by
    intro p K C hp hk _
    have ih := atom_E h4 d (by omega)
    unfold atomR
    by_cases hn : isNest t n p = true
    · rw [if_pos hn]
      by_cases h5 : isWL t n (strB 5) p = true
      · rw [if_pos h5, cE_n h4 hp hn (by omega) (if_pos h5), ih _ (6 :: K) C (nxt_le hp) (by rw [kW_6]; omega) trivial]
        cases atomR t n P d (nxt t n p) with
        | inl e => rfl
        | inr b =>
          obtain ⟨p2, c2⟩ := b
          show cA t n P p2 (6 :: K) (C ++ c2) = cA t n P p2 K (C ++ (c2 ++ [(6, 0, 0)]))
          rw [cA_6, List.append_assoc]
      · rw [if_neg h5, cE_n h4 hp hn (by omega) (if_neg h5), cond_E (by omega) (atom_ge h4 d) ih _ (9 :: K) C (nxt_le hp) (by rw [kW_9]; omega) ⟨show (9 : Nat) ≠ 6 by decide, show (9 : Nat) ≠ 7 by decide, show (9 : Nat) ≠ 8 by decide⟩]
        cases hf1 : condR t n (atomR t n P d) (nxt t n p) with
        | inl e => rfl
        | inr b =>
          obtain ⟨p2, c2⟩ := b
          have he := cond_end (atom_ge h4 d) (nxt_le hp) hf1
          simp only [bnd]
          by_cases hs : isSg t n 41 p2 = true
          · rw [if_pos hs, cA_9 hs]
          · rw [if_neg hs, cA_9n hs he.2 he.1]
    · rw [if_neg hn, cE_leaf h4 hp hn]
      cases leafR t n P p with
      | inl e => rfl
      | inr b => rfl
/-- the machine tells what condR tells -/
theorem cE_top {P : Ps} (h4 : lPorts P.1 ≤ 4) {p : Nat} {C : Cd} (hp : p ≤ n) : cE t n P p [] C = bnd (condR t n (atomR t n P 5) p) (fun p2 cs => .inr (p2, C ++ cs)) := by
  rw [cond_E (w := 0) (by decide) (atom_ge h4 5) (atom_E h4 5 (Nat.le_refl _)) p [] C hp rfl ⟨show (0 : Nat) ≠ 6 by decide, show (0 : Nat) ≠ 7 by decide, show (0 : Nat) ≠ 8 by decide⟩]
  cases hf1 : condR t n (atomR t n P 5) p with
  | inl e => rfl
  | inr b =>
    obtain ⟨p2, c2⟩ := b
    have he := cond_end (atom_ge h4 5) hp hf1
    exact cA_0 he.2 he.1
end MCP
