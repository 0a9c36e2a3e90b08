/-! the lines of the law's text, and what they tell -/
section LNE
variable {t : Nat → Int} {n a : Nat} {u : List Int} {P : Ps}
theorem setL_sh (A : agr t n u a) {p : Nat} (hp : p < u.length) (h59 : u.getD p 0 ≠ 59) (g : Ps → Nat → Ps) (lo hi : Nat) : setL t n P g lo hi (a + p) = sh2 a (setL (tl u) u.length P g lo hi p) := by
  have hx := nxt_sh A hp
  have h := numR_sh A (hx.2.2 h59) lo hi
  unfold setL
  rw [hx.1, h.1]
  cases e : numR (tl u) u.length lo hi (nxt (tl u) u.length p) with
  | inl e2 => rfl
  | inr x => rfl
theorem polL_sh (A : agr t n u a) {p : Nat} (hp : p < u.length) (h59 : u.getD p 0 ≠ 59) : polL t n P (a + p) = sh2 a (polL (tl u) u.length P p) := by
  have hx := nxt_sh A hp
  have h := portR_sh A (hx.2.2 h59) P
  unfold polL
  rw [hx.1, h.1]
  cases e : portR (tl u) u.length P (nxt (tl u) u.length p) with
  | inl e2 => rfl
  | inr x =>
    obtain ⟨i, p2⟩ := x
    have h2 := h.2 i p2 e
    have h3 := numR_sh A h2.2 0 99
    simp only [sh2]
    rw [h3.1]
    cases e3 : numR (tl u) u.length 0 99 p2 with
    | inl e4 => rfl
    | inr x =>
      obtain ⟨r, p3⟩ := x
      have h4 := h3.2 r p3 e3
      have h5 := numR_sh A h4.2 0 99
      simp only [sh2]
      rw [h5.1]
      cases e5 : numR (tl u) u.length 0 99 p3 with
      | inl e6 => rfl
      | inr x => rfl
theorem portL_sh (A : agr t n u a) {p : Nat} (hp : p < u.length) (h59 : u.getD p 0 ≠ 59) : portL t n P (a + p) = sh2 a (portL (tl u) u.length P p) := by
  have hx := nxt_sh A hp
  have h := nameR_sh A (hx.2.2 h59)
  unfold portL
  rw [hx.1, h.1]
  split
  · rfl
  · cases e : nameR (tl u) u.length (nxt (tl u) u.length p) with
    | inl e2 => rfl
    | inr x =>
      have h2 := h.2 x e
      have hx2 := nxt_sh A (hx.2.2 h59)
      have h3 := numR_sh A h2.2 1 99
      simp only [sh0]
      split
      · rfl
      · rw [hx2.1, h3.1]
        cases e3 : numR (tl u) u.length 1 99 (nxt (tl u) u.length (nxt (tl u) u.length p)) with
        | inl e4 => rfl
        | inr x =>
          obtain ⟨r, p3⟩ := x
          have h4 := h3.2 r p3 e3
          have h5 := numR_sh A h4.2 0 9
          simp only [sh2]
          rw [h5.1]
          cases e5 : numR (tl u) u.length 0 9 p3 with
          | inl e6 => rfl
          | inr x => rfl
theorem rulL_sh (A : agr t n u a) {p : Nat} (hp : p < u.length) (h59 : u.getD p 0 ≠ 59) (b : Bool) : rulL' t n P b (a + p) = sh2 a (rulL' (tl u) u.length P b p) := by
  have hx := nxt_sh A hp
  have hn := hx.2.2 h59
  have hx2 := nxt_sh A hn
  unfold rulL'
  rw [hx.1, isWL_sh A hn, hx2.1]
  split
  · rfl
  · split
    · rename_i hw
      have h := condR_sh A (atomR_sh A P 5) _ (hx2.2.2 (no59w hw (strB_n 4 (by decide))))
      rw [h.1]
      cases e : condR (tl u) u.length (atomR (tl u) u.length P 5) (nxt (tl u) u.length (nxt (tl u) u.length p)) with
      | inl e2 => rfl
      | inr x => rfl
    · rfl
theorem lineR_sh (A : agr t n u a) {p : Nat} (hp : p < u.length) : lineR t n P (a + p) = sh2 a (lineR (tl u) u.length P p) := by
  unfold lineR
  rw [isWL_sh A hp, isWL_sh A hp, isWL_sh A hp, isWL_sh A hp, isWL_sh A hp, isWL_sh A hp, isWL_sh A hp]
  split
  · rename_i hw
    exact portL_sh A hp (no59w hw (strB_n 0 (by decide)))
  · split
    · rename_i hw
      exact polL_sh A hp (no59w hw (strB_n 1 (by decide)))
    · split
      · rename_i hw
        rw [Bool.or_eq_true] at hw
        exact rulL_sh A hp (hw.elim (fun hw => no59w hw (strB_n 2 (by decide))) (fun hw => no59w hw (strB_n 3 (by decide)))) _
      · split
        · rename_i hw
          exact setL_sh A hp (no59w hw (strB_n 14 (by decide))) _ _ _
        · split
          · rename_i hw
            exact setL_sh A hp (no59w hw (strB_n 15 (by decide))) _ _ _
          · split
            · rename_i hw
              exact setL_sh A hp (no59w hw (strB_n 16 (by decide))) _ _ _
            · rfl
/-- the line u leads from P to P2 -/
def LOK (P P2 : Ps) (u : List Int) : Prop := 1 ≤ u.length ∧ u.getD (u.length - 1) 0 = 59 ∧ isWs (u.getD 0 0) = false ∧ lineR (tl u) u.length P 0 = .inr (P2, u.length - 1)
/-- the lines so far, T, tell P -/
def PAR (T : List Int) (P : Ps) (m : Nat) : Prop := m ≤ T.length ∧ (T = [] ∨ isWs (T.getD 0 0) = false) ∧ ∀ (t : Nat → Int) (n d : Nat), (∀ j, j < T.length → t j = T.getD j 0) → T.length ≤ n → (T.length < n → isWs (t T.length) = false) → linesR t n (d + m) ps0 0 = linesR t n d P T.length
theorem PAR.nil : PAR [] ps0 0 := ⟨Nat.le_refl _, Or.inl rfl, fun _ _ _ _ _ _ => rfl⟩
theorem gap {T u : List Int} (j : Nat) : (T ++ u).getD j 0 = if j < T.length then T.getD j 0 else u.getD (j - T.length) 0 := by
  rw [List.getD_eq_getElem?_getD, List.getD_eq_getElem?_getD, List.getD_eq_getElem?_getD]
  split
  · rw [List.getElem?_append_left (by assumption)]
  · rw [List.getElem?_append_right (by omega)]
theorem PAR.add {T : List Int} {P2 : Ps} {m : Nat} (h : PAR T P m) (g : LOK P P2 u) : PAR (T ++ u) P2 (m + 1) := by
  obtain ⟨h1, h2, h3⟩ := h
  obtain ⟨g1, g2, g3, g4⟩ := g
  refine ⟨by rw [List.length_append]; omega, Or.inr ?_, fun t n d e1 e2 e3 => ?_⟩
  · rw [gap]
    split
    · rcases h2 with h2 | h2
      · subst h2
        rename_i hh
        exact absurd hh (by simp)
      · exact h2
    · rename_i hh
      rw [show 0 - T.length = 0 by omega]
      exact g3
  · rw [List.length_append] at e1 e2 e3 ⊢
    have t1 : ∀ j, j < T.length → t j = T.getD j 0 := fun j hj => by rw [e1 j (by omega), gap, if_pos hj]
    have t2 : ∀ j, j < u.length → t (T.length + j) = u.getD j 0 := fun j hj => by rw [e1 _ (by omega), gap, if_neg (by omega), Nat.add_sub_cancel_left]
    have A : agr t n u T.length := ⟨e2, t2, e3, g1, g2⟩
    rw [show d + (m + 1) = (d + 1) + m by omega, h3 t n (d + 1) t1 (by omega) (fun _ => by rw [← Nat.add_zero T.length, t2 0 (by omega)]; exact g3)]
    have hl : lineR t n P T.length = .inr (P2, T.length + (u.length - 1)) := by
      have := lineR_sh (P := P) A (p := 0) (by omega)
      rw [Nat.add_zero] at this
      rw [this, g4]
      rfl
    have hk : tkk t n T.length ≠ 0 := by
      unfold tkk
      rw [if_pos (by omega)]
      split
      · decide
      · split <;> decide
    have hs : isSg t n 59 (T.length + (u.length - 1)) = true := by
      unfold isSg
      rw [t2 _ (by omega), g2, decide_eq_true (show T.length + (u.length - 1) < n by omega)]
      rfl
    have hn : nxt t n (T.length + (u.length - 1)) = T.length + u.length := by
      unfold nxt tEnd
      rw [if_pos (by omega), t2 _ (by omega), g2, if_neg (by decide), if_neg (by decide), show T.length + (u.length - 1) + 1 = T.length + u.length by omega, (skw_sh A (Nat.le_refl _)).1, skw_n]
    show (if tkk t n T.length = 0 then _ else _) = _
    rw [if_neg hk, hl]
    show (if isSg t n 59 (T.length + (u.length - 1)) = true then linesR t n d P2 (nxt t n (T.length + (u.length - 1))) else _) = _
    rw [if_pos hs, hn]
theorem PAR.fin {T : List Int} {m : Nat} (h : PAR T P m) (hT : T ≠ []) : textR (fun j => T.getD j 0) T.length = .inr P := by
  obtain ⟨h1, h2, h3⟩ := h
  have h0 : skw (fun j => T.getD j 0) T.length 0 = 0 := runX_f (fun q => by
    have := h2.resolve_left hT
    rw [this] at q
    exact absurd q.2 (by decide))
  unfold textR
  rw [h0]
  have := h3 (fun j => T.getD j 0) T.length (T.length - m) (fun _ _ => rfl) (Nat.le_refl _) (fun q => absurd q (Nat.lt_irrefl _))
  rw [show T.length - m + m = T.length by omega] at this
  rw [this]
  cases e : T.length - m with
  | zero => rfl
  | succ k =>
    show (if tkk (fun j => T.getD j 0) T.length T.length = 0 then _ else _) = _
    rw [if_pos (by unfold tkk; rw [if_neg (Nat.lt_irrefl _)])]
end LNE
/-! the lines -/
def uPort (p C S : Nat) : List Int := stb.getD 27 [] ++ [((97 + p : Nat) : Int)] ++ stb.getD 29 [] ++ dgz C ++ stb.getD 29 [] ++ dgz S ++ stb.getD 30 []
def uSet (k V : Nat) : List Int := (if k = 0 then stb.getD 31 [] else if k = 1 then (stb.getD 32 []).drop 1 else (stb.getD 33 []).drop 1) ++ dgz V ++ stb.getD 30 []
def uPol (R B : Nat) : List Int := stb.getD 34 [] ++ dgz R ++ stb.getD 29 [] ++ dgz B ++ stb.getD 30 []
def uAtom (sz : Bool) (x y : Nat) : List Int := if sz then stb.getD 40 [] ++ dgz x else stb.getD 41 [] ++ dgz x ++ stb.getD 42 [] ++ dgz y ++ stb.getD 43 []
def uRule (ps ng o : Bool) (A : List Int) : List Int := stb.getD (if ps then 35 else 36) [] ++ stb.getD 37 [] ++ stb.getD (if ng then 38 else 39) [] ++ A ++ stb.getD (if o then 44 else 39) [] ++ stb.getD 30 []
/-- all that a line's form asks -/
def okU (u : List Int) : Bool := decide (1 ≤ u.length) && decide (u.getD (u.length - 1) 0 = 59) && !isWs (u.getD 0 0)
def qN (u : List Int) (lo hi p : Nat) : Nat := match numR (tl u) u.length lo hi p with
  | .inr (_, q) => q
  | .inl _ => 0
def nmS (u : List Int) (p : Nat) : List Nat := match nameR (tl u) u.length p with
  | .inr x => x
  | .inl _ => []
def ckPort (p C S : Nat) : Bool := okU (uPort p C S) && isWL (tl (uPort p C S)) (uPort p C S).length (strB 0) 0 && decide (nameR (tl (uPort p C S)) (uPort p C S).length (nxt (tl (uPort p C S)) (uPort p C S).length 0) = .inr [p + 1, 16]) &&
  decide (numR (tl (uPort p C S)) (uPort p C S).length 1 99 (nxt (tl (uPort p C S)) (uPort p C S).length (nxt (tl (uPort p C S)) (uPort p C S).length 0)) = .inr (C, qN (uPort p C S) 1 99 (nxt (tl (uPort p C S)) (uPort p C S).length (nxt (tl (uPort p C S)) (uPort p C S).length 0)))) && decide (numR (tl (uPort p C S)) (uPort p C S).length 0 9 (qN (uPort p C S) 1 99 (nxt (tl (uPort p C S)) (uPort p C S).length (nxt (tl (uPort p C S)) (uPort p C S).length 0))) = .inr (S, (uPort p C S).length - 1))
theorem ck_port : ∀ p, p < 4 → ∀ C, C < 15 → 3 ≤ C → ∀ S, S < 3 → ckPort p C S = true := by decide +kernel
theorem okU_s {u : List Int} (h : okU u = true) : 1 ≤ u.length ∧ u.getD (u.length - 1) 0 = 59 ∧ isWs (u.getD 0 0) = false := by
  unfold okU at h
  simp only [Bool.and_eq_true, decide_eq_true_eq, Bool.not_eq_true'] at h
  exact ⟨h.1.1, h.1.2, h.2⟩
section LGN
variable {u : List Int} {P : Ps}
theorem g_port {x : List Nat} {C S q : Nat} (a4 : isWL (tl u) u.length (strB 0) 0 = true) (a5 : nameR (tl u) u.length (nxt (tl u) u.length 0) = .inr x) (a6 : numR (tl u) u.length 1 99 (nxt (tl u) u.length (nxt (tl u) u.length 0)) = .inr (C, q)) (a7 : numR (tl u) u.length 0 9 q = .inr (S, u.length - 1)) (h1 : ¬ 4 ≤ lPorts P.1) (h2 : fnd P x = none) : lineR (tl u) u.length P 0 = .inr (psPort P x C S, u.length - 1) := by
  unfold lineR
  rw [if_pos a4]
  unfold portL
  rw [if_neg h1, a5]
  simp only [h2, a6, a7]
  rfl
theorem g_pol {x : List Nat} {i R B q : Nat} (a0 : isWL (tl u) u.length (strB 0) 0 = false) (a4 : isWL (tl u) u.length (strB 1) 0 = true) (a5 : nameR (tl u) u.length (nxt (tl u) u.length 0) = .inr x) (a6 : numR (tl u) u.length 0 99 (nxt (tl u) u.length (nxt (tl u) u.length 0)) = .inr (R, q)) (a7 : numR (tl u) u.length 0 99 q = .inr (B, u.length - 1)) (h2 : fnd P x = some i) : lineR (tl u) u.length P 0 = .inr (psPol P i R B, u.length - 1) := by
  unfold lineR
  rw [a0, if_neg (by decide), if_pos a4]
  unfold polL portR
  rw [a5]
  simp only [h2, a6, a7]
theorem g_buf {V : Nat} (a0 : isWL (tl u) u.length (strB 0) 0 = false) (a1 : isWL (tl u) u.length (strB 1) 0 = false) (a2 : isWL (tl u) u.length (strB 2) 0 = false) (a3 : isWL (tl u) u.length (strB 3) 0 = false) (a4 : isWL (tl u) u.length (strB 14) 0 = true) (a5 : numR (tl u) u.length 1 400 (nxt (tl u) u.length 0) = .inr (V, u.length - 1)) : lineR (tl u) u.length P 0 = .inr (psBuf P V, u.length - 1) := by
  unfold lineR
  rw [a0, a1, a2, a3, if_neg (by decide), if_neg (by decide), if_neg (by decide), if_pos a4]
  unfold setL
  rw [a5]
theorem g_wait {V : Nat} (a0 : isWL (tl u) u.length (strB 0) 0 = false) (a1 : isWL (tl u) u.length (strB 1) 0 = false) (a2 : isWL (tl u) u.length (strB 2) 0 = false) (a3 : isWL (tl u) u.length (strB 3) 0 = false) (a4 : isWL (tl u) u.length (strB 14) 0 = false) (a6 : isWL (tl u) u.length (strB 15) 0 = false) (a7 : isWL (tl u) u.length (strB 16) 0 = true) (a5 : numR (tl u) u.length 1 99 (nxt (tl u) u.length 0) = .inr (V, u.length - 1)) : lineR (tl u) u.length P 0 = .inr (psWait P V, u.length - 1) := by
  unfold lineR
  rw [a0, a1, a2, a3, a4, a6, if_neg (by decide), if_neg (by decide), if_neg (by decide), if_neg (by decide), if_neg (by decide), if_pos a7]
  unfold setL
  rw [a5]
theorem g_age {V : Nat} (a0 : isWL (tl u) u.length (strB 0) 0 = false) (a1 : isWL (tl u) u.length (strB 1) 0 = false) (a2 : isWL (tl u) u.length (strB 2) 0 = false) (a3 : isWL (tl u) u.length (strB 3) 0 = false) (a4 : isWL (tl u) u.length (strB 14) 0 = false) (a6 : isWL (tl u) u.length (strB 15) 0 = true) (a5 : numR (tl u) u.length 0 999 (nxt (tl u) u.length 0) = .inr (V, u.length - 1)) : lineR (tl u) u.length P 0 = .inr (psAge P V, u.length - 1) := by
  unfold lineR
  rw [a0, a1, a2, a3, a4, if_neg (by decide), if_neg (by decide), if_neg (by decide), if_neg (by decide), if_pos a6]
  unfold setL
  rw [a5]
theorem fnd_cg {nm nm' : Nat → List Nat} {x : List Nat} : ∀ d i, (∀ j, i ≤ j → j < i + d → nm j = nm' j) → fndF nm x d i = fndF nm' x d i
  | 0, _, _ => rfl
  | d + 1, i, h => by
    unfold fndF
    rw [h i (Nat.le_refl _) (by omega), fnd_cg d (i + 1) (fun j h1 h2 => h j (by omega) (by omega))]
theorem leafR_P {t : Nat → Int} {n : Nat} {P' : Ps} (h : ∀ x, fnd P x = fnd P' x) (p : Nat) : leafR t n P p = leafR t n P' p := by
  have e : ∀ p, portR t n P p = portR t n P' p := fun p => by
    unfold portR
    cases nameR t n p with
    | inl _ => rfl
    | inr x => simp only [h x]
  unfold leafR
  rw [e]
theorem atomR_P {t : Nat → Int} {n : Nat} {P' : Ps} (h : ∀ x, fnd P x = fnd P' x) : ∀ d, atomR t n P d = atomR t n P' d
  | 0 => funext fun p => by
    unfold atomR
    rw [leafR_P h p]
  | d + 1 => funext fun p => by
    unfold atomR
    rw [leafR_P h p, atomR_P h d]
theorem g_rule {P' : Ps} {cs : Cd} (h : ∀ x, fnd P x = fnd P' x) (a0 : isWL (tl u) u.length (strB 0) 0 = false) (a1 : isWL (tl u) u.length (strB 1) 0 = false) (a2 : (isWL (tl u) u.length (strB 2) 0 || isWL (tl u) u.length (strB 3) 0) = true) (a4 : isWL (tl u) u.length (strB 4) (nxt (tl u) u.length 0) = true) (a5 : condR (tl u) u.length (atomR (tl u) u.length P' 5) (nxt (tl u) u.length (nxt (tl u) u.length 0)) = .inr (u.length - 1, cs)) (h1 : ¬ 8 ≤ lRules P.1) : lineR (tl u) u.length P 0 = .inr (psRule P (isWL (tl u) u.length (strB 3) 0) cs, u.length - 1) := by
  unfold lineR
  rw [a0, a1, if_neg (by decide), if_neg (by decide), if_pos a2]
  unfold rulL'
  rw [if_neg h1, if_pos a4, atomR_P h, a5]
end LGN
theorem lok_port {P : Ps} {p C S : Nat} (hp : p < 4) (hC : 3 ≤ C ∧ C < 15) (hS : S < 3) (h1 : lPorts P.1 = p) (h2 : fnd P [p + 1, 16] = none) : LOK P (psPort P [p + 1, 16] C S) (uPort p C S) := by
  have h := ck_port p hp C hC.2 hC.1 S hS
  unfold ckPort at h
  simp only [Bool.and_eq_true, decide_eq_true_eq] at h
  obtain ⟨⟨⟨⟨a0, a4⟩, a5⟩, a6⟩, a7⟩ := h
  obtain ⟨a1, a2, a3⟩ := okU_s a0
  exact ⟨a1, a2, a3, g_port a4 a5 a6 a7 (by omega) h2⟩
