/-! what the law's lines tell -/
def NMP (P : Ps) (K r : Nat) (C : Nat → Nat) : Prop := lPorts P.1 = K ∧ lRules P.1 = r ∧ (∀ i, i < K → P.2.1 i = [i + 1, 16]) ∧ ∀ i, i < K → lCap P.1 i = C i
section LOS
variable {P : Ps} {K r m : Nat} {C : Nat → Nat} {T : List Int}
theorem NMP.fnd (h : NMP P K r C) (x : List Nat) : fnd P x = fnd (PK K) x := by
  show fndF P.2.1 x (lPorts P.1) 0 = fndF (PK K).2.1 x K 0
  rw [h.1]
  exact fnd_cg K 0 (fun j _ h2 => h.2.2.1 j (by omega))
theorem PAR.port {c S : Nat} (h : PAR T P m) (N : NMP P K 0 C) (hK : K < 4) (hc : 3 ≤ c ∧ c < 15) (hS : S < 3) : ∃ P2, PAR (T ++ uPort K c S) P2 (m + 1) ∧ NMP P2 (K + 1) 0 (fu C K c) := by
  refine ⟨_, h.add (lok_port hK hc hS N.1 ((N.fnd _).trans (ck_fn K hK))), ?_, N.2.1, fun i hi => ?_, fun i hi => ?_⟩
  · show lPorts P.1 + 1 = K + 1
    rw [N.1]
  · show fu P.2.1 (lPorts P.1) [K + 1, 16] i = _
    rw [N.1]
    by_cases e : i = K
    · rw [e, fu_e]
    · rw [fu_o e]; exact N.2.2.1 i (by omega)
  · show (fu P.1.2.1 (lPorts P.1) (c, S) i).1 = _
    rw [N.1]
    by_cases e : i = K
    · rw [e, fu_e, fu_e]
    · rw [fu_o e, fu_o e]; exact N.2.2.2 i (by omega)
theorem no4_s {u : List Int} (h : no4 u = true) : isWL (tl u) u.length (strB 0) 0 = false ∧ isWL (tl u) u.length (strB 1) 0 = false ∧ isWL (tl u) u.length (strB 2) 0 = false ∧ isWL (tl u) u.length (strB 3) 0 = false := by
  unfold no4 at h
  simp only [Bool.and_eq_true, Bool.not_eq_true'] at h
  exact ⟨h.1.1.1, h.1.1.2, h.1.2, h.2⟩
theorem PAR.buf {V : Nat} (h : PAR T P m) (N : NMP P K r C) (hV : 8 ≤ V ∧ V < 38) : ∃ P2, PAR (T ++ uSet 0 V) P2 (m + 1) ∧ NMP P2 K r C ∧ lBuf P2.1 = V := by
  have g := ck_buf V hV.2 hV.1
  unfold ckBuf at g
  simp only [Bool.and_eq_true, decide_eq_true_eq] at g
  obtain ⟨⟨⟨g1, g2⟩, g3⟩, g4⟩ := g
  obtain ⟨a1, a2, a3⟩ := okU_s g1
  obtain ⟨b1, b2, b3, b4⟩ := no4_s g2
  exact ⟨_, h.add ⟨a1, a2, a3, g_buf b1 b2 b3 b4 g3 g4⟩, N, rfl⟩
theorem PAR.wait {V : Nat} (h : PAR T P m) (N : NMP P K r C) (hV : 2 ≤ V ∧ V < 11) : ∃ P2, PAR (T ++ uSet 1 V) P2 (m + 1) ∧ NMP P2 K r C ∧ lBuf P2.1 = lBuf P.1 := by
  have g := ck_wait V hV.2 hV.1
  unfold ckWait at g
  simp only [Bool.and_eq_true, decide_eq_true_eq, Bool.not_eq_true'] at g
  obtain ⟨⟨⟨⟨⟨g1, g2⟩, g3⟩, g5⟩, g6⟩, g4⟩ := g
  obtain ⟨a1, a2, a3⟩ := okU_s g1
  obtain ⟨b1, b2, b3, b4⟩ := no4_s g2
  exact ⟨_, h.add ⟨a1, a2, a3, g_wait b1 b2 b3 b4 g3 g5 g6 g4⟩, N, rfl⟩
theorem PAR.age {V : Nat} (h : PAR T P m) (N : NMP P K r C) (hV : V < 12) : ∃ P2, PAR (T ++ uSet 2 V) P2 (m + 1) ∧ NMP P2 K r C ∧ lBuf P2.1 = lBuf P.1 := by
  have g := ck_age V hV
  unfold ckAge at g
  simp only [Bool.and_eq_true, decide_eq_true_eq, Bool.not_eq_true'] at g
  obtain ⟨⟨⟨⟨g1, g2⟩, g3⟩, g5⟩, g4⟩ := g
  obtain ⟨a1, a2, a3⟩ := okU_s g1
  obtain ⟨b1, b2, b3, b4⟩ := no4_s g2
  exact ⟨_, h.add ⟨a1, a2, a3, g_age b1 b2 b3 b4 g3 g5 g4⟩, N, rfl⟩
theorem PAR.pol {R B : Nat} (h : PAR T P m) (N : NMP P K r C) (hK : 1 ≤ K ∧ K < 5) (hR : R < 5) (hB : B < 15) : ∃ P2, PAR (T ++ uPol R B) P2 (m + 1) ∧ NMP P2 K r C ∧ lBuf P2.1 = lBuf P.1 := by
  have g := ck_pol R hR B hB
  unfold ckPol at g
  simp only [Bool.and_eq_true, decide_eq_true_eq, Bool.not_eq_true'] at g
  obtain ⟨⟨⟨⟨⟨g1, g2⟩, g3⟩, g5⟩, g6⟩, g4⟩ := g
  obtain ⟨a1, a2, a3⟩ := okU_s g1
  exact ⟨_, h.add ⟨a1, a2, a3, g_pol g2 g3 g5 g6 g4 ((N.fnd _).trans (ck_fa K hK.2 hK.1))⟩, N, rfl⟩
theorem PAR.rule {u : List Int} (h : PAR T P m) (N : NMP P K r C) (hr : r < 8) (g : ckRule K u = true) : ∃ P2, PAR (T ++ u) P2 (m + 1) ∧ NMP P2 K (r + 1) C ∧ lBuf P2.1 = lBuf P.1 := by
  unfold ckRule at g
  simp only [Bool.and_eq_true, decide_eq_true_eq, Bool.not_eq_true'] at g
  obtain ⟨⟨⟨⟨⟨g1, g2⟩, g3⟩, g5⟩, g6⟩, g4⟩ := g
  obtain ⟨a1, a2, a3⟩ := okU_s g1
  refine ⟨_, h.add ⟨a1, a2, a3, g_rule N.fnd g2 g3 g5 g6 g4 (by rw [N.2.1]; omega)⟩, ⟨N.1, ?_, N.2.2⟩, rfl⟩
  show lRules P.1 + 1 = r + 1
  rw [N.2.1]
theorem ck_atom {K : Nat} (hK : 2 ≤ K ∧ K < 5) (ps ng o sz : Bool) {x y : Nat} (hx : if sz = true then 3 ≤ x ∧ x < 9 ∧ y = 0 else x < 6 ∧ y < 6) : ckRule K (uRule ps ng o (uAtom sz x y)) = true := by
  cases sz with
  | true =>
    rw [if_pos rfl] at hx
    obtain ⟨h1, h2, rfl⟩ := hx
    have := ck_r1 K hK.2 hK.1 ps ng o (x - 3) (by omega)
    rwa [show 3 + (x - 3) = x by omega] at this
  | false =>
    rw [if_neg (by decide)] at hx
    rcases (show K = 2 ∨ K = 3 ∨ K = 4 by omega) with e | e | e <;> subst e
    · exact ck_r2 ps ng o x hx.1 y hx.2
    · exact ck_r3 ps ng o x hx.1 y hx.2
    · exact ck_r4 ps ng o x hx.1 y hx.2
theorem uSet_e {T : List Int} {a b c : Nat} : T ++ stb.getD 31 [] ++ dgz a ++ stb.getD 32 [] ++ dgz b ++ stb.getD 33 [] ++ dgz c ++ stb.getD 30 [] = T ++ uSet 0 a ++ uSet 1 b ++ uSet 2 c := by
  have e1 : stb.getD 32 [] = stb.getD 30 [] ++ (stb.getD 32 []).drop 1 := by decide +kernel
  have e2 : stb.getD 33 [] = stb.getD 30 [] ++ (stb.getD 33 []).drop 1 := by decide +kernel
  rw [e1, e2]
  show _ = T ++ (stb.getD 31 [] ++ dgz a ++ stb.getD 30 []) ++ ((stb.getD 32 []).drop 1 ++ dgz b ++ stb.getD 30 []) ++ ((stb.getD 33 []).drop 1 ++ dgz c ++ stb.getD 30 [])
  simp only [List.append_assoc]
end LOS
