/-! the maker's constructor, as a whole -/
/-- what the maker holds: the class made of the text -/
def MADE (ports rules space : Nat) (l : Li) (S : List (Nat × Nat)) (I : Ix) (T : Nat → Nat → Nat) : Prop := S[0]? = some (0, 11) ∧ S[1]? = some (0, 10) ∧ S[165]? = some (1, 4) ∧ T 1 0 = 3 ∧ T 1 4 = 166 ∧ I 1 1 = ((ports : Nat) : Int) ∧ I 1 2 = ((rules : Nat) : Int) ∧ I 1 3 = ((space : Nat) : Int) ∧ I 1 5 = 1 ∧ (∀ p, p < ports → I 165 p = ((lCap l p : Nat) : Int)) ∧ lPorts l = ports ∧ lRules l = rules ∧ lBuf l = space ∧ okLi l ∧ 2 ≤ ports ∧ ports ≤ 4 ∧ 166 ≤ S.length
section MDE
variable {xs : List Int} {Q : Res → Mem → Prop} {ports rules space : Nat} {cb zb : Nat}
theorem CWe.b0 {S : List (Nat × Nat)} {I : Ix} {T : Nat → Nat → Nat} (h : CWe S I T) : ∃ (q y : Nat) (h : Hi) (l : Li) (a : Nat → Nat) (ne np : Nat) (su : Su) (cd : Nat → Cd) (nm : Nat → List Nat) (L : List Nat) (eo ek : Int), CW S T I 2 q y h l a ne np su cd 2 nm L (fun _ => 0) 0 eo ek := by
  obtain ⟨q, y, hh, l, a, ne, np, su, cd, nm, L, bf, eo, ek, W⟩ := h
  exact ⟨q, y, hh, l, a, ne, np, su, cd, nm, L, eo, ek, W.1, W.2.1, W.2.2.1, ⟨W.inp.1, W.inp.2.1, fun j hj => absurd hj (Nat.not_lt_zero j)⟩, W.2.2.2.2⟩

theorem c_199' {S : List (Nat × Nat)} {I : Ix} {T : Nat → Nat → Nat} {cc zz b v cap : Nat} {t : List Int} (h : SBd S I T b v cap t) (h1 : 2 ≤ cc) (h2 : 4 + t.length ≤ zz) : CL xs 199 [vr b] (S, I, T, cc, zz) (RX (fun r m1 => r = some (vr S.length) ∧ ∃ I1 T1, m1 = (S ++ [(0, 12), (3, t.length)], I1, T1, cc - 2, zz - 4 - t.length) ∧ TXT (S ++ [(0, 12), (3, t.length)]) I1 T1 S.length (S.length + 1) t ∧ (∀ z w, z < S.length → I1 z w = I z w ∧ T1 z w = T z w))) := by
  refine CL_mono (c_199 h h1 h2) fun q m1 ⟨v1, e1, e2, I1, T1, e3, e4, e5⟩ => ⟨v1, e1, e2, I1, T1, e3, ?_, e5⟩
  have hl := len_of h.1
  rcases e4 b hl with ⟨q1, w1, -⟩ | ⟨o, a, w1, w2, w3, w4, w5, w6, -⟩
  · cases w1
  · cases w1
    have ha : ∀ x, x < S.length → a ≠ x := fun x hx => by
      rcases e4 x hx with ⟨q1, w1, -⟩ | ⟨o2, a2, g1, g2, g3, g4, g5, g6, g7⟩
      · cases w1
      · cases g1
        rw [w3] at g3
        omega
    have hal := len_of w4
    rw [List.length_append] at hal
    have h3 : a ≠ S.length := fun e => by
      subst e
      rw [w2] at w4
      cases w4
    have h4 : a = S.length + 1 := by
      simp only [List.length_cons, List.length_nil] at hal
      refine Classical.byContradiction fun q => ?_
      exact ha a (by omega) rfl
    rw [h4] at w3 w4 w6
    exact ⟨w2, w3, w4, w5, w6⟩
/-- what is there when the maker is -/
def MPO (S : List (Nat × Nat)) (I : Ix) (T : Nat → Nat → Nat) : Prop := ∃ (ports rules space : Nat) (h : Hi) (P : Ps) (bf : Nat → Int) (a : Nat → Nat) (q y : Nat) (L : List Nat), MADE ports rules space P.1 S I T ∧ CW S T I 2 q y h P.1 a 0 (arr h 0) su0 P.2.2 3 P.2.1 L bf 0 (-1) 0
theorem PAR.ne {t : List Int} {P : Ps} {m : Nat} (hA : PAR t P m) (h : lPorts P.1 ≠ 0) : t ≠ [] := fun e => by
  subst e
  have h0 : m = 0 := Nat.le_zero.mp hA.1
  subst h0
  have h1 := hA.2.2 (fun _ => 0) 0 0 (fun j hj => absurd hj (Nat.not_lt_zero j)) (Nat.le_refl _) (fun q => absurd q (Nat.lt_irrefl _))
  have h2 : ps0 = P := Sum.inr.inj h1
  rw [← h2] at h
  exact h rfl

theorem en_167 (hp : 2 ≤ ports ∧ ports ≤ 4) (hr : rules ≤ 2) (hb : 20000 ≤ zb ∧ 10000 ≤ cb) {C : Nat → Nat} {S : List (Nat × Nat)} {I : Ix} {T : Nat → Nat → Nat} {cc zz m : Nat} {t : List Int} {P : Ps} (hM : MS [(2, ((rules : Nat) : Int)), (3, ((space : Nat) : Int)), (1, ((ports : Nat) : Int))] C ports t (97 + 59 * rules) (cb - 1000 * rules) (zb - 2000 * rules) S I T cc zz) (hA : PAR t P m) (N : NMP P ports rules C) (hbu : lBuf P.1 = space) : WP xs 167 35 397 [vr 1, vr 0, vr 166, vi ((rules : Nat) : Int)] [] (S, I, T, cc, zz) (RX (fun r m1 => r = none ∧ ∃ S1 I1 T1 c1 z1, m1 = (S1, I1, T1, c1, z1) ∧ MPO S1 I1 T1 ∧ cb ≤ c1 + 5000 ∧ zb ≤ z1 + 10000)) := by
  obtain ⟨cap, hC, g1, g2⟩ := id hM
  obtain ⟨_, _, _, h5, v, h6, h7⟩ := id hC
  have hv := h6.2.2.2.1
  have hvl := len_of h6.2.2.1
  have hbl := h6.2.2.2.2.2.1
  refine w_aln l_167_397 rfl ?_
  refine w_aln l_167_398 rfl ?_
  refine w_gr l_167_399 hM.b0.2.1 hM.b0.2.2.2.1 ?_
  refine w_aln l_167_402 rfl ?_
  refine x_iv [] [vr 2, vr 1] l_167_403 (Or.inl rfl) rfl rfl ⟨Nat.le_of_ble_eq_true rfl, rfl⟩ (by rw [mx_199]; exact Nat.le_of_ble_eq_true rfl) (by rw [mt_199]; exact h6.1) (by rw [mt_199]; decide) (by rw [rk_199]; decide) (c_199' h6 (by omega) (by omega)) (fun v1 m1 h1 => ?_)
  obtain ⟨rfl, I1, T1, rfl, hX, f1⟩ := h1
  have s1 : (S ++ [(0, 12), (3, t.length)])[1]? = some (0, 10) := ap_l hM.b0.2.1
  refine w_aln l_167_406 rfl ?_
  refine w_gin ((ports : Nat) : Int) l_167_407 (by decide) s1 ((f1 1 1 (by omega)).1.trans (hM.fx (by simp))) ?_
  obtain ⟨q, y, h, l, a, ne, np, su, cd, nm, L, eo, ek, W⟩ := hM.b0.2.2.2.2.2.b0
  have W1 : CW (S ++ [(0, 12), (3, t.length)]) T1 I1 2 q y h l a ne np su cd 2 nm L (fun _ => 0) 0 eo ek := W.mv (fun j x hx => ap_l hx) (fun z w z1 z2 => f1 z w (by omega))
  have el : (S ++ [(0, 12), (3, t.length)]).length = S.length + 2 := by simp
  have hne : t ≠ [] := hA.ne (by rw [N.1]; omega)
  rw [show ((ports : Nat) : Int) = ((lPorts P.1 : Nat) : Int) by rw [N.1]]
  refine x_st [vr 2, vr S.length, vi ((lPorts P.1 : Nat) : Int)] [vr 1] l_167_410 (Or.inr rfl) rfl rfl (Nat.le_of_ble_eq_true rfl) (by rw [mx_212]; exact Nat.le_of_ble_eq_true rfl) (by rw [rk_212]; decide) (c_212 W1 (by omega) hX (by omega) h5.2 (by omega) (hA.fin hne) (by decide) (by omega) (by omega)) (fun v1 m1 h1 => ?_)
  obtain ⟨rfl, S2, I2, T2, c2, z2, rfl, ⟨L1, rfl⟩, ⟨bf2, W2⟩, okP, f2, k1, k2⟩ := h1
  have s1b := ap_l (L := L1) s1
  refine w_piz l_167_413 (by decide) s1b (by decide) ?_
  refine w_vr l_167_416 ?_
  refine ⟨_, rfl, rfl, _, _, _, _, _, rfl, ⟨ports, rules, space, h, P, _, a, _, _, _, ⟨?_, s1b, ?_, ?_, ?_, ?_, ?_, ?_, up_eq, fun p hp => ?_, N.1, N.2.1, hbu, okP.1, hp.1, hp.2, ?_⟩, W2.mv ex.r (fun z w z1 z2 => ⟨up_out (by omega), rfl⟩)⟩, by omega, by omega⟩
  · exact ap_l (ap_l hM.b0.1)
  · exact ap_l (ap_l hM.b0.2.2.1)
  · rw [(f2 1 0 (by omega) (by omega)).2, (f1 1 0 (by omega)).2]; exact hM.b0.2.2.2.1
  · rw [(f2 1 4 (by omega) (by omega)).2, (f1 1 4 (by omega)).2]; exact hM.b0.2.2.2.2.1
  · rw [up_out (by omega), (f2 1 1 (by omega) (by omega)).1, (f1 1 1 (by omega)).1]; exact hM.fx (by simp)
  · rw [up_out (by omega), (f2 1 2 (by omega) (by omega)).1, (f1 1 2 (by omega)).1]; exact hM.fx (by simp)
  · rw [up_out (by omega), (f2 1 3 (by omega) (by omega)).1, (f1 1 3 (by omega)).1]; exact hM.fx (by simp)
  · rw [up_out (by omega), (f2 165 p (by omega) (by omega)).1, (f1 165 p (by omega)).1, hM.cx hp, N.2.2.2 p hp]
  · rw [List.length_append]; omega

end MDE
