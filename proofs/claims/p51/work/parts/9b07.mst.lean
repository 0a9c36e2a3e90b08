/-! while the text is built: the generator 0, the maker 1, the class from 2 on, the capacities 165, the builder 166 -/
def CWe (S : List (Nat × Nat)) (I : Ix) (T : Nat → Nat → Nat) : Prop := ∃ (q y : Nat) (h : Hi) (l : Li) (a : Nat → Nat) (ne np : Nat) (su : Su) (cd : Nat → Cd) (nm : Nat → List Nat) (L : List Nat) (bf : Nat → Int) (eo ek : Int), CW S T I 2 q y h l a ne np su cd 2 nm L bf 0 eo ek
def MB (S : List (Nat × Nat)) (I : Ix) (T : Nat → Nat → Nat) : Prop := S[0]? = some (0, 11) ∧ S[1]? = some (0, 10) ∧ S[165]? = some (1, 4) ∧ T 1 0 = 3 ∧ T 1 4 = 166 ∧ CWe S I T
/-- the text t so far: the maker's numbers fs, the capacities C of the first k ports; all of it below N -/
def MC (N : Nat) (fs : List (Nat × Int)) (C : Nat → Nat) (k : Nat) (t : List Int) (B cap : Nat) (S : List (Nat × Nat)) (I : Ix) (T : Nat → Nat → Nat) : Prop := MB S I T ∧ (∀ f ∈ fs, I 1 f.1 = f.2) ∧ (∀ p, p < k → I 165 p = ((C p : Nat) : Int)) ∧ (t.length ≤ B ∧ (∀ x ∈ t, 0 ≤ x ∧ x < 128)) ∧ ∃ v, SBd S I T 166 v cap t ∧ v < N
def MS (fs : List (Nat × Int)) (C : Nat → Nat) (k : Nat) (t : List Int) (B cb zb : Nat) (S : List (Nat × Nat)) (I : Ix) (T : Nat → Nat → Nat) (cc zz : Nat) : Prop := ∃ cap, MC S.length fs C k t B cap S I T ∧ cb ≤ cc + cap ∧ zb ≤ zz + 2 * cap
/-- and another builder b with u -/
def MI (fs : List (Nat × Int)) (C : Nat → Nat) (k : Nat) (t : List Int) (B cb zb b : Nat) (u : List Int) (S : List (Nat × Nat)) (I : Ix) (T : Nat → Nat → Nat) (cc zz : Nat) : Prop := ∃ N cap v cap2, MC N fs C k t B cap S I T ∧ N ≤ b ∧ SBd S I T b v cap2 u ∧ (∀ x ∈ u, 0 ≤ x ∧ x < 128) ∧ cb ≤ cc + cap + cap2 ∧ zb ≤ zz + 2 * cap + 2 * cap2
/-- and a text o that is u -/
def MOz (fs : List (Nat × Int)) (C : Nat → Nat) (k : Nat) (t : List Int) (B cb zb o : Nat) (u : List Int) (S : List (Nat × Nat)) (I : Ix) (T : Nat → Nat → Nat) (cc zz : Nat) : Prop := ∃ N cap, MC N fs C k t B cap S I T ∧ N ≤ S.length ∧ (∀ x, x < N → STX S I T (vr o) u x) ∧ (∀ x ∈ u, 0 ≤ x ∧ x < 128) ∧ cb ≤ cc + cap ∧ zb ≤ zz + 2 * cap
theorem fu_e {α : Type} {f : Nat → α} {k : Nat} {v : α} : fu f k v k = v := if_pos rfl
theorem fu_o {α : Type} {f : Nat → α} {k x : Nat} {v : α} (h : x ≠ k) : fu f k v x = f x := if_neg h
section MST
variable {fs : List (Nat × Int)} {C : Nat → Nat} {k : Nat} {t u : List Int} {B cb zb N cap b : Nat} {S S' : List (Nat × Nat)} {I I' : Ix} {T T' : Nat → Nat → Nat} {cc zz : Nat}
theorem CWe.mv (h : CWe S I T) (e : ex S S') (f : ∀ z w, 2 ≤ z → z < 165 → I' z w = I z w ∧ T' z w = T z w) : CWe S' I' T' := by
  obtain ⟨q, y, hh, l, a, ne, np, su, cd, nm, L, bf, eo, ek, W⟩ := h
  exact ⟨q, y, hh, l, a, ne, np, su, cd, nm, L, bf, eo, ek, W.mv e fun z w h1 h2 => f z w h1 (by omega)⟩
theorem SBd.mv {v : Nat} (h : SBd S I T b v cap t) (e : ex S S') (f1 : ∀ w, T' b w = T b w) (f2 : ∀ w, I' b w = I b w) (f3 : ∀ w, I' v w = I v w) : SBd S' I' T' b v cap t := by
  obtain ⟨h1, h2, h3, h4, h5, h6, h7, h8, h9⟩ := h
  exact ⟨e _ _ h1, (f1 _).trans h2, e _ _ h3, h4, h5, h6, (f2 _).trans h7, (f2 _).trans h8, fun j hj => (f3 j).trans (h9 j hj)⟩
theorem MC.mv (h : MC N fs C k t B cap S I T) (e : ex S S') (f : ∀ z w, z < N → z ≠ 0 → I' z w = I z w ∧ T' z w = T z w) : MC N fs C k t B cap S' I' T' := by
  obtain ⟨⟨b1, b2, b3, b4, b5, b6⟩, h2, h3, h4, v, h5, h6⟩ := h
  have hv := h5.2.2.2.1
  refine ⟨⟨e _ _ b1, e _ _ b2, e _ _ b3, ((f 1 0 (by omega) (by omega)).2).trans b4, ((f 1 4 (by omega) (by omega)).2).trans b5, b6.mv e fun z w h1 h2 => f z w (by omega) (by omega)⟩, fun g hg => ((f 1 _ (by omega) (by omega)).1).trans (h2 g hg), fun p hp => ((f 165 p (by omega) (by omega)).1).trans (h3 p hp), h4, v, h5.mv e (fun w => (f 166 w (by omega) (by omega)).2) (fun w => (f 166 w (by omega) (by omega)).1) (fun w => (f v w h6 (by omega)).1), h6⟩
theorem MC.le {N' : Nat} (h : MC N fs C k t B cap S I T) (hN : N ≤ N') : MC N' fs C k t B cap S I T := by
  obtain ⟨h1, h2, h3, h4, v, h5, h6⟩ := h
  exact ⟨h1, h2, h3, h4, v, h5, by omega⟩
theorem ex.r : ex S S := fun _ _ h => h
/-- the generator has gone on -/
theorem MC.r {x : Int} (h : MC N fs C k t B cap S I T) : MC N fs C k t B cap S (up I 0 0 x) T := h.mv ex.r fun z w _ hz => ⟨up_out (by omega), rfl⟩
theorem MS.r {x : Int} (h : MS fs C k t B cb zb S I T cc zz) : MS fs C k t B cb zb S (up I 0 0 x) T cc zz := by
  obtain ⟨cap, h1, h2⟩ := h
  exact ⟨cap, h1.r, h2⟩
theorem MI.r {x : Int} (h : MI fs C k t B cb zb b u S I T cc zz) : MI fs C k t B cb zb b u S (up I 0 0 x) T cc zz := by
  obtain ⟨N, cap, v, cap2, h1, h2, h3, h4⟩ := h
  obtain ⟨_, _, _, _, v0, g1, g2⟩ := id h1
  have := g1.2.2.2.1
  have := h3.2.2.2.1
  exact ⟨N, cap, v, cap2, h1.r, h2, h3.mv ex.r (fun _ => rfl) (fun w => up_out (by omega)) (fun w => up_out (by omega)), h4⟩
/-- the maker's number j -/
theorem MS.f1 {j : Nat} {x : Int} (h : MS fs C k t B cb zb S I T cc zz) (hj : ∀ f ∈ fs, f.1 ≠ j) : MS ((j, x) :: fs) C k t B cb zb S (up I 1 j x) T cc zz := by
  obtain ⟨cap, ⟨⟨b1, b2, b3, b4, b5, b6⟩, h2, h3, h4, v, h5, h6⟩, h7⟩ := h
  have hv := h5.2.2.2.1
  refine ⟨cap, ⟨⟨b1, b2, b3, b4, b5, b6.mv ex.r fun z w _ _ => ⟨up_out (by omega), rfl⟩⟩, fun g hg => ?_, fun p hp => (up_out (by omega)).trans (h3 p hp), h4, v, h5.mv ex.r (fun _ => rfl) (fun w => up_out (by omega)) (fun w => up_out (by omega)), h6⟩, h7⟩
  rcases List.mem_cons.mp hg with rfl | hg
  · exact up_eq
  · exact (up_out (fun q => hj g hg q.2)).trans (h2 g hg)
/-- the next capacity -/
theorem MS.c1 {x : Nat} (h : MS fs C k t B cb zb S I T cc zz) : MS fs (fu C k x) (k + 1) t B cb zb S (up I 165 k ((x : Nat) : Int)) T cc zz := by
  obtain ⟨cap, ⟨⟨b1, b2, b3, b4, b5, b6⟩, h2, h3, h4, v, h5, h6⟩, h7⟩ := h
  have hv := h5.2.2.2.1
  refine ⟨cap, ⟨⟨b1, b2, b3, b4, b5, b6.mv ex.r fun z w _ _ => ⟨up_out (by omega), rfl⟩⟩, fun g hg => (up_out (by omega)).trans (h2 g hg), fun p hp => ?_, h4, v, h5.mv ex.r (fun _ => rfl) (fun w => up_out (by omega)) (fun w => up_out (by omega)), h6⟩, h7⟩
  by_cases e : p = k
  · subst e
    rw [up_eq, fu_e]
  · rw [up_out (by omega), fu_o e]
    exact h3 p (by omega)
theorem MS.b0 (h : MS fs C k t B cb zb S I T cc zz) : MB S I T := by
  obtain ⟨cap, h1, _⟩ := h
  exact h1.1
theorem MS.fx {j : Nat} {x : Int} (h : MS fs C k t B cb zb S I T cc zz) (hj : (j, x) ∈ fs) : I 1 j = x := by
  obtain ⟨cap, h1, _⟩ := h
  exact h1.2.1 _ hj
theorem MS.cx {p : Nat} (h : MS fs C k t B cb zb S I T cc zz) (hp : p < k) : I 165 p = ((C p : Nat) : Int) := by
  obtain ⟨cap, h1, _⟩ := h
  exact h1.2.2.1 _ hp
theorem MS.lo (h : MS fs C k t B cb zb S I T cc zz) {cb' zb' B' : Nat} (h1 : cb' ≤ cb) (h2 : zb' ≤ zb) (h3 : B ≤ B') : MS fs C k t B' cb' zb' S I T cc zz := by
  obtain ⟨cap, ⟨g1, g2, g3, g4, g5⟩, g6, g7⟩ := h
  exact ⟨cap, ⟨g1, g2, g3, ⟨by omega, g4.2⟩, g5⟩, by omega, by omega⟩
/-- what an append to the builder leaves -/
theorem MC.ap {u : List Int} {v cap1 cc1 zz1 v1 : Nat} {S1 : List (Nat × Nat)} {I1 : Ix} {T1 : Nat → Nat → Nat} (h : MC N fs C k t B cap S I T) (hv : SBd S I T 166 v cap t) (hN : N ≤ S.length) (B1 : SBd S1 I1 T1 166 v1 cap1 (t ++ u)) (g : GRW 166 v cap v1 cap1 S I T cc zz S1 I1 T1 cc1 zz1) (hu : ∀ x ∈ u, 0 ≤ x ∧ x < 128) {n : Nat} (hn : u.length ≤ n) : MC S1.length fs C k (t ++ u) (B + n) cap1 S1 I1 T1 := by
  obtain ⟨⟨b1, b2, b3, b4, b5, b6⟩, h2, h3, h4, v0, h5, h6⟩ := h
  have hvv : v0 = v := by have := h5.2.1.symm.trans hv.2.1; omega
  subst hvv
  have h7 := hv.2.2.2.1
  obtain ⟨g1, g2, g3, g4, g5, g6, g7⟩ := g
  have e : ex S S1 := fun _ _ h => sh_ap g1 h
  refine ⟨⟨e _ _ b1, e _ _ b2, e _ _ b3, (g3 1 0 (by omega) (by omega)).trans b4, (g3 1 4 (by omega) (by omega)).trans b5, b6.mv e fun z w h1 h2 => ⟨g2 z w (by omega) (by omega) (by omega), g3 z w (by omega) (by omega)⟩⟩, fun f hf => (g2 1 _ (by omega) (by omega) (by omega)).trans (h2 f hf), fun p hp => (g2 165 p (by omega) (by omega) (by omega)).trans (h3 p hp), ⟨by rw [List.length_append]; omega, fun x hx => (List.mem_append.mp hx).elim (h4.2 x) (hu x)⟩, v1, B1, len_of B1.2.2.1⟩
end MST
section MWS
variable {xs : List Int} {M r pc : Nat} {ls st rest : List AV} {fs : List (Nat × Int)} {C : Nat → Nat} {k : Nat} {t u : List Int} {B cb zb b : Nat} {S : List (Nat × Nat)} {I : Ix} {T : Nat → Nat → Nat} {cc zz : Nat} {Q : Res → Mem → Prop}
/-- a number of the generator's -/
theorem m_nx {idx d n : Nat} (hM : MS fs C k t B cb zb S I T cc zz) (h : look M pc = some (.invokevirtual idx, 3, 173, 2, 0, d)) (hst : st = vi ((n : Nat) : Int) :: vr 0 :: rest) (hn : 1 ≤ n ∧ n ≤ 1000) (h3 : rest.length ≤ 8 ∧ rest.all cls1 = true) (hr : 0 < r)
    (kk : ∀ (j : Nat) (I1 : Ix), j < n → MS fs C k t B cb zb S I1 T cc zz → WP xs M r (pc + 3) ls (vi ((j : Nat) : Int) :: rest) (S, I1, T, cc, zz) Q) : WP xs M r pc ls st (S, I, T, cc, zz) Q := by
  refine x_iv [vi ((n : Nat) : Int)] rest h (Or.inl rfl) hst rfl h3 (by rw [mx_173]; exact Nat.le_of_ble_eq_true rfl) (by rw [mt_173]; exact hM.b0.1) (by rw [mt_173]; decide) (by rw [rk_173]; exact hr) (c_173 hM.b0.1 hn) (fun v m1 h1 => ?_)
  obtain ⟨j, x, hj, rfl, rfl⟩ := h1
  exact kk j _ hj hM.r
theorem i_nx {idx d n : Nat} (hM : MI fs C k t B cb zb b u S I T cc zz) (h : look M pc = some (.invokevirtual idx, 3, 173, 2, 0, d)) (hst : st = vi ((n : Nat) : Int) :: vr 0 :: rest) (hn : 1 ≤ n ∧ n ≤ 1000) (h3 : rest.length ≤ 8 ∧ rest.all cls1 = true) (hr : 0 < r)
    (kk : ∀ (j : Nat) (I1 : Ix), j < n → MI fs C k t B cb zb b u S I1 T cc zz → WP xs M r (pc + 3) ls (vi ((j : Nat) : Int) :: rest) (S, I1, T, cc, zz) Q) : WP xs M r pc ls st (S, I, T, cc, zz) Q := by
  have h0 : S[0]? = some (0, 11) := by
    obtain ⟨N, cap, v, cap2, h1, _⟩ := hM
    exact h1.1.1
  refine x_iv [vi ((n : Nat) : Int)] rest h (Or.inl rfl) hst rfl h3 (by rw [mx_173]; exact Nat.le_of_ble_eq_true rfl) (by rw [mt_173]; exact h0) (by rw [mt_173]; decide) (by rw [rk_173]; exact hr) (c_173 h0 hn) (fun v m1 h1 => ?_)
  obtain ⟨j, x, hj, rfl, rfl⟩ := h1
  exact kk j _ hj hM.r
theorem dgz_b {n : Nat} (h : n < 100) : ∀ x ∈ dgz n, 0 ≤ x ∧ x < 128 := by
  unfold dgz
  split
  · intro x hx
    rw [List.mem_singleton.mp hx]
    omega
  · intro x hx
    rcases List.mem_cons.mp hx with e | e
    · rw [e]; omega
    · rw [List.mem_singleton.mp e]; omega
theorem stb_bb {q : Nat} : ∀ x ∈ stb.getD q [], 0 ≤ x ∧ x < 128 := by
  intro x hx
  have hb : ∀ t ∈ stb, ∀ x ∈ t, 0 ≤ x ∧ x < 128 := by decide +kernel
  rw [List.getD_eq_getElem?_getD] at hx
  cases e : stb[q]? with
  | none => rw [e] at hx; cases hx
  | some r => rw [e] at hx; exact hb r (List.mem_of_getElem? e) x hx
/-- appends to the builder -/
theorem m_app {idx d j n : Nat} {w : AV} (hM : MS fs C k t B cb zb S I T cc zz) (h : look M pc = some (.invokevirtual idx, 3, j, 2, 0, d)) (hst : st = w :: vr 166 :: rest) (h3 : rest.length ≤ 8 ∧ rest.all cls1 = true) (h4 : (lex [vr 166, w]).length ≤ mxl j) (hj : mtc j = 13) (hr : rkA j [vr 166, w] < r) (hu : ∀ x ∈ u, 0 ≤ x ∧ x < 128) (hn : u.length ≤ n) (hB : B + n ≤ 300) (hz : 10000 ≤ zb ∧ 5000 ≤ cb)
    (sp : ∀ v cap, SBd S I T 166 v cap t → t.length + u.length ≤ 300 → 1 ≤ cc → 602 ≤ zz → CL xs j [vr 166, w] (S, I, T, cc, zz) (RX (BP 166 v cap (t ++ u) S I T cc zz)))
    (kk : ∀ S1 I1 T1 c1 z1, MS fs C k (t ++ u) (B + n) cb zb S1 I1 T1 c1 z1 → WP xs M r (pc + 3) ls (vr 166 :: rest) (S1, I1, T1, c1, z1) Q) : WP xs M r pc ls st (S, I, T, cc, zz) Q := by
  obtain ⟨cap, h1, g1, g2⟩ := hM
  obtain ⟨_, _, _, h5, v, h6, h7⟩ := id h1
  have h8 := h6.2.2.2.2.2.1
  refine x_iv [w] rest h (Or.inl rfl) hst rfl h3 h4 (by rw [hj]; exact h6.1) (by rw [hj]; decide) hr (sp v cap h6 (by omega) (by omega) (by omega)) (fun r1 m1 hp => ?_)
  obtain ⟨rfl, S1, I1, T1, c1, z1, v1, cap1, rfl, B1, g⟩ := hp
  have g0 := g
  obtain ⟨-, -, -, -, k5, k6, k7⟩ := g0
  exact kk S1 I1 T1 c1 z1 ⟨cap1, h1.ap h6 (Nat.le_refl _) B1 g hu hn, by omega, by omega⟩
theorem m_as {idx d q : Nat} (n : Nat) (hM : MS fs C k t B cb zb S I T cc zz) (h : look M pc = some (.invokevirtual idx, 3, 196, 2, 0, d)) (hst : st = vs (2 * q + 4) :: vr 166 :: rest) (h3 : rest.length ≤ 8 ∧ rest.all cls1 = true) (hr : rkA 196 [vr 166, vs (2 * q + 4)] < r) (hq : q < 53) (hn : (stb.getD q []).length ≤ n) (hB : B + n ≤ 300) (hz : 10000 ≤ zb ∧ 5000 ≤ cb)
    (kk : ∀ S1 I1 T1 c1 z1, MS fs C k (t ++ stb.getD q []) (B + n) cb zb S1 I1 T1 c1 z1 → WP xs M r (pc + 3) ls (vr 166 :: rest) (S1, I1, T1, c1, z1) Q) : WP xs M r pc ls st (S, I, T, cc, zz) Q :=
  m_app hM h hst h3 (by rw [mx_196]; exact Nat.le_of_ble_eq_true rfl) mt_196 hr stb_bb hn hB hz (fun v cap h1 h2 h3 h4 => c_196 h1 (Or.inl ⟨q, rfl, hq, rfl⟩) h2 h3 h4) kk
theorem m_an {idx d x : Nat} (hM : MS fs C k t B cb zb S I T cc zz) (h : look M pc = some (.invokevirtual idx, 3, 198, 2, 0, d)) (hst : st = vi ((x : Nat) : Int) :: vr 166 :: rest) (h3 : rest.length ≤ 8 ∧ rest.all cls1 = true) (hr : rkA 198 [vr 166, vi ((x : Nat) : Int)] < r) (hx : x < 100) (hB : B + 2 ≤ 300) (hz : 10000 ≤ zb ∧ 5000 ≤ cb)
    (kk : ∀ S1 I1 T1 c1 z1, MS fs C k (t ++ dgz x) (B + 2) cb zb S1 I1 T1 c1 z1 → WP xs M r (pc + 3) ls (vr 166 :: rest) (S1, I1, T1, c1, z1) Q) : WP xs M r pc ls st (S, I, T, cc, zz) Q :=
  m_app hM h hst h3 (by rw [mx_198]; exact Nat.le_of_ble_eq_true rfl) mt_198 hr (dgz_b hx) (by rw [dgz_l]; split <;> omega) hB hz (fun v cap h1 h2 h3 h4 => c_198 h1 hx h2 h3 h4) kk
theorem m_ac {idx d x : Nat} (hM : MS fs C k t B cb zb S I T cc zz) (h : look M pc = some (.invokevirtual idx, 3, 197, 2, 0, d)) (hst : st = vi ((x : Nat) : Int) :: vr 166 :: rest) (h3 : rest.length ≤ 8 ∧ rest.all cls1 = true) (hr : rkA 197 [vr 166, vi ((x : Nat) : Int)] < r) (hx : x < 128) (hB : B + 1 ≤ 300) (hz : 10000 ≤ zb ∧ 5000 ≤ cb)
    (kk : ∀ S1 I1 T1 c1 z1, MS fs C k (t ++ [((x : Nat) : Int)]) (B + 1) cb zb S1 I1 T1 c1 z1 → WP xs M r (pc + 3) ls (vr 166 :: rest) (S1, I1, T1, c1, z1) Q) : WP xs M r pc ls st (S, I, T, cc, zz) Q :=
  m_app (n := 1) (u := [((x : Nat) : Int)]) hM h hst h3 (by rw [mx_197]; exact Nat.le_of_ble_eq_true rfl) mt_197 hr (fun y hy => by rw [List.mem_singleton.mp hy]; omega) (Nat.le_refl _) hB hz (fun v cap h1 h2 h3 h4 => c_197 h1 hx h2 h3 h4) kk
/-- a text that is an object -/
theorem m_ao {idx d o n : Nat} (hM : MOz fs C k t B cb zb o u S I T cc zz) (h : look M pc = some (.invokevirtual idx, 3, 196, 2, 0, d)) (hst : st = vr o :: vr 166 :: rest) (h3 : rest.length ≤ 8 ∧ rest.all cls1 = true) (hr : rkA 196 [vr 166, vr o] < r) (hn : u.length ≤ n) (hB : B + n ≤ 300) (hz : 10000 ≤ zb ∧ 5000 ≤ cb)
    (kk : ∀ S1 I1 T1 c1 z1, MS fs C k (t ++ u) (B + n) cb zb S1 I1 T1 c1 z1 → WP xs M r (pc + 3) ls (vr 166 :: rest) (S1, I1, T1, c1, z1) Q) : WP xs M r pc ls st (S, I, T, cc, zz) Q := by
  obtain ⟨N, cap, h1, hN, hS, hu, g1, g2⟩ := hM
  obtain ⟨_, _, _, h5, v, h6, h7⟩ := id h1
  have h8 := h6.2.2.2.2.2.1
  refine x_iv [vr o] rest h (Or.inl rfl) hst rfl h3 (by rw [mx_196]; exact Nat.le_of_ble_eq_true rfl) (by rw [mt_196]; exact h6.1) (by rw [mt_196]; decide) hr (c_196 h6 (hS v h7) (by omega) (by omega) (by omega)) (fun r1 m1 hp => ?_)
  obtain ⟨rfl, S1, I1, T1, c1, z1, v1, cap1, rfl, B1, g⟩ := hp
  have g0 := g
  obtain ⟨-, -, -, -, k5, k6, k7⟩ := g0
  exact kk S1 I1 T1 c1 z1 ⟨cap1, h1.ap h6 hN B1 g hu hn, by omega, by omega⟩
/-- appends to the other builder -/
theorem i_app {idx d j : Nat} {w : AV} {y : List Int} (hM : MI fs C k t B cb zb b u S I T cc zz) (h : look M pc = some (.invokevirtual idx, 3, j, 2, 0, d)) (hst : st = w :: vr b :: rest) (h3 : rest.length ≤ 8 ∧ rest.all cls1 = true) (h4 : (lex [vr b, w]).length ≤ mxl j) (hj : mtc j = 13) (hr : rkA j [vr b, w] < r) (hy : ∀ x ∈ y, 0 ≤ x ∧ x < 128) (hB : u.length + y.length ≤ 300) (hz : 10000 ≤ zb ∧ 5000 ≤ cb)
    (sp : ∀ v cap, SBd S I T b v cap u → u.length + y.length ≤ 300 → 1 ≤ cc → 602 ≤ zz → CL xs j [vr b, w] (S, I, T, cc, zz) (RX (BP b v cap (u ++ y) S I T cc zz)))
    (kk : ∀ S1 I1 T1 c1 z1, MI fs C k t B cb zb b (u ++ y) S1 I1 T1 c1 z1 → WP xs M r (pc + 3) ls (vr b :: rest) (S1, I1, T1, c1, z1) Q) : WP xs M r pc ls st (S, I, T, cc, zz) Q := by
  obtain ⟨N, cap, v, cap2, h1, hN, h6, hu, g1, g2⟩ := hM
  obtain ⟨_, _, _, h5, v0, k6, k7⟩ := id h1
  have h8 := h6.2.2.2.2.2.1
  have h9 := k6.2.2.2.2.2.1
  have hbv := h6.2.2.2.1
  have hbl := len_of h6.1
  refine x_iv [w] rest h (Or.inl rfl) hst rfl h3 h4 (by rw [hj]; exact h6.1) (by rw [hj]; decide) hr (sp v cap2 h6 hB (by omega) (by omega)) (fun r1 m1 hp => ?_)
  obtain ⟨rfl, S1, I1, T1, c1, z1, v1, cap1, rfl, B1, g⟩ := hp
  obtain ⟨e1, e2, e3, e4, e5, e6, e7⟩ := g
  exact kk S1 I1 T1 c1 z1 ⟨N, cap, v1, cap1, h1.mv (fun _ _ h => sh_ap e1 h) (fun z w hz _ => ⟨e2 z w (by omega) (by omega) (by omega), e3 z w (by omega) (by omega)⟩), hN, B1, fun x hx => (List.mem_append.mp hx).elim (hu x) (hy x), by omega, by omega⟩
theorem i_as {idx d q : Nat} (hM : MI fs C k t B cb zb b u S I T cc zz) (h : look M pc = some (.invokevirtual idx, 3, 196, 2, 0, d)) (hst : st = vs (2 * q + 4) :: vr b :: rest) (h3 : rest.length ≤ 8 ∧ rest.all cls1 = true) (hr : rkA 196 [vr b, vs (2 * q + 4)] < r) (hq : q < 53) (hB : u.length + (stb.getD q []).length ≤ 300) (hz : 10000 ≤ zb ∧ 5000 ≤ cb)
    (kk : ∀ S1 I1 T1 c1 z1, MI fs C k t B cb zb b (u ++ stb.getD q []) S1 I1 T1 c1 z1 → WP xs M r (pc + 3) ls (vr b :: rest) (S1, I1, T1, c1, z1) Q) : WP xs M r pc ls st (S, I, T, cc, zz) Q :=
  i_app hM h hst h3 (by rw [mx_196]; exact Nat.le_of_ble_eq_true rfl) mt_196 hr stb_bb hB hz (fun v cap h1 h2 h3 h4 => c_196 h1 (Or.inl ⟨q, rfl, hq, rfl⟩) h2 h3 h4) kk
theorem i_an {idx d x : Nat} (hM : MI fs C k t B cb zb b u S I T cc zz) (h : look M pc = some (.invokevirtual idx, 3, 198, 2, 0, d)) (hst : st = vi ((x : Nat) : Int) :: vr b :: rest) (h3 : rest.length ≤ 8 ∧ rest.all cls1 = true) (hr : rkA 198 [vr b, vi ((x : Nat) : Int)] < r) (hx : x < 100) (hB : u.length + (dgz x).length ≤ 300) (hz : 10000 ≤ zb ∧ 5000 ≤ cb)
    (kk : ∀ S1 I1 T1 c1 z1, MI fs C k t B cb zb b (u ++ dgz x) S1 I1 T1 c1 z1 → WP xs M r (pc + 3) ls (vr b :: rest) (S1, I1, T1, c1, z1) Q) : WP xs M r pc ls st (S, I, T, cc, zz) Q :=
  i_app hM h hst h3 (by rw [mx_198]; exact Nat.le_of_ble_eq_true rfl) mt_198 hr (dgz_b hx) hB hz (fun v cap h1 h2 h3 h4 => c_198 h1 hx h2 h3 h4) kk
/-- the other builder's start: an object, its constructor -/
theorem i_new {i1 d1 i2 d2 : Nat} {tl : Nat × Nat × Nat × Nat} (hM : MS fs C k t B cb zb S I T cc zz) (h : look M pc = some (.new i1, 3, 13, 4, 0, d1)) (h' : look M (pc + 3) = some (.dup, 1, tl)) (h'' : look M (pc + 3 + 1) = some (.invokespecial i2, 3, 195, 1, 2, d2)) (h3 : st.length ≤ 3) (hr : 2 < r) (hz : 10000 ≤ zb ∧ 5000 ≤ cb)
    (kk : ∀ S1 I1 T1 c1 z1 b, MI fs C k t B (cb - 2) (zb - 20) b [] S1 I1 T1 c1 z1 → WP xs M r (pc + 3 + 1 + 3) ls (vr b :: st) (S1, I1, T1, c1, z1) Q) : WP xs M r pc ls st (S, I, T, cc, zz) Q := by
  obtain ⟨cap, h1, g1, g2⟩ := hM
  obtain ⟨_, _, _, h5, v0, k6, k7⟩ := id h1
  have h9 := k6.2.2.2.2.2.1
  refine w_nw h (by omega) (by omega) ?_
  refine w_dup h' rfl ?_
  refine x_cs [] (vr S.length :: st) h'' (Or.inl rfl) rfl rfl (by simp only [List.length_cons]; omega) (by rw [mx_195]; exact Nat.le_of_ble_eq_true rfl) (by rw [rk_195]; omega) (c_195 (ap_e rfl) (zr_e) (by omega) (by omega)) (fun v m1 hh => ?_)
  obtain ⟨rfl, I1, T1, rfl, B1, e1⟩ := hh
  have el : (S ++ [(0, 13)]).length = S.length + 1 := by simp
  refine kk _ I1 T1 _ _ S.length ⟨S.length, cap, _, 16, h1.mv (fun j x hj => ap_l (ap_l hj)) (fun z w hz _ => ?_), Nat.le_refl _, B1, fun x hx => (by cases hx), by omega, by omega⟩
  have := e1 z w (by omega) (by omega)
  rw [this.1, this.2, zr_o (by omega), zt_o (by omega)]
  exact ⟨rfl, rfl⟩
/-- its text -/
theorem i_str {idx d : Nat} (hM : MI fs C k t B cb zb b u S I T cc zz) (h : look M pc = some (.invokevirtual idx, 3, 199, 1, 0, d)) (hst : st = vr b :: rest) (h3 : rest.length ≤ 8 ∧ rest.all cls1 = true) (hr : rkA 199 [vr b] < r) (hB : u.length ≤ 300) (hz : 10000 ≤ zb ∧ 5000 ≤ cb)
    (kk : ∀ S1 I1 T1 c1 z1 o, MOz fs C k t B (cb - 602) (zb - 1504) o u S1 I1 T1 c1 z1 → WP xs M r (pc + 3) ls (vr o :: rest) (S1, I1, T1, c1, z1) Q) : WP xs M r pc ls st (S, I, T, cc, zz) Q := by
  obtain ⟨N, cap, v, cap2, h1, hN, h6, hu, g1, g2⟩ := hM
  obtain ⟨_, _, _, h5, v0, k6, k7⟩ := id h1
  have h8 := h6.2.2.2.2.2.1
  have h9 := k6.2.2.2.2.2.1
  have hbl := len_of h6.1
  refine x_iv [] rest h (Or.inl rfl) hst rfl h3 (by rw [mx_199]; exact Nat.le_of_ble_eq_true rfl) (by rw [mt_199]; exact h6.1) (by rw [mt_199]; decide) hr (c_199 h6 (by omega) (by omega)) (fun r1 m1 hp => ?_)
  obtain ⟨rfl, I1, T1, rfl, e1, e2⟩ := hp
  exact kk _ I1 T1 _ _ S.length ⟨N, cap, h1.mv (fun j x hj => ap_l hj) (fun z w hz _ => e2 z w (by omega)), by rw [List.length_append]; omega, fun x hx => e1 x (by omega), hu, by omega, by omega⟩
end MWS
