/-! contracts: digits, appends, a string out of a builder -/
def BP (b v cap : Nat) (t : List Int) (S : List (Nat × Nat)) (I : Ix) (T : Nat → Nat → Nat) (cc zz : Nat) : Option AV → Mem → Prop := fun r m1 => r = some (vr b) ∧ ∃ S1 I1 T1 c1 z1 v1 cap1, m1 = (S1, I1, T1, c1, z1) ∧ SBd S1 I1 T1 b v1 cap1 t ∧ GRW b v cap v1 cap1 S I T cc zz S1 I1 T1 c1 z1
/-- a builder's row, longer -/
theorem SBd.ap {S : List (Nat × Nat)} {I I1 : Ix} {T : Nat → Nat → Nat} {b v cap : Nat} {t u : List Int} (h : SBd S I T b v cap t) (hc : t.length + u.length ≤ cap) (e1 : I1 b 1 = I b 1) (e2 : I1 b 3 = ((t.length + u.length : Nat) : Int)) (e3 : ∀ w, w < t.length → I1 v w = I v w) (e4 : ∀ j, j < u.length → I1 v (t.length + j) = u.getD j 0) : SBd S I1 T b v cap (t ++ u) := by
  obtain ⟨h1, h2, h3, h4, h5, h6, h7, h8, h9⟩ := h
  refine ⟨h1, h2, h3, h4, by rw [List.length_append]; exact hc, h6, by rw [e1]; exact h7, by rw [List.length_append]; exact e2, fun j hj => ?_⟩
  rw [List.length_append] at hj
  by_cases hjt : j < t.length
  · rw [e3 j hjt, h9 j hjt, List.getD_eq_getElem?_getD, List.getD_eq_getElem?_getD, List.getElem?_append_left hjt]
  · have := e4 (j - t.length) (by omega)
    rw [show t.length + (j - t.length) = j by omega] at this
    rw [this, List.getD_eq_getElem?_getD, List.getD_eq_getElem?_getD, List.getElem?_append_right (by omega)]
/-- what is written into the builder's row alone -/
theorem GRW.w {b v cap v1 cap1 : Nat} {S S1 : List (Nat × Nat)} {I I1 I2 : Ix} {T T1 : Nat → Nat → Nat} {cc c1 zz z1 : Nat} (g : GRW b v cap v1 cap1 S I T cc zz S1 I1 T1 c1 z1) (e : ∀ z w, z ≠ b → z ≠ v1 → I2 z w = I1 z w) : GRW b v cap v1 cap1 S I T cc zz S1 I2 T1 c1 z1 := by
  obtain ⟨h1, h2, h3, h4, h5, h6, h7⟩ := g
  exact ⟨h1, fun z w hz hb hv => by rw [e z w hb (by omega)]; exact h2 z w hz hb hv, h3, h4, h5, h6, h7⟩
/-- a text that is not the row x -/
def STX (S : List (Nat × Nat)) (I : Ix) (T : Nat → Nat → Nat) (v : AV) (t : List Int) (x : Nat) : Prop := (∃ q, v = vs (2 * q + 4) ∧ q < 53 ∧ t = stb.getD q []) ∨ (∃ o a, v = vr o ∧ S[o]? = some (0, 12) ∧ T o 0 = a + 1 ∧ S[a]? = some (3, t.length) ∧ I o 1 = 0 ∧ (∀ j, j < t.length → I a j = t.getD j 0) ∧ a ≠ x)
theorem STX.g {b v cap v1 cap1 : Nat} {S S1 : List (Nat × Nat)} {I I1 : Ix} {T T1 : Nat → Nat → Nat} {cc c1 zz z1 : Nat} {sv : AV} {t u : List Int} (h : STX S I T sv u v) (B : SBd S I T b v cap t) (g : GRW b v cap v1 cap1 S I T cc zz S1 I1 T1 c1 z1) : STX S1 I1 T1 sv u v1 := by
  rcases h with h | ⟨o, a, h1, h2, h3, h4, h5, h6, h7⟩
  · exact Or.inl h
  · obtain ⟨g1, g2, g3, g4, g5, g6, g7⟩ := g
    have ho : o ≠ b := fun e => by rw [e, B.1] at h2; cases h2
    have ha : a ≠ b := fun e => by rw [e, B.1] at h4; cases h4
    have hov : o ≠ v := fun e => by rw [e, B.2.2.1] at h2; cases h2
    have l1 := len_of h2
    have l2 := len_of h4
    exact Or.inr ⟨o, a, h1, sh_ap g1 h2, by rw [g3 o 0 l1 ho]; exact h3, sh_ap g1 h4, by rw [g2 o 1 l1 ho hov]; exact h5, fun j hj => by rw [g2 a j l2 ha h7]; exact h6 j hj, by omega⟩
section WAS
variable {xs : List Int} {M r pc : Nat} {ls st : List AV} {S : List (Nat × Nat)} {I : Ix} {T : Nat → Nat → Nat} {cc zz : Nat} {Q : Res → Mem → Prop}
theorem w_alS {i : Fin 4} {k : Nat} {tl : Nat × Nat × Nat × Nat} {sv : AV} {u : List Int} {x : Nat} (hS : STX S I T sv u x) (h : look M pc = some (.aload_n i, k, tl)) (hx : ls[i.val]? = some sv) (kk : WP xs M r (pc + k) ls (sv :: st) (S, I, T, cc, zz) Q) : WP xs M r pc ls st (S, I, T, cc, zz) Q := by
  rcases hS with ⟨q, rfl, hq, -⟩ | ⟨o, a, rfl, -⟩
  · exact w_asn (x := 2 * q + 1) h hx kk
  · exact w_aln h hx kk
theorem w_nnS {off : Int} {tl : Nat × Nat × Nat × Nat × Nat} {sv : AV} {u : List Int} {x : Nat} (tg : Nat) (hS : STX S I T sv u x) (h : look M pc = some (.ifnonnull off, tl)) (ht : (pc : Int) + off = tg) (kk : WP xs M r tg ls st (S, I, T, cc, zz) Q) : WP xs M r pc ls (sv :: st) (S, I, T, cc, zz) Q := by
  rcases hS with ⟨q, rfl, hq, -⟩ | ⟨o, a, rfl, -⟩
  · exact w_nns (o := 2 * q) tg h ht kk
  · exact w_nnr tg h ht kk
theorem x_ivS {idx k j b d x : Nat} {sv : AV} {u : List Int} {P : Option AV → Mem → Prop} (as rest : List AV) (hS : STX S I T sv u x) (h : look M pc = some (.invokevirtual idx, k, j, b, 0, d)) (hst : st = as.reverse ++ sv :: rest) (h2 : as.length + 1 = b) (h3 : rest.length ≤ 4 ∧ rest.all cls1 = true) (h4 : (lex (sv :: as)).length ≤ mxl j) (hj : mtc j = 12) (hr : rkA j (sv :: as) < r)
    (sp : CL xs j (sv :: as) (S, I, T, cc, zz) (RX P)) (kk : ∀ v m1, P v m1 → WP xs M r (pc + 3) ls (v.toList ++ rest) m1 Q) : WP xs M r pc ls st (S, I, T, cc, zz) Q := by
  rcases hS with ⟨q, rfl, hq, -⟩ | ⟨o, a, rfl, ho, -⟩
  · exact x_ivs as rest h hst h2 h3.1 h4 hq hj hr sp kk
  · exact x_iv as rest h (Or.inl rfl) hst h2 ⟨by omega, h3.2⟩ h4 (by rw [hj]; exact ho) (by rw [hj]; decide) hr sp kk
theorem stb_l3 (q : Nat) (hq : q < 53) : (stb.getD q []).length < 100000 := by have := stb_len2 q hq; omega
end WAS
section WSC
variable {xs : List Int} {S : List (Nat × Nat)} {I : Ix} {T : Nat → Nat → Nat} {cc zz : Nat}

theorem t_299 {sv : AV} {u : List Int} {x : Nat} (h : STX S I T sv u x) (hu : u.length < 2147483648) : CL xs 299 [sv] (S, I, T, cc, zz) (FN (some (vi ((u.length : Nat) : Int))) (S, I, T, cc, zz)) := by
  rcases h with ⟨q, rfl, hq, rfl⟩ | ⟨o, a, rfl, h1, h2, h3, h4, h5, -⟩
  · exact s_299 hq
  · exact o_299 ⟨h1, h4⟩ h2 h3 hu
theorem t_301 {sv : AV} {u : List Int} {x : Nat} (h : STX S I T sv u x) : CL xs 301 [sv] (S, I, T, cc, zz) (FN (some (vi 0)) (S, I, T, cc, zz)) := by
  rcases h with ⟨q, rfl, hq, rfl⟩ | ⟨o, a, rfl, h1, h2, h3, h4, h5, -⟩
  · exact s_301 hq
  · exact o_301 ⟨h1, h4⟩
theorem STX.lex1 {sv : AV} {u : List Int} {x : Nat} (h : STX S I T sv u x) (as : List AV) : lex (sv :: as) = sv :: lex as ∧ cls1 sv = true := by
  rcases h with ⟨q, rfl, -⟩ | ⟨o, a, rfl, -⟩ <;> exact ⟨rfl, rfl⟩

theorem mx_188 : mxl 188 = 4 := by decide +kernel
theorem mt_188 : mtc 188 = 99 := by decide +kernel
theorem rk_188 (as : List AV) : rkA 188 as = 0 := rfl
theorem l_188_0 : look 188 0 = some (.iconst 1, 1, 0, 0, 0, 0) := by decide +kernel
theorem l_188_1 : look 188 1 = some (.istore_n 1, 1, 0, 0, 0, 0) := by decide +kernel
theorem l_188_2 : look 188 2 = some (.iload_n 0, 1, 0, 0, 0, 0) := by decide +kernel
theorem l_188_3 : look 188 3 = some (.ifCond .lt 8, 3, 0, 0, 0, 0) := by decide +kernel
theorem l_188_6 : look 188 6 = some (.iconst 0, 1, 0, 0, 0, 0) := by decide +kernel
theorem l_188_7 : look 188 7 = some (.istore_n 1, 1, 0, 0, 0, 0) := by decide +kernel
theorem l_188_8 : look 188 8 = some (.iload_n 0, 1, 0, 0, 0, 0) := by decide +kernel
theorem l_188_9 : look 188 9 = some (.ineg, 1, 0, 0, 0, 0) := by decide +kernel
theorem l_188_10 : look 188 10 = some (.istore_n 0, 1, 0, 0, 0, 0) := by decide +kernel
theorem l_188_11 : look 188 11 = some (.bipush (-10), 2, 0, 0, 0, 0) := by decide +kernel
theorem l_188_13 : look 188 13 = some (.istore_n 2, 1, 0, 0, 0, 0) := by decide +kernel
theorem l_188_14 : look 188 14 = some (.iconst 1, 1, 0, 0, 0, 0) := by decide +kernel
theorem l_188_15 : look 188 15 = some (.istore_n 3, 1, 0, 0, 0, 0) := by decide +kernel
theorem l_188_16 : look 188 16 = some (.iload_n 3, 1, 0, 0, 0, 0) := by decide +kernel
theorem l_188_17 : look 188 17 = some (.bipush 10, 2, 0, 0, 0, 0) := by decide +kernel
theorem l_188_19 : look 188 19 = some (.if_icmp .ge 23, 3, 0, 0, 0, 0) := by decide +kernel
theorem l_188_22 : look 188 22 = some (.iload_n 0, 1, 0, 0, 0, 0) := by decide +kernel
theorem l_188_23 : look 188 23 = some (.iload_n 2, 1, 0, 0, 0, 0) := by decide +kernel
theorem l_188_24 : look 188 24 = some (.if_icmp .le 7, 3, 0, 0, 0, 0) := by decide +kernel
theorem l_188_27 : look 188 27 = some (.iload_n 3, 1, 0, 0, 0, 0) := by decide +kernel
theorem l_188_28 : look 188 28 = some (.iload_n 1, 1, 0, 0, 0, 0) := by decide +kernel
theorem l_188_29 : look 188 29 = some (.iadd, 1, 0, 0, 0, 0) := by decide +kernel
theorem l_188_30 : look 188 30 = some (.ireturn, 1, 0, 0, 0, 0) := by decide +kernel
theorem l_188_31 : look 188 31 = some (.bipush 10, 2, 0, 0, 0, 0) := by decide +kernel
theorem l_188_33 : look 188 33 = some (.iload_n 2, 1, 0, 0, 0, 0) := by decide +kernel
theorem l_188_34 : look 188 34 = some (.imul, 1, 0, 0, 0, 0) := by decide +kernel
theorem l_188_35 : look 188 35 = some (.istore_n 2, 1, 0, 0, 0, 0) := by decide +kernel
theorem l_188_36 : look 188 36 = some (.iinc 3 1, 3, 0, 0, 0, 0) := by decide +kernel
theorem l_188_39 : look 188 39 = some (.goto (-23), 3, 0, 0, 0, 0) := by decide +kernel
theorem l_188_42 : look 188 42 = some (.bipush 10, 2, 0, 0, 0, 0) := by decide +kernel
theorem l_188_44 : look 188 44 = some (.iload_n 1, 1, 0, 0, 0, 0) := by decide +kernel
theorem l_188_45 : look 188 45 = some (.iadd, 1, 0, 0, 0, 0) := by decide +kernel
theorem l_188_46 : look 188 46 = some (.ireturn, 1, 0, 0, 0, 0) := by decide +kernel
theorem c_188a {n : Nat} (hn : n < 10) : CL xs 188 [vi ((n : Nat) : Int)] (S, I, T, cc, zz) (FN (some (vi 1)) (S, I, T, cc, zz)) := by
  refine CL_start (r := 0) (ls := [vi ((n : Nat) : Int), vs 2, vs 2, vs 2]) (rk_188 _) rfl ?_
  refine w_ic l_188_0 (by decide) ?_
  refine w_isn l_188_1 ⟨Nat.le_of_ble_eq_true rfl, rfl⟩ ?_
  refine w_iln l_188_2 rfl ?_
  refine w_zlt 11 l_188_3 (by decide) (fun hx => absurd hx (by omega)) (fun _ => ?_)
  refine w_ic l_188_6 (by decide) ?_
  refine w_isn l_188_7 ⟨Nat.le_of_ble_eq_true rfl, rfl⟩ ?_
  refine w_iln l_188_8 rfl ?_
  refine w_neg (-(n : Int)) l_188_9 (by unfold wr; omega) ?_
  refine w_isn l_188_10 ⟨Nat.le_of_ble_eq_true rfl, rfl⟩ ?_
  refine w_bp l_188_11 (by decide) ?_
  refine w_isn l_188_13 ⟨Nat.le_of_ble_eq_true rfl, rfl⟩ ?_
  refine w_ic l_188_14 (by decide) ?_
  refine w_isn l_188_15 ⟨Nat.le_of_ble_eq_true rfl, rfl⟩ ?_
  refine w_iln l_188_16 rfl ?_
  refine w_bp l_188_17 (by decide) ?_
  refine w_cge 42 l_188_19 (by decide) (fun hx => absurd hx (by decide)) (fun _ => ?_)
  refine w_iln l_188_22 rfl ?_
  refine w_iln l_188_23 rfl ?_
  refine w_cle 31 l_188_24 (by decide) (fun hx => absurd hx (by omega)) (fun _ => ?_)
  refine w_iln l_188_27 rfl ?_
  refine w_iln l_188_28 rfl ?_
  refine w_add 1 l_188_29 (by decide) ?_
  refine w_ir l_188_30 (Or.inl rfl) ?_
  exact ⟨rfl, rfl⟩

theorem c_188b {n : Nat} (hn : 10 ≤ n) (hn2 : n < 100) : CL xs 188 [vi ((n : Nat) : Int)] (S, I, T, cc, zz) (FN (some (vi 2)) (S, I, T, cc, zz)) := by
  refine CL_start (r := 0) (ls := [vi ((n : Nat) : Int), vs 2, vs 2, vs 2]) (rk_188 _) rfl ?_
  refine w_ic l_188_0 (by decide) ?_
  refine w_isn l_188_1 ⟨Nat.le_of_ble_eq_true rfl, rfl⟩ ?_
  refine w_iln l_188_2 rfl ?_
  refine w_zlt 11 l_188_3 (by decide) (fun hx => absurd hx (by omega)) (fun _ => ?_)
  refine w_ic l_188_6 (by decide) ?_
  refine w_isn l_188_7 ⟨Nat.le_of_ble_eq_true rfl, rfl⟩ ?_
  refine w_iln l_188_8 rfl ?_
  refine w_neg (-(n : Int)) l_188_9 (by unfold wr; omega) ?_
  refine w_isn l_188_10 ⟨Nat.le_of_ble_eq_true rfl, rfl⟩ ?_
  refine w_bp l_188_11 (by decide) ?_
  refine w_isn l_188_13 ⟨Nat.le_of_ble_eq_true rfl, rfl⟩ ?_
  refine w_ic l_188_14 (by decide) ?_
  refine w_isn l_188_15 ⟨Nat.le_of_ble_eq_true rfl, rfl⟩ ?_
  refine w_iln l_188_16 rfl ?_
  refine w_bp l_188_17 (by decide) ?_
  refine w_cge 42 l_188_19 (by decide) (fun hx => absurd hx (by decide)) (fun _ => ?_)
  refine w_iln l_188_22 rfl ?_
  refine w_iln l_188_23 rfl ?_
  refine w_cle 31 l_188_24 (by decide) (fun _ => ?_) (fun hx => absurd hx (by omega))
  refine w_bp l_188_31 (by decide) ?_
  refine w_iln l_188_33 rfl ?_
  refine w_mul (-100) l_188_34 (by decide) ?_
  refine w_isn l_188_35 ⟨Nat.le_of_ble_eq_true rfl, rfl⟩ ?_
  refine w_inc 2 l_188_36 rfl rfl (by decide) ?_
  refine w_go 16 l_188_39 (by decide) ?_
  refine w_iln l_188_16 rfl ?_
  refine w_bp l_188_17 (by decide) ?_
  refine w_cge 42 l_188_19 (by decide) (fun hx => absurd hx (by decide)) (fun _ => ?_)
  refine w_iln l_188_22 rfl ?_
  refine w_iln l_188_23 rfl ?_
  refine w_cle 31 l_188_24 (by decide) (fun hx => absurd hx (by omega)) (fun _ => ?_)
  refine w_iln l_188_27 rfl ?_
  refine w_iln l_188_28 rfl ?_
  refine w_add 2 l_188_29 (by decide) ?_
  refine w_ir l_188_30 (Or.inl rfl) ?_
  exact ⟨rfl, rfl⟩

theorem c_188 {n : Nat} (hn : n < 100) : CL xs 188 [vi ((n : Nat) : Int)] (S, I, T, cc, zz) (FN (some (vi (((dgz n).length : Nat) : Int))) (S, I, T, cc, zz)) := by
  rw [dgz_l]
  by_cases h : n < 10
  · rw [if_pos h]; exact c_188a h
  · rw [if_neg h]; exact c_188b (by omega) hn

theorem mx_187 : mxl 187 = 7 := by decide +kernel
theorem mt_187 : mtc 187 = 99 := by decide +kernel
theorem rk_187 (as : List AV) : rkA 187 as = 0 := rfl
theorem l_187_0 : look 187 0 = some (.iload_n 1, 1, 0, 0, 0, 0) := by decide +kernel
theorem l_187_1 : look 187 1 = some (.istore 5, 2, 0, 0, 0, 0) := by decide +kernel
theorem l_187_3 : look 187 3 = some (.iload_n 0, 1, 0, 0, 0, 0) := by decide +kernel
theorem l_187_4 : look 187 4 = some (.ifCond .ge 7, 3, 0, 0, 0, 0) := by decide +kernel
theorem l_187_7 : look 187 7 = some (.iconst 1, 1, 0, 0, 0, 0) := by decide +kernel
theorem l_187_8 : look 187 8 = some (.goto 4, 3, 0, 0, 0, 0) := by decide +kernel
theorem l_187_11 : look 187 11 = some (.iconst 0, 1, 0, 0, 0, 0) := by decide +kernel
theorem l_187_12 : look 187 12 = some (.istore 6, 2, 0, 0, 0, 0) := by decide +kernel
theorem l_187_14 : look 187 14 = some (.iload 6, 2, 0, 0, 0, 0) := by decide +kernel
theorem l_187_16 : look 187 16 = some (.ifCond .ne 6, 3, 0, 0, 0, 0) := by decide +kernel
theorem l_187_19 : look 187 19 = some (.iload_n 0, 1, 0, 0, 0, 0) := by decide +kernel
theorem l_187_20 : look 187 20 = some (.ineg, 1, 0, 0, 0, 0) := by decide +kernel
theorem l_187_21 : look 187 21 = some (.istore_n 0, 1, 0, 0, 0, 0) := by decide +kernel
theorem l_187_22 : look 187 22 = some (.iload_n 0, 1, 0, 0, 0, 0) := by decide +kernel
theorem l_187_23 : look 187 23 = some (.bipush (-100), 2, 0, 0, 0, 0) := by decide +kernel
theorem l_187_25 : look 187 25 = some (.if_icmp .gt 47, 3, 0, 0, 0, 0) := by decide +kernel
theorem l_187_28 : look 187 28 = some (.iload_n 0, 1, 0, 0, 0, 0) := by decide +kernel
theorem l_187_29 : look 187 29 = some (.bipush 100, 2, 0, 0, 0, 0) := by decide +kernel
theorem l_187_31 : look 187 31 = some (.idiv, 1, 0, 0, 0, 0) := by decide +kernel
theorem l_187_32 : look 187 32 = some (.istore_n 3, 1, 0, 0, 0, 0) := by decide +kernel
theorem l_187_33 : look 187 33 = some (.iload_n 3, 1, 0, 0, 0, 0) := by decide +kernel
theorem l_187_34 : look 187 34 = some (.bipush 100, 2, 0, 0, 0, 0) := by decide +kernel
theorem l_187_36 : look 187 36 = some (.imul, 1, 0, 0, 0, 0) := by decide +kernel
theorem l_187_37 : look 187 37 = some (.iload_n 0, 1, 0, 0, 0, 0) := by decide +kernel
theorem l_187_38 : look 187 38 = some (.isub, 1, 0, 0, 0, 0) := by decide +kernel
theorem l_187_39 : look 187 39 = some (.istore 4, 2, 0, 0, 0, 0) := by decide +kernel
theorem l_187_41 : look 187 41 = some (.iload_n 3, 1, 0, 0, 0, 0) := by decide +kernel
theorem l_187_42 : look 187 42 = some (.istore_n 0, 1, 0, 0, 0, 0) := by decide +kernel
theorem l_187_43 : look 187 43 = some (.aload_n 2, 1, 0, 0, 0, 0) := by decide +kernel
theorem l_187_44 : look 187 44 = some (.iinc 5 (-1), 3, 0, 0, 0, 0) := by decide +kernel
theorem l_187_47 : look 187 47 = some (.iload 5, 2, 0, 0, 0, 0) := by decide +kernel
theorem l_187_49 : look 187 49 = some (.getstatic 83, 3, 0, 0, 2, 940) := by decide +kernel
theorem l_187_52 : look 187 52 = some (.iload 4, 2, 0, 0, 0, 0) := by decide +kernel
theorem l_187_54 : look 187 54 = some (.baload, 1, 0, 0, 0, 0) := by decide +kernel
theorem l_187_55 : look 187 55 = some (.bastore, 1, 0, 0, 0, 0) := by decide +kernel
theorem l_187_56 : look 187 56 = some (.aload_n 2, 1, 0, 0, 0, 0) := by decide +kernel
theorem l_187_57 : look 187 57 = some (.iinc 5 (-1), 3, 0, 0, 0, 0) := by decide +kernel
theorem l_187_60 : look 187 60 = some (.iload 5, 2, 0, 0, 0, 0) := by decide +kernel
theorem l_187_62 : look 187 62 = some (.getstatic 87, 3, 0, 0, 3, 942) := by decide +kernel
theorem l_187_65 : look 187 65 = some (.iload 4, 2, 0, 0, 0, 0) := by decide +kernel
theorem l_187_67 : look 187 67 = some (.baload, 1, 0, 0, 0, 0) := by decide +kernel
theorem l_187_68 : look 187 68 = some (.bastore, 1, 0, 0, 0, 0) := by decide +kernel
theorem l_187_69 : look 187 69 = some (.goto (-47), 3, 0, 0, 0, 0) := by decide +kernel
theorem l_187_72 : look 187 72 = some (.aload_n 2, 1, 0, 0, 0, 0) := by decide +kernel
theorem l_187_73 : look 187 73 = some (.iinc 5 (-1), 3, 0, 0, 0, 0) := by decide +kernel
theorem l_187_76 : look 187 76 = some (.iload 5, 2, 0, 0, 0, 0) := by decide +kernel
theorem l_187_78 : look 187 78 = some (.getstatic 83, 3, 0, 0, 2, 940) := by decide +kernel
theorem l_187_81 : look 187 81 = some (.iload_n 0, 1, 0, 0, 0, 0) := by decide +kernel
theorem l_187_82 : look 187 82 = some (.ineg, 1, 0, 0, 0, 0) := by decide +kernel
theorem l_187_83 : look 187 83 = some (.baload, 1, 0, 0, 0, 0) := by decide +kernel
theorem l_187_84 : look 187 84 = some (.bastore, 1, 0, 0, 0, 0) := by decide +kernel
theorem l_187_85 : look 187 85 = some (.iload_n 0, 1, 0, 0, 0, 0) := by decide +kernel
theorem l_187_86 : look 187 86 = some (.bipush (-9), 2, 0, 0, 0, 0) := by decide +kernel
theorem l_187_88 : look 187 88 = some (.if_icmp .ge 16, 3, 0, 0, 0, 0) := by decide +kernel
theorem l_187_91 : look 187 91 = some (.aload_n 2, 1, 0, 0, 0, 0) := by decide +kernel
theorem l_187_92 : look 187 92 = some (.iinc 5 (-1), 3, 0, 0, 0, 0) := by decide +kernel
theorem l_187_95 : look 187 95 = some (.iload 5, 2, 0, 0, 0, 0) := by decide +kernel
theorem l_187_97 : look 187 97 = some (.getstatic 87, 3, 0, 0, 3, 942) := by decide +kernel
theorem l_187_100 : look 187 100 = some (.iload_n 0, 1, 0, 0, 0, 0) := by decide +kernel
theorem l_187_101 : look 187 101 = some (.ineg, 1, 0, 0, 0, 0) := by decide +kernel
theorem l_187_102 : look 187 102 = some (.baload, 1, 0, 0, 0, 0) := by decide +kernel
theorem l_187_103 : look 187 103 = some (.bastore, 1, 0, 0, 0, 0) := by decide +kernel
theorem l_187_104 : look 187 104 = some (.iload 6, 2, 0, 0, 0, 0) := by decide +kernel
theorem l_187_106 : look 187 106 = some (.ifCond .eq 12, 3, 0, 0, 0, 0) := by decide +kernel
theorem l_187_109 : look 187 109 = some (.aload_n 2, 1, 0, 0, 0, 0) := by decide +kernel
theorem l_187_110 : look 187 110 = some (.iinc 5 (-1), 3, 0, 0, 0, 0) := by decide +kernel
theorem l_187_113 : look 187 113 = some (.iload 5, 2, 0, 0, 0, 0) := by decide +kernel
theorem l_187_115 : look 187 115 = some (.bipush 45, 2, 0, 0, 0, 0) := by decide +kernel
theorem l_187_117 : look 187 117 = some (.bastore, 1, 0, 0, 0, 0) := by decide +kernel
theorem l_187_118 : look 187 118 = some (.iload 5, 2, 0, 0, 0, 0) := by decide +kernel
theorem l_187_120 : look 187 120 = some (.ireturn, 1, 0, 0, 0, 0) := by decide +kernel
theorem c_187a {n m v cap : Nat} (hn : n < 10) (hs : S[v]? = some (3, cap)) (hm : m + 1 ≤ cap) (hc : cap ≤ 600) : CL xs 187 [vi ((n : Nat) : Int), vi ((m + 1 : Nat) : Int), vr v] (S, I, T, cc, zz) (FN (some (vi ((m : Nat) : Int))) (S, up I v m ((48 + n % 10 : Nat) : Int), T, cc, zz)) := by
  refine CL_start (r := 0) (ls := [vi ((n : Nat) : Int), vi ((m + 1 : Nat) : Int), vr v, vs 2, vs 2, vs 2, vs 2]) (rk_187 _) rfl ?_
  refine w_iln l_187_0 rfl ?_
  refine w_is l_187_1 ⟨Nat.le_of_ble_eq_true rfl, rfl⟩ ?_
  refine w_iln l_187_3 rfl ?_
  refine w_zge 11 l_187_4 (by decide) (fun _ => ?_) (fun hx => absurd hx (by omega))
  refine w_ic l_187_11 (by decide) ?_
  refine w_is l_187_12 ⟨Nat.le_of_ble_eq_true rfl, rfl⟩ ?_
  refine w_il l_187_14 rfl ?_
  refine w_zne 22 l_187_16 (by decide) (fun hx => absurd hx (by decide)) (fun _ => ?_)
  refine w_iln l_187_19 rfl ?_
  refine w_neg (-(n : Int)) l_187_20 (by unfold wr; omega) ?_
  refine w_isn l_187_21 ⟨Nat.le_of_ble_eq_true rfl, rfl⟩ ?_
  refine w_iln l_187_22 rfl ?_
  refine w_bp l_187_23 (by decide) ?_
  refine w_cgt 72 l_187_25 (by decide) (fun _ => ?_) (fun hx => absurd hx (by omega))
  refine w_aln l_187_72 rfl ?_
  refine w_inc ((m : Nat) : Int) l_187_73 rfl rfl (by unfold wr; omega) ?_
  refine w_il l_187_76 rfl ?_
  refine w_gs2 l_187_78 ?_
  refine w_iln l_187_81 rfl ?_
  refine w_neg ((n : Nat) : Int) l_187_82 (by unfold wr; omega) ?_
  refine w_bs n ((48 + n % 10 : Nat) : Int) l_187_83 (by decide) rfl (by rw [dgl.1]; omega) (dg1 n (by omega)).1 ?_
  refine w_bS m ((48 + n % 10 : Nat) : Int) l_187_84 hs rfl (by omega) (by unfold wb; omega) ?_
  refine w_iln l_187_85 rfl ?_
  refine w_bp l_187_86 (by decide) ?_
  refine w_cge 104 l_187_88 (by decide) (fun _ => ?_) (fun hx => absurd hx (by omega))
  refine w_il l_187_104 rfl ?_
  refine w_zeq 118 l_187_106 (by decide) (fun _ => ?_) (fun hx => absurd hx (by decide))
  refine w_il l_187_118 rfl ?_
  refine w_ir l_187_120 (Or.inl rfl) ?_
  exact ⟨rfl, rfl⟩

theorem c_187b {n m v cap : Nat} (hn : 10 ≤ n) (hn2 : n < 100) (hs : S[v]? = some (3, cap)) (hm : m + 2 ≤ cap) (hc : cap ≤ 600) : CL xs 187 [vi ((n : Nat) : Int), vi ((m + 2 : Nat) : Int), vr v] (S, I, T, cc, zz) (FN (some (vi ((m : Nat) : Int))) (S, up (up I v (m + 1) ((48 + n % 10 : Nat) : Int)) v m ((48 + n / 10 : Nat) : Int), T, cc, zz)) := by
  refine CL_start (r := 0) (ls := [vi ((n : Nat) : Int), vi ((m + 2 : Nat) : Int), vr v, vs 2, vs 2, vs 2, vs 2]) (rk_187 _) rfl ?_
  refine w_iln l_187_0 rfl ?_
  refine w_is l_187_1 ⟨Nat.le_of_ble_eq_true rfl, rfl⟩ ?_
  refine w_iln l_187_3 rfl ?_
  refine w_zge 11 l_187_4 (by decide) (fun _ => ?_) (fun hx => absurd hx (by omega))
  refine w_ic l_187_11 (by decide) ?_
  refine w_is l_187_12 ⟨Nat.le_of_ble_eq_true rfl, rfl⟩ ?_
  refine w_il l_187_14 rfl ?_
  refine w_zne 22 l_187_16 (by decide) (fun hx => absurd hx (by decide)) (fun _ => ?_)
  refine w_iln l_187_19 rfl ?_
  refine w_neg (-(n : Int)) l_187_20 (by unfold wr; omega) ?_
  refine w_isn l_187_21 ⟨Nat.le_of_ble_eq_true rfl, rfl⟩ ?_
  refine w_iln l_187_22 rfl ?_
  refine w_bp l_187_23 (by decide) ?_
  refine w_cgt 72 l_187_25 (by decide) (fun _ => ?_) (fun hx => absurd hx (by omega))
  refine w_aln l_187_72 rfl ?_
  refine w_inc ((m + 1 : Nat) : Int) l_187_73 rfl rfl (by unfold wr; omega) ?_
  refine w_il l_187_76 rfl ?_
  refine w_gs2 l_187_78 ?_
  refine w_iln l_187_81 rfl ?_
  refine w_neg ((n : Nat) : Int) l_187_82 (by unfold wr; omega) ?_
  refine w_bs n ((48 + n % 10 : Nat) : Int) l_187_83 (by decide) rfl (by rw [dgl.1]; omega) (dg1 n (by omega)).1 ?_
  refine w_bS (m + 1) ((48 + n % 10 : Nat) : Int) l_187_84 hs rfl (by omega) (by unfold wb; omega) ?_
  refine w_iln l_187_85 rfl ?_
  refine w_bp l_187_86 (by decide) ?_
  refine w_cge 104 l_187_88 (by decide) (fun hx => absurd hx (by omega)) (fun _ => ?_)
  refine w_aln l_187_91 rfl ?_
  refine w_inc ((m : Nat) : Int) l_187_92 rfl rfl (by unfold wr; omega) ?_
  refine w_il l_187_95 rfl ?_
  refine w_gs3 l_187_97 ?_
  refine w_iln l_187_100 rfl ?_
  refine w_neg ((n : Nat) : Int) l_187_101 (by unfold wr; omega) ?_
  refine w_bs n ((48 + n / 10 : Nat) : Int) l_187_102 (by decide) rfl (by rw [dgl.2]; omega) (dg1 n (by omega)).2 ?_
  refine w_bS m ((48 + n / 10 : Nat) : Int) l_187_103 hs rfl (by omega) (by unfold wb; omega) ?_
  refine w_il l_187_104 rfl ?_
  refine w_zeq 118 l_187_106 (by decide) (fun _ => ?_) (fun hx => absurd hx (by decide))
  refine w_il l_187_118 rfl ?_
  refine w_ir l_187_120 (Or.inl rfl) ?_
  exact ⟨rfl, rfl⟩

theorem c_187 {n m v cap : Nat} (hn : n < 100) (hs : S[v]? = some (3, cap)) (hm : m + (dgz n).length ≤ cap) (hc : cap ≤ 600) : CL xs 187 [vi ((n : Nat) : Int), vi ((m + (dgz n).length : Nat) : Int), vr v] (S, I, T, cc, zz) (RP S T cc zz (fun r I1 => r = some (vi ((m : Nat) : Int)) ∧ (∀ j, j < (dgz n).length → I1 v (m + j) = (dgz n).getD j 0) ∧ ∀ z w, (z = v → w < m) → I1 z w = I z w)) := by
  by_cases h : n < 10
  · have e : (dgz n).length = 1 := by rw [dgz_l, if_pos h]
    have e2 : dgz n = [((48 + n : Nat) : Int)] := if_pos h
    rw [e] at hm ⊢
    refine CL_mono (c_187a h hs hm hc) fun q m1 ⟨h1, h2⟩ => ⟨_, _, h1, h2, rfl, fun j hj => ?_, fun z w hw => up_out (by omega)⟩
    have : j = 0 := by omega
    subst this
    rw [e2, Nat.mod_eq_of_lt h]
    exact up_eq
  · have e : (dgz n).length = 2 := by rw [dgz_l, if_neg h]
    have e2 : dgz n = [((48 + n / 10 : Nat) : Int), ((48 + n % 10 : Nat) : Int)] := if_neg h
    rw [e] at hm ⊢
    refine CL_mono (c_187b (by omega) hn hs hm hc) fun q m1 ⟨h1, h2⟩ => ⟨_, _, h1, h2, rfl, fun j hj => ?_, fun z w hw => (up_out (by omega)).trans (up_out (by omega))⟩
    rcases (show j = 0 ∨ j = 1 by omega) with e3 | e3
    · subst e3
      rw [e2]
      exact up_eq
    · subst e3
      rw [e2]
      exact (up_out (by omega)).trans up_eq

theorem mx_182 : mxl 182 = 4 := by decide +kernel
theorem mt_182 : mtc 182 = 13 := by decide +kernel
theorem rk_182 (as : List AV) : rkA 182 as = 4 := rfl
theorem l_182_0 : look 182 0 = some (.aload_n 0, 1, 0, 0, 0, 0) := by decide +kernel
theorem l_182_1 : look 182 1 = some (.getfield 79, 3, 13, 3, 0, 801) := by decide +kernel
theorem l_182_4 : look 182 4 = some (.istore_n 2, 1, 0, 0, 0, 0) := by decide +kernel
theorem l_182_5 : look 182 5 = some (.iload_n 2, 1, 0, 0, 0, 0) := by decide +kernel
theorem l_182_6 : look 182 6 = some (.iload_n 1, 1, 0, 0, 0, 0) := by decide +kernel
theorem l_182_7 : look 182 7 = some (.invokestatic 245, 3, 188, 1, 1, 934) := by decide +kernel
theorem l_182_10 : look 182 10 = some (.iadd, 1, 0, 0, 0, 0) := by decide +kernel
theorem l_182_11 : look 182 11 = some (.istore_n 3, 1, 0, 0, 0, 0) := by decide +kernel
theorem l_182_12 : look 182 12 = some (.aload_n 0, 1, 0, 0, 0, 0) := by decide +kernel
theorem l_182_13 : look 182 13 = some (.iload_n 3, 1, 0, 0, 0, 0) := by decide +kernel
theorem l_182_14 : look 182 14 = some (.invokevirtual 100, 3, 176, 2, 9, 823) := by decide +kernel
theorem l_182_17 : look 182 17 = some (.aload_n 0, 1, 0, 0, 0, 0) := by decide +kernel
theorem l_182_18 : look 182 18 = some (.invokevirtual 83, 3, 184, 1, 9, 856) := by decide +kernel
theorem l_182_21 : look 182 21 = some (.ifCond .eq 16, 3, 0, 0, 0, 0) := by decide +kernel
theorem l_182_24 : look 182 24 = some (.iload_n 1, 1, 0, 0, 0, 0) := by decide +kernel
theorem l_182_25 : look 182 25 = some (.iload_n 3, 1, 0, 0, 0, 0) := by decide +kernel
theorem l_182_26 : look 182 26 = some (.aload_n 0, 1, 0, 0, 0, 0) := by decide +kernel
theorem l_182_27 : look 182 27 = some (.getfield 15, 3, 13, 0, 2, 798) := by decide +kernel
theorem l_182_30 : look 182 30 = some (.invokestatic 248, 3, 187, 3, 1, 937) := by decide +kernel
theorem l_182_33 : look 182 33 = some (.pop, 1, 0, 0, 0, 0) := by decide +kernel
theorem l_182_34 : look 182 34 = some (.goto 14, 3, 0, 0, 0, 0) := by decide +kernel
theorem l_182_37 : look 182 37 = some (.iload_n 1, 1, 0, 0, 0, 0) := by decide +kernel
theorem l_182_38 : look 182 38 = some (.iload_n 2, 1, 0, 0, 0, 0) := by decide +kernel
theorem l_182_39 : look 182 39 = some (.iload_n 3, 1, 0, 0, 0, 0) := by decide +kernel
theorem l_182_40 : look 182 40 = some (.aload_n 0, 1, 0, 0, 0, 0) := by decide +kernel
theorem l_182_41 : look 182 41 = some (.getfield 15, 3, 13, 0, 2, 798) := by decide +kernel
theorem l_182_44 : look 182 44 = some (.invokestatic 251, 3, 0, 4, 99, 944) := by decide +kernel
theorem l_182_47 : look 182 47 = some (.pop, 1, 0, 0, 0, 0) := by decide +kernel
theorem l_182_48 : look 182 48 = some (.aload_n 0, 1, 0, 0, 0, 0) := by decide +kernel
theorem l_182_49 : look 182 49 = some (.iload_n 3, 1, 0, 0, 0, 0) := by decide +kernel
theorem l_182_50 : look 182 50 = some (.putfield 79, 3, 13, 3, 0, 801) := by decide +kernel
theorem l_182_53 : look 182 53 = some (.aload_n 0, 1, 0, 0, 0, 0) := by decide +kernel
theorem l_182_54 : look 182 54 = some (.areturn, 1, 0, 0, 0, 0) := by decide +kernel
theorem c_182 {b v cap : Nat} {t : List Int} {n : Nat} (h : SBd S I T b v cap t) (hn : n < 100) (h3 : t.length + (dgz n).length ≤ 300) (h1 : 1 ≤ cc) (h2 : 602 ≤ zz) : CL xs 182 [vr b, vi ((n : Nat) : Int)] (S, I, T, cc, zz) (RX (BP b v cap (t ++ dgz n) S I T cc zz)) := by
  have hc : S[b]? = some (0, 13) ∧ I b 1 = 0 := ⟨h.1, h.2.2.2.2.2.2.1⟩
  have h6 := h.2.2.2.2.2.1
  have h5 := h.2.2.2.2.1
  refine CL_start (r := 4) (ls := [vr b, vi ((n : Nat) : Int), vs 2, vs 2]) (rk_182 _) rfl ?_
  refine w_aln l_182_0 rfl ?_
  refine w_gin ((t.length : Nat) : Int) l_182_1 (by decide) h.1 h.2.2.2.2.2.2.2.1 ?_
  refine w_isn l_182_4 ⟨Nat.le_of_ble_eq_true rfl, rfl⟩ ?_
  refine w_iln l_182_5 rfl ?_
  refine w_iln l_182_6 rfl ?_
  refine x_st [vi ((n : Nat) : Int)] [vi ((t.length : Nat) : Int)] l_182_7 (Or.inl rfl) rfl rfl (Nat.le_of_ble_eq_true rfl) (by rw [mx_188]; exact (Nat.le_of_ble_eq_true rfl)) (by rw [rk_188]; decide) (RX.f (c_188 hn)) (fun v m1 h1 => ?_)
  obtain ⟨rfl, rfl⟩ := h1
  refine w_add ((t.length + (dgz n).length : Nat) : Int) l_182_10 (by unfold wr; omega) ?_
  refine w_isn l_182_11 ⟨Nat.le_of_ble_eq_true rfl, rfl⟩ ?_
  refine w_aln l_182_12 rfl ?_
  refine w_iln l_182_13 rfl ?_
  refine x_iv [vi ((t.length + (dgz n).length : Nat) : Int)] [] l_182_14 (Or.inr rfl) rfl rfl ⟨(Nat.le_of_ble_eq_true rfl), rfl⟩ (by rw [mx_176]; exact (Nat.le_of_ble_eq_true rfl)) (by rw [mt_176]; exact h.1) (by rw [mt_176]; decide) (by rw [rk_176]; decide) (c_176 h h3 h1 h2) (fun v m1 h1 => ?_)
  obtain ⟨rfl, S1, I1, T1, c1, z1, v1, cap1, rfl, B, hcp, g⟩ := h1
  have hc1 : S1[b]? = some (0, 13) ∧ I1 b 1 = 0 := ⟨B.1, B.2.2.2.2.2.2.1⟩
  have hv1 := B.2.2.2.1
  have h61 := B.2.2.2.2.2.1
  refine w_aln l_182_17 rfl ?_
  refine x_iv [] [] l_182_18 (Or.inr rfl) rfl rfl ⟨(Nat.le_of_ble_eq_true rfl), rfl⟩ (by rw [mx_184]; exact (Nat.le_of_ble_eq_true rfl)) (by rw [mt_184]; exact hc1.1) (by rw [mt_184]; decide) (by rw [rk_184]; decide) (RX.f (c_184 hc1)) (fun v2 m2 h4 => ?_)
  obtain ⟨rfl, rfl⟩ := h4
  refine w_zeq 37 l_182_21 (by decide) (fun hx => absurd hx (by decide)) (fun _ => ?_)
  refine w_iln l_182_24 rfl ?_
  refine w_iln l_182_25 rfl ?_
  refine w_aln l_182_26 rfl ?_
  refine w_grn l_182_27 (by decide) B.1 B.2.1 ?_
  refine p_st [vi ((n : Nat) : Int), vi ((t.length + (dgz n).length : Nat) : Int), vr v1] [] l_182_30 (Or.inl rfl) rfl rfl (Nat.le_of_ble_eq_true rfl) (by rw [mx_187]; exact Nat.le_of_ble_eq_true rfl) (by rw [rk_187]; decide) (c_187 hn B.2.2.1 hcp h61) (fun v2 I2 h4 => ?_)
  obtain ⟨rfl, e1, e2⟩ := h4
  refine w_pop l_182_33 rfl ?_
  refine w_go 48 l_182_34 (by decide) ?_
  refine w_aln l_182_48 rfl ?_
  refine w_iln l_182_49 rfl ?_
  refine w_pi l_182_50 B.1 ?_
  refine w_aln l_182_53 rfl ?_
  refine w_rr l_182_54 ?_
  refine ⟨_, rfl, rfl, _, _, _, _, _, v1, cap1, rfl, B.ap hcp ?_ up_eq (fun w hw => ?_) (fun j hj => ?_), g.w fun z w hz1 hz2 => ?_⟩
  · rw [up_out (by omega), e2 _ _ (fun e => by omega)]
  · rw [up_out (by omega), e2 _ _ (fun _ => hw)]
  · rw [up_out (by omega)]; exact e1 j hj
  · rw [up_out (by omega), e2 _ _ (fun e => absurd e hz2)]

theorem mx_201 : mxl 201 = 1 := by decide +kernel
theorem mt_201 : mtc 201 = 99 := by decide +kernel
theorem rk_201 (as : List AV) : rkA 201 as = 0 := rfl
theorem l_201_0 : look 201 0 = some (.iload_n 0, 1, 0, 0, 0, 0) := by decide +kernel
theorem l_201_1 : look 201 1 = some (.sipush 255, 3, 0, 0, 0, 0) := by decide +kernel
theorem l_201_4 : look 201 4 = some (.if_icmp .gt 7, 3, 0, 0, 0, 0) := by decide +kernel
theorem l_201_7 : look 201 7 = some (.iconst 1, 1, 0, 0, 0, 0) := by decide +kernel
theorem l_201_8 : look 201 8 = some (.goto 4, 3, 0, 0, 0, 0) := by decide +kernel
theorem l_201_11 : look 201 11 = some (.iconst 0, 1, 0, 0, 0, 0) := by decide +kernel
theorem l_201_12 : look 201 12 = some (.ireturn, 1, 0, 0, 1, 0) := by decide +kernel
theorem c_201 {c : Nat} (hc : c < 128) : CL xs 201 [vi ((c : Nat) : Int)] (S, I, T, cc, zz) (FN (some (vi 1)) (S, I, T, cc, zz)) := by
  refine CL_start (r := 0) (ls := [vi ((c : Nat) : Int)]) (rk_201 _) rfl ?_
  refine w_iln l_201_0 rfl ?_
  refine w_sp l_201_1 (by decide) ?_
  refine w_cgt 11 l_201_4 (by decide) (fun hx => absurd hx (by omega)) (fun _ => ?_)
  refine w_ic l_201_7 (by decide) ?_
  refine w_go 12 l_201_8 (by decide) ?_
  refine w_ir l_201_12 (by decide) ?_
  exact ⟨rfl, rfl⟩

theorem mx_181 : mxl 181 = 2 := by decide +kernel
theorem mt_181 : mtc 181 = 13 := by decide +kernel
theorem rk_181 (as : List AV) : rkA 181 as = 4 := rfl
theorem l_181_0 : look 181 0 = some (.aload_n 0, 1, 0, 0, 0, 0) := by decide +kernel
theorem l_181_1 : look 181 1 = some (.aload_n 0, 1, 0, 0, 0, 0) := by decide +kernel
theorem l_181_2 : look 181 2 = some (.getfield 79, 3, 13, 3, 0, 801) := by decide +kernel
theorem l_181_5 : look 181 5 = some (.iconst 1, 1, 0, 0, 0, 0) := by decide +kernel
theorem l_181_6 : look 181 6 = some (.iadd, 1, 0, 0, 0, 0) := by decide +kernel
theorem l_181_7 : look 181 7 = some (.invokevirtual 100, 3, 176, 2, 9, 823) := by decide +kernel
theorem l_181_10 : look 181 10 = some (.aload_n 0, 1, 0, 0, 0, 0) := by decide +kernel
theorem l_181_11 : look 181 11 = some (.invokevirtual 83, 3, 184, 1, 9, 856) := by decide +kernel
theorem l_181_14 : look 181 14 = some (.ifCond .eq 31, 3, 0, 0, 0, 0) := by decide +kernel
theorem l_181_17 : look 181 17 = some (.iload_n 1, 1, 0, 0, 0, 0) := by decide +kernel
theorem l_181_18 : look 181 18 = some (.invokestatic 191, 3, 201, 1, 1, 920) := by decide +kernel
theorem l_181_21 : look 181 21 = some (.ifCond .eq 24, 3, 0, 0, 0, 0) := by decide +kernel
theorem l_181_24 : look 181 24 = some (.aload_n 0, 1, 0, 0, 0, 0) := by decide +kernel
theorem l_181_25 : look 181 25 = some (.getfield 15, 3, 13, 0, 2, 798) := by decide +kernel
theorem l_181_28 : look 181 28 = some (.aload_n 0, 1, 0, 0, 0, 0) := by decide +kernel
theorem l_181_29 : look 181 29 = some (.dup, 1, 0, 0, 0, 0) := by decide +kernel
theorem l_181_30 : look 181 30 = some (.getfield 79, 3, 13, 3, 0, 801) := by decide +kernel
theorem l_181_33 : look 181 33 = some (.dup_x1, 1, 0, 0, 0, 0) := by decide +kernel
theorem l_181_34 : look 181 34 = some (.iconst 1, 1, 0, 0, 0, 0) := by decide +kernel
theorem l_181_35 : look 181 35 = some (.iadd, 1, 0, 0, 0, 0) := by decide +kernel
theorem l_181_36 : look 181 36 = some (.putfield 79, 3, 13, 3, 0, 801) := by decide +kernel
theorem l_181_39 : look 181 39 = some (.iload_n 1, 1, 0, 0, 0, 0) := by decide +kernel
theorem l_181_40 : look 181 40 = some (.i2b, 1, 0, 0, 0, 0) := by decide +kernel
theorem l_181_41 : look 181 41 = some (.bastore, 1, 0, 0, 0, 0) := by decide +kernel
theorem l_181_42 : look 181 42 = some (.goto 33, 3, 0, 0, 0, 0) := by decide +kernel
theorem l_181_45 : look 181 45 = some (.aload_n 0, 1, 0, 0, 0, 0) := by decide +kernel
theorem l_181_46 : look 181 46 = some (.invokevirtual 83, 3, 184, 1, 9, 856) := by decide +kernel
theorem l_181_49 : look 181 49 = some (.ifCond .eq 7, 3, 0, 0, 0, 0) := by decide +kernel
theorem l_181_52 : look 181 52 = some (.aload_n 0, 1, 0, 0, 0, 0) := by decide +kernel
theorem l_181_53 : look 181 53 = some (.invokevirtual 195, 3, 178, 1, 9, 886) := by decide +kernel
theorem l_181_56 : look 181 56 = some (.aload_n 0, 1, 0, 0, 0, 0) := by decide +kernel
theorem l_181_57 : look 181 57 = some (.getfield 15, 3, 13, 0, 2, 798) := by decide +kernel
theorem l_181_60 : look 181 60 = some (.aload_n 0, 1, 0, 0, 0, 0) := by decide +kernel
theorem l_181_61 : look 181 61 = some (.dup, 1, 0, 0, 0, 0) := by decide +kernel
theorem l_181_62 : look 181 62 = some (.getfield 79, 3, 13, 3, 0, 801) := by decide +kernel
theorem l_181_65 : look 181 65 = some (.dup_x1, 1, 0, 0, 0, 0) := by decide +kernel
theorem l_181_66 : look 181 66 = some (.iconst 1, 1, 0, 0, 0, 0) := by decide +kernel
theorem l_181_67 : look 181 67 = some (.iadd, 1, 0, 0, 0, 0) := by decide +kernel
theorem l_181_68 : look 181 68 = some (.putfield 79, 3, 13, 3, 0, 801) := by decide +kernel
theorem l_181_71 : look 181 71 = some (.iload_n 1, 1, 0, 0, 0, 0) := by decide +kernel
theorem l_181_72 : look 181 72 = some (.invokestatic 197, 3, 0, 3, 99, 923) := by decide +kernel
theorem l_181_75 : look 181 75 = some (.aload_n 0, 1, 0, 0, 0, 0) := by decide +kernel
theorem l_181_76 : look 181 76 = some (.areturn, 1, 0, 0, 0, 0) := by decide +kernel
theorem c_181 {b v cap : Nat} {t : List Int} {c : Nat} (h : SBd S I T b v cap t) (hcc : c < 128) (h3 : t.length + 1 ≤ 300) (h1 : 1 ≤ cc) (h2 : 602 ≤ zz) : CL xs 181 [vr b, vi ((c : Nat) : Int)] (S, I, T, cc, zz) (RX (BP b v cap (t ++ [((c : Nat) : Int)]) S I T cc zz)) := by
  have hc : S[b]? = some (0, 13) ∧ I b 1 = 0 := ⟨h.1, h.2.2.2.2.2.2.1⟩
  have h6 := h.2.2.2.2.2.1
  have h5 := h.2.2.2.2.1
  refine CL_start (r := 4) (ls := [vr b, vi ((c : Nat) : Int)]) (rk_181 _) rfl ?_
  refine w_aln l_181_0 rfl ?_
  refine w_aln l_181_1 rfl ?_
  refine w_gin ((t.length : Nat) : Int) l_181_2 (by decide) h.1 h.2.2.2.2.2.2.2.1 ?_
  refine w_ic l_181_5 (by decide) ?_
  refine w_add ((t.length + 1 : Nat) : Int) l_181_6 (by unfold wr; omega) ?_
  refine x_iv [vi ((t.length + 1 : Nat) : Int)] [] l_181_7 (Or.inr rfl) rfl rfl ⟨(Nat.le_of_ble_eq_true rfl), rfl⟩ (by rw [mx_176]; exact (Nat.le_of_ble_eq_true rfl)) (by rw [mt_176]; exact h.1) (by rw [mt_176]; decide) (by rw [rk_176]; decide) (c_176 h h3 h1 h2) (fun v m1 h1 => ?_)
  obtain ⟨rfl, S1, I1, T1, c1, z1, v1, cap1, rfl, B, hcp, g⟩ := h1
  have hc1 : S1[b]? = some (0, 13) ∧ I1 b 1 = 0 := ⟨B.1, B.2.2.2.2.2.2.1⟩
  have hv1 := B.2.2.2.1
  have h61 := B.2.2.2.2.2.1
  refine w_aln l_181_10 rfl ?_
  refine x_iv [] [] l_181_11 (Or.inr rfl) rfl rfl ⟨(Nat.le_of_ble_eq_true rfl), rfl⟩ (by rw [mx_184]; exact (Nat.le_of_ble_eq_true rfl)) (by rw [mt_184]; exact hc1.1) (by rw [mt_184]; decide) (by rw [rk_184]; decide) (RX.f (c_184 hc1)) (fun v2 m2 h4 => ?_)
  obtain ⟨rfl, rfl⟩ := h4
  refine w_zeq 45 l_181_14 (by decide) (fun hx => absurd hx (by decide)) (fun _ => ?_)
  refine w_iln l_181_17 rfl ?_
  refine x_st [vi ((c : Nat) : Int)] [] l_181_18 (Or.inl rfl) rfl rfl (Nat.le_of_ble_eq_true rfl) (by rw [mx_201]; exact (Nat.le_of_ble_eq_true rfl)) (by rw [rk_201]; decide) (RX.f (c_201 hcc)) (fun v2 m2 h4 => ?_)
  obtain ⟨rfl, rfl⟩ := h4
  refine w_zeq 45 l_181_21 (by decide) (fun hx => absurd hx (by decide)) (fun _ => ?_)
  refine w_aln l_181_24 rfl ?_
  refine w_grn l_181_25 (by decide) B.1 B.2.1 ?_
  refine w_aln l_181_28 rfl ?_
  refine w_dup l_181_29 rfl ?_
  refine w_gin ((t.length : Nat) : Int) l_181_30 (by decide) B.1 B.2.2.2.2.2.2.2.1 ?_
  refine w_dx1 l_181_33 rfl ?_
  refine w_ic l_181_34 (by decide) ?_
  refine w_add ((t.length + 1 : Nat) : Int) l_181_35 (by unfold wr; omega) ?_
  refine w_pi l_181_36 B.1 ?_
  refine w_iln l_181_39 rfl ?_
  refine w_i2b ((c : Nat) : Int) l_181_40 (by unfold wb; omega) ?_
  refine w_bS t.length ((c : Nat) : Int) l_181_41 B.2.2.1 rfl (by omega) (by unfold wb; omega) ?_
  refine w_go 75 l_181_42 (by decide) ?_
  refine w_aln l_181_75 rfl ?_
  refine w_rr l_181_76 ?_
  refine ⟨_, rfl, rfl, _, _, _, _, _, v1, cap1, rfl, B.ap hcp ?_ ?_ (fun w hw => ?_) (fun j hj => ?_), g.w fun z w hz1 hz2 => ?_⟩
  · rw [up_out (by omega), up_out (by omega)]
  · rw [up_out (by omega), up_eq]; rfl
  · rw [up_out (by omega), up_out (by omega)]
  · have : j = 0 := by simp only [List.length_cons, List.length_nil] at hj; omega
    subst this
    exact up_eq
  · rw [up_out (by omega), up_out (by omega)]

end WSC
