/-! contracts: a string's and a builder's methods -/
theorem shr0 {m : Nat} (h : m < 2147483648) : a2 (fun x y => x >>> (y &&& 31)) (m : Int) 0 = (m : Int) := (shr_n (k := 0) (by decide) h).trans (congrArg (fun n : Nat => (n : Int)) (Nat.div_one _))
theorem shl0 {m : Nat} (h : m < 2147483648) : a2 (fun x y => x <<< (y &&& 31)) (m : Int) 0 = (m : Int) := (shl_n (k := 0) (by decide) (by rw [Nat.pow_zero, Nat.mul_one]; exact h)).trans (congrArg (fun n : Nat => (n : Int)) (Nat.mul_one _))
theorem dg1 : ∀ k : Nat, k < 100 → (stb.getD 53 []).getD k 0 = ((48 + k % 10 : Nat) : Int) ∧ (stb.getD 54 []).getD k 0 = ((48 + k / 10 : Nat) : Int) := by decide +kernel
theorem dgl : (stb.getD 53 []).length = 100 ∧ (stb.getD 54 []).length = 100 := by decide +kernel
/-- a number's digits -/
def dgz (n : Nat) : List Int := if n < 10 then [((48 + n : Nat) : Int)] else [((48 + n / 10 : Nat) : Int), ((48 + n % 10 : Nat) : Int)]
theorem dgz_l (n : Nat) : (dgz n).length = if n < 10 then 1 else 2 := by unfold dgz; split <;> rfl
/-- a text, as an object or one of the constants -/
def STR (S : List (Nat × Nat)) (I : Ix) (T : Nat → Nat → Nat) (v : AV) (t : List Int) : Prop := (∃ q, v = vs (2 * q + 4) ∧ q < 53 ∧ t = stb.getD q []) ∨ (∃ o a, v = vr o ∧ S[o]? = some (0, 12) ∧ T o 0 = a + 1 ∧ S[a]? = some (3, t.length) ∧ I o 1 = 0 ∧ ∀ j, j < t.length → I a j = t.getD j 0)
/-- a builder b that holds t in its row v of cap places -/
def SBd (S : List (Nat × Nat)) (I : Ix) (T : Nat → Nat → Nat) (b v cap : Nat) (t : List Int) : Prop := S[b]? = some (0, 13) ∧ T b 0 = v + 1 ∧ S[v]? = some (3, cap) ∧ b < v ∧ t.length ≤ cap ∧ cap ≤ 600 ∧ I b 1 = 0 ∧ I b 3 = ((t.length : Nat) : Int) ∧ ∀ j, j < t.length → I v j = t.getD j 0
/-- what a builder's method may do to what was there -/
def GRW (b v cap v' cap' : Nat) (S : List (Nat × Nat)) (I : Ix) (T : Nat → Nat → Nat) (cc zz : Nat) (S' : List (Nat × Nat)) (I' : Ix) (T' : Nat → Nat → Nat) (cc' zz' : Nat) : Prop := (∃ L, S' = S ++ L) ∧ (∀ z w, z < S.length → z ≠ b → z ≠ v → I' z w = I z w) ∧ (∀ z w, z < S.length → z ≠ b → T' z w = T z w) ∧ (v' = v ∨ S.length ≤ v') ∧ cap ≤ cap' ∧ cc ≤ cc' + (cap' - cap) ∧ zz ≤ zz' + 2 * (cap' - cap)
theorem len_of {S : List (Nat × Nat)} {o : Nat} {x : Nat × Nat} (h : S[o]? = some x) : o < S.length := by
  refine Classical.byContradiction fun q => ?_
  rw [List.getElem?_eq_none (by omega)] at h
  cases h
theorem GRW.r {b v cap : Nat} {S : List (Nat × Nat)} {I : Ix} {T : Nat → Nat → Nat} {cc zz : Nat} : GRW b v cap v cap S I T cc zz S I T cc zz := ⟨⟨[], by simp⟩, fun _ _ _ _ _ => rfl, fun _ _ _ _ => rfl, Or.inl rfl, Nat.le_refl _, by omega, by omega⟩
theorem GRW.t {b v cap v1 cap1 v2 cap2 : Nat} {S S1 S2 : List (Nat × Nat)} {I I1 I2 : Ix} {T T1 T2 : Nat → Nat → Nat} {cc cc1 cc2 zz zz1 zz2 : Nat} (h : GRW b v cap v1 cap1 S I T cc zz S1 I1 T1 cc1 zz1) (g : GRW b v1 cap1 v2 cap2 S1 I1 T1 cc1 zz1 S2 I2 T2 cc2 zz2) : GRW b v cap v2 cap2 S I T cc zz S2 I2 T2 cc2 zz2 := by
  obtain ⟨⟨L, h1⟩, h2, h3, h4, h5, h6, h7⟩ := h
  obtain ⟨⟨L2, g1⟩, g2, g3, g4, g5, g6, g7⟩ := g
  have hl : S.length ≤ S1.length := by rw [h1, List.length_append]; omega
  refine ⟨⟨L ++ L2, by rw [g1, h1, List.append_assoc]⟩, fun z w hz hb hv => ?_, fun z w hz hb => ?_, ?_, by omega, by omega, by omega⟩
  · rw [g2 z w (by omega) hb (by omega), h2 z w hz hb hv]
  · rw [g3 z w (by omega) hb, h3 z w hz hb]
  · omega
theorem sh_ap {S S' : List (Nat × Nat)} {o : Nat} {x : Nat × Nat} (h : ∃ L, S' = S ++ L) (hs : S[o]? = some x) : S'[o]? = some x := by
  obtain ⟨L, rfl⟩ := h
  exact ap_l hs
section WSB
variable {xs : List Int} {S : List (Nat × Nat)} {I : Ix} {T : Nat → Nat → Nat} {cc zz : Nat}

theorem o_301 {o : Nat} (hc : S[o]? = some (0, 12) ∧ I o 1 = 0) : CL xs 301 [vr o] (S, I, T, cc, zz) (FN (some (vi 0)) (S, I, T, cc, zz)) := by
  refine CL_start (r := 0) (ls := [vr o]) (rk_301 _) rfl ?_
  refine w_gs0 l_301_0 ?_
  refine w_zeq 13 l_301_3 (by decide) (fun hx => absurd hx (by decide)) (fun _ => ?_)
  refine w_aln l_301_6 rfl ?_
  refine w_gin 0 l_301_7 (by decide) hc.1 hc.2 ?_
  refine w_go 14 l_301_10 (by decide) ?_
  refine w_ir l_301_14 (by omega) ?_
  exact ⟨rfl, rfl⟩

theorem o_302 {o : Nat} (hc : S[o]? = some (0, 12) ∧ I o 1 = 0) : CL xs 302 [vr o] (S, I, T, cc, zz) (FN (some (vi 1)) (S, I, T, cc, zz)) := by
  refine CL_start (r := 0) (ls := [vr o]) (rk_302 _) rfl ?_
  refine w_gs0 l_302_0 ?_
  refine w_zeq 17 l_302_3 (by decide) (fun hx => absurd hx (by decide)) (fun _ => ?_)
  refine w_aln l_302_6 rfl ?_
  refine w_gin 0 l_302_7 (by decide) hc.1 hc.2 ?_
  refine w_zne 17 l_302_10 (by decide) (fun hx => absurd hx (by decide)) (fun _ => ?_)
  refine w_ic l_302_13 (by decide) ?_
  refine w_go 18 l_302_14 (by decide) ?_
  refine w_ir l_302_18 (by decide) ?_
  exact ⟨rfl, rfl⟩

theorem o_299 {o a n : Nat} (hc : S[o]? = some (0, 12) ∧ I o 1 = 0) (hr : T o 0 = a + 1) (ha : S[a]? = some (3, n)) (hn : n < 2147483648) : CL xs 299 [vr o] (S, I, T, cc, zz) (FN (some (vi ((n : Nat) : Int))) (S, I, T, cc, zz)) := by
  refine CL_start (r := 1) (ls := [vr o]) (rk_299 _) rfl ?_
  refine w_aln l_299_0 rfl ?_
  refine w_grn l_299_1 (by decide) hc.1 hr ?_
  refine w_len l_299_4 ha ?_
  refine w_aln l_299_5 rfl ?_
  refine q_iv [] [vi ((n : Nat) : Int)] l_299_6 rfl rfl (Nat.le_of_ble_eq_true rfl) (by rw [mx_301]; exact Nat.le_of_ble_eq_true rfl) (by rw [mt_301]; exact hc.1) (by rw [mt_301]; decide) (by rw [rk_301]; decide) (o_301 hc) ?_
  refine w_shr ((n : Nat) : Int) l_299_9 (shr0 hn) ?_
  refine w_ir l_299_10 (Or.inl rfl) ?_
  exact ⟨rfl, rfl⟩

theorem o_304 {a n i b : Nat} (ha : S[a]? = some (3, n)) (hi : i < n) (hb : I a i = (b : Int)) (hb2 : b < 128) : CL xs 304 [vr a, vi ((i : Nat) : Int)] (S, I, T, cc, zz) (FN (some (vi ((b : Nat) : Int))) (S, I, T, cc, zz)) := by
  refine CL_start (r := 2) (ls := [vr a, vi ((i : Nat) : Int)]) (rk_304 _) rfl ?_
  refine w_iln l_304_0 rfl ?_
  refine w_aln l_304_1 rfl ?_
  refine w_len l_304_2 ha ?_
  refine q_st [vi ((i : Nat) : Int), vi ((n : Nat) : Int)] [] l_304_3 (by decide) rfl rfl (Nat.le_of_ble_eq_true rfl) (by rw [mx_303]; exact Nat.le_of_ble_eq_true rfl) (by rw [rk_303]; decide) (s_303 hi) ?_
  refine w_aln l_304_6 rfl ?_
  refine w_iln l_304_7 rfl ?_
  refine w_ba i ((b : Nat) : Int) l_304_8 (Or.inl ha) rfl hi hb ?_
  refine w_sp l_304_9 (by decide) ?_
  refine w_and ((b : Nat) : Int) l_304_12 ((and_nn (n := 255) (by omega)).trans (congrArg (fun n : Nat => (n : Int)) ((Nat.and_two_pow_sub_one_eq_mod b 8).trans (Nat.mod_eq_of_lt (by omega))))) ?_
  refine w_i2c ((b : Nat) : Int) l_304_13 (by omega) ?_
  refine w_ir l_304_14 (by omega) ?_
  exact ⟨rfl, rfl⟩

theorem o_300 {o a n i b : Nat} (hc : S[o]? = some (0, 12) ∧ I o 1 = 0) (hr : T o 0 = a + 1) (ha : S[a]? = some (3, n)) (hi : i < n) (hb : I a i = (b : Int)) (hb2 : b < 128) : CL xs 300 [vr o, vi ((i : Nat) : Int)] (S, I, T, cc, zz) (FN (some (vi ((b : Nat) : Int))) (S, I, T, cc, zz)) := by
  refine CL_start (r := 3) (ls := [vr o, vi ((i : Nat) : Int)]) (rk_300 _) rfl ?_
  refine w_aln l_300_0 rfl ?_
  refine q_iv [] [] l_300_1 rfl rfl (Nat.le_of_ble_eq_true rfl) (by rw [mx_302]; exact Nat.le_of_ble_eq_true rfl) (by rw [mt_302]; exact hc.1) (by rw [mt_302]; decide) (by rw [rk_302]; decide) (o_302 hc) ?_
  refine w_zeq 16 l_300_4 (by decide) (fun hx => absurd hx (by decide)) (fun _ => ?_)
  refine w_aln l_300_7 rfl ?_
  refine w_grn l_300_8 (by decide) hc.1 hr ?_
  refine w_iln l_300_11 rfl ?_
  refine q_st [vr a, vi ((i : Nat) : Int)] [] l_300_12 (by decide) rfl rfl (Nat.le_of_ble_eq_true rfl) (by rw [mx_304]; exact Nat.le_of_ble_eq_true rfl) (by rw [rk_304]; decide) (o_304 ha hi hb hb2) ?_
  refine w_ir l_300_15 (by omega) ?_
  exact ⟨rfl, rfl⟩

theorem mx_184 : mxl 184 = 1 := by decide +kernel
theorem mt_184 : mtc 184 = 13 := by decide +kernel
theorem rk_184 (as : List AV) : rkA 184 as = 0 := rfl
theorem l_184_0 : look 184 0 = some (.getstatic 18, 3, 0, 0, 0, 790) := by decide +kernel
theorem l_184_3 : look 184 3 = some (.ifCond .eq 14, 3, 0, 0, 0, 0) := by decide +kernel
theorem l_184_6 : look 184 6 = some (.aload_n 0, 1, 0, 0, 0, 0) := by decide +kernel
theorem l_184_7 : look 184 7 = some (.getfield 22, 3, 13, 1, 0, 799) := by decide +kernel
theorem l_184_10 : look 184 10 = some (.ifCond .ne 7, 3, 0, 0, 0, 0) := by decide +kernel
theorem l_184_13 : look 184 13 = some (.iconst 1, 1, 0, 0, 0, 0) := by decide +kernel
theorem l_184_14 : look 184 14 = some (.goto 4, 3, 0, 0, 0, 0) := by decide +kernel
theorem l_184_17 : look 184 17 = some (.iconst 0, 1, 0, 0, 0, 0) := by decide +kernel
theorem l_184_18 : look 184 18 = some (.ireturn, 1, 0, 0, 1, 0) := by decide +kernel
theorem c_184 {b : Nat} (hc : S[b]? = some (0, 13) ∧ I b 1 = 0) : CL xs 184 [vr b] (S, I, T, cc, zz) (FN (some (vi 1)) (S, I, T, cc, zz)) := by
  refine CL_start (r := 0) (ls := [vr b]) (rk_184 _) rfl ?_
  refine w_gs0 l_184_0 ?_
  refine w_zeq 17 l_184_3 (by decide) (fun hx => absurd hx (by decide)) (fun _ => ?_)
  refine w_aln l_184_6 rfl ?_
  refine w_gin 0 l_184_7 (by decide) hc.1 hc.2 ?_
  refine w_zne 17 l_184_10 (by decide) (fun hx => absurd hx (by decide)) (fun _ => ?_)
  refine w_ic l_184_13 (by decide) ?_
  refine w_go 18 l_184_14 (by decide) ?_
  refine w_ir l_184_18 (by decide) ?_
  exact ⟨rfl, rfl⟩

theorem mx_183 : mxl 183 = 1 := by decide +kernel
theorem mt_183 : mtc 183 = 13 := by decide +kernel
theorem rk_183 (as : List AV) : rkA 183 as = 0 := rfl
theorem l_183_0 : look 183 0 = some (.aload_n 0, 1, 0, 0, 0, 0) := by decide +kernel
theorem l_183_1 : look 183 1 = some (.getfield 15, 3, 13, 0, 2, 798) := by decide +kernel
theorem l_183_4 : look 183 4 = some (.areturn, 1, 0, 0, 0, 0) := by decide +kernel
theorem c_183 {b v : Nat} (hs : S[b]? = some (0, 13)) (hr : T b 0 = v + 1) : CL xs 183 [vr b] (S, I, T, cc, zz) (FN (some (vr v)) (S, I, T, cc, zz)) := by
  refine CL_start (r := 0) (ls := [vr b]) (rk_183 _) rfl ?_
  refine w_aln l_183_0 rfl ?_
  refine w_grn l_183_1 (by decide) hs hr ?_
  refine w_rr l_183_4 ?_
  exact ⟨rfl, rfl⟩

theorem mx_175 : mxl 175 = 1 := by decide +kernel
theorem mt_175 : mtc 175 = 13 := by decide +kernel
theorem rk_175 (as : List AV) : rkA 175 as = 0 := rfl
theorem l_175_0 : look 175 0 = some (.aload_n 0, 1, 0, 0, 0, 0) := by decide +kernel
theorem l_175_1 : look 175 1 = some (.getfield 79, 3, 13, 3, 0, 801) := by decide +kernel
theorem l_175_4 : look 175 4 = some (.ireturn, 1, 0, 0, 0, 0) := by decide +kernel
theorem c_175 {b n : Nat} (hs : S[b]? = some (0, 13)) (hn : I b 3 = ((n : Nat) : Int)) : CL xs 175 [vr b] (S, I, T, cc, zz) (FN (some (vi ((n : Nat) : Int))) (S, I, T, cc, zz)) := by
  refine CL_start (r := 0) (ls := [vr b]) (rk_175 _) rfl ?_
  refine w_aln l_175_0 rfl ?_
  refine w_gin ((n : Nat) : Int) l_175_1 (by decide) hs hn ?_
  refine w_ir l_175_4 (Or.inl rfl) ?_
  exact ⟨rfl, rfl⟩

theorem mx_200 : mxl 200 = 1 := by decide +kernel
theorem mt_200 : mtc 200 = 13 := by decide +kernel
theorem rk_200 (as : List AV) : rkA 200 as = 1 := rfl
theorem l_200_0 : look 200 0 = some (.aload_n 0, 1, 0, 0, 0, 0) := by decide +kernel
theorem l_200_1 : look 200 1 = some (.invokespecial 343, 3, 175, 1, 10, 987) := by decide +kernel
theorem l_200_4 : look 200 4 = some (.ireturn, 1, 0, 0, 0, 0) := by decide +kernel
theorem c_200 {b n : Nat} (hs : S[b]? = some (0, 13)) (hn : I b 3 = ((n : Nat) : Int)) : CL xs 200 [vr b] (S, I, T, cc, zz) (FN (some (vi ((n : Nat) : Int))) (S, I, T, cc, zz)) := by
  refine CL_start (r := 1) (ls := [vr b]) (rk_200 _) rfl ?_
  refine w_aln l_200_0 rfl ?_
  refine x_su [] [] l_200_1 rfl rfl (Nat.le_of_ble_eq_true rfl) (by rw [mx_175]; exact (Nat.le_of_ble_eq_true rfl)) (by rw [mt_175]; exact hs) (by rw [mt_175]; decide) (by rw [rk_175]; decide) (RX.f (c_175 hs hn)) (fun v m1 h1 => ?_)
  obtain ⟨rfl, rfl⟩ := h1
  refine w_ir l_200_4 (Or.inl rfl) ?_
  exact ⟨rfl, rfl⟩

theorem mx_207 : mxl 207 = 4 := by decide +kernel
theorem mt_207 : mtc 207 = 99 := by decide +kernel
theorem rk_207 (as : List AV) : rkA 207 as = 1 := rfl
theorem l_207_0 : look 207 0 = some (.iload_n 0, 1, 0, 0, 0, 0) := by decide +kernel
theorem l_207_1 : look 207 1 = some (.iload_n 1, 1, 0, 0, 0, 0) := by decide +kernel
theorem l_207_2 : look 207 2 = some (.iload_n 2, 1, 0, 0, 0, 0) := by decide +kernel
theorem l_207_3 : look 207 3 = some (.invokestatic 194, 3, 0, 2, 11, 834) := by decide +kernel
theorem l_207_6 : look 207 6 = some (.iadd, 1, 0, 0, 0, 0) := by decide +kernel
theorem l_207_7 : look 207 7 = some (.istore_n 3, 1, 0, 0, 0, 0) := by decide +kernel
theorem l_207_8 : look 207 8 = some (.iconst 0, 1, 0, 0, 0, 0) := by decide +kernel
theorem l_207_9 : look 207 9 = some (.iload_n 3, 1, 0, 0, 0, 0) := by decide +kernel
theorem l_207_10 : look 207 10 = some (.if_icmp .ge 11, 3, 0, 0, 0, 0) := by decide +kernel
theorem l_207_13 : look 207 13 = some (.iload_n 3, 1, 0, 0, 0, 0) := by decide +kernel
theorem l_207_14 : look 207 14 = some (.ldc 200, 2, 2147483639, 0, 1, 837) := by decide +kernel
theorem l_207_16 : look 207 16 = some (.if_icmp .gt 5, 3, 0, 0, 0, 0) := by decide +kernel
theorem l_207_19 : look 207 19 = some (.iload_n 3, 1, 0, 0, 0, 0) := by decide +kernel
theorem l_207_20 : look 207 20 = some (.ireturn, 1, 0, 0, 0, 0) := by decide +kernel
theorem l_207_21 : look 207 21 = some (.iload_n 0, 1, 0, 0, 0, 0) := by decide +kernel
theorem l_207_22 : look 207 22 = some (.iload_n 1, 1, 0, 0, 0, 0) := by decide +kernel
theorem l_207_23 : look 207 23 = some (.invokestatic 201, 3, 208, 2, 1, 838) := by decide +kernel
theorem l_207_26 : look 207 26 = some (.ireturn, 1, 0, 0, 0, 0) := by decide +kernel
theorem c_207 {a b c : Nat} (ha : a < 1000) (hb : b < 1000) (hc : c < 2000) (hc1 : 1 ≤ c) : CL xs 207 [vi ((a : Nat) : Int), vi ((b : Nat) : Int), vi ((c : Nat) : Int)] (S, I, T, cc, zz) (FN (some (vi ((a + max b c : Nat) : Int))) (S, I, T, cc, zz)) := by
  refine CL_start (r := 1) (ls := [vi ((a : Nat) : Int), vi ((b : Nat) : Int), vi ((c : Nat) : Int), vs 2]) (rk_207 _) rfl ?_
  refine w_iln l_207_0 rfl ?_
  refine w_iln l_207_1 rfl ?_
  refine w_iln l_207_2 rfl ?_
  refine w_mx ((max b c : Nat) : Int) l_207_3 (Nat.le_of_ble_eq_true rfl) (by split <;> omega) ?_
  refine w_add ((a + max b c : Nat) : Int) l_207_6 (by unfold wr; omega) ?_
  refine w_isn l_207_7 ⟨Nat.le_of_ble_eq_true rfl, rfl⟩ ?_
  refine w_ic l_207_8 (by decide) ?_
  refine w_iln l_207_9 rfl ?_
  refine w_cge 21 l_207_10 (by decide) (fun hx => absurd hx (by omega)) (fun _ => ?_)
  refine w_iln l_207_13 rfl ?_
  refine w_ldi (Or.inl l_207_14) (by decide) ?_
  refine w_cgt 21 l_207_16 (by decide) (fun hx => absurd hx (by omega)) (fun _ => ?_)
  refine w_iln l_207_19 rfl ?_
  refine w_ir l_207_20 (Or.inl rfl) ?_
  exact ⟨rfl, rfl⟩

theorem mx_177 : mxl 177 = 6 := by decide +kernel
theorem mt_177 : mtc 177 = 13 := by decide +kernel
theorem rk_177 (as : List AV) : rkA 177 as = 2 := rfl
theorem l_177_0 : look 177 0 = some (.aload_n 0, 1, 0, 0, 0, 0) := by decide +kernel
theorem l_177_1 : look 177 1 = some (.getfield 15, 3, 13, 0, 2, 798) := by decide +kernel
theorem l_177_4 : look 177 4 = some (.arraylength, 1, 0, 0, 0, 0) := by decide +kernel
theorem l_177_5 : look 177 5 = some (.istore_n 2, 1, 0, 0, 0, 0) := by decide +kernel
theorem l_177_6 : look 177 6 = some (.iload_n 1, 1, 0, 0, 0, 0) := by decide +kernel
theorem l_177_7 : look 177 7 = some (.aload_n 0, 1, 0, 0, 0, 0) := by decide +kernel
theorem l_177_8 : look 177 8 = some (.getfield 22, 3, 13, 1, 0, 799) := by decide +kernel
theorem l_177_11 : look 177 11 = some (.ishl, 1, 0, 0, 0, 0) := by decide +kernel
theorem l_177_12 : look 177 12 = some (.istore_n 3, 1, 0, 0, 0, 0) := by decide +kernel
theorem l_177_13 : look 177 13 = some (.iload_n 3, 1, 0, 0, 0, 0) := by decide +kernel
theorem l_177_14 : look 177 14 = some (.iload_n 2, 1, 0, 0, 0, 0) := by decide +kernel
theorem l_177_15 : look 177 15 = some (.isub, 1, 0, 0, 0, 0) := by decide +kernel
theorem l_177_16 : look 177 16 = some (.istore 4, 2, 0, 0, 0, 0) := by decide +kernel
theorem l_177_18 : look 177 18 = some (.iload_n 2, 1, 0, 0, 0, 0) := by decide +kernel
theorem l_177_19 : look 177 19 = some (.iload 4, 2, 0, 0, 0, 0) := by decide +kernel
theorem l_177_21 : look 177 21 = some (.iload_n 2, 1, 0, 0, 0, 0) := by decide +kernel
theorem l_177_22 : look 177 22 = some (.iconst 2, 1, 0, 0, 0, 0) := by decide +kernel
theorem l_177_23 : look 177 23 = some (.aload_n 0, 1, 0, 0, 0, 0) := by decide +kernel
theorem l_177_24 : look 177 24 = some (.getfield 22, 3, 13, 1, 0, 799) := by decide +kernel
theorem l_177_27 : look 177 27 = some (.ishl, 1, 0, 0, 0, 0) := by decide +kernel
theorem l_177_28 : look 177 28 = some (.iadd, 1, 0, 0, 0, 0) := by decide +kernel
theorem l_177_29 : look 177 29 = some (.invokestatic 114, 3, 207, 3, 1, 831) := by decide +kernel
theorem l_177_32 : look 177 32 = some (.istore 5, 2, 0, 0, 0, 0) := by decide +kernel
theorem l_177_34 : look 177 34 = some (.iload 5, 2, 0, 0, 0, 0) := by decide +kernel
theorem l_177_36 : look 177 36 = some (.ldc 39, 2, 2147483647, 0, 1, 841) := by decide +kernel
theorem l_177_38 : look 177 38 = some (.if_icmp .ne 13, 3, 0, 0, 0, 0) := by decide +kernel
theorem l_177_44 : look 177 44 = some (.dup, 1, 0, 0, 0, 0) := by decide +kernel
theorem l_177_47 : look 177 47 = some (.invokespecial 124, 3, 0, 0, 99, 0) := by decide +kernel
theorem l_177_50 : look 177 50 = some (.athrow, 1, 0, 0, 0, 0) := by decide +kernel
theorem l_177_51 : look 177 51 = some (.iload 5, 2, 0, 0, 0, 0) := by decide +kernel
theorem l_177_53 : look 177 53 = some (.aload_n 0, 1, 0, 0, 0, 0) := by decide +kernel
theorem l_177_54 : look 177 54 = some (.getfield 22, 3, 13, 1, 0, 799) := by decide +kernel
theorem l_177_57 : look 177 57 = some (.ishr, 1, 0, 0, 0, 0) := by decide +kernel
theorem l_177_58 : look 177 58 = some (.ireturn, 1, 0, 0, 0, 0) := by decide +kernel
theorem c_177 {b v cap : Nat} {t : List Int} {n : Nat} (h : SBd S I T b v cap t) (hn : cap < n) (h3 : n ≤ 300) : CL xs 177 [vr b, vi ((n : Nat) : Int)] (S, I, T, cc, zz) (FN (some (vi ((max n (2 * cap + 2) : Nat) : Int))) (S, I, T, cc, zz)) := by
  have hc : S[b]? = some (0, 13) ∧ I b 1 = 0 := ⟨h.1, h.2.2.2.2.2.2.1⟩
  have h6 := h.2.2.2.2.2.1
  refine CL_start (r := 2) (ls := [vr b, vi ((n : Nat) : Int), vs 2, vs 2, vs 2, vs 2]) (rk_177 _) rfl ?_
  refine w_aln l_177_0 rfl ?_
  refine w_grn l_177_1 (by decide) h.1 h.2.1 ?_
  refine w_len l_177_4 h.2.2.1 ?_
  refine w_isn l_177_5 ⟨Nat.le_of_ble_eq_true rfl, rfl⟩ ?_
  refine w_iln l_177_6 rfl ?_
  refine w_aln l_177_7 rfl ?_
  refine w_gin 0 l_177_8 (by decide) hc.1 hc.2 ?_
  refine w_shl ((n : Nat) : Int) l_177_11 (shl0 (by omega)) ?_
  refine w_isn l_177_12 ⟨Nat.le_of_ble_eq_true rfl, rfl⟩ ?_
  refine w_iln l_177_13 rfl ?_
  refine w_iln l_177_14 rfl ?_
  refine w_sub ((n - cap : Nat) : Int) l_177_15 (by unfold wr; omega) ?_
  refine w_is l_177_16 ⟨Nat.le_of_ble_eq_true rfl, rfl⟩ ?_
  refine w_iln l_177_18 rfl ?_
  refine w_il l_177_19 rfl ?_
  refine w_iln l_177_21 rfl ?_
  refine w_ic l_177_22 (by decide) ?_
  refine w_aln l_177_23 rfl ?_
  refine w_gin 0 l_177_24 (by decide) hc.1 hc.2 ?_
  refine w_shl ((2 : Nat) : Int) l_177_27 (shl0 (m := 2) (by decide)) ?_
  refine w_add ((cap + 2 : Nat) : Int) l_177_28 (by unfold wr; omega) ?_
  refine x_st [vi ((cap : Nat) : Int), vi ((n - cap : Nat) : Int), vi ((cap + 2 : Nat) : Int)] [] l_177_29 (Or.inl rfl) rfl rfl (Nat.le_of_ble_eq_true rfl) (by rw [mx_207]; exact (Nat.le_of_ble_eq_true rfl)) (by rw [rk_207]; decide) (RX.f (c_207 (by omega) (by omega) (by omega) (by omega))) (fun v m1 h1 => ?_)
  obtain ⟨rfl, rfl⟩ := h1
  refine w_is l_177_32 ⟨Nat.le_of_ble_eq_true rfl, rfl⟩ ?_
  refine w_il l_177_34 rfl ?_
  refine w_ldi (Or.inl l_177_36) (by decide) ?_
  refine w_cne 51 l_177_38 (by decide) (fun _ => ?_) (fun hx => absurd hx (by omega))
  refine w_il l_177_51 rfl ?_
  refine w_aln l_177_53 rfl ?_
  refine w_gin 0 l_177_54 (by decide) hc.1 hc.2 ?_
  refine w_shr ((max n (2 * cap + 2) : Nat) : Int) l_177_57 ((shr0 (m := cap + max (n - cap) (cap + 2)) (by omega)).trans (by omega)) ?_
  refine w_ir l_177_58 (Or.inl rfl) ?_
  exact ⟨rfl, rfl⟩

theorem mx_203 : mxl 203 = 3 := by decide +kernel
theorem mt_203 : mtc 203 = 99 := by decide +kernel
theorem rk_203 (as : List AV) : rkA 203 as = 0 := rfl
theorem l_203_0 : look 203 0 = some (.iload_n 1, 1, 0, 0, 0, 0) := by decide +kernel
theorem l_203_1 : look 203 1 = some (.aload_n 0, 1, 0, 0, 0, 0) := by decide +kernel
theorem l_203_2 : look 203 2 = some (.arraylength, 1, 0, 0, 0, 0) := by decide +kernel
theorem l_203_3 : look 203 3 = some (.if_icmp .ne 11, 3, 0, 0, 0, 0) := by decide +kernel
theorem l_203_6 : look 203 6 = some (.aload_n 0, 1, 0, 0, 0, 0) := by decide +kernel
theorem l_203_7 : look 203 7 = some (.invokevirtual 310, 3, 0, 1, 8, 845) := by decide +kernel
theorem l_203_10 : look 203 10 = some (.checkcast 311, 3, 3, 0, 0, 851) := by decide +kernel
theorem l_203_13 : look 203 13 = some (.areturn, 1, 0, 0, 0, 0) := by decide +kernel
theorem l_203_14 : look 203 14 = some (.iload_n 1, 1, 0, 0, 0, 0) := by decide +kernel
theorem l_203_15 : look 203 15 = some (.newarray .byte, 2, 3, 0, 0, 0) := by decide +kernel
theorem l_203_17 : look 203 17 = some (.astore_n 2, 1, 0, 0, 0, 0) := by decide +kernel
theorem l_203_18 : look 203 18 = some (.aload_n 0, 1, 0, 0, 0, 0) := by decide +kernel
theorem l_203_19 : look 203 19 = some (.iconst 0, 1, 0, 0, 0, 0) := by decide +kernel
theorem l_203_20 : look 203 20 = some (.aload_n 2, 1, 0, 0, 0, 0) := by decide +kernel
theorem l_203_21 : look 203 21 = some (.iconst 0, 1, 0, 0, 0, 0) := by decide +kernel
theorem l_203_22 : look 203 22 = some (.aload_n 0, 1, 0, 0, 0, 0) := by decide +kernel
theorem l_203_23 : look 203 23 = some (.arraylength, 1, 0, 0, 0, 0) := by decide +kernel
theorem l_203_24 : look 203 24 = some (.iload_n 1, 1, 0, 0, 0, 0) := by decide +kernel
theorem l_203_25 : look 203 25 = some (.invokestatic 304, 3, 0, 2, 5, 852) := by decide +kernel
theorem l_203_28 : look 203 28 = some (.invokestatic 150, 3, 0, 5, 6, 855) := by decide +kernel
theorem l_203_31 : look 203 31 = some (.aload_n 2, 1, 0, 0, 0, 0) := by decide +kernel
theorem l_203_32 : look 203 32 = some (.areturn, 1, 0, 0, 0, 0) := by decide +kernel
theorem c_203 {a k n : Nat} (ha : S[a]? = some (3, k)) (hk : k < n) (hn : n ≤ 8000000) (h1 : 1 ≤ cc) (h2 : n ≤ zz) : CL xs 203 [vr a, vi ((n : Nat) : Int)] (S, I, T, cc, zz) (RX (fun r m1 => r = some (vr S.length) ∧ ∃ I1, m1 = (S ++ [(3, n)], I1, zt S.length T, cc - 1, zz - n) ∧ (∀ z w, z ≠ S.length → I1 z w = I z w) ∧ ∀ j, j < k → I1 S.length j = I a j)) := by
  refine CL_start (r := 0) (ls := [vr a, vi ((n : Nat) : Int), vs 2]) (rk_203 _) rfl ?_
  refine w_iln l_203_0 rfl ?_
  refine w_aln l_203_1 rfl ?_
  refine w_len l_203_2 ha ?_
  refine w_cne 14 l_203_3 (by decide) (fun _ => ?_) (fun hx => absurd hx (by omega))
  refine w_iln l_203_14 rfl ?_
  refine w_na (n := n) l_203_15 (fun _ _ _ _ => rfl) h1 h2 hn ?_
  refine w_ran l_203_17 ⟨Nat.le_of_ble_eq_true rfl, rfl⟩ ?_
  refine w_aln l_203_18 rfl ?_
  refine w_ic l_203_19 (by decide) ?_
  refine w_aln l_203_20 rfl ?_
  refine w_ic l_203_21 (by decide) ?_
  refine w_aln l_203_22 rfl ?_
  refine w_len l_203_23 (ap_l ha) ?_
  refine w_iln l_203_24 rfl ?_
  refine w_mn ((k : Nat) : Int) l_203_25 (Nat.le_of_ble_eq_true rfl) (by split <;> omega) ?_
  refine w_cp 0 0 k l_203_28 (ap_l ha) (ap_e rfl) (by decide) rfl rfl rfl (by omega) (by omega) (Nat.le_of_ble_eq_true rfl) ?_
  refine w_aln l_203_31 rfl ?_
  refine w_rr l_203_32 ?_
  refine ⟨_, rfl, rfl, _, rfl, fun z w hz => ?_, fun j hj => ?_⟩
  · rw [cpy_no hz, zr_o hz]
  · show (if S.length = S.length ∧ 0 ≤ j ∧ j < 0 + k then zr S.length I a (0 + (j - 0)) else _) = _
    rw [if_pos ⟨rfl, Nat.zero_le _, by omega⟩, zr_o (Nat.ne_of_lt (len_of ha))]
    rw [show 0 + (j - 0) = j by omega]

/-- a builder, beside a new row -/
theorem SBd.g {b v cap n : Nat} {t : List Int} {I1 : Ix} {S1 : List (Nat × Nat)} {T1 : Nat → Nat → Nat} (h : SBd S I T b v cap t) (hS : S1 = S ++ [(3, n)]) (hn : cap ≤ n ∧ n ≤ 600) (e1 : ∀ z w, z ≠ S.length → I1 z w = I z w) (e2 : ∀ j, j < cap → I1 S.length j = I v j) (e3 : T1 b 0 = S.length + 1) : SBd S1 I1 T1 b S.length n t := by
  obtain ⟨h1, h2, h3, h4, h5, h6, h7, h8, h9⟩ := h
  have hb := len_of h1
  subst hS
  refine ⟨ap_l h1, e3, ap_e rfl, by omega, by omega, by omega, by rw [e1 _ _ (by omega)]; exact h7, by rw [e1 _ _ (by omega)]; exact h8, fun j hj => by rw [e2 j (by omega)]; exact h9 j hj⟩

theorem mx_176 : mxl 176 = 3 := by decide +kernel
theorem mt_176 : mtc 176 = 13 := by decide +kernel
theorem rk_176 (as : List AV) : rkA 176 as = 3 := rfl
theorem l_176_0 : look 176 0 = some (.aload_n 0, 1, 0, 0, 0, 0) := by decide +kernel
theorem l_176_1 : look 176 1 = some (.getfield 15, 3, 13, 0, 2, 798) := by decide +kernel
theorem l_176_4 : look 176 4 = some (.arraylength, 1, 0, 0, 0, 0) := by decide +kernel
theorem l_176_5 : look 176 5 = some (.aload_n 0, 1, 0, 0, 0, 0) := by decide +kernel
theorem l_176_6 : look 176 6 = some (.getfield 22, 3, 13, 1, 0, 799) := by decide +kernel
theorem l_176_9 : look 176 9 = some (.ishr, 1, 0, 0, 0, 0) := by decide +kernel
theorem l_176_10 : look 176 10 = some (.istore_n 2, 1, 0, 0, 0, 0) := by decide +kernel
theorem l_176_11 : look 176 11 = some (.iload_n 1, 1, 0, 0, 0, 0) := by decide +kernel
theorem l_176_12 : look 176 12 = some (.iload_n 2, 1, 0, 0, 0, 0) := by decide +kernel
theorem l_176_13 : look 176 13 = some (.isub, 1, 0, 0, 0, 0) := by decide +kernel
theorem l_176_14 : look 176 14 = some (.ifCond .le 24, 3, 0, 0, 0, 0) := by decide +kernel
theorem l_176_17 : look 176 17 = some (.aload_n 0, 1, 0, 0, 0, 0) := by decide +kernel
theorem l_176_18 : look 176 18 = some (.aload_n 0, 1, 0, 0, 0, 0) := by decide +kernel
theorem l_176_19 : look 176 19 = some (.getfield 15, 3, 13, 0, 2, 798) := by decide +kernel
theorem l_176_22 : look 176 22 = some (.aload_n 0, 1, 0, 0, 0, 0) := by decide +kernel
theorem l_176_23 : look 176 23 = some (.iload_n 1, 1, 0, 0, 0, 0) := by decide +kernel
theorem l_176_24 : look 176 24 = some (.invokevirtual 104, 3, 177, 2, 9, 827) := by decide +kernel
theorem l_176_27 : look 176 27 = some (.aload_n 0, 1, 0, 0, 0, 0) := by decide +kernel
theorem l_176_28 : look 176 28 = some (.getfield 22, 3, 13, 1, 0, 799) := by decide +kernel
theorem l_176_31 : look 176 31 = some (.ishl, 1, 0, 0, 0, 0) := by decide +kernel
theorem l_176_32 : look 176 32 = some (.invokestatic 108, 3, 203, 2, 1, 842) := by decide +kernel
theorem l_176_35 : look 176 35 = some (.putfield 15, 3, 13, 0, 2, 798) := by decide +kernel
theorem l_176_38 : look 176 38 = some (.return_, 1, 0, 0, 0, 0) := by decide +kernel
theorem c_176 {b v cap : Nat} {t : List Int} {n : Nat} (h : SBd S I T b v cap t) (hn : n ≤ 300) (h1 : 1 ≤ cc) (h2 : 602 ≤ zz) : CL xs 176 [vr b, vi ((n : Nat) : Int)] (S, I, T, cc, zz) (RX (fun r m1 => r = none ∧ ∃ S1 I1 T1 c1 z1 v1 cap1, m1 = (S1, I1, T1, c1, z1) ∧ SBd S1 I1 T1 b v1 cap1 t ∧ n ≤ cap1 ∧ GRW b v cap v1 cap1 S I T cc zz S1 I1 T1 c1 z1)) := by
  have hc : S[b]? = some (0, 13) ∧ I b 1 = 0 := ⟨h.1, h.2.2.2.2.2.2.1⟩
  have h6 := h.2.2.2.2.2.1
  refine CL_start (r := 3) (ls := [vr b, vi ((n : Nat) : Int), vs 2]) (rk_176 _) rfl ?_
  refine w_aln l_176_0 rfl ?_
  refine w_grn l_176_1 (by decide) h.1 h.2.1 ?_
  refine w_len l_176_4 h.2.2.1 ?_
  refine w_aln l_176_5 rfl ?_
  refine w_gin 0 l_176_6 (by decide) hc.1 hc.2 ?_
  refine w_shr ((cap : Nat) : Int) l_176_9 (shr0 (by omega)) ?_
  refine w_isn l_176_10 ⟨Nat.le_of_ble_eq_true rfl, rfl⟩ ?_
  refine w_iln l_176_11 rfl ?_
  refine w_iln l_176_12 rfl ?_
  refine w_sub ((n : Int) - (cap : Int)) l_176_13 (by unfold wr; omega) ?_
  by_cases hcn : n ≤ cap
  · refine w_zle 38 l_176_14 (by decide) (fun _ => ?_) (fun hx => absurd hx (by omega))
    refine w_vr l_176_38 ?_
    exact ⟨_, rfl, rfl, _, _, _, _, _, v, cap, rfl, h, hcn, GRW.r⟩
  · refine w_zle 38 l_176_14 (by decide) (fun hx => absurd hx (by omega)) (fun _ => ?_)
    refine w_aln l_176_17 rfl ?_
    refine w_aln l_176_18 rfl ?_
    refine w_grn l_176_19 (by decide) h.1 h.2.1 ?_
    refine w_aln l_176_22 rfl ?_
    refine w_iln l_176_23 rfl ?_
    refine x_iv [vi ((n : Nat) : Int)] [vr v, vr b] l_176_24 (Or.inr rfl) rfl rfl ⟨(Nat.le_of_ble_eq_true rfl), rfl⟩ (by rw [mx_177]; exact (Nat.le_of_ble_eq_true rfl)) (by rw [mt_177]; exact h.1) (by rw [mt_177]; decide) (by rw [rk_177]; decide) (RX.f (c_177 h (by omega) hn)) (fun v m1 h1 => ?_)
    obtain ⟨rfl, rfl⟩ := h1
    refine w_aln l_176_27 rfl ?_
    refine w_gin 0 l_176_28 (by decide) hc.1 hc.2 ?_
    refine w_shl ((max n (2 * cap + 2) : Nat) : Int) l_176_31 (shl0 (by omega)) ?_
    refine x_st [vr v, vi ((max n (2 * cap + 2) : Nat) : Int)] [vr b] l_176_32 (Or.inl rfl) rfl rfl (Nat.le_of_ble_eq_true rfl) (by rw [mx_203]; exact (Nat.le_of_ble_eq_true rfl)) (by rw [rk_203]; decide) (c_203 (T := T) h.2.2.1 (by omega) (by omega) h1 (by omega)) (fun v9 m9 g9 => ?_)
    obtain ⟨rfl, I1, rfl, g1, g2⟩ := g9
    refine w_pR l_176_35 (ap_l h.1) (by decide) ?_
    refine w_vr l_176_38 ?_
    refine ⟨_, rfl, rfl, _, _, _, _, _, S.length, max n (2 * cap + 2), rfl, h.g rfl (by omega) g1 g2 ut_e, by omega, ⟨_, rfl⟩, fun z w hz hb hv => g1 z w (by omega), fun z w hz hb => ?_, Or.inr (Nat.le_refl _), by omega, by omega, by omega⟩
    rw [ut_o (by omega), zt_o (by omega)]

end WSB
