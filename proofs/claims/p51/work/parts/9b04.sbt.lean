/-! contracts: a text appended -/
section WSD
variable {xs : List Int} {S : List (Nat × Nat)} {I : Ix} {T : Nat → Nat → Nat} {cc zz : Nat}
theorem STX.p2 {sv a y : AV} {u : List Int} {x : Nat} (h : STX S I T sv u x) : prevOk [a, sv, y] 2 = true := by
  rcases h with ⟨q, rfl, -⟩ | ⟨o, k, rfl, -⟩ <;> rfl
theorem STX.lx2 {sv : AV} {u : List Int} {x b : Nat} (h : STX S I T sv u x) : (lex [vr b, sv]) = [vr b, sv] := by
  show vr b :: lex (sv :: []) = _
  rw [(h.lex1 []).1]; rfl
theorem STX.lx3 {sv : AV} {u : List Int} {x b : Nat} {n : Int} (h : STX S I T sv u x) : (lex [vr b, vi n, sv]) = [vr b, vi n, sv] := by
  show vr b :: vi n :: lex (sv :: []) = _
  rw [(h.lex1 []).1]; rfl

theorem mx_191 : mxl 191 = 4 := by decide +kernel
theorem mt_191 : mtc 191 = 12 := by decide +kernel
theorem rk_191 (as : List AV) : rkA 191 as = 1 := rfl
theorem l_191_0 : look 191 0 = some (.aload_n 0, 1, 0, 0, 0, 0) := by decide +kernel
theorem l_191_1 : look 191 1 = some (.invokevirtual 335, 3, 301, 1, 0, 293) := by decide +kernel
theorem l_191_4 : look 191 4 = some (.iload_n 3, 1, 0, 0, 0, 0) := by decide +kernel
theorem l_191_5 : look 191 5 = some (.if_icmp .ne 23, 3, 0, 0, 0, 0) := by decide +kernel
theorem l_191_8 : look 191 8 = some (.aload_n 0, 1, 0, 0, 0, 0) := by decide +kernel
theorem l_191_9 : look 191 9 = some (.getfield 9, 3, 12, 0, 3, 1009) := by decide +kernel
theorem l_191_12 : look 191 12 = some (.iconst 0, 1, 0, 0, 0, 0) := by decide +kernel
theorem l_191_13 : look 191 13 = some (.aload_n 1, 1, 0, 0, 0, 0) := by decide +kernel
theorem l_191_14 : look 191 14 = some (.iload_n 2, 1, 0, 0, 0, 0) := by decide +kernel
theorem l_191_15 : look 191 15 = some (.iload_n 3, 1, 0, 0, 0, 0) := by decide +kernel
theorem l_191_16 : look 191 16 = some (.ishl, 1, 0, 0, 0, 0) := by decide +kernel
theorem l_191_17 : look 191 17 = some (.aload_n 0, 1, 0, 0, 0, 0) := by decide +kernel
theorem l_191_18 : look 191 18 = some (.getfield 9, 3, 12, 0, 3, 1009) := by decide +kernel
theorem l_191_21 : look 191 21 = some (.arraylength, 1, 0, 0, 0, 0) := by decide +kernel
theorem l_191_22 : look 191 22 = some (.invokestatic 212, 3, 0, 5, 6, 909) := by decide +kernel
theorem l_191_25 : look 191 25 = some (.goto 18, 3, 0, 0, 0, 0) := by decide +kernel
theorem l_191_28 : look 191 28 = some (.aload_n 0, 1, 0, 0, 0, 0) := by decide +kernel
theorem l_191_29 : look 191 29 = some (.getfield 9, 3, 12, 0, 3, 1009) := by decide +kernel
theorem l_191_32 : look 191 32 = some (.iconst 0, 1, 0, 0, 0, 0) := by decide +kernel
theorem l_191_33 : look 191 33 = some (.aload_n 1, 1, 0, 0, 0, 0) := by decide +kernel
theorem l_191_34 : look 191 34 = some (.iload_n 2, 1, 0, 0, 0, 0) := by decide +kernel
theorem l_191_35 : look 191 35 = some (.aload_n 0, 1, 0, 0, 0, 0) := by decide +kernel
theorem l_191_36 : look 191 36 = some (.getfield 9, 3, 12, 0, 3, 1009) := by decide +kernel
theorem l_191_39 : look 191 39 = some (.arraylength, 1, 0, 0, 0, 0) := by decide +kernel
theorem l_191_40 : look 191 40 = some (.invokestatic 106, 3, 202, 5, 1, 910) := by decide +kernel
theorem l_191_43 : look 191 43 = some (.return_, 1, 0, 0, 0, 0) := by decide +kernel
theorem c_191s {q v n cap : Nat} (hq : q < 53) (hs : S[v]? = some (3, cap)) (hn : n + (stb.getD q []).length ≤ cap) (hc : cap ≤ 600) : CL xs 191 [vs (2 * q + 4), vr v, vi ((n : Nat) : Int), vi 0] (S, I, T, cc, zz) (RP S T cc zz (fun r I1 => r = none ∧ (∀ j, j < (stb.getD q []).length → I1 v (n + j) = (stb.getD q []).getD j 0) ∧ ∀ z w, (z = v → w < n) → I1 z w = I z w)) := by
  refine CL_start (r := 1) (ls := [vs (2 * q + 4), vr v, vi ((n : Nat) : Int), vi 0]) (rk_191 _) rfl ?_
  refine w_asn l_191_0 rfl ?_
  refine q_ivs [] [] l_191_1 rfl rfl (Nat.le_of_ble_eq_true rfl) (by rw [mx_301]; exact Nat.le_of_ble_eq_true rfl) hq mt_301 (by rw [rk_301]; decide) (s_301 hq) ?_
  refine w_iln l_191_4 rfl ?_
  refine w_cne 28 l_191_5 (by decide) (fun hx => absurd hx (by decide)) (fun _ => ?_)
  refine w_asn l_191_8 rfl ?_
  refine w_gvs l_191_9 hq ?_
  refine w_ic l_191_12 (by decide) ?_
  refine w_aln l_191_13 rfl ?_
  refine w_iln l_191_14 rfl ?_
  refine w_iln l_191_15 rfl ?_
  refine w_shl ((n : Nat) : Int) l_191_16 (shl0 (by omega)) ?_
  refine w_asn l_191_17 rfl ?_
  refine w_gvs l_191_18 hq ?_
  refine w_ls l_191_21 hq ?_
  refine w_cpS 0 n (stb.getD q []).length l_191_22 hq hs rfl rfl rfl (by omega) hn (Nat.le_of_ble_eq_true rfl) ?_
  refine w_go 43 l_191_25 (by decide) ?_
  refine w_vr l_191_43 ?_
  refine ⟨_, _, rfl, rfl, rfl, fun j hj => ?_, fun z w hw => ?_⟩
  · show (if v = v ∧ n ≤ n + j ∧ n + j < n + (stb.getD q []).length then (stb.getD q []).getD (0 + (n + j - n)) 0 else _) = _
    rw [if_pos ⟨rfl, by omega, by omega⟩, show 0 + (n + j - n) = j by omega]
  · exact if_neg (fun q => by have := hw q.1; omega)

theorem c_191o {o a v n cap : Nat} {u : List Int} (h1 : S[o]? = some (0, 12)) (h2 : T o 0 = a + 1) (h3 : S[a]? = some (3, u.length)) (h4 : I o 1 = 0) (h5 : ∀ j, j < u.length → I a j = u.getD j 0) (hs : S[v]? = some (3, cap)) (hn : n + u.length ≤ cap) (hc : cap ≤ 600) : CL xs 191 [vr o, vr v, vi ((n : Nat) : Int), vi 0] (S, I, T, cc, zz) (RP S T cc zz (fun r I1 => r = none ∧ (∀ j, j < u.length → I1 v (n + j) = u.getD j 0) ∧ ∀ z w, (z = v → w < n) → I1 z w = I z w)) := by
  refine CL_start (r := 1) (ls := [vr o, vr v, vi ((n : Nat) : Int), vi 0]) (rk_191 _) rfl ?_
  refine w_aln l_191_0 rfl ?_
  refine q_iv [] [] l_191_1 rfl rfl (Nat.le_of_ble_eq_true rfl) (by rw [mx_301]; exact Nat.le_of_ble_eq_true rfl) (by rw [mt_301]; exact h1) (by rw [mt_301]; decide) (by rw [rk_301]; decide) (o_301 ⟨h1, h4⟩) ?_
  refine w_iln l_191_4 rfl ?_
  refine w_cne 28 l_191_5 (by decide) (fun hx => absurd hx (by decide)) (fun _ => ?_)
  refine w_aln l_191_8 rfl ?_
  refine w_grn l_191_9 (by decide) h1 h2 ?_
  refine w_ic l_191_12 (by decide) ?_
  refine w_aln l_191_13 rfl ?_
  refine w_iln l_191_14 rfl ?_
  refine w_iln l_191_15 rfl ?_
  refine w_shl ((n : Nat) : Int) l_191_16 (shl0 (by omega)) ?_
  refine w_aln l_191_17 rfl ?_
  refine w_grn l_191_18 (by decide) h1 h2 ?_
  refine w_len l_191_21 h3 ?_
  refine w_cp 0 n u.length l_191_22 h3 hs (by decide) rfl rfl rfl (by omega) hn (Nat.le_of_ble_eq_true rfl) ?_
  refine w_go 43 l_191_25 (by decide) ?_
  refine w_vr l_191_43 ?_
  refine ⟨_, _, rfl, rfl, rfl, fun j hj => ?_, fun z w hw => ?_⟩
  · show (if v = v ∧ n ≤ n + j ∧ n + j < n + u.length then I a (0 + (n + j - n)) else _) = _
    rw [if_pos ⟨rfl, by omega, by omega⟩, show 0 + (n + j - n) = j by omega]; exact h5 j hj
  · exact if_neg (fun q => by have := hw q.1; omega)

theorem c_191 {sv : AV} {u : List Int} {x v n cap : Nat} (hS : STX S I T sv u x) (hs : S[v]? = some (3, cap)) (hn : n + u.length ≤ cap) (hc : cap ≤ 600) : CL xs 191 [sv, vr v, vi ((n : Nat) : Int), vi 0] (S, I, T, cc, zz) (RP S T cc zz (fun r I1 => r = none ∧ (∀ j, j < u.length → I1 v (n + j) = u.getD j 0) ∧ ∀ z w, (z = v → w < n) → I1 z w = I z w)) := by
  rcases hS with ⟨q, rfl, hq, rfl⟩ | ⟨o, a, rfl, h1, h2, h3, h4, h5, -⟩
  · exact c_191s hq hs hn hc
  · exact c_191o h1 h2 h3 h4 h5 hs hn hc
theorem RX.p {j : Nat} {as : List AV} {m : Mem} {c' z' : Nat} {P : Option AV → Ix → Prop} (h : CL xs j as m (RP S T c' z' P)) : CL xs j as m (RX (fun v m1 => ∃ I', m1 = (S, I', T, c', z') ∧ P v I')) := CL_mono h fun q m1 ⟨v, I', h1, h2, h3⟩ => ⟨v, h1, I', h2, h3⟩

theorem mx_185 : mxl 185 = 2 := by decide +kernel
theorem mt_185 : mtc 185 = 13 := by decide +kernel
theorem rk_185 (as : List AV) : rkA 185 as = 2 := rfl
theorem l_185_0 : look 185 0 = some (.getstatic 18, 3, 0, 0, 0, 790) := by decide +kernel
theorem l_185_3 : look 185 3 = some (.ifCond .eq 18, 3, 0, 0, 0, 0) := by decide +kernel
theorem l_185_6 : look 185 6 = some (.aload_n 0, 1, 0, 0, 0, 0) := by decide +kernel
theorem l_185_7 : look 185 7 = some (.getfield 22, 3, 13, 1, 0, 799) := by decide +kernel
theorem l_185_10 : look 185 10 = some (.aload_n 1, 1, 0, 0, 0, 0) := by decide +kernel
theorem l_185_11 : look 185 11 = some (.invokevirtual 40, 3, 301, 1, 0, 885) := by decide +kernel
theorem l_185_14 : look 185 14 = some (.if_icmp .eq 7, 3, 0, 0, 0, 0) := by decide +kernel
theorem l_185_17 : look 185 17 = some (.aload_n 0, 1, 0, 0, 0, 0) := by decide +kernel
theorem l_185_18 : look 185 18 = some (.invokevirtual 195, 3, 178, 1, 9, 886) := by decide +kernel
theorem l_185_21 : look 185 21 = some (.return_, 1, 0, 0, 0, 0) := by decide +kernel
theorem entS2 {sv : AV} {u : List Int} {x b : Nat} (h : STX S I T sv u x) : entryL 185 [vr b, sv] = [vr b, sv] := by
  unfold entryL
  rw [h.lx2, mx_185]; rfl
theorem c_185 {b x : Nat} {u : List Int} {sv : AV} (hc : S[b]? = some (0, 13) ∧ I b 1 = 0) (hS : STX S I T sv u x) : CL xs 185 [vr b, sv] (S, I, T, cc, zz) (FN none (S, I, T, cc, zz)) := by
  refine CL_start (r := 2) (ls := [vr b, sv]) (rk_185 _) (entS2 hS) ?_
  refine w_gs0 l_185_0 ?_
  refine w_zeq 21 l_185_3 (by decide) (fun hx => absurd hx (by decide)) (fun _ => ?_)
  refine w_aln l_185_6 rfl ?_
  refine w_gin 0 l_185_7 (by decide) hc.1 hc.2 ?_
  refine w_alS hS l_185_10 rfl ?_
  refine x_ivS [] [vi 0] hS l_185_11 rfl rfl ⟨(Nat.le_of_ble_eq_true rfl), rfl⟩ (by rw [mx_301, (hS.lex1 _).1]; exact (Nat.le_of_ble_eq_true rfl)) mt_301 (by rw [rk_301]; decide) (RX.f (t_301 hS)) (fun v m1 h1 => ?_)
  obtain ⟨rfl, rfl⟩ := h1
  refine w_ceq 21 l_185_14 (by decide) (fun _ => ?_) (fun hx => absurd hx (by decide))
  refine w_vr l_185_21 ?_
  exact ⟨rfl, rfl⟩

theorem mx_186 : mxl 186 = 3 := by decide +kernel
theorem mt_186 : mtc 186 = 13 := by decide +kernel
theorem rk_186 (as : List AV) : rkA 186 as = 3 := rfl
theorem l_186_0 : look 186 0 = some (.aload_n 0, 1, 0, 0, 0, 0) := by decide +kernel
theorem l_186_1 : look 186 1 = some (.aload_n 2, 1, 0, 0, 0, 0) := by decide +kernel
theorem l_186_2 : look 186 2 = some (.invokevirtual 397, 3, 185, 2, 9, 881) := by decide +kernel
theorem l_186_5 : look 186 5 = some (.aload_n 2, 1, 0, 0, 0, 0) := by decide +kernel
theorem l_186_6 : look 186 6 = some (.aload_n 0, 1, 0, 0, 0, 0) := by decide +kernel
theorem l_186_7 : look 186 7 = some (.getfield 15, 3, 13, 0, 2, 798) := by decide +kernel
theorem l_186_10 : look 186 10 = some (.iload_n 1, 1, 0, 0, 0, 0) := by decide +kernel
theorem l_186_11 : look 186 11 = some (.aload_n 0, 1, 0, 0, 0, 0) := by decide +kernel
theorem l_186_12 : look 186 12 = some (.getfield 22, 3, 13, 1, 0, 799) := by decide +kernel
theorem l_186_15 : look 186 15 = some (.invokevirtual 399, 3, 191, 4, 0, 905) := by decide +kernel
theorem l_186_18 : look 186 18 = some (.return_, 1, 0, 0, 0, 0) := by decide +kernel
theorem entS3 {sv : AV} {u : List Int} {x b : Nat} {n : Int} (h : STX S I T sv u x) : entryL 186 [vr b, vi n, sv] = [vr b, vi n, sv] := by
  unfold entryL
  rw [h.lx3, mx_186]; rfl
theorem c_186 {b v cap : Nat} {u : List Int} {sv : AV} {n x : Nat} (hc : S[b]? = some (0, 13) ∧ I b 1 = 0) (hr : T b 0 = v + 1) (hv : S[v]? = some (3, cap)) (hn : n + u.length ≤ cap) (h6 : cap ≤ 600) (hS : STX S I T sv u x) : CL xs 186 [vr b, vi ((n : Nat) : Int), sv] (S, I, T, cc, zz) (RP S T cc zz (fun r I1 => r = none ∧ (∀ j, j < u.length → I1 v (n + j) = u.getD j 0) ∧ ∀ z w, (z = v → w < n) → I1 z w = I z w)) := by
  refine CL_start (r := 3) (ls := [vr b, vi ((n : Nat) : Int), sv]) (rk_186 _) (entS3 hS) ?_
  refine w_aln l_186_0 rfl ?_
  refine w_alS hS l_186_1 rfl ?_
  refine x_iv [sv] [] l_186_2 (Or.inr rfl) rfl rfl ⟨(Nat.le_of_ble_eq_true rfl), rfl⟩ (by rw [mx_185, hS.lx2]; exact (Nat.le_of_ble_eq_true rfl)) (by rw [mt_185]; exact hc.1) (by rw [mt_185]; decide) (by rw [rk_185]; decide) (RX.f (c_185 hc hS)) (fun v m1 h1 => ?_)
  obtain ⟨rfl, rfl⟩ := h1
  refine w_alS hS l_186_5 rfl ?_
  refine w_aln l_186_6 rfl ?_
  refine w_grn l_186_7 (by decide) hc.1 hr ?_
  refine w_iln l_186_10 rfl ?_
  refine w_aln l_186_11 rfl ?_
  refine w_gin 0 l_186_12 (by decide) hc.1 hc.2 ?_
  refine x_ivS [vr v, vi ((n : Nat) : Int), vi 0] [] hS l_186_15 rfl rfl ⟨(Nat.le_of_ble_eq_true rfl), rfl⟩ (by rw [mx_191, (hS.lex1 _).1]; exact (Nat.le_of_ble_eq_true rfl)) mt_191 (by rw [rk_191]; decide) (RX.p (c_191 hS hv hn h6)) (fun v m1 h1 => ?_)
  obtain ⟨I1, rfl, rfl, e1, e2⟩ := h1
  refine w_vr l_186_18 ?_
  exact ⟨_, _, rfl, rfl, rfl, e1, e2⟩

theorem mx_179 : mxl 179 = 3 := by decide +kernel
theorem mt_179 : mtc 179 = 13 := by decide +kernel
theorem rk_179 (as : List AV) : rkA 179 as = 5 := rfl
theorem l_179_0 : look 179 0 = some (.aload_n 1, 1, 0, 0, 0, 0) := by decide +kernel
theorem l_179_1 : look 179 1 = some (.ifnonnull 8, 3, 0, 0, 0, 0) := by decide +kernel
theorem l_179_4 : look 179 4 = some (.aload_n 0, 1, 0, 0, 0, 0) := by decide +kernel
theorem l_179_5 : look 179 5 = some (.invokevirtual 204, 3, 180, 1, 9, 819) := by decide +kernel
theorem l_179_8 : look 179 8 = some (.areturn, 1, 0, 0, 0, 0) := by decide +kernel
theorem l_179_9 : look 179 9 = some (.aload_n 1, 1, 0, 0, 0, 0) := by decide +kernel
theorem l_179_10 : look 179 10 = some (.invokevirtual 32, 3, 299, 1, 0, 876) := by decide +kernel
theorem l_179_13 : look 179 13 = some (.istore_n 2, 1, 0, 0, 0, 0) := by decide +kernel
theorem l_179_14 : look 179 14 = some (.aload_n 0, 1, 0, 0, 0, 0) := by decide +kernel
theorem l_179_15 : look 179 15 = some (.aload_n 0, 1, 0, 0, 0, 0) := by decide +kernel
theorem l_179_16 : look 179 16 = some (.getfield 79, 3, 13, 3, 0, 801) := by decide +kernel
theorem l_179_19 : look 179 19 = some (.iload_n 2, 1, 0, 0, 0, 0) := by decide +kernel
theorem l_179_20 : look 179 20 = some (.iadd, 1, 0, 0, 0, 0) := by decide +kernel
theorem l_179_21 : look 179 21 = some (.invokevirtual 100, 3, 176, 2, 9, 823) := by decide +kernel
theorem l_179_24 : look 179 24 = some (.aload_n 0, 1, 0, 0, 0, 0) := by decide +kernel
theorem l_179_25 : look 179 25 = some (.aload_n 0, 1, 0, 0, 0, 0) := by decide +kernel
theorem l_179_26 : look 179 26 = some (.getfield 79, 3, 13, 3, 0, 801) := by decide +kernel
theorem l_179_29 : look 179 29 = some (.aload_n 1, 1, 0, 0, 0, 0) := by decide +kernel
theorem l_179_30 : look 179 30 = some (.invokevirtual 208, 3, 186, 3, 9, 877) := by decide +kernel
theorem l_179_33 : look 179 33 = some (.aload_n 0, 1, 0, 0, 0, 0) := by decide +kernel
theorem l_179_34 : look 179 34 = some (.dup, 1, 0, 0, 0, 0) := by decide +kernel
theorem l_179_35 : look 179 35 = some (.getfield 79, 3, 13, 3, 0, 801) := by decide +kernel
theorem l_179_38 : look 179 38 = some (.iload_n 2, 1, 0, 0, 0, 0) := by decide +kernel
theorem l_179_39 : look 179 39 = some (.iadd, 1, 0, 0, 0, 0) := by decide +kernel
theorem l_179_40 : look 179 40 = some (.putfield 79, 3, 13, 3, 0, 801) := by decide +kernel
theorem l_179_43 : look 179 43 = some (.aload_n 0, 1, 0, 0, 0, 0) := by decide +kernel
theorem l_179_44 : look 179 44 = some (.areturn, 1, 0, 0, 0, 0) := by decide +kernel
theorem entS1 {sv : AV} {u : List Int} {x b : Nat} (h : STX S I T sv u x) : entryL 179 [vr b, sv] = [vr b, sv, vs 2] := by
  unfold entryL
  rw [h.lx2, mx_179]; rfl
theorem c_179 {b v cap : Nat} {t u : List Int} {sv : AV} (h : SBd S I T b v cap t) (hS : STX S I T sv u v) (h3 : t.length + u.length ≤ 300) (h1 : 1 ≤ cc) (h2 : 602 ≤ zz) : CL xs 179 [vr b, sv] (S, I, T, cc, zz) (RX (BP b v cap (t ++ u) S I T cc zz)) := by
  have hc : S[b]? = some (0, 13) ∧ I b 1 = 0 := ⟨h.1, h.2.2.2.2.2.2.1⟩
  have h6 := h.2.2.2.2.2.1
  have h5 := h.2.2.2.2.1
  refine CL_start (r := 5) (ls := [vr b, sv, vs 2]) (rk_179 _) (entS1 hS) ?_
  refine w_alS hS l_179_0 rfl ?_
  refine w_nnS 9 hS l_179_1 (by decide) ?_
  refine w_alS hS l_179_9 rfl ?_
  refine x_ivS [] [] hS l_179_10 rfl rfl ⟨(Nat.le_of_ble_eq_true rfl), rfl⟩ (by rw [mx_299, (hS.lex1 _).1]; exact (Nat.le_of_ble_eq_true rfl)) mt_299 (by rw [rk_299]; decide) (RX.f (t_299 hS (by omega))) (fun v m1 h1 => ?_)
  obtain ⟨rfl, rfl⟩ := h1
  refine w_isn l_179_13 ⟨Nat.le_of_ble_eq_true rfl, hS.p2⟩ ?_
  refine w_aln l_179_14 rfl ?_
  refine w_aln l_179_15 rfl ?_
  refine w_gin ((t.length : Nat) : Int) l_179_16 (by decide) h.1 h.2.2.2.2.2.2.2.1 ?_
  refine w_iln l_179_19 rfl ?_
  refine w_add ((t.length + u.length : Nat) : Int) l_179_20 (by unfold wr; omega) ?_
  refine x_iv [vi ((t.length + u.length : Nat) : Int)] [] l_179_21 (Or.inr rfl) rfl rfl ⟨(Nat.le_of_ble_eq_true rfl), rfl⟩ (by rw [mx_176]; exact (Nat.le_of_ble_eq_true rfl)) (by rw [mt_176]; exact h.1) (by rw [mt_176]; decide) (by rw [rk_176]; decide) (c_176 h h3 h1 h2) (fun v m1 h1 => ?_)
  obtain ⟨rfl, S1, I1, T1, c1, z1, v1, cap1, rfl, B, hcp, g⟩ := h1
  have hc1 : S1[b]? = some (0, 13) ∧ I1 b 1 = 0 := ⟨B.1, B.2.2.2.2.2.2.1⟩
  have hv1 := B.2.2.2.1
  have h61 := B.2.2.2.2.2.1
  have hS1 := hS.g h g
  refine w_aln l_179_24 rfl ?_
  refine w_aln l_179_25 rfl ?_
  refine w_gin ((t.length : Nat) : Int) l_179_26 (by decide) B.1 B.2.2.2.2.2.2.2.1 ?_
  refine w_alS hS1 l_179_29 rfl ?_
  refine x_iv [vi ((t.length : Nat) : Int), sv] [] l_179_30 (Or.inr rfl) rfl rfl ⟨(Nat.le_of_ble_eq_true rfl), rfl⟩ (by rw [mx_186, hS.lx3]; exact (Nat.le_of_ble_eq_true rfl)) (by rw [mt_186]; exact hc1.1) (by rw [mt_186]; decide) (by rw [rk_186]; decide) (RX.p (c_186 hc1 B.2.1 B.2.2.1 hcp h61 hS1)) (fun v2 m2 h4 => ?_)
  obtain ⟨I2, rfl, rfl, e1, e2⟩ := h4
  refine w_aln l_179_33 rfl ?_
  refine w_dup l_179_34 rfl ?_
  refine w_gin ((t.length : Nat) : Int) l_179_35 (by decide) B.1 ((e2 _ _ (fun e => by omega)).trans B.2.2.2.2.2.2.2.1) ?_
  refine w_iln l_179_38 rfl ?_
  refine w_add ((t.length + u.length : Nat) : Int) l_179_39 (by unfold wr; omega) ?_
  refine w_pi l_179_40 B.1 ?_
  refine w_aln l_179_43 rfl ?_
  refine w_rr l_179_44 ?_
  refine ⟨_, rfl, rfl, _, _, _, _, _, v1, cap1, rfl, B.ap hcp ?_ up_eq (fun w hw => ?_) (fun j hj => ?_), g.w fun z w hz1 hz2 => ?_⟩
  · rw [up_out (by omega), e2 _ _ (fun e => by omega)]
  · rw [up_out (by omega), e2 _ _ (fun _ => hw)]
  · rw [up_out (by omega)]; exact e1 j hj
  · rw [up_out (by omega), e2 _ _ (fun e => absurd e hz2)]

theorem mx_196 : mxl 196 = 2 := by decide +kernel
theorem mt_196 : mtc 196 = 13 := by decide +kernel
theorem rk_196 (as : List AV) : rkA 196 as = 6 := rfl
theorem l_196_0 : look 196 0 = some (.aload_n 0, 1, 0, 0, 0, 0) := by decide +kernel
theorem l_196_1 : look 196 1 = some (.aload_n 1, 1, 0, 0, 0, 0) := by decide +kernel
theorem l_196_2 : look 196 2 = some (.invokespecial 29, 3, 179, 2, 10, 816) := by decide +kernel
theorem l_196_5 : look 196 5 = some (.pop, 1, 0, 0, 0, 0) := by decide +kernel
theorem l_196_6 : look 196 6 = some (.aload_n 0, 1, 0, 0, 0, 0) := by decide +kernel
theorem l_196_7 : look 196 7 = some (.areturn, 1, 0, 0, 0, 0) := by decide +kernel
theorem entS196 {sv : AV} {u : List Int} {x b : Nat} (h : STX S I T sv u x) : entryL 196 [vr b, sv] = [vr b, sv] := by
  unfold entryL
  rw [h.lx2, mx_196]; rfl
theorem c_196 {b v cap : Nat} {t u : List Int} {sv : AV} (h : SBd S I T b v cap t) (hS : STX S I T sv u v) (h3 : t.length + u.length ≤ 300) (h1 : 1 ≤ cc) (h2 : 602 ≤ zz) : CL xs 196 [vr b, sv] (S, I, T, cc, zz) (RX (BP b v cap (t ++ u) S I T cc zz)) := by
  refine CL_start (r := 6) (ls := [vr b, sv]) (rk_196 _) (entS196 hS) ?_
  refine w_aln l_196_0 rfl ?_
  refine w_alS hS l_196_1 rfl ?_
  refine x_su [sv] [] l_196_2 rfl rfl (Nat.le_of_ble_eq_true rfl) (by rw [mx_179, hS.lx2]; exact (Nat.le_of_ble_eq_true rfl)) (by rw [mt_179]; exact h.1) (by rw [mt_179]; decide) (by rw [rk_179]; decide) (c_179 h hS h3 h1 h2) (fun v2 m2 h4 => ?_)
  obtain ⟨rfl, S1, I1, T1, c1, z1, v1, cap1, rfl, hh⟩ := h4
  refine w_pop l_196_5 rfl ?_
  refine w_aln l_196_6 rfl ?_
  refine w_rr l_196_7 ?_
  exact ⟨_, rfl, rfl, S1, I1, T1, c1, z1, v1, cap1, rfl, hh⟩

theorem mx_197 : mxl 197 = 2 := by decide +kernel
theorem mt_197 : mtc 197 = 13 := by decide +kernel
theorem rk_197 (as : List AV) : rkA 197 as = 5 := rfl
theorem l_197_0 : look 197 0 = some (.aload_n 0, 1, 0, 0, 0, 0) := by decide +kernel
theorem l_197_1 : look 197 1 = some (.iload_n 1, 1, 0, 0, 0, 0) := by decide +kernel
theorem l_197_2 : look 197 2 = some (.invokespecial 50, 3, 181, 2, 10, 917) := by decide +kernel
theorem l_197_5 : look 197 5 = some (.pop, 1, 0, 0, 0, 0) := by decide +kernel
theorem l_197_6 : look 197 6 = some (.aload_n 0, 1, 0, 0, 0, 0) := by decide +kernel
theorem l_197_7 : look 197 7 = some (.areturn, 1, 0, 0, 0, 0) := by decide +kernel
theorem c_197 {b v cap : Nat} {t : List Int} (h : SBd S I T b v cap t) {c : Nat} (hcc : c < 128) (h3 : t.length + 1 ≤ 300) (h1 : 1 ≤ cc) (h2 : 602 ≤ zz) : CL xs 197 [vr b, vi ((c : Nat) : Int)] (S, I, T, cc, zz) (RX (BP b v cap (t ++ [((c : Nat) : Int)]) S I T cc zz)) := by
  refine CL_start (r := 5) (ls := [vr b, vi ((c : Nat) : Int)]) (rk_197 _) rfl ?_
  refine w_aln l_197_0 rfl ?_
  refine w_iln l_197_1 rfl ?_
  refine x_su [vi ((c : Nat) : Int)] [] l_197_2 rfl rfl (Nat.le_of_ble_eq_true rfl) (by rw [mx_181]; exact (Nat.le_of_ble_eq_true rfl)) (by rw [mt_181]; exact h.1) (by rw [mt_181]; decide) (by rw [rk_181]; decide) (c_181 h hcc h3 h1 h2) (fun v2 m2 h4 => ?_)
  obtain ⟨rfl, S1, I1, T1, c1, z1, v1, cap1, rfl, hh⟩ := h4
  refine w_pop l_197_5 rfl ?_
  refine w_aln l_197_6 rfl ?_
  refine w_rr l_197_7 ?_
  exact ⟨_, rfl, rfl, S1, I1, T1, c1, z1, v1, cap1, rfl, hh⟩

theorem mx_198 : mxl 198 = 2 := by decide +kernel
theorem mt_198 : mtc 198 = 13 := by decide +kernel
theorem rk_198 (as : List AV) : rkA 198 as = 5 := rfl
theorem l_198_0 : look 198 0 = some (.aload_n 0, 1, 0, 0, 0, 0) := by decide +kernel
theorem l_198_1 : look 198 1 = some (.iload_n 1, 1, 0, 0, 0, 0) := by decide +kernel
theorem l_198_2 : look 198 2 = some (.invokespecial 53, 3, 182, 2, 10, 931) := by decide +kernel
theorem l_198_5 : look 198 5 = some (.pop, 1, 0, 0, 0, 0) := by decide +kernel
theorem l_198_6 : look 198 6 = some (.aload_n 0, 1, 0, 0, 0, 0) := by decide +kernel
theorem l_198_7 : look 198 7 = some (.areturn, 1, 0, 0, 0, 0) := by decide +kernel
theorem c_198 {b v cap : Nat} {t : List Int} (h : SBd S I T b v cap t) {n : Nat} (hn : n < 100) (h3 : t.length + (dgz n).length ≤ 300) (h1 : 1 ≤ cc) (h2 : 602 ≤ zz) : CL xs 198 [vr b, vi ((n : Nat) : Int)] (S, I, T, cc, zz) (RX (BP b v cap (t ++ dgz n) S I T cc zz)) := by
  refine CL_start (r := 5) (ls := [vr b, vi ((n : Nat) : Int)]) (rk_198 _) rfl ?_
  refine w_aln l_198_0 rfl ?_
  refine w_iln l_198_1 rfl ?_
  refine x_su [vi ((n : Nat) : Int)] [] l_198_2 rfl rfl (Nat.le_of_ble_eq_true rfl) (by rw [mx_182]; exact (Nat.le_of_ble_eq_true rfl)) (by rw [mt_182]; exact h.1) (by rw [mt_182]; decide) (by rw [rk_182]; decide) (c_182 h hn h3 h1 h2) (fun v2 m2 h4 => ?_)
  obtain ⟨rfl, S1, I1, T1, c1, z1, v1, cap1, rfl, hh⟩ := h4
  refine w_pop l_198_5 rfl ?_
  refine w_aln l_198_6 rfl ?_
  refine w_rr l_198_7 ?_
  exact ⟨_, rfl, rfl, S1, I1, T1, c1, z1, v1, cap1, rfl, hh⟩

end WSD
