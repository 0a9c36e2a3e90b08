/-! contracts: a new builder, a string out of it, the generator of numbers, the script -/
section WSE
variable {xs : List Int} {S : List (Nat × Nat)} {I : Ix} {T : Nat → Nat → Nat} {cc zz : Nat}

theorem mx_174 : mxl 174 = 2 := by decide +kernel
theorem mt_174 : mtc 174 = 13 := by decide +kernel
theorem rk_174 (as : List AV) : rkA 174 as = 0 := rfl
theorem l_174_0 : look 174 0 = some (.aload_n 0, 1, 0, 0, 0, 0) := by decide +kernel
theorem l_174_1 : look 174 1 = some (.invokespecial 3, 3, 0, 1, 4, 789) := by decide +kernel
theorem l_174_4 : look 174 4 = some (.getstatic 18, 3, 0, 0, 0, 790) := by decide +kernel
theorem l_174_7 : look 174 7 = some (.ifCond .eq 18, 3, 0, 0, 0, 0) := by decide +kernel
theorem l_174_10 : look 174 10 = some (.aload_n 0, 1, 0, 0, 0, 0) := by decide +kernel
theorem l_174_11 : look 174 11 = some (.iload_n 1, 1, 0, 0, 0, 0) := by decide +kernel
theorem l_174_12 : look 174 12 = some (.newarray .byte, 2, 3, 0, 0, 0) := by decide +kernel
theorem l_174_14 : look 174 14 = some (.putfield 15, 3, 13, 0, 2, 798) := by decide +kernel
theorem l_174_17 : look 174 17 = some (.aload_n 0, 1, 0, 0, 0, 0) := by decide +kernel
theorem l_174_18 : look 174 18 = some (.iconst 0, 1, 0, 0, 0, 0) := by decide +kernel
theorem l_174_19 : look 174 19 = some (.putfield 22, 3, 13, 1, 5, 799) := by decide +kernel
theorem l_174_22 : look 174 22 = some (.goto 16, 3, 0, 0, 0, 0) := by decide +kernel
theorem l_174_25 : look 174 25 = some (.aload_n 0, 1, 0, 0, 0, 0) := by decide +kernel
theorem l_174_26 : look 174 26 = some (.iload_n 1, 1, 0, 0, 0, 0) := by decide +kernel
theorem l_174_27 : look 174 27 = some (.invokestatic 26, 3, 0, 1, 99, 791) := by decide +kernel
theorem l_174_30 : look 174 30 = some (.putfield 15, 3, 13, 0, 2, 798) := by decide +kernel
theorem l_174_33 : look 174 33 = some (.aload_n 0, 1, 0, 0, 0, 0) := by decide +kernel
theorem l_174_34 : look 174 34 = some (.iconst 1, 1, 0, 0, 0, 0) := by decide +kernel
theorem l_174_35 : look 174 35 = some (.putfield 22, 3, 13, 1, 5, 799) := by decide +kernel
theorem l_174_38 : look 174 38 = some (.return_, 1, 0, 0, 0, 0) := by decide +kernel
theorem c_174 {b n : Nat} (hs : S[b]? = some (0, 13)) (hn : n ≤ 1000) (h1 : 1 ≤ cc) (h2 : n ≤ zz) : CL xs 174 [vr b, vi ((n : Nat) : Int)] (S, I, T, cc, zz) (FN none (S ++ [(3, n)], up (zr S.length I) b 1 0, ut (zt S.length T) b 0 (S.length + 1), cc - 1, zz - n)) := by
  refine CL_start (r := 0) (ls := [vr b, vi ((n : Nat) : Int)]) (rk_174 _) rfl ?_
  refine w_aln l_174_0 rfl ?_
  refine w_oi l_174_1 (Nat.le_of_ble_eq_true rfl) ?_
  refine w_gs0 l_174_4 ?_
  refine w_zeq 25 l_174_7 (by decide) (fun hx => absurd hx (by decide)) (fun _ => ?_)
  refine w_aln l_174_10 rfl ?_
  refine w_iln l_174_11 rfl ?_
  refine w_na (n := n) l_174_12 (fun _ _ _ _ => rfl) h1 h2 (by omega) ?_
  refine w_pR l_174_14 (ap_l hs) (by decide) ?_
  refine w_aln l_174_17 rfl ?_
  refine w_ic l_174_18 (by decide) ?_
  refine w_pib l_174_19 (by decide) (ap_l hs) (by decide) ?_
  refine w_go 38 l_174_22 (by decide) ?_
  refine w_vr l_174_38 ?_
  exact ⟨rfl, rfl⟩

theorem mx_195 : mxl 195 = 1 := by decide +kernel
theorem mt_195 : mtc 195 = 13 := by decide +kernel
theorem rk_195 (as : List AV) : rkA 195 as = 1 := rfl
theorem l_195_0 : look 195 0 = some (.aload_n 0, 1, 0, 0, 0, 0) := by decide +kernel
theorem l_195_1 : look 195 1 = some (.bipush 16, 2, 0, 0, 0, 0) := by decide +kernel
theorem l_195_3 : look 195 3 = some (.invokespecial 1, 3, 174, 2, 2, 786) := by decide +kernel
theorem l_195_6 : look 195 6 = some (.return_, 1, 0, 0, 0, 0) := by decide +kernel
theorem c_195 {b : Nat} (hs : S[b]? = some (0, 13)) (h3 : I b 3 = 0) (h1 : 1 ≤ cc) (h2 : 16 ≤ zz) : CL xs 195 [vr b] (S, I, T, cc, zz) (RX (fun r m1 => r = none ∧ ∃ I1 T1, m1 = (S ++ [(3, 16)], I1, T1, cc - 1, zz - 16) ∧ SBd (S ++ [(3, 16)]) I1 T1 b S.length 16 [] ∧ ∀ z w, z < S.length → z ≠ b → I1 z w = I z w ∧ T1 z w = T z w)) := by
  refine CL_start (r := 1) (ls := [vr b]) (rk_195 _) rfl ?_
  refine w_aln l_195_0 rfl ?_
  refine w_bp l_195_1 (by decide) ?_
  refine x_cs [vi 16] [] l_195_3 (Or.inl rfl) rfl rfl (Nat.le_of_ble_eq_true rfl) (by rw [mx_174]; exact (Nat.le_of_ble_eq_true rfl)) (by rw [rk_174]; decide) (RX.f (c_174 (n := 16) hs (by decide) h1 h2)) (fun v m1 h4 => ?_)
  obtain ⟨rfl, rfl⟩ := h4
  refine w_vr l_195_6 ?_
  have hb := len_of hs
  refine ⟨_, rfl, rfl, _, _, rfl, ⟨ap_l hs, ut_e, ap_e rfl, hb, Nat.zero_le _, by decide, up_eq, ?_, fun j hj => absurd hj (Nat.not_lt_zero _)⟩, fun z w hz hzb => ⟨?_, ?_⟩⟩
  · rw [up_out (by omega), zr_o (by omega)]; exact h3
  · rw [up_out (by omega), zr_o (by omega)]
  · rw [ut_o (by omega), zt_o (by omega)]

theorem mx_204 : mxl 204 = 2 := by decide +kernel
theorem mt_204 : mtc 204 = 99 := by decide +kernel
theorem rk_204 (as : List AV) : rkA 204 as = 0 := rfl
theorem l_204_0 : look 204 0 = some (.iload_n 1, 1, 0, 0, 0, 0) := by decide +kernel
theorem l_204_1 : look 204 1 = some (.iload_n 0, 1, 0, 0, 0, 0) := by decide +kernel
theorem l_204_2 : look 204 2 = some (.if_icmp .ge 35, 3, 0, 0, 0, 0) := by decide +kernel
theorem l_204_8 : look 204 8 = some (.dup, 1, 0, 0, 0, 0) := by decide +kernel
theorem l_204_12 : look 204 12 = some (.dup, 1, 0, 0, 0, 0) := by decide +kernel
theorem l_204_13 : look 204 13 = some (.invokespecial 47, 3, 0, 0, 99, 0) := by decide +kernel
theorem l_204_16 : look 204 16 = some (.iload_n 0, 1, 0, 0, 0, 0) := by decide +kernel
theorem l_204_17 : look 204 17 = some (.invokevirtual 54, 3, 0, 0, 99, 0) := by decide +kernel
theorem l_204_23 : look 204 23 = some (.invokevirtual 50, 3, 0, 0, 99, 0) := by decide +kernel
theorem l_204_26 : look 204 26 = some (.iload_n 1, 1, 0, 0, 0, 0) := by decide +kernel
theorem l_204_27 : look 204 27 = some (.invokevirtual 54, 3, 0, 0, 99, 0) := by decide +kernel
theorem l_204_30 : look 204 30 = some (.invokevirtual 61, 3, 0, 0, 99, 0) := by decide +kernel
theorem l_204_33 : look 204 33 = some (.invokespecial 65, 3, 0, 0, 99, 0) := by decide +kernel
theorem l_204_36 : look 204 36 = some (.athrow, 1, 0, 0, 0, 0) := by decide +kernel
theorem l_204_37 : look 204 37 = some (.return_, 1, 0, 0, 0, 0) := by decide +kernel
theorem c_204 {n : Nat} : CL xs 204 [vi 0, vi ((n : Nat) : Int)] (S, I, T, cc, zz) (FN none (S, I, T, cc, zz)) := by
  refine CL_start (r := 0) (ls := [vi 0, vi ((n : Nat) : Int)]) (rk_204 _) rfl ?_
  refine w_iln l_204_0 rfl ?_
  refine w_iln l_204_1 rfl ?_
  refine w_cge 37 l_204_2 (by decide) (fun _ => ?_) (fun hx => absurd hx (by omega))
  refine w_vr l_204_37 ?_
  exact ⟨rfl, rfl⟩

theorem mx_206 : mxl 206 = 5 := by decide +kernel
theorem mt_206 : mtc 206 = 99 := by decide +kernel
theorem rk_206 (as : List AV) : rkA 206 as = 1 := rfl
theorem l_206_0 : look 206 0 = some (.iload_n 1, 1, 0, 0, 0, 0) := by decide +kernel
theorem l_206_1 : look 206 1 = some (.iload_n 2, 1, 0, 0, 0, 0) := by decide +kernel
theorem l_206_2 : look 206 2 = some (.invokestatic 343, 3, 204, 2, 1, 996) := by decide +kernel
theorem l_206_5 : look 206 5 = some (.iload_n 2, 1, 0, 0, 0, 0) := by decide +kernel
theorem l_206_6 : look 206 6 = some (.iload_n 1, 1, 0, 0, 0, 0) := by decide +kernel
theorem l_206_7 : look 206 7 = some (.isub, 1, 0, 0, 0, 0) := by decide +kernel
theorem l_206_8 : look 206 8 = some (.istore_n 3, 1, 0, 0, 0, 0) := by decide +kernel
theorem l_206_9 : look 206 9 = some (.iload_n 3, 1, 0, 0, 0, 0) := by decide +kernel
theorem l_206_10 : look 206 10 = some (.newarray .byte, 2, 3, 0, 0, 0) := by decide +kernel
theorem l_206_12 : look 206 12 = some (.astore 4, 2, 0, 0, 0, 0) := by decide +kernel
theorem l_206_14 : look 206 14 = some (.aload_n 0, 1, 0, 0, 0, 0) := by decide +kernel
theorem l_206_15 : look 206 15 = some (.iload_n 1, 1, 0, 0, 0, 0) := by decide +kernel
theorem l_206_16 : look 206 16 = some (.aload 4, 2, 0, 0, 0, 0) := by decide +kernel
theorem l_206_18 : look 206 18 = some (.iconst 0, 1, 0, 0, 0, 0) := by decide +kernel
theorem l_206_19 : look 206 19 = some (.aload_n 0, 1, 0, 0, 0, 0) := by decide +kernel
theorem l_206_20 : look 206 20 = some (.arraylength, 1, 0, 0, 0, 0) := by decide +kernel
theorem l_206_21 : look 206 21 = some (.iload_n 1, 1, 0, 0, 0, 0) := by decide +kernel
theorem l_206_22 : look 206 22 = some (.isub, 1, 0, 0, 0, 0) := by decide +kernel
theorem l_206_23 : look 206 23 = some (.iload_n 3, 1, 0, 0, 0, 0) := by decide +kernel
theorem l_206_24 : look 206 24 = some (.invokestatic 304, 3, 0, 2, 5, 852) := by decide +kernel
theorem l_206_27 : look 206 27 = some (.invokestatic 150, 3, 0, 5, 6, 855) := by decide +kernel
theorem l_206_30 : look 206 30 = some (.aload 4, 2, 0, 0, 0, 0) := by decide +kernel
theorem l_206_32 : look 206 32 = some (.areturn, 1, 0, 0, 0, 0) := by decide +kernel
theorem c_206 {a k n : Nat} (ha : S[a]? = some (3, k)) (hn : n ≤ k) (hk : k ≤ 1000) (h1 : 1 ≤ cc) (h2 : n ≤ zz) : CL xs 206 [vr a, vi 0, vi ((n : Nat) : Int)] (S, I, T, cc, zz) (RX (fun r m1 => r = some (vr S.length) ∧ ∃ I1, m1 = (S ++ [(3, n)], I1, zt S.length T, cc - 1, zz - n) ∧ (∀ z w, z ≠ S.length → I1 z w = I z w) ∧ ∀ j, j < n → I1 S.length j = I a j)) := by
  refine CL_start (r := 1) (ls := [vr a, vi 0, vi ((n : Nat) : Int), vs 2, vs 2]) (rk_206 _) rfl ?_
  refine w_iln l_206_0 rfl ?_
  refine w_iln l_206_1 rfl ?_
  refine x_st [vi 0, vi ((n : Nat) : Int)] [] l_206_2 (Or.inl rfl) rfl rfl (Nat.le_of_ble_eq_true rfl) (by rw [mx_204]; exact (Nat.le_of_ble_eq_true rfl)) (by rw [rk_204]; decide) (RX.f c_204) (fun v m1 h4 => ?_)
  obtain ⟨rfl, rfl⟩ := h4
  refine w_iln l_206_5 rfl ?_
  refine w_iln l_206_6 rfl ?_
  refine w_sub ((n : Nat) : Int) l_206_7 (by unfold wr; omega) ?_
  refine w_isn l_206_8 ⟨Nat.le_of_ble_eq_true rfl, rfl⟩ ?_
  refine w_iln l_206_9 rfl ?_
  refine w_na (n := n) l_206_10 (fun _ _ _ _ => rfl) h1 h2 (by omega) ?_
  refine w_ra l_206_12 ⟨Nat.le_of_ble_eq_true rfl, rfl⟩ ?_
  refine w_aln l_206_14 rfl ?_
  refine w_iln l_206_15 rfl ?_
  refine w_al l_206_16 rfl ?_
  refine w_ic l_206_18 (by decide) ?_
  refine w_aln l_206_19 rfl ?_
  refine w_len l_206_20 (ap_l ha) ?_
  refine w_iln l_206_21 rfl ?_
  refine w_sub ((k : Nat) : Int) l_206_22 (by unfold wr; omega) ?_
  refine w_iln l_206_23 rfl ?_
  refine w_mn ((n : Nat) : Int) l_206_24 (Nat.le_of_ble_eq_true rfl) (by split <;> omega) ?_
  refine w_cp 0 0 n l_206_27 (ap_l ha) (ap_e rfl) (by decide) rfl rfl rfl (by omega) (by omega) (Nat.le_of_ble_eq_true rfl) ?_
  refine w_al l_206_30 rfl ?_
  refine w_rr l_206_32 ?_
  refine ⟨_, rfl, rfl, _, rfl, fun z w hz => ?_, fun j hj => ?_⟩
  · rw [cpy_no hz, zr_o hz]
  · show (if S.length = S.length ∧ 0 ≤ j ∧ j < 0 + n then zr S.length I a (0 + (j - 0)) else _) = _
    rw [if_pos ⟨rfl, Nat.zero_le _, by omega⟩, zr_o (Nat.ne_of_lt (len_of ha))]
    rw [show 0 + (j - 0) = j by omega]

theorem mx_205 : mxl 205 = 3 := by decide +kernel
theorem mt_205 : mtc 205 = 99 := by decide +kernel
theorem rk_205 (as : List AV) : rkA 205 as = 2 := rfl
theorem l_205_0 : look 205 0 = some (.iload_n 1, 1, 0, 0, 0, 0) := by decide +kernel
theorem l_205_1 : look 205 1 = some (.ifCond .ne 9, 3, 0, 0, 0, 0) := by decide +kernel
theorem l_205_4 : look 205 4 = some (.iload_n 2, 1, 0, 0, 0, 0) := by decide +kernel
theorem l_205_5 : look 205 5 = some (.aload_n 0, 1, 0, 0, 0, 0) := by decide +kernel
theorem l_205_6 : look 205 6 = some (.arraylength, 1, 0, 0, 0, 0) := by decide +kernel
theorem l_205_7 : look 205 7 = some (.if_icmp .eq 10, 3, 0, 0, 0, 0) := by decide +kernel
theorem l_205_10 : look 205 10 = some (.aload_n 0, 1, 0, 0, 0, 0) := by decide +kernel
theorem l_205_11 : look 205 11 = some (.iload_n 1, 1, 0, 0, 0, 0) := by decide +kernel
theorem l_205_12 : look 205 12 = some (.iload_n 2, 1, 0, 0, 0, 0) := by decide +kernel
theorem l_205_13 : look 205 13 = some (.invokestatic 339, 3, 206, 3, 1, 993) := by decide +kernel
theorem l_205_16 : look 205 16 = some (.areturn, 1, 0, 0, 0, 0) := by decide +kernel
theorem l_205_17 : look 205 17 = some (.aload_n 0, 1, 0, 0, 0, 0) := by decide +kernel
theorem l_205_18 : look 205 18 = some (.invokevirtual 310, 3, 0, 1, 8, 845) := by decide +kernel
theorem l_205_21 : look 205 21 = some (.checkcast 311, 3, 3, 0, 0, 851) := by decide +kernel
theorem l_205_24 : look 205 24 = some (.areturn, 1, 0, 0, 0, 0) := by decide +kernel
theorem c_205 {a k n : Nat} (ha : S[a]? = some (3, k)) (hn : n ≤ k) (hk : k ≤ 1000) (h1 : 1 ≤ cc) (h2 : n ≤ zz) : CL xs 205 [vr a, vi 0, vi ((n : Nat) : Int)] (S, I, T, cc, zz) (RX (fun r m1 => r = some (vr S.length) ∧ ∃ I1, m1 = (S ++ [(3, n)], I1, zt S.length T, cc - 1, zz - n) ∧ (∀ z w, z ≠ S.length → I1 z w = I z w) ∧ ∀ j, j < n → I1 S.length j = I a j)) := by
  refine CL_start (r := 2) (ls := [vr a, vi 0, vi ((n : Nat) : Int)]) (rk_205 _) rfl ?_
  refine w_iln l_205_0 rfl ?_
  refine w_zne 10 l_205_1 (by decide) (fun hx => absurd hx (by decide)) (fun _ => ?_)
  refine w_iln l_205_4 rfl ?_
  refine w_aln l_205_5 rfl ?_
  refine w_len l_205_6 ha ?_
  by_cases e : n = k
  · refine w_ceq 17 l_205_7 (by decide) (fun _ => ?_) (fun hx => absurd hx (by omega))
    refine w_aln l_205_17 rfl ?_
    subst e
    refine w_cln l_205_18 ha h1 h2 (Nat.le_of_ble_eq_true rfl) ?_
    refine w_ccr l_205_21 (ap_e rfl) ?_
    refine w_rr l_205_24 ?_
    exact ⟨_, rfl, rfl, _, rfl, fun z w hz => if_neg hz, fun j hj => if_pos rfl⟩
  · refine w_ceq 17 l_205_7 (by decide) (fun hx => absurd hx (by omega)) (fun _ => ?_)
    refine w_aln l_205_10 rfl ?_
    refine w_iln l_205_11 rfl ?_
    refine w_iln l_205_12 rfl ?_
    refine x_st [vr a, vi 0, vi ((n : Nat) : Int)] [] l_205_13 (Or.inl rfl) rfl rfl (Nat.le_of_ble_eq_true rfl) (by rw [mx_206]; exact (Nat.le_of_ble_eq_true rfl)) (by rw [rk_206]; decide) (c_206 ha hn hk h1 h2) (fun v m1 h4 => ?_)
    obtain ⟨rfl, I1, rfl, hh⟩ := h4
    refine w_rr l_205_16 ?_
    exact ⟨_, rfl, rfl, I1, rfl, hh⟩

theorem mx_192 : mxl 192 = 5 := by decide +kernel
theorem mt_192 : mtc 192 = 12 := by decide +kernel
theorem rk_192 (as : List AV) : rkA 192 as = 3 := rfl
theorem l_192_0 : look 192 0 = some (.aload_n 0, 1, 0, 0, 0, 0) := by decide +kernel
theorem l_192_1 : look 192 1 = some (.invokespecial 1, 3, 0, 1, 4, 975) := by decide +kernel
theorem l_192_4 : look 192 4 = some (.aload_n 1, 1, 0, 0, 0, 0) := by decide +kernel
theorem l_192_5 : look 192 5 = some (.invokevirtual 552, 3, 183, 1, 9, 976) := by decide +kernel
theorem l_192_8 : look 192 8 = some (.astore_n 3, 1, 0, 0, 0, 0) := by decide +kernel
theorem l_192_9 : look 192 9 = some (.aload_n 1, 1, 0, 0, 0, 0) := by decide +kernel
theorem l_192_10 : look 192 10 = some (.invokevirtual 549, 3, 200, 1, 9, 981) := by decide +kernel
theorem l_192_13 : look 192 13 = some (.istore 4, 2, 0, 0, 0, 0) := by decide +kernel
theorem l_192_15 : look 192 15 = some (.aload_n 1, 1, 0, 0, 0, 0) := by decide +kernel
theorem l_192_16 : look 192 16 = some (.invokevirtual 1047, 3, 184, 1, 9, 989) := by decide +kernel
theorem l_192_19 : look 192 19 = some (.ifCond .eq 22, 3, 0, 0, 0, 0) := by decide +kernel
theorem l_192_22 : look 192 22 = some (.aload_n 0, 1, 0, 0, 0, 0) := by decide +kernel
theorem l_192_23 : look 192 23 = some (.iconst 0, 1, 0, 0, 0, 0) := by decide +kernel
theorem l_192_24 : look 192 24 = some (.putfield 15, 3, 12, 1, 15, 1010) := by decide +kernel
theorem l_192_27 : look 192 27 = some (.aload_n 0, 1, 0, 0, 0, 0) := by decide +kernel
theorem l_192_28 : look 192 28 = some (.aload_n 3, 1, 0, 0, 0, 0) := by decide +kernel
theorem l_192_29 : look 192 29 = some (.iconst 0, 1, 0, 0, 0, 0) := by decide +kernel
theorem l_192_30 : look 192 30 = some (.iload 4, 2, 0, 0, 0, 0) := by decide +kernel
theorem l_192_32 : look 192 32 = some (.invokestatic 54, 3, 205, 3, 1, 990) := by decide +kernel
theorem l_192_35 : look 192 35 = some (.putfield 9, 3, 12, 0, 12, 1009) := by decide +kernel
theorem l_192_38 : look 192 38 = some (.goto 59, 3, 0, 0, 0, 0) := by decide +kernel
theorem l_192_41 : look 192 41 = some (.getstatic 38, 3, 0, 0, 0, 297) := by decide +kernel
theorem l_192_44 : look 192 44 = some (.ifCond .eq 35, 3, 0, 0, 0, 0) := by decide +kernel
theorem l_192_47 : look 192 47 = some (.aload_n 1, 1, 0, 0, 0, 0) := by decide +kernel
theorem l_192_48 : look 192 48 = some (.getfield 1048, 3, 13, 2, 0, 800) := by decide +kernel
theorem l_192_51 : look 192 51 = some (.ifCond .eq 28, 3, 0, 0, 0, 0) := by decide +kernel
theorem l_192_54 : look 192 54 = some (.aload_n 0, 1, 0, 0, 0, 0) := by decide +kernel
theorem l_192_55 : look 192 55 = some (.aload_n 3, 1, 0, 0, 0, 0) := by decide +kernel
theorem l_192_56 : look 192 56 = some (.iconst 0, 1, 0, 0, 0, 0) := by decide +kernel
theorem l_192_57 : look 192 57 = some (.iload 4, 2, 0, 0, 0, 0) := by decide +kernel
theorem l_192_59 : look 192 59 = some (.invokestatic 1051, 3, 0, 3, 99, 999) := by decide +kernel
theorem l_192_62 : look 192 62 = some (.putfield 9, 3, 12, 0, 12, 1009) := by decide +kernel
theorem l_192_65 : look 192 65 = some (.aload_n 0, 1, 0, 0, 0, 0) := by decide +kernel
theorem l_192_66 : look 192 66 = some (.aload_n 0, 1, 0, 0, 0, 0) := by decide +kernel
theorem l_192_67 : look 192 67 = some (.getfield 9, 3, 12, 0, 3, 1009) := by decide +kernel
theorem l_192_70 : look 192 70 = some (.iload 4, 2, 0, 0, 0, 0) := by decide +kernel
theorem l_192_72 : look 192 72 = some (.invokestatic 47, 3, 0, 2, 99, 1006) := by decide +kernel
theorem l_192_75 : look 192 75 = some (.putfield 15, 3, 12, 1, 15, 1010) := by decide +kernel
theorem l_192_78 : look 192 78 = some (.return_, 1, 0, 0, 0, 0) := by decide +kernel
theorem l_192_79 : look 192 79 = some (.aload_n 0, 1, 0, 0, 0, 0) := by decide +kernel
theorem l_192_80 : look 192 80 = some (.iconst 1, 1, 0, 0, 0, 0) := by decide +kernel
theorem l_192_81 : look 192 81 = some (.putfield 15, 3, 12, 1, 15, 1010) := by decide +kernel
theorem l_192_84 : look 192 84 = some (.aload_n 0, 1, 0, 0, 0, 0) := by decide +kernel
theorem l_192_85 : look 192 85 = some (.aload_n 3, 1, 0, 0, 0, 0) := by decide +kernel
theorem l_192_86 : look 192 86 = some (.iconst 0, 1, 0, 0, 0, 0) := by decide +kernel
theorem l_192_87 : look 192 87 = some (.iload 4, 2, 0, 0, 0, 0) := by decide +kernel
theorem l_192_89 : look 192 89 = some (.iconst 1, 1, 0, 0, 0, 0) := by decide +kernel
theorem l_192_90 : look 192 90 = some (.ishl, 1, 0, 0, 0, 0) := by decide +kernel
theorem l_192_91 : look 192 91 = some (.invokestatic 54, 3, 205, 3, 1, 990) := by decide +kernel
theorem l_192_94 : look 192 94 = some (.putfield 9, 3, 12, 0, 12, 1009) := by decide +kernel
theorem l_192_97 : look 192 97 = some (.return_, 1, 0, 0, 0, 0) := by decide +kernel
theorem c_192 {o b v cap : Nat} {t : List Int} (ho : S[o]? = some (0, 12)) (h : SBd S I T b v cap t) (h1 : 1 ≤ cc) (h2 : t.length ≤ zz) : CL xs 192 [vr o, vr b, vs 0] (S, I, T, cc, zz) (RX (fun r m1 => r = none ∧ ∃ I1 T1, m1 = (S ++ [(3, t.length)], I1, T1, cc - 1, zz - t.length) ∧ I1 o 1 = 0 ∧ T1 o 0 = S.length + 1 ∧ (∀ z w, z < S.length → z ≠ o → I1 z w = I z w ∧ T1 z w = T z w) ∧ ∀ j, j < t.length → I1 S.length j = t.getD j 0)) := by
  have hol := len_of ho
  have h6 := h.2.2.2.2.2.1
  have hov : o ≠ v := fun e => by rw [e, h.2.2.1] at ho; cases ho
  refine CL_start (r := 3) (ls := [vr o, vr b, vs 0, vs 2, vs 2]) (rk_192 _) rfl ?_
  refine w_aln l_192_0 rfl ?_
  refine w_oi l_192_1 (Nat.le_of_ble_eq_true rfl) ?_
  refine w_aln l_192_4 rfl ?_
  refine x_iv [] [] l_192_5 (Or.inr rfl) rfl rfl ⟨(Nat.le_of_ble_eq_true rfl), rfl⟩ (by rw [mx_183]; exact (Nat.le_of_ble_eq_true rfl)) (by rw [mt_183]; exact h.1) (by rw [mt_183]; decide) (by rw [rk_183]; decide) (RX.f (c_183 h.1 h.2.1)) (fun v1 m1 h4 => ?_)
  obtain ⟨rfl, rfl⟩ := h4
  refine w_ran l_192_8 ⟨Nat.le_of_ble_eq_true rfl, rfl⟩ ?_
  refine w_aln l_192_9 rfl ?_
  refine x_iv [] [] l_192_10 (Or.inr rfl) rfl rfl ⟨(Nat.le_of_ble_eq_true rfl), rfl⟩ (by rw [mx_200]; exact (Nat.le_of_ble_eq_true rfl)) (by rw [mt_200]; exact h.1) (by rw [mt_200]; decide) (by rw [rk_200]; decide) (RX.f (c_200 h.1 h.2.2.2.2.2.2.2.1)) (fun v1 m1 h4 => ?_)
  obtain ⟨rfl, rfl⟩ := h4
  refine w_is l_192_13 ⟨Nat.le_of_ble_eq_true rfl, rfl⟩ ?_
  refine w_aln l_192_15 rfl ?_
  refine x_iv [] [] l_192_16 (Or.inr rfl) rfl rfl ⟨(Nat.le_of_ble_eq_true rfl), rfl⟩ (by rw [mx_184]; exact (Nat.le_of_ble_eq_true rfl)) (by rw [mt_184]; exact h.1) (by rw [mt_184]; decide) (by rw [rk_184]; decide) (RX.f (c_184 ⟨h.1, h.2.2.2.2.2.2.1⟩)) (fun v1 m1 h4 => ?_)
  obtain ⟨rfl, rfl⟩ := h4
  refine w_zeq 41 l_192_19 (by decide) (fun hx => absurd hx (by decide)) (fun _ => ?_)
  refine w_aln l_192_22 rfl ?_
  refine w_ic l_192_23 (by decide) ?_
  refine w_pib l_192_24 (by decide) ho (by decide) ?_
  refine w_aln l_192_27 rfl ?_
  refine w_aln l_192_28 rfl ?_
  refine w_ic l_192_29 (by decide) ?_
  refine w_il l_192_30 rfl ?_
  refine x_st [vr v, vi 0, vi ((t.length : Nat) : Int)] [vr o] l_192_32 (Or.inl rfl) rfl rfl (Nat.le_of_ble_eq_true rfl) (by rw [mx_205]; exact (Nat.le_of_ble_eq_true rfl)) (by rw [rk_205]; decide) (c_205 h.2.2.1 h.2.2.2.2.1 (by omega) h1 h2) (fun v1 m1 h4 => ?_)
  obtain ⟨rfl, I1, rfl, e1, e2⟩ := h4
  refine w_pR l_192_35 (ap_l ho) (by decide) ?_
  refine w_go 97 l_192_38 (by decide) ?_
  refine w_vr l_192_97 ?_
  refine ⟨_, rfl, rfl, _, _, rfl, ?_, ut_e, fun z w hz hzo => ⟨?_, ?_⟩, fun j hj => ?_⟩
  · rw [e1 _ _ (by omega), up_eq]
  · rw [e1 _ _ (by omega), up_out (by omega)]
  · rw [ut_o (by omega), zt_o (by omega)]
  · rw [e2 j hj, up_out (by omega)]; exact h.2.2.2.2.2.2.2.2 j hj

theorem mx_190 : mxl 190 = 2 := by decide +kernel
theorem mt_190 : mtc 190 = 12 := by decide +kernel
theorem rk_190 (as : List AV) : rkA 190 as = 4 := rfl
theorem l_190_0 : look 190 0 = some (.aload_n 0, 1, 0, 0, 0, 0) := by decide +kernel
theorem l_190_1 : look 190 1 = some (.aload_n 1, 1, 0, 0, 0, 0) := by decide +kernel
theorem l_190_2 : look 190 2 = some (.aconst_null, 1, 0, 0, 0, 0) := by decide +kernel
theorem l_190_3 : look 190 3 = some (.invokespecial 489, 3, 192, 3, 2, 972) := by decide +kernel
theorem l_190_6 : look 190 6 = some (.return_, 1, 0, 0, 0, 0) := by decide +kernel
theorem c_190 {o b v cap : Nat} {t : List Int} (ho : S[o]? = some (0, 12)) (h : SBd S I T b v cap t) (h1 : 1 ≤ cc) (h2 : t.length ≤ zz) : CL xs 190 [vr o, vr b] (S, I, T, cc, zz) (RX (fun r m1 => r = none ∧ ∃ I1 T1, m1 = (S ++ [(3, t.length)], I1, T1, cc - 1, zz - t.length) ∧ I1 o 1 = 0 ∧ T1 o 0 = S.length + 1 ∧ (∀ z w, z < S.length → z ≠ o → I1 z w = I z w ∧ T1 z w = T z w) ∧ ∀ j, j < t.length → I1 S.length j = t.getD j 0)) := by
  refine CL_start (r := 4) (ls := [vr o, vr b]) (rk_190 _) rfl ?_
  refine w_aln l_190_0 rfl ?_
  refine w_aln l_190_1 rfl ?_
  refine w_nul l_190_2 ?_
  refine x_cs [vr b, vs 0] [] l_190_3 (Or.inl rfl) rfl rfl (Nat.le_of_ble_eq_true rfl) (by rw [mx_192]; exact (Nat.le_of_ble_eq_true rfl)) (by rw [rk_192]; decide) (c_192 ho h h1 h2) (fun v1 m1 h4 => ?_)
  obtain ⟨rfl, I1, T1, rfl, hh⟩ := h4
  refine w_vr l_190_6 ?_
  exact ⟨_, rfl, rfl, I1, T1, rfl, hh⟩

theorem mx_199 : mxl 199 = 1 := by decide +kernel
theorem mt_199 : mtc 199 = 13 := by decide +kernel
theorem rk_199 (as : List AV) : rkA 199 as = 5 := rfl
theorem l_199_0 : look 199 0 = some (.new 18, 3, 12, 4, 0, 967) := by decide +kernel
theorem l_199_3 : look 199 3 = some (.dup, 1, 0, 0, 0, 0) := by decide +kernel
theorem l_199_4 : look 199 4 = some (.aload_n 0, 1, 0, 0, 0, 0) := by decide +kernel
theorem l_199_5 : look 199 5 = some (.invokespecial 137, 3, 190, 2, 2, 969) := by decide +kernel
theorem l_199_8 : look 199 8 = some (.areturn, 1, 0, 0, 0, 0) := by decide +kernel
theorem c_199 {b v cap : Nat} {t : List Int} (h : SBd S I T b v cap t) (h1 : 2 ≤ cc) (h2 : 4 + t.length ≤ zz) : CL xs 199 [vr b] (S, I, T, cc, zz) (RX (fun r m1 => r = some (vr S.length) ∧ ∃ I1 T1, m1 = (S ++ [(0, 12), (3, t.length)], I1, T1, cc - 2, zz - 4 - t.length) ∧ (∀ x, x < S.length → STX (S ++ [(0, 12), (3, t.length)]) I1 T1 (vr S.length) t x) ∧ (∀ z w, z < S.length → I1 z w = I z w ∧ T1 z w = T z w))) := by
  refine CL_start (r := 5) (ls := [vr b]) (rk_199 _) rfl ?_
  refine w_nw l_199_0 (by omega) (by omega) ?_
  have h9 : SBd (S ++ [(0, 12)]) (zr S.length I) (zt S.length T) b v cap t := by
    obtain ⟨g1, g2, g3, g4, g5, g6, g7, g8, g9⟩ := h
    have := len_of g1
    have := len_of g3
    exact ⟨ap_l g1, by rw [zt_o (by omega)]; exact g2, ap_l g3, g4, g5, g6, by rw [zr_o (by omega)]; exact g7, by rw [zr_o (by omega)]; exact g8, fun j hj => by rw [zr_o (by omega)]; exact g9 j hj⟩
  refine w_dup l_199_3 rfl ?_
  refine w_aln l_199_4 rfl ?_
  refine x_cs [vr b] [vr S.length] l_199_5 (Or.inl rfl) rfl rfl (Nat.le_of_ble_eq_true rfl) (by rw [mx_190]; exact (Nat.le_of_ble_eq_true rfl)) (by rw [rk_190]; decide) (c_190 (ap_e rfl) h9 (by omega) (by omega)) (fun v1 m1 h4 => ?_)
  obtain ⟨rfl, I1, T1, rfl, e1, e2, e3, e4⟩ := h4
  refine w_rr l_199_8 ?_
  have el : (S ++ [(0, 12)]).length = S.length + 1 := by simp
  rw [el] at e2 e3 e4
  have es : S ++ [(0, 12)] ++ [(3, t.length)] = S ++ [(0, 12), (3, t.length)] := by simp
  refine ⟨_, rfl, rfl, I1, T1, ?_, fun x hx => Or.inr ⟨S.length, S.length + 1, rfl, ?_, e2, ?_, e1, e4, by omega⟩, fun z w hz => ⟨?_, ?_⟩⟩
  · rw [es, show cc - 1 - 1 = cc - 2 by omega]
  · rw [ap_r (j := 0) (by omega)]; rfl
  · rw [ap_r (j := 1) (by omega)]; rfl
  · rw [(e3 z w (by omega) (by omega)).1, zr_o (by omega)]
  · rw [(e3 z w (by omega) (by omega)).2, zt_o (by omega)]

theorem and_15b (x : Int) : ∃ k : Nat, k < 32768 ∧ a2 (fun x y => x &&& y) x 32767 = (k : Int) := by
  obtain ⟨j, hj, e⟩ := pk_andE (i32 x) (m := i32 32767) 15 (by decide)
  refine ⟨j, hj, ?_⟩
  show (i32 x &&& i32 32767).toInt = _
  rw [e, nI_toInt (by omega)]

theorem mx_172 : mxl 172 = 2 := by decide +kernel
theorem mt_172 : mtc 172 = 11 := by decide +kernel
theorem rk_172 (as : List AV) : rkA 172 as = 0 := rfl
theorem l_172_0 : look 172 0 = some (.aload_n 0, 1, 0, 0, 0, 0) := by decide +kernel
theorem l_172_1 : look 172 1 = some (.invokespecial 1, 3, 0, 1, 4, 1401) := by decide +kernel
theorem l_172_4 : look 172 4 = some (.aload_n 0, 1, 0, 0, 0, 0) := by decide +kernel
theorem l_172_5 : look 172 5 = some (.iload_n 1, 1, 0, 0, 0, 0) := by decide +kernel
theorem l_172_6 : look 172 6 = some (.putfield 7, 3, 11, 0, 0, 1402) := by decide +kernel
theorem l_172_9 : look 172 9 = some (.return_, 1, 0, 0, 0, 0) := by decide +kernel
theorem c_172 {o : Nat} {x : Int} (hs : S[o]? = some (0, 11)) : CL xs 172 [vr o, vi x] (S, I, T, cc, zz) (FN none (S, up I o 0 x, T, cc, zz)) := by
  refine CL_start (r := 0) (ls := [vr o, vi x]) (rk_172 _) rfl ?_
  refine w_aln l_172_0 rfl ?_
  refine w_oi l_172_1 (Nat.le_of_ble_eq_true rfl) ?_
  refine w_aln l_172_4 rfl ?_
  refine w_iln l_172_5 rfl ?_
  refine w_pi l_172_6 hs ?_
  refine w_vr l_172_9 ?_
  exact ⟨rfl, rfl⟩

theorem mx_173 : mxl 173 = 2 := by decide +kernel
theorem mt_173 : mtc 173 = 11 := by decide +kernel
theorem rk_173 (as : List AV) : rkA 173 as = 0 := rfl
theorem l_173_0 : look 173 0 = some (.aload_n 0, 1, 0, 0, 0, 0) := by decide +kernel
theorem l_173_1 : look 173 1 = some (.ldc 13, 2, 1103515245, 0, 1, 780) := by decide +kernel
theorem l_173_3 : look 173 3 = some (.aload_n 0, 1, 0, 0, 0, 0) := by decide +kernel
theorem l_173_4 : look 173 4 = some (.getfield 7, 3, 11, 0, 0, 1402) := by decide +kernel
theorem l_173_7 : look 173 7 = some (.imul, 1, 0, 0, 0, 0) := by decide +kernel
theorem l_173_8 : look 173 8 = some (.sipush 12345, 3, 0, 0, 0, 0) := by decide +kernel
theorem l_173_11 : look 173 11 = some (.iadd, 1, 0, 0, 0, 0) := by decide +kernel
theorem l_173_12 : look 173 12 = some (.putfield 7, 3, 11, 0, 0, 1402) := by decide +kernel
theorem l_173_15 : look 173 15 = some (.aload_n 0, 1, 0, 0, 0, 0) := by decide +kernel
theorem l_173_16 : look 173 16 = some (.getfield 7, 3, 11, 0, 0, 1402) := by decide +kernel
theorem l_173_19 : look 173 19 = some (.bipush 16, 2, 0, 0, 0, 0) := by decide +kernel
theorem l_173_21 : look 173 21 = some (.iushr, 1, 0, 0, 0, 0) := by decide +kernel
theorem l_173_22 : look 173 22 = some (.sipush 32767, 3, 0, 0, 0, 0) := by decide +kernel
theorem l_173_25 : look 173 25 = some (.iand, 1, 0, 0, 0, 0) := by decide +kernel
theorem l_173_26 : look 173 26 = some (.iload_n 1, 1, 0, 0, 0, 0) := by decide +kernel
theorem l_173_27 : look 173 27 = some (.irem, 1, 0, 0, 0, 0) := by decide +kernel
theorem l_173_28 : look 173 28 = some (.ireturn, 1, 0, 0, 0, 0) := by decide +kernel
theorem c_173 {o n : Nat} (hs : S[o]? = some (0, 11)) (hn : 1 ≤ n ∧ n ≤ 1000) : CL xs 173 [vr o, vi ((n : Nat) : Int)] (S, I, T, cc, zz) (RX (fun r m1 => ∃ (k : Nat) (x : Int), k < n ∧ r = some (vi ((k : Nat) : Int)) ∧ m1 = (S, up I o 0 x, T, cc, zz))) := by
  refine CL_start (r := 0) (ls := [vr o, vi ((n : Nat) : Int)]) (rk_173 _) rfl ?_
  refine w_aln l_173_0 rfl ?_
  refine w_ldi (Or.inl l_173_1) (by decide) ?_
  refine w_aln l_173_3 rfl ?_
  refine w_gin (I o 0) l_173_4 (by decide) hs rfl ?_
  refine w_mul _ l_173_7 rfl ?_
  refine w_sp l_173_8 (by decide) ?_
  refine w_add _ l_173_11 rfl ?_
  refine w_pi l_173_12 hs ?_
  refine w_aln l_173_15 rfl ?_
  refine w_gin _ l_173_16 (by decide) hs up_eq ?_
  refine w_bp l_173_19 (by decide) ?_
  refine w_ushr _ l_173_21 rfl ?_
  refine w_sp l_173_22 (by decide) ?_
  obtain ⟨k, hk, ek⟩ := and_15b (a2 (fun x y => (x.toUInt32 >>> (y.toUInt32 &&& Int32.toUInt32 31)).toInt32) (wr (wr (((1103515245 : Nat) : Int) * I o 0) + 12345)) 16)
  refine w_and ((k : Nat) : Int) l_173_25 ek ?_
  refine w_iln l_173_26 rfl ?_
  refine w_rem ((k % n : Nat) : Int) l_173_27 (by omega) (by rw [Int.tmod_eq_emod_of_nonneg (by omega)]; omega) ?_
  refine w_ir l_173_28 (Or.inl rfl) ?_
  exact ⟨_, rfl, k % n, _, Nat.mod_lt _ (by omega), rfl, rfl⟩

theorem mx_211 : mxl 211 = 2 := by decide +kernel
theorem mt_211 : mtc 211 = 99 := by decide +kernel
theorem rk_211 (as : List AV) : rkA 211 as = 0 := rfl
theorem l_211_0 : look 211 0 = some (.iload_n 1, 1, 0, 0, 0, 0) := by decide +kernel
theorem l_211_1 : look 211 1 = some (.aload_n 0, 1, 0, 0, 0, 0) := by decide +kernel
theorem l_211_2 : look 211 2 = some (.arraylength, 1, 0, 0, 0, 0) := by decide +kernel
theorem l_211_3 : look 211 3 = some (.if_icmp .ge 12, 3, 0, 0, 0, 0) := by decide +kernel
theorem l_211_6 : look 211 6 = some (.aload_n 0, 1, 0, 0, 0, 0) := by decide +kernel
theorem l_211_7 : look 211 7 = some (.iload_n 1, 1, 0, 0, 0, 0) := by decide +kernel
theorem l_211_8 : look 211 8 = some (.iaload, 1, 0, 0, 0, 0) := by decide +kernel
theorem l_211_9 : look 211 9 = some (.ldc 7, 2, 2147483647, 0, 1, 1409) := by decide +kernel
theorem l_211_11 : look 211 11 = some (.iand, 1, 0, 0, 0, 0) := by decide +kernel
theorem l_211_12 : look 211 12 = some (.goto 4, 3, 0, 0, 0, 0) := by decide +kernel
theorem l_211_15 : look 211 15 = some (.iconst 0, 1, 0, 0, 0, 0) := by decide +kernel
theorem l_211_16 : look 211 16 = some (.ireturn, 1, 0, 0, 0, 0) := by decide +kernel
theorem c_211 {k : Nat} : CL xs 211 [vs 3, vi ((k : Nat) : Int)] (S, I, T, cc, zz) (RX (fun r m1 => ∃ x : Int, r = some (vi x) ∧ m1 = (S, I, T, cc, zz))) := by
  refine CL_start (r := 0) (ls := [vs 3, vi ((k : Nat) : Int)]) (rk_211 _) rfl ?_
  refine w_iln l_211_0 rfl ?_
  refine w_asn l_211_1 rfl ?_
  refine w_lxs l_211_2 ?_
  by_cases e : k < xs.length
  · refine w_cge 15 l_211_3 (by decide) (fun hx => absurd hx (by omega)) (fun _ => ?_)
    refine w_asn l_211_6 rfl ?_
    refine w_iln l_211_7 rfl ?_
    refine w_xs k _ l_211_8 rfl e rfl ?_
    refine w_ldi (Or.inl l_211_9) (by decide) ?_
    refine w_and _ l_211_11 rfl ?_
    refine w_go 16 l_211_12 (by decide) ?_
    refine w_ir l_211_16 (Or.inl rfl) ?_
    exact ⟨_, rfl, _, rfl, rfl⟩
  · refine w_cge 15 l_211_3 (by decide) (fun _ => ?_) (fun hx => absurd hx (by omega))
    refine w_ic l_211_15 (by decide) ?_
    refine w_ir l_211_16 (Or.inl rfl) ?_
    exact ⟨_, rfl, _, rfl, rfl⟩

end WSE
