/-! rows for constant strings -/
section WST
variable {xs : List Int} {M r pc : Nat} {ls st : List AV} {S : List (Nat × Nat)} {I : Ix} {T : Nat → Nat → Nat} {cc zz : Nat} {Q : Res → Mem → Prop}
theorem w_als {i k x : Nat} {tl : Nat × Nat × Nat × Nat} (h : look M pc = some (.aload i, k, tl)) (hx : ls[i]? = some (vs (x + 3))) (kk : WP xs M r (pc + k) ls (vs (x + 3) :: st) (S, I, T, cc, zz) Q) : WP xs M r pc ls st (S, I, T, cc, zz) Q :=
  WP_at h (by show WPo xs M r pc ls _ Q (o_al i (pc + k) ls st (S, I, T, cc, zz)); unfold o_al; rw [hx]; exact kk)
theorem w_rans {i : Fin 4} {k x : Nat} {tl : Nat × Nat × Nat × Nat} (h : look M pc = some (.astore_n i, k, tl)) (hx : i.val < ls.length ∧ prevOk ls i.val = true) (kk : WP xs M r (pc + k) (ls.set i.val (vs (x + 3))) st (S, I, T, cc, zz) Q) : WP xs M r pc ls (vs (x + 3) :: st) (S, I, T, cc, zz) Q :=
  WP_at h (by show WPo xs M r pc ls _ Q (if _ then _ else _); rw [if_pos hx]; exact kk)
theorem w_gs0 {idx k a b d : Nat} (h : look M pc = some (.getstatic idx, k, a, b, 0, d)) (kk : WP xs M r (pc + k) ls (vi 1 :: st) (S, I, T, cc, zz) Q) : WP xs M r pc ls st (S, I, T, cc, zz) Q := WP_at h kk
theorem w_gs1 {idx k a b d : Nat} (h : look M pc = some (.getstatic idx, k, a, b, 1, d)) (kk : WP xs M r (pc + k) ls (vs 1 :: st) (S, I, T, cc, zz) Q) : WP xs M r pc ls st (S, I, T, cc, zz) Q := WP_at h kk
theorem w_gv {idx k a b d q : Nat} (h : look M pc = some (.getfield idx, k, a, b, 3, d)) (hq : q < 53) (kk : WP xs M r (pc + k) ls (vs (2 * q + 1 + 4) :: st) (S, I, T, cc, zz) Q) : WP xs M r pc ls (vs (2 * q + 4) :: st) (S, I, T, cc, zz) Q :=
  WP_at h (by
    show WPo xs M r pc ls _ Q (if _ then _ else _)
    rw [if_pos ⟨by omega, by omega⟩]
    exact kk)
theorem w_gc {idx k a b d q : Nat} (h : look M pc = some (.getfield idx, k, a, b, 4, d)) (hq : q < 53) (kk : WP xs M r (pc + k) ls (vi 0 :: st) (S, I, T, cc, zz) Q) : WP xs M r pc ls (vs (2 * q + 4) :: st) (S, I, T, cc, zz) Q :=
  WP_at h (by
    show WPo xs M r pc ls _ Q (if _ then _ else _)
    rw [if_pos ⟨by omega, by omega⟩]
    exact kk)
theorem w_ls {k q : Nat} {tl : Nat × Nat × Nat × Nat} (h : look M pc = some (.arraylength, k, tl)) (hq : q < 53) (kk : WP xs M r (pc + k) ls (vi (((stb.getD q []).length : Nat) : Int) :: st) (S, I, T, cc, zz) Q) : WP xs M r pc ls (vs (2 * q + 1 + 4) :: st) (S, I, T, cc, zz) Q :=
  WP_at h (by
    show WPo xs M r pc ls _ Q (if _ then _ else _)
    have e : (2 * q + 1) / 2 = q := by omega
    rw [if_pos ⟨by omega, by omega⟩, e]
    exact kk)
end WST
theorem stb_ok : ∀ q : Nat, q < 53 → ∀ i : Nat, i < (stb.getD q []).length → 32 ≤ (stb.getD q []).getD i 0 ∧ (stb.getD q []).getD i 0 ≤ 122 := by decide +kernel
theorem stb_len : ∀ q : Nat, q < 27 → (stb.getD q []).length ≤ 7 := by decide +kernel
theorem stb_len2 : ∀ q : Nat, q < 53 → (stb.getD q []).length ≤ 23 := by decide +kernel
section STF
variable {xs : List Int} {S : List (Nat × Nat)} {T : Nat → Nat → Nat} {cc zz q : Nat} {I : Ix}

theorem mx_301 : mxl 301 = 1 := by decide +kernel
theorem mt_301 : mtc 301 = 12 := by decide +kernel
theorem rk_301 (as : List AV) : rkA 301 as = 0 := rfl
theorem l_301_0 : look 301 0 = some (.getstatic 38, 3, 0, 0, 0, 297) := by decide +kernel
theorem l_301_3 : look 301 3 = some (.ifCond .eq 10, 3, 0, 0, 0, 0) := by decide +kernel
theorem l_301_6 : look 301 6 = some (.aload_n 0, 1, 0, 0, 0, 0) := by decide +kernel
theorem l_301_7 : look 301 7 = some (.getfield 15, 3, 12, 1, 4, 1010) := by decide +kernel
theorem l_301_10 : look 301 10 = some (.goto 4, 3, 0, 0, 0, 0) := by decide +kernel
theorem l_301_13 : look 301 13 = some (.iconst 1, 1, 0, 0, 0, 0) := by decide +kernel
theorem l_301_14 : look 301 14 = some (.ireturn, 1, 0, 0, 3, 0) := by decide +kernel
theorem s_301 (hq53 : q < 53) : CL xs 301 [vs (2 * q + 4)] (S, I, T, cc, zz) (FN (some (vi 0)) (S, I, T, cc, zz)) := by
  refine CL_start (r := 0) (ls := [vs (2 * q + 4)]) (rk_301 _) rfl ?_
  refine w_gs0 l_301_0 ?_
  refine w_zeq 13 l_301_3 (by decide) (fun hx => absurd hx (by decide)) (fun _ => ?_)
  refine w_asn l_301_6 rfl ?_
  refine w_gc l_301_7 (by first | decide | exact hq53) ?_
  refine w_go 14 l_301_10 (by decide) ?_
  refine w_ir l_301_14 (by omega) ?_
  exact ⟨rfl, rfl⟩

theorem mx_302 : mxl 302 = 1 := by decide +kernel
theorem mt_302 : mtc 302 = 12 := by decide +kernel
theorem rk_302 (as : List AV) : rkA 302 as = 0 := rfl
theorem l_302_0 : look 302 0 = some (.getstatic 38, 3, 0, 0, 0, 297) := by decide +kernel
theorem l_302_3 : look 302 3 = some (.ifCond .eq 14, 3, 0, 0, 0, 0) := by decide +kernel
theorem l_302_6 : look 302 6 = some (.aload_n 0, 1, 0, 0, 0, 0) := by decide +kernel
theorem l_302_7 : look 302 7 = some (.getfield 15, 3, 12, 1, 4, 1010) := by decide +kernel
theorem l_302_10 : look 302 10 = some (.ifCond .ne 7, 3, 0, 0, 0, 0) := by decide +kernel
theorem l_302_13 : look 302 13 = some (.iconst 1, 1, 0, 0, 0, 0) := by decide +kernel
theorem l_302_14 : look 302 14 = some (.goto 4, 3, 0, 0, 0, 0) := by decide +kernel
theorem l_302_17 : look 302 17 = some (.iconst 0, 1, 0, 0, 0, 0) := by decide +kernel
theorem l_302_18 : look 302 18 = some (.ireturn, 1, 0, 0, 1, 0) := by decide +kernel
theorem s_302 (hq53 : q < 53) : CL xs 302 [vs (2 * q + 4)] (S, I, T, cc, zz) (FN (some (vi 1)) (S, I, T, cc, zz)) := by
  refine CL_start (r := 0) (ls := [vs (2 * q + 4)]) (rk_302 _) rfl ?_
  refine w_gs0 l_302_0 ?_
  refine w_zeq 17 l_302_3 (by decide) (fun hx => absurd hx (by decide)) (fun _ => ?_)
  refine w_asn l_302_6 rfl ?_
  refine w_gc l_302_7 (by first | decide | exact hq53) ?_
  refine w_zne 17 l_302_10 (by decide) (fun hx => absurd hx (by decide)) (fun _ => ?_)
  refine w_ic l_302_13 (by decide) ?_
  refine w_go 18 l_302_14 (by decide) ?_
  refine w_ir l_302_18 (by decide) ?_
  exact ⟨rfl, rfl⟩

theorem mx_299 : mxl 299 = 1 := by decide +kernel
theorem mt_299 : mtc 299 = 12 := by decide +kernel
theorem rk_299 (as : List AV) : rkA 299 as = 1 := rfl
theorem l_299_0 : look 299 0 = some (.aload_n 0, 1, 0, 0, 0, 0) := by decide +kernel
theorem l_299_1 : look 299 1 = some (.getfield 9, 3, 12, 0, 3, 1009) := by decide +kernel
theorem l_299_4 : look 299 4 = some (.arraylength, 1, 0, 0, 0, 0) := by decide +kernel
theorem l_299_5 : look 299 5 = some (.aload_n 0, 1, 0, 0, 0, 0) := by decide +kernel
theorem l_299_6 : look 299 6 = some (.invokevirtual 335, 3, 301, 1, 0, 293) := by decide +kernel
theorem l_299_9 : look 299 9 = some (.ishr, 1, 0, 0, 0, 0) := by decide +kernel
theorem l_299_10 : look 299 10 = some (.ireturn, 1, 0, 0, 0, 0) := by decide +kernel
theorem s_299 (hq53 : q < 53) : CL xs 299 [vs (2 * q + 4)] (S, I, T, cc, zz) (FN (some (vi (((stb.getD q []).length : Nat) : Int))) (S, I, T, cc, zz)) := by
  refine CL_start (r := 1) (ls := [vs (2 * q + 4)]) (rk_299 _) rfl ?_
  refine w_asn l_299_0 rfl ?_
  refine w_gv l_299_1 (by first | decide | exact hq53) ?_
  refine w_ls l_299_4 (by first | decide | exact hq53) ?_
  refine w_asn l_299_5 rfl ?_
  refine q_ivs [] [vi (((stb.getD q []).length : Nat) : Int)] l_299_6 rfl rfl (Nat.le_of_ble_eq_true rfl) (by rw [mx_301]; exact Nat.le_of_ble_eq_true rfl) (by first | decide | exact hq53) mt_301 (by rw [rk_301]; decide) (s_301 hq53) ?_
  refine w_shr (((stb.getD q []).length : Nat) : Int) l_299_9 ((shr_n (k := 0) (by decide) (by have := stb_len2 q hq53; omega)).trans (congrArg (fun n : Nat => (n : Int)) (Nat.div_one _))) ?_
  refine w_ir l_299_10 (Or.inl rfl) ?_
  exact ⟨rfl, rfl⟩

theorem mx_306 : mxl 306 = 3 := by decide +kernel
theorem mt_306 : mtc 306 = 99 := by decide +kernel
theorem rk_306 (as : List AV) : rkA 306 as = 0 := rfl
theorem l_306_0 : look 306 0 = some (.iload_n 0, 1, 0, 0, 0, 0) := by decide +kernel
theorem l_306_1 : look 306 1 = some (.ifCond .lt 8, 3, 0, 0, 0, 0) := by decide +kernel
theorem l_306_4 : look 306 4 = some (.iload_n 0, 1, 0, 0, 0, 0) := by decide +kernel
theorem l_306_5 : look 306 5 = some (.iload_n 1, 1, 0, 0, 0, 0) := by decide +kernel
theorem l_306_6 : look 306 6 = some (.if_icmp .lt 10, 3, 0, 0, 0, 0) := by decide +kernel
theorem l_306_9 : look 306 9 = some (.aload_n 2, 1, 0, 0, 0, 0) := by decide +kernel
theorem l_306_10 : look 306 10 = some (.iload_n 0, 1, 0, 0, 0, 0) := by decide +kernel
theorem l_306_11 : look 306 11 = some (.iload_n 1, 1, 0, 0, 0, 0) := by decide +kernel
theorem l_306_12 : look 306 12 = some (.invokestatic 95, 3, 0, 0, 99, 0) := by decide +kernel
theorem l_306_15 : look 306 15 = some (.athrow, 1, 0, 0, 0, 0) := by decide +kernel
theorem l_306_16 : look 306 16 = some (.iload_n 0, 1, 0, 0, 0, 0) := by decide +kernel
theorem l_306_17 : look 306 17 = some (.ireturn, 1, 0, 0, 0, 0) := by decide +kernel
theorem s_306 {i n : Nat} (hi : i < n) : CL xs 306 [vi ((i : Nat) : Int), vi ((n : Nat) : Int), vs 1] (S, I, T, cc, zz) (FN (some (vi ((i : Nat) : Int))) (S, I, T, cc, zz)) := by
  refine CL_start (r := 0) (ls := [vi ((i : Nat) : Int), vi ((n : Nat) : Int), vs 1]) (rk_306 _) rfl ?_
  refine w_iln l_306_0 rfl ?_
  refine w_zlt 9 l_306_1 (by decide) (fun hx => absurd hx (by omega)) (fun _ => ?_)
  refine w_iln l_306_4 rfl ?_
  refine w_iln l_306_5 rfl ?_
  refine w_clt 16 l_306_6 (by decide) (fun _ => ?_) (fun hx => absurd hx (by omega))
  refine w_iln l_306_16 rfl ?_
  refine w_ir l_306_17 (Or.inl rfl) ?_
  exact ⟨rfl, rfl⟩

theorem mx_303 : mxl 303 = 2 := by decide +kernel
theorem mt_303 : mtc 303 = 12 := by decide +kernel
theorem rk_303 (as : List AV) : rkA 303 as = 1 := rfl
theorem l_303_0 : look 303 0 = some (.iload_n 0, 1, 0, 0, 0, 0) := by decide +kernel
theorem l_303_1 : look 303 1 = some (.iload_n 1, 1, 0, 0, 0, 0) := by decide +kernel
theorem l_303_2 : look 303 2 = some (.getstatic 1053, 3, 0, 0, 1, 313) := by decide +kernel
theorem l_303_5 : look 303 5 = some (.invokestatic 1059, 3, 306, 3, 1, 315) := by decide +kernel
theorem l_303_8 : look 303 8 = some (.pop, 1, 0, 0, 0, 0) := by decide +kernel
theorem l_303_9 : look 303 9 = some (.return_, 1, 0, 0, 0, 0) := by decide +kernel
theorem s_303 {i n : Nat} (hi : i < n) : CL xs 303 [vi ((i : Nat) : Int), vi ((n : Nat) : Int)] (S, I, T, cc, zz) (FN none (S, I, T, cc, zz)) := by
  refine CL_start (r := 1) (ls := [vi ((i : Nat) : Int), vi ((n : Nat) : Int)]) (rk_303 _) rfl ?_
  refine w_iln l_303_0 rfl ?_
  refine w_iln l_303_1 rfl ?_
  refine w_gs1 l_303_2 ?_
  refine q_st [vi ((i : Nat) : Int), vi ((n : Nat) : Int), vs 1] [] l_303_5 (by decide) rfl rfl (Nat.le_of_ble_eq_true rfl) (by rw [mx_306]; exact Nat.le_of_ble_eq_true rfl) (by rw [rk_306]; decide) (s_306 hi) ?_
  refine w_pop l_303_8 rfl ?_
  refine w_vr l_303_9 ?_
  exact ⟨rfl, rfl⟩

theorem mx_304 : mxl 304 = 2 := by decide +kernel
theorem mt_304 : mtc 304 = 99 := by decide +kernel
theorem rk_304 (as : List AV) : rkA 304 as = 2 := rfl
theorem l_304_0 : look 304 0 = some (.iload_n 1, 1, 0, 0, 0, 0) := by decide +kernel
theorem l_304_1 : look 304 1 = some (.aload_n 0, 1, 0, 0, 0, 0) := by decide +kernel
theorem l_304_2 : look 304 2 = some (.arraylength, 1, 0, 0, 0, 0) := by decide +kernel
theorem l_304_3 : look 304 3 = some (.invokestatic 9, 3, 303, 2, 1, 310) := by decide +kernel
theorem l_304_6 : look 304 6 = some (.aload_n 0, 1, 0, 0, 0, 0) := by decide +kernel
theorem l_304_7 : look 304 7 = some (.iload_n 1, 1, 0, 0, 0, 0) := by decide +kernel
theorem l_304_8 : look 304 8 = some (.baload, 1, 0, 0, 0, 0) := by decide +kernel
theorem l_304_9 : look 304 9 = some (.sipush 255, 3, 0, 0, 0, 0) := by decide +kernel
theorem l_304_12 : look 304 12 = some (.iand, 1, 0, 0, 0, 0) := by decide +kernel
theorem l_304_13 : look 304 13 = some (.i2c, 1, 0, 0, 0, 0) := by decide +kernel
theorem l_304_14 : look 304 14 = some (.ireturn, 1, 0, 0, 2, 0) := by decide +kernel
theorem s_304 (hq53 : q < 53) {i b : Nat} (hi : i < (stb.getD q []).length) (hb : ((stb.getD q []).getD i 0) = (b : Int)) (hb2 : b < 128) : CL xs 304 [vs (2 * q + 1 + 4), vi ((i : Nat) : Int)] (S, I, T, cc, zz) (FN (some (vi ((b : Nat) : Int))) (S, I, T, cc, zz)) := by
  refine CL_start (r := 2) (ls := [vs (2 * q + 1 + 4), vi ((i : Nat) : Int)]) (rk_304 _) rfl ?_
  refine w_iln l_304_0 rfl ?_
  refine w_asn l_304_1 rfl ?_
  refine w_ls l_304_2 (by first | decide | exact hq53) ?_
  refine q_st [vi ((i : Nat) : Int), vi (((stb.getD q []).length : Nat) : Int)] [] l_304_3 (by decide) rfl rfl (Nat.le_of_ble_eq_true rfl) (by rw [mx_303]; exact Nat.le_of_ble_eq_true rfl) (by rw [rk_303]; decide) (s_303 hi) ?_
  refine w_asn l_304_6 rfl ?_
  refine w_iln l_304_7 rfl ?_
  refine w_bs i ((b : Nat) : Int) l_304_8 (by omega) rfl (by omega) hb ?_
  refine w_sp l_304_9 (by decide) ?_
  refine w_and ((b : Nat) : Int) l_304_12 ((and_nn (n := 255) (by omega)).trans (congrArg (fun n : Nat => (n : Int)) ((Nat.and_two_pow_sub_one_eq_mod b 8).trans (Nat.mod_eq_of_lt (by omega))))) ?_
  refine w_i2c ((b : Nat) : Int) l_304_13 (by omega) ?_
  refine w_ir l_304_14 (by omega) ?_
  exact ⟨rfl, rfl⟩

theorem mx_300 : mxl 300 = 2 := by decide +kernel
theorem mt_300 : mtc 300 = 12 := by decide +kernel
theorem rk_300 (as : List AV) : rkA 300 as = 3 := rfl
theorem l_300_0 : look 300 0 = some (.aload_n 0, 1, 0, 0, 0, 0) := by decide +kernel
theorem l_300_1 : look 300 1 = some (.invokevirtual 492, 3, 302, 1, 0, 303) := by decide +kernel
theorem l_300_4 : look 300 4 = some (.ifCond .eq 12, 3, 0, 0, 0, 0) := by decide +kernel
theorem l_300_7 : look 300 7 = some (.aload_n 0, 1, 0, 0, 0, 0) := by decide +kernel
theorem l_300_8 : look 300 8 = some (.getfield 9, 3, 12, 0, 3, 1009) := by decide +kernel
theorem l_300_11 : look 300 11 = some (.iload_n 1, 1, 0, 0, 0, 0) := by decide +kernel
theorem l_300_12 : look 300 12 = some (.invokestatic 495, 3, 304, 2, 1, 307) := by decide +kernel
theorem l_300_15 : look 300 15 = some (.ireturn, 1, 0, 0, 2, 0) := by decide +kernel
theorem l_300_16 : look 300 16 = some (.aload_n 0, 1, 0, 0, 0, 0) := by decide +kernel
theorem l_300_17 : look 300 17 = some (.getfield 9, 3, 12, 0, 3, 1009) := by decide +kernel
theorem l_300_20 : look 300 20 = some (.iload_n 1, 1, 0, 0, 0, 0) := by decide +kernel
theorem l_300_21 : look 300 21 = some (.invokestatic 498, 3, 0, 2, 99, 318) := by decide +kernel
theorem l_300_24 : look 300 24 = some (.ireturn, 1, 0, 0, 2, 0) := by decide +kernel
theorem s_300 (hq53 : q < 53) {i b : Nat} (hi : i < (stb.getD q []).length) (hb : ((stb.getD q []).getD i 0) = (b : Int)) (hb2 : b < 128) : CL xs 300 [vs (2 * q + 4), vi ((i : Nat) : Int)] (S, I, T, cc, zz) (FN (some (vi ((b : Nat) : Int))) (S, I, T, cc, zz)) := by
  refine CL_start (r := 3) (ls := [vs (2 * q + 4), vi ((i : Nat) : Int)]) (rk_300 _) rfl ?_
  refine w_asn l_300_0 rfl ?_
  refine q_ivs [] [] l_300_1 rfl rfl (Nat.le_of_ble_eq_true rfl) (by rw [mx_302]; exact Nat.le_of_ble_eq_true rfl) (by first | decide | exact hq53) mt_302 (by rw [rk_302]; decide) (s_302 hq53) ?_
  refine w_zeq 16 l_300_4 (by decide) (fun hx => absurd hx (by decide)) (fun _ => ?_)
  refine w_asn l_300_7 rfl ?_
  refine w_gv l_300_8 (by first | decide | exact hq53) ?_
  refine w_iln l_300_11 rfl ?_
  refine q_st [vs (2 * q + 1 + 4), vi ((i : Nat) : Int)] [] l_300_12 (by decide) rfl rfl (Nat.le_of_ble_eq_true rfl) (by rw [mx_304]; exact Nat.le_of_ble_eq_true rfl) (by rw [rk_304]; decide) (s_304 hq53 hi hb hb2) ?_
  refine w_ir l_300_15 (by omega) ?_
  exact ⟨rfl, rfl⟩

end STF
