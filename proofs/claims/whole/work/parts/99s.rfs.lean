/-! the reference's reader: words, numbers, names -/
section RFS
variable {xs : List Int} {S : List (Nat × Nat)} {T : Nat → Nat → Nat} {cc zz s : Nat} {I I' : Ix} {t : Nat → Int} {n : Nat}

theorem mx_178 : mxl 178 = 5 := by decide +kernel
theorem mt_178 : mtc 178 = 10 := by decide +kernel
theorem rk_178 (as : List AV) : rkA 178 as = 4 := rfl
theorem l_178_0 : look 178 0 = some (.aload_n 0, 1, 0, 0, 0, 0) := by decide +kernel
theorem l_178_1 : look 178 1 = some (.invokevirtual 179, 3, 177, 1, 0, 1771) := by decide +kernel
theorem l_178_4 : look 178 4 = some (.istore_n 2, 1, 0, 0, 0, 0) := by decide +kernel
theorem l_178_5 : look 178 5 = some (.aload_n 0, 1, 0, 0, 0, 0) := by decide +kernel
theorem l_178_6 : look 178 6 = some (.invokevirtual 182, 3, 175, 1, 0, 1750) := by decide +kernel
theorem l_178_9 : look 178 9 = some (.ifCond .ne 20, 3, 0, 0, 0, 0) := by decide +kernel
theorem l_178_12 : look 178 12 = some (.iload_n 2, 1, 0, 0, 0, 0) := by decide +kernel
theorem l_178_13 : look 178 13 = some (.aload_n 0, 1, 0, 0, 0, 0) := by decide +kernel
theorem l_178_14 : look 178 14 = some (.getfield 161, 3, 10, 22, 0, 1523) := by decide +kernel
theorem l_178_17 : look 178 17 = some (.isub, 1, 0, 0, 0, 0) := by decide +kernel
theorem l_178_18 : look 178 18 = some (.aload_n 1, 1, 0, 0, 0, 0) := by decide +kernel
theorem l_178_19 : look 178 19 = some (.invokevirtual 186, 3, 299, 1, 0, 1778) := by decide +kernel
theorem l_178_22 : look 178 22 = some (.if_icmp .ne 7, 3, 0, 0, 0, 0) := by decide +kernel
theorem l_178_25 : look 178 25 = some (.iconst 1, 1, 0, 0, 0, 0) := by decide +kernel
theorem l_178_26 : look 178 26 = some (.goto 4, 3, 0, 0, 0, 0) := by decide +kernel
theorem l_178_29 : look 178 29 = some (.iconst 0, 1, 0, 0, 0, 0) := by decide +kernel
theorem l_178_30 : look 178 30 = some (.istore_n 3, 1, 0, 0, 0, 0) := by decide +kernel
theorem l_178_31 : look 178 31 = some (.iconst 0, 1, 0, 0, 0, 0) := by decide +kernel
theorem l_178_32 : look 178 32 = some (.istore 4, 2, 0, 0, 0, 0) := by decide +kernel
theorem l_178_34 : look 178 34 = some (.iload 4, 2, 0, 0, 0, 0) := by decide +kernel
theorem l_178_36 : look 178 36 = some (.aload_n 1, 1, 0, 0, 0, 0) := by decide +kernel
theorem l_178_37 : look 178 37 = some (.invokevirtual 186, 3, 299, 1, 0, 1778) := by decide +kernel
theorem l_178_40 : look 178 40 = some (.if_icmp .ge 39, 3, 0, 0, 0, 0) := by decide +kernel
theorem l_178_43 : look 178 43 = some (.iload_n 3, 1, 0, 0, 0, 0) := by decide +kernel
theorem l_178_44 : look 178 44 = some (.ifCond .eq 35, 3, 0, 0, 0, 0) := by decide +kernel
theorem l_178_47 : look 178 47 = some (.aload_n 0, 1, 0, 0, 0, 0) := by decide +kernel
theorem l_178_48 : look 178 48 = some (.aload_n 0, 1, 0, 0, 0, 0) := by decide +kernel
theorem l_178_49 : look 178 49 = some (.getfield 161, 3, 10, 22, 0, 1523) := by decide +kernel
theorem l_178_52 : look 178 52 = some (.iload 4, 2, 0, 0, 0, 0) := by decide +kernel
theorem l_178_54 : look 178 54 = some (.iadd, 1, 0, 0, 0, 0) := by decide +kernel
theorem l_178_55 : look 178 55 = some (.invokevirtual 164, 3, 173, 2, 0, 1758) := by decide +kernel
theorem l_178_58 : look 178 58 = some (.aload_n 1, 1, 0, 0, 0, 0) := by decide +kernel
theorem l_178_59 : look 178 59 = some (.iload 4, 2, 0, 0, 0, 0) := by decide +kernel
theorem l_178_61 : look 178 61 = some (.invokevirtual 190, 3, 300, 2, 0, 1779) := by decide +kernel
theorem l_178_64 : look 178 64 = some (.if_icmp .ne 7, 3, 0, 0, 0, 0) := by decide +kernel
theorem l_178_67 : look 178 67 = some (.iconst 1, 1, 0, 0, 0, 0) := by decide +kernel
theorem l_178_68 : look 178 68 = some (.goto 4, 3, 0, 0, 0, 0) := by decide +kernel
theorem l_178_71 : look 178 71 = some (.iconst 0, 1, 0, 0, 0, 0) := by decide +kernel
theorem l_178_72 : look 178 72 = some (.istore_n 3, 1, 0, 0, 0, 0) := by decide +kernel
theorem l_178_73 : look 178 73 = some (.iinc 4 1, 3, 0, 0, 0, 0) := by decide +kernel
theorem l_178_76 : look 178 76 = some (.goto (-42), 3, 0, 0, 0, 0) := by decide +kernel
theorem l_178_79 : look 178 79 = some (.iload_n 3, 1, 0, 0, 0, 0) := by decide +kernel
theorem l_178_80 : look 178 80 = some (.ireturn, 1, 0, 0, 1, 0) := by decide +kernel

theorem lz_178 (hm : oModel S T s) {q : Nat} (hq53 : q < 53) {e k : Nat} {Q : Res → Mem → Prop} (kk : Q (.inl (some (vi 0))) (S, I, T, cc, zz)) : WP xs 178 4 34 [vr s, vs (2 * q + 4), vi ((e : Nat) : Int), vi 0, vi ((k : Nat) : Int)] [] (S, I, T, cc, zz) Q := by
  refine w_il l_178_34 rfl ?_
  refine w_asn l_178_36 rfl ?_
  refine q_ivs [] [vi ((k : Nat) : Int)] l_178_37 rfl rfl (Nat.le_of_ble_eq_true rfl) (by rw [mx_299]; exact Nat.le_of_ble_eq_true rfl) (by first | decide | exact hq53) mt_299 (by rw [rk_299]; decide) (s_299 hq53) ?_
  refine w_cge 79 l_178_40 (by decide) (fun h1 => ?_) (fun h1 => ?_)
  · skip
    refine w_iln l_178_79 rfl ?_
    refine w_ir l_178_80 (by decide) ?_
    exact kk
  · skip
    refine w_iln l_178_43 rfl ?_
    refine w_zeq 79 l_178_44 (by decide) (fun _ => ?_) (fun hx => absurd hx (by decide))
    refine w_iln l_178_79 rfl ?_
    refine w_ir l_178_80 (by decide) ?_
    exact kk

theorem lp_178 (hm : oModel S T s) (H : mTx I s t n) {p e q : Nat} (hpn : p ≤ n) (h22 : I s 22 = ((p : Nat) : Int)) (hq53 : q < 53) (hw : wEnd t n p = p + (strB q).length) : ∀ d k, k + d = (stb.getD q []).length → (∀ j, j < k → t (p + j) = (((strB q).getD j 0 : Nat) : Int)) → WP xs 178 4 34 [vr s, vs (2 * q + 4), vi ((e : Nat) : Int), vi 1, vi ((k : Nat) : Int)] [] (S, I, T, cc, zz) (FN (some (vi (b2i (isWL t n (strB q) p)))) (S, I, T, cc, zz)) := by
  intro d
  have h600 := H.2.1
  have hwn : wEnd t n p ≤ n := wEnd_le hpn
  have hw' := hw
  rw [strB_len] at hw'
  have hlo : ∀ j, j < (stb.getD q []).length → 97 ≤ t (p + j) ∧ t (p + j) ≤ 122 := fun j hj => isLo_iff.mp (runX_all (f := isLo) (n - p) p (p + j) (by omega) (by show p + j < wEnd t n p; omega)).1
  induction d with
  | zero =>
    intro k hk hall
    refine w_il l_178_34 rfl ?_
    refine w_asn l_178_36 rfl ?_
    refine q_ivs [] [vi ((k : Nat) : Int)] l_178_37 rfl rfl (Nat.le_of_ble_eq_true rfl) (by rw [mx_299]; exact Nat.le_of_ble_eq_true rfl) (by first | decide | exact hq53) mt_299 (by rw [rk_299]; decide) (s_299 hq53) ?_
    refine w_cge 79 l_178_40 (by decide) (fun _ => ?_) (fun hx => absurd hx (by omega))
    refine w_iln l_178_79 rfl ?_
    refine w_ir l_178_80 (by decide) ?_
    rw [show isWL t n (strB q) p = true from isWL_iff.mpr ⟨hw, strB_ne q hq53, fun j hj => hall j (by rw [strB_len] at hj; omega)⟩]
    exact ⟨rfl, rfl⟩
  | succ d ih =>
    intro k hk hall
    refine w_il l_178_34 rfl ?_
    refine w_asn l_178_36 rfl ?_
    refine q_ivs [] [vi ((k : Nat) : Int)] l_178_37 rfl rfl (Nat.le_of_ble_eq_true rfl) (by rw [mx_299]; exact Nat.le_of_ble_eq_true rfl) (by first | decide | exact hq53) mt_299 (by rw [rk_299]; decide) (s_299 hq53) ?_
    refine w_cge 79 l_178_40 (by decide) (fun hx => absurd hx (by omega)) (fun _ => ?_)
    refine w_iln l_178_43 rfl ?_
    refine w_zeq 79 l_178_44 (by decide) (fun hx => absurd hx (by decide)) (fun _ => ?_)
    refine w_aln l_178_47 rfl ?_
    refine w_aln l_178_48 rfl ?_
    refine w_gi ((p : Nat) : Int) l_178_49 (oModel_sh hm) h22 ?_
    refine w_il l_178_52 rfl ?_
    refine w_add (((p + k) : Nat) : Int) l_178_54 (by unfold wr; omega) ?_
    refine q_iv [vi (((p + k) : Nat) : Int)] [] l_178_55 rfl rfl (Nat.le_of_ble_eq_true rfl) (by rw [mx_173]; exact Nat.le_of_ble_eq_true rfl) (by rw [mt_173]; exact oModel_sh hm) (by rw [mt_173]; decide) (by rw [rk_173]; decide) ((by have g9 := s_173 (xs := xs) (cc := cc) (zz := zz) hm H (i := p + k); rw [ubA_lo (by omega) (by have := hlo k (by omega); omega)] at g9; exact g9)) ?_
    refine w_asn l_178_58 rfl ?_
    refine w_il l_178_59 rfl ?_
    refine q_ivs [vi ((k : Nat) : Int)] [vi (t (p + k))] l_178_61 rfl rfl (Nat.le_of_ble_eq_true rfl) (by rw [mx_300]; exact Nat.le_of_ble_eq_true rfl) (by first | decide | exact hq53) mt_300 (by rw [rk_300]; decide) (s_300 hq53 (by omega) (strB_at hq53 (by omega)).1 (strB_at hq53 (by omega)).2) ?_
    refine w_cne 71 l_178_64 (by decide) (fun h1 => ?_) (fun h1 => ?_)
    · skip
      refine w_ic l_178_71 (by decide) ?_
      refine w_isn l_178_72 ⟨Nat.le_of_ble_eq_true rfl, rfl⟩ ?_
      refine w_inc ((k + 1 : Nat) : Int) l_178_73 rfl rfl (by unfold wr; omega) ?_
      refine w_go 34 l_178_76 (by decide) ?_
      first
      | (refine ih (k + 1) (by omega) (fun j hj => ?_)
         by_cases hjk : j = k
         · rw [hjk]; exact h1
         · exact hall j (by omega))
      | (refine lz_178 (e := e) (k := k + 1) hm hq53 ?_
         rw [show isWL t n (strB q) p = false from Bool.eq_false_iff.mpr fun hh => h1 ((isWL_iff.mp hh).2.2 k (by rw [strB_len]; omega))]
         exact ⟨rfl, rfl⟩)
    · skip
      refine w_ic l_178_67 (by decide) ?_
      refine w_go 72 l_178_68 (by decide) ?_
      refine w_isn l_178_72 ⟨Nat.le_of_ble_eq_true rfl, rfl⟩ ?_
      refine w_inc ((k + 1 : Nat) : Int) l_178_73 rfl rfl (by unfold wr; omega) ?_
      refine w_go 34 l_178_76 (by decide) ?_
      first
      | (refine ih (k + 1) (by omega) (fun j hj => ?_)
         by_cases hjk : j = k
         · rw [hjk]; exact h1
         · exact hall j (by omega))
      | (refine lz_178 (e := e) (k := k + 1) hm hq53 ?_
         rw [show isWL t n (strB q) p = false from Bool.eq_false_iff.mpr fun hh => h1 ((isWL_iff.mp hh).2.2 k (by rw [strB_len]; omega))]
         exact ⟨rfl, rfl⟩)

theorem s_178 (hm : oModel S T s) (H : mTx I s t n) {i : Nat} (h22 : I s 22 = ((i : Nat) : Int)) (hi : i ≤ n) (h24 : I s 24 = 0) {q : Nat} (hq53 : q < 53) : CL xs 178 [vr s, vs (2 * q + 4)] (S, I, T, cc, zz) (RP S T cc zz (fun v I' => v = some (vi (b2i (isWL t n (strB q) (skw t n i)))) ∧ I' s 22 = ((skw t n i : Nat) : Int) ∧ f22 I I' s)) := by
  have h600 := H.2.1
  have hpn : skw t n i ≤ n := skw_le hi
  have hwl : wEnd t n (skw t n i) ≤ n := wEnd_le hpn
  have hwg : skw t n i ≤ wEnd t n (skw t n i) := wEnd_ge
  have hsl := strB_len q
  by_cases hw : wEnd t n (skw t n i) = skw t n i + (strB q).length
  · skip
    refine CL_start (r := 4) (ls := [vr s, vs (2 * q + 4), vs 2, vs 2, vs 2]) (rk_178 _) rfl ?_
    refine w_aln l_178_0 rfl ?_
    refine p_iv [] [] l_178_1 rfl rfl (Nat.le_of_ble_eq_true rfl) (by rw [mx_177]; exact Nat.le_of_ble_eq_true rfl) (by rw [mt_177]; exact oModel_sh hm) (by rw [mt_177]; decide) (by rw [rk_177]; decide) (s_177 hm H h22 hi) (fun v I1 hv => ?_)
    obtain ⟨rfl, g22, f1⟩ := hv
    have H1 := H.fT f1.T
    have k24 : I1 s 24 = 0 := (f1 s 24 (fun _ => by decide)).trans h24
    refine w_isn l_178_4 ⟨Nat.le_of_ble_eq_true rfl, rfl⟩ ?_
    refine w_aln l_178_5 rfl ?_
    refine q_iv [] [] l_178_6 rfl rfl (Nat.le_of_ble_eq_true rfl) (by rw [mx_175]; exact Nat.le_of_ble_eq_true rfl) (by rw [mt_175]; exact oModel_sh hm) (by rw [mt_175]; decide) (by rw [rk_175]; decide) (s_175_0 hm k24) ?_
    refine w_zne 29 l_178_9 (by decide) (fun hx => absurd hx (by decide)) (fun _ => ?_)
    refine w_iln l_178_12 rfl ?_
    refine w_aln l_178_13 rfl ?_
    refine w_gi (((skw t n i) : Nat) : Int) l_178_14 (oModel_sh hm) g22 ?_
    refine w_sub (((wEnd t n (skw t n i) - skw t n i) : Nat) : Int) l_178_17 (by unfold wr; omega) ?_
    refine w_asn l_178_18 rfl ?_
    refine q_ivs [] [vi (((wEnd t n (skw t n i) - skw t n i) : Nat) : Int)] l_178_19 rfl rfl (Nat.le_of_ble_eq_true rfl) (by rw [mx_299]; exact Nat.le_of_ble_eq_true rfl) (by first | decide | exact hq53) mt_299 (by rw [rk_299]; decide) (s_299 hq53) ?_
    refine w_cne 29 l_178_22 (by decide) (fun hx => absurd hx (by omega)) (fun _ => ?_)
    refine w_ic l_178_25 (by decide) ?_
    refine w_go 30 l_178_26 (by decide) ?_
    refine w_isn l_178_30 ⟨Nat.le_of_ble_eq_true rfl, rfl⟩ ?_
    refine w_ic l_178_31 (by decide) ?_
    refine w_is l_178_32 ⟨Nat.le_of_ble_eq_true rfl, rfl⟩ ?_
    refine WP_mono (show WP xs 178 4 34 [vr s, vs (2 * q + 4), vi ((wEnd t n (skw t n i) : Nat) : Int), vi 1, vi ((0 : Nat) : Int)] [] (S, I1, T, cc, zz) _ from lp_178 hm H1 hpn g22 hq53 hw _ 0 (Nat.zero_add _) (fun j hj => absurd hj (Nat.not_lt_zero j))) (FN.up ?_)
    exact ⟨_, _, rfl, rfl, rfl, g22, f1⟩
  · skip
    refine CL_start (r := 4) (ls := [vr s, vs (2 * q + 4), vs 2, vs 2, vs 2]) (rk_178 _) rfl ?_
    refine w_aln l_178_0 rfl ?_
    refine p_iv [] [] l_178_1 rfl rfl (Nat.le_of_ble_eq_true rfl) (by rw [mx_177]; exact Nat.le_of_ble_eq_true rfl) (by rw [mt_177]; exact oModel_sh hm) (by rw [mt_177]; decide) (by rw [rk_177]; decide) (s_177 hm H h22 hi) (fun v I1 hv => ?_)
    obtain ⟨rfl, g22, f1⟩ := hv
    have H1 := H.fT f1.T
    have k24 : I1 s 24 = 0 := (f1 s 24 (fun _ => by decide)).trans h24
    refine w_isn l_178_4 ⟨Nat.le_of_ble_eq_true rfl, rfl⟩ ?_
    refine w_aln l_178_5 rfl ?_
    refine q_iv [] [] l_178_6 rfl rfl (Nat.le_of_ble_eq_true rfl) (by rw [mx_175]; exact Nat.le_of_ble_eq_true rfl) (by rw [mt_175]; exact oModel_sh hm) (by rw [mt_175]; decide) (by rw [rk_175]; decide) (s_175_0 hm k24) ?_
    refine w_zne 29 l_178_9 (by decide) (fun hx => absurd hx (by decide)) (fun _ => ?_)
    refine w_iln l_178_12 rfl ?_
    refine w_aln l_178_13 rfl ?_
    refine w_gi (((skw t n i) : Nat) : Int) l_178_14 (oModel_sh hm) g22 ?_
    refine w_sub (((wEnd t n (skw t n i) - skw t n i) : Nat) : Int) l_178_17 (by unfold wr; omega) ?_
    refine w_asn l_178_18 rfl ?_
    refine q_ivs [] [vi (((wEnd t n (skw t n i) - skw t n i) : Nat) : Int)] l_178_19 rfl rfl (Nat.le_of_ble_eq_true rfl) (by rw [mx_299]; exact Nat.le_of_ble_eq_true rfl) (by first | decide | exact hq53) mt_299 (by rw [rk_299]; decide) (s_299 hq53) ?_
    refine w_cne 29 l_178_22 (by decide) (fun _ => ?_) (fun hx => absurd hx (by omega))
    refine w_ic l_178_29 (by decide) ?_
    refine w_isn l_178_30 ⟨Nat.le_of_ble_eq_true rfl, rfl⟩ ?_
    refine w_ic l_178_31 (by decide) ?_
    refine w_is l_178_32 ⟨Nat.le_of_ble_eq_true rfl, rfl⟩ ?_
    refine w_il l_178_34 rfl ?_
    refine w_asn l_178_36 rfl ?_
    refine q_ivs [] [vi 0] l_178_37 rfl rfl (Nat.le_of_ble_eq_true rfl) (by rw [mx_299]; exact Nat.le_of_ble_eq_true rfl) (by first | decide | exact hq53) mt_299 (by rw [rk_299]; decide) (s_299 hq53) ?_
    refine w_cge 79 l_178_40 (by decide) (fun h1 => ?_) (fun h1 => ?_)
    · skip
      refine w_iln l_178_79 rfl ?_
      refine w_ir l_178_80 (by decide) ?_
      rw [show isWL t n (strB q) (skw t n i) = false from Bool.eq_false_iff.mpr fun hh => hw (isWL_iff.mp hh).1]
      exact ⟨_, _, rfl, rfl, rfl, g22, f1⟩
    · skip
      refine w_iln l_178_43 rfl ?_
      refine w_zeq 79 l_178_44 (by decide) (fun _ => ?_) (fun hx => absurd hx (by decide))
      refine w_iln l_178_79 rfl ?_
      refine w_ir l_178_80 (by decide) ?_
      rw [show isWL t n (strB q) (skw t n i) = false from Bool.eq_false_iff.mpr fun hh => hw (isWL_iff.mp hh).1]
      exact ⟨_, _, rfl, rfl, rfl, g22, f1⟩

theorem mx_179 : mxl 179 = 3 := by decide +kernel
theorem mt_179 : mtc 179 = 10 := by decide +kernel
theorem rk_179 (as : List AV) : rkA 179 as = 5 := rfl
theorem l_179_0 : look 179 0 = some (.aload_n 0, 1, 0, 0, 0, 0) := by decide +kernel
theorem l_179_1 : look 179 1 = some (.aload_n 1, 1, 0, 0, 0, 0) := by decide +kernel
theorem l_179_2 : look 179 2 = some (.invokevirtual 194, 3, 178, 2, 0, 1767) := by decide +kernel
theorem l_179_5 : look 179 5 = some (.istore_n 2, 1, 0, 0, 0, 0) := by decide +kernel
theorem l_179_6 : look 179 6 = some (.aload_n 0, 1, 0, 0, 0, 0) := by decide +kernel
theorem l_179_7 : look 179 7 = some (.dup, 1, 0, 0, 0, 0) := by decide +kernel
theorem l_179_8 : look 179 8 = some (.getfield 161, 3, 10, 22, 0, 1523) := by decide +kernel
theorem l_179_11 : look 179 11 = some (.iload_n 2, 1, 0, 0, 0, 0) := by decide +kernel
theorem l_179_12 : look 179 12 = some (.ifCond .eq 10, 3, 0, 0, 0, 0) := by decide +kernel
theorem l_179_15 : look 179 15 = some (.aload_n 1, 1, 0, 0, 0, 0) := by decide +kernel
theorem l_179_16 : look 179 16 = some (.invokevirtual 186, 3, 299, 1, 0, 1778) := by decide +kernel
theorem l_179_19 : look 179 19 = some (.goto 4, 3, 0, 0, 0, 0) := by decide +kernel
theorem l_179_22 : look 179 22 = some (.iconst 0, 1, 0, 0, 0, 0) := by decide +kernel
theorem l_179_23 : look 179 23 = some (.iadd, 1, 0, 0, 0, 0) := by decide +kernel
theorem l_179_24 : look 179 24 = some (.putfield 161, 3, 10, 22, 0, 1523) := by decide +kernel
theorem l_179_27 : look 179 27 = some (.iload_n 2, 1, 0, 0, 0, 0) := by decide +kernel
theorem l_179_28 : look 179 28 = some (.ireturn, 1, 0, 0, 1, 0) := by decide +kernel

theorem s_179 (hm : oModel S T s) (H : mTx I s t n) {i : Nat} (h22 : I s 22 = ((i : Nat) : Int)) (hi : i ≤ n) (h24 : I s 24 = 0) {q : Nat} (hq53 : q < 53) : CL xs 179 [vr s, vs (2 * q + 4)] (S, I, T, cc, zz) (RP S T cc zz (fun v I' => v = some (vi (b2i (isWL t n (strB q) (skw t n i)))) ∧ I' s 22 = (((if isWL t n (strB q) (skw t n i) = true then tEnd t n (skw t n i) else skw t n i) : Nat) : Int) ∧ f22 I I' s)) := by
  have hsl := strB_len q
  cases hw : isWL t n (strB q) (skw t n i) with
  | true =>
    have ht := (isWL_1 hw).2
    have htl : tEnd t n (skw t n i) ≤ n := tEnd_le (skw_le hi)
    refine CL_start (r := 5) (ls := [vr s, vs (2 * q + 4), vs 2]) (rk_179 _) rfl ?_
    have h600 := H.2.1
    have hpn : skw t n i ≤ n := skw_le hi
    refine w_aln l_179_0 rfl ?_
    refine w_asn l_179_1 rfl ?_
    refine p_iv [vs (2 * q + 4)] [] l_179_2 rfl rfl (Nat.le_of_ble_eq_true rfl) (by rw [mx_178]; exact Nat.le_of_ble_eq_true rfl) (by rw [mt_178]; exact oModel_sh hm) (by rw [mt_178]; decide) (by rw [rk_178]; decide) (by have g9 := s_178 (xs := xs) (cc := cc) (zz := zz) hm H h22 hi h24 hq53; rw [hw] at g9; exact g9) (fun v I1 hv => ?_)
    obtain ⟨rfl, g22, f1⟩ := hv
    refine w_isn l_179_5 ⟨Nat.le_of_ble_eq_true rfl, rfl⟩ ?_
    refine w_aln l_179_6 rfl ?_
    refine w_dup l_179_7 rfl ?_
    refine w_gi (((skw t n i) : Nat) : Int) l_179_8 (oModel_sh hm) g22 ?_
    refine w_iln l_179_11 rfl ?_
    refine w_zeq 22 l_179_12 (by decide) (fun hx => absurd hx (by decide)) (fun _ => ?_)
    refine w_asn l_179_15 rfl ?_
    refine q_ivs [] [vi (((skw t n i) : Nat) : Int), vr s] l_179_16 rfl rfl (Nat.le_of_ble_eq_true rfl) (by rw [mx_299]; exact Nat.le_of_ble_eq_true rfl) (by first | decide | exact hq53) mt_299 (by rw [rk_299]; decide) (s_299 hq53) ?_
    refine w_go 23 l_179_19 (by decide) ?_
    refine w_add (((tEnd t n (skw t n i)) : Nat) : Int) l_179_23 (by unfold wr; omega) ?_
    refine w_pi l_179_24 (oModel_sh hm) ?_
    refine w_iln l_179_27 rfl ?_
    refine w_ir l_179_28 (by decide) ?_
    exact ⟨_, _, rfl, rfl, rfl, up_eq.trans (by rw [if_pos rfl]), f1.up⟩
  | false =>
    refine CL_start (r := 5) (ls := [vr s, vs (2 * q + 4), vs 2]) (rk_179 _) rfl ?_
    have h600 := H.2.1
    have hpn : skw t n i ≤ n := skw_le hi
    refine w_aln l_179_0 rfl ?_
    refine w_asn l_179_1 rfl ?_
    refine p_iv [vs (2 * q + 4)] [] l_179_2 rfl rfl (Nat.le_of_ble_eq_true rfl) (by rw [mx_178]; exact Nat.le_of_ble_eq_true rfl) (by rw [mt_178]; exact oModel_sh hm) (by rw [mt_178]; decide) (by rw [rk_178]; decide) (by have g9 := s_178 (xs := xs) (cc := cc) (zz := zz) hm H h22 hi h24 hq53; rw [hw] at g9; exact g9) (fun v I1 hv => ?_)
    obtain ⟨rfl, g22, f1⟩ := hv
    refine w_isn l_179_5 ⟨Nat.le_of_ble_eq_true rfl, rfl⟩ ?_
    refine w_aln l_179_6 rfl ?_
    refine w_dup l_179_7 rfl ?_
    refine w_gi (((skw t n i) : Nat) : Int) l_179_8 (oModel_sh hm) g22 ?_
    refine w_iln l_179_11 rfl ?_
    refine w_zeq 22 l_179_12 (by decide) (fun _ => ?_) (fun hx => absurd hx (by decide))
    refine w_ic l_179_22 (by decide) ?_
    refine w_add (((skw t n i) : Nat) : Int) l_179_23 (by unfold wr; omega) ?_
    refine w_pi l_179_24 (oModel_sh hm) ?_
    refine w_iln l_179_27 rfl ?_
    refine w_ir l_179_28 (by decide) ?_
    exact ⟨_, _, rfl, rfl, rfl, up_eq.trans (by rw [if_neg (by decide)]), f1.up⟩

end RFS
