/-! the reference: what its drops are asked -/
def isByR (c x : Int) : Dr → Bool := fun d => decide ((d.2.2.2.1 : Int) = c) && (decide (x = -1) || decide (d.2.2.2.2 = x))
def isKT (k t : Nat) : Dr → Bool := fun d => decide (d.2.1 = k) && decide ((d.2.2.1 + 1).toNat = t)
def isPP (k : Int) (P : Int) : Dr → Bool := fun d => decide ((d.2.1 : Int) = k) && decide (d.2.2.1 = P)
def notIn (W : Nat → Nat → Bool) : Dr → Bool := fun d => !W d.2.1 (d.2.2.1 + 1).toNat
section RQ
variable {xs : List Int} {S : List (Nat × Nat)} {T : Nat → Nat → Nat} {cc zz s : Nat} {g : Lo} {I I' : Ix}

theorem mx_204 : mxl 204 = 4 := by decide +kernel
theorem mt_204 : mtc 204 = 10 := by decide +kernel
theorem rk_204 (as : List AV) : rkA 204 as = 0 := rfl
theorem l_204_0 : look 204 0 = some (.aload_n 0, 1, 0, 0, 0, 0) := by decide +kernel
theorem l_204_1 : look 204 1 = some (.iload_n 1, 1, 0, 0, 0, 0) := by decide +kernel
theorem l_204_2 : look 204 2 = some (.iload_n 2, 1, 0, 0, 0, 0) := by decide +kernel
theorem l_204_3 : look 204 3 = some (.imul, 1, 0, 0, 0, 0) := by decide +kernel
theorem l_204_4 : look 204 4 = some (.iload_n 3, 1, 0, 0, 0, 0) := by decide +kernel
theorem l_204_5 : look 204 5 = some (.iadd, 1, 0, 0, 0, 0) := by decide +kernel
theorem l_204_6 : look 204 6 = some (.iaload, 1, 0, 0, 0, 0) := by decide +kernel
theorem l_204_7 : look 204 7 = some (.ireturn, 1, 0, 0, 0, 0) := by decide +kernel

theorem s_204 (hm : oModel S T s) {k j : Nat} (hk : 5 * k + j < 2000) : CL xs 204 [vr (s + 36), vi 5, vi ((k : Nat) : Int), vi ((j : Nat) : Int)] (S, I, T, cc, zz) (FN (some (vi (I (s + 36) (5 * k + j)))) (S, I, T, cc, zz)) := by
  refine CL_start (r := 0) (ls := [vr (s + 36), vi 5, vi ((k : Nat) : Int), vi ((j : Nat) : Int)]) (rk_204 _) rfl ?_
  refine w_aln l_204_0 rfl ?_
  refine w_iln l_204_1 rfl ?_
  refine w_iln l_204_2 rfl ?_
  refine w_mul ((5 * k : Nat) : Int) l_204_3 (by unfold wr; omega) ?_
  refine w_iln l_204_4 rfl ?_
  refine w_add ((5 * k + j : Nat) : Int) l_204_5 (by unfold wr; omega) ?_
  refine w_ia (5 * k + j) (I (s + 36) (5 * k + j)) l_204_6 (oModel_s65 hm) rfl (by omega) rfl ?_
  refine w_ir l_204_7 (Or.inl rfl) ?_
  exact ⟨rfl, rfl⟩

theorem r_part0 (hm : oModel S T s) (hL : nL I s g) {k : Nat} (hk : k < g.1.length) : CL xs 204 [vr (s + 36), vi 5, vi ((k : Nat) : Int), vi 0] (S, I, T, cc, zz) (FN (some (vi ((g.1.getD k dr0).1 : Int))) (S, I, T, cc, zz)) := by
  have h9 := s_204 (xs := xs) (T := T) (cc := cc) (zz := zz) (I := I) hm (k := k) (j := 0) (by have := hL.1.2; omega)
  rw [show 5 * k + 0 = 5 * k from rfl, (hL.2.1 k hk).1] at h9
  exact h9

theorem r_part1 (hm : oModel S T s) (hL : nL I s g) {k : Nat} (hk : k < g.1.length) : CL xs 204 [vr (s + 36), vi 5, vi ((k : Nat) : Int), vi 1] (S, I, T, cc, zz) (FN (some (vi ((g.1.getD k dr0).2.1 : Int))) (S, I, T, cc, zz)) := by
  have h9 := s_204 (xs := xs) (T := T) (cc := cc) (zz := zz) (I := I) hm (k := k) (j := 1) (by have := hL.1.2; omega)
  rw [(hL.2.1 k hk).2.1] at h9
  exact h9

theorem r_part2 (hm : oModel S T s) (hL : nL I s g) {k : Nat} (hk : k < g.1.length) : CL xs 204 [vr (s + 36), vi 5, vi ((k : Nat) : Int), vi 2] (S, I, T, cc, zz) (FN (some (vi (g.1.getD k dr0).2.2.1)) (S, I, T, cc, zz)) := by
  have h9 := s_204 (xs := xs) (T := T) (cc := cc) (zz := zz) (I := I) hm (k := k) (j := 2) (by have := hL.1.2; omega)
  rw [(hL.2.1 k hk).2.2.1] at h9
  exact h9

theorem r_part3 (hm : oModel S T s) (hL : nL I s g) {k : Nat} (hk : k < g.1.length) : CL xs 204 [vr (s + 36), vi 5, vi ((k : Nat) : Int), vi 3] (S, I, T, cc, zz) (FN (some (vi ((g.1.getD k dr0).2.2.2.1 : Int))) (S, I, T, cc, zz)) := by
  have h9 := s_204 (xs := xs) (T := T) (cc := cc) (zz := zz) (I := I) hm (k := k) (j := 3) (by have := hL.1.2; omega)
  rw [(hL.2.1 k hk).2.2.2.1] at h9
  exact h9

theorem r_part4 (hm : oModel S T s) (hL : nL I s g) {k : Nat} (hk : k < g.1.length) : CL xs 204 [vr (s + 36), vi 5, vi ((k : Nat) : Int), vi 4] (S, I, T, cc, zz) (FN (some (vi (g.1.getD k dr0).2.2.2.2)) (S, I, T, cc, zz)) := by
  have h9 := s_204 (xs := xs) (T := T) (cc := cc) (zz := zz) (I := I) hm (k := k) (j := 4) (by have := hL.1.2; omega)
  rw [(hL.2.1 k hk).2.2.2.2] at h9
  exact h9

theorem mx_255 : mxl 255 = 6 := by decide +kernel
theorem mt_255 : mtc 255 = 10 := by decide +kernel
theorem rk_255 (as : List AV) : rkA 255 as = 1 := rfl
theorem l_255_0 : look 255 0 = some (.iconst 0, 1, 0, 0, 0, 0) := by decide +kernel
theorem l_255_1 : look 255 1 = some (.istore_n 3, 1, 0, 0, 0, 0) := by decide +kernel
theorem l_255_2 : look 255 2 = some (.iconst 0, 1, 0, 0, 0, 0) := by decide +kernel
theorem l_255_3 : look 255 3 = some (.istore 4, 2, 0, 0, 0, 0) := by decide +kernel
theorem l_255_5 : look 255 5 = some (.iload 4, 2, 0, 0, 0, 0) := by decide +kernel
theorem l_255_7 : look 255 7 = some (.aload_n 0, 1, 0, 0, 0, 0) := by decide +kernel
theorem l_255_8 : look 255 8 = some (.getfield 369, 3, 10, 66, 0, 1567) := by decide +kernel
theorem l_255_11 : look 255 11 = some (.if_icmp .ge 64, 3, 0, 0, 0, 0) := by decide +kernel
theorem l_255_14 : look 255 14 = some (.aload_n 0, 1, 0, 0, 0, 0) := by decide +kernel
theorem l_255_15 : look 255 15 = some (.getfield 140, 3, 10, 65, 2, 1566) := by decide +kernel
theorem l_255_18 : look 255 18 = some (.iconst 5, 1, 0, 0, 0, 0) := by decide +kernel
theorem l_255_19 : look 255 19 = some (.iload 4, 2, 0, 0, 0, 0) := by decide +kernel
theorem l_255_21 : look 255 21 = some (.iconst 3, 1, 0, 0, 0, 0) := by decide +kernel
theorem l_255_22 : look 255 22 = some (.invokestatic 468, 3, 204, 4, 1, 2080) := by decide +kernel
theorem l_255_25 : look 255 25 = some (.iload_n 1, 1, 0, 0, 0, 0) := by decide +kernel
theorem l_255_26 : look 255 26 = some (.if_icmp .ne 27, 3, 0, 0, 0, 0) := by decide +kernel
theorem l_255_29 : look 255 29 = some (.iload_n 2, 1, 0, 0, 0, 0) := by decide +kernel
theorem l_255_30 : look 255 30 = some (.iconst (-1), 1, 0, 0, 0, 0) := by decide +kernel
theorem l_255_31 : look 255 31 = some (.if_icmp .eq 18, 3, 0, 0, 0, 0) := by decide +kernel
theorem l_255_34 : look 255 34 = some (.aload_n 0, 1, 0, 0, 0, 0) := by decide +kernel
theorem l_255_35 : look 255 35 = some (.getfield 140, 3, 10, 65, 2, 1566) := by decide +kernel
theorem l_255_38 : look 255 38 = some (.iconst 5, 1, 0, 0, 0, 0) := by decide +kernel
theorem l_255_39 : look 255 39 = some (.iload 4, 2, 0, 0, 0, 0) := by decide +kernel
theorem l_255_41 : look 255 41 = some (.iconst 4, 1, 0, 0, 0, 0) := by decide +kernel
theorem l_255_42 : look 255 42 = some (.invokestatic 468, 3, 204, 4, 1, 2080) := by decide +kernel
theorem l_255_45 : look 255 45 = some (.iload_n 2, 1, 0, 0, 0, 0) := by decide +kernel
theorem l_255_46 : look 255 46 = some (.if_icmp .ne 7, 3, 0, 0, 0, 0) := by decide +kernel
theorem l_255_49 : look 255 49 = some (.iconst 1, 1, 0, 0, 0, 0) := by decide +kernel
theorem l_255_50 : look 255 50 = some (.goto 4, 3, 0, 0, 0, 0) := by decide +kernel
theorem l_255_53 : look 255 53 = some (.iconst 0, 1, 0, 0, 0, 0) := by decide +kernel
theorem l_255_54 : look 255 54 = some (.istore 5, 2, 0, 0, 0, 0) := by decide +kernel
theorem l_255_56 : look 255 56 = some (.iload_n 3, 1, 0, 0, 0, 0) := by decide +kernel
theorem l_255_57 : look 255 57 = some (.iload 5, 2, 0, 0, 0, 0) := by decide +kernel
theorem l_255_59 : look 255 59 = some (.ifCond .eq 7, 3, 0, 0, 0, 0) := by decide +kernel
theorem l_255_62 : look 255 62 = some (.iconst 1, 1, 0, 0, 0, 0) := by decide +kernel
theorem l_255_63 : look 255 63 = some (.goto 4, 3, 0, 0, 0, 0) := by decide +kernel
theorem l_255_66 : look 255 66 = some (.iconst 0, 1, 0, 0, 0, 0) := by decide +kernel
theorem l_255_67 : look 255 67 = some (.iadd, 1, 0, 0, 0, 0) := by decide +kernel
theorem l_255_68 : look 255 68 = some (.istore_n 3, 1, 0, 0, 0, 0) := by decide +kernel
theorem l_255_69 : look 255 69 = some (.iinc 4 1, 3, 0, 0, 0, 0) := by decide +kernel
theorem l_255_72 : look 255 72 = some (.goto (-67), 3, 0, 0, 0, 0) := by decide +kernel
theorem l_255_75 : look 255 75 = some (.iload_n 3, 1, 0, 0, 0, 0) := by decide +kernel
theorem l_255_76 : look 255 76 = some (.ireturn, 1, 0, 0, 0, 0) := by decide +kernel

theorem lp_255 (hm : oModel S T s) (hL : nL I s g) {c x : Int} : ∀ d k (v5 : AV), k + d = g.1.length → WP xs 255 1 5 [vr s, vi c, vi x, vi (((cntK (isByR c x) g.1 k) : Nat) : Int), vi ((k : Nat) : Int), v5] [] (S, I, T, cc, zz) (FN (some (vi ((cntK (isByR c x) g.1 g.1.length : Nat) : Int))) (S, I, T, cc, zz)) := by
  intro d
  have h360 := hL.1.2
  induction d with
  | zero =>
    intro k v5 hk0
    refine w_il l_255_5 rfl ?_
    refine w_aln l_255_7 rfl ?_
    refine w_gi ((g.1.length : Nat) : Int) l_255_8 (oModel_sh hm) hL.1.1 ?_
    refine w_cge 75 l_255_11 (by decide) (fun _ => ?_) (fun hx => absurd hx (by omega))
    refine w_iln l_255_75 rfl ?_
    refine w_ir l_255_76 (Or.inl rfl) ?_
    have e9 : k = g.1.length := by omega
    rw [e9]
    exact ⟨rfl, rfl⟩
  | succ d ih =>
    intro k v5 hk0
    have hk : k < g.1.length := by omega
    have hcl := cntK_le (f := (isByR c x)) (g := g.1) k
    refine w_il l_255_5 rfl ?_
    refine w_aln l_255_7 rfl ?_
    refine w_gi ((g.1.length : Nat) : Int) l_255_8 (oModel_sh hm) hL.1.1 ?_
    refine w_cge 75 l_255_11 (by decide) (fun hx => absurd hx (by omega)) (fun _ => ?_)
    refine w_aln l_255_14 rfl ?_
    refine w_gr l_255_15 (oModel_sh hm) (oModel_r65 hm) ?_
    refine w_ic l_255_18 (by decide) ?_
    refine w_il l_255_19 rfl ?_
    refine w_ic l_255_21 (by decide) ?_
    refine q_st [vr (s + 36), vi 5, vi ((k : Nat) : Int), vi 3] [] l_255_22 (by decide) rfl rfl (Nat.le_of_ble_eq_true rfl) (by rw [mx_204]; exact Nat.le_of_ble_eq_true rfl) (by rw [rk_204]; decide) (r_part3 hm hL hk) ?_
    refine w_iln l_255_25 rfl ?_
    refine w_cne 53 l_255_26 (by decide) (fun h1 => ?_) (fun h1 => ?_)
    · skip
      refine w_ic l_255_53 (by decide) ?_
      refine w_is l_255_54 ⟨Nat.le_of_ble_eq_true rfl, rfl⟩ ?_
      refine w_iln l_255_56 rfl ?_
      refine w_il l_255_57 rfl ?_
      refine w_zeq 66 l_255_59 (by decide) (fun _ => ?_) (fun hx => absurd hx (by decide))
      refine w_ic l_255_66 (by decide) ?_
      refine w_add (((cntK (isByR c x) g.1 k) + 0 : Nat) : Int) l_255_67 (by unfold wr; omega) ?_
      refine w_isn l_255_68 ⟨Nat.le_of_ble_eq_true rfl, rfl⟩ ?_
      refine w_inc ((k + 1 : Nat) : Int) l_255_69 rfl rfl (by unfold wr; omega) ?_
      refine w_go 5 l_255_72 (by decide) ?_
      have hf : (isByR c x) (g.1.getD k dr0) = false := by
        unfold isByR
        first
          | (rw [decide_eq_false (by omega)]; rfl)
          | (rw [decide_eq_true (by omega), decide_eq_true (by omega)]; rfl)
          | (rw [decide_eq_true (by omega), decide_eq_false (by omega), decide_eq_true (by omega)]; rfl)
          | (rw [decide_eq_true (by omega), decide_eq_false (by omega), decide_eq_false (by omega)]; rfl)
      have e9 := ih (k + 1) (vi 0) (by omega)
      rw [cntK_f hf] at e9
      exact e9
    · skip
      refine w_iln l_255_29 rfl ?_
      refine w_ic l_255_30 (by decide) ?_
      refine w_ceq 49 l_255_31 (by decide) (fun h2 => ?_) (fun h2 => ?_)
      · skip
        refine w_ic l_255_49 (by decide) ?_
        refine w_go 54 l_255_50 (by decide) ?_
        refine w_is l_255_54 ⟨Nat.le_of_ble_eq_true rfl, rfl⟩ ?_
        refine w_iln l_255_56 rfl ?_
        refine w_il l_255_57 rfl ?_
        refine w_zeq 66 l_255_59 (by decide) (fun hx => absurd hx (by decide)) (fun _ => ?_)
        refine w_ic l_255_62 (by decide) ?_
        refine w_go 67 l_255_63 (by decide) ?_
        refine w_add (((cntK (isByR c x) g.1 k) + 1 : Nat) : Int) l_255_67 (by unfold wr; omega) ?_
        refine w_isn l_255_68 ⟨Nat.le_of_ble_eq_true rfl, rfl⟩ ?_
        refine w_inc ((k + 1 : Nat) : Int) l_255_69 rfl rfl (by unfold wr; omega) ?_
        refine w_go 5 l_255_72 (by decide) ?_
        have hf : (isByR c x) (g.1.getD k dr0) = true := by
          unfold isByR
          first
            | (rw [decide_eq_false (by omega)]; rfl)
            | (rw [decide_eq_true (by omega), decide_eq_true (by omega)]; rfl)
            | (rw [decide_eq_true (by omega), decide_eq_false (by omega), decide_eq_true (by omega)]; rfl)
            | (rw [decide_eq_true (by omega), decide_eq_false (by omega), decide_eq_false (by omega)]; rfl)
        have e9 := ih (k + 1) (vi 1) (by omega)
        rw [cntK_t hf] at e9
        exact e9
      · skip
        refine w_aln l_255_34 rfl ?_
        refine w_gr l_255_35 (oModel_sh hm) (oModel_r65 hm) ?_
        refine w_ic l_255_38 (by decide) ?_
        refine w_il l_255_39 rfl ?_
        refine w_ic l_255_41 (by decide) ?_
        refine q_st [vr (s + 36), vi 5, vi ((k : Nat) : Int), vi 4] [] l_255_42 (by decide) rfl rfl (Nat.le_of_ble_eq_true rfl) (by rw [mx_204]; exact Nat.le_of_ble_eq_true rfl) (by rw [rk_204]; decide) (r_part4 hm hL hk) ?_
        refine w_iln l_255_45 rfl ?_
        refine w_cne 53 l_255_46 (by decide) (fun h3 => ?_) (fun h3 => ?_)
        · skip
          refine w_ic l_255_53 (by decide) ?_
          refine w_is l_255_54 ⟨Nat.le_of_ble_eq_true rfl, rfl⟩ ?_
          refine w_iln l_255_56 rfl ?_
          refine w_il l_255_57 rfl ?_
          refine w_zeq 66 l_255_59 (by decide) (fun _ => ?_) (fun hx => absurd hx (by decide))
          refine w_ic l_255_66 (by decide) ?_
          refine w_add (((cntK (isByR c x) g.1 k) + 0 : Nat) : Int) l_255_67 (by unfold wr; omega) ?_
          refine w_isn l_255_68 ⟨Nat.le_of_ble_eq_true rfl, rfl⟩ ?_
          refine w_inc ((k + 1 : Nat) : Int) l_255_69 rfl rfl (by unfold wr; omega) ?_
          refine w_go 5 l_255_72 (by decide) ?_
          have hf : (isByR c x) (g.1.getD k dr0) = false := by
            unfold isByR
            first
              | (rw [decide_eq_false (by omega)]; rfl)
              | (rw [decide_eq_true (by omega), decide_eq_true (by omega)]; rfl)
              | (rw [decide_eq_true (by omega), decide_eq_false (by omega), decide_eq_true (by omega)]; rfl)
              | (rw [decide_eq_true (by omega), decide_eq_false (by omega), decide_eq_false (by omega)]; rfl)
          have e9 := ih (k + 1) (vi 0) (by omega)
          rw [cntK_f hf] at e9
          exact e9
        · skip
          refine w_ic l_255_49 (by decide) ?_
          refine w_go 54 l_255_50 (by decide) ?_
          refine w_is l_255_54 ⟨Nat.le_of_ble_eq_true rfl, rfl⟩ ?_
          refine w_iln l_255_56 rfl ?_
          refine w_il l_255_57 rfl ?_
          refine w_zeq 66 l_255_59 (by decide) (fun hx => absurd hx (by decide)) (fun _ => ?_)
          refine w_ic l_255_62 (by decide) ?_
          refine w_go 67 l_255_63 (by decide) ?_
          refine w_add (((cntK (isByR c x) g.1 k) + 1 : Nat) : Int) l_255_67 (by unfold wr; omega) ?_
          refine w_isn l_255_68 ⟨Nat.le_of_ble_eq_true rfl, rfl⟩ ?_
          refine w_inc ((k + 1 : Nat) : Int) l_255_69 rfl rfl (by unfold wr; omega) ?_
          refine w_go 5 l_255_72 (by decide) ?_
          have hf : (isByR c x) (g.1.getD k dr0) = true := by
            unfold isByR
            first
              | (rw [decide_eq_false (by omega)]; rfl)
              | (rw [decide_eq_true (by omega), decide_eq_true (by omega)]; rfl)
              | (rw [decide_eq_true (by omega), decide_eq_false (by omega), decide_eq_true (by omega)]; rfl)
              | (rw [decide_eq_true (by omega), decide_eq_false (by omega), decide_eq_false (by omega)]; rfl)
          have e9 := ih (k + 1) (vi 1) (by omega)
          rw [cntK_t hf] at e9
          exact e9
theorem s_255 (hm : oModel S T s) (hL : nL I s g) {c x : Int} : CL xs 255 [vr s, vi c, vi x] (S, I, T, cc, zz) (FN (some (vi ((cntK (isByR c x) g.1 g.1.length : Nat) : Int))) (S, I, T, cc, zz)) := by
  refine CL_start (r := 1) (ls := [vr s, vi c, vi x, vs 2, vs 2, vs 2]) (rk_255 _) rfl ?_
  refine w_ic l_255_0 (by decide) ?_
  refine w_isn l_255_1 ⟨Nat.le_of_ble_eq_true rfl, rfl⟩ ?_
  refine w_ic l_255_2 (by decide) ?_
  refine w_is l_255_3 ⟨Nat.le_of_ble_eq_true rfl, rfl⟩ ?_
  exact lp_255 hm hL _ 0 _ (Nat.zero_add _)

theorem mx_277 : mxl 277 = 2 := by decide +kernel
theorem mt_277 : mtc 277 = 10 := by decide +kernel
theorem rk_277 (as : List AV) : rkA 277 as = 0 := rfl
theorem l_277_0 : look 277 0 = some (.iconst 5, 1, 0, 0, 0, 0) := by decide +kernel
theorem l_277_1 : look 277 1 = some (.iload_n 0, 1, 0, 0, 0, 0) := by decide +kernel
theorem l_277_2 : look 277 2 = some (.imul, 1, 0, 0, 0, 0) := by decide +kernel
theorem l_277_3 : look 277 3 = some (.iload_n 1, 1, 0, 0, 0, 0) := by decide +kernel
theorem l_277_4 : look 277 4 = some (.iadd, 1, 0, 0, 0, 0) := by decide +kernel
theorem l_277_5 : look 277 5 = some (.iconst 1, 1, 0, 0, 0, 0) := by decide +kernel
theorem l_277_6 : look 277 6 = some (.iadd, 1, 0, 0, 0, 0) := by decide +kernel
theorem l_277_7 : look 277 7 = some (.ireturn, 1, 0, 0, 0, 0) := by decide +kernel


theorem s_277 {k : Nat} {P : Int} (hP : -1 ≤ P ∧ P ≤ 3) (hk : k < 120) : CL xs 277 [vi ((k : Nat) : Int), vi P] (S, I, T, cc, zz) (FN (some (vi ((5 * k + (P + 1).toNat : Nat) : Int))) (S, I, T, cc, zz)) := by
  refine CL_start (r := 0) (ls := [vi ((k : Nat) : Int), vi P]) (rk_277 _) rfl ?_
  refine w_ic l_277_0 (by decide) ?_
  refine w_iln l_277_1 rfl ?_
  refine w_mul ((5 * k : Nat) : Int) l_277_2 (by unfold wr; omega) ?_
  refine w_iln l_277_3 rfl ?_
  refine w_add (((5 * k : Nat) : Int) + P) l_277_4 (by unfold wr; omega) ?_
  refine w_ic l_277_5 (by decide) ?_
  refine w_add ((((5 * k : Nat) : Int) + P) + 1) l_277_6 (by unfold wr; omega) ?_
  refine w_ir l_277_7 (Or.inl rfl) ?_
  refine ⟨?_, rfl⟩
  rw [show ((((5 * k : Nat) : Int) + P) + 1) = ((5 * k + (P + 1).toNat : Nat) : Int) by omega]

theorem mx_278 : mxl 278 = 2 := by decide +kernel
theorem mt_278 : mtc 278 = 10 := by decide +kernel
theorem rk_278 (as : List AV) : rkA 278 as = 1 := rfl
theorem l_278_0 : look 278 0 = some (.iconst 0, 1, 0, 0, 0, 0) := by decide +kernel
theorem l_278_1 : look 278 1 = some (.istore_n 1, 1, 0, 0, 0, 0) := by decide +kernel
theorem l_278_2 : look 278 2 = some (.iload_n 1, 1, 0, 0, 0, 0) := by decide +kernel
theorem l_278_3 : look 278 3 = some (.sipush 600, 3, 0, 0, 0, 0) := by decide +kernel
theorem l_278_6 : look 278 6 = some (.if_icmp .ge 16, 3, 0, 0, 0, 0) := by decide +kernel
theorem l_278_9 : look 278 9 = some (.aload_n 0, 1, 0, 0, 0, 0) := by decide +kernel
theorem l_278_10 : look 278 10 = some (.getfield 146, 3, 10, 71, 2, 1572) := by decide +kernel
theorem l_278_13 : look 278 13 = some (.iload_n 1, 1, 0, 0, 0, 0) := by decide +kernel
theorem l_278_14 : look 278 14 = some (.iconst 0, 1, 0, 0, 0, 0) := by decide +kernel
theorem l_278_15 : look 278 15 = some (.bastore, 1, 0, 0, 0, 0) := by decide +kernel
theorem l_278_16 : look 278 16 = some (.iinc 1 1, 3, 0, 0, 0, 0) := by decide +kernel
theorem l_278_19 : look 278 19 = some (.goto (-17), 3, 0, 0, 0, 0) := by decide +kernel
theorem l_278_22 : look 278 22 = some (.iconst 0, 1, 0, 0, 0, 0) := by decide +kernel
theorem l_278_23 : look 278 23 = some (.istore_n 1, 1, 0, 0, 0, 0) := by decide +kernel
theorem l_278_24 : look 278 24 = some (.iload_n 1, 1, 0, 0, 0, 0) := by decide +kernel
theorem l_278_25 : look 278 25 = some (.aload_n 0, 1, 0, 0, 0, 0) := by decide +kernel
theorem l_278_26 : look 278 26 = some (.getfield 369, 3, 10, 66, 0, 1567) := by decide +kernel
theorem l_278_29 : look 278 29 = some (.if_icmp .ge 38, 3, 0, 0, 0, 0) := by decide +kernel
theorem l_278_32 : look 278 32 = some (.aload_n 0, 1, 0, 0, 0, 0) := by decide +kernel
theorem l_278_33 : look 278 33 = some (.getfield 146, 3, 10, 71, 2, 1572) := by decide +kernel
theorem l_278_36 : look 278 36 = some (.aload_n 0, 1, 0, 0, 0, 0) := by decide +kernel
theorem l_278_37 : look 278 37 = some (.getfield 140, 3, 10, 65, 2, 1566) := by decide +kernel
theorem l_278_40 : look 278 40 = some (.iconst 5, 1, 0, 0, 0, 0) := by decide +kernel
theorem l_278_41 : look 278 41 = some (.iload_n 1, 1, 0, 0, 0, 0) := by decide +kernel
theorem l_278_42 : look 278 42 = some (.iconst 1, 1, 0, 0, 0, 0) := by decide +kernel
theorem l_278_43 : look 278 43 = some (.invokestatic 468, 3, 204, 4, 1, 2080) := by decide +kernel
theorem l_278_46 : look 278 46 = some (.aload_n 0, 1, 0, 0, 0, 0) := by decide +kernel
theorem l_278_47 : look 278 47 = some (.getfield 140, 3, 10, 65, 2, 1566) := by decide +kernel
theorem l_278_50 : look 278 50 = some (.iconst 5, 1, 0, 0, 0, 0) := by decide +kernel
theorem l_278_51 : look 278 51 = some (.iload_n 1, 1, 0, 0, 0, 0) := by decide +kernel
theorem l_278_52 : look 278 52 = some (.iconst 2, 1, 0, 0, 0, 0) := by decide +kernel
theorem l_278_53 : look 278 53 = some (.invokestatic 468, 3, 204, 4, 1, 2080) := by decide +kernel
theorem l_278_56 : look 278 56 = some (.invokestatic 499, 3, 277, 2, 1, 2189) := by decide +kernel
theorem l_278_59 : look 278 59 = some (.iconst 1, 1, 0, 0, 0, 0) := by decide +kernel
theorem l_278_60 : look 278 60 = some (.bastore, 1, 0, 0, 0, 0) := by decide +kernel
theorem l_278_61 : look 278 61 = some (.iinc 1 1, 3, 0, 0, 0, 0) := by decide +kernel
theorem l_278_64 : look 278 64 = some (.goto (-40), 3, 0, 0, 0, 0) := by decide +kernel
theorem l_278_67 : look 278 67 = some (.return_, 1, 0, 0, 0, 0) := by decide +kernel

theorem nL_38 {I J : Ix} (hL : nL I s g) (f : fr I J (s + 38) (s + 38)) : nL J s g := hL.fr (f s (by omega) 66) fun y h1 h2 z => f y (by omega) z
theorem lp_278 {I0 : Ix} (hm : oModel S T s) (hL0 : nL I0 s g) (hd : okDr g.1) : ∀ d k I, k + d = g.1.length → fr I0 I (s + 38) (s + 38) → (∀ k' t, k' < 120 → t < 5 → I (s + 38) (5 * k' + t) = b2i (decide (cntK (isKT k' t) g.1 k ≠ 0))) → WP xs 278 1 24 [vr s, vi ((k : Nat) : Int)] [] (S, I, T, cc, zz) (RP S T cc zz (fun v I' => v = none ∧ (∀ k t, k < 120 → t < 5 → I' (s + 38) (5 * k + t) = b2i (decide (cntK (isKT k t) g.1 g.1.length ≠ 0))) ∧ fr I0 I' (s + 38) (s + 38))) := by
  intro d
  have h360 := hL0.1.2
  induction d with
  | zero =>
    intro k I hk0 f hW
    have hL := nL_38 hL0 f
    refine w_iln l_278_24 rfl ?_
    refine w_aln l_278_25 rfl ?_
    refine w_gi ((g.1.length : Nat) : Int) l_278_26 (oModel_sh hm) hL.1.1 ?_
    refine w_cge 67 l_278_29 (by decide) (fun _ => ?_) (fun hx => absurd hx (by omega))
    refine w_vr l_278_67 ?_
    have e9 : k = g.1.length := by omega
    rw [e9] at hW
    exact ⟨_, _, rfl, rfl, rfl, hW, f⟩
  | succ d ih =>
    intro k I hk0 f hW
    have hL := nL_38 hL0 f
    have hk : k < g.1.length := by omega
    have hdk := hd k hk
    refine w_iln l_278_24 rfl ?_
    refine w_aln l_278_25 rfl ?_
    refine w_gi ((g.1.length : Nat) : Int) l_278_26 (oModel_sh hm) hL.1.1 ?_
    refine w_cge 67 l_278_29 (by decide) (fun hx => absurd hx (by omega)) (fun _ => ?_)
    refine w_aln l_278_32 rfl ?_
    refine w_gr l_278_33 (oModel_sh hm) (oModel_r71 hm) ?_
    refine w_aln l_278_36 rfl ?_
    refine w_gr l_278_37 (oModel_sh hm) (oModel_r65 hm) ?_
    refine w_ic l_278_40 (by decide) ?_
    refine w_iln l_278_41 rfl ?_
    refine w_ic l_278_42 (by decide) ?_
    refine q_st [vr (s + 36), vi 5, vi ((k : Nat) : Int), vi 1] [vr (s + 38)] l_278_43 (by decide) rfl rfl (Nat.le_of_ble_eq_true rfl) (by rw [mx_204]; exact Nat.le_of_ble_eq_true rfl) (by rw [rk_204]; decide) (r_part1 hm hL hk) ?_
    refine w_aln l_278_46 rfl ?_
    refine w_gr l_278_47 (oModel_sh hm) (oModel_r65 hm) ?_
    refine w_ic l_278_50 (by decide) ?_
    refine w_iln l_278_51 rfl ?_
    refine w_ic l_278_52 (by decide) ?_
    refine q_st [vr (s + 36), vi 5, vi ((k : Nat) : Int), vi 2] [vi (((g.1.getD k dr0).2.1 : Nat) : Int), vr (s + 38)] l_278_53 (by decide) rfl rfl (Nat.le_of_ble_eq_true rfl) (by rw [mx_204]; exact Nat.le_of_ble_eq_true rfl) (by rw [rk_204]; decide) (r_part2 hm hL hk) ?_
    refine q_st [vi (((g.1.getD k dr0).2.1 : Nat) : Int), vi ((g.1.getD k dr0).2.2.1)] [vr (s + 38)] l_278_56 (by decide) rfl rfl (Nat.le_of_ble_eq_true rfl) (by rw [mx_277]; exact Nat.le_of_ble_eq_true rfl) (by rw [rk_277]; decide) (s_277 (xs := xs) (S := S) (T := T) (cc := cc) (zz := zz) (hd k hk).2 (hd k hk).1) ?_
    refine w_ic l_278_59 (by decide) ?_
    refine w_zS (5 * (g.1.getD k dr0).2.1 + ((g.1.getD k dr0).2.2.1 + 1).toNat) 1 l_278_60 (oModel_s71 hm) rfl (by omega) (by decide) ?_
    refine w_inc ((k + 1 : Nat) : Int) l_278_61 rfl rfl (by unfold wr; omega) ?_
    refine w_go 24 l_278_64 (by decide) ?_
    refine ih (k + 1) _ (by omega) (f.up (by omega) (by omega)) (fun k' t hk' ht => ?_)
    by_cases h9 : 5 * k' + t = 5 * (g.1.getD k dr0).2.1 + ((g.1.getD k dr0).2.2.1 + 1).toNat
    · have e1 : k' = (g.1.getD k dr0).2.1 := by omega
      have e2 : ((g.1.getD k dr0).2.2.1 + 1).toNat = t := by omega
      rw [h9, up_eq, cntK_t (show isKT k' t (g.1.getD k dr0) = true by unfold isKT; rw [decide_eq_true e1.symm, decide_eq_true e2]; rfl), decide_eq_true (Nat.succ_ne_zero _)]
      rfl
    · rw [up_nj h9, cntK_f (show isKT k' t (g.1.getD k dr0) = false by
        unfold isKT
        by_cases e1 : (g.1.getD k dr0).2.1 = k'
        · rw [decide_eq_true e1, decide_eq_false (by omega)]; rfl
        · rw [decide_eq_false e1]; rfl)]
      exact hW k' t hk' ht
theorem lp_278a (hm : oModel S T s) (hL : nL I s g) (hd : okDr g.1) : ∀ d k, k + d = 600 → WP xs 278 1 2 [vr s, vi ((k : Nat) : Int)] [] (S, (fl I (s + 38) k 0), T, cc, zz) (RP S T cc zz (fun v I' => v = none ∧ (∀ k t, k < 120 → t < 5 → I' (s + 38) (5 * k + t) = b2i (decide (cntK (isKT k t) g.1 g.1.length ≠ 0))) ∧ fr I I' (s + 38) (s + 38))) := by
  intro d
  induction d with
  | zero =>
    intro k hk0
    refine w_iln l_278_2 rfl ?_
    refine w_sp l_278_3 (by decide) ?_
    refine w_cge 22 l_278_6 (by decide) (fun _ => ?_) (fun hx => absurd hx (by omega))
    refine w_ic l_278_22 (by decide) ?_
    refine w_isn l_278_23 ⟨Nat.le_of_ble_eq_true rfl, rfl⟩ ?_
    have e9 : k = 600 := by omega
    rw [e9]
    exact lp_278 hm hL hd _ 0 _ (Nat.zero_add _) ((fr.rf I (s + 38) (s + 38)).fl (by omega) (by omega)) (fun k' t hk' ht => by
      rw [fl_in (by omega)]; rfl)
  | succ d ih =>
    intro k hk0
    refine w_iln l_278_2 rfl ?_
    refine w_sp l_278_3 (by decide) ?_
    refine w_cge 22 l_278_6 (by decide) (fun hx => absurd hx (by omega)) (fun _ => ?_)
    refine w_aln l_278_9 rfl ?_
    refine w_gr l_278_10 (oModel_sh hm) (oModel_r71 hm) ?_
    refine w_iln l_278_13 rfl ?_
    refine w_ic l_278_14 (by decide) ?_
    refine w_zS k 0 l_278_15 (oModel_s71 hm) rfl (by omega) (by decide) ?_
    refine w_inc ((k + 1 : Nat) : Int) l_278_16 rfl rfl (by unfold wr; omega) ?_
    refine w_go 2 l_278_19 (by decide) ?_
    rw [fl_s]
    exact ih (k + 1) (by omega)
theorem s_278 (hm : oModel S T s) (hL : nL I s g) (hd : okDr g.1) : CL xs 278 [vr s] (S, I, T, cc, zz) (RP S T cc zz (fun v I' => v = none ∧ (∀ k t, k < 120 → t < 5 → I' (s + 38) (5 * k + t) = b2i (decide (cntK (isKT k t) g.1 g.1.length ≠ 0))) ∧ fr I I' (s + 38) (s + 38))) := by
  refine CL_start (r := 1) (ls := [vr s, vs 2]) (rk_278 _) rfl ?_
  refine w_ic l_278_0 (by decide) ?_
  refine w_isn l_278_1 ⟨Nat.le_of_ble_eq_true rfl, rfl⟩ ?_
  have e9 := lp_278a (xs := xs) (T := T) (cc := cc) (zz := zz) hm hL hd 600 0 rfl
  rw [fl_0] at e9
  exact e9

theorem mx_279 : mxl 279 = 3 := by decide +kernel
theorem mt_279 : mtc 279 = 10 := by decide +kernel
theorem rk_279 (as : List AV) : rkA 279 as = 1 := rfl
theorem l_279_0 : look 279 0 = some (.iconst 0, 1, 0, 0, 0, 0) := by decide +kernel
theorem l_279_1 : look 279 1 = some (.istore_n 1, 1, 0, 0, 0, 0) := by decide +kernel
theorem l_279_2 : look 279 2 = some (.iconst 0, 1, 0, 0, 0, 0) := by decide +kernel
theorem l_279_3 : look 279 3 = some (.istore_n 2, 1, 0, 0, 0, 0) := by decide +kernel
theorem l_279_4 : look 279 4 = some (.iload_n 2, 1, 0, 0, 0, 0) := by decide +kernel
theorem l_279_5 : look 279 5 = some (.aload_n 0, 1, 0, 0, 0, 0) := by decide +kernel
theorem l_279_6 : look 279 6 = some (.getfield 369, 3, 10, 66, 0, 1567) := by decide +kernel
theorem l_279_9 : look 279 9 = some (.if_icmp .ge 48, 3, 0, 0, 0, 0) := by decide +kernel
theorem l_279_12 : look 279 12 = some (.iload_n 1, 1, 0, 0, 0, 0) := by decide +kernel
theorem l_279_13 : look 279 13 = some (.aload_n 0, 1, 0, 0, 0, 0) := by decide +kernel
theorem l_279_14 : look 279 14 = some (.getfield 146, 3, 10, 71, 2, 1572) := by decide +kernel
theorem l_279_17 : look 279 17 = some (.aload_n 0, 1, 0, 0, 0, 0) := by decide +kernel
theorem l_279_18 : look 279 18 = some (.getfield 140, 3, 10, 65, 2, 1566) := by decide +kernel
theorem l_279_21 : look 279 21 = some (.iconst 5, 1, 0, 0, 0, 0) := by decide +kernel
theorem l_279_22 : look 279 22 = some (.iload_n 2, 1, 0, 0, 0, 0) := by decide +kernel
theorem l_279_23 : look 279 23 = some (.iconst 1, 1, 0, 0, 0, 0) := by decide +kernel
theorem l_279_24 : look 279 24 = some (.invokestatic 468, 3, 204, 4, 1, 2080) := by decide +kernel
theorem l_279_27 : look 279 27 = some (.aload_n 0, 1, 0, 0, 0, 0) := by decide +kernel
theorem l_279_28 : look 279 28 = some (.getfield 140, 3, 10, 65, 2, 1566) := by decide +kernel
theorem l_279_31 : look 279 31 = some (.iconst 5, 1, 0, 0, 0, 0) := by decide +kernel
theorem l_279_32 : look 279 32 = some (.iload_n 2, 1, 0, 0, 0, 0) := by decide +kernel
theorem l_279_33 : look 279 33 = some (.iconst 2, 1, 0, 0, 0, 0) := by decide +kernel
theorem l_279_34 : look 279 34 = some (.invokestatic 468, 3, 204, 4, 1, 2080) := by decide +kernel
theorem l_279_37 : look 279 37 = some (.invokestatic 499, 3, 277, 2, 1, 2189) := by decide +kernel
theorem l_279_40 : look 279 40 = some (.baload, 1, 0, 0, 0, 0) := by decide +kernel
theorem l_279_41 : look 279 41 = some (.ifCond .eq 7, 3, 0, 0, 0, 0) := by decide +kernel
theorem l_279_44 : look 279 44 = some (.iconst 0, 1, 0, 0, 0, 0) := by decide +kernel
theorem l_279_45 : look 279 45 = some (.goto 4, 3, 0, 0, 0, 0) := by decide +kernel
theorem l_279_48 : look 279 48 = some (.iconst 1, 1, 0, 0, 0, 0) := by decide +kernel
theorem l_279_49 : look 279 49 = some (.iadd, 1, 0, 0, 0, 0) := by decide +kernel
theorem l_279_50 : look 279 50 = some (.istore_n 1, 1, 0, 0, 0, 0) := by decide +kernel
theorem l_279_51 : look 279 51 = some (.iinc 2 1, 3, 0, 0, 0, 0) := by decide +kernel
theorem l_279_54 : look 279 54 = some (.goto (-50), 3, 0, 0, 0, 0) := by decide +kernel
theorem l_279_57 : look 279 57 = some (.iload_n 1, 1, 0, 0, 0, 0) := by decide +kernel
theorem l_279_58 : look 279 58 = some (.ireturn, 1, 0, 0, 0, 0) := by decide +kernel

theorem lp_279 (hm : oModel S T s) (hL : nL I s g) (hd : okDr g.1) {W : Nat → Nat → Bool} (hW : ∀ k t, k < 120 → t < 5 → I (s + 38) (5 * k + t) = b2i (W k t)) : ∀ d k, k + d = g.1.length → WP xs 279 1 4 [vr s, vi (((cntK (notIn W) g.1 k) : Nat) : Int), vi ((k : Nat) : Int)] [] (S, I, T, cc, zz) (FN (some (vi ((cntK (notIn W) g.1 g.1.length : Nat) : Int))) (S, I, T, cc, zz)) := by
  intro d
  have h360 := hL.1.2
  induction d with
  | zero =>
    intro k hk0
    refine w_iln l_279_4 rfl ?_
    refine w_aln l_279_5 rfl ?_
    refine w_gi ((g.1.length : Nat) : Int) l_279_6 (oModel_sh hm) hL.1.1 ?_
    refine w_cge 57 l_279_9 (by decide) (fun _ => ?_) (fun hx => absurd hx (by omega))
    refine w_iln l_279_57 rfl ?_
    refine w_ir l_279_58 (Or.inl rfl) ?_
    have e9 : k = g.1.length := by omega
    rw [e9]
    exact ⟨rfl, rfl⟩
  | succ d ih =>
    intro k hk0
    have hk : k < g.1.length := by omega
    have hdk := hd k hk
    have hcl := cntK_le (f := (notIn W)) (g := g.1) k
    refine w_iln l_279_4 rfl ?_
    refine w_aln l_279_5 rfl ?_
    refine w_gi ((g.1.length : Nat) : Int) l_279_6 (oModel_sh hm) hL.1.1 ?_
    refine w_cge 57 l_279_9 (by decide) (fun hx => absurd hx (by omega)) (fun _ => ?_)
    refine w_iln l_279_12 rfl ?_
    refine w_aln l_279_13 rfl ?_
    refine w_gr l_279_14 (oModel_sh hm) (oModel_r71 hm) ?_
    refine w_aln l_279_17 rfl ?_
    refine w_gr l_279_18 (oModel_sh hm) (oModel_r65 hm) ?_
    refine w_ic l_279_21 (by decide) ?_
    refine w_iln l_279_22 rfl ?_
    refine w_ic l_279_23 (by decide) ?_
    refine q_st [vr (s + 36), vi 5, vi ((k : Nat) : Int), vi 1] [vr (s + 38), vi (((cntK (notIn W) g.1 k) : Nat) : Int)] l_279_24 (by decide) rfl rfl (Nat.le_of_ble_eq_true rfl) (by rw [mx_204]; exact Nat.le_of_ble_eq_true rfl) (by rw [rk_204]; decide) (r_part1 hm hL hk) ?_
    refine w_aln l_279_27 rfl ?_
    refine w_gr l_279_28 (oModel_sh hm) (oModel_r65 hm) ?_
    refine w_ic l_279_31 (by decide) ?_
    refine w_iln l_279_32 rfl ?_
    refine w_ic l_279_33 (by decide) ?_
    refine q_st [vr (s + 36), vi 5, vi ((k : Nat) : Int), vi 2] [vi (((g.1.getD k dr0).2.1 : Nat) : Int), vr (s + 38), vi (((cntK (notIn W) g.1 k) : Nat) : Int)] l_279_34 (by decide) rfl rfl (Nat.le_of_ble_eq_true rfl) (by rw [mx_204]; exact Nat.le_of_ble_eq_true rfl) (by rw [rk_204]; decide) (r_part2 hm hL hk) ?_
    refine q_st [vi (((g.1.getD k dr0).2.1 : Nat) : Int), vi ((g.1.getD k dr0).2.2.1)] [vr (s + 38), vi (((cntK (notIn W) g.1 k) : Nat) : Int)] l_279_37 (by decide) rfl rfl (Nat.le_of_ble_eq_true rfl) (by rw [mx_277]; exact Nat.le_of_ble_eq_true rfl) (by rw [rk_277]; decide) (s_277 (xs := xs) (S := S) (T := T) (cc := cc) (zz := zz) (hd k hk).2 (hd k hk).1) ?_
    refine w_ba (5 * (g.1.getD k dr0).2.1 + ((g.1.getD k dr0).2.2.1 + 1).toNat) (b2i (W (g.1.getD k dr0).2.1 ((g.1.getD k dr0).2.2.1 + 1).toNat)) l_279_40 (Or.inr (oModel_s71 hm)) rfl (by omega) (hW _ _ hdk.1 (by omega)) ?_
    refine w_beq 48 l_279_41 (by decide) (fun h1 => ?_) (fun h1 => ?_)
    · skip
      refine w_ic l_279_48 (by decide) ?_
      refine w_add (((cntK (notIn W) g.1 k) + 1 : Nat) : Int) l_279_49 (by unfold wr; omega) ?_
      refine w_isn l_279_50 ⟨Nat.le_of_ble_eq_true rfl, rfl⟩ ?_
      refine w_inc ((k + 1 : Nat) : Int) l_279_51 rfl rfl (by unfold wr; omega) ?_
      refine w_go 4 l_279_54 (by decide) ?_
      have hf : (notIn W) (g.1.getD k dr0) = true := by unfold notIn; rw [h1]; rfl
      have e9 := ih (k + 1) (by omega)
      rw [cntK_t hf] at e9
      exact e9
    · skip
      refine w_ic l_279_44 (by decide) ?_
      refine w_go 49 l_279_45 (by decide) ?_
      refine w_add (((cntK (notIn W) g.1 k) + 0 : Nat) : Int) l_279_49 (by unfold wr; omega) ?_
      refine w_isn l_279_50 ⟨Nat.le_of_ble_eq_true rfl, rfl⟩ ?_
      refine w_inc ((k + 1 : Nat) : Int) l_279_51 rfl rfl (by unfold wr; omega) ?_
      refine w_go 4 l_279_54 (by decide) ?_
      have hf : (notIn W) (g.1.getD k dr0) = false := by unfold notIn; rw [h1]; rfl
      have e9 := ih (k + 1) (by omega)
      rw [cntK_f hf] at e9
      exact e9
theorem s_279 (hm : oModel S T s) (hL : nL I s g) (hd : okDr g.1) {W : Nat → Nat → Bool} (hW : ∀ k t, k < 120 → t < 5 → I (s + 38) (5 * k + t) = b2i (W k t)) : CL xs 279 [vr s] (S, I, T, cc, zz) (FN (some (vi ((cntK (notIn W) g.1 g.1.length : Nat) : Int))) (S, I, T, cc, zz)) := by
  refine CL_start (r := 1) (ls := [vr s, vs 2, vs 2]) (rk_279 _) rfl ?_
  refine w_ic l_279_0 (by decide) ?_
  refine w_isn l_279_1 ⟨Nat.le_of_ble_eq_true rfl, rfl⟩ ?_
  refine w_ic l_279_2 (by decide) ?_
  refine w_isn l_279_3 ⟨Nat.le_of_ble_eq_true rfl, rfl⟩ ?_
  exact lp_279 hm hL hd hW _ 0 (Nat.zero_add _)

end RQ
