/-! the reference: suppositions -/
def oN (o : Option Nat) : Nat := if o.isSome then 1 else 0
theorem oN_n {o : Option Nat} (h : oI o = -1) : oN o = 0 := by
  cases o with
  | none => rfl
  | some v => have : ((v : Nat) : Int) = -1 := h; omega
theorem oN_s {o : Option Nat} (h : oI o ≠ -1) : oN o = 1 := by
  cases o with
  | none => exact absurd rfl h
  | some v => rfl
theorem oN_if (o : Option Nat) : oN o = if oI o = -1 then 0 else 1 := by
  by_cases h : oI o = -1
  · rw [if_pos h, oN_n h]
  · rw [if_neg h, oN_s h]
def sumN (f : Nat → Nat) : Nat → Nat
  | 0 => 0
  | n + 1 => sumN f n + f n
def b2n (b : Bool) : Nat := if b then 1 else 0
theorem sumN_le {f : Nat → Nat} (h : ∀ k, f k ≤ 1) : ∀ n, sumN f n ≤ n
  | 0 => Nat.le_refl _
  | n + 1 => by
    have := sumN_le h n
    have := h n
    show sumN f n + f n ≤ n + 1
    omega
theorem oN_le (o : Option Nat) : oN o ≤ 1 := by unfold oN; split <;> omega
theorem b2n_le (b : Bool) : b2n b ≤ 1 := by unfold b2n; split <;> omega
def setN (su : Su) : Nat := oN su.2.1.1 + oN su.2.1.2.1 + oN su.2.1.2.2 + sumN (fun p => oN (su.1 p)) 4 + sumN (fun r => b2n (su.2.2.1 r)) 8
def outN (su : Su) : Nat := sumN (fun e => b2n (su.2.2.2 e)) 120
def su0 : Su := ((fun _ => none), (none, none, none), (fun _ => false), fun _ => false)
section RG
variable {xs : List Int} {S : List (Nat × Nat)} {T : Nat → Nat → Nat} {cc zz s : Nat} {h : Hi} {l : Li} {r : Ra} {g : Lo} {I I' : Ix}

theorem mx_266 : mxl 266 = 3 := by decide +kernel
theorem mt_266 : mtc 266 = 10 := by decide +kernel
theorem rk_266 (as : List AV) : rkA 266 as = 0 := rfl
theorem l_266_0 : look 266 0 = some (.aload_n 0, 1, 0, 0, 0, 0) := by decide +kernel
theorem l_266_1 : look 266 1 = some (.getfield 95, 3, 10, 44, 0, 1545) := by decide +kernel
theorem l_266_4 : look 266 4 = some (.iconst (-1), 1, 0, 0, 0, 0) := by decide +kernel
theorem l_266_5 : look 266 5 = some (.if_icmp .ne 7, 3, 0, 0, 0, 0) := by decide +kernel
theorem l_266_8 : look 266 8 = some (.iconst 0, 1, 0, 0, 0, 0) := by decide +kernel
theorem l_266_9 : look 266 9 = some (.goto 4, 3, 0, 0, 0, 0) := by decide +kernel
theorem l_266_12 : look 266 12 = some (.iconst 1, 1, 0, 0, 0, 0) := by decide +kernel
theorem l_266_13 : look 266 13 = some (.aload_n 0, 1, 0, 0, 0, 0) := by decide +kernel
theorem l_266_14 : look 266 14 = some (.getfield 98, 3, 10, 45, 0, 1546) := by decide +kernel
theorem l_266_17 : look 266 17 = some (.iconst (-1), 1, 0, 0, 0, 0) := by decide +kernel
theorem l_266_18 : look 266 18 = some (.if_icmp .ne 7, 3, 0, 0, 0, 0) := by decide +kernel
theorem l_266_21 : look 266 21 = some (.iconst 0, 1, 0, 0, 0, 0) := by decide +kernel
theorem l_266_22 : look 266 22 = some (.goto 4, 3, 0, 0, 0, 0) := by decide +kernel
theorem l_266_25 : look 266 25 = some (.iconst 1, 1, 0, 0, 0, 0) := by decide +kernel
theorem l_266_26 : look 266 26 = some (.iadd, 1, 0, 0, 0, 0) := by decide +kernel
theorem l_266_27 : look 266 27 = some (.aload_n 0, 1, 0, 0, 0, 0) := by decide +kernel
theorem l_266_28 : look 266 28 = some (.getfield 101, 3, 10, 46, 0, 1547) := by decide +kernel
theorem l_266_31 : look 266 31 = some (.iconst (-1), 1, 0, 0, 0, 0) := by decide +kernel
theorem l_266_32 : look 266 32 = some (.if_icmp .ne 7, 3, 0, 0, 0, 0) := by decide +kernel
theorem l_266_35 : look 266 35 = some (.iconst 0, 1, 0, 0, 0, 0) := by decide +kernel
theorem l_266_36 : look 266 36 = some (.goto 4, 3, 0, 0, 0, 0) := by decide +kernel
theorem l_266_39 : look 266 39 = some (.iconst 1, 1, 0, 0, 0, 0) := by decide +kernel
theorem l_266_40 : look 266 40 = some (.iadd, 1, 0, 0, 0, 0) := by decide +kernel
theorem l_266_41 : look 266 41 = some (.istore_n 1, 1, 0, 0, 0, 0) := by decide +kernel
theorem l_266_42 : look 266 42 = some (.iconst 0, 1, 0, 0, 0, 0) := by decide +kernel
theorem l_266_43 : look 266 43 = some (.istore_n 2, 1, 0, 0, 0, 0) := by decide +kernel
theorem l_266_44 : look 266 44 = some (.iload_n 2, 1, 0, 0, 0, 0) := by decide +kernel
theorem l_266_45 : look 266 45 = some (.iconst 4, 1, 0, 0, 0, 0) := by decide +kernel
theorem l_266_46 : look 266 46 = some (.if_icmp .ge 27, 3, 0, 0, 0, 0) := by decide +kernel
theorem l_266_49 : look 266 49 = some (.iload_n 1, 1, 0, 0, 0, 0) := by decide +kernel
theorem l_266_50 : look 266 50 = some (.aload_n 0, 1, 0, 0, 0, 0) := by decide +kernel
theorem l_266_51 : look 266 51 = some (.getfield 92, 3, 10, 43, 2, 1544) := by decide +kernel
theorem l_266_54 : look 266 54 = some (.iload_n 2, 1, 0, 0, 0, 0) := by decide +kernel
theorem l_266_55 : look 266 55 = some (.iaload, 1, 0, 0, 0, 0) := by decide +kernel
theorem l_266_56 : look 266 56 = some (.iconst (-1), 1, 0, 0, 0, 0) := by decide +kernel
theorem l_266_57 : look 266 57 = some (.if_icmp .ne 7, 3, 0, 0, 0, 0) := by decide +kernel
theorem l_266_60 : look 266 60 = some (.iconst 0, 1, 0, 0, 0, 0) := by decide +kernel
theorem l_266_61 : look 266 61 = some (.goto 4, 3, 0, 0, 0, 0) := by decide +kernel
theorem l_266_64 : look 266 64 = some (.iconst 1, 1, 0, 0, 0, 0) := by decide +kernel
theorem l_266_65 : look 266 65 = some (.iadd, 1, 0, 0, 0, 0) := by decide +kernel
theorem l_266_66 : look 266 66 = some (.istore_n 1, 1, 0, 0, 0, 0) := by decide +kernel
theorem l_266_67 : look 266 67 = some (.iinc 2 1, 3, 0, 0, 0, 0) := by decide +kernel
theorem l_266_70 : look 266 70 = some (.goto (-26), 3, 0, 0, 0, 0) := by decide +kernel
theorem l_266_73 : look 266 73 = some (.iconst 0, 1, 0, 0, 0, 0) := by decide +kernel
theorem l_266_74 : look 266 74 = some (.istore_n 2, 1, 0, 0, 0, 0) := by decide +kernel
theorem l_266_75 : look 266 75 = some (.iload_n 2, 1, 0, 0, 0, 0) := by decide +kernel
theorem l_266_76 : look 266 76 = some (.bipush 8, 2, 0, 0, 0, 0) := by decide +kernel
theorem l_266_78 : look 266 78 = some (.if_icmp .ge 20, 3, 0, 0, 0, 0) := by decide +kernel
theorem l_266_81 : look 266 81 = some (.iload_n 1, 1, 0, 0, 0, 0) := by decide +kernel
theorem l_266_82 : look 266 82 = some (.aload_n 0, 1, 0, 0, 0, 0) := by decide +kernel
theorem l_266_83 : look 266 83 = some (.getfield 339, 3, 10, 47, 0, 1548) := by decide +kernel
theorem l_266_86 : look 266 86 = some (.iload_n 2, 1, 0, 0, 0, 0) := by decide +kernel
theorem l_266_87 : look 266 87 = some (.ishr, 1, 0, 0, 0, 0) := by decide +kernel
theorem l_266_88 : look 266 88 = some (.iconst 1, 1, 0, 0, 0, 0) := by decide +kernel
theorem l_266_89 : look 266 89 = some (.iand, 1, 0, 0, 0, 0) := by decide +kernel
theorem l_266_90 : look 266 90 = some (.iadd, 1, 0, 0, 0, 0) := by decide +kernel
theorem l_266_91 : look 266 91 = some (.istore_n 1, 1, 0, 0, 0, 0) := by decide +kernel
theorem l_266_92 : look 266 92 = some (.iinc 2 1, 3, 0, 0, 0, 0) := by decide +kernel
theorem l_266_95 : look 266 95 = some (.goto (-20), 3, 0, 0, 0, 0) := by decide +kernel
theorem l_266_98 : look 266 98 = some (.iload_n 1, 1, 0, 0, 0, 0) := by decide +kernel
theorem l_266_99 : look 266 99 = some (.ireturn, 1, 0, 0, 0, 0) := by decide +kernel

theorem lp_266b (hm : oModel S T s) {su : Su} (hS : nSu I s su) {n : Nat} (hn : n ≤ 100) : ∀ dd q, q + dd = 8 → WP xs 266 0 75 [vr s, vi (((n + sumN (fun r => b2n (su.2.2.1 r)) q) : Nat) : Int), vi ((q : Nat) : Int)] [] (S, I, T, cc, zz) (FN (some (vi ((n + sumN (fun r => b2n (su.2.2.1 r)) 8 : Nat) : Int))) (S, I, T, cc, zz)) := by
  intro dd
  obtain ⟨d, d1, d2, d3⟩ := hS.2.2.2.2.1
  induction dd with
  | zero =>
    intro q hq
    refine w_iln l_266_75 rfl ?_
    refine w_bp l_266_76 (by decide) ?_
    refine w_cge 98 l_266_78 (by decide) (fun _ => ?_) (fun hx => absurd hx (by omega))
    refine w_iln l_266_98 rfl ?_
    refine w_ir l_266_99 (Or.inl rfl) ?_
    have e9 : q = 8 := by omega
    rw [e9]
    exact ⟨rfl, rfl⟩
  | succ dd ih =>
    intro q hq
    have hsl := sumN_le (f := fun r => b2n (su.2.2.1 r)) (fun k => b2n_le _) q
    have hbl := bt_lt d q
    refine w_iln l_266_75 rfl ?_
    refine w_bp l_266_76 (by decide) ?_
    refine w_cge 98 l_266_78 (by decide) (fun hx => absurd hx (by omega)) (fun _ => ?_)
    refine w_iln l_266_81 rfl ?_
    refine w_aln l_266_82 rfl ?_
    refine w_gi ((d : Nat) : Int) l_266_83 (oModel_sh hm) d1 ?_
    refine w_iln l_266_86 rfl ?_
    refine w_shr (((d / 2 ^ q) : Nat) : Int) l_266_87 (shr8 d d2 q (by omega)) ?_
    refine w_ic l_266_88 (by decide) ?_
    refine w_and (((bt d q) : Nat) : Int) l_266_89 (and1 _) ?_
    refine w_add (((n + sumN (fun r => b2n (su.2.2.1 r)) q) + (bt d q) : Nat) : Int) l_266_90 (by unfold wr; omega) ?_
    refine w_isn l_266_91 ⟨Nat.le_of_ble_eq_true rfl, rfl⟩ ?_
    refine w_inc ((q + 1 : Nat) : Int) l_266_92 rfl rfl (by unfold wr; omega) ?_
    refine w_go 75 l_266_95 (by decide) ?_
    have e9 := ih (q + 1) (by omega)
    rw [show sumN (fun r => b2n (su.2.2.1 r)) (q + 1) = sumN (fun r => b2n (su.2.2.1 r)) q + bt d q by
      show _ + b2n (su.2.2.1 q) = _
      have h9 := d3 q (by omega)
      have h8 := bt_lt d q
      cases hr : su.2.2.1 q <;> rw [hr] at h9 <;> simp at h9 <;> unfold b2n <;> simp <;> omega] at e9
    rw [Nat.add_assoc]
    exact e9
theorem lp_266a (hm : oModel S T s) {su : Su} (hS : nSu I s su) {n : Nat} (hn : n ≤ 3) : ∀ dd q, q + dd = 4 → WP xs 266 0 44 [vr s, vi (((n + sumN (fun p => oN (su.1 p)) q) : Nat) : Int), vi ((q : Nat) : Int)] [] (S, I, T, cc, zz) (FN (some (vi ((n + sumN (fun p => oN (su.1 p)) 4 + sumN (fun r => b2n (su.2.2.1 r)) 8 : Nat) : Int))) (S, I, T, cc, zz)) := by
  intro dd
  induction dd with
  | zero =>
    intro q hq
    refine w_iln l_266_44 rfl ?_
    refine w_ic l_266_45 (by decide) ?_
    refine w_cge 73 l_266_46 (by decide) (fun _ => ?_) (fun hx => absurd hx (by omega))
    refine w_ic l_266_73 (by decide) ?_
    refine w_isn l_266_74 ⟨Nat.le_of_ble_eq_true rfl, rfl⟩ ?_
    have e9 : q = 4 := by omega
    rw [e9]
    exact lp_266b hm hS (n := n + sumN (fun p => oN (su.1 p)) 4) (by have := sumN_le (f := fun p => oN (su.1 p)) (fun k => oN_le _) 4; omega) 8 0 rfl
  | succ dd ih =>
    intro q hq
    have hsl := sumN_le (f := fun p => oN (su.1 p)) (fun k => oN_le _) q
    refine w_iln l_266_44 rfl ?_
    refine w_ic l_266_45 (by decide) ?_
    refine w_cge 73 l_266_46 (by decide) (fun hx => absurd hx (by omega)) (fun _ => ?_)
    refine w_iln l_266_49 rfl ?_
    refine w_aln l_266_50 rfl ?_
    refine w_gr l_266_51 (oModel_sh hm) (oModel_r43 hm) ?_
    refine w_iln l_266_54 rfl ?_
    refine w_ia q (oI (su.1 q)) l_266_55 (oModel_s43 hm) rfl (by omega) (hS.1 q (by omega)) ?_
    refine w_ic l_266_56 (by decide) ?_
    refine w_cne 64 l_266_57 (by decide) (fun h1 => ?_) (fun h1 => ?_)
    · skip
      refine w_ic l_266_64 (by decide) ?_
      refine w_add (((n + sumN (fun p => oN (su.1 p)) q) + 1 : Nat) : Int) l_266_65 (by unfold wr; omega) ?_
      refine w_isn l_266_66 ⟨Nat.le_of_ble_eq_true rfl, rfl⟩ ?_
      refine w_inc ((q + 1 : Nat) : Int) l_266_67 rfl rfl (by unfold wr; omega) ?_
      refine w_go 44 l_266_70 (by decide) ?_
      have e9 := ih (q + 1) (by omega)
      rw [show sumN (fun p => oN (su.1 p)) (q + 1) = sumN (fun p => oN (su.1 p)) q + 1 by
        show _ + oN (su.1 q) = _
        rw [oN_s (by assumption)]] at e9
      rw [Nat.add_assoc]
      exact e9
    · skip
      refine w_ic l_266_60 (by decide) ?_
      refine w_go 65 l_266_61 (by decide) ?_
      refine w_add (((n + sumN (fun p => oN (su.1 p)) q) + 0 : Nat) : Int) l_266_65 (by unfold wr; omega) ?_
      refine w_isn l_266_66 ⟨Nat.le_of_ble_eq_true rfl, rfl⟩ ?_
      refine w_inc ((q + 1 : Nat) : Int) l_266_67 rfl rfl (by unfold wr; omega) ?_
      refine w_go 44 l_266_70 (by decide) ?_
      have e9 := ih (q + 1) (by omega)
      rw [show sumN (fun p => oN (su.1 p)) (q + 1) = sumN (fun p => oN (su.1 p)) q + 0 by
        show _ + oN (su.1 q) = _
        rw [oN_n (by assumption)]] at e9
      rw [Nat.add_assoc]
      exact e9
theorem s_266 (hm : oModel S T s) {su : Su} (hS : nSu I s su) : CL xs 266 [vr s] (S, I, T, cc, zz) (FN (some (vi ((setN su : Nat) : Int))) (S, I, T, cc, zz)) := by
  refine CL_start (r := 0) (ls := [vr s, vs 2, vs 2]) (rk_266 _) rfl ?_
  refine w_aln l_266_0 rfl ?_
  refine w_gi (oI su.2.1.1) l_266_1 (oModel_sh hm) hS.2.1 ?_
  refine w_ic l_266_4 (by decide) ?_
  refine w_cne 12 l_266_5 (by decide) (fun h1 => ?_) (fun h1 => ?_)
  · skip
    refine w_ic l_266_12 (by decide) ?_
    refine w_aln l_266_13 rfl ?_
    refine w_gi (oI su.2.1.2.1) l_266_14 (oModel_sh hm) hS.2.2.1 ?_
    refine w_ic l_266_17 (by decide) ?_
    refine w_cne 25 l_266_18 (by decide) (fun h2 => ?_) (fun h2 => ?_)
    · skip
      refine w_ic l_266_25 (by decide) ?_
      refine w_add 2 l_266_26 (by decide) ?_
      refine w_aln l_266_27 rfl ?_
      refine w_gi (oI su.2.1.2.2) l_266_28 (oModel_sh hm) hS.2.2.2.1 ?_
      refine w_ic l_266_31 (by decide) ?_
      refine w_cne 39 l_266_32 (by decide) (fun h3 => ?_) (fun h3 => ?_)
      · skip
        refine w_ic l_266_39 (by decide) ?_
        refine w_add 3 l_266_40 (by decide) ?_
        refine w_isn l_266_41 ⟨Nat.le_of_ble_eq_true rfl, rfl⟩ ?_
        refine w_ic l_266_42 (by decide) ?_
        refine w_isn l_266_43 ⟨Nat.le_of_ble_eq_true rfl, rfl⟩ ?_
        rw [show setN su = 3 + sumN (fun p => oN (su.1 p)) 4 + sumN (fun r => b2n (su.2.2.1 r)) 8 by
          unfold setN
          rw [oN_if su.2.1.1, oN_if su.2.1.2.1, oN_if su.2.1.2.2]
          repeat (first | rw [if_pos (by assumption)] | rw [if_neg (by assumption)])]
        exact lp_266a hm hS (n := 3) (by decide) 4 0 rfl
      · skip
        refine w_ic l_266_35 (by decide) ?_
        refine w_go 40 l_266_36 (by decide) ?_
        refine w_add 2 l_266_40 (by decide) ?_
        refine w_isn l_266_41 ⟨Nat.le_of_ble_eq_true rfl, rfl⟩ ?_
        refine w_ic l_266_42 (by decide) ?_
        refine w_isn l_266_43 ⟨Nat.le_of_ble_eq_true rfl, rfl⟩ ?_
        rw [show setN su = 2 + sumN (fun p => oN (su.1 p)) 4 + sumN (fun r => b2n (su.2.2.1 r)) 8 by
          unfold setN
          rw [oN_if su.2.1.1, oN_if su.2.1.2.1, oN_if su.2.1.2.2]
          repeat (first | rw [if_pos (by assumption)] | rw [if_neg (by assumption)])]
        exact lp_266a hm hS (n := 2) (by decide) 4 0 rfl
    · skip
      refine w_ic l_266_21 (by decide) ?_
      refine w_go 26 l_266_22 (by decide) ?_
      refine w_add 1 l_266_26 (by decide) ?_
      refine w_aln l_266_27 rfl ?_
      refine w_gi (oI su.2.1.2.2) l_266_28 (oModel_sh hm) hS.2.2.2.1 ?_
      refine w_ic l_266_31 (by decide) ?_
      refine w_cne 39 l_266_32 (by decide) (fun h4 => ?_) (fun h4 => ?_)
      · skip
        refine w_ic l_266_39 (by decide) ?_
        refine w_add 2 l_266_40 (by decide) ?_
        refine w_isn l_266_41 ⟨Nat.le_of_ble_eq_true rfl, rfl⟩ ?_
        refine w_ic l_266_42 (by decide) ?_
        refine w_isn l_266_43 ⟨Nat.le_of_ble_eq_true rfl, rfl⟩ ?_
        rw [show setN su = 2 + sumN (fun p => oN (su.1 p)) 4 + sumN (fun r => b2n (su.2.2.1 r)) 8 by
          unfold setN
          rw [oN_if su.2.1.1, oN_if su.2.1.2.1, oN_if su.2.1.2.2]
          repeat (first | rw [if_pos (by assumption)] | rw [if_neg (by assumption)])]
        exact lp_266a hm hS (n := 2) (by decide) 4 0 rfl
      · skip
        refine w_ic l_266_35 (by decide) ?_
        refine w_go 40 l_266_36 (by decide) ?_
        refine w_add 1 l_266_40 (by decide) ?_
        refine w_isn l_266_41 ⟨Nat.le_of_ble_eq_true rfl, rfl⟩ ?_
        refine w_ic l_266_42 (by decide) ?_
        refine w_isn l_266_43 ⟨Nat.le_of_ble_eq_true rfl, rfl⟩ ?_
        rw [show setN su = 1 + sumN (fun p => oN (su.1 p)) 4 + sumN (fun r => b2n (su.2.2.1 r)) 8 by
          unfold setN
          rw [oN_if su.2.1.1, oN_if su.2.1.2.1, oN_if su.2.1.2.2]
          repeat (first | rw [if_pos (by assumption)] | rw [if_neg (by assumption)])]
        exact lp_266a hm hS (n := 1) (by decide) 4 0 rfl
  · skip
    refine w_ic l_266_8 (by decide) ?_
    refine w_go 13 l_266_9 (by decide) ?_
    refine w_aln l_266_13 rfl ?_
    refine w_gi (oI su.2.1.2.1) l_266_14 (oModel_sh hm) hS.2.2.1 ?_
    refine w_ic l_266_17 (by decide) ?_
    refine w_cne 25 l_266_18 (by decide) (fun h5 => ?_) (fun h5 => ?_)
    · skip
      refine w_ic l_266_25 (by decide) ?_
      refine w_add 1 l_266_26 (by decide) ?_
      refine w_aln l_266_27 rfl ?_
      refine w_gi (oI su.2.1.2.2) l_266_28 (oModel_sh hm) hS.2.2.2.1 ?_
      refine w_ic l_266_31 (by decide) ?_
      refine w_cne 39 l_266_32 (by decide) (fun h6 => ?_) (fun h6 => ?_)
      · skip
        refine w_ic l_266_39 (by decide) ?_
        refine w_add 2 l_266_40 (by decide) ?_
        refine w_isn l_266_41 ⟨Nat.le_of_ble_eq_true rfl, rfl⟩ ?_
        refine w_ic l_266_42 (by decide) ?_
        refine w_isn l_266_43 ⟨Nat.le_of_ble_eq_true rfl, rfl⟩ ?_
        rw [show setN su = 2 + sumN (fun p => oN (su.1 p)) 4 + sumN (fun r => b2n (su.2.2.1 r)) 8 by
          unfold setN
          rw [oN_if su.2.1.1, oN_if su.2.1.2.1, oN_if su.2.1.2.2]
          repeat (first | rw [if_pos (by assumption)] | rw [if_neg (by assumption)])]
        exact lp_266a hm hS (n := 2) (by decide) 4 0 rfl
      · skip
        refine w_ic l_266_35 (by decide) ?_
        refine w_go 40 l_266_36 (by decide) ?_
        refine w_add 1 l_266_40 (by decide) ?_
        refine w_isn l_266_41 ⟨Nat.le_of_ble_eq_true rfl, rfl⟩ ?_
        refine w_ic l_266_42 (by decide) ?_
        refine w_isn l_266_43 ⟨Nat.le_of_ble_eq_true rfl, rfl⟩ ?_
        rw [show setN su = 1 + sumN (fun p => oN (su.1 p)) 4 + sumN (fun r => b2n (su.2.2.1 r)) 8 by
          unfold setN
          rw [oN_if su.2.1.1, oN_if su.2.1.2.1, oN_if su.2.1.2.2]
          repeat (first | rw [if_pos (by assumption)] | rw [if_neg (by assumption)])]
        exact lp_266a hm hS (n := 1) (by decide) 4 0 rfl
    · skip
      refine w_ic l_266_21 (by decide) ?_
      refine w_go 26 l_266_22 (by decide) ?_
      refine w_add 0 l_266_26 (by decide) ?_
      refine w_aln l_266_27 rfl ?_
      refine w_gi (oI su.2.1.2.2) l_266_28 (oModel_sh hm) hS.2.2.2.1 ?_
      refine w_ic l_266_31 (by decide) ?_
      refine w_cne 39 l_266_32 (by decide) (fun h7 => ?_) (fun h7 => ?_)
      · skip
        refine w_ic l_266_39 (by decide) ?_
        refine w_add 1 l_266_40 (by decide) ?_
        refine w_isn l_266_41 ⟨Nat.le_of_ble_eq_true rfl, rfl⟩ ?_
        refine w_ic l_266_42 (by decide) ?_
        refine w_isn l_266_43 ⟨Nat.le_of_ble_eq_true rfl, rfl⟩ ?_
        rw [show setN su = 1 + sumN (fun p => oN (su.1 p)) 4 + sumN (fun r => b2n (su.2.2.1 r)) 8 by
          unfold setN
          rw [oN_if su.2.1.1, oN_if su.2.1.2.1, oN_if su.2.1.2.2]
          repeat (first | rw [if_pos (by assumption)] | rw [if_neg (by assumption)])]
        exact lp_266a hm hS (n := 1) (by decide) 4 0 rfl
      · skip
        refine w_ic l_266_35 (by decide) ?_
        refine w_go 40 l_266_36 (by decide) ?_
        refine w_add 0 l_266_40 (by decide) ?_
        refine w_isn l_266_41 ⟨Nat.le_of_ble_eq_true rfl, rfl⟩ ?_
        refine w_ic l_266_42 (by decide) ?_
        refine w_isn l_266_43 ⟨Nat.le_of_ble_eq_true rfl, rfl⟩ ?_
        rw [show setN su = 0 + sumN (fun p => oN (su.1 p)) 4 + sumN (fun r => b2n (su.2.2.1 r)) 8 by
          unfold setN
          rw [oN_if su.2.1.1, oN_if su.2.1.2.1, oN_if su.2.1.2.2]
          repeat (first | rw [if_pos (by assumption)] | rw [if_neg (by assumption)])]
        exact lp_266a hm hS (n := 0) (by decide) 4 0 rfl

theorem mx_269 : mxl 269 = 3 := by decide +kernel
theorem mt_269 : mtc 269 = 10 := by decide +kernel
theorem rk_269 (as : List AV) : rkA 269 as = 0 := rfl
theorem l_269_0 : look 269 0 = some (.iconst 0, 1, 0, 0, 0, 0) := by decide +kernel
theorem l_269_1 : look 269 1 = some (.istore_n 1, 1, 0, 0, 0, 0) := by decide +kernel
theorem l_269_2 : look 269 2 = some (.iconst 0, 1, 0, 0, 0, 0) := by decide +kernel
theorem l_269_3 : look 269 3 = some (.istore_n 2, 1, 0, 0, 0, 0) := by decide +kernel
theorem l_269_4 : look 269 4 = some (.iload_n 2, 1, 0, 0, 0, 0) := by decide +kernel
theorem l_269_5 : look 269 5 = some (.bipush 120, 2, 0, 0, 0, 0) := by decide +kernel
theorem l_269_7 : look 269 7 = some (.if_icmp .ge 26, 3, 0, 0, 0, 0) := by decide +kernel
theorem l_269_10 : look 269 10 = some (.iload_n 1, 1, 0, 0, 0, 0) := by decide +kernel
theorem l_269_11 : look 269 11 = some (.aload_n 0, 1, 0, 0, 0, 0) := by decide +kernel
theorem l_269_12 : look 269 12 = some (.getfield 104, 3, 10, 48, 2, 1549) := by decide +kernel
theorem l_269_15 : look 269 15 = some (.iload_n 2, 1, 0, 0, 0, 0) := by decide +kernel
theorem l_269_16 : look 269 16 = some (.baload, 1, 0, 0, 0, 0) := by decide +kernel
theorem l_269_17 : look 269 17 = some (.ifCond .eq 7, 3, 0, 0, 0, 0) := by decide +kernel
theorem l_269_20 : look 269 20 = some (.iconst 1, 1, 0, 0, 0, 0) := by decide +kernel
theorem l_269_21 : look 269 21 = some (.goto 4, 3, 0, 0, 0, 0) := by decide +kernel
theorem l_269_24 : look 269 24 = some (.iconst 0, 1, 0, 0, 0, 0) := by decide +kernel
theorem l_269_25 : look 269 25 = some (.iadd, 1, 0, 0, 0, 0) := by decide +kernel
theorem l_269_26 : look 269 26 = some (.istore_n 1, 1, 0, 0, 0, 0) := by decide +kernel
theorem l_269_27 : look 269 27 = some (.iinc 2 1, 3, 0, 0, 0, 0) := by decide +kernel
theorem l_269_30 : look 269 30 = some (.goto (-26), 3, 0, 0, 0, 0) := by decide +kernel
theorem l_269_33 : look 269 33 = some (.iload_n 1, 1, 0, 0, 0, 0) := by decide +kernel
theorem l_269_34 : look 269 34 = some (.ireturn, 1, 0, 0, 0, 0) := by decide +kernel

theorem lp_269 (hm : oModel S T s) {su : Su} (hS : nSu I s su) : ∀ dd q, q + dd = 120 → WP xs 269 0 4 [vr s, vi (((sumN (fun e => b2n (su.2.2.2 e)) q) : Nat) : Int), vi ((q : Nat) : Int)] [] (S, I, T, cc, zz) (FN (some (vi ((outN su : Nat) : Int))) (S, I, T, cc, zz)) := by
  intro dd
  induction dd with
  | zero =>
    intro q hq
    refine w_iln l_269_4 rfl ?_
    refine w_bp l_269_5 (by decide) ?_
    refine w_cge 33 l_269_7 (by decide) (fun _ => ?_) (fun hx => absurd hx (by omega))
    refine w_iln l_269_33 rfl ?_
    refine w_ir l_269_34 (Or.inl rfl) ?_
    have e9 : q = 120 := by omega
    rw [e9]
    exact ⟨rfl, rfl⟩
  | succ dd ih =>
    intro q hq
    have hsl := sumN_le (f := fun e => b2n (su.2.2.2 e)) (fun k => b2n_le _) q
    refine w_iln l_269_4 rfl ?_
    refine w_bp l_269_5 (by decide) ?_
    refine w_cge 33 l_269_7 (by decide) (fun hx => absurd hx (by omega)) (fun _ => ?_)
    refine w_iln l_269_10 rfl ?_
    refine w_aln l_269_11 rfl ?_
    refine w_gr l_269_12 (oModel_sh hm) (oModel_r48 hm) ?_
    refine w_iln l_269_15 rfl ?_
    refine w_ba q (b2i (su.2.2.2 q)) l_269_16 (Or.inr (oModel_s48 hm)) rfl (by omega) (hS.2.2.2.2.2 q (by omega)) ?_
    refine w_beq 24 l_269_17 (by decide) (fun h1 => ?_) (fun h1 => ?_)
    · skip
      refine w_ic l_269_24 (by decide) ?_
      refine w_add (((sumN (fun e => b2n (su.2.2.2 e)) q) + 0 : Nat) : Int) l_269_25 (by unfold wr; omega) ?_
      refine w_isn l_269_26 ⟨Nat.le_of_ble_eq_true rfl, rfl⟩ ?_
      refine w_inc ((q + 1 : Nat) : Int) l_269_27 rfl rfl (by unfold wr; omega) ?_
      refine w_go 4 l_269_30 (by decide) ?_
      have e9 := ih (q + 1) (by omega)
      rw [show sumN (fun e => b2n (su.2.2.2 e)) (q + 1) = sumN (fun e => b2n (su.2.2.2 e)) q + 0 by
        show _ + b2n (su.2.2.2 q) = _
        rw [h1]; rfl] at e9
      exact e9
    · skip
      refine w_ic l_269_20 (by decide) ?_
      refine w_go 25 l_269_21 (by decide) ?_
      refine w_add (((sumN (fun e => b2n (su.2.2.2 e)) q) + 1 : Nat) : Int) l_269_25 (by unfold wr; omega) ?_
      refine w_isn l_269_26 ⟨Nat.le_of_ble_eq_true rfl, rfl⟩ ?_
      refine w_inc ((q + 1 : Nat) : Int) l_269_27 rfl rfl (by unfold wr; omega) ?_
      refine w_go 4 l_269_30 (by decide) ?_
      have e9 := ih (q + 1) (by omega)
      rw [show sumN (fun e => b2n (su.2.2.2 e)) (q + 1) = sumN (fun e => b2n (su.2.2.2 e)) q + 1 by
        show _ + b2n (su.2.2.2 q) = _
        rw [h1]; rfl] at e9
      exact e9
theorem s_269 (hm : oModel S T s) {su : Su} (hS : nSu I s su) : CL xs 269 [vr s] (S, I, T, cc, zz) (FN (some (vi ((outN su : Nat) : Int))) (S, I, T, cc, zz)) := by
  refine CL_start (r := 0) (ls := [vr s, vs 2, vs 2]) (rk_269 _) rfl ?_
  refine w_ic l_269_0 (by decide) ?_
  refine w_isn l_269_1 ⟨Nat.le_of_ble_eq_true rfl, rfl⟩ ?_
  refine w_ic l_269_2 (by decide) ?_
  refine w_isn l_269_3 ⟨Nat.le_of_ble_eq_true rfl, rfl⟩ ?_
  exact lp_269 hm hS 120 0 rfl

theorem mx_201 : mxl 201 = 2 := by decide +kernel
theorem mt_201 : mtc 201 = 10 := by decide +kernel
theorem rk_201 (as : List AV) : rkA 201 as = 0 := rfl
theorem l_201_0 : look 201 0 = some (.iconst 0, 1, 0, 0, 0, 0) := by decide +kernel
theorem l_201_1 : look 201 1 = some (.istore_n 1, 1, 0, 0, 0, 0) := by decide +kernel
theorem l_201_2 : look 201 2 = some (.iload_n 1, 1, 0, 0, 0, 0) := by decide +kernel
theorem l_201_3 : look 201 3 = some (.iconst 4, 1, 0, 0, 0, 0) := by decide +kernel
theorem l_201_4 : look 201 4 = some (.if_icmp .ge 16, 3, 0, 0, 0, 0) := by decide +kernel
theorem l_201_7 : look 201 7 = some (.aload_n 0, 1, 0, 0, 0, 0) := by decide +kernel
theorem l_201_8 : look 201 8 = some (.getfield 92, 3, 10, 43, 2, 1544) := by decide +kernel
theorem l_201_11 : look 201 11 = some (.iload_n 1, 1, 0, 0, 0, 0) := by decide +kernel
theorem l_201_12 : look 201 12 = some (.iconst (-1), 1, 0, 0, 0, 0) := by decide +kernel
theorem l_201_13 : look 201 13 = some (.iastore, 1, 0, 0, 0, 0) := by decide +kernel
theorem l_201_14 : look 201 14 = some (.iinc 1 1, 3, 0, 0, 0, 0) := by decide +kernel
theorem l_201_17 : look 201 17 = some (.goto (-15), 3, 0, 0, 0, 0) := by decide +kernel
theorem l_201_20 : look 201 20 = some (.aload_n 0, 1, 0, 0, 0, 0) := by decide +kernel
theorem l_201_21 : look 201 21 = some (.iconst (-1), 1, 0, 0, 0, 0) := by decide +kernel
theorem l_201_22 : look 201 22 = some (.putfield 95, 3, 10, 44, 0, 1545) := by decide +kernel
theorem l_201_25 : look 201 25 = some (.aload_n 0, 1, 0, 0, 0, 0) := by decide +kernel
theorem l_201_26 : look 201 26 = some (.iconst (-1), 1, 0, 0, 0, 0) := by decide +kernel
theorem l_201_27 : look 201 27 = some (.putfield 98, 3, 10, 45, 0, 1546) := by decide +kernel
theorem l_201_30 : look 201 30 = some (.aload_n 0, 1, 0, 0, 0, 0) := by decide +kernel
theorem l_201_31 : look 201 31 = some (.iconst (-1), 1, 0, 0, 0, 0) := by decide +kernel
theorem l_201_32 : look 201 32 = some (.putfield 101, 3, 10, 46, 0, 1547) := by decide +kernel
theorem l_201_35 : look 201 35 = some (.aload_n 0, 1, 0, 0, 0, 0) := by decide +kernel
theorem l_201_36 : look 201 36 = some (.iconst 0, 1, 0, 0, 0, 0) := by decide +kernel
theorem l_201_37 : look 201 37 = some (.putfield 339, 3, 10, 47, 0, 1548) := by decide +kernel
theorem l_201_40 : look 201 40 = some (.iconst 0, 1, 0, 0, 0, 0) := by decide +kernel
theorem l_201_41 : look 201 41 = some (.istore_n 1, 1, 0, 0, 0, 0) := by decide +kernel
theorem l_201_42 : look 201 42 = some (.iload_n 1, 1, 0, 0, 0, 0) := by decide +kernel
theorem l_201_43 : look 201 43 = some (.bipush 120, 2, 0, 0, 0, 0) := by decide +kernel
theorem l_201_45 : look 201 45 = some (.if_icmp .ge 16, 3, 0, 0, 0, 0) := by decide +kernel
theorem l_201_48 : look 201 48 = some (.aload_n 0, 1, 0, 0, 0, 0) := by decide +kernel
theorem l_201_49 : look 201 49 = some (.getfield 104, 3, 10, 48, 2, 1549) := by decide +kernel
theorem l_201_52 : look 201 52 = some (.iload_n 1, 1, 0, 0, 0, 0) := by decide +kernel
theorem l_201_53 : look 201 53 = some (.iconst 0, 1, 0, 0, 0, 0) := by decide +kernel
theorem l_201_54 : look 201 54 = some (.bastore, 1, 0, 0, 0, 0) := by decide +kernel
theorem l_201_55 : look 201 55 = some (.iinc 1 1, 3, 0, 0, 0, 0) := by decide +kernel
theorem l_201_58 : look 201 58 = some (.goto (-16), 3, 0, 0, 0, 0) := by decide +kernel
theorem l_201_61 : look 201 61 = some (.return_, 1, 0, 0, 0, 0) := by decide +kernel

theorem lp_201 (hm : oModel S T s) {J : Ix} : ∀ d k, k + d = 120 → WP xs 201 0 42 [vr s, vi ((k : Nat) : Int)] [] (S, (fl J (s + 24) k 0), T, cc, zz) (FN none (S, fl J (s + 24) 120 0, T, cc, zz)) := by
  intro d
  induction d with
  | zero =>
    intro k hk
    refine w_iln l_201_42 rfl ?_
    refine w_bp l_201_43 (by decide) ?_
    refine w_cge 61 l_201_45 (by decide) (fun _ => ?_) (fun hx => absurd hx (by omega))
    refine w_vr l_201_61 ?_
    have e9 : k = 120 := by omega
    rw [e9]
    exact ⟨rfl, rfl⟩
  | succ d ih =>
    intro k hk
    refine w_iln l_201_42 rfl ?_
    refine w_bp l_201_43 (by decide) ?_
    refine w_cge 61 l_201_45 (by decide) (fun hx => absurd hx (by omega)) (fun _ => ?_)
    refine w_aln l_201_48 rfl ?_
    refine w_gr l_201_49 (oModel_sh hm) (oModel_r48 hm) ?_
    refine w_iln l_201_52 rfl ?_
    refine w_ic l_201_53 (by decide) ?_
    refine w_zS k 0 l_201_54 (oModel_s48 hm) rfl (by omega) (by decide) ?_
    refine w_inc ((k + 1 : Nat) : Int) l_201_55 rfl rfl (by unfold wr; omega) ?_
    refine w_go 42 l_201_58 (by decide) ?_
    rw [fl_s]
    exact ih (k + 1) (by omega)
theorem s_201 (hm : oModel S T s) : CL xs 201 [vr s] (S, I, T, cc, zz) (FN none (S, fl (up (up (up (up (up (up (up (up I (s + 23) 0 (-1)) (s + 23) 1 (-1)) (s + 23) 2 (-1)) (s + 23) 3 (-1)) s 44 (-1)) s 45 (-1)) s 46 (-1)) s 47 0) (s + 24) 120 0, T, cc, zz)) := by
  refine CL_start (r := 0) (ls := [vr s, vs 2]) (rk_201 _) rfl ?_
  refine w_ic l_201_0 (by decide) ?_
  refine w_isn l_201_1 ⟨Nat.le_of_ble_eq_true rfl, rfl⟩ ?_
  refine w_iln l_201_2 rfl ?_
  refine w_ic l_201_3 (by decide) ?_
  refine w_cge 20 l_201_4 (by decide) (fun hx => absurd hx (by decide)) (fun _ => ?_)
  refine w_aln l_201_7 rfl ?_
  refine w_gr l_201_8 (oModel_sh hm) (oModel_r43 hm) ?_
  refine w_iln l_201_11 rfl ?_
  refine w_ic l_201_12 (by decide) ?_
  refine w_iS 0 l_201_13 (oModel_s43 hm) rfl (by omega) ?_
  refine w_inc 1 l_201_14 rfl rfl (by unfold wr; omega) ?_
  refine w_go 2 l_201_17 (by decide) ?_
  refine w_iln l_201_2 rfl ?_
  refine w_ic l_201_3 (by decide) ?_
  refine w_cge 20 l_201_4 (by decide) (fun hx => absurd hx (by decide)) (fun _ => ?_)
  refine w_aln l_201_7 rfl ?_
  refine w_gr l_201_8 (oModel_sh hm) (oModel_r43 hm) ?_
  refine w_iln l_201_11 rfl ?_
  refine w_ic l_201_12 (by decide) ?_
  refine w_iS 1 l_201_13 (oModel_s43 hm) rfl (by omega) ?_
  refine w_inc 2 l_201_14 rfl rfl (by unfold wr; omega) ?_
  refine w_go 2 l_201_17 (by decide) ?_
  refine w_iln l_201_2 rfl ?_
  refine w_ic l_201_3 (by decide) ?_
  refine w_cge 20 l_201_4 (by decide) (fun hx => absurd hx (by decide)) (fun _ => ?_)
  refine w_aln l_201_7 rfl ?_
  refine w_gr l_201_8 (oModel_sh hm) (oModel_r43 hm) ?_
  refine w_iln l_201_11 rfl ?_
  refine w_ic l_201_12 (by decide) ?_
  refine w_iS 2 l_201_13 (oModel_s43 hm) rfl (by omega) ?_
  refine w_inc 3 l_201_14 rfl rfl (by unfold wr; omega) ?_
  refine w_go 2 l_201_17 (by decide) ?_
  refine w_iln l_201_2 rfl ?_
  refine w_ic l_201_3 (by decide) ?_
  refine w_cge 20 l_201_4 (by decide) (fun hx => absurd hx (by decide)) (fun _ => ?_)
  refine w_aln l_201_7 rfl ?_
  refine w_gr l_201_8 (oModel_sh hm) (oModel_r43 hm) ?_
  refine w_iln l_201_11 rfl ?_
  refine w_ic l_201_12 (by decide) ?_
  refine w_iS 3 l_201_13 (oModel_s43 hm) rfl (by omega) ?_
  refine w_inc 4 l_201_14 rfl rfl (by unfold wr; omega) ?_
  refine w_go 2 l_201_17 (by decide) ?_
  refine w_iln l_201_2 rfl ?_
  refine w_ic l_201_3 (by decide) ?_
  refine w_cge 20 l_201_4 (by decide) (fun _ => ?_) (fun hx => absurd hx (by decide))
  refine w_aln l_201_20 rfl ?_
  refine w_ic l_201_21 (by decide) ?_
  refine w_pi l_201_22 (oModel_sh hm) ?_
  refine w_aln l_201_25 rfl ?_
  refine w_ic l_201_26 (by decide) ?_
  refine w_pi l_201_27 (oModel_sh hm) ?_
  refine w_aln l_201_30 rfl ?_
  refine w_ic l_201_31 (by decide) ?_
  refine w_pi l_201_32 (oModel_sh hm) ?_
  refine w_aln l_201_35 rfl ?_
  refine w_ic l_201_36 (by decide) ?_
  refine w_pi l_201_37 (oModel_sh hm) ?_
  refine w_ic l_201_40 (by decide) ?_
  refine w_isn l_201_41 ⟨Nat.le_of_ble_eq_true rfl, rfl⟩ ?_
  have e8 := lp_201 (xs := xs) (T := T) (cc := cc) (zz := zz) (J := up (up (up (up (up (up (up (up I (s + 23) 0 (-1)) (s + 23) 1 (-1)) (s + 23) 2 (-1)) (s + 23) 3 (-1)) s 44 (-1)) s 45 (-1)) s 46 (-1)) s 47 0) hm 120 0 (by omega)
  rw [fl_0] at e8
  exact e8

/-- all but what is supposed -/
def mfu (I J : Ix) (s : Nat) : Prop := ∀ y z, (y = s → z < 44 ∨ 47 < z) → (y ≠ s + 23 ∧ y ≠ s + 24) → J y z = I y z
theorem r_ends (hm : oModel S T s) : CL xs 201 [vr s] (S, I, T, cc, zz) (RP S T cc zz (fun v I' => v = none ∧ nSu I' s su0 ∧ mfu I I' s)) := by
  refine CL_mono (s_201 hm) ?_
  rintro q m' ⟨rfl, rfl⟩
  refine ⟨none, _, rfl, rfl, rfl, ⟨fun p hp => ?_, ?_, ?_, ?_, ⟨0, ?_, by decide, fun r hr => ?_⟩, fun e he => ?_⟩, fun y z h1 h2 => ?_⟩
  · rw [fl_no (by omega), up_no (by omega), up_no (by omega), up_no (by omega), up_no (by omega)]
    rcases four hp with rfl | rfl | rfl | rfl <;> simp [up, su0, oI]
  · rw [fl_no (by omega), up_nj (by decide), up_nj (by decide), up_nj (by decide), up_eq]; rfl
  · rw [fl_no (by omega), up_nj (by decide), up_nj (by decide), up_eq]; rfl
  · rw [fl_no (by omega), up_nj (by decide), up_eq]; rfl
  · rw [fl_no (by omega), up_eq]; rfl
  · have h9 : bt 0 r = 0 := by unfold bt; rw [Nat.zero_div]
    simp [h9, su0]
  · rw [fl_in he]; rfl
  · by_cases hy : y = s
    · have := h1 hy
      rw [hy, fl_no (by omega), up_nj (by omega), up_nj (by omega), up_nj (by omega), up_nj (by omega), up_no (by omega), up_no (by omega), up_no (by omega), up_no (by omega)]
    · rw [fl_no h2.2, up_no hy, up_no hy, up_no hy, up_no hy]
      simp only [up_no h2.1]

end RG
