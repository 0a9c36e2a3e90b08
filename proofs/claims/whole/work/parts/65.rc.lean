/-! the reference: answers, 3 -/
section RC
variable {xs : List Int} {S : List (Nat × Nat)} {T : Nat → Nat → Nat} {cc zz s : Nat} {h : Hi} {l : Li} {r : Ra} {g : Lo} {I I' : Ix}

theorem mx_252 : mxl 252 = 2 := by decide +kernel
theorem mt_252 : mtc 252 = 10 := by decide +kernel
theorem rk_252 (as : List AV) : rkA 252 as = 10 := rfl
theorem l_252_0 : look 252 0 = some (.aload_n 0, 1, 0, 0, 0, 0) := by decide +kernel
theorem l_252_1 : look 252 1 = some (.invokevirtual 443, 3, 215, 1, 0, 1897) := by decide +kernel
theorem l_252_4 : look 252 4 = some (.iload_n 1, 1, 0, 0, 0, 0) := by decide +kernel
theorem l_252_5 : look 252 5 = some (.iconst 0, 1, 0, 0, 0, 0) := by decide +kernel
theorem l_252_6 : look 252 6 = some (.aload_n 0, 1, 0, 0, 0, 0) := by decide +kernel
theorem l_252_7 : look 252 7 = some (.getfield 369, 3, 10, 66, 0, 1567) := by decide +kernel
theorem l_252_10 : look 252 10 = some (.iconst 1, 1, 0, 0, 0, 0) := by decide +kernel
theorem l_252_11 : look 252 11 = some (.isub, 1, 0, 0, 0, 0) := by decide +kernel
theorem l_252_12 : look 252 12 = some (.invokestatic 175, 3, 169, 3, 1, 1775) := by decide +kernel
theorem l_252_15 : look 252 15 = some (.ireturn, 1, 0, 0, 1, 0) := by decide +kernel

theorem s_252 (hm : oModel S T s) {ne np : Nat} {a : Nat → Nat} {cd : Nat → Cd} (B : MP I s h l a ne np cd) {k : Int} : CL xs 252 [vr s, vi k] (S, I, T, cc, zz) (RP S T cc zz (fun v I' => v = some (vi (b2i (decide (0 ≤ k ∧ k ≤ ((((runA h l noOut ne).2.1.length : Nat) : Int) - 1))))) ∧ nR I' s l (runA h l noOut ne) ∧ mfb I I' s)) := by
  refine CL_start (r := 10) (ls := [vr s, vi k]) (rk_252 _) rfl ?_
  have hl4 := B.2.2.2.2.1.1
  have hne := B.1.1
  have hnp := B.1.2.1
  have hok := (B.run noOut (Nat.le_refl ne)).1
  have hlen : (runA h l noOut ne).2.1.length ≤ 360 := by
    have h8 := hok.2.2
    unfold tot at h8
    omega
  refine w_aln l_252_0 rfl ?_
  refine p_iv [] [] l_252_1 rfl rfl (Nat.le_of_ble_eq_true rfl) (by rw [mx_215]; exact Nat.le_of_ble_eq_true rfl) (by rw [mt_215]; exact oModel_sh hm) (by rw [mt_215]; decide) (by rw [rk_215]; decide) (s_215 hm B) (fun v I1 hv => ?_)
  obtain ⟨rfl, hR1, f1, _, hLi⟩ := hv
  refine w_iln l_252_4 rfl ?_
  refine w_ic l_252_5 (by decide) ?_
  refine w_aln l_252_6 rfl ?_
  refine w_gi (((runA h l noOut ne).2.1.length : Nat) : Int) l_252_7 (oModel_sh hm) hR1.2.1.1 ?_
  refine w_ic l_252_10 (by decide) ?_
  refine w_sub ((((runA h l noOut ne).2.1.length : Nat) : Int) - 1) l_252_11 (by unfold wr; omega) ?_
  refine q_st [vi k, vi 0, vi ((((runA h l noOut ne).2.1.length : Nat) : Int) - 1)] [] l_252_12 (by decide) rfl rfl (Nat.le_of_ble_eq_true rfl) (by rw [mx_169]; exact Nat.le_of_ble_eq_true rfl) (by rw [rk_169]; decide) (s_169) ?_
  refine w_ir l_252_15 (Or.inr (Or.inl ⟨rfl, (b2i_r _).1, (b2i_r _).2⟩)) ?_
  exact ⟨_, _, rfl, rfl, rfl, hR1, f1⟩

theorem mx_253 : mxl 253 = 3 := by decide +kernel
theorem mt_253 : mtc 253 = 10 := by decide +kernel
theorem rk_253 (as : List AV) : rkA 253 as = 11 := rfl
theorem l_253_0 : look 253 0 = some (.aload_n 0, 1, 0, 0, 0, 0) := by decide +kernel
theorem l_253_1 : look 253 1 = some (.aload_n 0, 1, 0, 0, 0, 0) := by decide +kernel
theorem l_253_2 : look 253 2 = some (.iload_n 1, 1, 0, 0, 0, 0) := by decide +kernel
theorem l_253_3 : look 253 3 = some (.invokevirtual 465, 3, 252, 2, 0, 2076) := by decide +kernel
theorem l_253_6 : look 253 6 = some (.ifCond .ne 7, 3, 0, 0, 0, 0) := by decide +kernel
theorem l_253_9 : look 253 9 = some (.iconst 1, 1, 0, 0, 0, 0) := by decide +kernel
theorem l_253_10 : look 253 10 = some (.goto 17, 3, 0, 0, 0, 0) := by decide +kernel
theorem l_253_13 : look 253 13 = some (.iload_n 2, 1, 0, 0, 0, 0) := by decide +kernel
theorem l_253_14 : look 253 14 = some (.iconst 0, 1, 0, 0, 0, 0) := by decide +kernel
theorem l_253_15 : look 253 15 = some (.iconst 4, 1, 0, 0, 0, 0) := by decide +kernel
theorem l_253_16 : look 253 16 = some (.invokestatic 175, 3, 169, 3, 1, 1775) := by decide +kernel
theorem l_253_19 : look 253 19 = some (.ifCond .ne 7, 3, 0, 0, 0, 0) := by decide +kernel
theorem l_253_22 : look 253 22 = some (.iconst 2, 1, 0, 0, 0, 0) := by decide +kernel
theorem l_253_23 : look 253 23 = some (.goto 4, 3, 0, 0, 0, 0) := by decide +kernel
theorem l_253_26 : look 253 26 = some (.iconst 0, 1, 0, 0, 0, 0) := by decide +kernel
theorem l_253_27 : look 253 27 = some (.putfield 152, 3, 10, 0, 0, 1501) := by decide +kernel
theorem l_253_30 : look 253 30 = some (.aload_n 0, 1, 0, 0, 0, 0) := by decide +kernel
theorem l_253_31 : look 253 31 = some (.getfield 152, 3, 10, 0, 0, 1501) := by decide +kernel
theorem l_253_34 : look 253 34 = some (.ifCond .le 7, 3, 0, 0, 0, 0) := by decide +kernel
theorem l_253_37 : look 253 37 = some (.iconst 0, 1, 0, 0, 0, 0) := by decide +kernel
theorem l_253_38 : look 253 38 = some (.goto 13, 3, 0, 0, 0, 0) := by decide +kernel
theorem l_253_41 : look 253 41 = some (.aload_n 0, 1, 0, 0, 0, 0) := by decide +kernel
theorem l_253_42 : look 253 42 = some (.getfield 140, 3, 10, 65, 2, 1566) := by decide +kernel
theorem l_253_45 : look 253 45 = some (.iconst 5, 1, 0, 0, 0, 0) := by decide +kernel
theorem l_253_46 : look 253 46 = some (.iload_n 1, 1, 0, 0, 0, 0) := by decide +kernel
theorem l_253_47 : look 253 47 = some (.iload_n 2, 1, 0, 0, 0, 0) := by decide +kernel
theorem l_253_48 : look 253 48 = some (.invokestatic 468, 3, 204, 4, 1, 2080) := by decide +kernel
theorem l_253_51 : look 253 51 = some (.ireturn, 1, 0, 0, 0, 0) := by decide +kernel

theorem s_253 (hm : oModel S T s) {ne np : Nat} {a : Nat → Nat} {cd : Nat → Cd} (B : MP I s h l a ne np cd) {k j : Nat} (hk : k < (runA h l noOut ne).2.1.length) (hj : j < 5): CL xs 253 [vr s, vi ((k : Nat) : Int), vi ((j : Nat) : Int)] (S, I, T, cc, zz) (RP S T cc zz (fun v I' => v = some (vi (drF ((runA h l noOut ne).2.1.getD k dr0) j)) ∧ I' s 0 = 0 ∧ mfk I I' s)) := by
  refine CL_start (r := 11) (ls := [vr s, vi ((k : Nat) : Int), vi ((j : Nat) : Int)]) (rk_253 _) rfl ?_
  have hl4 := B.2.2.2.2.1.1
  have hne := B.1.1
  have hnp := B.1.2.1
  have hok := (B.run noOut (Nat.le_refl ne)).1
  have hlen : (runA h l noOut ne).2.1.length ≤ 360 := by
    have h8 := hok.2.2
    unfold tot at h8
    omega
  refine w_aln l_253_0 rfl ?_
  refine w_aln l_253_1 rfl ?_
  refine w_iln l_253_2 rfl ?_
  refine p_iv [vi ((k : Nat) : Int)] [vr s] l_253_3 rfl rfl (Nat.le_of_ble_eq_true rfl) (by rw [mx_252]; exact Nat.le_of_ble_eq_true rfl) (by rw [mt_252]; exact oModel_sh hm) (by rw [mt_252]; decide) (by rw [rk_252]; decide) (s_252 hm B (k := ((k : Nat) : Int))) (fun v I1 hv => ?_)
  obtain ⟨rfl, hR1, f1⟩ := hv
  refine w_bne 13 l_253_6 (by decide) (fun _ => ?_) (fun hx => absurd hx (by rw [decide_eq_true (by omega)]; decide))
  refine w_iln l_253_13 rfl ?_
  refine w_ic l_253_14 (by decide) ?_
  refine w_ic l_253_15 (by decide) ?_
  refine q_st [vi ((j : Nat) : Int), vi 0, vi 4] [vr s] l_253_16 (by decide) rfl rfl (Nat.le_of_ble_eq_true rfl) (by rw [mx_169]; exact Nat.le_of_ble_eq_true rfl) (by rw [rk_169]; decide) (s_169) ?_
  refine w_bne 26 l_253_19 (by decide) (fun _ => ?_) (fun hx => absurd hx (by rw [decide_eq_true (by omega)]; decide))
  refine w_ic l_253_26 (by decide) ?_
  refine w_pi l_253_27 (oModel_sh hm) ?_
  refine w_aln l_253_30 rfl ?_
  refine w_gi 0 l_253_31 (oModel_sh hm) up_eq ?_
  refine w_zle 41 l_253_34 (by decide) (fun _ => ?_) (fun hx => absurd hx (by decide))
  refine w_aln l_253_41 rfl ?_
  refine w_gr l_253_42 (oModel_sh hm) (oModel_r65 hm) ?_
  refine w_ic l_253_45 (by decide) ?_
  refine w_iln l_253_46 rfl ?_
  refine w_iln l_253_47 rfl ?_
  refine q_st [vr (s + 36), vi 5, vi ((k : Nat) : Int), vi ((j : Nat) : Int)] [] l_253_48 (by decide) rfl rfl (Nat.le_of_ble_eq_true rfl) (by rw [mx_204]; exact Nat.le_of_ble_eq_true rfl) (by rw [rk_204]; decide) (s_204 hm (k := k) (j := j) (by omega)) ?_
  refine w_ir l_253_51 (Or.inl rfl) ?_
  refine ⟨_, _, rfl, rfl, ?_, up_eq, f1.k.tr (mfk.u (Or.inl rfl))⟩
  rw [up_no (by omega)]
  obtain ⟨e0, e1, e2, e3, e4⟩ := hR1.2.2.1 k hk
  rcases (show j = 0 ∨ j = 1 ∨ j = 2 ∨ j = 3 ∨ j = 4 by omega) with rfl | rfl | rfl | rfl | rfl
  · rw [show 5 * k + 0 = 5 * k from rfl, e0]; rfl
  · rw [e1]; rfl
  · rw [e2]; rfl
  · rw [e3]; rfl
  · rw [e4]; rfl

theorem s_253n (hm : oModel S T s) {ne np : Nat} {a : Nat → Nat} {cd : Nat → Cd} (B : MP I s h l a ne np cd) {k j : Int} (hk : ¬ (0 ≤ k ∧ k < (((runA h l noOut ne).2.1.length : Nat) : Int))): CL xs 253 [vr s, vi k, vi j] (S, I, T, cc, zz) (RP S T cc zz (fun v I' => v = some (vi 0) ∧ I' s 0 = 1 ∧ mfk I I' s)) := by
  refine CL_start (r := 11) (ls := [vr s, vi k, vi j]) (rk_253 _) rfl ?_
  have hl4 := B.2.2.2.2.1.1
  have hne := B.1.1
  have hnp := B.1.2.1
  have hok := (B.run noOut (Nat.le_refl ne)).1
  have hlen : (runA h l noOut ne).2.1.length ≤ 360 := by
    have h8 := hok.2.2
    unfold tot at h8
    omega
  refine w_aln l_253_0 rfl ?_
  refine w_aln l_253_1 rfl ?_
  refine w_iln l_253_2 rfl ?_
  refine p_iv [vi k] [vr s] l_253_3 rfl rfl (Nat.le_of_ble_eq_true rfl) (by rw [mx_252]; exact Nat.le_of_ble_eq_true rfl) (by rw [mt_252]; exact oModel_sh hm) (by rw [mt_252]; decide) (by rw [rk_252]; decide) (s_252 hm B (k := k)) (fun v I1 hv => ?_)
  obtain ⟨rfl, hR1, f1⟩ := hv
  refine w_bne 13 l_253_6 (by decide) (fun hx => absurd hx (by rw [decide_eq_false (by omega)]; decide)) (fun _ => ?_)
  refine w_ic l_253_9 (by decide) ?_
  refine w_go 27 l_253_10 (by decide) ?_
  refine w_pi l_253_27 (oModel_sh hm) ?_
  refine w_aln l_253_30 rfl ?_
  refine w_gi 1 l_253_31 (oModel_sh hm) up_eq ?_
  refine w_zle 41 l_253_34 (by decide) (fun hx => absurd hx (by decide)) (fun _ => ?_)
  refine w_ic l_253_37 (by decide) ?_
  refine w_go 51 l_253_38 (by decide) ?_
  refine w_ir l_253_51 (Or.inl rfl) ?_
  exact ⟨_, _, rfl, rfl, rfl, up_eq, f1.k.tr (mfk.u (Or.inl rfl))⟩

theorem s_253o (hm : oModel S T s) {ne np : Nat} {a : Nat → Nat} {cd : Nat → Cd} (B : MP I s h l a ne np cd) {k : Nat} {j : Int} (hk : k < (runA h l noOut ne).2.1.length) (hj : ¬ (0 ≤ j ∧ j ≤ 4)): CL xs 253 [vr s, vi ((k : Nat) : Int), vi j] (S, I, T, cc, zz) (RP S T cc zz (fun v I' => v = some (vi 0) ∧ I' s 0 = 2 ∧ mfk I I' s)) := by
  refine CL_start (r := 11) (ls := [vr s, vi ((k : Nat) : Int), vi j]) (rk_253 _) rfl ?_
  have hl4 := B.2.2.2.2.1.1
  have hne := B.1.1
  have hnp := B.1.2.1
  have hok := (B.run noOut (Nat.le_refl ne)).1
  have hlen : (runA h l noOut ne).2.1.length ≤ 360 := by
    have h8 := hok.2.2
    unfold tot at h8
    omega
  refine w_aln l_253_0 rfl ?_
  refine w_aln l_253_1 rfl ?_
  refine w_iln l_253_2 rfl ?_
  refine p_iv [vi ((k : Nat) : Int)] [vr s] l_253_3 rfl rfl (Nat.le_of_ble_eq_true rfl) (by rw [mx_252]; exact Nat.le_of_ble_eq_true rfl) (by rw [mt_252]; exact oModel_sh hm) (by rw [mt_252]; decide) (by rw [rk_252]; decide) (s_252 hm B (k := ((k : Nat) : Int))) (fun v I1 hv => ?_)
  obtain ⟨rfl, hR1, f1⟩ := hv
  refine w_bne 13 l_253_6 (by decide) (fun _ => ?_) (fun hx => absurd hx (by rw [decide_eq_true (by omega)]; decide))
  refine w_iln l_253_13 rfl ?_
  refine w_ic l_253_14 (by decide) ?_
  refine w_ic l_253_15 (by decide) ?_
  refine q_st [vi j, vi 0, vi 4] [vr s] l_253_16 (by decide) rfl rfl (Nat.le_of_ble_eq_true rfl) (by rw [mx_169]; exact Nat.le_of_ble_eq_true rfl) (by rw [rk_169]; decide) (s_169) ?_
  refine w_bne 26 l_253_19 (by decide) (fun hx => absurd hx (by rw [decide_eq_false (by omega)]; decide)) (fun _ => ?_)
  refine w_ic l_253_22 (by decide) ?_
  refine w_go 27 l_253_23 (by decide) ?_
  refine w_pi l_253_27 (oModel_sh hm) ?_
  refine w_aln l_253_30 rfl ?_
  refine w_gi 2 l_253_31 (oModel_sh hm) up_eq ?_
  refine w_zle 41 l_253_34 (by decide) (fun hx => absurd hx (by decide)) (fun _ => ?_)
  refine w_ic l_253_37 (by decide) ?_
  refine w_go 51 l_253_38 (by decide) ?_
  refine w_ir l_253_51 (Or.inl rfl) ?_
  exact ⟨_, _, rfl, rfl, rfl, up_eq, f1.k.tr (mfk.u (Or.inl rfl))⟩

theorem mx_254 : mxl 254 = 3 := by decide +kernel
theorem mt_254 : mtc 254 = 10 := by decide +kernel
theorem rk_254 (as : List AV) : rkA 254 as = 10 := rfl
theorem l_254_0 : look 254 0 = some (.aload_n 0, 1, 0, 0, 0, 0) := by decide +kernel
theorem l_254_1 : look 254 1 = some (.aload_n 0, 1, 0, 0, 0, 0) := by decide +kernel
theorem l_254_2 : look 254 2 = some (.iload_n 1, 1, 0, 0, 0, 0) := by decide +kernel
theorem l_254_3 : look 254 3 = some (.invokevirtual 459, 3, 230, 2, 0, 2028) := by decide +kernel
theorem l_254_6 : look 254 6 = some (.ifCond .eq 7, 3, 0, 0, 0, 0) := by decide +kernel
theorem l_254_9 : look 254 9 = some (.iconst 0, 1, 0, 0, 0, 0) := by decide +kernel
theorem l_254_10 : look 254 10 = some (.goto 4, 3, 0, 0, 0, 0) := by decide +kernel
theorem l_254_13 : look 254 13 = some (.iconst 1, 1, 0, 0, 0, 0) := by decide +kernel
theorem l_254_14 : look 254 14 = some (.putfield 152, 3, 10, 0, 0, 1501) := by decide +kernel
theorem l_254_17 : look 254 17 = some (.aload_n 0, 1, 0, 0, 0, 0) := by decide +kernel
theorem l_254_18 : look 254 18 = some (.getfield 152, 3, 10, 0, 0, 1501) := by decide +kernel
theorem l_254_21 : look 254 21 = some (.ifCond .le 5, 3, 0, 0, 0, 0) := by decide +kernel
theorem l_254_24 : look 254 24 = some (.iconst 0, 1, 0, 0, 0, 0) := by decide +kernel
theorem l_254_25 : look 254 25 = some (.ireturn, 1, 0, 0, 0, 0) := by decide +kernel
theorem l_254_26 : look 254 26 = some (.aload_n 0, 1, 0, 0, 0, 0) := by decide +kernel
theorem l_254_27 : look 254 27 = some (.invokevirtual 443, 3, 215, 1, 0, 1897) := by decide +kernel
theorem l_254_30 : look 254 30 = some (.iconst 0, 1, 0, 0, 0, 0) := by decide +kernel
theorem l_254_31 : look 254 31 = some (.istore_n 2, 1, 0, 0, 0, 0) := by decide +kernel
theorem l_254_32 : look 254 32 = some (.iload_n 2, 1, 0, 0, 0, 0) := by decide +kernel
theorem l_254_33 : look 254 33 = some (.aload_n 0, 1, 0, 0, 0, 0) := by decide +kernel
theorem l_254_34 : look 254 34 = some (.getfield 369, 3, 10, 66, 0, 1567) := by decide +kernel
theorem l_254_37 : look 254 37 = some (.if_icmp .ge 25, 3, 0, 0, 0, 0) := by decide +kernel
theorem l_254_40 : look 254 40 = some (.aload_n 0, 1, 0, 0, 0, 0) := by decide +kernel
theorem l_254_41 : look 254 41 = some (.getfield 140, 3, 10, 65, 2, 1566) := by decide +kernel
theorem l_254_44 : look 254 44 = some (.iconst 5, 1, 0, 0, 0, 0) := by decide +kernel
theorem l_254_45 : look 254 45 = some (.iload_n 2, 1, 0, 0, 0, 0) := by decide +kernel
theorem l_254_46 : look 254 46 = some (.iconst 1, 1, 0, 0, 0, 0) := by decide +kernel
theorem l_254_47 : look 254 47 = some (.invokestatic 468, 3, 204, 4, 1, 2080) := by decide +kernel
theorem l_254_50 : look 254 50 = some (.iload_n 1, 1, 0, 0, 0, 0) := by decide +kernel
theorem l_254_51 : look 254 51 = some (.if_icmp .ne 5, 3, 0, 0, 0, 0) := by decide +kernel
theorem l_254_54 : look 254 54 = some (.iload_n 2, 1, 0, 0, 0, 0) := by decide +kernel
theorem l_254_55 : look 254 55 = some (.ireturn, 1, 0, 0, 0, 0) := by decide +kernel
theorem l_254_56 : look 254 56 = some (.iinc 2 1, 3, 0, 0, 0, 0) := by decide +kernel
theorem l_254_59 : look 254 59 = some (.goto (-27), 3, 0, 0, 0, 0) := by decide +kernel
theorem l_254_62 : look 254 62 = some (.iconst (-1), 1, 0, 0, 0, 0) := by decide +kernel
theorem l_254_63 : look 254 63 = some (.ireturn, 1, 0, 0, 0, 0) := by decide +kernel

theorem lp_254 (hm : oModel S T s) (hL : nL I s g) {p : Int} : ∀ d k, k + d = g.1.length → WP xs 254 10 32 [vr s, vi p, vi ((k : Nat) : Int)] [] (S, I, T, cc, zz) (FN (some (vi (firstK (isPk p) g.1 d k))) (S, I, T, cc, zz)) := by
  intro d
  have h360 := hL.1.2
  induction d with
  | zero =>
    intro k hk0
    refine w_iln l_254_32 rfl ?_
    refine w_aln l_254_33 rfl ?_
    refine w_gi ((g.1.length : Nat) : Int) l_254_34 (oModel_sh hm) hL.1.1 ?_
    refine w_cge 62 l_254_37 (by decide) (fun _ => ?_) (fun hx => absurd hx (by omega))
    refine w_ic l_254_62 (by decide) ?_
    refine w_ir l_254_63 (Or.inl rfl) ?_
    exact ⟨rfl, rfl⟩
  | succ d ih =>
    intro k hk0
    have hk : k < g.1.length := by omega
    refine w_iln l_254_32 rfl ?_
    refine w_aln l_254_33 rfl ?_
    refine w_gi ((g.1.length : Nat) : Int) l_254_34 (oModel_sh hm) hL.1.1 ?_
    refine w_cge 62 l_254_37 (by decide) (fun hx => absurd hx (by omega)) (fun _ => ?_)
    refine w_aln l_254_40 rfl ?_
    refine w_gr l_254_41 (oModel_sh hm) (oModel_r65 hm) ?_
    refine w_ic l_254_44 (by decide) ?_
    refine w_iln l_254_45 rfl ?_
    refine w_ic l_254_46 (by decide) ?_
    refine q_st [vr (s + 36), vi 5, vi ((k : Nat) : Int), vi 1] [] l_254_47 (by decide) rfl rfl (Nat.le_of_ble_eq_true rfl) (by rw [mx_204]; exact Nat.le_of_ble_eq_true rfl) (by rw [rk_204]; decide) (r_part1 hm hL hk) ?_
    refine w_iln l_254_50 rfl ?_
    refine w_cne 56 l_254_51 (by decide) (fun h1 => ?_) (fun h1 => ?_)
    · skip
      refine w_inc ((k + 1 : Nat) : Int) l_254_56 rfl rfl (by unfold wr; omega) ?_
      refine w_go 32 l_254_59 (by decide) ?_
      have hf : isPk p (g.1.getD k dr0) = false := decide_eq_false (by omega)
      have e9 := ih (k + 1) (by omega)
      rw [show firstK (isPk p) g.1 (d + 1) k = firstK (isPk p) g.1 d (k + 1) from if_neg (by rw [hf]; decide)]
      exact e9
    · skip
      refine w_iln l_254_54 rfl ?_
      refine w_ir l_254_55 (Or.inl rfl) ?_
      have hf : isPk p (g.1.getD k dr0) = true := decide_eq_true (by omega)
      rw [show firstK (isPk p) g.1 (d + 1) k = (k : Int) from if_pos hf]
      exact ⟨rfl, rfl⟩
theorem s_254 (hm : oModel S T s) {ne np : Nat} {a : Nat → Nat} {cd : Nat → Cd} (B : MP I s h l a ne np cd) {p : Int} (hp : 0 ≤ p ∧ p ≤ ((np : Nat) : Int) - 1): CL xs 254 [vr s, vi p] (S, I, T, cc, zz) (RP S T cc zz (fun v I' => v = some (vi (firstK (isPk p) (runA h l noOut ne).2.1 (runA h l noOut ne).2.1.length 0)) ∧ I' s 0 = 0 ∧ mfk I I' s)) := by
  refine CL_start (r := 10) (ls := [vr s, vi p, vs 2]) (rk_254 _) rfl ?_
  refine w_aln l_254_0 rfl ?_
  refine w_aln l_254_1 rfl ?_
  refine w_iln l_254_2 rfl ?_
  refine q_iv [vi p] [vr s] l_254_3 rfl rfl (Nat.le_of_ble_eq_true rfl) (by rw [mx_230]; exact Nat.le_of_ble_eq_true rfl) (by rw [mt_230]; exact oModel_sh hm) (by rw [mt_230]; decide) (by rw [rk_230]; decide) (s_230 hm B) ?_
  refine w_beq 13 l_254_6 (by decide) (fun hx => absurd hx (by rw [decide_eq_true hp]; decide)) (fun _ => ?_)
  refine w_ic l_254_9 (by decide) ?_
  refine w_go 14 l_254_10 (by decide) ?_
  refine w_pi l_254_14 (oModel_sh hm) ?_
  refine w_aln l_254_17 rfl ?_
  refine w_gi 0 l_254_18 (oModel_sh hm) up_eq ?_
  refine w_zle 26 l_254_21 (by decide) (fun _ => ?_) (fun hx => absurd hx (by decide))
  refine w_aln l_254_26 rfl ?_
  refine p_iv [] [] l_254_27 rfl rfl (Nat.le_of_ble_eq_true rfl) (by rw [mx_215]; exact Nat.le_of_ble_eq_true rfl) (by rw [mt_215]; exact oModel_sh hm) (by rw [mt_215]; decide) (by rw [rk_215]; decide) (s_215 hm (B.k (mfk.u (Or.inl rfl)))) (fun v I1 hv => ?_)
  obtain ⟨rfl, hR1, f1, _, hLi⟩ := hv
  refine w_ic l_254_30 (by decide) ?_
  refine w_isn l_254_31 ⟨Nat.le_of_ble_eq_true rfl, rfl⟩ ?_
  refine WP_mono (lp_254 hm hR1.2 _ 0 (Nat.zero_add _)) ?_
  rintro q m' ⟨rfl, rfl⟩
  exact ⟨_, _, rfl, rfl, rfl, ((f1 s 0 (fun _ => Or.inl (by decide)) (fun e => absurd e (Nat.lt_irrefl s))).trans up_eq), (mfk.u (Or.inl rfl)).tr f1.k⟩

theorem s_254n (hm : oModel S T s) {ne np : Nat} {a : Nat → Nat} {cd : Nat → Cd} (B : MP I s h l a ne np cd) {p : Int} (hp : ¬ (0 ≤ p ∧ p ≤ ((np : Nat) : Int) - 1)): CL xs 254 [vr s, vi p] (S, I, T, cc, zz) (RP S T cc zz (fun v I' => v = some (vi 0) ∧ I' s 0 = 1 ∧ mfk I I' s)) := by
  refine CL_start (r := 10) (ls := [vr s, vi p, vs 2]) (rk_254 _) rfl ?_
  refine w_aln l_254_0 rfl ?_
  refine w_aln l_254_1 rfl ?_
  refine w_iln l_254_2 rfl ?_
  refine q_iv [vi p] [vr s] l_254_3 rfl rfl (Nat.le_of_ble_eq_true rfl) (by rw [mx_230]; exact Nat.le_of_ble_eq_true rfl) (by rw [mt_230]; exact oModel_sh hm) (by rw [mt_230]; decide) (by rw [rk_230]; decide) (s_230 hm B) ?_
  refine w_beq 13 l_254_6 (by decide) (fun _ => ?_) (fun hx => absurd hx (by rw [decide_eq_false hp]; decide))
  refine w_ic l_254_13 (by decide) ?_
  refine w_pi l_254_14 (oModel_sh hm) ?_
  refine w_aln l_254_17 rfl ?_
  refine w_gi 1 l_254_18 (oModel_sh hm) up_eq ?_
  refine w_zle 26 l_254_21 (by decide) (fun hx => absurd hx (by decide)) (fun _ => ?_)
  refine w_ic l_254_24 (by decide) ?_
  refine w_ir l_254_25 (Or.inl rfl) ?_
  exact ⟨_, _, rfl, rfl, rfl, up_eq, (mfk.u (Or.inl rfl))⟩

theorem mx_257 : mxl 257 = 2 := by decide +kernel
theorem mt_257 : mtc 257 = 10 := by decide +kernel
theorem rk_257 (as : List AV) : rkA 257 as = 10 := rfl
theorem l_257_0 : look 257 0 = some (.aload_n 0, 1, 0, 0, 0, 0) := by decide +kernel
theorem l_257_1 : look 257 1 = some (.iload_n 1, 1, 0, 0, 0, 0) := by decide +kernel
theorem l_257_2 : look 257 2 = some (.invokestatic 472, 3, 256, 1, 1, 2091) := by decide +kernel
theorem l_257_5 : look 257 5 = some (.ifCond .eq 7, 3, 0, 0, 0, 0) := by decide +kernel
theorem l_257_8 : look 257 8 = some (.iconst 0, 1, 0, 0, 0, 0) := by decide +kernel
theorem l_257_9 : look 257 9 = some (.goto 4, 3, 0, 0, 0, 0) := by decide +kernel
theorem l_257_12 : look 257 12 = some (.iconst 1, 1, 0, 0, 0, 0) := by decide +kernel
theorem l_257_13 : look 257 13 = some (.putfield 152, 3, 10, 0, 0, 1501) := by decide +kernel
theorem l_257_16 : look 257 16 = some (.aload_n 0, 1, 0, 0, 0, 0) := by decide +kernel
theorem l_257_17 : look 257 17 = some (.getfield 152, 3, 10, 0, 0, 1501) := by decide +kernel
theorem l_257_20 : look 257 20 = some (.ifCond .le 5, 3, 0, 0, 0, 0) := by decide +kernel
theorem l_257_23 : look 257 23 = some (.iconst 0, 1, 0, 0, 0, 0) := by decide +kernel
theorem l_257_24 : look 257 24 = some (.ireturn, 1, 0, 0, 0, 0) := by decide +kernel
theorem l_257_25 : look 257 25 = some (.aload_n 0, 1, 0, 0, 0, 0) := by decide +kernel
theorem l_257_26 : look 257 26 = some (.invokevirtual 443, 3, 215, 1, 0, 1897) := by decide +kernel
theorem l_257_29 : look 257 29 = some (.aload_n 0, 1, 0, 0, 0, 0) := by decide +kernel
theorem l_257_30 : look 257 30 = some (.iload_n 1, 1, 0, 0, 0, 0) := by decide +kernel
theorem l_257_31 : look 257 31 = some (.iconst (-1), 1, 0, 0, 0, 0) := by decide +kernel
theorem l_257_32 : look 257 32 = some (.invokevirtual 475, 3, 255, 3, 0, 2094) := by decide +kernel
theorem l_257_35 : look 257 35 = some (.ireturn, 1, 0, 0, 0, 0) := by decide +kernel

theorem s_257 (hm : oModel S T s) {ne np : Nat} {a : Nat → Nat} {cd : Nat → Cd} (B : MP I s h l a ne np cd) {p : Int} (hp : 1 ≤ p ∧ p ≤ 10): CL xs 257 [vr s, vi p] (S, I, T, cc, zz) (RP S T cc zz (fun v I' => v = some (vi ((cntK (isByR p (-1)) (runA h l noOut ne).2.1 (runA h l noOut ne).2.1.length : Nat) : Int)) ∧ I' s 0 = 0 ∧ mfk I I' s)) := by
  refine CL_start (r := 10) (ls := [vr s, vi p]) (rk_257 _) rfl ?_
  refine w_aln l_257_0 rfl ?_
  refine w_iln l_257_1 rfl ?_
  refine q_st [vi p] [vr s] l_257_2 (by decide) rfl rfl (Nat.le_of_ble_eq_true rfl) (by rw [mx_256]; exact Nat.le_of_ble_eq_true rfl) (by rw [rk_256]; decide) (s_256) ?_
  refine w_beq 12 l_257_5 (by decide) (fun hx => absurd hx (by rw [decide_eq_true hp]; decide)) (fun _ => ?_)
  refine w_ic l_257_8 (by decide) ?_
  refine w_go 13 l_257_9 (by decide) ?_
  refine w_pi l_257_13 (oModel_sh hm) ?_
  refine w_aln l_257_16 rfl ?_
  refine w_gi 0 l_257_17 (oModel_sh hm) up_eq ?_
  refine w_zle 25 l_257_20 (by decide) (fun _ => ?_) (fun hx => absurd hx (by decide))
  refine w_aln l_257_25 rfl ?_
  refine p_iv [] [] l_257_26 rfl rfl (Nat.le_of_ble_eq_true rfl) (by rw [mx_215]; exact Nat.le_of_ble_eq_true rfl) (by rw [mt_215]; exact oModel_sh hm) (by rw [mt_215]; decide) (by rw [rk_215]; decide) (s_215 hm (B.k (mfk.u (Or.inl rfl)))) (fun v I1 hv => ?_)
  obtain ⟨rfl, hR1, f1, _, hLi⟩ := hv
  refine w_aln l_257_29 rfl ?_
  refine w_iln l_257_30 rfl ?_
  refine w_ic l_257_31 (by decide) ?_
  refine q_iv [vi p, vi (-1)] [] l_257_32 rfl rfl (Nat.le_of_ble_eq_true rfl) (by rw [mx_255]; exact Nat.le_of_ble_eq_true rfl) (by rw [mt_255]; exact oModel_sh hm) (by rw [mt_255]; decide) (by rw [rk_255]; decide) (s_255 hm hR1.2) ?_
  refine w_ir l_257_35 (Or.inl rfl) ?_
  exact ⟨_, _, rfl, rfl, rfl, ((f1 s 0 (fun _ => Or.inl (by decide)) (fun e => absurd e (Nat.lt_irrefl s))).trans up_eq), (mfk.u (Or.inl rfl)).tr f1.k⟩

theorem s_257n (hm : oModel S T s) {ne np : Nat} {a : Nat → Nat} {cd : Nat → Cd} (B : MP I s h l a ne np cd) {p : Int} (hp : ¬ (1 ≤ p ∧ p ≤ 10)): CL xs 257 [vr s, vi p] (S, I, T, cc, zz) (RP S T cc zz (fun v I' => v = some (vi 0) ∧ I' s 0 = 1 ∧ mfk I I' s)) := by
  refine CL_start (r := 10) (ls := [vr s, vi p]) (rk_257 _) rfl ?_
  refine w_aln l_257_0 rfl ?_
  refine w_iln l_257_1 rfl ?_
  refine q_st [vi p] [vr s] l_257_2 (by decide) rfl rfl (Nat.le_of_ble_eq_true rfl) (by rw [mx_256]; exact Nat.le_of_ble_eq_true rfl) (by rw [rk_256]; decide) (s_256) ?_
  refine w_beq 12 l_257_5 (by decide) (fun _ => ?_) (fun hx => absurd hx (by rw [decide_eq_false hp]; decide))
  refine w_ic l_257_12 (by decide) ?_
  refine w_pi l_257_13 (oModel_sh hm) ?_
  refine w_aln l_257_16 rfl ?_
  refine w_gi 1 l_257_17 (oModel_sh hm) up_eq ?_
  refine w_zle 25 l_257_20 (by decide) (fun hx => absurd hx (by decide)) (fun _ => ?_)
  refine w_ic l_257_23 (by decide) ?_
  refine w_ir l_257_24 (Or.inl rfl) ?_
  exact ⟨_, _, rfl, rfl, rfl, up_eq, (mfk.u (Or.inl rfl))⟩

theorem mx_258 : mxl 258 = 2 := by decide +kernel
theorem mt_258 : mtc 258 = 10 := by decide +kernel
theorem rk_258 (as : List AV) : rkA 258 as = 10 := rfl
theorem l_258_0 : look 258 0 = some (.aload_n 0, 1, 0, 0, 0, 0) := by decide +kernel
theorem l_258_1 : look 258 1 = some (.aload_n 0, 1, 0, 0, 0, 0) := by decide +kernel
theorem l_258_2 : look 258 2 = some (.iload_n 1, 1, 0, 0, 0, 0) := by decide +kernel
theorem l_258_3 : look 258 3 = some (.invokevirtual 478, 3, 229, 2, 0, 2102) := by decide +kernel
theorem l_258_6 : look 258 6 = some (.ifCond .eq 7, 3, 0, 0, 0, 0) := by decide +kernel
theorem l_258_9 : look 258 9 = some (.iconst 0, 1, 0, 0, 0, 0) := by decide +kernel
theorem l_258_10 : look 258 10 = some (.goto 4, 3, 0, 0, 0, 0) := by decide +kernel
theorem l_258_13 : look 258 13 = some (.iconst 1, 1, 0, 0, 0, 0) := by decide +kernel
theorem l_258_14 : look 258 14 = some (.putfield 152, 3, 10, 0, 0, 1501) := by decide +kernel
theorem l_258_17 : look 258 17 = some (.aload_n 0, 1, 0, 0, 0, 0) := by decide +kernel
theorem l_258_18 : look 258 18 = some (.getfield 152, 3, 10, 0, 0, 1501) := by decide +kernel
theorem l_258_21 : look 258 21 = some (.ifCond .le 5, 3, 0, 0, 0, 0) := by decide +kernel
theorem l_258_24 : look 258 24 = some (.iconst 0, 1, 0, 0, 0, 0) := by decide +kernel
theorem l_258_25 : look 258 25 = some (.ireturn, 1, 0, 0, 0, 0) := by decide +kernel
theorem l_258_26 : look 258 26 = some (.aload_n 0, 1, 0, 0, 0, 0) := by decide +kernel
theorem l_258_27 : look 258 27 = some (.invokevirtual 443, 3, 215, 1, 0, 1897) := by decide +kernel
theorem l_258_30 : look 258 30 = some (.aload_n 0, 1, 0, 0, 0, 0) := by decide +kernel
theorem l_258_31 : look 258 31 = some (.iconst 2, 1, 0, 0, 0, 0) := by decide +kernel
theorem l_258_32 : look 258 32 = some (.iload_n 1, 1, 0, 0, 0, 0) := by decide +kernel
theorem l_258_33 : look 258 33 = some (.invokevirtual 475, 3, 255, 3, 0, 2094) := by decide +kernel
theorem l_258_36 : look 258 36 = some (.ireturn, 1, 0, 0, 0, 0) := by decide +kernel

theorem s_258 (hm : oModel S T s) {ne np : Nat} {a : Nat → Nat} {cd : Nat → Cd} (B : MP I s h l a ne np cd) {p : Int} (hp : 0 ≤ p ∧ p ≤ ((lRules l : Nat) : Int) - 1): CL xs 258 [vr s, vi p] (S, I, T, cc, zz) (RP S T cc zz (fun v I' => v = some (vi ((cntK (isByR 2 p) (runA h l noOut ne).2.1 (runA h l noOut ne).2.1.length : Nat) : Int)) ∧ I' s 0 = 0 ∧ mfk I I' s)) := by
  refine CL_start (r := 10) (ls := [vr s, vi p]) (rk_258 _) rfl ?_
  refine w_aln l_258_0 rfl ?_
  refine w_aln l_258_1 rfl ?_
  refine w_iln l_258_2 rfl ?_
  refine q_iv [vi p] [vr s] l_258_3 rfl rfl (Nat.le_of_ble_eq_true rfl) (by rw [mx_229]; exact Nat.le_of_ble_eq_true rfl) (by rw [mt_229]; exact oModel_sh hm) (by rw [mt_229]; decide) (by rw [rk_229]; decide) (s_229 hm B) ?_
  refine w_beq 13 l_258_6 (by decide) (fun hx => absurd hx (by rw [decide_eq_true hp]; decide)) (fun _ => ?_)
  refine w_ic l_258_9 (by decide) ?_
  refine w_go 14 l_258_10 (by decide) ?_
  refine w_pi l_258_14 (oModel_sh hm) ?_
  refine w_aln l_258_17 rfl ?_
  refine w_gi 0 l_258_18 (oModel_sh hm) up_eq ?_
  refine w_zle 26 l_258_21 (by decide) (fun _ => ?_) (fun hx => absurd hx (by decide))
  refine w_aln l_258_26 rfl ?_
  refine p_iv [] [] l_258_27 rfl rfl (Nat.le_of_ble_eq_true rfl) (by rw [mx_215]; exact Nat.le_of_ble_eq_true rfl) (by rw [mt_215]; exact oModel_sh hm) (by rw [mt_215]; decide) (by rw [rk_215]; decide) (s_215 hm (B.k (mfk.u (Or.inl rfl)))) (fun v I1 hv => ?_)
  obtain ⟨rfl, hR1, f1, _, hLi⟩ := hv
  refine w_aln l_258_30 rfl ?_
  refine w_ic l_258_31 (by decide) ?_
  refine w_iln l_258_32 rfl ?_
  refine q_iv [vi 2, vi p] [] l_258_33 rfl rfl (Nat.le_of_ble_eq_true rfl) (by rw [mx_255]; exact Nat.le_of_ble_eq_true rfl) (by rw [mt_255]; exact oModel_sh hm) (by rw [mt_255]; decide) (by rw [rk_255]; decide) (s_255 hm hR1.2) ?_
  refine w_ir l_258_36 (Or.inl rfl) ?_
  exact ⟨_, _, rfl, rfl, rfl, ((f1 s 0 (fun _ => Or.inl (by decide)) (fun e => absurd e (Nat.lt_irrefl s))).trans up_eq), (mfk.u (Or.inl rfl)).tr f1.k⟩

theorem s_258n (hm : oModel S T s) {ne np : Nat} {a : Nat → Nat} {cd : Nat → Cd} (B : MP I s h l a ne np cd) {p : Int} (hp : ¬ (0 ≤ p ∧ p ≤ ((lRules l : Nat) : Int) - 1)): CL xs 258 [vr s, vi p] (S, I, T, cc, zz) (RP S T cc zz (fun v I' => v = some (vi 0) ∧ I' s 0 = 1 ∧ mfk I I' s)) := by
  refine CL_start (r := 10) (ls := [vr s, vi p]) (rk_258 _) rfl ?_
  refine w_aln l_258_0 rfl ?_
  refine w_aln l_258_1 rfl ?_
  refine w_iln l_258_2 rfl ?_
  refine q_iv [vi p] [vr s] l_258_3 rfl rfl (Nat.le_of_ble_eq_true rfl) (by rw [mx_229]; exact Nat.le_of_ble_eq_true rfl) (by rw [mt_229]; exact oModel_sh hm) (by rw [mt_229]; decide) (by rw [rk_229]; decide) (s_229 hm B) ?_
  refine w_beq 13 l_258_6 (by decide) (fun _ => ?_) (fun hx => absurd hx (by rw [decide_eq_false hp]; decide))
  refine w_ic l_258_13 (by decide) ?_
  refine w_pi l_258_14 (oModel_sh hm) ?_
  refine w_aln l_258_17 rfl ?_
  refine w_gi 1 l_258_18 (oModel_sh hm) up_eq ?_
  refine w_zle 26 l_258_21 (by decide) (fun hx => absurd hx (by decide)) (fun _ => ?_)
  refine w_ic l_258_24 (by decide) ?_
  refine w_ir l_258_25 (Or.inl rfl) ?_
  exact ⟨_, _, rfl, rfl, rfl, up_eq, (mfk.u (Or.inl rfl))⟩

theorem mx_259 : mxl 259 = 2 := by decide +kernel
theorem mt_259 : mtc 259 = 10 := by decide +kernel
theorem rk_259 (as : List AV) : rkA 259 as = 10 := rfl
theorem l_259_0 : look 259 0 = some (.aload_n 0, 1, 0, 0, 0, 0) := by decide +kernel
theorem l_259_1 : look 259 1 = some (.aload_n 0, 1, 0, 0, 0, 0) := by decide +kernel
theorem l_259_2 : look 259 2 = some (.iload_n 1, 1, 0, 0, 0, 0) := by decide +kernel
theorem l_259_3 : look 259 3 = some (.invokevirtual 459, 3, 230, 2, 0, 2028) := by decide +kernel
theorem l_259_6 : look 259 6 = some (.ifCond .eq 7, 3, 0, 0, 0, 0) := by decide +kernel
theorem l_259_9 : look 259 9 = some (.iconst 0, 1, 0, 0, 0, 0) := by decide +kernel
theorem l_259_10 : look 259 10 = some (.goto 4, 3, 0, 0, 0, 0) := by decide +kernel
theorem l_259_13 : look 259 13 = some (.iconst 1, 1, 0, 0, 0, 0) := by decide +kernel
theorem l_259_14 : look 259 14 = some (.putfield 152, 3, 10, 0, 0, 1501) := by decide +kernel
theorem l_259_17 : look 259 17 = some (.aload_n 0, 1, 0, 0, 0, 0) := by decide +kernel
theorem l_259_18 : look 259 18 = some (.getfield 152, 3, 10, 0, 0, 1501) := by decide +kernel
theorem l_259_21 : look 259 21 = some (.ifCond .le 5, 3, 0, 0, 0, 0) := by decide +kernel
theorem l_259_24 : look 259 24 = some (.iconst 0, 1, 0, 0, 0, 0) := by decide +kernel
theorem l_259_25 : look 259 25 = some (.ireturn, 1, 0, 0, 0, 0) := by decide +kernel
theorem l_259_26 : look 259 26 = some (.aload_n 0, 1, 0, 0, 0, 0) := by decide +kernel
theorem l_259_27 : look 259 27 = some (.invokevirtual 443, 3, 215, 1, 0, 1897) := by decide +kernel
theorem l_259_30 : look 259 30 = some (.aload_n 0, 1, 0, 0, 0, 0) := by decide +kernel
theorem l_259_31 : look 259 31 = some (.bipush 8, 2, 0, 0, 0, 0) := by decide +kernel
theorem l_259_33 : look 259 33 = some (.iload_n 1, 1, 0, 0, 0, 0) := by decide +kernel
theorem l_259_34 : look 259 34 = some (.invokevirtual 475, 3, 255, 3, 0, 2094) := by decide +kernel
theorem l_259_37 : look 259 37 = some (.ireturn, 1, 0, 0, 0, 0) := by decide +kernel

theorem s_259 (hm : oModel S T s) {ne np : Nat} {a : Nat → Nat} {cd : Nat → Cd} (B : MP I s h l a ne np cd) {p : Int} (hp : 0 ≤ p ∧ p ≤ ((np : Nat) : Int) - 1): CL xs 259 [vr s, vi p] (S, I, T, cc, zz) (RP S T cc zz (fun v I' => v = some (vi ((cntK (isByR 8 p) (runA h l noOut ne).2.1 (runA h l noOut ne).2.1.length : Nat) : Int)) ∧ I' s 0 = 0 ∧ mfk I I' s)) := by
  refine CL_start (r := 10) (ls := [vr s, vi p]) (rk_259 _) rfl ?_
  refine w_aln l_259_0 rfl ?_
  refine w_aln l_259_1 rfl ?_
  refine w_iln l_259_2 rfl ?_
  refine q_iv [vi p] [vr s] l_259_3 rfl rfl (Nat.le_of_ble_eq_true rfl) (by rw [mx_230]; exact Nat.le_of_ble_eq_true rfl) (by rw [mt_230]; exact oModel_sh hm) (by rw [mt_230]; decide) (by rw [rk_230]; decide) (s_230 hm B) ?_
  refine w_beq 13 l_259_6 (by decide) (fun hx => absurd hx (by rw [decide_eq_true hp]; decide)) (fun _ => ?_)
  refine w_ic l_259_9 (by decide) ?_
  refine w_go 14 l_259_10 (by decide) ?_
  refine w_pi l_259_14 (oModel_sh hm) ?_
  refine w_aln l_259_17 rfl ?_
  refine w_gi 0 l_259_18 (oModel_sh hm) up_eq ?_
  refine w_zle 26 l_259_21 (by decide) (fun _ => ?_) (fun hx => absurd hx (by decide))
  refine w_aln l_259_26 rfl ?_
  refine p_iv [] [] l_259_27 rfl rfl (Nat.le_of_ble_eq_true rfl) (by rw [mx_215]; exact Nat.le_of_ble_eq_true rfl) (by rw [mt_215]; exact oModel_sh hm) (by rw [mt_215]; decide) (by rw [rk_215]; decide) (s_215 hm (B.k (mfk.u (Or.inl rfl)))) (fun v I1 hv => ?_)
  obtain ⟨rfl, hR1, f1, _, hLi⟩ := hv
  refine w_aln l_259_30 rfl ?_
  refine w_bp l_259_31 (by decide) ?_
  refine w_iln l_259_33 rfl ?_
  refine q_iv [vi 8, vi p] [] l_259_34 rfl rfl (Nat.le_of_ble_eq_true rfl) (by rw [mx_255]; exact Nat.le_of_ble_eq_true rfl) (by rw [mt_255]; exact oModel_sh hm) (by rw [mt_255]; decide) (by rw [rk_255]; decide) (s_255 hm hR1.2) ?_
  refine w_ir l_259_37 (Or.inl rfl) ?_
  exact ⟨_, _, rfl, rfl, rfl, ((f1 s 0 (fun _ => Or.inl (by decide)) (fun e => absurd e (Nat.lt_irrefl s))).trans up_eq), (mfk.u (Or.inl rfl)).tr f1.k⟩

theorem s_259n (hm : oModel S T s) {ne np : Nat} {a : Nat → Nat} {cd : Nat → Cd} (B : MP I s h l a ne np cd) {p : Int} (hp : ¬ (0 ≤ p ∧ p ≤ ((np : Nat) : Int) - 1)): CL xs 259 [vr s, vi p] (S, I, T, cc, zz) (RP S T cc zz (fun v I' => v = some (vi 0) ∧ I' s 0 = 1 ∧ mfk I I' s)) := by
  refine CL_start (r := 10) (ls := [vr s, vi p]) (rk_259 _) rfl ?_
  refine w_aln l_259_0 rfl ?_
  refine w_aln l_259_1 rfl ?_
  refine w_iln l_259_2 rfl ?_
  refine q_iv [vi p] [vr s] l_259_3 rfl rfl (Nat.le_of_ble_eq_true rfl) (by rw [mx_230]; exact Nat.le_of_ble_eq_true rfl) (by rw [mt_230]; exact oModel_sh hm) (by rw [mt_230]; decide) (by rw [rk_230]; decide) (s_230 hm B) ?_
  refine w_beq 13 l_259_6 (by decide) (fun _ => ?_) (fun hx => absurd hx (by rw [decide_eq_false hp]; decide))
  refine w_ic l_259_13 (by decide) ?_
  refine w_pi l_259_14 (oModel_sh hm) ?_
  refine w_aln l_259_17 rfl ?_
  refine w_gi 1 l_259_18 (oModel_sh hm) up_eq ?_
  refine w_zle 26 l_259_21 (by decide) (fun hx => absurd hx (by decide)) (fun _ => ?_)
  refine w_ic l_259_24 (by decide) ?_
  refine w_ir l_259_25 (Or.inl rfl) ?_
  exact ⟨_, _, rfl, rfl, rfl, up_eq, (mfk.u (Or.inl rfl))⟩

theorem mx_239 : mxl 239 = 2 := by decide +kernel
theorem mt_239 : mtc 239 = 10 := by decide +kernel
theorem rk_239 (as : List AV) : rkA 239 as = 2 := rfl
theorem l_239_0 : look 239 0 = some (.aload_n 0, 1, 0, 0, 0, 0) := by decide +kernel
theorem l_239_1 : look 239 1 = some (.aload_n 0, 1, 0, 0, 0, 0) := by decide +kernel
theorem l_239_2 : look 239 2 = some (.iload_n 1, 1, 0, 0, 0, 0) := by decide +kernel
theorem l_239_3 : look 239 3 = some (.invokevirtual 456, 3, 231, 2, 0, 2016) := by decide +kernel
theorem l_239_6 : look 239 6 = some (.ifCond .eq 7, 3, 0, 0, 0, 0) := by decide +kernel
theorem l_239_9 : look 239 9 = some (.iconst 0, 1, 0, 0, 0, 0) := by decide +kernel
theorem l_239_10 : look 239 10 = some (.goto 4, 3, 0, 0, 0, 0) := by decide +kernel
theorem l_239_13 : look 239 13 = some (.iconst 1, 1, 0, 0, 0, 0) := by decide +kernel
theorem l_239_14 : look 239 14 = some (.putfield 152, 3, 10, 0, 0, 1501) := by decide +kernel
theorem l_239_17 : look 239 17 = some (.aload_n 0, 1, 0, 0, 0, 0) := by decide +kernel
theorem l_239_18 : look 239 18 = some (.getfield 152, 3, 10, 0, 0, 1501) := by decide +kernel
theorem l_239_21 : look 239 21 = some (.ifCond .le 7, 3, 0, 0, 0, 0) := by decide +kernel
theorem l_239_24 : look 239 24 = some (.iconst 0, 1, 0, 0, 0, 0) := by decide +kernel
theorem l_239_25 : look 239 25 = some (.goto 9, 3, 0, 0, 0, 0) := by decide +kernel
theorem l_239_28 : look 239 28 = some (.aload_n 0, 1, 0, 0, 0, 0) := by decide +kernel
theorem l_239_29 : look 239 29 = some (.iload_n 1, 1, 0, 0, 0, 0) := by decide +kernel
theorem l_239_30 : look 239 30 = some (.iconst 0, 1, 0, 0, 0, 0) := by decide +kernel
theorem l_239_31 : look 239 31 = some (.invokevirtual 357, 3, 205, 3, 0, 1917) := by decide +kernel
theorem l_239_34 : look 239 34 = some (.ireturn, 1, 0, 0, 0, 0) := by decide +kernel

theorem s_239 (hm : oModel S T s) {ne np : Nat} {a : Nat → Nat} {cd : Nat → Cd} (B : MP I s h l a ne np cd) {e : Nat} (he : e < ne): CL xs 239 [vr s, vi ((e : Nat) : Int)] (S, I, T, cc, zz) (RP S T cc zz (fun v I' => v = some (vi ((hKind h e : Nat) : Int)) ∧ I' s 0 = 0 ∧ mfk I I' s)) := by
  refine CL_start (r := 2) (ls := [vr s, vi ((e : Nat) : Int)]) (rk_239 _) rfl ?_
  have hl4 := B.2.2.2.2.1.1
  have hne := B.1.1
  have hnp := B.1.2.1
  have hok := (B.run noOut (Nat.le_refl ne)).1
  have hlen : (runA h l noOut ne).2.1.length ≤ 360 := by
    have h8 := hok.2.2
    unfold tot at h8
    omega
  refine w_aln l_239_0 rfl ?_
  refine w_aln l_239_1 rfl ?_
  refine w_iln l_239_2 rfl ?_
  refine q_iv [vi ((e : Nat) : Int)] [vr s] l_239_3 rfl rfl (Nat.le_of_ble_eq_true rfl) (by rw [mx_231]; exact Nat.le_of_ble_eq_true rfl) (by rw [mt_231]; exact oModel_sh hm) (by rw [mt_231]; decide) (by rw [rk_231]; decide) (s_231 hm B) ?_
  refine w_beq 13 l_239_6 (by decide) (fun hx => absurd hx (by rw [decide_eq_true (by omega)]; decide)) (fun _ => ?_)
  refine w_ic l_239_9 (by decide) ?_
  refine w_go 14 l_239_10 (by decide) ?_
  refine w_pi l_239_14 (oModel_sh hm) ?_
  refine w_aln l_239_17 rfl ?_
  refine w_gi 0 l_239_18 (oModel_sh hm) up_eq ?_
  refine w_zle 28 l_239_21 (by decide) (fun _ => ?_) (fun hx => absurd hx (by decide))
  refine w_aln l_239_28 rfl ?_
  refine w_iln l_239_29 rfl ?_
  refine w_ic l_239_30 (by decide) ?_
  refine q_iv [vi ((e : Nat) : Int), vi 0] [] l_239_31 rfl rfl (Nat.le_of_ble_eq_true rfl) (by rw [mx_205]; exact Nat.le_of_ble_eq_true rfl) (by rw [mt_205]; exact oModel_sh hm) (by rw [mt_205]; decide) (by rw [rk_205]; decide) (r_of0 hm (by omega) ((up_no (by omega)).trans (B.1.2.2.1 e he).1)) ?_
  refine w_ir l_239_34 (Or.inl rfl) ?_
  exact ⟨_, _, rfl, rfl, rfl, up_eq, (mfk.u (Or.inl rfl))⟩

theorem mx_240 : mxl 240 = 2 := by decide +kernel
theorem mt_240 : mtc 240 = 10 := by decide +kernel
theorem rk_240 (as : List AV) : rkA 240 as = 2 := rfl
theorem l_240_0 : look 240 0 = some (.aload_n 0, 1, 0, 0, 0, 0) := by decide +kernel
theorem l_240_1 : look 240 1 = some (.aload_n 0, 1, 0, 0, 0, 0) := by decide +kernel
theorem l_240_2 : look 240 2 = some (.iload_n 1, 1, 0, 0, 0, 0) := by decide +kernel
theorem l_240_3 : look 240 3 = some (.invokevirtual 456, 3, 231, 2, 0, 2016) := by decide +kernel
theorem l_240_6 : look 240 6 = some (.ifCond .eq 7, 3, 0, 0, 0, 0) := by decide +kernel
theorem l_240_9 : look 240 9 = some (.iconst 0, 1, 0, 0, 0, 0) := by decide +kernel
theorem l_240_10 : look 240 10 = some (.goto 4, 3, 0, 0, 0, 0) := by decide +kernel
theorem l_240_13 : look 240 13 = some (.iconst 1, 1, 0, 0, 0, 0) := by decide +kernel
theorem l_240_14 : look 240 14 = some (.putfield 152, 3, 10, 0, 0, 1501) := by decide +kernel
theorem l_240_17 : look 240 17 = some (.aload_n 0, 1, 0, 0, 0, 0) := by decide +kernel
theorem l_240_18 : look 240 18 = some (.getfield 152, 3, 10, 0, 0, 1501) := by decide +kernel
theorem l_240_21 : look 240 21 = some (.ifCond .le 7, 3, 0, 0, 0, 0) := by decide +kernel
theorem l_240_24 : look 240 24 = some (.iconst 0, 1, 0, 0, 0, 0) := by decide +kernel
theorem l_240_25 : look 240 25 = some (.goto 10, 3, 0, 0, 0, 0) := by decide +kernel
theorem l_240_28 : look 240 28 = some (.aload_n 0, 1, 0, 0, 0, 0) := by decide +kernel
theorem l_240_29 : look 240 29 = some (.iload_n 1, 1, 0, 0, 0, 0) := by decide +kernel
theorem l_240_30 : look 240 30 = some (.bipush 6, 2, 0, 0, 0, 0) := by decide +kernel
theorem l_240_32 : look 240 32 = some (.invokevirtual 357, 3, 205, 3, 0, 1917) := by decide +kernel
theorem l_240_35 : look 240 35 = some (.ireturn, 1, 0, 0, 0, 0) := by decide +kernel

theorem s_240 (hm : oModel S T s) {ne np : Nat} {a : Nat → Nat} {cd : Nat → Cd} (B : MP I s h l a ne np cd) {e : Nat} {pv : Int} (he : e < ne) (hv : I (s + 10) (7 * e + 6) = pv): CL xs 240 [vr s, vi ((e : Nat) : Int)] (S, I, T, cc, zz) (RP S T cc zz (fun v I' => v = some (vi pv) ∧ I' s 0 = 0 ∧ mfk I I' s)) := by
  refine CL_start (r := 2) (ls := [vr s, vi ((e : Nat) : Int)]) (rk_240 _) rfl ?_
  have hl4 := B.2.2.2.2.1.1
  have hne := B.1.1
  have hnp := B.1.2.1
  have hok := (B.run noOut (Nat.le_refl ne)).1
  have hlen : (runA h l noOut ne).2.1.length ≤ 360 := by
    have h8 := hok.2.2
    unfold tot at h8
    omega
  refine w_aln l_240_0 rfl ?_
  refine w_aln l_240_1 rfl ?_
  refine w_iln l_240_2 rfl ?_
  refine q_iv [vi ((e : Nat) : Int)] [vr s] l_240_3 rfl rfl (Nat.le_of_ble_eq_true rfl) (by rw [mx_231]; exact Nat.le_of_ble_eq_true rfl) (by rw [mt_231]; exact oModel_sh hm) (by rw [mt_231]; decide) (by rw [rk_231]; decide) (s_231 hm B) ?_
  refine w_beq 13 l_240_6 (by decide) (fun hx => absurd hx (by rw [decide_eq_true (by omega)]; decide)) (fun _ => ?_)
  refine w_ic l_240_9 (by decide) ?_
  refine w_go 14 l_240_10 (by decide) ?_
  refine w_pi l_240_14 (oModel_sh hm) ?_
  refine w_aln l_240_17 rfl ?_
  refine w_gi 0 l_240_18 (oModel_sh hm) up_eq ?_
  refine w_zle 28 l_240_21 (by decide) (fun _ => ?_) (fun hx => absurd hx (by decide))
  refine w_aln l_240_28 rfl ?_
  refine w_iln l_240_29 rfl ?_
  refine w_bp l_240_30 (by decide) ?_
  refine q_iv [vi ((e : Nat) : Int), vi 6] [] l_240_32 rfl rfl (Nat.le_of_ble_eq_true rfl) (by rw [mx_205]; exact Nat.le_of_ble_eq_true rfl) (by rw [mt_205]; exact oModel_sh hm) (by rw [mt_205]; decide) (by rw [rk_205]; decide) (r_of6 hm (by omega) ((up_no (by omega)).trans hv)) ?_
  refine w_ir l_240_35 (Or.inl rfl) ?_
  exact ⟨_, _, rfl, rfl, rfl, up_eq, (mfk.u (Or.inl rfl))⟩

theorem s_239n (hm : oModel S T s) {ne np : Nat} {a : Nat → Nat} {cd : Nat → Cd} (B : MP I s h l a ne np cd) {p : Int} (hp : ¬ (0 ≤ p ∧ p ≤ ((ne : Nat) : Int) - 1)): CL xs 239 [vr s, vi p] (S, I, T, cc, zz) (RP S T cc zz (fun v I' => v = some (vi 0) ∧ I' s 0 = 1 ∧ mfk I I' s)) := by
  refine CL_start (r := 2) (ls := [vr s, vi p]) (rk_239 _) rfl ?_
  refine w_aln l_239_0 rfl ?_
  refine w_aln l_239_1 rfl ?_
  refine w_iln l_239_2 rfl ?_
  refine q_iv [vi p] [vr s] l_239_3 rfl rfl (Nat.le_of_ble_eq_true rfl) (by rw [mx_231]; exact Nat.le_of_ble_eq_true rfl) (by rw [mt_231]; exact oModel_sh hm) (by rw [mt_231]; decide) (by rw [rk_231]; decide) (s_231 hm B) ?_
  refine w_beq 13 l_239_6 (by decide) (fun _ => ?_) (fun hx => absurd hx (by rw [decide_eq_false hp]; decide))
  refine w_ic l_239_13 (by decide) ?_
  refine w_pi l_239_14 (oModel_sh hm) ?_
  refine w_aln l_239_17 rfl ?_
  refine w_gi 1 l_239_18 (oModel_sh hm) up_eq ?_
  refine w_zle 28 l_239_21 (by decide) (fun hx => absurd hx (by decide)) (fun _ => ?_)
  refine w_ic l_239_24 (by decide) ?_
  refine w_go 34 l_239_25 (by decide) ?_
  refine w_ir l_239_34 (Or.inl rfl) ?_
  exact ⟨_, _, rfl, rfl, rfl, up_eq, (mfk.u (Or.inl rfl))⟩

theorem s_240n (hm : oModel S T s) {ne np : Nat} {a : Nat → Nat} {cd : Nat → Cd} (B : MP I s h l a ne np cd) {p : Int} (hp : ¬ (0 ≤ p ∧ p ≤ ((ne : Nat) : Int) - 1)): CL xs 240 [vr s, vi p] (S, I, T, cc, zz) (RP S T cc zz (fun v I' => v = some (vi 0) ∧ I' s 0 = 1 ∧ mfk I I' s)) := by
  refine CL_start (r := 2) (ls := [vr s, vi p]) (rk_240 _) rfl ?_
  refine w_aln l_240_0 rfl ?_
  refine w_aln l_240_1 rfl ?_
  refine w_iln l_240_2 rfl ?_
  refine q_iv [vi p] [vr s] l_240_3 rfl rfl (Nat.le_of_ble_eq_true rfl) (by rw [mx_231]; exact Nat.le_of_ble_eq_true rfl) (by rw [mt_231]; exact oModel_sh hm) (by rw [mt_231]; decide) (by rw [rk_231]; decide) (s_231 hm B) ?_
  refine w_beq 13 l_240_6 (by decide) (fun _ => ?_) (fun hx => absurd hx (by rw [decide_eq_false hp]; decide))
  refine w_ic l_240_13 (by decide) ?_
  refine w_pi l_240_14 (oModel_sh hm) ?_
  refine w_aln l_240_17 rfl ?_
  refine w_gi 1 l_240_18 (oModel_sh hm) up_eq ?_
  refine w_zle 28 l_240_21 (by decide) (fun hx => absurd hx (by decide)) (fun _ => ?_)
  refine w_ic l_240_24 (by decide) ?_
  refine w_go 35 l_240_25 (by decide) ?_
  refine w_ir l_240_35 (Or.inl rfl) ?_
  exact ⟨_, _, rfl, rfl, rfl, up_eq, (mfk.u (Or.inl rfl))⟩

theorem mx_241 : mxl 241 = 2 := by decide +kernel
theorem mt_241 : mtc 241 = 10 := by decide +kernel
theorem rk_241 (as : List AV) : rkA 241 as = 2 := rfl
theorem l_241_0 : look 241 0 = some (.aload_n 0, 1, 0, 0, 0, 0) := by decide +kernel
theorem l_241_1 : look 241 1 = some (.aload_n 0, 1, 0, 0, 0, 0) := by decide +kernel
theorem l_241_2 : look 241 2 = some (.iload_n 1, 1, 0, 0, 0, 0) := by decide +kernel
theorem l_241_3 : look 241 3 = some (.invokevirtual 459, 3, 230, 2, 0, 2028) := by decide +kernel
theorem l_241_6 : look 241 6 = some (.ifCond .eq 7, 3, 0, 0, 0, 0) := by decide +kernel
theorem l_241_9 : look 241 9 = some (.iconst 0, 1, 0, 0, 0, 0) := by decide +kernel
theorem l_241_10 : look 241 10 = some (.goto 4, 3, 0, 0, 0, 0) := by decide +kernel
theorem l_241_13 : look 241 13 = some (.iconst 1, 1, 0, 0, 0, 0) := by decide +kernel
theorem l_241_14 : look 241 14 = some (.putfield 152, 3, 10, 0, 0, 1501) := by decide +kernel
theorem l_241_17 : look 241 17 = some (.aload_n 0, 1, 0, 0, 0, 0) := by decide +kernel
theorem l_241_18 : look 241 18 = some (.getfield 152, 3, 10, 0, 0, 1501) := by decide +kernel
theorem l_241_21 : look 241 21 = some (.ifCond .le 7, 3, 0, 0, 0, 0) := by decide +kernel
theorem l_241_24 : look 241 24 = some (.iconst 0, 1, 0, 0, 0, 0) := by decide +kernel
theorem l_241_25 : look 241 25 = some (.goto 9, 3, 0, 0, 0, 0) := by decide +kernel
theorem l_241_28 : look 241 28 = some (.aload_n 0, 1, 0, 0, 0, 0) := by decide +kernel
theorem l_241_29 : look 241 29 = some (.getfield 52, 3, 10, 18, 2, 1519) := by decide +kernel
theorem l_241_32 : look 241 32 = some (.iload_n 1, 1, 0, 0, 0, 0) := by decide +kernel
theorem l_241_33 : look 241 33 = some (.iaload, 1, 0, 0, 0, 0) := by decide +kernel
theorem l_241_34 : look 241 34 = some (.ireturn, 1, 0, 0, 0, 0) := by decide +kernel

theorem s_241 (hm : oModel S T s) {ne np : Nat} {a : Nat → Nat} {cd : Nat → Cd} (B : MP I s h l a ne np cd) {k : Nat} (hk : k < np): CL xs 241 [vr s, vi ((k : Nat) : Int)] (S, I, T, cc, zz) (RP S T cc zz (fun v I' => v = some (vi ((a k : Nat) : Int)) ∧ I' s 0 = 0 ∧ mfk I I' s)) := by
  refine CL_start (r := 2) (ls := [vr s, vi ((k : Nat) : Int)]) (rk_241 _) rfl ?_
  have hl4 := B.2.2.2.2.1.1
  have hne := B.1.1
  have hnp := B.1.2.1
  have hok := (B.run noOut (Nat.le_refl ne)).1
  have hlen : (runA h l noOut ne).2.1.length ≤ 360 := by
    have h8 := hok.2.2
    unfold tot at h8
    omega
  refine w_aln l_241_0 rfl ?_
  refine w_aln l_241_1 rfl ?_
  refine w_iln l_241_2 rfl ?_
  refine q_iv [vi ((k : Nat) : Int)] [vr s] l_241_3 rfl rfl (Nat.le_of_ble_eq_true rfl) (by rw [mx_230]; exact Nat.le_of_ble_eq_true rfl) (by rw [mt_230]; exact oModel_sh hm) (by rw [mt_230]; decide) (by rw [rk_230]; decide) (s_230 hm B) ?_
  refine w_beq 13 l_241_6 (by decide) (fun hx => absurd hx (by rw [decide_eq_true (by omega)]; decide)) (fun _ => ?_)
  refine w_ic l_241_9 (by decide) ?_
  refine w_go 14 l_241_10 (by decide) ?_
  refine w_pi l_241_14 (oModel_sh hm) ?_
  refine w_aln l_241_17 rfl ?_
  refine w_gi 0 l_241_18 (oModel_sh hm) up_eq ?_
  refine w_zle 28 l_241_21 (by decide) (fun _ => ?_) (fun hx => absurd hx (by decide))
  refine w_aln l_241_28 rfl ?_
  refine w_gr l_241_29 (oModel_sh hm) (oModel_r18 hm) ?_
  refine w_iln l_241_32 rfl ?_
  refine w_ia k (((a k) : Nat) : Int) l_241_33 (oModel_s18 hm) rfl (by omega) ((up_no (by omega)).trans ((B.1.2.2.2 k hk).1)) ?_
  refine w_ir l_241_34 (Or.inl rfl) ?_
  exact ⟨_, _, rfl, rfl, rfl, up_eq, (mfk.u (Or.inl rfl))⟩

theorem s_241n (hm : oModel S T s) {ne np : Nat} {a : Nat → Nat} {cd : Nat → Cd} (B : MP I s h l a ne np cd) {p : Int} (hp : ¬ (0 ≤ p ∧ p ≤ ((np : Nat) : Int) - 1)): CL xs 241 [vr s, vi p] (S, I, T, cc, zz) (RP S T cc zz (fun v I' => v = some (vi 0) ∧ I' s 0 = 1 ∧ mfk I I' s)) := by
  refine CL_start (r := 2) (ls := [vr s, vi p]) (rk_241 _) rfl ?_
  refine w_aln l_241_0 rfl ?_
  refine w_aln l_241_1 rfl ?_
  refine w_iln l_241_2 rfl ?_
  refine q_iv [vi p] [vr s] l_241_3 rfl rfl (Nat.le_of_ble_eq_true rfl) (by rw [mx_230]; exact Nat.le_of_ble_eq_true rfl) (by rw [mt_230]; exact oModel_sh hm) (by rw [mt_230]; decide) (by rw [rk_230]; decide) (s_230 hm B) ?_
  refine w_beq 13 l_241_6 (by decide) (fun _ => ?_) (fun hx => absurd hx (by rw [decide_eq_false hp]; decide))
  refine w_ic l_241_13 (by decide) ?_
  refine w_pi l_241_14 (oModel_sh hm) ?_
  refine w_aln l_241_17 rfl ?_
  refine w_gi 1 l_241_18 (oModel_sh hm) up_eq ?_
  refine w_zle 28 l_241_21 (by decide) (fun hx => absurd hx (by decide)) (fun _ => ?_)
  refine w_ic l_241_24 (by decide) ?_
  refine w_go 34 l_241_25 (by decide) ?_
  refine w_ir l_241_34 (Or.inl rfl) ?_
  exact ⟨_, _, rfl, rfl, rfl, up_eq, (mfk.u (Or.inl rfl))⟩

theorem mx_260 : mxl 260 = 1 := by decide +kernel
theorem mt_260 : mtc 260 = 10 := by decide +kernel
theorem rk_260 (as : List AV) : rkA 260 as = 0 := rfl
theorem l_260_0 : look 260 0 = some (.aload_n 0, 1, 0, 0, 0, 0) := by decide +kernel
theorem l_260_1 : look 260 1 = some (.iconst 0, 1, 0, 0, 0, 0) := by decide +kernel
theorem l_260_2 : look 260 2 = some (.putfield 152, 3, 10, 0, 0, 1501) := by decide +kernel
theorem l_260_5 : look 260 5 = some (.aload_n 0, 1, 0, 0, 0, 0) := by decide +kernel
theorem l_260_6 : look 260 6 = some (.getfield 330, 3, 10, 15, 0, 1516) := by decide +kernel
theorem l_260_9 : look 260 9 = some (.bipush 16, 2, 0, 0, 0, 0) := by decide +kernel
theorem l_260_11 : look 260 11 = some (.iadd, 1, 0, 0, 0, 0) := by decide +kernel
theorem l_260_12 : look 260 12 = some (.iconst 1, 1, 0, 0, 0, 0) := by decide +kernel
theorem l_260_13 : look 260 13 = some (.isub, 1, 0, 0, 0, 0) := by decide +kernel
theorem l_260_14 : look 260 14 = some (.bipush 16, 2, 0, 0, 0, 0) := by decide +kernel
theorem l_260_16 : look 260 16 = some (.idiv, 1, 0, 0, 0, 0) := by decide +kernel
theorem l_260_17 : look 260 17 = some (.ireturn, 1, 0, 0, 0, 0) := by decide +kernel

theorem s_260 (hm : oModel S T s) {ne np : Nat} {a : Nat → Nat} {cd : Nat → Cd} (B : MP I s h l a ne np cd) : CL xs 260 [vr s] (S, I, T, cc, zz) (RP S T cc zz (fun v I' => v = some (vi (((ne + 15) / 16 : Nat) : Int)) ∧ I' s 0 = 0 ∧ mfk I I' s)) := by
  refine CL_start (r := 0) (ls := [vr s]) (rk_260 _) rfl ?_
  have hl4 := B.2.2.2.2.1.1
  have hne := B.1.1
  have hnp := B.1.2.1
  have hok := (B.run noOut (Nat.le_refl ne)).1
  have hlen : (runA h l noOut ne).2.1.length ≤ 360 := by
    have h8 := hok.2.2
    unfold tot at h8
    omega
  refine w_aln l_260_0 rfl ?_
  refine w_ic l_260_1 (by decide) ?_
  refine w_pi l_260_2 (oModel_sh hm) ?_
  refine w_aln l_260_5 rfl ?_
  refine w_gi ((ne : Nat) : Int) l_260_6 (oModel_sh hm) ((up_nj (by omega)).trans (B.2.2.2.2.2.2.2.1)) ?_
  refine w_bp l_260_9 (by decide) ?_
  refine w_add ((ne + 16 : Nat) : Int) l_260_11 (by unfold wr; omega) ?_
  refine w_ic l_260_12 (by decide) ?_
  refine w_sub (((ne + 15) : Nat) : Int) l_260_13 (by unfold wr; omega) ?_
  refine w_bp l_260_14 (by decide) ?_
  refine w_div ((((ne + 15) / 16) : Nat) : Int) l_260_16 (by decide) (by rw [show (((ne + 15 : Nat) : Int)).tdiv 16 = (((ne + 15) / 16 : Nat) : Int) from rfl]; unfold wr; omega) ?_
  refine w_ir l_260_17 (Or.inl rfl) ?_
  exact ⟨_, _, rfl, rfl, rfl, up_eq, (mfk.u (Or.inl rfl))⟩

end RC
