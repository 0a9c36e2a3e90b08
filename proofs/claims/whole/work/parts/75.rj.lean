/-! the reference: events, 2 -/
section RJ
variable {xs : List Int} {S : List (Nat × Nat)} {T : Nat → Nat → Nat} {cc zz s : Nat} {h : Hi} {l : Li} {r : Ra} {g : Lo} {I I' : Ix}
theorem cntD_1 {h : Hi} {l : Li} {e : Nat} {r : Ra} (hk : hKind h e = 1) : cntD h l e r = (stepA h l e r).2 := if_pos hk
theorem cntP_0 {h : Hi} {l : Li} {e : Nat} {r : Ra} (hk : hKind h e = 0) : cntP h l e r = (stepA h l e r).2 := if_pos hk
theorem addE_k {h : Hi} {ne kind p : Nat} : hKind (addE h ne kind p) ne = kind := by unfold addE hKind fu; simp
theorem addP_k {h : Hi} {a : Nat → Nat} {np ne p : Nat} {f : Nat × Nat × Nat × Nat} {cd : Nat → Cd} : hKind (addP h a np ne p f cd) ne = 0 := by unfold addP hKind fu; simp

theorem mx_235 : mxl 235 = 1 := by decide +kernel
theorem mt_235 : mtc 235 = 10 := by decide +kernel
theorem rk_235 (as : List AV) : rkA 235 as = 11 := rfl
theorem l_235_0 : look 235 0 = some (.aload_n 0, 1, 0, 0, 0, 0) := by decide +kernel
theorem l_235_1 : look 235 1 = some (.aload_n 0, 1, 0, 0, 0, 0) := by decide +kernel
theorem l_235_2 : look 235 2 = some (.getfield 330, 3, 10, 15, 0, 1516) := by decide +kernel
theorem l_235_5 : look 235 5 = some (.bipush 120, 2, 0, 0, 0, 0) := by decide +kernel
theorem l_235_7 : look 235 7 = some (.if_icmp .ne 7, 3, 0, 0, 0, 0) := by decide +kernel
theorem l_235_10 : look 235 10 = some (.iconst 1, 1, 0, 0, 0, 0) := by decide +kernel
theorem l_235_11 : look 235 11 = some (.goto 4, 3, 0, 0, 0, 0) := by decide +kernel
theorem l_235_14 : look 235 14 = some (.iconst 0, 1, 0, 0, 0, 0) := by decide +kernel
theorem l_235_15 : look 235 15 = some (.putfield 152, 3, 10, 0, 0, 1501) := by decide +kernel
theorem l_235_18 : look 235 18 = some (.aload_n 0, 1, 0, 0, 0, 0) := by decide +kernel
theorem l_235_19 : look 235 19 = some (.getfield 152, 3, 10, 0, 0, 1501) := by decide +kernel
theorem l_235_22 : look 235 22 = some (.ifCond .le 5, 3, 0, 0, 0, 0) := by decide +kernel
theorem l_235_25 : look 235 25 = some (.iconst 0, 1, 0, 0, 0, 0) := by decide +kernel
theorem l_235_26 : look 235 26 = some (.ireturn, 1, 0, 0, 0, 0) := by decide +kernel
theorem l_235_27 : look 235 27 = some (.aload_n 0, 1, 0, 0, 0, 0) := by decide +kernel
theorem l_235_28 : look 235 28 = some (.iconst 1, 1, 0, 0, 0, 0) := by decide +kernel
theorem l_235_29 : look 235 29 = some (.iconst 0, 1, 0, 0, 0, 0) := by decide +kernel
theorem l_235_30 : look 235 30 = some (.iconst 0, 1, 0, 0, 0, 0) := by decide +kernel
theorem l_235_31 : look 235 31 = some (.iconst 0, 1, 0, 0, 0, 0) := by decide +kernel
theorem l_235_32 : look 235 32 = some (.iconst 0, 1, 0, 0, 0, 0) := by decide +kernel
theorem l_235_33 : look 235 33 = some (.iconst 0, 1, 0, 0, 0, 0) := by decide +kernel
theorem l_235_34 : look 235 34 = some (.invokevirtual 452, 3, 232, 7, 0, 1893) := by decide +kernel
theorem l_235_37 : look 235 37 = some (.aload_n 0, 1, 0, 0, 0, 0) := by decide +kernel
theorem l_235_38 : look 235 38 = some (.getfield 384, 3, 10, 69, 0, 1570) := by decide +kernel
theorem l_235_41 : look 235 41 = some (.ireturn, 1, 0, 0, 0, 0) := by decide +kernel

theorem s_235 (hm : oModel S T s) {ne np : Nat} {a : Nat → Nat} {cd : Nat → Cd} (B : MP I s h l a ne np cd) (hne : ne < 120) : CL xs 235 [vr s] (S, I, T, cc, zz) (RP S T cc zz (fun v I' => v = some (vi (((stepA (addE h ne 1 0) l ne (runA (addE h ne 1 0) l noOut ne)).2 : Nat) : Int)) ∧ I' s 0 = 0 ∧ MP I' s (addE h ne 1 0) l a (ne + 1) np cd ∧ mfe I I' s ∧ p6 I I' s ne (-1))) := by
  refine CL_start (r := 11) (ls := [vr s]) (rk_235 _) rfl ?_
  refine w_aln l_235_0 rfl ?_
  refine w_aln l_235_1 rfl ?_
  refine w_gi ((ne : Nat) : Int) l_235_2 (oModel_sh hm) B.2.2.2.2.2.2.2.1 ?_
  refine w_bp l_235_5 (by decide) ?_
  refine w_cne 14 l_235_7 (by decide) (fun _ => ?_) (fun hx => absurd hx (by omega))
  refine w_ic l_235_14 (by decide) ?_
  refine w_pi l_235_15 (oModel_sh hm) ?_
  refine w_aln l_235_18 rfl ?_
  refine w_gi 0 l_235_19 (oModel_sh hm) up_eq ?_
  refine w_zle 27 l_235_22 (by decide) (fun _ => ?_) (fun hx => absurd hx (by decide))
  refine w_aln l_235_27 rfl ?_
  refine w_ic l_235_28 (by decide) ?_
  refine w_ic l_235_29 (by decide) ?_
  refine w_ic l_235_30 (by decide) ?_
  refine w_ic l_235_31 (by decide) ?_
  refine w_ic l_235_32 (by decide) ?_
  refine w_ic l_235_33 (by decide) ?_
  refine p_iv [vi 1, vi 0, vi 0, vi 0, vi 0, vi 0] [] l_235_34 rfl rfl (Nat.le_of_ble_eq_true rfl) (by rw [mx_232]; exact Nat.le_of_ble_eq_true rfl) (by rw [mt_232]; exact oModel_sh hm) (by rw [mt_232]; decide) (by rw [rk_232]; decide) (s_232_1z hm (B.k (mfk.u (Or.inl rfl))) hne (fun q => absurd rfl q)) (fun v I1 hv => ?_)
  obtain ⟨rfl, h0, h6, hB, hR1, hc, f1⟩ := hv
  refine w_aln l_235_37 rfl ?_
  refine w_gi (((stepA (addE h ne 1 0) l ne (runA (addE h ne 1 0) l noOut ne)).2 : Nat) : Int) l_235_38 (oModel_sh hm) (((hc ne rfl rfl).2).trans (by rw [cntD_1 addE_k])) ?_
  refine w_ir l_235_41 (Or.inl rfl) ?_
  exact ⟨_, _, rfl, rfl, rfl, h0.trans up_eq, hB, (mfk.u (Or.inl rfl)).e.tr f1, h6.k (mfk.u (Or.inl rfl))⟩

theorem s_235n (hm : oModel S T s) {ne np : Nat} {a : Nat → Nat} {cd : Nat → Cd} (B : MP I s h l a ne np cd) (hne : ne = 120): CL xs 235 [vr s] (S, I, T, cc, zz) (RP S T cc zz (fun v I' => v = some (vi 0) ∧ I' s 0 = 1 ∧ mfk I I' s)) := by
  refine CL_start (r := 11) (ls := [vr s]) (rk_235 _) rfl ?_
  refine w_aln l_235_0 rfl ?_
  refine w_aln l_235_1 rfl ?_
  refine w_gi ((ne : Nat) : Int) l_235_2 (oModel_sh hm) B.2.2.2.2.2.2.2.1 ?_
  refine w_bp l_235_5 (by decide) ?_
  refine w_cne 14 l_235_7 (by decide) (fun hx => absurd hx (by omega)) (fun _ => ?_)
  refine w_ic l_235_10 (by decide) ?_
  refine w_go 15 l_235_11 (by decide) ?_
  refine w_pi l_235_15 (oModel_sh hm) ?_
  refine w_aln l_235_18 rfl ?_
  refine w_gi 1 l_235_19 (oModel_sh hm) up_eq ?_
  refine w_zle 27 l_235_22 (by decide) (fun hx => absurd hx (by decide)) (fun _ => ?_)
  refine w_ic l_235_25 (by decide) ?_
  refine w_ir l_235_26 (Or.inl rfl) ?_
  exact ⟨_, _, rfl, rfl, rfl, up_eq, (mfk.u (Or.inl rfl))⟩

theorem mx_236 : mxl 236 = 4 := by decide +kernel
theorem mt_236 : mtc 236 = 10 := by decide +kernel
theorem rk_236 (as : List AV) : rkA 236 as = 11 := rfl
theorem l_236_0 : look 236 0 = some (.aload_n 0, 1, 0, 0, 0, 0) := by decide +kernel
theorem l_236_1 : look 236 1 = some (.aload_n 0, 1, 0, 0, 0, 0) := by decide +kernel
theorem l_236_2 : look 236 2 = some (.iload_n 1, 1, 0, 0, 0, 0) := by decide +kernel
theorem l_236_3 : look 236 3 = some (.invokevirtual 449, 3, 228, 2, 0, 1889) := by decide +kernel
theorem l_236_6 : look 236 6 = some (.ifCond .ne 7, 3, 0, 0, 0, 0) := by decide +kernel
theorem l_236_9 : look 236 9 = some (.iconst 1, 1, 0, 0, 0, 0) := by decide +kernel
theorem l_236_10 : look 236 10 = some (.goto 17, 3, 0, 0, 0, 0) := by decide +kernel
theorem l_236_13 : look 236 13 = some (.aload_n 0, 1, 0, 0, 0, 0) := by decide +kernel
theorem l_236_14 : look 236 14 = some (.getfield 330, 3, 10, 15, 0, 1516) := by decide +kernel
theorem l_236_17 : look 236 17 = some (.bipush 120, 2, 0, 0, 0, 0) := by decide +kernel
theorem l_236_19 : look 236 19 = some (.if_icmp .ne 7, 3, 0, 0, 0, 0) := by decide +kernel
theorem l_236_22 : look 236 22 = some (.iconst 2, 1, 0, 0, 0, 0) := by decide +kernel
theorem l_236_23 : look 236 23 = some (.goto 4, 3, 0, 0, 0, 0) := by decide +kernel
theorem l_236_26 : look 236 26 = some (.iconst 0, 1, 0, 0, 0, 0) := by decide +kernel
theorem l_236_27 : look 236 27 = some (.putfield 152, 3, 10, 0, 0, 1501) := by decide +kernel
theorem l_236_30 : look 236 30 = some (.aload_n 0, 1, 0, 0, 0, 0) := by decide +kernel
theorem l_236_31 : look 236 31 = some (.getfield 152, 3, 10, 0, 0, 1501) := by decide +kernel
theorem l_236_34 : look 236 34 = some (.ifCond .le 5, 3, 0, 0, 0, 0) := by decide +kernel
theorem l_236_37 : look 236 37 = some (.iconst 0, 1, 0, 0, 0, 0) := by decide +kernel
theorem l_236_38 : look 236 38 = some (.ireturn, 1, 0, 0, 0, 0) := by decide +kernel
theorem l_236_39 : look 236 39 = some (.aload_n 0, 1, 0, 0, 0, 0) := by decide +kernel
theorem l_236_40 : look 236 40 = some (.invokevirtual 443, 3, 215, 1, 0, 1897) := by decide +kernel
theorem l_236_43 : look 236 43 = some (.aload_n 0, 1, 0, 0, 0, 0) := by decide +kernel
theorem l_236_44 : look 236 44 = some (.getfield 369, 3, 10, 66, 0, 1567) := by decide +kernel
theorem l_236_47 : look 236 47 = some (.istore_n 3, 1, 0, 0, 0, 0) := by decide +kernel
theorem l_236_48 : look 236 48 = some (.aload_n 0, 1, 0, 0, 0, 0) := by decide +kernel
theorem l_236_49 : look 236 49 = some (.iload_n 2, 1, 0, 0, 0, 0) := by decide +kernel
theorem l_236_50 : look 236 50 = some (.ifCond .eq 7, 3, 0, 0, 0, 0) := by decide +kernel
theorem l_236_53 : look 236 53 = some (.iconst 2, 1, 0, 0, 0, 0) := by decide +kernel
theorem l_236_54 : look 236 54 = some (.goto 4, 3, 0, 0, 0, 0) := by decide +kernel
theorem l_236_57 : look 236 57 = some (.iconst 3, 1, 0, 0, 0, 0) := by decide +kernel
theorem l_236_58 : look 236 58 = some (.iload_n 1, 1, 0, 0, 0, 0) := by decide +kernel
theorem l_236_59 : look 236 59 = some (.iconst 0, 1, 0, 0, 0, 0) := by decide +kernel
theorem l_236_60 : look 236 60 = some (.iconst 0, 1, 0, 0, 0, 0) := by decide +kernel
theorem l_236_61 : look 236 61 = some (.iconst 0, 1, 0, 0, 0, 0) := by decide +kernel
theorem l_236_62 : look 236 62 = some (.iconst 0, 1, 0, 0, 0, 0) := by decide +kernel
theorem l_236_63 : look 236 63 = some (.invokevirtual 452, 3, 232, 7, 0, 1893) := by decide +kernel
theorem l_236_66 : look 236 66 = some (.aload_n 0, 1, 0, 0, 0, 0) := by decide +kernel
theorem l_236_67 : look 236 67 = some (.getfield 369, 3, 10, 66, 0, 1567) := by decide +kernel
theorem l_236_70 : look 236 70 = some (.iload_n 3, 1, 0, 0, 0, 0) := by decide +kernel
theorem l_236_71 : look 236 71 = some (.isub, 1, 0, 0, 0, 0) := by decide +kernel
theorem l_236_72 : look 236 72 = some (.ireturn, 1, 0, 0, 0, 0) := by decide +kernel

theorem s_236_0 (hm : oModel S T s) {ne np : Nat} {a : Nat → Nat} {cd : Nat → Cd} (B : MP I s h l a ne np cd) {p : Nat} (hne : ne < 120) (hp : p < lPorts l) : CL xs 236 [vr s, vi ((p : Nat) : Int), vi 0] (S, I, T, cc, zz) (RP S T cc zz (fun v I' => v = some (vi ((((runA (addE h ne 3 p) l noOut (ne + 1)).2.1.length : Nat) : Int) - (((runA h l noOut ne).2.1.length : Nat) : Int))) ∧ I' s 0 = 0 ∧ MP I' s (addE h ne 3 p) l a (ne + 1) np cd ∧ mfe I I' s ∧ p6 I I' s ne (-1))) := by
  refine CL_start (r := 11) (ls := [vr s, vi ((p : Nat) : Int), vi 0, vs 2]) (rk_236 _) rfl ?_
  have hl4 := B.2.2.2.2.1.1
  refine w_aln l_236_0 rfl ?_
  refine w_aln l_236_1 rfl ?_
  refine w_iln l_236_2 rfl ?_
  refine q_iv [vi ((p : Nat) : Int)] [vr s] l_236_3 rfl rfl (Nat.le_of_ble_eq_true rfl) (by rw [mx_228]; exact Nat.le_of_ble_eq_true rfl) (by rw [mt_228]; exact oModel_sh hm) (by rw [mt_228]; decide) (by rw [rk_228]; decide) (s_228 hm B) ?_
  refine w_bne 13 l_236_6 (by decide) (fun _ => ?_) (fun hx => absurd hx (by rw [decide_eq_true (by omega)]; decide))
  refine w_aln l_236_13 rfl ?_
  refine w_gi ((ne : Nat) : Int) l_236_14 (oModel_sh hm) B.2.2.2.2.2.2.2.1 ?_
  refine w_bp l_236_17 (by decide) ?_
  refine w_cne 26 l_236_19 (by decide) (fun _ => ?_) (fun hx => absurd hx (by omega))
  refine w_ic l_236_26 (by decide) ?_
  refine w_pi l_236_27 (oModel_sh hm) ?_
  refine w_aln l_236_30 rfl ?_
  refine w_gi 0 l_236_31 (oModel_sh hm) up_eq ?_
  refine w_zle 39 l_236_34 (by decide) (fun _ => ?_) (fun hx => absurd hx (by decide))
  refine w_aln l_236_39 rfl ?_
  refine p_iv [] [] l_236_40 rfl rfl (Nat.le_of_ble_eq_true rfl) (by rw [mx_215]; exact Nat.le_of_ble_eq_true rfl) (by rw [mt_215]; exact oModel_sh hm) (by rw [mt_215]; decide) (by rw [rk_215]; decide) (s_215 hm (B.k (mfk.u (Or.inl rfl)))) (fun v I9 hv => ?_)
  obtain ⟨rfl, hR9, f9, _, _⟩ := hv
  refine w_aln l_236_43 rfl ?_
  refine w_gi (((runA h l noOut ne).2.1.length : Nat) : Int) l_236_44 (oModel_sh hm) hR9.2.1.1 ?_
  refine w_isn l_236_47 ⟨Nat.le_of_ble_eq_true rfl, rfl⟩ ?_
  refine w_aln l_236_48 rfl ?_
  refine w_iln l_236_49 rfl ?_
  refine w_zeq 57 l_236_50 (by decide) (fun _ => ?_) (fun hx => absurd hx (by decide))
  refine w_ic l_236_57 (by decide) ?_
  refine w_iln l_236_58 rfl ?_
  refine w_ic l_236_59 (by decide) ?_
  refine w_ic l_236_60 (by decide) ?_
  refine w_ic l_236_61 (by decide) ?_
  refine w_ic l_236_62 (by decide) ?_
  refine p_iv [vi 3, vi ((p : Nat) : Int), vi 0, vi 0, vi 0, vi 0] [] l_236_63 rfl rfl (Nat.le_of_ble_eq_true rfl) (by rw [mx_232]; exact Nat.le_of_ble_eq_true rfl) (by rw [mt_232]; exact oModel_sh hm) (by rw [mt_232]; decide) (by rw [rk_232]; decide) (s_232_3z hm ((B.k (mfk.u (Or.inl rfl))).k f9.k) hne (fun _ => hp)) (fun v I1 hv => ?_)
  obtain ⟨rfl, h0, h6, hB, hR1, hc, f1⟩ := hv
  refine w_aln l_236_66 rfl ?_
  refine w_gi (((runA (addE h ne 3 p) l noOut (ne + 1)).2.1.length : Nat) : Int) l_236_67 (oModel_sh hm) hR1.2.1.1 ?_
  refine w_iln l_236_70 rfl ?_
  refine w_sub ((((runA (addE h ne 3 p) l noOut (ne + 1)).2.1.length : Nat) : Int) - (((runA h l noOut ne).2.1.length : Nat) : Int)) l_236_71 (by have := hR1.2.1.2; have := hR9.2.1.2; unfold wr; omega) ?_
  refine w_ir l_236_72 (Or.inl rfl) ?_
  exact ⟨_, _, rfl, rfl, rfl, h0.trans ((f9 s 0 (fun _ => Or.inl (by decide)) (fun e => absurd e (Nat.lt_irrefl s))).trans up_eq), hB, ((mfk.u (Or.inl rfl)).e.tr f9.k.e).tr f1, (h6.k f9.k).k (mfk.u (Or.inl rfl))⟩

theorem s_236_0n (hm : oModel S T s) {ne np : Nat} {a : Nat → Nat} {cd : Nat → Cd} (B : MP I s h l a ne np cd) {p : Int} (hp : ¬ (0 ≤ p ∧ p ≤ ((lPorts l : Nat) : Int) - 1)): CL xs 236 [vr s, vi p, vi 0] (S, I, T, cc, zz) (RP S T cc zz (fun v I' => v = some (vi 0) ∧ I' s 0 = 1 ∧ mfk I I' s)) := by
  refine CL_start (r := 11) (ls := [vr s, vi p, vi 0, vs 2]) (rk_236 _) rfl ?_
  refine w_aln l_236_0 rfl ?_
  refine w_aln l_236_1 rfl ?_
  refine w_iln l_236_2 rfl ?_
  refine q_iv [vi p] [vr s] l_236_3 rfl rfl (Nat.le_of_ble_eq_true rfl) (by rw [mx_228]; exact Nat.le_of_ble_eq_true rfl) (by rw [mt_228]; exact oModel_sh hm) (by rw [mt_228]; decide) (by rw [rk_228]; decide) (s_228 hm B) ?_
  refine w_bne 13 l_236_6 (by decide) (fun hx => absurd hx (by rw [decide_eq_false hp]; decide)) (fun _ => ?_)
  refine w_ic l_236_9 (by decide) ?_
  refine w_go 27 l_236_10 (by decide) ?_
  refine w_pi l_236_27 (oModel_sh hm) ?_
  refine w_aln l_236_30 rfl ?_
  refine w_gi 1 l_236_31 (oModel_sh hm) up_eq ?_
  refine w_zle 39 l_236_34 (by decide) (fun hx => absurd hx (by decide)) (fun _ => ?_)
  refine w_ic l_236_37 (by decide) ?_
  refine w_ir l_236_38 (Or.inl rfl) ?_
  exact ⟨_, _, rfl, rfl, rfl, up_eq, (mfk.u (Or.inl rfl))⟩

theorem s_236_0f (hm : oModel S T s) {ne np : Nat} {a : Nat → Nat} {cd : Nat → Cd} (B : MP I s h l a ne np cd) {p : Int} (hp : 0 ≤ p ∧ p ≤ ((lPorts l : Nat) : Int) - 1) (hne : ne = 120): CL xs 236 [vr s, vi p, vi 0] (S, I, T, cc, zz) (RP S T cc zz (fun v I' => v = some (vi 0) ∧ I' s 0 = 2 ∧ mfk I I' s)) := by
  refine CL_start (r := 11) (ls := [vr s, vi p, vi 0, vs 2]) (rk_236 _) rfl ?_
  refine w_aln l_236_0 rfl ?_
  refine w_aln l_236_1 rfl ?_
  refine w_iln l_236_2 rfl ?_
  refine q_iv [vi p] [vr s] l_236_3 rfl rfl (Nat.le_of_ble_eq_true rfl) (by rw [mx_228]; exact Nat.le_of_ble_eq_true rfl) (by rw [mt_228]; exact oModel_sh hm) (by rw [mt_228]; decide) (by rw [rk_228]; decide) (s_228 hm B) ?_
  refine w_bne 13 l_236_6 (by decide) (fun _ => ?_) (fun hx => absurd hx (by rw [decide_eq_true hp]; decide))
  refine w_aln l_236_13 rfl ?_
  refine w_gi ((ne : Nat) : Int) l_236_14 (oModel_sh hm) B.2.2.2.2.2.2.2.1 ?_
  refine w_bp l_236_17 (by decide) ?_
  refine w_cne 26 l_236_19 (by decide) (fun hx => absurd hx (by omega)) (fun _ => ?_)
  refine w_ic l_236_22 (by decide) ?_
  refine w_go 27 l_236_23 (by decide) ?_
  refine w_pi l_236_27 (oModel_sh hm) ?_
  refine w_aln l_236_30 rfl ?_
  refine w_gi 2 l_236_31 (oModel_sh hm) up_eq ?_
  refine w_zle 39 l_236_34 (by decide) (fun hx => absurd hx (by decide)) (fun _ => ?_)
  refine w_ic l_236_37 (by decide) ?_
  refine w_ir l_236_38 (Or.inl rfl) ?_
  exact ⟨_, _, rfl, rfl, rfl, up_eq, (mfk.u (Or.inl rfl))⟩

theorem s_236_1 (hm : oModel S T s) {ne np : Nat} {a : Nat → Nat} {cd : Nat → Cd} (B : MP I s h l a ne np cd) {p : Nat} (hne : ne < 120) (hp : p < lPorts l) : CL xs 236 [vr s, vi ((p : Nat) : Int), vi 1] (S, I, T, cc, zz) (RP S T cc zz (fun v I' => v = some (vi ((((runA (addE h ne 2 p) l noOut (ne + 1)).2.1.length : Nat) : Int) - (((runA h l noOut ne).2.1.length : Nat) : Int))) ∧ I' s 0 = 0 ∧ MP I' s (addE h ne 2 p) l a (ne + 1) np cd ∧ mfe I I' s ∧ p6 I I' s ne (-1))) := by
  refine CL_start (r := 11) (ls := [vr s, vi ((p : Nat) : Int), vi 1, vs 2]) (rk_236 _) rfl ?_
  have hl4 := B.2.2.2.2.1.1
  refine w_aln l_236_0 rfl ?_
  refine w_aln l_236_1 rfl ?_
  refine w_iln l_236_2 rfl ?_
  refine q_iv [vi ((p : Nat) : Int)] [vr s] l_236_3 rfl rfl (Nat.le_of_ble_eq_true rfl) (by rw [mx_228]; exact Nat.le_of_ble_eq_true rfl) (by rw [mt_228]; exact oModel_sh hm) (by rw [mt_228]; decide) (by rw [rk_228]; decide) (s_228 hm B) ?_
  refine w_bne 13 l_236_6 (by decide) (fun _ => ?_) (fun hx => absurd hx (by rw [decide_eq_true (by omega)]; decide))
  refine w_aln l_236_13 rfl ?_
  refine w_gi ((ne : Nat) : Int) l_236_14 (oModel_sh hm) B.2.2.2.2.2.2.2.1 ?_
  refine w_bp l_236_17 (by decide) ?_
  refine w_cne 26 l_236_19 (by decide) (fun _ => ?_) (fun hx => absurd hx (by omega))
  refine w_ic l_236_26 (by decide) ?_
  refine w_pi l_236_27 (oModel_sh hm) ?_
  refine w_aln l_236_30 rfl ?_
  refine w_gi 0 l_236_31 (oModel_sh hm) up_eq ?_
  refine w_zle 39 l_236_34 (by decide) (fun _ => ?_) (fun hx => absurd hx (by decide))
  refine w_aln l_236_39 rfl ?_
  refine p_iv [] [] l_236_40 rfl rfl (Nat.le_of_ble_eq_true rfl) (by rw [mx_215]; exact Nat.le_of_ble_eq_true rfl) (by rw [mt_215]; exact oModel_sh hm) (by rw [mt_215]; decide) (by rw [rk_215]; decide) (s_215 hm (B.k (mfk.u (Or.inl rfl)))) (fun v I9 hv => ?_)
  obtain ⟨rfl, hR9, f9, _, _⟩ := hv
  refine w_aln l_236_43 rfl ?_
  refine w_gi (((runA h l noOut ne).2.1.length : Nat) : Int) l_236_44 (oModel_sh hm) hR9.2.1.1 ?_
  refine w_isn l_236_47 ⟨Nat.le_of_ble_eq_true rfl, rfl⟩ ?_
  refine w_aln l_236_48 rfl ?_
  refine w_iln l_236_49 rfl ?_
  refine w_zeq 57 l_236_50 (by decide) (fun hx => absurd hx (by decide)) (fun _ => ?_)
  refine w_ic l_236_53 (by decide) ?_
  refine w_go 58 l_236_54 (by decide) ?_
  refine w_iln l_236_58 rfl ?_
  refine w_ic l_236_59 (by decide) ?_
  refine w_ic l_236_60 (by decide) ?_
  refine w_ic l_236_61 (by decide) ?_
  refine w_ic l_236_62 (by decide) ?_
  refine p_iv [vi 2, vi ((p : Nat) : Int), vi 0, vi 0, vi 0, vi 0] [] l_236_63 rfl rfl (Nat.le_of_ble_eq_true rfl) (by rw [mx_232]; exact Nat.le_of_ble_eq_true rfl) (by rw [mt_232]; exact oModel_sh hm) (by rw [mt_232]; decide) (by rw [rk_232]; decide) (s_232_2z hm ((B.k (mfk.u (Or.inl rfl))).k f9.k) hne (fun _ => hp)) (fun v I1 hv => ?_)
  obtain ⟨rfl, h0, h6, hB, hR1, hc, f1⟩ := hv
  refine w_aln l_236_66 rfl ?_
  refine w_gi (((runA (addE h ne 2 p) l noOut (ne + 1)).2.1.length : Nat) : Int) l_236_67 (oModel_sh hm) hR1.2.1.1 ?_
  refine w_iln l_236_70 rfl ?_
  refine w_sub ((((runA (addE h ne 2 p) l noOut (ne + 1)).2.1.length : Nat) : Int) - (((runA h l noOut ne).2.1.length : Nat) : Int)) l_236_71 (by have := hR1.2.1.2; have := hR9.2.1.2; unfold wr; omega) ?_
  refine w_ir l_236_72 (Or.inl rfl) ?_
  exact ⟨_, _, rfl, rfl, rfl, h0.trans ((f9 s 0 (fun _ => Or.inl (by decide)) (fun e => absurd e (Nat.lt_irrefl s))).trans up_eq), hB, ((mfk.u (Or.inl rfl)).e.tr f9.k.e).tr f1, (h6.k f9.k).k (mfk.u (Or.inl rfl))⟩

theorem s_236_1n (hm : oModel S T s) {ne np : Nat} {a : Nat → Nat} {cd : Nat → Cd} (B : MP I s h l a ne np cd) {p : Int} (hp : ¬ (0 ≤ p ∧ p ≤ ((lPorts l : Nat) : Int) - 1)): CL xs 236 [vr s, vi p, vi 1] (S, I, T, cc, zz) (RP S T cc zz (fun v I' => v = some (vi 0) ∧ I' s 0 = 1 ∧ mfk I I' s)) := by
  refine CL_start (r := 11) (ls := [vr s, vi p, vi 1, vs 2]) (rk_236 _) rfl ?_
  refine w_aln l_236_0 rfl ?_
  refine w_aln l_236_1 rfl ?_
  refine w_iln l_236_2 rfl ?_
  refine q_iv [vi p] [vr s] l_236_3 rfl rfl (Nat.le_of_ble_eq_true rfl) (by rw [mx_228]; exact Nat.le_of_ble_eq_true rfl) (by rw [mt_228]; exact oModel_sh hm) (by rw [mt_228]; decide) (by rw [rk_228]; decide) (s_228 hm B) ?_
  refine w_bne 13 l_236_6 (by decide) (fun hx => absurd hx (by rw [decide_eq_false hp]; decide)) (fun _ => ?_)
  refine w_ic l_236_9 (by decide) ?_
  refine w_go 27 l_236_10 (by decide) ?_
  refine w_pi l_236_27 (oModel_sh hm) ?_
  refine w_aln l_236_30 rfl ?_
  refine w_gi 1 l_236_31 (oModel_sh hm) up_eq ?_
  refine w_zle 39 l_236_34 (by decide) (fun hx => absurd hx (by decide)) (fun _ => ?_)
  refine w_ic l_236_37 (by decide) ?_
  refine w_ir l_236_38 (Or.inl rfl) ?_
  exact ⟨_, _, rfl, rfl, rfl, up_eq, (mfk.u (Or.inl rfl))⟩

theorem s_236_1f (hm : oModel S T s) {ne np : Nat} {a : Nat → Nat} {cd : Nat → Cd} (B : MP I s h l a ne np cd) {p : Int} (hp : 0 ≤ p ∧ p ≤ ((lPorts l : Nat) : Int) - 1) (hne : ne = 120): CL xs 236 [vr s, vi p, vi 1] (S, I, T, cc, zz) (RP S T cc zz (fun v I' => v = some (vi 0) ∧ I' s 0 = 2 ∧ mfk I I' s)) := by
  refine CL_start (r := 11) (ls := [vr s, vi p, vi 1, vs 2]) (rk_236 _) rfl ?_
  refine w_aln l_236_0 rfl ?_
  refine w_aln l_236_1 rfl ?_
  refine w_iln l_236_2 rfl ?_
  refine q_iv [vi p] [vr s] l_236_3 rfl rfl (Nat.le_of_ble_eq_true rfl) (by rw [mx_228]; exact Nat.le_of_ble_eq_true rfl) (by rw [mt_228]; exact oModel_sh hm) (by rw [mt_228]; decide) (by rw [rk_228]; decide) (s_228 hm B) ?_
  refine w_bne 13 l_236_6 (by decide) (fun _ => ?_) (fun hx => absurd hx (by rw [decide_eq_true hp]; decide))
  refine w_aln l_236_13 rfl ?_
  refine w_gi ((ne : Nat) : Int) l_236_14 (oModel_sh hm) B.2.2.2.2.2.2.2.1 ?_
  refine w_bp l_236_17 (by decide) ?_
  refine w_cne 26 l_236_19 (by decide) (fun hx => absurd hx (by omega)) (fun _ => ?_)
  refine w_ic l_236_22 (by decide) ?_
  refine w_go 27 l_236_23 (by decide) ?_
  refine w_pi l_236_27 (oModel_sh hm) ?_
  refine w_aln l_236_30 rfl ?_
  refine w_gi 2 l_236_31 (oModel_sh hm) up_eq ?_
  refine w_zle 39 l_236_34 (by decide) (fun hx => absurd hx (by decide)) (fun _ => ?_)
  refine w_ic l_236_37 (by decide) ?_
  refine w_ir l_236_38 (Or.inl rfl) ?_
  exact ⟨_, _, rfl, rfl, rfl, up_eq, (mfk.u (Or.inl rfl))⟩

theorem mx_234 : mxl 234 = 7 := by decide +kernel
theorem mt_234 : mtc 234 = 10 := by decide +kernel
theorem rk_234 (as : List AV) : rkA 234 as = 11 := rfl
theorem l_234_0 : look 234 0 = some (.iload_n 2, 1, 0, 0, 0, 0) := by decide +kernel
theorem l_234_1 : look 234 1 = some (.invokestatic 446, 3, 233, 1, 1, 1886) := by decide +kernel
theorem l_234_4 : look 234 4 = some (.ifCond .eq 35, 3, 0, 0, 0, 0) := by decide +kernel
theorem l_234_7 : look 234 7 = some (.iload_n 3, 1, 0, 0, 0, 0) := by decide +kernel
theorem l_234_8 : look 234 8 = some (.invokestatic 446, 3, 233, 1, 1, 1886) := by decide +kernel
theorem l_234_11 : look 234 11 = some (.ifCond .eq 28, 3, 0, 0, 0, 0) := by decide +kernel
theorem l_234_14 : look 234 14 = some (.iload 4, 2, 0, 0, 0, 0) := by decide +kernel
theorem l_234_16 : look 234 16 = some (.iconst 1, 1, 0, 0, 0, 0) := by decide +kernel
theorem l_234_17 : look 234 17 = some (.bipush 9, 2, 0, 0, 0, 0) := by decide +kernel
theorem l_234_19 : look 234 19 = some (.invokestatic 175, 3, 169, 3, 1, 1775) := by decide +kernel
theorem l_234_22 : look 234 22 = some (.ifCond .eq 17, 3, 0, 0, 0, 0) := by decide +kernel
theorem l_234_25 : look 234 25 = some (.iload 5, 2, 0, 0, 0, 0) := by decide +kernel
theorem l_234_27 : look 234 27 = some (.iconst 0, 1, 0, 0, 0, 0) := by decide +kernel
theorem l_234_28 : look 234 28 = some (.iconst 3, 1, 0, 0, 0, 0) := by decide +kernel
theorem l_234_29 : look 234 29 = some (.invokestatic 175, 3, 169, 3, 1, 1775) := by decide +kernel
theorem l_234_32 : look 234 32 = some (.ifCond .eq 7, 3, 0, 0, 0, 0) := by decide +kernel
theorem l_234_35 : look 234 35 = some (.iconst 1, 1, 0, 0, 0, 0) := by decide +kernel
theorem l_234_36 : look 234 36 = some (.goto 4, 3, 0, 0, 0, 0) := by decide +kernel
theorem l_234_39 : look 234 39 = some (.iconst 0, 1, 0, 0, 0, 0) := by decide +kernel
theorem l_234_40 : look 234 40 = some (.istore 6, 2, 0, 0, 0, 0) := by decide +kernel
theorem l_234_42 : look 234 42 = some (.aload_n 0, 1, 0, 0, 0, 0) := by decide +kernel
theorem l_234_43 : look 234 43 = some (.aload_n 0, 1, 0, 0, 0, 0) := by decide +kernel
theorem l_234_44 : look 234 44 = some (.iload_n 1, 1, 0, 0, 0, 0) := by decide +kernel
theorem l_234_45 : look 234 45 = some (.invokevirtual 449, 3, 228, 2, 0, 1889) := by decide +kernel
theorem l_234_48 : look 234 48 = some (.ifCond .ne 7, 3, 0, 0, 0, 0) := by decide +kernel
theorem l_234_51 : look 234 51 = some (.iconst 1, 1, 0, 0, 0, 0) := by decide +kernel
theorem l_234_52 : look 234 52 = some (.goto 26, 3, 0, 0, 0, 0) := by decide +kernel
theorem l_234_55 : look 234 55 = some (.iload 6, 2, 0, 0, 0, 0) := by decide +kernel
theorem l_234_57 : look 234 57 = some (.ifCond .ne 7, 3, 0, 0, 0, 0) := by decide +kernel
theorem l_234_60 : look 234 60 = some (.iconst 2, 1, 0, 0, 0, 0) := by decide +kernel
theorem l_234_61 : look 234 61 = some (.goto 17, 3, 0, 0, 0, 0) := by decide +kernel
theorem l_234_64 : look 234 64 = some (.aload_n 0, 1, 0, 0, 0, 0) := by decide +kernel
theorem l_234_65 : look 234 65 = some (.getfield 330, 3, 10, 15, 0, 1516) := by decide +kernel
theorem l_234_68 : look 234 68 = some (.bipush 120, 2, 0, 0, 0, 0) := by decide +kernel
theorem l_234_70 : look 234 70 = some (.if_icmp .ne 7, 3, 0, 0, 0, 0) := by decide +kernel
theorem l_234_73 : look 234 73 = some (.iconst 3, 1, 0, 0, 0, 0) := by decide +kernel
theorem l_234_74 : look 234 74 = some (.goto 4, 3, 0, 0, 0, 0) := by decide +kernel
theorem l_234_77 : look 234 77 = some (.iconst 0, 1, 0, 0, 0, 0) := by decide +kernel
theorem l_234_78 : look 234 78 = some (.putfield 152, 3, 10, 0, 0, 1501) := by decide +kernel
theorem l_234_81 : look 234 81 = some (.aload_n 0, 1, 0, 0, 0, 0) := by decide +kernel
theorem l_234_82 : look 234 82 = some (.getfield 152, 3, 10, 0, 0, 1501) := by decide +kernel
theorem l_234_85 : look 234 85 = some (.ifCond .le 5, 3, 0, 0, 0, 0) := by decide +kernel
theorem l_234_88 : look 234 88 = some (.iconst 0, 1, 0, 0, 0, 0) := by decide +kernel
theorem l_234_89 : look 234 89 = some (.ireturn, 1, 0, 0, 0, 0) := by decide +kernel
theorem l_234_90 : look 234 90 = some (.aload_n 0, 1, 0, 0, 0, 0) := by decide +kernel
theorem l_234_91 : look 234 91 = some (.iconst 0, 1, 0, 0, 0, 0) := by decide +kernel
theorem l_234_92 : look 234 92 = some (.iload_n 1, 1, 0, 0, 0, 0) := by decide +kernel
theorem l_234_93 : look 234 93 = some (.iload_n 2, 1, 0, 0, 0, 0) := by decide +kernel
theorem l_234_94 : look 234 94 = some (.iload_n 3, 1, 0, 0, 0, 0) := by decide +kernel
theorem l_234_95 : look 234 95 = some (.iload 4, 2, 0, 0, 0, 0) := by decide +kernel
theorem l_234_97 : look 234 97 = some (.iload 5, 2, 0, 0, 0, 0) := by decide +kernel
theorem l_234_99 : look 234 99 = some (.invokevirtual 452, 3, 232, 7, 0, 1893) := by decide +kernel
theorem l_234_102 : look 234 102 = some (.aload_n 0, 1, 0, 0, 0, 0) := by decide +kernel
theorem l_234_103 : look 234 103 = some (.getfield 381, 3, 10, 68, 0, 1569) := by decide +kernel
theorem l_234_106 : look 234 106 = some (.ireturn, 1, 0, 0, 0, 0) := by decide +kernel

theorem s_234 (hm : oModel S T s) {ne np : Nat} {a : Nat → Nat} {cd : Nat → Cd} (B : MP I s h l a ne np cd) {p sr tg sz rn : Nat} (hne : ne < 120) (hp : p < lPorts l) (hs : sr < 64) (ht : tg < 64) (hz : 1 ≤ sz ∧ sz ≤ 9) (hr : rn ≤ 3) : CL xs 234 [vr s, vi ((p : Nat) : Int), vi ((sr : Nat) : Int), vi ((tg : Nat) : Int), vi ((sz : Nat) : Int), vi ((rn : Nat) : Int)] (S, I, T, cc, zz) (RP S T cc zz (fun v I' => v = some (vi (((stepA (addP h a np ne p (sr, tg, sz, rn) cd) l ne (runA (addP h a np ne p (sr, tg, sz, rn) cd) l noOut ne)).2 : Nat) : Int)) ∧ I' s 0 = 0 ∧ MP I' s (addP h a np ne p (sr, tg, sz, rn) cd) l (fu a np ne) (ne + 1) (np + 1) cd ∧ mfe I I' s ∧ p6 I I' s ne ((np : Nat) : Int))) := by
  refine CL_start (r := 11) (ls := [vr s, vi ((p : Nat) : Int), vi ((sr : Nat) : Int), vi ((tg : Nat) : Int), vi ((sz : Nat) : Int), vi ((rn : Nat) : Int), vs 2]) (rk_234 _) rfl ?_
  refine w_iln l_234_0 rfl ?_
  refine q_st [vi ((sr : Nat) : Int)] [] l_234_1 (by decide) rfl rfl (Nat.le_of_ble_eq_true rfl) (by rw [mx_233]; exact Nat.le_of_ble_eq_true rfl) (by rw [rk_233]; decide) (s_233) ?_
  refine w_beq 39 l_234_4 (by decide) (fun hx => absurd hx (by rw [decide_eq_true (by omega)]; decide)) (fun _ => ?_)
  refine w_iln l_234_7 rfl ?_
  refine q_st [vi ((tg : Nat) : Int)] [] l_234_8 (by decide) rfl rfl (Nat.le_of_ble_eq_true rfl) (by rw [mx_233]; exact Nat.le_of_ble_eq_true rfl) (by rw [rk_233]; decide) (s_233) ?_
  refine w_beq 39 l_234_11 (by decide) (fun hx => absurd hx (by rw [decide_eq_true (by omega)]; decide)) (fun _ => ?_)
  refine w_il l_234_14 rfl ?_
  refine w_ic l_234_16 (by decide) ?_
  refine w_bp l_234_17 (by decide) ?_
  refine q_st [vi ((sz : Nat) : Int), vi 1, vi 9] [] l_234_19 (by decide) rfl rfl (Nat.le_of_ble_eq_true rfl) (by rw [mx_169]; exact Nat.le_of_ble_eq_true rfl) (by rw [rk_169]; decide) (s_169) ?_
  refine w_beq 39 l_234_22 (by decide) (fun hx => absurd hx (by rw [decide_eq_true (by omega)]; decide)) (fun _ => ?_)
  refine w_il l_234_25 rfl ?_
  refine w_ic l_234_27 (by decide) ?_
  refine w_ic l_234_28 (by decide) ?_
  refine q_st [vi ((rn : Nat) : Int), vi 0, vi 3] [] l_234_29 (by decide) rfl rfl (Nat.le_of_ble_eq_true rfl) (by rw [mx_169]; exact Nat.le_of_ble_eq_true rfl) (by rw [rk_169]; decide) (s_169) ?_
  refine w_beq 39 l_234_32 (by decide) (fun hx => absurd hx (by rw [decide_eq_true (by omega)]; decide)) (fun _ => ?_)
  refine w_ic l_234_35 (by decide) ?_
  refine w_go 40 l_234_36 (by decide) ?_
  refine w_is l_234_40 ⟨Nat.le_of_ble_eq_true rfl, rfl⟩ ?_
  refine w_aln l_234_42 rfl ?_
  refine w_aln l_234_43 rfl ?_
  refine w_iln l_234_44 rfl ?_
  refine q_iv [vi ((p : Nat) : Int)] [vr s] l_234_45 rfl rfl (Nat.le_of_ble_eq_true rfl) (by rw [mx_228]; exact Nat.le_of_ble_eq_true rfl) (by rw [mt_228]; exact oModel_sh hm) (by rw [mt_228]; decide) (by rw [rk_228]; decide) (s_228 hm B) ?_
  refine w_bne 55 l_234_48 (by decide) (fun _ => ?_) (fun hx => absurd hx (by rw [decide_eq_true (by omega)]; decide))
  refine w_il l_234_55 rfl ?_
  refine w_zne 64 l_234_57 (by decide) (fun _ => ?_) (fun hx => absurd hx (by decide))
  refine w_aln l_234_64 rfl ?_
  refine w_gi ((ne : Nat) : Int) l_234_65 (oModel_sh hm) B.2.2.2.2.2.2.2.1 ?_
  refine w_bp l_234_68 (by decide) ?_
  refine w_cne 77 l_234_70 (by decide) (fun _ => ?_) (fun hx => absurd hx (by omega))
  refine w_ic l_234_77 (by decide) ?_
  refine w_pi l_234_78 (oModel_sh hm) ?_
  refine w_aln l_234_81 rfl ?_
  refine w_gi 0 l_234_82 (oModel_sh hm) up_eq ?_
  refine w_zle 90 l_234_85 (by decide) (fun _ => ?_) (fun hx => absurd hx (by decide))
  refine w_aln l_234_90 rfl ?_
  refine w_ic l_234_91 (by decide) ?_
  refine w_iln l_234_92 rfl ?_
  refine w_iln l_234_93 rfl ?_
  refine w_iln l_234_94 rfl ?_
  refine w_il l_234_95 rfl ?_
  refine w_il l_234_97 rfl ?_
  refine p_iv [vi 0, vi ((p : Nat) : Int), vi ((sr : Nat) : Int), vi ((tg : Nat) : Int), vi ((sz : Nat) : Int), vi ((rn : Nat) : Int)] [] l_234_99 rfl rfl (Nat.le_of_ble_eq_true rfl) (by rw [mx_232]; exact Nat.le_of_ble_eq_true rfl) (by rw [mt_232]; exact oModel_sh hm) (by rw [mt_232]; decide) (by rw [rk_232]; decide) (s_232_0z hm (B.k (mfk.u (Or.inl rfl))) hne hp hs ht hz hr) (fun v I1 hv => ?_)
  obtain ⟨rfl, h0, h6, hB, hR1, hc, f1⟩ := hv
  refine w_aln l_234_102 rfl ?_
  refine w_gi (((stepA (addP h a np ne p (sr, tg, sz, rn) cd) l ne (runA (addP h a np ne p (sr, tg, sz, rn) cd) l noOut ne)).2 : Nat) : Int) l_234_103 (oModel_sh hm) (((hc ne rfl rfl).1).trans (by rw [cntP_0 addP_k])) ?_
  refine w_ir l_234_106 (Or.inl rfl) ?_
  exact ⟨_, _, rfl, rfl, rfl, h0.trans up_eq, hB, (mfk.u (Or.inl rfl)).e.tr f1, h6.k (mfk.u (Or.inl rfl))⟩

theorem s_234n (hm : oModel S T s) {ne np : Nat} {a : Nat → Nat} {cd : Nat → Cd} (B : MP I s h l a ne np cd) {p sr tg sz rn : Int} (hp : ¬ (0 ≤ p ∧ p ≤ ((lPorts l : Nat) : Int) - 1)): CL xs 234 [vr s, vi p, vi sr, vi tg, vi sz, vi rn] (S, I, T, cc, zz) (RP S T cc zz (fun v I' => v = some (vi 0) ∧ I' s 0 = 1 ∧ mfk I I' s)) := by
  refine CL_start (r := 11) (ls := [vr s, vi p, vi sr, vi tg, vi sz, vi rn, vs 2]) (rk_234 _) rfl ?_
  refine w_iln l_234_0 rfl ?_
  refine q_st [vi sr] [] l_234_1 (by decide) rfl rfl (Nat.le_of_ble_eq_true rfl) (by rw [mx_233]; exact Nat.le_of_ble_eq_true rfl) (by rw [rk_233]; decide) (s_233) ?_
  refine w_beq 39 l_234_4 (by decide) (fun h1 => ?_) (fun h1 => ?_)
  · skip
    refine w_ic l_234_39 (by decide) ?_
    refine w_is l_234_40 ⟨Nat.le_of_ble_eq_true rfl, rfl⟩ ?_
    refine w_aln l_234_42 rfl ?_
    refine w_aln l_234_43 rfl ?_
    refine w_iln l_234_44 rfl ?_
    refine q_iv [vi p] [vr s] l_234_45 rfl rfl (Nat.le_of_ble_eq_true rfl) (by rw [mx_228]; exact Nat.le_of_ble_eq_true rfl) (by rw [mt_228]; exact oModel_sh hm) (by rw [mt_228]; decide) (by rw [rk_228]; decide) (s_228 hm B) ?_
    refine w_bne 55 l_234_48 (by decide) (fun hx => absurd hx (by rw [decide_eq_false hp]; decide)) (fun _ => ?_)
    refine w_ic l_234_51 (by decide) ?_
    refine w_go 78 l_234_52 (by decide) ?_
    refine w_pi l_234_78 (oModel_sh hm) ?_
    refine w_aln l_234_81 rfl ?_
    refine w_gi 1 l_234_82 (oModel_sh hm) up_eq ?_
    refine w_zle 90 l_234_85 (by decide) (fun hx => absurd hx (by decide)) (fun _ => ?_)
    refine w_ic l_234_88 (by decide) ?_
    refine w_ir l_234_89 (Or.inl rfl) ?_
    exact ⟨_, _, rfl, rfl, rfl, up_eq, (mfk.u (Or.inl rfl))⟩
  · skip
    refine w_iln l_234_7 rfl ?_
    refine q_st [vi tg] [] l_234_8 (by decide) rfl rfl (Nat.le_of_ble_eq_true rfl) (by rw [mx_233]; exact Nat.le_of_ble_eq_true rfl) (by rw [rk_233]; decide) (s_233) ?_
    refine w_beq 39 l_234_11 (by decide) (fun h2 => ?_) (fun h2 => ?_)
    · skip
      refine w_ic l_234_39 (by decide) ?_
      refine w_is l_234_40 ⟨Nat.le_of_ble_eq_true rfl, rfl⟩ ?_
      refine w_aln l_234_42 rfl ?_
      refine w_aln l_234_43 rfl ?_
      refine w_iln l_234_44 rfl ?_
      refine q_iv [vi p] [vr s] l_234_45 rfl rfl (Nat.le_of_ble_eq_true rfl) (by rw [mx_228]; exact Nat.le_of_ble_eq_true rfl) (by rw [mt_228]; exact oModel_sh hm) (by rw [mt_228]; decide) (by rw [rk_228]; decide) (s_228 hm B) ?_
      refine w_bne 55 l_234_48 (by decide) (fun hx => absurd hx (by rw [decide_eq_false hp]; decide)) (fun _ => ?_)
      refine w_ic l_234_51 (by decide) ?_
      refine w_go 78 l_234_52 (by decide) ?_
      refine w_pi l_234_78 (oModel_sh hm) ?_
      refine w_aln l_234_81 rfl ?_
      refine w_gi 1 l_234_82 (oModel_sh hm) up_eq ?_
      refine w_zle 90 l_234_85 (by decide) (fun hx => absurd hx (by decide)) (fun _ => ?_)
      refine w_ic l_234_88 (by decide) ?_
      refine w_ir l_234_89 (Or.inl rfl) ?_
      exact ⟨_, _, rfl, rfl, rfl, up_eq, (mfk.u (Or.inl rfl))⟩
    · skip
      refine w_il l_234_14 rfl ?_
      refine w_ic l_234_16 (by decide) ?_
      refine w_bp l_234_17 (by decide) ?_
      refine q_st [vi sz, vi 1, vi 9] [] l_234_19 (by decide) rfl rfl (Nat.le_of_ble_eq_true rfl) (by rw [mx_169]; exact Nat.le_of_ble_eq_true rfl) (by rw [rk_169]; decide) (s_169) ?_
      refine w_beq 39 l_234_22 (by decide) (fun h3 => ?_) (fun h3 => ?_)
      · skip
        refine w_ic l_234_39 (by decide) ?_
        refine w_is l_234_40 ⟨Nat.le_of_ble_eq_true rfl, rfl⟩ ?_
        refine w_aln l_234_42 rfl ?_
        refine w_aln l_234_43 rfl ?_
        refine w_iln l_234_44 rfl ?_
        refine q_iv [vi p] [vr s] l_234_45 rfl rfl (Nat.le_of_ble_eq_true rfl) (by rw [mx_228]; exact Nat.le_of_ble_eq_true rfl) (by rw [mt_228]; exact oModel_sh hm) (by rw [mt_228]; decide) (by rw [rk_228]; decide) (s_228 hm B) ?_
        refine w_bne 55 l_234_48 (by decide) (fun hx => absurd hx (by rw [decide_eq_false hp]; decide)) (fun _ => ?_)
        refine w_ic l_234_51 (by decide) ?_
        refine w_go 78 l_234_52 (by decide) ?_
        refine w_pi l_234_78 (oModel_sh hm) ?_
        refine w_aln l_234_81 rfl ?_
        refine w_gi 1 l_234_82 (oModel_sh hm) up_eq ?_
        refine w_zle 90 l_234_85 (by decide) (fun hx => absurd hx (by decide)) (fun _ => ?_)
        refine w_ic l_234_88 (by decide) ?_
        refine w_ir l_234_89 (Or.inl rfl) ?_
        exact ⟨_, _, rfl, rfl, rfl, up_eq, (mfk.u (Or.inl rfl))⟩
      · skip
        refine w_il l_234_25 rfl ?_
        refine w_ic l_234_27 (by decide) ?_
        refine w_ic l_234_28 (by decide) ?_
        refine q_st [vi rn, vi 0, vi 3] [] l_234_29 (by decide) rfl rfl (Nat.le_of_ble_eq_true rfl) (by rw [mx_169]; exact Nat.le_of_ble_eq_true rfl) (by rw [rk_169]; decide) (s_169) ?_
        refine w_beq 39 l_234_32 (by decide) (fun h4 => ?_) (fun h4 => ?_)
        · skip
          refine w_ic l_234_39 (by decide) ?_
          refine w_is l_234_40 ⟨Nat.le_of_ble_eq_true rfl, rfl⟩ ?_
          refine w_aln l_234_42 rfl ?_
          refine w_aln l_234_43 rfl ?_
          refine w_iln l_234_44 rfl ?_
          refine q_iv [vi p] [vr s] l_234_45 rfl rfl (Nat.le_of_ble_eq_true rfl) (by rw [mx_228]; exact Nat.le_of_ble_eq_true rfl) (by rw [mt_228]; exact oModel_sh hm) (by rw [mt_228]; decide) (by rw [rk_228]; decide) (s_228 hm B) ?_
          refine w_bne 55 l_234_48 (by decide) (fun hx => absurd hx (by rw [decide_eq_false hp]; decide)) (fun _ => ?_)
          refine w_ic l_234_51 (by decide) ?_
          refine w_go 78 l_234_52 (by decide) ?_
          refine w_pi l_234_78 (oModel_sh hm) ?_
          refine w_aln l_234_81 rfl ?_
          refine w_gi 1 l_234_82 (oModel_sh hm) up_eq ?_
          refine w_zle 90 l_234_85 (by decide) (fun hx => absurd hx (by decide)) (fun _ => ?_)
          refine w_ic l_234_88 (by decide) ?_
          refine w_ir l_234_89 (Or.inl rfl) ?_
          exact ⟨_, _, rfl, rfl, rfl, up_eq, (mfk.u (Or.inl rfl))⟩
        · skip
          refine w_ic l_234_35 (by decide) ?_
          refine w_go 40 l_234_36 (by decide) ?_
          refine w_is l_234_40 ⟨Nat.le_of_ble_eq_true rfl, rfl⟩ ?_
          refine w_aln l_234_42 rfl ?_
          refine w_aln l_234_43 rfl ?_
          refine w_iln l_234_44 rfl ?_
          refine q_iv [vi p] [vr s] l_234_45 rfl rfl (Nat.le_of_ble_eq_true rfl) (by rw [mx_228]; exact Nat.le_of_ble_eq_true rfl) (by rw [mt_228]; exact oModel_sh hm) (by rw [mt_228]; decide) (by rw [rk_228]; decide) (s_228 hm B) ?_
          refine w_bne 55 l_234_48 (by decide) (fun hx => absurd hx (by rw [decide_eq_false hp]; decide)) (fun _ => ?_)
          refine w_ic l_234_51 (by decide) ?_
          refine w_go 78 l_234_52 (by decide) ?_
          refine w_pi l_234_78 (oModel_sh hm) ?_
          refine w_aln l_234_81 rfl ?_
          refine w_gi 1 l_234_82 (oModel_sh hm) up_eq ?_
          refine w_zle 90 l_234_85 (by decide) (fun hx => absurd hx (by decide)) (fun _ => ?_)
          refine w_ic l_234_88 (by decide) ?_
          refine w_ir l_234_89 (Or.inl rfl) ?_
          exact ⟨_, _, rfl, rfl, rfl, up_eq, (mfk.u (Or.inl rfl))⟩

theorem s_234o (hm : oModel S T s) {ne np : Nat} {a : Nat → Nat} {cd : Nat → Cd} (B : MP I s h l a ne np cd) {p sr tg sz rn : Int} (hp : 0 ≤ p ∧ p ≤ ((lPorts l : Nat) : Int) - 1) (hb : ¬ ((0 ≤ sr ∧ sr ≤ 63) ∧ (0 ≤ tg ∧ tg ≤ 63) ∧ (1 ≤ sz ∧ sz ≤ 9) ∧ (0 ≤ rn ∧ rn ≤ 3))): CL xs 234 [vr s, vi p, vi sr, vi tg, vi sz, vi rn] (S, I, T, cc, zz) (RP S T cc zz (fun v I' => v = some (vi 0) ∧ I' s 0 = 2 ∧ mfk I I' s)) := by
  refine CL_start (r := 11) (ls := [vr s, vi p, vi sr, vi tg, vi sz, vi rn, vs 2]) (rk_234 _) rfl ?_
  refine w_iln l_234_0 rfl ?_
  refine q_st [vi sr] [] l_234_1 (by decide) rfl rfl (Nat.le_of_ble_eq_true rfl) (by rw [mx_233]; exact Nat.le_of_ble_eq_true rfl) (by rw [rk_233]; decide) (s_233) ?_
  refine w_beq 39 l_234_4 (by decide) (fun h1 => ?_) (fun h1 => ?_)
  · skip
    refine w_ic l_234_39 (by decide) ?_
    refine w_is l_234_40 ⟨Nat.le_of_ble_eq_true rfl, rfl⟩ ?_
    refine w_aln l_234_42 rfl ?_
    refine w_aln l_234_43 rfl ?_
    refine w_iln l_234_44 rfl ?_
    refine q_iv [vi p] [vr s] l_234_45 rfl rfl (Nat.le_of_ble_eq_true rfl) (by rw [mx_228]; exact Nat.le_of_ble_eq_true rfl) (by rw [mt_228]; exact oModel_sh hm) (by rw [mt_228]; decide) (by rw [rk_228]; decide) (s_228 hm B) ?_
    refine w_bne 55 l_234_48 (by decide) (fun _ => ?_) (fun hx => absurd hx (by rw [decide_eq_true hp]; decide))
    refine w_il l_234_55 rfl ?_
    refine w_zne 64 l_234_57 (by decide) (fun hx => absurd hx (by decide)) (fun _ => ?_)
    refine w_ic l_234_60 (by decide) ?_
    refine w_go 78 l_234_61 (by decide) ?_
    refine w_pi l_234_78 (oModel_sh hm) ?_
    refine w_aln l_234_81 rfl ?_
    refine w_gi 2 l_234_82 (oModel_sh hm) up_eq ?_
    refine w_zle 90 l_234_85 (by decide) (fun hx => absurd hx (by decide)) (fun _ => ?_)
    refine w_ic l_234_88 (by decide) ?_
    refine w_ir l_234_89 (Or.inl rfl) ?_
    exact ⟨_, _, rfl, rfl, rfl, up_eq, (mfk.u (Or.inl rfl))⟩
  · skip
    refine w_iln l_234_7 rfl ?_
    refine q_st [vi tg] [] l_234_8 (by decide) rfl rfl (Nat.le_of_ble_eq_true rfl) (by rw [mx_233]; exact Nat.le_of_ble_eq_true rfl) (by rw [rk_233]; decide) (s_233) ?_
    refine w_beq 39 l_234_11 (by decide) (fun h2 => ?_) (fun h2 => ?_)
    · skip
      refine w_ic l_234_39 (by decide) ?_
      refine w_is l_234_40 ⟨Nat.le_of_ble_eq_true rfl, rfl⟩ ?_
      refine w_aln l_234_42 rfl ?_
      refine w_aln l_234_43 rfl ?_
      refine w_iln l_234_44 rfl ?_
      refine q_iv [vi p] [vr s] l_234_45 rfl rfl (Nat.le_of_ble_eq_true rfl) (by rw [mx_228]; exact Nat.le_of_ble_eq_true rfl) (by rw [mt_228]; exact oModel_sh hm) (by rw [mt_228]; decide) (by rw [rk_228]; decide) (s_228 hm B) ?_
      refine w_bne 55 l_234_48 (by decide) (fun _ => ?_) (fun hx => absurd hx (by rw [decide_eq_true hp]; decide))
      refine w_il l_234_55 rfl ?_
      refine w_zne 64 l_234_57 (by decide) (fun hx => absurd hx (by decide)) (fun _ => ?_)
      refine w_ic l_234_60 (by decide) ?_
      refine w_go 78 l_234_61 (by decide) ?_
      refine w_pi l_234_78 (oModel_sh hm) ?_
      refine w_aln l_234_81 rfl ?_
      refine w_gi 2 l_234_82 (oModel_sh hm) up_eq ?_
      refine w_zle 90 l_234_85 (by decide) (fun hx => absurd hx (by decide)) (fun _ => ?_)
      refine w_ic l_234_88 (by decide) ?_
      refine w_ir l_234_89 (Or.inl rfl) ?_
      exact ⟨_, _, rfl, rfl, rfl, up_eq, (mfk.u (Or.inl rfl))⟩
    · skip
      refine w_il l_234_14 rfl ?_
      refine w_ic l_234_16 (by decide) ?_
      refine w_bp l_234_17 (by decide) ?_
      refine q_st [vi sz, vi 1, vi 9] [] l_234_19 (by decide) rfl rfl (Nat.le_of_ble_eq_true rfl) (by rw [mx_169]; exact Nat.le_of_ble_eq_true rfl) (by rw [rk_169]; decide) (s_169) ?_
      refine w_beq 39 l_234_22 (by decide) (fun h3 => ?_) (fun h3 => ?_)
      · skip
        refine w_ic l_234_39 (by decide) ?_
        refine w_is l_234_40 ⟨Nat.le_of_ble_eq_true rfl, rfl⟩ ?_
        refine w_aln l_234_42 rfl ?_
        refine w_aln l_234_43 rfl ?_
        refine w_iln l_234_44 rfl ?_
        refine q_iv [vi p] [vr s] l_234_45 rfl rfl (Nat.le_of_ble_eq_true rfl) (by rw [mx_228]; exact Nat.le_of_ble_eq_true rfl) (by rw [mt_228]; exact oModel_sh hm) (by rw [mt_228]; decide) (by rw [rk_228]; decide) (s_228 hm B) ?_
        refine w_bne 55 l_234_48 (by decide) (fun _ => ?_) (fun hx => absurd hx (by rw [decide_eq_true hp]; decide))
        refine w_il l_234_55 rfl ?_
        refine w_zne 64 l_234_57 (by decide) (fun hx => absurd hx (by decide)) (fun _ => ?_)
        refine w_ic l_234_60 (by decide) ?_
        refine w_go 78 l_234_61 (by decide) ?_
        refine w_pi l_234_78 (oModel_sh hm) ?_
        refine w_aln l_234_81 rfl ?_
        refine w_gi 2 l_234_82 (oModel_sh hm) up_eq ?_
        refine w_zle 90 l_234_85 (by decide) (fun hx => absurd hx (by decide)) (fun _ => ?_)
        refine w_ic l_234_88 (by decide) ?_
        refine w_ir l_234_89 (Or.inl rfl) ?_
        exact ⟨_, _, rfl, rfl, rfl, up_eq, (mfk.u (Or.inl rfl))⟩
      · skip
        refine w_il l_234_25 rfl ?_
        refine w_ic l_234_27 (by decide) ?_
        refine w_ic l_234_28 (by decide) ?_
        refine q_st [vi rn, vi 0, vi 3] [] l_234_29 (by decide) rfl rfl (Nat.le_of_ble_eq_true rfl) (by rw [mx_169]; exact Nat.le_of_ble_eq_true rfl) (by rw [rk_169]; decide) (s_169) ?_
        refine w_beq 39 l_234_32 (by decide) (fun h4 => ?_) (fun h4 => ?_)
        · skip
          refine w_ic l_234_39 (by decide) ?_
          refine w_is l_234_40 ⟨Nat.le_of_ble_eq_true rfl, rfl⟩ ?_
          refine w_aln l_234_42 rfl ?_
          refine w_aln l_234_43 rfl ?_
          refine w_iln l_234_44 rfl ?_
          refine q_iv [vi p] [vr s] l_234_45 rfl rfl (Nat.le_of_ble_eq_true rfl) (by rw [mx_228]; exact Nat.le_of_ble_eq_true rfl) (by rw [mt_228]; exact oModel_sh hm) (by rw [mt_228]; decide) (by rw [rk_228]; decide) (s_228 hm B) ?_
          refine w_bne 55 l_234_48 (by decide) (fun _ => ?_) (fun hx => absurd hx (by rw [decide_eq_true hp]; decide))
          refine w_il l_234_55 rfl ?_
          refine w_zne 64 l_234_57 (by decide) (fun hx => absurd hx (by decide)) (fun _ => ?_)
          refine w_ic l_234_60 (by decide) ?_
          refine w_go 78 l_234_61 (by decide) ?_
          refine w_pi l_234_78 (oModel_sh hm) ?_
          refine w_aln l_234_81 rfl ?_
          refine w_gi 2 l_234_82 (oModel_sh hm) up_eq ?_
          refine w_zle 90 l_234_85 (by decide) (fun hx => absurd hx (by decide)) (fun _ => ?_)
          refine w_ic l_234_88 (by decide) ?_
          refine w_ir l_234_89 (Or.inl rfl) ?_
          exact ⟨_, _, rfl, rfl, rfl, up_eq, (mfk.u (Or.inl rfl))⟩
        · skip
          refine w_ic l_234_35 (by decide) ?_
          refine w_go 40 l_234_36 (by decide) ?_
          refine w_is l_234_40 ⟨Nat.le_of_ble_eq_true rfl, rfl⟩ ?_
          refine w_aln l_234_42 rfl ?_
          refine w_aln l_234_43 rfl ?_
          refine w_iln l_234_44 rfl ?_
          refine q_iv [vi p] [vr s] l_234_45 rfl rfl (Nat.le_of_ble_eq_true rfl) (by rw [mx_228]; exact Nat.le_of_ble_eq_true rfl) (by rw [mt_228]; exact oModel_sh hm) (by rw [mt_228]; decide) (by rw [rk_228]; decide) (s_228 hm B) ?_
          refine w_bne 55 l_234_48 (by decide) (fun _ => ?_) (fun hx => absurd hx (by rw [decide_eq_true hp]; decide))
          refine w_il l_234_55 rfl ?_
          refine w_zne 64 l_234_57 (by decide) (fun _ => ?_) (fun hx => absurd hx (by decide))
          exact absurd ⟨of_decide_eq_true (by assumption), of_decide_eq_true (by assumption), of_decide_eq_true (by assumption), of_decide_eq_true (by assumption)⟩ hb

theorem s_234f (hm : oModel S T s) {ne np : Nat} {a : Nat → Nat} {cd : Nat → Cd} (B : MP I s h l a ne np cd) {p sr tg sz rn : Int} (hp : 0 ≤ p ∧ p ≤ ((lPorts l : Nat) : Int) - 1) (hb : (0 ≤ sr ∧ sr ≤ 63) ∧ (0 ≤ tg ∧ tg ≤ 63) ∧ (1 ≤ sz ∧ sz ≤ 9) ∧ (0 ≤ rn ∧ rn ≤ 3)) (hne : ne = 120): CL xs 234 [vr s, vi p, vi sr, vi tg, vi sz, vi rn] (S, I, T, cc, zz) (RP S T cc zz (fun v I' => v = some (vi 0) ∧ I' s 0 = 3 ∧ mfk I I' s)) := by
  refine CL_start (r := 11) (ls := [vr s, vi p, vi sr, vi tg, vi sz, vi rn, vs 2]) (rk_234 _) rfl ?_
  refine w_iln l_234_0 rfl ?_
  refine q_st [vi sr] [] l_234_1 (by decide) rfl rfl (Nat.le_of_ble_eq_true rfl) (by rw [mx_233]; exact Nat.le_of_ble_eq_true rfl) (by rw [rk_233]; decide) (s_233) ?_
  refine w_beq 39 l_234_4 (by decide) (fun hx => absurd hx (by rw [decide_eq_true hb.1]; decide)) (fun _ => ?_)
  refine w_iln l_234_7 rfl ?_
  refine q_st [vi tg] [] l_234_8 (by decide) rfl rfl (Nat.le_of_ble_eq_true rfl) (by rw [mx_233]; exact Nat.le_of_ble_eq_true rfl) (by rw [rk_233]; decide) (s_233) ?_
  refine w_beq 39 l_234_11 (by decide) (fun hx => absurd hx (by rw [decide_eq_true hb.2.1]; decide)) (fun _ => ?_)
  refine w_il l_234_14 rfl ?_
  refine w_ic l_234_16 (by decide) ?_
  refine w_bp l_234_17 (by decide) ?_
  refine q_st [vi sz, vi 1, vi 9] [] l_234_19 (by decide) rfl rfl (Nat.le_of_ble_eq_true rfl) (by rw [mx_169]; exact Nat.le_of_ble_eq_true rfl) (by rw [rk_169]; decide) (s_169) ?_
  refine w_beq 39 l_234_22 (by decide) (fun hx => absurd hx (by rw [decide_eq_true hb.2.2.1]; decide)) (fun _ => ?_)
  refine w_il l_234_25 rfl ?_
  refine w_ic l_234_27 (by decide) ?_
  refine w_ic l_234_28 (by decide) ?_
  refine q_st [vi rn, vi 0, vi 3] [] l_234_29 (by decide) rfl rfl (Nat.le_of_ble_eq_true rfl) (by rw [mx_169]; exact Nat.le_of_ble_eq_true rfl) (by rw [rk_169]; decide) (s_169) ?_
  refine w_beq 39 l_234_32 (by decide) (fun hx => absurd hx (by rw [decide_eq_true hb.2.2.2]; decide)) (fun _ => ?_)
  refine w_ic l_234_35 (by decide) ?_
  refine w_go 40 l_234_36 (by decide) ?_
  refine w_is l_234_40 ⟨Nat.le_of_ble_eq_true rfl, rfl⟩ ?_
  refine w_aln l_234_42 rfl ?_
  refine w_aln l_234_43 rfl ?_
  refine w_iln l_234_44 rfl ?_
  refine q_iv [vi p] [vr s] l_234_45 rfl rfl (Nat.le_of_ble_eq_true rfl) (by rw [mx_228]; exact Nat.le_of_ble_eq_true rfl) (by rw [mt_228]; exact oModel_sh hm) (by rw [mt_228]; decide) (by rw [rk_228]; decide) (s_228 hm B) ?_
  refine w_bne 55 l_234_48 (by decide) (fun _ => ?_) (fun hx => absurd hx (by rw [decide_eq_true hp]; decide))
  refine w_il l_234_55 rfl ?_
  refine w_zne 64 l_234_57 (by decide) (fun _ => ?_) (fun hx => absurd hx (by decide))
  refine w_aln l_234_64 rfl ?_
  refine w_gi ((ne : Nat) : Int) l_234_65 (oModel_sh hm) B.2.2.2.2.2.2.2.1 ?_
  refine w_bp l_234_68 (by decide) ?_
  refine w_cne 77 l_234_70 (by decide) (fun hx => absurd hx (by omega)) (fun _ => ?_)
  refine w_ic l_234_73 (by decide) ?_
  refine w_go 78 l_234_74 (by decide) ?_
  refine w_pi l_234_78 (oModel_sh hm) ?_
  refine w_aln l_234_81 rfl ?_
  refine w_gi 3 l_234_82 (oModel_sh hm) up_eq ?_
  refine w_zle 90 l_234_85 (by decide) (fun hx => absurd hx (by decide)) (fun _ => ?_)
  refine w_ic l_234_88 (by decide) ?_
  refine w_ir l_234_89 (Or.inl rfl) ?_
  exact ⟨_, _, rfl, rfl, rfl, up_eq, (mfk.u (Or.inl rfl))⟩

end RJ
