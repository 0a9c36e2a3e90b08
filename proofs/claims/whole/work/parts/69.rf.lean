/-! the reference: answers, 6 -/
def repA (e ne : Nat) : Nat := if e = 0 then 0 else if e = ne then (e - 1) % 16 + 1 else e % 16
section RF
variable {xs : List Int} {S : List (Nat × Nat)} {T : Nat → Nat → Nat} {cc zz s : Nat} {h : Hi} {l : Li} {r : Ra} {g : Lo} {I I' : Ix}

theorem mx_238 : mxl 238 = 2 := by decide +kernel
theorem mt_238 : mtc 238 = 10 := by decide +kernel
theorem rk_238 (as : List AV) : rkA 238 as = 10 := rfl
theorem l_238_0 : look 238 0 = some (.aload_n 0, 1, 0, 0, 0, 0) := by decide +kernel
theorem l_238_1 : look 238 1 = some (.iload_n 1, 1, 0, 0, 0, 0) := by decide +kernel
theorem l_238_2 : look 238 2 = some (.iconst 0, 1, 0, 0, 0, 0) := by decide +kernel
theorem l_238_3 : look 238 3 = some (.iconst 5, 1, 0, 0, 0, 0) := by decide +kernel
theorem l_238_4 : look 238 4 = some (.invokestatic 175, 3, 169, 3, 1, 1775) := by decide +kernel
theorem l_238_7 : look 238 7 = some (.ifCond .eq 7, 3, 0, 0, 0, 0) := by decide +kernel
theorem l_238_10 : look 238 10 = some (.iconst 0, 1, 0, 0, 0, 0) := by decide +kernel
theorem l_238_11 : look 238 11 = some (.goto 4, 3, 0, 0, 0, 0) := by decide +kernel
theorem l_238_14 : look 238 14 = some (.iconst 1, 1, 0, 0, 0, 0) := by decide +kernel
theorem l_238_15 : look 238 15 = some (.putfield 152, 3, 10, 0, 0, 1501) := by decide +kernel
theorem l_238_18 : look 238 18 = some (.aload_n 0, 1, 0, 0, 0, 0) := by decide +kernel
theorem l_238_19 : look 238 19 = some (.getfield 152, 3, 10, 0, 0, 1501) := by decide +kernel
theorem l_238_22 : look 238 22 = some (.ifCond .le 5, 3, 0, 0, 0, 0) := by decide +kernel
theorem l_238_25 : look 238 25 = some (.iconst 0, 1, 0, 0, 0, 0) := by decide +kernel
theorem l_238_26 : look 238 26 = some (.ireturn, 1, 0, 0, 0, 0) := by decide +kernel
theorem l_238_27 : look 238 27 = some (.aload_n 0, 1, 0, 0, 0, 0) := by decide +kernel
theorem l_238_28 : look 238 28 = some (.invokevirtual 443, 3, 215, 1, 0, 1897) := by decide +kernel
theorem l_238_31 : look 238 31 = some (.iload_n 1, 1, 0, 0, 0, 0) := by decide +kernel
theorem l_238_32 : look 238 32 = some (.ifCond .ne 10, 3, 0, 0, 0, 0) := by decide +kernel
theorem l_238_35 : look 238 35 = some (.aload_n 0, 1, 0, 0, 0, 0) := by decide +kernel
theorem l_238_36 : look 238 36 = some (.getfield 324, 3, 10, 1, 0, 1502) := by decide +kernel
theorem l_238_39 : look 238 39 = some (.goto 55, 3, 0, 0, 0, 0) := by decide +kernel
theorem l_238_42 : look 238 42 = some (.iload_n 1, 1, 0, 0, 0, 0) := by decide +kernel
theorem l_238_43 : look 238 43 = some (.iconst 1, 1, 0, 0, 0, 0) := by decide +kernel
theorem l_238_44 : look 238 44 = some (.if_icmp .ne 10, 3, 0, 0, 0, 0) := by decide +kernel
theorem l_238_47 : look 238 47 = some (.aload_n 0, 1, 0, 0, 0, 0) := by decide +kernel
theorem l_238_48 : look 238 48 = some (.getfield 327, 3, 10, 10, 0, 1511) := by decide +kernel
theorem l_238_51 : look 238 51 = some (.goto 43, 3, 0, 0, 0, 0) := by decide +kernel
theorem l_238_54 : look 238 54 = some (.iload_n 1, 1, 0, 0, 0, 0) := by decide +kernel
theorem l_238_55 : look 238 55 = some (.iconst 2, 1, 0, 0, 0, 0) := by decide +kernel
theorem l_238_56 : look 238 56 = some (.if_icmp .ne 10, 3, 0, 0, 0, 0) := by decide +kernel
theorem l_238_59 : look 238 59 = some (.aload_n 0, 1, 0, 0, 0, 0) := by decide +kernel
theorem l_238_60 : look 238 60 = some (.getfield 330, 3, 10, 15, 0, 1516) := by decide +kernel
theorem l_238_63 : look 238 63 = some (.goto 31, 3, 0, 0, 0, 0) := by decide +kernel
theorem l_238_66 : look 238 66 = some (.iload_n 1, 1, 0, 0, 0, 0) := by decide +kernel
theorem l_238_67 : look 238 67 = some (.iconst 3, 1, 0, 0, 0, 0) := by decide +kernel
theorem l_238_68 : look 238 68 = some (.if_icmp .ne 10, 3, 0, 0, 0, 0) := by decide +kernel
theorem l_238_71 : look 238 71 = some (.aload_n 0, 1, 0, 0, 0, 0) := by decide +kernel
theorem l_238_72 : look 238 72 = some (.getfield 333, 3, 10, 16, 0, 1517) := by decide +kernel
theorem l_238_75 : look 238 75 = some (.goto 19, 3, 0, 0, 0, 0) := by decide +kernel
theorem l_238_78 : look 238 78 = some (.iload_n 1, 1, 0, 0, 0, 0) := by decide +kernel
theorem l_238_79 : look 238 79 = some (.iconst 4, 1, 0, 0, 0, 0) := by decide +kernel
theorem l_238_80 : look 238 80 = some (.if_icmp .ne 10, 3, 0, 0, 0, 0) := by decide +kernel
theorem l_238_83 : look 238 83 = some (.aload_n 0, 1, 0, 0, 0, 0) := by decide +kernel
theorem l_238_84 : look 238 84 = some (.getfield 369, 3, 10, 66, 0, 1567) := by decide +kernel
theorem l_238_87 : look 238 87 = some (.goto 7, 3, 0, 0, 0, 0) := by decide +kernel
theorem l_238_90 : look 238 90 = some (.aload_n 0, 1, 0, 0, 0, 0) := by decide +kernel
theorem l_238_91 : look 238 91 = some (.getfield 375, 3, 10, 55, 0, 1556) := by decide +kernel
theorem l_238_94 : look 238 94 = some (.ireturn, 1, 0, 0, 0, 0) := by decide +kernel

theorem s_238_0 (hm : oModel S T s) {ne np : Nat} {a : Nat → Nat} {cd : Nat → Cd} (B : MP I s h l a ne np cd) : CL xs 238 [vr s, vi 0] (S, I, T, cc, zz) (RP S T cc zz (fun v I' => v = some (vi (((lPorts l) : Nat) : Int)) ∧ I' s 0 = 0 ∧ mfk I I' s)) := by
  refine CL_start (r := 10) (ls := [vr s, vi 0]) (rk_238 _) rfl ?_
  refine w_aln l_238_0 rfl ?_
  refine w_iln l_238_1 rfl ?_
  refine w_ic l_238_2 (by decide) ?_
  refine w_ic l_238_3 (by decide) ?_
  refine q_st [vi 0, vi 0, vi 5] [vr s] l_238_4 (by decide) rfl rfl (Nat.le_of_ble_eq_true rfl) (by rw [mx_169]; exact Nat.le_of_ble_eq_true rfl) (by rw [rk_169]; decide) (s_169) ?_
  refine w_beq 14 l_238_7 (by decide) (fun hx => absurd hx (by decide)) (fun _ => ?_)
  refine w_ic l_238_10 (by decide) ?_
  refine w_go 15 l_238_11 (by decide) ?_
  refine w_pi l_238_15 (oModel_sh hm) ?_
  refine w_aln l_238_18 rfl ?_
  refine w_gi 0 l_238_19 (oModel_sh hm) up_eq ?_
  refine w_zle 27 l_238_22 (by decide) (fun _ => ?_) (fun hx => absurd hx (by decide))
  refine w_aln l_238_27 rfl ?_
  refine p_iv [] [] l_238_28 rfl rfl (Nat.le_of_ble_eq_true rfl) (by rw [mx_215]; exact Nat.le_of_ble_eq_true rfl) (by rw [mt_215]; exact oModel_sh hm) (by rw [mt_215]; decide) (by rw [rk_215]; decide) (s_215 hm (B.k (mfk.u (Or.inl rfl)))) (fun v I1 hv => ?_)
  obtain ⟨rfl, hR1, f1, _, hLi⟩ := hv
  refine w_iln l_238_31 rfl ?_
  refine w_zne 42 l_238_32 (by decide) (fun hx => absurd hx (by decide)) (fun _ => ?_)
  refine w_aln l_238_35 rfl ?_
  refine w_gi (((lPorts l) : Nat) : Int) l_238_36 (oModel_sh hm) (((B.k (mfk.u (Or.inl rfl))).k f1.k).2.1.1) ?_
  refine w_go 94 l_238_39 (by decide) ?_
  refine w_ir l_238_94 (Or.inl rfl) ?_
  exact ⟨_, _, rfl, rfl, rfl, ((f1 s 0 (fun _ => Or.inl (by decide)) (fun e => absurd e (Nat.lt_irrefl s))).trans up_eq), (mfk.u (Or.inl rfl)).tr f1.k⟩

theorem s_238_1 (hm : oModel S T s) {ne np : Nat} {a : Nat → Nat} {cd : Nat → Cd} (B : MP I s h l a ne np cd) : CL xs 238 [vr s, vi 1] (S, I, T, cc, zz) (RP S T cc zz (fun v I' => v = some (vi (((lRules l) : Nat) : Int)) ∧ I' s 0 = 0 ∧ mfk I I' s)) := by
  refine CL_start (r := 10) (ls := [vr s, vi 1]) (rk_238 _) rfl ?_
  refine w_aln l_238_0 rfl ?_
  refine w_iln l_238_1 rfl ?_
  refine w_ic l_238_2 (by decide) ?_
  refine w_ic l_238_3 (by decide) ?_
  refine q_st [vi 1, vi 0, vi 5] [vr s] l_238_4 (by decide) rfl rfl (Nat.le_of_ble_eq_true rfl) (by rw [mx_169]; exact Nat.le_of_ble_eq_true rfl) (by rw [rk_169]; decide) (s_169) ?_
  refine w_beq 14 l_238_7 (by decide) (fun hx => absurd hx (by decide)) (fun _ => ?_)
  refine w_ic l_238_10 (by decide) ?_
  refine w_go 15 l_238_11 (by decide) ?_
  refine w_pi l_238_15 (oModel_sh hm) ?_
  refine w_aln l_238_18 rfl ?_
  refine w_gi 0 l_238_19 (oModel_sh hm) up_eq ?_
  refine w_zle 27 l_238_22 (by decide) (fun _ => ?_) (fun hx => absurd hx (by decide))
  refine w_aln l_238_27 rfl ?_
  refine p_iv [] [] l_238_28 rfl rfl (Nat.le_of_ble_eq_true rfl) (by rw [mx_215]; exact Nat.le_of_ble_eq_true rfl) (by rw [mt_215]; exact oModel_sh hm) (by rw [mt_215]; decide) (by rw [rk_215]; decide) (s_215 hm (B.k (mfk.u (Or.inl rfl)))) (fun v I1 hv => ?_)
  obtain ⟨rfl, hR1, f1, _, hLi⟩ := hv
  refine w_iln l_238_31 rfl ?_
  refine w_zne 42 l_238_32 (by decide) (fun _ => ?_) (fun hx => absurd hx (by decide))
  refine w_iln l_238_42 rfl ?_
  refine w_ic l_238_43 (by decide) ?_
  refine w_cne 54 l_238_44 (by decide) (fun hx => absurd hx (by decide)) (fun _ => ?_)
  refine w_aln l_238_47 rfl ?_
  refine w_gi (((lRules l) : Nat) : Int) l_238_48 (oModel_sh hm) (((B.k (mfk.u (Or.inl rfl))).k f1.k).2.1.2.2.2.2.2.1) ?_
  refine w_go 94 l_238_51 (by decide) ?_
  refine w_ir l_238_94 (Or.inl rfl) ?_
  exact ⟨_, _, rfl, rfl, rfl, ((f1 s 0 (fun _ => Or.inl (by decide)) (fun e => absurd e (Nat.lt_irrefl s))).trans up_eq), (mfk.u (Or.inl rfl)).tr f1.k⟩

theorem s_238_2 (hm : oModel S T s) {ne np : Nat} {a : Nat → Nat} {cd : Nat → Cd} (B : MP I s h l a ne np cd) : CL xs 238 [vr s, vi 2] (S, I, T, cc, zz) (RP S T cc zz (fun v I' => v = some (vi ((ne : Nat) : Int)) ∧ I' s 0 = 0 ∧ mfk I I' s)) := by
  refine CL_start (r := 10) (ls := [vr s, vi 2]) (rk_238 _) rfl ?_
  refine w_aln l_238_0 rfl ?_
  refine w_iln l_238_1 rfl ?_
  refine w_ic l_238_2 (by decide) ?_
  refine w_ic l_238_3 (by decide) ?_
  refine q_st [vi 2, vi 0, vi 5] [vr s] l_238_4 (by decide) rfl rfl (Nat.le_of_ble_eq_true rfl) (by rw [mx_169]; exact Nat.le_of_ble_eq_true rfl) (by rw [rk_169]; decide) (s_169) ?_
  refine w_beq 14 l_238_7 (by decide) (fun hx => absurd hx (by decide)) (fun _ => ?_)
  refine w_ic l_238_10 (by decide) ?_
  refine w_go 15 l_238_11 (by decide) ?_
  refine w_pi l_238_15 (oModel_sh hm) ?_
  refine w_aln l_238_18 rfl ?_
  refine w_gi 0 l_238_19 (oModel_sh hm) up_eq ?_
  refine w_zle 27 l_238_22 (by decide) (fun _ => ?_) (fun hx => absurd hx (by decide))
  refine w_aln l_238_27 rfl ?_
  refine p_iv [] [] l_238_28 rfl rfl (Nat.le_of_ble_eq_true rfl) (by rw [mx_215]; exact Nat.le_of_ble_eq_true rfl) (by rw [mt_215]; exact oModel_sh hm) (by rw [mt_215]; decide) (by rw [rk_215]; decide) (s_215 hm (B.k (mfk.u (Or.inl rfl)))) (fun v I1 hv => ?_)
  obtain ⟨rfl, hR1, f1, _, hLi⟩ := hv
  refine w_iln l_238_31 rfl ?_
  refine w_zne 42 l_238_32 (by decide) (fun _ => ?_) (fun hx => absurd hx (by decide))
  refine w_iln l_238_42 rfl ?_
  refine w_ic l_238_43 (by decide) ?_
  refine w_cne 54 l_238_44 (by decide) (fun _ => ?_) (fun hx => absurd hx (by decide))
  refine w_iln l_238_54 rfl ?_
  refine w_ic l_238_55 (by decide) ?_
  refine w_cne 66 l_238_56 (by decide) (fun hx => absurd hx (by decide)) (fun _ => ?_)
  refine w_aln l_238_59 rfl ?_
  refine w_gi ((ne : Nat) : Int) l_238_60 (oModel_sh hm) (((B.k (mfk.u (Or.inl rfl))).k f1.k).2.2.2.2.2.2.2.1) ?_
  refine w_go 94 l_238_63 (by decide) ?_
  refine w_ir l_238_94 (Or.inl rfl) ?_
  exact ⟨_, _, rfl, rfl, rfl, ((f1 s 0 (fun _ => Or.inl (by decide)) (fun e => absurd e (Nat.lt_irrefl s))).trans up_eq), (mfk.u (Or.inl rfl)).tr f1.k⟩

theorem s_238_3 (hm : oModel S T s) {ne np : Nat} {a : Nat → Nat} {cd : Nat → Cd} (B : MP I s h l a ne np cd) : CL xs 238 [vr s, vi 3] (S, I, T, cc, zz) (RP S T cc zz (fun v I' => v = some (vi ((np : Nat) : Int)) ∧ I' s 0 = 0 ∧ mfk I I' s)) := by
  refine CL_start (r := 10) (ls := [vr s, vi 3]) (rk_238 _) rfl ?_
  refine w_aln l_238_0 rfl ?_
  refine w_iln l_238_1 rfl ?_
  refine w_ic l_238_2 (by decide) ?_
  refine w_ic l_238_3 (by decide) ?_
  refine q_st [vi 3, vi 0, vi 5] [vr s] l_238_4 (by decide) rfl rfl (Nat.le_of_ble_eq_true rfl) (by rw [mx_169]; exact Nat.le_of_ble_eq_true rfl) (by rw [rk_169]; decide) (s_169) ?_
  refine w_beq 14 l_238_7 (by decide) (fun hx => absurd hx (by decide)) (fun _ => ?_)
  refine w_ic l_238_10 (by decide) ?_
  refine w_go 15 l_238_11 (by decide) ?_
  refine w_pi l_238_15 (oModel_sh hm) ?_
  refine w_aln l_238_18 rfl ?_
  refine w_gi 0 l_238_19 (oModel_sh hm) up_eq ?_
  refine w_zle 27 l_238_22 (by decide) (fun _ => ?_) (fun hx => absurd hx (by decide))
  refine w_aln l_238_27 rfl ?_
  refine p_iv [] [] l_238_28 rfl rfl (Nat.le_of_ble_eq_true rfl) (by rw [mx_215]; exact Nat.le_of_ble_eq_true rfl) (by rw [mt_215]; exact oModel_sh hm) (by rw [mt_215]; decide) (by rw [rk_215]; decide) (s_215 hm (B.k (mfk.u (Or.inl rfl)))) (fun v I1 hv => ?_)
  obtain ⟨rfl, hR1, f1, _, hLi⟩ := hv
  refine w_iln l_238_31 rfl ?_
  refine w_zne 42 l_238_32 (by decide) (fun _ => ?_) (fun hx => absurd hx (by decide))
  refine w_iln l_238_42 rfl ?_
  refine w_ic l_238_43 (by decide) ?_
  refine w_cne 54 l_238_44 (by decide) (fun _ => ?_) (fun hx => absurd hx (by decide))
  refine w_iln l_238_54 rfl ?_
  refine w_ic l_238_55 (by decide) ?_
  refine w_cne 66 l_238_56 (by decide) (fun _ => ?_) (fun hx => absurd hx (by decide))
  refine w_iln l_238_66 rfl ?_
  refine w_ic l_238_67 (by decide) ?_
  refine w_cne 78 l_238_68 (by decide) (fun hx => absurd hx (by decide)) (fun _ => ?_)
  refine w_aln l_238_71 rfl ?_
  refine w_gi ((np : Nat) : Int) l_238_72 (oModel_sh hm) (((B.k (mfk.u (Or.inl rfl))).k f1.k).2.2.2.2.2.2.2.2) ?_
  refine w_go 94 l_238_75 (by decide) ?_
  refine w_ir l_238_94 (Or.inl rfl) ?_
  exact ⟨_, _, rfl, rfl, rfl, ((f1 s 0 (fun _ => Or.inl (by decide)) (fun e => absurd e (Nat.lt_irrefl s))).trans up_eq), (mfk.u (Or.inl rfl)).tr f1.k⟩

theorem s_238_4 (hm : oModel S T s) {ne np : Nat} {a : Nat → Nat} {cd : Nat → Cd} (B : MP I s h l a ne np cd) : CL xs 238 [vr s, vi 4] (S, I, T, cc, zz) (RP S T cc zz (fun v I' => v = some (vi (((runA h l noOut ne).2.1.length : Nat) : Int)) ∧ I' s 0 = 0 ∧ mfk I I' s)) := by
  refine CL_start (r := 10) (ls := [vr s, vi 4]) (rk_238 _) rfl ?_
  refine w_aln l_238_0 rfl ?_
  refine w_iln l_238_1 rfl ?_
  refine w_ic l_238_2 (by decide) ?_
  refine w_ic l_238_3 (by decide) ?_
  refine q_st [vi 4, vi 0, vi 5] [vr s] l_238_4 (by decide) rfl rfl (Nat.le_of_ble_eq_true rfl) (by rw [mx_169]; exact Nat.le_of_ble_eq_true rfl) (by rw [rk_169]; decide) (s_169) ?_
  refine w_beq 14 l_238_7 (by decide) (fun hx => absurd hx (by decide)) (fun _ => ?_)
  refine w_ic l_238_10 (by decide) ?_
  refine w_go 15 l_238_11 (by decide) ?_
  refine w_pi l_238_15 (oModel_sh hm) ?_
  refine w_aln l_238_18 rfl ?_
  refine w_gi 0 l_238_19 (oModel_sh hm) up_eq ?_
  refine w_zle 27 l_238_22 (by decide) (fun _ => ?_) (fun hx => absurd hx (by decide))
  refine w_aln l_238_27 rfl ?_
  refine p_iv [] [] l_238_28 rfl rfl (Nat.le_of_ble_eq_true rfl) (by rw [mx_215]; exact Nat.le_of_ble_eq_true rfl) (by rw [mt_215]; exact oModel_sh hm) (by rw [mt_215]; decide) (by rw [rk_215]; decide) (s_215 hm (B.k (mfk.u (Or.inl rfl)))) (fun v I1 hv => ?_)
  obtain ⟨rfl, hR1, f1, _, hLi⟩ := hv
  refine w_iln l_238_31 rfl ?_
  refine w_zne 42 l_238_32 (by decide) (fun _ => ?_) (fun hx => absurd hx (by decide))
  refine w_iln l_238_42 rfl ?_
  refine w_ic l_238_43 (by decide) ?_
  refine w_cne 54 l_238_44 (by decide) (fun _ => ?_) (fun hx => absurd hx (by decide))
  refine w_iln l_238_54 rfl ?_
  refine w_ic l_238_55 (by decide) ?_
  refine w_cne 66 l_238_56 (by decide) (fun _ => ?_) (fun hx => absurd hx (by decide))
  refine w_iln l_238_66 rfl ?_
  refine w_ic l_238_67 (by decide) ?_
  refine w_cne 78 l_238_68 (by decide) (fun _ => ?_) (fun hx => absurd hx (by decide))
  refine w_iln l_238_78 rfl ?_
  refine w_ic l_238_79 (by decide) ?_
  refine w_cne 90 l_238_80 (by decide) (fun hx => absurd hx (by decide)) (fun _ => ?_)
  refine w_aln l_238_83 rfl ?_
  refine w_gi (((runA h l noOut ne).2.1.length : Nat) : Int) l_238_84 (oModel_sh hm) hR1.2.1.1 ?_
  refine w_go 94 l_238_87 (by decide) ?_
  refine w_ir l_238_94 (Or.inl rfl) ?_
  exact ⟨_, _, rfl, rfl, rfl, ((f1 s 0 (fun _ => Or.inl (by decide)) (fun e => absurd e (Nat.lt_irrefl s))).trans up_eq), (mfk.u (Or.inl rfl)).tr f1.k⟩

theorem s_238_5 (hm : oModel S T s) {ne np : Nat} {a : Nat → Nat} {cd : Nat → Cd} (B : MP I s h l a ne np cd) : CL xs 238 [vr s, vi 5] (S, I, T, cc, zz) (RP S T cc zz (fun v I' => v = some (vi (((sTime (runA h l noOut ne).1) : Nat) : Int)) ∧ I' s 0 = 0 ∧ mfk I I' s)) := by
  refine CL_start (r := 10) (ls := [vr s, vi 5]) (rk_238 _) rfl ?_
  refine w_aln l_238_0 rfl ?_
  refine w_iln l_238_1 rfl ?_
  refine w_ic l_238_2 (by decide) ?_
  refine w_ic l_238_3 (by decide) ?_
  refine q_st [vi 5, vi 0, vi 5] [vr s] l_238_4 (by decide) rfl rfl (Nat.le_of_ble_eq_true rfl) (by rw [mx_169]; exact Nat.le_of_ble_eq_true rfl) (by rw [rk_169]; decide) (s_169) ?_
  refine w_beq 14 l_238_7 (by decide) (fun hx => absurd hx (by decide)) (fun _ => ?_)
  refine w_ic l_238_10 (by decide) ?_
  refine w_go 15 l_238_11 (by decide) ?_
  refine w_pi l_238_15 (oModel_sh hm) ?_
  refine w_aln l_238_18 rfl ?_
  refine w_gi 0 l_238_19 (oModel_sh hm) up_eq ?_
  refine w_zle 27 l_238_22 (by decide) (fun _ => ?_) (fun hx => absurd hx (by decide))
  refine w_aln l_238_27 rfl ?_
  refine p_iv [] [] l_238_28 rfl rfl (Nat.le_of_ble_eq_true rfl) (by rw [mx_215]; exact Nat.le_of_ble_eq_true rfl) (by rw [mt_215]; exact oModel_sh hm) (by rw [mt_215]; decide) (by rw [rk_215]; decide) (s_215 hm (B.k (mfk.u (Or.inl rfl)))) (fun v I1 hv => ?_)
  obtain ⟨rfl, hR1, f1, _, hLi⟩ := hv
  refine w_iln l_238_31 rfl ?_
  refine w_zne 42 l_238_32 (by decide) (fun _ => ?_) (fun hx => absurd hx (by decide))
  refine w_iln l_238_42 rfl ?_
  refine w_ic l_238_43 (by decide) ?_
  refine w_cne 54 l_238_44 (by decide) (fun _ => ?_) (fun hx => absurd hx (by decide))
  refine w_iln l_238_54 rfl ?_
  refine w_ic l_238_55 (by decide) ?_
  refine w_cne 66 l_238_56 (by decide) (fun _ => ?_) (fun hx => absurd hx (by decide))
  refine w_iln l_238_66 rfl ?_
  refine w_ic l_238_67 (by decide) ?_
  refine w_cne 78 l_238_68 (by decide) (fun _ => ?_) (fun hx => absurd hx (by decide))
  refine w_iln l_238_78 rfl ?_
  refine w_ic l_238_79 (by decide) ?_
  refine w_cne 90 l_238_80 (by decide) (fun _ => ?_) (fun hx => absurd hx (by decide))
  refine w_aln l_238_90 rfl ?_
  refine w_gi (((sTime (runA h l noOut ne).1) : Nat) : Int) l_238_91 (oModel_sh hm) hR1.1.1.1 ?_
  refine w_ir l_238_94 (Or.inl rfl) ?_
  exact ⟨_, _, rfl, rfl, rfl, ((f1 s 0 (fun _ => Or.inl (by decide)) (fun e => absurd e (Nat.lt_irrefl s))).trans up_eq), (mfk.u (Or.inl rfl)).tr f1.k⟩

theorem s_238n (hm : oModel S T s) {ne np : Nat} {a : Nat → Nat} {cd : Nat → Cd} (B : MP I s h l a ne np cd) {p : Int} (hp : ¬ (0 ≤ p ∧ p ≤ 5)): CL xs 238 [vr s, vi p] (S, I, T, cc, zz) (RP S T cc zz (fun v I' => v = some (vi 0) ∧ I' s 0 = 1 ∧ mfk I I' s)) := by
  refine CL_start (r := 10) (ls := [vr s, vi p]) (rk_238 _) rfl ?_
  refine w_aln l_238_0 rfl ?_
  refine w_iln l_238_1 rfl ?_
  refine w_ic l_238_2 (by decide) ?_
  refine w_ic l_238_3 (by decide) ?_
  refine q_st [vi p, vi 0, vi 5] [vr s] l_238_4 (by decide) rfl rfl (Nat.le_of_ble_eq_true rfl) (by rw [mx_169]; exact Nat.le_of_ble_eq_true rfl) (by rw [rk_169]; decide) (s_169) ?_
  refine w_beq 14 l_238_7 (by decide) (fun _ => ?_) (fun hx => absurd hx (by rw [decide_eq_false hp]; decide))
  refine w_ic l_238_14 (by decide) ?_
  refine w_pi l_238_15 (oModel_sh hm) ?_
  refine w_aln l_238_18 rfl ?_
  refine w_gi 1 l_238_19 (oModel_sh hm) up_eq ?_
  refine w_zle 27 l_238_22 (by decide) (fun hx => absurd hx (by decide)) (fun _ => ?_)
  refine w_ic l_238_25 (by decide) ?_
  refine w_ir l_238_26 (Or.inl rfl) ?_
  exact ⟨_, _, rfl, rfl, rfl, up_eq, (mfk.u (Or.inl rfl))⟩

theorem mx_262 : mxl 262 = 2 := by decide +kernel
theorem mt_262 : mtc 262 = 10 := by decide +kernel
theorem rk_262 (as : List AV) : rkA 262 as = 2 := rfl
theorem l_262_0 : look 262 0 = some (.aload_n 0, 1, 0, 0, 0, 0) := by decide +kernel
theorem l_262_1 : look 262 1 = some (.aload_n 0, 1, 0, 0, 0, 0) := by decide +kernel
theorem l_262_2 : look 262 2 = some (.iload_n 1, 1, 0, 0, 0, 0) := by decide +kernel
theorem l_262_3 : look 262 3 = some (.invokevirtual 481, 3, 261, 2, 0, 2118) := by decide +kernel
theorem l_262_6 : look 262 6 = some (.ifCond .eq 7, 3, 0, 0, 0, 0) := by decide +kernel
theorem l_262_9 : look 262 9 = some (.iconst 0, 1, 0, 0, 0, 0) := by decide +kernel
theorem l_262_10 : look 262 10 = some (.goto 4, 3, 0, 0, 0, 0) := by decide +kernel
theorem l_262_13 : look 262 13 = some (.iconst 1, 1, 0, 0, 0, 0) := by decide +kernel
theorem l_262_14 : look 262 14 = some (.putfield 152, 3, 10, 0, 0, 1501) := by decide +kernel
theorem l_262_17 : look 262 17 = some (.aload_n 0, 1, 0, 0, 0, 0) := by decide +kernel
theorem l_262_18 : look 262 18 = some (.getfield 152, 3, 10, 0, 0, 1501) := by decide +kernel
theorem l_262_21 : look 262 21 = some (.ifCond .gt 7, 3, 0, 0, 0, 0) := by decide +kernel
theorem l_262_24 : look 262 24 = some (.iload_n 1, 1, 0, 0, 0, 0) := by decide +kernel
theorem l_262_25 : look 262 25 = some (.ifCond .ne 5, 3, 0, 0, 0, 0) := by decide +kernel
theorem l_262_28 : look 262 28 = some (.iconst 0, 1, 0, 0, 0, 0) := by decide +kernel
theorem l_262_29 : look 262 29 = some (.ireturn, 1, 0, 0, 0, 0) := by decide +kernel
theorem l_262_30 : look 262 30 = some (.iload_n 1, 1, 0, 0, 0, 0) := by decide +kernel
theorem l_262_31 : look 262 31 = some (.aload_n 0, 1, 0, 0, 0, 0) := by decide +kernel
theorem l_262_32 : look 262 32 = some (.getfield 330, 3, 10, 15, 0, 1516) := by decide +kernel
theorem l_262_35 : look 262 35 = some (.if_icmp .ne 14, 3, 0, 0, 0, 0) := by decide +kernel
theorem l_262_38 : look 262 38 = some (.iload_n 1, 1, 0, 0, 0, 0) := by decide +kernel
theorem l_262_39 : look 262 39 = some (.iconst 1, 1, 0, 0, 0, 0) := by decide +kernel
theorem l_262_40 : look 262 40 = some (.isub, 1, 0, 0, 0, 0) := by decide +kernel
theorem l_262_41 : look 262 41 = some (.bipush 16, 2, 0, 0, 0, 0) := by decide +kernel
theorem l_262_43 : look 262 43 = some (.irem, 1, 0, 0, 0, 0) := by decide +kernel
theorem l_262_44 : look 262 44 = some (.iconst 1, 1, 0, 0, 0, 0) := by decide +kernel
theorem l_262_45 : look 262 45 = some (.iadd, 1, 0, 0, 0, 0) := by decide +kernel
theorem l_262_46 : look 262 46 = some (.goto 7, 3, 0, 0, 0, 0) := by decide +kernel
theorem l_262_49 : look 262 49 = some (.iload_n 1, 1, 0, 0, 0, 0) := by decide +kernel
theorem l_262_50 : look 262 50 = some (.bipush 16, 2, 0, 0, 0, 0) := by decide +kernel
theorem l_262_52 : look 262 52 = some (.irem, 1, 0, 0, 0, 0) := by decide +kernel
theorem l_262_53 : look 262 53 = some (.ireturn, 1, 0, 0, 0, 0) := by decide +kernel

theorem s_262 (hm : oModel S T s) {ne np : Nat} {a : Nat → Nat} {cd : Nat → Cd} (B : MP I s h l a ne np cd) {e : Nat} (he : e ≤ ne): CL xs 262 [vr s, vi ((e : Nat) : Int)] (S, I, T, cc, zz) (RP S T cc zz (fun v I' => v = some (vi ((repA e ne : Nat) : Int)) ∧ I' s 0 = 0 ∧ mfk I I' s)) := by
  refine CL_start (r := 2) (ls := [vr s, vi ((e : Nat) : Int)]) (rk_262 _) rfl ?_
  have hl4 := B.2.2.2.2.1.1
  have hne := B.1.1
  have hnp := B.1.2.1
  have hok := (B.run noOut (Nat.le_refl ne)).1
  have hlen : (runA h l noOut ne).2.1.length ≤ 360 := by
    have h8 := hok.2.2
    unfold tot at h8
    omega
  refine w_aln l_262_0 rfl ?_
  refine w_aln l_262_1 rfl ?_
  refine w_iln l_262_2 rfl ?_
  refine q_iv [vi ((e : Nat) : Int)] [vr s] l_262_3 rfl rfl (Nat.le_of_ble_eq_true rfl) (by rw [mx_261]; exact Nat.le_of_ble_eq_true rfl) (by rw [mt_261]; exact oModel_sh hm) (by rw [mt_261]; decide) (by rw [rk_261]; decide) (s_261 hm B) ?_
  refine w_beq 13 l_262_6 (by decide) (fun hx => absurd hx (by rw [decide_eq_true (by omega)]; decide)) (fun _ => ?_)
  refine w_ic l_262_9 (by decide) ?_
  refine w_go 14 l_262_10 (by decide) ?_
  refine w_pi l_262_14 (oModel_sh hm) ?_
  refine w_aln l_262_17 rfl ?_
  refine w_gi 0 l_262_18 (oModel_sh hm) up_eq ?_
  refine w_zgt 28 l_262_21 (by decide) (fun hx => absurd hx (by decide)) (fun _ => ?_)
  refine w_iln l_262_24 rfl ?_
  refine w_zne 30 l_262_25 (by decide) (fun h1 => ?_) (fun h1 => ?_)
  · skip
    refine w_iln l_262_30 rfl ?_
    refine w_aln l_262_31 rfl ?_
    refine w_gi ((ne : Nat) : Int) l_262_32 (oModel_sh hm) ((up_nj (by omega)).trans (B.2.2.2.2.2.2.2.1)) ?_
    refine w_cne 49 l_262_35 (by decide) (fun h2 => ?_) (fun h2 => ?_)
    · skip
      refine w_iln l_262_49 rfl ?_
      refine w_bp l_262_50 (by decide) ?_
      refine w_rem (((e % 16) : Nat) : Int) l_262_52 (by decide) (by rw [show ((e : Nat) : Int).tmod 16 = ((e % 16 : Nat) : Int) from rfl]) ?_
      refine w_ir l_262_53 (Or.inl rfl) ?_
      refine ⟨_, _, rfl, rfl, ?_, up_eq, (mfk.u (Or.inl rfl))⟩
      unfold repA
      first
        | rw [if_pos (by omega)]; rfl
        | rw [if_neg (by omega), if_pos (by omega)]
        | rw [if_neg (by omega), if_neg (by omega)]
    · skip
      refine w_iln l_262_38 rfl ?_
      refine w_ic l_262_39 (by decide) ?_
      refine w_sub (((e - 1) : Nat) : Int) l_262_40 (by unfold wr; omega) ?_
      refine w_bp l_262_41 (by decide) ?_
      refine w_rem ((((e - 1) % 16) : Nat) : Int) l_262_43 (by decide) (by rw [show (((e - 1) : Nat) : Int).tmod 16 = (((e - 1) % 16 : Nat) : Int) from rfl]) ?_
      refine w_ic l_262_44 (by decide) ?_
      refine w_add ((((e - 1) % 16) + 1 : Nat) : Int) l_262_45 (by unfold wr; omega) ?_
      refine w_go 53 l_262_46 (by decide) ?_
      refine w_ir l_262_53 (Or.inl rfl) ?_
      refine ⟨_, _, rfl, rfl, ?_, up_eq, (mfk.u (Or.inl rfl))⟩
      unfold repA
      first
        | rw [if_pos (by omega)]; rfl
        | rw [if_neg (by omega), if_pos (by omega)]
        | rw [if_neg (by omega), if_neg (by omega)]
  · skip
    refine w_ic l_262_28 (by decide) ?_
    refine w_ir l_262_29 (Or.inl rfl) ?_
    refine ⟨_, _, rfl, rfl, ?_, up_eq, (mfk.u (Or.inl rfl))⟩
    unfold repA
    first
      | rw [if_pos (by omega)]; rfl
      | rw [if_neg (by omega), if_pos (by omega)]
      | rw [if_neg (by omega), if_neg (by omega)]

theorem s_262n (hm : oModel S T s) {ne np : Nat} {a : Nat → Nat} {cd : Nat → Cd} (B : MP I s h l a ne np cd) {p : Int} (hp : ¬ (0 ≤ p ∧ p ≤ ((ne : Nat) : Int))): CL xs 262 [vr s, vi p] (S, I, T, cc, zz) (RP S T cc zz (fun v I' => v = some (vi 0) ∧ I' s 0 = 1 ∧ mfk I I' s)) := by
  refine CL_start (r := 2) (ls := [vr s, vi p]) (rk_262 _) rfl ?_
  refine w_aln l_262_0 rfl ?_
  refine w_aln l_262_1 rfl ?_
  refine w_iln l_262_2 rfl ?_
  refine q_iv [vi p] [vr s] l_262_3 rfl rfl (Nat.le_of_ble_eq_true rfl) (by rw [mx_261]; exact Nat.le_of_ble_eq_true rfl) (by rw [mt_261]; exact oModel_sh hm) (by rw [mt_261]; decide) (by rw [rk_261]; decide) (s_261 hm B) ?_
  refine w_beq 13 l_262_6 (by decide) (fun _ => ?_) (fun hx => absurd hx (by rw [decide_eq_false hp]; decide))
  refine w_ic l_262_13 (by decide) ?_
  refine w_pi l_262_14 (oModel_sh hm) ?_
  refine w_aln l_262_17 rfl ?_
  refine w_gi 1 l_262_18 (oModel_sh hm) up_eq ?_
  refine w_zgt 28 l_262_21 (by decide) (fun _ => ?_) (fun hx => absurd hx (by decide))
  refine w_ic l_262_28 (by decide) ?_
  refine w_ir l_262_29 (Or.inl rfl) ?_
  exact ⟨_, _, rfl, rfl, rfl, up_eq, (mfk.u (Or.inl rfl))⟩

theorem mx_263 : mxl 263 = 3 := by decide +kernel
theorem mt_263 : mtc 263 = 10 := by decide +kernel
theorem rk_263 (as : List AV) : rkA 263 as = 9 := rfl
theorem l_263_0 : look 263 0 = some (.aload_n 0, 1, 0, 0, 0, 0) := by decide +kernel
theorem l_263_1 : look 263 1 = some (.aload_n 0, 1, 0, 0, 0, 0) := by decide +kernel
theorem l_263_2 : look 263 2 = some (.iload_n 1, 1, 0, 0, 0, 0) := by decide +kernel
theorem l_263_3 : look 263 3 = some (.invokevirtual 481, 3, 261, 2, 0, 2118) := by decide +kernel
theorem l_263_6 : look 263 6 = some (.ifCond .eq 15, 3, 0, 0, 0, 0) := by decide +kernel
theorem l_263_9 : look 263 9 = some (.aload_n 0, 1, 0, 0, 0, 0) := by decide +kernel
theorem l_263_10 : look 263 10 = some (.iload_n 2, 1, 0, 0, 0, 0) := by decide +kernel
theorem l_263_11 : look 263 11 = some (.invokevirtual 449, 3, 228, 2, 0, 1889) := by decide +kernel
theorem l_263_14 : look 263 14 = some (.ifCond .eq 7, 3, 0, 0, 0, 0) := by decide +kernel
theorem l_263_17 : look 263 17 = some (.iconst 0, 1, 0, 0, 0, 0) := by decide +kernel
theorem l_263_18 : look 263 18 = some (.goto 4, 3, 0, 0, 0, 0) := by decide +kernel
theorem l_263_21 : look 263 21 = some (.iconst 1, 1, 0, 0, 0, 0) := by decide +kernel
theorem l_263_22 : look 263 22 = some (.putfield 152, 3, 10, 0, 0, 1501) := by decide +kernel
theorem l_263_25 : look 263 25 = some (.aload_n 0, 1, 0, 0, 0, 0) := by decide +kernel
theorem l_263_26 : look 263 26 = some (.getfield 152, 3, 10, 0, 0, 1501) := by decide +kernel
theorem l_263_29 : look 263 29 = some (.ifCond .le 5, 3, 0, 0, 0, 0) := by decide +kernel
theorem l_263_32 : look 263 32 = some (.iconst 0, 1, 0, 0, 0, 0) := by decide +kernel
theorem l_263_33 : look 263 33 = some (.ireturn, 1, 0, 0, 0, 0) := by decide +kernel
theorem l_263_34 : look 263 34 = some (.aload_n 0, 1, 0, 0, 0, 0) := by decide +kernel
theorem l_263_35 : look 263 35 = some (.invokevirtual 354, 3, 202, 1, 0, 1901) := by decide +kernel
theorem l_263_38 : look 263 38 = some (.aload_n 0, 1, 0, 0, 0, 0) := by decide +kernel
theorem l_263_39 : look 263 39 = some (.iload_n 1, 1, 0, 0, 0, 0) := by decide +kernel
theorem l_263_40 : look 263 40 = some (.invokevirtual 390, 3, 214, 2, 0, 1905) := by decide +kernel
theorem l_263_43 : look 263 43 = some (.aload_n 0, 1, 0, 0, 0, 0) := by decide +kernel
theorem l_263_44 : look 263 44 = some (.iload_n 2, 1, 0, 0, 0, 0) := by decide +kernel
theorem l_263_45 : look 263 45 = some (.invokevirtual 366, 3, 209, 2, 0, 1968) := by decide +kernel
theorem l_263_48 : look 263 48 = some (.ireturn, 1, 0, 0, 0, 0) := by decide +kernel

theorem s_263 (hm : oModel S T s) {ne np : Nat} {a : Nat → Nat} {cd : Nat → Cd} (B : MP I s h l a ne np cd) {e p : Nat} (he : e ≤ ne) (hp : p < lPorts l): CL xs 263 [vr s, vi ((e : Nat) : Int), vi ((p : Nat) : Int)] (S, I, T, cc, zz) (RP S T cc zz (fun v I' => v = some (vi ((fillP h (runA h l noOut e).1 p : Nat) : Int)) ∧ I' s 0 = 0 ∧ mfk I I' s)) := by
  refine CL_start (r := 9) (ls := [vr s, vi ((e : Nat) : Int), vi ((p : Nat) : Int)]) (rk_263 _) rfl ?_
  have hl4 := B.2.2.2.2.1.1
  have hne := B.1.1
  have hnp := B.1.2.1
  have hok := (B.run noOut (Nat.le_refl ne)).1
  have hlen : (runA h l noOut ne).2.1.length ≤ 360 := by
    have h8 := hok.2.2
    unfold tot at h8
    omega
  have hoke := (B.run noOut he).1
  refine w_aln l_263_0 rfl ?_
  refine w_aln l_263_1 rfl ?_
  refine w_iln l_263_2 rfl ?_
  refine q_iv [vi ((e : Nat) : Int)] [vr s] l_263_3 rfl rfl (Nat.le_of_ble_eq_true rfl) (by rw [mx_261]; exact Nat.le_of_ble_eq_true rfl) (by rw [mt_261]; exact oModel_sh hm) (by rw [mt_261]; decide) (by rw [rk_261]; decide) (s_261 hm B) ?_
  refine w_beq 21 l_263_6 (by decide) (fun hx => absurd hx (by rw [decide_eq_true (by omega)]; decide)) (fun _ => ?_)
  refine w_aln l_263_9 rfl ?_
  refine w_iln l_263_10 rfl ?_
  refine q_iv [vi ((p : Nat) : Int)] [vr s] l_263_11 rfl rfl (Nat.le_of_ble_eq_true rfl) (by rw [mx_228]; exact Nat.le_of_ble_eq_true rfl) (by rw [mt_228]; exact oModel_sh hm) (by rw [mt_228]; decide) (by rw [rk_228]; decide) (s_228 hm B) ?_
  refine w_beq 21 l_263_14 (by decide) (fun hx => absurd hx (by rw [decide_eq_true (by omega)]; decide)) (fun _ => ?_)
  refine w_ic l_263_17 (by decide) ?_
  refine w_go 22 l_263_18 (by decide) ?_
  refine w_pi l_263_22 (oModel_sh hm) ?_
  refine w_aln l_263_25 rfl ?_
  refine w_gi 0 l_263_26 (oModel_sh hm) up_eq ?_
  refine w_zle 34 l_263_29 (by decide) (fun _ => ?_) (fun hx => absurd hx (by decide))
  refine w_aln l_263_34 rfl ?_
  refine p_iv [] [] l_263_35 rfl rfl (Nat.le_of_ble_eq_true rfl) (by rw [mx_202]; exact Nat.le_of_ble_eq_true rfl) (by rw [mt_202]; exact oModel_sh hm) (by rw [mt_202]; decide) (by rw [rk_202]; decide) (r_plain hm (B.k (mfk.u (Or.inl rfl))).2.1 B.2.2.2.2.1) (fun v I1 hv => ?_)
  obtain ⟨rfl, k1, k2, F⟩ := hv
  refine w_aln l_263_38 rfl ?_
  refine w_iln l_263_39 rfl ?_
  refine p_iv [vi ((e : Nat) : Int)] [] l_263_40 rfl rfl (Nat.le_of_ble_eq_true rfl) (by rw [mx_214]; exact Nat.le_of_ble_eq_true rfl) (by rw [mt_214]; exact oModel_sh hm) (by rw [mt_214]; decide) (by rw [rk_214]; decide) (s_214 hm (((B.k (mfk.u (Or.inl rfl))).fr F).MB k1 B.2.2.2.2.1 rfl) he (fun e he => k2 e (by omega))) (fun v I2 hv => ?_)
  obtain ⟨rfl, hR2, f2, _⟩ := hv
  refine w_aln l_263_43 rfl ?_
  refine w_iln l_263_44 rfl ?_
  refine q_iv [vi ((p : Nat) : Int)] [] l_263_45 rfl rfl (Nat.le_of_ble_eq_true rfl) (by rw [mx_209]; exact Nat.le_of_ble_eq_true rfl) (by rw [mt_209]; exact oModel_sh hm) (by rw [mt_209]; decide) (by rw [rk_209]; decide) (s_209 hm (((B.k (mfk.u (Or.inl rfl))).fr F).fr f2.b).1 B.2.2.2.1 (by omega) (hR2.1.2.2.1 p (by omega)) (ok_hq hoke)) ?_
  refine w_ir l_263_48 (Or.inl rfl) ?_
  exact ⟨_, _, rfl, rfl, rfl, ((f2.b s 0 (fun _ => Or.inl (by decide)) (fun e => absurd e (Nat.lt_irrefl s))).trans ((F s 0 (fun _ => Or.inl (by decide)) (fun e => absurd e (Nat.lt_irrefl s))).trans up_eq)), (mfk.u (Or.inl rfl)).tr ((F.tr f2.b).k)⟩

theorem s_263n (hm : oModel S T s) {ne np : Nat} {a : Nat → Nat} {cd : Nat → Cd} (B : MP I s h l a ne np cd) {e p : Int} (hb : ¬ ((0 ≤ e ∧ e ≤ ((ne : Nat) : Int)) ∧ (0 ≤ p ∧ p ≤ ((lPorts l : Nat) : Int) - 1))): CL xs 263 [vr s, vi e, vi p] (S, I, T, cc, zz) (RP S T cc zz (fun v I' => v = some (vi 0) ∧ I' s 0 = 1 ∧ mfk I I' s)) := by
  refine CL_start (r := 9) (ls := [vr s, vi e, vi p]) (rk_263 _) rfl ?_
  refine w_aln l_263_0 rfl ?_
  refine w_aln l_263_1 rfl ?_
  refine w_iln l_263_2 rfl ?_
  refine q_iv [vi e] [vr s] l_263_3 rfl rfl (Nat.le_of_ble_eq_true rfl) (by rw [mx_261]; exact Nat.le_of_ble_eq_true rfl) (by rw [mt_261]; exact oModel_sh hm) (by rw [mt_261]; decide) (by rw [rk_261]; decide) (s_261 hm B) ?_
  refine w_beq 21 l_263_6 (by decide) (fun h1 => ?_) (fun h1 => ?_)
  · skip
    refine w_ic l_263_21 (by decide) ?_
    refine w_pi l_263_22 (oModel_sh hm) ?_
    refine w_aln l_263_25 rfl ?_
    refine w_gi 1 l_263_26 (oModel_sh hm) up_eq ?_
    refine w_zle 34 l_263_29 (by decide) (fun hx => absurd hx (by decide)) (fun _ => ?_)
    refine w_ic l_263_32 (by decide) ?_
    refine w_ir l_263_33 (Or.inl rfl) ?_
    exact ⟨_, _, rfl, rfl, rfl, up_eq, (mfk.u (Or.inl rfl))⟩
  · skip
    refine w_aln l_263_9 rfl ?_
    refine w_iln l_263_10 rfl ?_
    refine q_iv [vi p] [vr s] l_263_11 rfl rfl (Nat.le_of_ble_eq_true rfl) (by rw [mx_228]; exact Nat.le_of_ble_eq_true rfl) (by rw [mt_228]; exact oModel_sh hm) (by rw [mt_228]; decide) (by rw [rk_228]; decide) (s_228 hm B) ?_
    refine w_beq 21 l_263_14 (by decide) (fun h2 => ?_) (fun h2 => ?_)
    · skip
      refine w_ic l_263_21 (by decide) ?_
      refine w_pi l_263_22 (oModel_sh hm) ?_
      refine w_aln l_263_25 rfl ?_
      refine w_gi 1 l_263_26 (oModel_sh hm) up_eq ?_
      refine w_zle 34 l_263_29 (by decide) (fun hx => absurd hx (by decide)) (fun _ => ?_)
      refine w_ic l_263_32 (by decide) ?_
      refine w_ir l_263_33 (Or.inl rfl) ?_
      exact ⟨_, _, rfl, rfl, rfl, up_eq, (mfk.u (Or.inl rfl))⟩
    · skip
      refine w_ic l_263_17 (by decide) ?_
      refine w_go 22 l_263_18 (by decide) ?_
      refine w_pi l_263_22 (oModel_sh hm) ?_
      refine w_aln l_263_25 rfl ?_
      refine w_gi 0 l_263_26 (oModel_sh hm) up_eq ?_
      refine w_zle 34 l_263_29 (by decide) (fun _ => ?_) (fun hx => absurd hx (by decide))
      exact absurd ⟨of_decide_eq_true h1, of_decide_eq_true h2⟩ hb

theorem mx_264 : mxl 264 = 3 := by decide +kernel
theorem mt_264 : mtc 264 = 10 := by decide +kernel
theorem rk_264 (as : List AV) : rkA 264 as = 9 := rfl
theorem l_264_0 : look 264 0 = some (.aload_n 0, 1, 0, 0, 0, 0) := by decide +kernel
theorem l_264_1 : look 264 1 = some (.aload_n 0, 1, 0, 0, 0, 0) := by decide +kernel
theorem l_264_2 : look 264 2 = some (.iload_n 1, 1, 0, 0, 0, 0) := by decide +kernel
theorem l_264_3 : look 264 3 = some (.invokevirtual 481, 3, 261, 2, 0, 2118) := by decide +kernel
theorem l_264_6 : look 264 6 = some (.ifCond .ne 7, 3, 0, 0, 0, 0) := by decide +kernel
theorem l_264_9 : look 264 9 = some (.iconst 1, 1, 0, 0, 0, 0) := by decide +kernel
theorem l_264_10 : look 264 10 = some (.goto 15, 3, 0, 0, 0, 0) := by decide +kernel
theorem l_264_13 : look 264 13 = some (.iload_n 2, 1, 0, 0, 0, 0) := by decide +kernel
theorem l_264_14 : look 264 14 = some (.invokestatic 446, 3, 233, 1, 1, 1886) := by decide +kernel
theorem l_264_17 : look 264 17 = some (.ifCond .ne 7, 3, 0, 0, 0, 0) := by decide +kernel
theorem l_264_20 : look 264 20 = some (.iconst 2, 1, 0, 0, 0, 0) := by decide +kernel
theorem l_264_21 : look 264 21 = some (.goto 4, 3, 0, 0, 0, 0) := by decide +kernel
theorem l_264_24 : look 264 24 = some (.iconst 0, 1, 0, 0, 0, 0) := by decide +kernel
theorem l_264_25 : look 264 25 = some (.putfield 152, 3, 10, 0, 0, 1501) := by decide +kernel
theorem l_264_28 : look 264 28 = some (.aload_n 0, 1, 0, 0, 0, 0) := by decide +kernel
theorem l_264_29 : look 264 29 = some (.getfield 152, 3, 10, 0, 0, 1501) := by decide +kernel
theorem l_264_32 : look 264 32 = some (.ifCond .le 5, 3, 0, 0, 0, 0) := by decide +kernel
theorem l_264_35 : look 264 35 = some (.iconst 0, 1, 0, 0, 0, 0) := by decide +kernel
theorem l_264_36 : look 264 36 = some (.ireturn, 1, 0, 0, 0, 0) := by decide +kernel
theorem l_264_37 : look 264 37 = some (.aload_n 0, 1, 0, 0, 0, 0) := by decide +kernel
theorem l_264_38 : look 264 38 = some (.invokevirtual 354, 3, 202, 1, 0, 1901) := by decide +kernel
theorem l_264_41 : look 264 41 = some (.aload_n 0, 1, 0, 0, 0, 0) := by decide +kernel
theorem l_264_42 : look 264 42 = some (.iload_n 1, 1, 0, 0, 0, 0) := by decide +kernel
theorem l_264_43 : look 264 43 = some (.invokevirtual 390, 3, 214, 2, 0, 1905) := by decide +kernel
theorem l_264_46 : look 264 46 = some (.aload_n 0, 1, 0, 0, 0, 0) := by decide +kernel
theorem l_264_47 : look 264 47 = some (.iload_n 2, 1, 0, 0, 0, 0) := by decide +kernel
theorem l_264_48 : look 264 48 = some (.invokevirtual 421, 3, 221, 2, 0, 1952) := by decide +kernel
theorem l_264_51 : look 264 51 = some (.ifCond .eq 12, 3, 0, 0, 0, 0) := by decide +kernel
theorem l_264_54 : look 264 54 = some (.aload_n 0, 1, 0, 0, 0, 0) := by decide +kernel
theorem l_264_55 : look 264 55 = some (.getfield 128, 3, 10, 61, 2, 1562) := by decide +kernel
theorem l_264_58 : look 264 58 = some (.iload_n 2, 1, 0, 0, 0, 0) := by decide +kernel
theorem l_264_59 : look 264 59 = some (.iaload, 1, 0, 0, 0, 0) := by decide +kernel
theorem l_264_60 : look 264 60 = some (.goto 4, 3, 0, 0, 0, 0) := by decide +kernel
theorem l_264_63 : look 264 63 = some (.iconst (-1), 1, 0, 0, 0, 0) := by decide +kernel
theorem l_264_64 : look 264 64 = some (.ireturn, 1, 0, 0, 0, 0) := by decide +kernel

theorem s_264 (hm : oModel S T s) {ne np : Nat} {a : Nat → Nat} {cd : Nat → Cd} (B : MP I s h l a ne np cd) {e b : Nat} (he : e ≤ ne) (hb : b < 64) : CL xs 264 [vr s, vi ((e : Nat) : Int), vi ((b : Nat) : Int)] (S, I, T, cc, zz) (RP S T cc zz (fun v I' => v = some (vi (ruleI (validA l (runA h l noOut e).1 b))) ∧ I' s 0 = 0 ∧ mfk I I' s)) := by
  cases hv : validA l (runA h l noOut e).1 b with
  | some w =>
    refine CL_start (r := 9) (ls := [vr s, vi ((e : Nat) : Int), vi ((b : Nat) : Int)]) (rk_264 _) rfl ?_
    have hl4 := B.2.2.2.2.1.1
    have hne := B.1.1
    have hnp := B.1.2.1
    have hok := (B.run noOut (Nat.le_refl ne)).1
    have hlen : (runA h l noOut ne).2.1.length ≤ 360 := by
      have h8 := hok.2.2
      unfold tot at h8
      omega
    have hoke := (B.run noOut he).1
    refine w_aln l_264_0 rfl ?_
    refine w_aln l_264_1 rfl ?_
    refine w_iln l_264_2 rfl ?_
    refine q_iv [vi ((e : Nat) : Int)] [vr s] l_264_3 rfl rfl (Nat.le_of_ble_eq_true rfl) (by rw [mx_261]; exact Nat.le_of_ble_eq_true rfl) (by rw [mt_261]; exact oModel_sh hm) (by rw [mt_261]; decide) (by rw [rk_261]; decide) (s_261 hm B) ?_
    refine w_bne 13 l_264_6 (by decide) (fun _ => ?_) (fun hx => absurd hx (by rw [decide_eq_true (by omega)]; decide))
    refine w_iln l_264_13 rfl ?_
    refine q_st [vi ((b : Nat) : Int)] [vr s] l_264_14 (by decide) rfl rfl (Nat.le_of_ble_eq_true rfl) (by rw [mx_233]; exact Nat.le_of_ble_eq_true rfl) (by rw [rk_233]; decide) (s_233) ?_
    refine w_bne 24 l_264_17 (by decide) (fun _ => ?_) (fun hx => absurd hx (by rw [decide_eq_true (by omega)]; decide))
    refine w_ic l_264_24 (by decide) ?_
    refine w_pi l_264_25 (oModel_sh hm) ?_
    refine w_aln l_264_28 rfl ?_
    refine w_gi 0 l_264_29 (oModel_sh hm) up_eq ?_
    refine w_zle 37 l_264_32 (by decide) (fun _ => ?_) (fun hx => absurd hx (by decide))
    refine w_aln l_264_37 rfl ?_
    refine p_iv [] [] l_264_38 rfl rfl (Nat.le_of_ble_eq_true rfl) (by rw [mx_202]; exact Nat.le_of_ble_eq_true rfl) (by rw [mt_202]; exact oModel_sh hm) (by rw [mt_202]; decide) (by rw [rk_202]; decide) (r_plain hm (B.k (mfk.u (Or.inl rfl))).2.1 B.2.2.2.2.1) (fun v I1 hv => ?_)
    obtain ⟨rfl, k1, k2, F⟩ := hv
    refine w_aln l_264_41 rfl ?_
    refine w_iln l_264_42 rfl ?_
    refine p_iv [vi ((e : Nat) : Int)] [] l_264_43 rfl rfl (Nat.le_of_ble_eq_true rfl) (by rw [mx_214]; exact Nat.le_of_ble_eq_true rfl) (by rw [mt_214]; exact oModel_sh hm) (by rw [mt_214]; decide) (by rw [rk_214]; decide) (s_214 hm (((B.k (mfk.u (Or.inl rfl))).fr F).MB k1 B.2.2.2.2.1 rfl) he (fun e he => k2 e (by omega))) (fun v I2 hv => ?_)
    obtain ⟨rfl, hR2, f2, _⟩ := hv
    refine w_aln l_264_46 rfl ?_
    refine w_iln l_264_47 rfl ?_
    refine q_iv [vi ((b : Nat) : Int)] [] l_264_48 rfl rfl (Nat.le_of_ble_eq_true rfl) (by rw [mx_221]; exact Nat.le_of_ble_eq_true rfl) (by rw [mt_221]; exact oModel_sh hm) (by rw [mt_221]; decide) (by rw [rk_221]; decide) (r_validI hm ((nLi_z k1 f2).2.2.2.2.1) hR2 hb hv) ?_
    refine w_beq 63 l_264_51 (by decide) (fun hx => absurd hx (by intro q; cases q)) (fun _ => ?_)
    refine w_aln l_264_54 rfl ?_
    refine w_gr l_264_55 (oModel_sh hm) (oModel_r61 hm) ?_
    refine w_iln l_264_58 rfl ?_
    refine w_ia b ((w : Nat) : Int) l_264_59 (oModel_s61 hm) rfl (by omega) (nS_way hR2 hb hv) ?_
    refine w_go 64 l_264_60 (by decide) ?_
    refine w_ir l_264_64 (Or.inl rfl) ?_
    exact ⟨_, _, rfl, rfl, rfl, ((f2.b s 0 (fun _ => Or.inl (by decide)) (fun e => absurd e (Nat.lt_irrefl s))).trans ((F s 0 (fun _ => Or.inl (by decide)) (fun e => absurd e (Nat.lt_irrefl s))).trans up_eq)), (mfk.u (Or.inl rfl)).tr ((F.tr f2.b).k)⟩
  | none =>
    refine CL_start (r := 9) (ls := [vr s, vi ((e : Nat) : Int), vi ((b : Nat) : Int)]) (rk_264 _) rfl ?_
    have hl4 := B.2.2.2.2.1.1
    have hne := B.1.1
    have hnp := B.1.2.1
    have hok := (B.run noOut (Nat.le_refl ne)).1
    have hlen : (runA h l noOut ne).2.1.length ≤ 360 := by
      have h8 := hok.2.2
      unfold tot at h8
      omega
    have hoke := (B.run noOut he).1
    refine w_aln l_264_0 rfl ?_
    refine w_aln l_264_1 rfl ?_
    refine w_iln l_264_2 rfl ?_
    refine q_iv [vi ((e : Nat) : Int)] [vr s] l_264_3 rfl rfl (Nat.le_of_ble_eq_true rfl) (by rw [mx_261]; exact Nat.le_of_ble_eq_true rfl) (by rw [mt_261]; exact oModel_sh hm) (by rw [mt_261]; decide) (by rw [rk_261]; decide) (s_261 hm B) ?_
    refine w_bne 13 l_264_6 (by decide) (fun _ => ?_) (fun hx => absurd hx (by rw [decide_eq_true (by omega)]; decide))
    refine w_iln l_264_13 rfl ?_
    refine q_st [vi ((b : Nat) : Int)] [vr s] l_264_14 (by decide) rfl rfl (Nat.le_of_ble_eq_true rfl) (by rw [mx_233]; exact Nat.le_of_ble_eq_true rfl) (by rw [rk_233]; decide) (s_233) ?_
    refine w_bne 24 l_264_17 (by decide) (fun _ => ?_) (fun hx => absurd hx (by rw [decide_eq_true (by omega)]; decide))
    refine w_ic l_264_24 (by decide) ?_
    refine w_pi l_264_25 (oModel_sh hm) ?_
    refine w_aln l_264_28 rfl ?_
    refine w_gi 0 l_264_29 (oModel_sh hm) up_eq ?_
    refine w_zle 37 l_264_32 (by decide) (fun _ => ?_) (fun hx => absurd hx (by decide))
    refine w_aln l_264_37 rfl ?_
    refine p_iv [] [] l_264_38 rfl rfl (Nat.le_of_ble_eq_true rfl) (by rw [mx_202]; exact Nat.le_of_ble_eq_true rfl) (by rw [mt_202]; exact oModel_sh hm) (by rw [mt_202]; decide) (by rw [rk_202]; decide) (r_plain hm (B.k (mfk.u (Or.inl rfl))).2.1 B.2.2.2.2.1) (fun v I1 hv => ?_)
    obtain ⟨rfl, k1, k2, F⟩ := hv
    refine w_aln l_264_41 rfl ?_
    refine w_iln l_264_42 rfl ?_
    refine p_iv [vi ((e : Nat) : Int)] [] l_264_43 rfl rfl (Nat.le_of_ble_eq_true rfl) (by rw [mx_214]; exact Nat.le_of_ble_eq_true rfl) (by rw [mt_214]; exact oModel_sh hm) (by rw [mt_214]; decide) (by rw [rk_214]; decide) (s_214 hm (((B.k (mfk.u (Or.inl rfl))).fr F).MB k1 B.2.2.2.2.1 rfl) he (fun e he => k2 e (by omega))) (fun v I2 hv => ?_)
    obtain ⟨rfl, hR2, f2, _⟩ := hv
    refine w_aln l_264_46 rfl ?_
    refine w_iln l_264_47 rfl ?_
    refine q_iv [vi ((b : Nat) : Int)] [] l_264_48 rfl rfl (Nat.le_of_ble_eq_true rfl) (by rw [mx_221]; exact Nat.le_of_ble_eq_true rfl) (by rw [mt_221]; exact oModel_sh hm) (by rw [mt_221]; decide) (by rw [rk_221]; decide) (r_validI hm ((nLi_z k1 f2).2.2.2.2.1) hR2 hb hv) ?_
    refine w_beq 63 l_264_51 (by decide) (fun _ => ?_) (fun hx => absurd hx (by intro q; cases q))
    refine w_ic l_264_63 (by decide) ?_
    refine w_ir l_264_64 (Or.inl rfl) ?_
    exact ⟨_, _, rfl, rfl, rfl, ((f2.b s 0 (fun _ => Or.inl (by decide)) (fun e => absurd e (Nat.lt_irrefl s))).trans ((F s 0 (fun _ => Or.inl (by decide)) (fun e => absurd e (Nat.lt_irrefl s))).trans up_eq)), (mfk.u (Or.inl rfl)).tr ((F.tr f2.b).k)⟩

theorem s_264n (hm : oModel S T s) {ne np : Nat} {a : Nat → Nat} {cd : Nat → Cd} (B : MP I s h l a ne np cd) {e p : Int} (hp : ¬ (0 ≤ e ∧ e ≤ ((ne : Nat) : Int))): CL xs 264 [vr s, vi e, vi p] (S, I, T, cc, zz) (RP S T cc zz (fun v I' => v = some (vi 0) ∧ I' s 0 = 1 ∧ mfk I I' s)) := by
  refine CL_start (r := 9) (ls := [vr s, vi e, vi p]) (rk_264 _) rfl ?_
  refine w_aln l_264_0 rfl ?_
  refine w_aln l_264_1 rfl ?_
  refine w_iln l_264_2 rfl ?_
  refine q_iv [vi e] [vr s] l_264_3 rfl rfl (Nat.le_of_ble_eq_true rfl) (by rw [mx_261]; exact Nat.le_of_ble_eq_true rfl) (by rw [mt_261]; exact oModel_sh hm) (by rw [mt_261]; decide) (by rw [rk_261]; decide) (s_261 hm B) ?_
  refine w_bne 13 l_264_6 (by decide) (fun hx => absurd hx (by rw [decide_eq_false hp]; decide)) (fun _ => ?_)
  refine w_ic l_264_9 (by decide) ?_
  refine w_go 25 l_264_10 (by decide) ?_
  refine w_pi l_264_25 (oModel_sh hm) ?_
  refine w_aln l_264_28 rfl ?_
  refine w_gi 1 l_264_29 (oModel_sh hm) up_eq ?_
  refine w_zle 37 l_264_32 (by decide) (fun hx => absurd hx (by decide)) (fun _ => ?_)
  refine w_ic l_264_35 (by decide) ?_
  refine w_ir l_264_36 (Or.inl rfl) ?_
  exact ⟨_, _, rfl, rfl, rfl, up_eq, (mfk.u (Or.inl rfl))⟩

theorem s_264o (hm : oModel S T s) {ne np : Nat} {a : Nat → Nat} {cd : Nat → Cd} (B : MP I s h l a ne np cd) {e p : Int} (he : 0 ≤ e ∧ e ≤ ((ne : Nat) : Int)) (hp : ¬ (0 ≤ p ∧ p ≤ 63)): CL xs 264 [vr s, vi e, vi p] (S, I, T, cc, zz) (RP S T cc zz (fun v I' => v = some (vi 0) ∧ I' s 0 = 2 ∧ mfk I I' s)) := by
  refine CL_start (r := 9) (ls := [vr s, vi e, vi p]) (rk_264 _) rfl ?_
  refine w_aln l_264_0 rfl ?_
  refine w_aln l_264_1 rfl ?_
  refine w_iln l_264_2 rfl ?_
  refine q_iv [vi e] [vr s] l_264_3 rfl rfl (Nat.le_of_ble_eq_true rfl) (by rw [mx_261]; exact Nat.le_of_ble_eq_true rfl) (by rw [mt_261]; exact oModel_sh hm) (by rw [mt_261]; decide) (by rw [rk_261]; decide) (s_261 hm B) ?_
  refine w_bne 13 l_264_6 (by decide) (fun _ => ?_) (fun hx => absurd hx (by rw [decide_eq_true he]; decide))
  refine w_iln l_264_13 rfl ?_
  refine q_st [vi p] [vr s] l_264_14 (by decide) rfl rfl (Nat.le_of_ble_eq_true rfl) (by rw [mx_233]; exact Nat.le_of_ble_eq_true rfl) (by rw [rk_233]; decide) (s_233) ?_
  refine w_bne 24 l_264_17 (by decide) (fun hx => absurd hx (by rw [decide_eq_false hp]; decide)) (fun _ => ?_)
  refine w_ic l_264_20 (by decide) ?_
  refine w_go 25 l_264_21 (by decide) ?_
  refine w_pi l_264_25 (oModel_sh hm) ?_
  refine w_aln l_264_28 rfl ?_
  refine w_gi 2 l_264_29 (oModel_sh hm) up_eq ?_
  refine w_zle 37 l_264_32 (by decide) (fun hx => absurd hx (by decide)) (fun _ => ?_)
  refine w_ic l_264_35 (by decide) ?_
  refine w_ir l_264_36 (Or.inl rfl) ?_
  exact ⟨_, _, rfl, rfl, rfl, up_eq, (mfk.u (Or.inl rfl))⟩

theorem mx_265 : mxl 265 = 5 := by decide +kernel
theorem mt_265 : mtc 265 = 10 := by decide +kernel
theorem rk_265 (as : List AV) : rkA 265 as = 8 := rfl
theorem l_265_0 : look 265 0 = some (.aload_n 0, 1, 0, 0, 0, 0) := by decide +kernel
theorem l_265_1 : look 265 1 = some (.aload_n 0, 1, 0, 0, 0, 0) := by decide +kernel
theorem l_265_2 : look 265 2 = some (.iload_n 1, 1, 0, 0, 0, 0) := by decide +kernel
theorem l_265_3 : look 265 3 = some (.invokevirtual 449, 3, 228, 2, 0, 1889) := by decide +kernel
theorem l_265_6 : look 265 6 = some (.ifCond .eq 7, 3, 0, 0, 0, 0) := by decide +kernel
theorem l_265_9 : look 265 9 = some (.iconst 0, 1, 0, 0, 0, 0) := by decide +kernel
theorem l_265_10 : look 265 10 = some (.goto 4, 3, 0, 0, 0, 0) := by decide +kernel
theorem l_265_13 : look 265 13 = some (.iconst 1, 1, 0, 0, 0, 0) := by decide +kernel
theorem l_265_14 : look 265 14 = some (.putfield 152, 3, 10, 0, 0, 1501) := by decide +kernel
theorem l_265_17 : look 265 17 = some (.aload_n 0, 1, 0, 0, 0, 0) := by decide +kernel
theorem l_265_18 : look 265 18 = some (.getfield 152, 3, 10, 0, 0, 1501) := by decide +kernel
theorem l_265_21 : look 265 21 = some (.ifCond .le 5, 3, 0, 0, 0, 0) := by decide +kernel
theorem l_265_24 : look 265 24 = some (.iconst 0, 1, 0, 0, 0, 0) := by decide +kernel
theorem l_265_25 : look 265 25 = some (.ireturn, 1, 0, 0, 0, 0) := by decide +kernel
theorem l_265_26 : look 265 26 = some (.iconst (-1), 1, 0, 0, 0, 0) := by decide +kernel
theorem l_265_27 : look 265 27 = some (.istore_n 2, 1, 0, 0, 0, 0) := by decide +kernel
theorem l_265_28 : look 265 28 = some (.iconst 0, 1, 0, 0, 0, 0) := by decide +kernel
theorem l_265_29 : look 265 29 = some (.istore_n 3, 1, 0, 0, 0, 0) := by decide +kernel
theorem l_265_30 : look 265 30 = some (.aload_n 0, 1, 0, 0, 0, 0) := by decide +kernel
theorem l_265_31 : look 265 31 = some (.invokevirtual 354, 3, 202, 1, 0, 1901) := by decide +kernel
theorem l_265_34 : look 265 34 = some (.aload_n 0, 1, 0, 0, 0, 0) := by decide +kernel
theorem l_265_35 : look 265 35 = some (.invokevirtual 378, 3, 213, 1, 0, 1909) := by decide +kernel
theorem l_265_38 : look 265 38 = some (.iconst 0, 1, 0, 0, 0, 0) := by decide +kernel
theorem l_265_39 : look 265 39 = some (.istore 4, 2, 0, 0, 0, 0) := by decide +kernel
theorem l_265_41 : look 265 41 = some (.iload 4, 2, 0, 0, 0, 0) := by decide +kernel
theorem l_265_43 : look 265 43 = some (.aload_n 0, 1, 0, 0, 0, 0) := by decide +kernel
theorem l_265_44 : look 265 44 = some (.getfield 330, 3, 10, 15, 0, 1516) := by decide +kernel
theorem l_265_47 : look 265 47 = some (.if_icmp .ge 39, 3, 0, 0, 0, 0) := by decide +kernel
theorem l_265_50 : look 265 50 = some (.aload_n 0, 1, 0, 0, 0, 0) := by decide +kernel
theorem l_265_51 : look 265 51 = some (.iload 4, 2, 0, 0, 0, 0) := by decide +kernel
theorem l_265_53 : look 265 53 = some (.putfield 372, 3, 10, 67, 0, 1568) := by decide +kernel
theorem l_265_56 : look 265 56 = some (.aload_n 0, 1, 0, 0, 0, 0) := by decide +kernel
theorem l_265_57 : look 265 57 = some (.iload 4, 2, 0, 0, 0, 0) := by decide +kernel
theorem l_265_59 : look 265 59 = some (.invokevirtual 387, 3, 216, 2, 0, 1913) := by decide +kernel
theorem l_265_62 : look 265 62 = some (.aload_n 0, 1, 0, 0, 0, 0) := by decide +kernel
theorem l_265_63 : look 265 63 = some (.iload_n 1, 1, 0, 0, 0, 0) := by decide +kernel
theorem l_265_64 : look 265 64 = some (.invokevirtual 366, 3, 209, 2, 0, 1968) := by decide +kernel
theorem l_265_67 : look 265 67 = some (.iload_n 3, 1, 0, 0, 0, 0) := by decide +kernel
theorem l_265_68 : look 265 68 = some (.if_icmp .le 12, 3, 0, 0, 0, 0) := by decide +kernel
theorem l_265_71 : look 265 71 = some (.iload 4, 2, 0, 0, 0, 0) := by decide +kernel
theorem l_265_73 : look 265 73 = some (.istore_n 2, 1, 0, 0, 0, 0) := by decide +kernel
theorem l_265_74 : look 265 74 = some (.aload_n 0, 1, 0, 0, 0, 0) := by decide +kernel
theorem l_265_75 : look 265 75 = some (.iload_n 1, 1, 0, 0, 0, 0) := by decide +kernel
theorem l_265_76 : look 265 76 = some (.invokevirtual 366, 3, 209, 2, 0, 1968) := by decide +kernel
theorem l_265_79 : look 265 79 = some (.istore_n 3, 1, 0, 0, 0, 0) := by decide +kernel
theorem l_265_80 : look 265 80 = some (.iinc 4 1, 3, 0, 0, 0, 0) := by decide +kernel
theorem l_265_83 : look 265 83 = some (.goto (-42), 3, 0, 0, 0, 0) := by decide +kernel
theorem l_265_86 : look 265 86 = some (.iload_n 2, 1, 0, 0, 0, 0) := by decide +kernel
theorem l_265_87 : look 265 87 = some (.ireturn, 1, 0, 0, 0, 0) := by decide +kernel

theorem lp_265 {I0 : Ix} (hm : oModel S T s) {ne np p : Nat} {a : Nat → Nat} {cd : Nat → Cd} (B : MB I0 s h l a ne np cd) (h150 : I0 s 15 = (ne : Int)) (hp : p < lPorts l) : ∀ d e I, e + d = ne → nR I s l (runA h l noOut e) → mfz I0 I s → WP xs 265 8 41 [vr s, vi ((p : Nat) : Int), vi ((pkA h l p e).2), vi (((pkA h l p e).1 : Nat) : Int), vi ((e : Nat) : Int)] [] (S, I, T, cc, zz) (RP S T cc zz (fun v I' => v = some (vi (pkA h l p ne).2) ∧ mfz I0 I' s)) := by
  intro d
  have hne := B.1.1
  have hp4 : p < 4 := Nat.lt_of_lt_of_le hp B.2.2.2.2.1.1
  induction d with
  | zero =>
    intro e I hd hR f
    have h15 : I s 15 = (ne : Int) := (f s 15 (fun _ => by omega) (fun e => absurd e (Nat.lt_irrefl s))).trans h150
    refine w_il l_265_41 rfl ?_
    refine w_aln l_265_43 rfl ?_
    refine w_gi ((ne : Nat) : Int) l_265_44 (oModel_sh hm) h15 ?_
    refine w_cge 86 l_265_47 (by decide) (fun _ => ?_) (fun hx => absurd hx (by omega))
    refine w_iln l_265_86 rfl ?_
    refine w_ir l_265_87 (Or.inl rfl) ?_
    have e9 : e = ne := by omega
    rw [e9]
    exact ⟨_, _, rfl, rfl, rfl, f⟩
  | succ d ih =>
    intro e I hd hR f
    have he : e < ne := by omega
    have h15 : I s 15 = (ne : Int) := (f s 15 (fun _ => by omega) (fun e => absurd e (Nat.lt_irrefl s))).trans h150
    have hok := run_ok B.2.2.2.1 B.2.2.2.2.1 B.2.2.2.2.2.1 (out := noOut) e (by omega)
    have hok1 := (run_ok B.2.2.2.1 B.2.2.2.2.1 B.2.2.2.2.2.1 (out := noOut) (e + 1) (by omega)).1
    have hu : 3 * e + 3 ≤ 360 := by omega
    have BM := B.fr f
    have fm : mfz I (up I s 67 ((e : Nat) : Int)) s := mfz.u (Or.inl rfl)
    have hR1 : nR (up I s 67 ((e : Nat) : Int)) s l (runA h l noOut e) := hR.c (Or.inl rfl)
    have B1 : MB (up I s 67 ((e : Nat) : Int)) s h l a ne np cd := BM.fr fm
    have E1 : ME (up I s 67 ((e : Nat) : Int)) s e h l a ne np := B1.E up_eq
    refine w_il l_265_41 rfl ?_
    refine w_aln l_265_43 rfl ?_
    refine w_gi ((ne : Nat) : Int) l_265_44 (oModel_sh hm) h15 ?_
    refine w_cge 86 l_265_47 (by decide) (fun hx => absurd hx (by omega)) (fun _ => ?_)
    refine w_aln l_265_50 rfl ?_
    refine w_il l_265_51 rfl ?_
    refine w_pi l_265_53 (oModel_sh hm) ?_
    refine w_aln l_265_56 rfl ?_
    refine w_il l_265_57 rfl ?_
    refine p_iv [vi ((e : Nat) : Int)] [] l_265_59 rfl rfl (Nat.le_of_ble_eq_true rfl) (by rw [mx_216]; exact Nat.le_of_ble_eq_true rfl) (by rw [mt_216]; exact oModel_sh hm) (by rw [mt_216]; decide) (by rw [rk_216]; decide) (s_216 hm E1 B1.2.2.1 hR1 hok.1 hok.2.1 hu he (by omega) B1.2.2.2.2.2.1 B1.2.2.2.2.2.2) (fun v I1 hv => ?_)
    obtain ⟨rfl, hR2, f2⟩ := hv
    rw [← run_s (out := noOut) rfl] at hR2
    have efq : fillP h (runA h l noOut (e + 1)).1 p = fillQ h (sQ (runA h l noOut (e + 1)).1 p) := rfl
    refine w_aln l_265_62 rfl ?_
    refine w_iln l_265_63 rfl ?_
    refine q_iv [vi ((p : Nat) : Int)] [] l_265_64 rfl rfl (Nat.le_of_ble_eq_true rfl) (by rw [mx_209]; exact Nat.le_of_ble_eq_true rfl) (by rw [mt_209]; exact oModel_sh hm) (by rw [mt_209]; decide) (by rw [rk_209]; decide) (s_209 hm ((BM.fr fm).fr f2.1.z).1 B.2.2.2.1 hp4 (hR2.1.2.2.1 p hp4) (ok_hq hok1)) ?_
    refine w_iln l_265_67 rfl ?_
    refine w_cle 80 l_265_68 (by decide) (fun h1 => ?_) (fun h1 => ?_)
    · skip
      refine w_inc ((e + 1 : Nat) : Int) l_265_80 rfl rfl (by unfold wr; omega) ?_
      refine w_go 41 l_265_83 (by decide) ?_
      have hpk : pkA h l p (e + 1) = pkA h l p e := if_neg (by omega)
      have e9 := ih (e + 1) I1 (by omega) hR2 (f.tr (fm.tr f2.1.z))
      rw [hpk] at e9
      exact e9
    · skip
      refine w_il l_265_71 rfl ?_
      refine w_isn l_265_73 ⟨Nat.le_of_ble_eq_true rfl, rfl⟩ ?_
      refine w_aln l_265_74 rfl ?_
      refine w_iln l_265_75 rfl ?_
      refine q_iv [vi ((p : Nat) : Int)] [] l_265_76 rfl rfl (Nat.le_of_ble_eq_true rfl) (by rw [mx_209]; exact Nat.le_of_ble_eq_true rfl) (by rw [mt_209]; exact oModel_sh hm) (by rw [mt_209]; decide) (by rw [rk_209]; decide) (s_209 hm ((BM.fr fm).fr f2.1.z).1 B.2.2.2.1 hp4 (hR2.1.2.2.1 p hp4) (ok_hq hok1)) ?_
      refine w_isn l_265_79 ⟨Nat.le_of_ble_eq_true rfl, rfl⟩ ?_
      refine w_inc ((e + 1 : Nat) : Int) l_265_80 rfl rfl (by unfold wr; omega) ?_
      refine w_go 41 l_265_83 (by decide) ?_
      have hpk : pkA h l p (e + 1) = (fillP h (runA h l noOut (e + 1)).1 p, (e : Int)) := if_pos (by omega)
      have e9 := ih (e + 1) I1 (by omega) hR2 (f.tr (fm.tr f2.1.z))
      rw [hpk] at e9
      exact e9
theorem s_265 (hm : oModel S T s) {ne np : Nat} {a : Nat → Nat} {cd : Nat → Cd} (B : MP I s h l a ne np cd) {p : Nat} (hp : p < lPorts l): CL xs 265 [vr s, vi ((p : Nat) : Int)] (S, I, T, cc, zz) (RP S T cc zz (fun v I' => v = some (vi (pkA h l p ne).2) ∧ I' s 0 = 0 ∧ mfk I I' s)) := by
  refine CL_start (r := 8) (ls := [vr s, vi ((p : Nat) : Int), vs 2, vs 2, vs 2]) (rk_265 _) rfl ?_
  have hl4 := B.2.2.2.2.1.1
  have hne := B.1.1
  have hnp := B.1.2.1
  have hok := (B.run noOut (Nat.le_refl ne)).1
  have hlen : (runA h l noOut ne).2.1.length ≤ 360 := by
    have h8 := hok.2.2
    unfold tot at h8
    omega
  refine w_aln l_265_0 rfl ?_
  refine w_aln l_265_1 rfl ?_
  refine w_iln l_265_2 rfl ?_
  refine q_iv [vi ((p : Nat) : Int)] [vr s] l_265_3 rfl rfl (Nat.le_of_ble_eq_true rfl) (by rw [mx_228]; exact Nat.le_of_ble_eq_true rfl) (by rw [mt_228]; exact oModel_sh hm) (by rw [mt_228]; decide) (by rw [rk_228]; decide) (s_228 hm B) ?_
  refine w_beq 13 l_265_6 (by decide) (fun hx => absurd hx (by rw [decide_eq_true (by omega)]; decide)) (fun _ => ?_)
  refine w_ic l_265_9 (by decide) ?_
  refine w_go 14 l_265_10 (by decide) ?_
  refine w_pi l_265_14 (oModel_sh hm) ?_
  refine w_aln l_265_17 rfl ?_
  refine w_gi 0 l_265_18 (oModel_sh hm) up_eq ?_
  refine w_zle 26 l_265_21 (by decide) (fun _ => ?_) (fun hx => absurd hx (by decide))
  refine w_ic l_265_26 (by decide) ?_
  refine w_isn l_265_27 ⟨Nat.le_of_ble_eq_true rfl, rfl⟩ ?_
  refine w_ic l_265_28 (by decide) ?_
  refine w_isn l_265_29 ⟨Nat.le_of_ble_eq_true rfl, rfl⟩ ?_
  refine w_aln l_265_30 rfl ?_
  refine p_iv [] [] l_265_31 rfl rfl (Nat.le_of_ble_eq_true rfl) (by rw [mx_202]; exact Nat.le_of_ble_eq_true rfl) (by rw [mt_202]; exact oModel_sh hm) (by rw [mt_202]; decide) (by rw [rk_202]; decide) (r_plain hm (B.k (mfk.u (Or.inl rfl))).2.1 B.2.2.2.2.1) (fun v I1 hv => ?_)
  obtain ⟨rfl, k1, k2, F⟩ := hv
  refine w_aln l_265_34 rfl ?_
  refine p_iv [] [] l_265_35 rfl rfl (Nat.le_of_ble_eq_true rfl) (by rw [mx_213]; exact Nat.le_of_ble_eq_true rfl) (by rw [mt_213]; exact oModel_sh hm) (by rw [mt_213]; decide) (by rw [rk_213]; decide) (r_begins hm k1 B.2.2.2.2.1) (fun v I2 hv => ?_)
  obtain ⟨rfl, hR2, f2⟩ := hv
  refine w_ic l_265_38 (by decide) ?_
  refine w_is l_265_39 ⟨Nat.le_of_ble_eq_true rfl, rfl⟩ ?_
  have BM := (((B.k (mfk.u (Or.inl rfl))).fr F).MB k1 B.2.2.2.2.1 rfl).fr f2.1.z
  refine WP_mono (lp_265 hm BM ((((B.k (mfk.u (Or.inl rfl))).fr F).fr f2.1.z.b).2.2.2.2.2.2.2.1) hp ne 0 I2 (Nat.zero_add _) hR2 (mfz.rf _ _)) ?_
  rintro q m' ⟨v, J, e1, e2, e3, e4⟩
  exact ⟨v, J, e1, e2, e3, ((e4.b s 0 (fun _ => Or.inl (by decide)) (fun e => absurd e (Nat.lt_irrefl s))).trans ((f2.1.z.b s 0 (fun _ => Or.inl (by decide)) (fun e => absurd e (Nat.lt_irrefl s))).trans ((F s 0 (fun _ => Or.inl (by decide)) (fun e => absurd e (Nat.lt_irrefl s))).trans up_eq))), (mfk.u (Or.inl rfl)).tr ((F.tr (f2.1.z.b.tr e4.b)).k)⟩

theorem s_265n (hm : oModel S T s) {ne np : Nat} {a : Nat → Nat} {cd : Nat → Cd} (B : MP I s h l a ne np cd) {p : Int} (hp : ¬ (0 ≤ p ∧ p ≤ ((lPorts l : Nat) : Int) - 1)): CL xs 265 [vr s, vi p] (S, I, T, cc, zz) (RP S T cc zz (fun v I' => v = some (vi 0) ∧ I' s 0 = 1 ∧ mfk I I' s)) := by
  refine CL_start (r := 8) (ls := [vr s, vi p, vs 2, vs 2, vs 2]) (rk_265 _) rfl ?_
  refine w_aln l_265_0 rfl ?_
  refine w_aln l_265_1 rfl ?_
  refine w_iln l_265_2 rfl ?_
  refine q_iv [vi p] [vr s] l_265_3 rfl rfl (Nat.le_of_ble_eq_true rfl) (by rw [mx_228]; exact Nat.le_of_ble_eq_true rfl) (by rw [mt_228]; exact oModel_sh hm) (by rw [mt_228]; decide) (by rw [rk_228]; decide) (s_228 hm B) ?_
  refine w_beq 13 l_265_6 (by decide) (fun _ => ?_) (fun hx => absurd hx (by rw [decide_eq_false hp]; decide))
  refine w_ic l_265_13 (by decide) ?_
  refine w_pi l_265_14 (oModel_sh hm) ?_
  refine w_aln l_265_17 rfl ?_
  refine w_gi 1 l_265_18 (oModel_sh hm) up_eq ?_
  refine w_zle 26 l_265_21 (by decide) (fun hx => absurd hx (by decide)) (fun _ => ?_)
  refine w_ic l_265_24 (by decide) ?_
  refine w_ir l_265_25 (Or.inl rfl) ?_
  exact ⟨_, _, rfl, rfl, rfl, up_eq, (mfk.u (Or.inl rfl))⟩

end RF
