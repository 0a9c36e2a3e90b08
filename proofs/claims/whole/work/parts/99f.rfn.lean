/-! the reference: formatted texts, 2 -/
section RFN
variable {xs : List Int} {S : List (Nat × Nat)} {T : Nat → Nat → Nat} {cc zz s : Nat} {h : Hi} {l : Li} {I I' : Ix} {L : List Nat}

theorem mx_294 : mxl 294 = 2 := by decide +kernel
theorem mt_294 : mtc 294 = 10 := by decide +kernel
theorem rk_294 (as : List AV) : rkA 294 as = 11 := rfl
theorem l_294_0 : look 294 0 = some (.aload_n 0, 1, 0, 0, 0, 0) := by decide +kernel
theorem l_294_1 : look 294 1 = some (.aload_n 0, 1, 0, 0, 0, 0) := by decide +kernel
theorem l_294_2 : look 294 2 = some (.iload_n 1, 1, 0, 0, 0, 0) := by decide +kernel
theorem l_294_3 : look 294 3 = some (.invokevirtual 465, 3, 252, 2, 0, 2076) := by decide +kernel
theorem l_294_6 : look 294 6 = some (.ifCond .eq 7, 3, 0, 0, 0, 0) := by decide +kernel
theorem l_294_9 : look 294 9 = some (.iconst 0, 1, 0, 0, 0, 0) := by decide +kernel
theorem l_294_10 : look 294 10 = some (.goto 4, 3, 0, 0, 0, 0) := by decide +kernel
theorem l_294_13 : look 294 13 = some (.iconst 1, 1, 0, 0, 0, 0) := by decide +kernel
theorem l_294_14 : look 294 14 = some (.putfield 152, 3, 10, 0, 0, 1501) := by decide +kernel
theorem l_294_17 : look 294 17 = some (.aload_n 0, 1, 0, 0, 0, 0) := by decide +kernel
theorem l_294_18 : look 294 18 = some (.getfield 152, 3, 10, 0, 0, 1501) := by decide +kernel
theorem l_294_21 : look 294 21 = some (.ifCond .le 5, 3, 0, 0, 0, 0) := by decide +kernel
theorem l_294_24 : look 294 24 = some (.iconst 0, 1, 0, 0, 0, 0) := by decide +kernel
theorem l_294_25 : look 294 25 = some (.ireturn, 1, 0, 0, 0, 0) := by decide +kernel
theorem l_294_26 : look 294 26 = some (.aload_n 0, 1, 0, 0, 0, 0) := by decide +kernel
theorem l_294_27 : look 294 27 = some (.iconst 0, 1, 0, 0, 0, 0) := by decide +kernel
theorem l_294_28 : look 294 28 = some (.putfield 523, 3, 10, 75, 0, 1576) := by decide +kernel
theorem l_294_31 : look 294 31 = some (.aload_n 0, 1, 0, 0, 0, 0) := by decide +kernel
theorem l_294_32 : look 294 32 = some (.aload_n 0, 1, 0, 0, 0, 0) := by decide +kernel
theorem l_294_33 : look 294 33 = some (.getfield 140, 3, 10, 65, 2, 1566) := by decide +kernel
theorem l_294_36 : look 294 36 = some (.iconst 5, 1, 0, 0, 0, 0) := by decide +kernel
theorem l_294_37 : look 294 37 = some (.iload_n 1, 1, 0, 0, 0, 0) := by decide +kernel
theorem l_294_38 : look 294 38 = some (.iconst 1, 1, 0, 0, 0, 0) := by decide +kernel
theorem l_294_39 : look 294 39 = some (.invokestatic 468, 3, 204, 4, 1, 2080) := by decide +kernel
theorem l_294_42 : look 294 42 = some (.invokevirtual 549, 3, 290, 2, 0, 2232) := by decide +kernel
theorem l_294_45 : look 294 45 = some (.aload_n 0, 1, 0, 0, 0, 0) := by decide +kernel
theorem l_294_46 : look 294 46 = some (.bipush 64, 2, 0, 0, 0, 0) := by decide +kernel
theorem l_294_48 : look 294 48 = some (.invokevirtual 526, 3, 289, 2, 0, 2236) := by decide +kernel
theorem l_294_51 : look 294 51 = some (.aload_n 0, 1, 0, 0, 0, 0) := by decide +kernel
theorem l_294_52 : look 294 52 = some (.aload_n 0, 1, 0, 0, 0, 0) := by decide +kernel
theorem l_294_53 : look 294 53 = some (.getfield 140, 3, 10, 65, 2, 1566) := by decide +kernel
theorem l_294_56 : look 294 56 = some (.iconst 5, 1, 0, 0, 0, 0) := by decide +kernel
theorem l_294_57 : look 294 57 = some (.iload_n 1, 1, 0, 0, 0, 0) := by decide +kernel
theorem l_294_58 : look 294 58 = some (.iconst 0, 1, 0, 0, 0, 0) := by decide +kernel
theorem l_294_59 : look 294 59 = some (.invokestatic 468, 3, 204, 4, 1, 2080) := by decide +kernel
theorem l_294_62 : look 294 62 = some (.invokevirtual 549, 3, 290, 2, 0, 2232) := by decide +kernel
theorem l_294_65 : look 294 65 = some (.aload_n 0, 1, 0, 0, 0, 0) := by decide +kernel
theorem l_294_66 : look 294 66 = some (.bipush 32, 2, 0, 0, 0, 0) := by decide +kernel
theorem l_294_68 : look 294 68 = some (.invokevirtual 526, 3, 289, 2, 0, 2236) := by decide +kernel
theorem l_294_71 : look 294 71 = some (.aload_n 0, 1, 0, 0, 0, 0) := by decide +kernel
theorem l_294_72 : look 294 72 = some (.aload_n 0, 1, 0, 0, 0, 0) := by decide +kernel
theorem l_294_73 : look 294 73 = some (.getfield 140, 3, 10, 65, 2, 1566) := by decide +kernel
theorem l_294_76 : look 294 76 = some (.iconst 5, 1, 0, 0, 0, 0) := by decide +kernel
theorem l_294_77 : look 294 77 = some (.iload_n 1, 1, 0, 0, 0, 0) := by decide +kernel
theorem l_294_78 : look 294 78 = some (.iconst 3, 1, 0, 0, 0, 0) := by decide +kernel
theorem l_294_79 : look 294 79 = some (.invokestatic 468, 3, 204, 4, 1, 2080) := by decide +kernel
theorem l_294_82 : look 294 82 = some (.invokestatic 552, 3, 293, 1, 1, 2240) := by decide +kernel
theorem l_294_85 : look 294 85 = some (.invokevirtual 556, 3, 291, 2, 0, 2252) := by decide +kernel
theorem l_294_88 : look 294 88 = some (.aload_n 0, 1, 0, 0, 0, 0) := by decide +kernel
theorem l_294_89 : look 294 89 = some (.getfield 140, 3, 10, 65, 2, 1566) := by decide +kernel
theorem l_294_92 : look 294 92 = some (.iconst 5, 1, 0, 0, 0, 0) := by decide +kernel
theorem l_294_93 : look 294 93 = some (.iload_n 1, 1, 0, 0, 0, 0) := by decide +kernel
theorem l_294_94 : look 294 94 = some (.iconst 4, 1, 0, 0, 0, 0) := by decide +kernel
theorem l_294_95 : look 294 95 = some (.invokestatic 468, 3, 204, 4, 1, 2080) := by decide +kernel
theorem l_294_98 : look 294 98 = some (.iconst (-1), 1, 0, 0, 0, 0) := by decide +kernel
theorem l_294_99 : look 294 99 = some (.if_icmp .eq 23, 3, 0, 0, 0, 0) := by decide +kernel
theorem l_294_102 : look 294 102 = some (.aload_n 0, 1, 0, 0, 0, 0) := by decide +kernel
theorem l_294_103 : look 294 103 = some (.bipush 61, 2, 0, 0, 0, 0) := by decide +kernel
theorem l_294_105 : look 294 105 = some (.invokevirtual 526, 3, 289, 2, 0, 2236) := by decide +kernel
theorem l_294_108 : look 294 108 = some (.aload_n 0, 1, 0, 0, 0, 0) := by decide +kernel
theorem l_294_109 : look 294 109 = some (.aload_n 0, 1, 0, 0, 0, 0) := by decide +kernel
theorem l_294_110 : look 294 110 = some (.getfield 140, 3, 10, 65, 2, 1566) := by decide +kernel
theorem l_294_113 : look 294 113 = some (.iconst 5, 1, 0, 0, 0, 0) := by decide +kernel
theorem l_294_114 : look 294 114 = some (.iload_n 1, 1, 0, 0, 0, 0) := by decide +kernel
theorem l_294_115 : look 294 115 = some (.iconst 4, 1, 0, 0, 0, 0) := by decide +kernel
theorem l_294_116 : look 294 116 = some (.invokestatic 468, 3, 204, 4, 1, 2080) := by decide +kernel
theorem l_294_119 : look 294 119 = some (.invokevirtual 549, 3, 290, 2, 0, 2232) := by decide +kernel
theorem l_294_122 : look 294 122 = some (.aload_n 0, 1, 0, 0, 0, 0) := by decide +kernel
theorem l_294_123 : look 294 123 = some (.getfield 140, 3, 10, 65, 2, 1566) := by decide +kernel
theorem l_294_126 : look 294 126 = some (.iconst 5, 1, 0, 0, 0, 0) := by decide +kernel
theorem l_294_127 : look 294 127 = some (.iload_n 1, 1, 0, 0, 0, 0) := by decide +kernel
theorem l_294_128 : look 294 128 = some (.iconst 2, 1, 0, 0, 0, 0) := by decide +kernel
theorem l_294_129 : look 294 129 = some (.invokestatic 468, 3, 204, 4, 1, 2080) := by decide +kernel
theorem l_294_132 : look 294 132 = some (.iconst (-1), 1, 0, 0, 0, 0) := by decide +kernel
theorem l_294_133 : look 294 133 = some (.if_icmp .eq 23, 3, 0, 0, 0, 0) := by decide +kernel
theorem l_294_136 : look 294 136 = some (.aload_n 0, 1, 0, 0, 0, 0) := by decide +kernel
theorem l_294_137 : look 294 137 = some (.bipush 32, 2, 0, 0, 0, 0) := by decide +kernel
theorem l_294_139 : look 294 139 = some (.invokevirtual 526, 3, 289, 2, 0, 2236) := by decide +kernel
theorem l_294_142 : look 294 142 = some (.aload_n 0, 1, 0, 0, 0, 0) := by decide +kernel
theorem l_294_143 : look 294 143 = some (.aload_n 0, 1, 0, 0, 0, 0) := by decide +kernel
theorem l_294_144 : look 294 144 = some (.getfield 140, 3, 10, 65, 2, 1566) := by decide +kernel
theorem l_294_147 : look 294 147 = some (.iconst 5, 1, 0, 0, 0, 0) := by decide +kernel
theorem l_294_148 : look 294 148 = some (.iload_n 1, 1, 0, 0, 0, 0) := by decide +kernel
theorem l_294_149 : look 294 149 = some (.iconst 2, 1, 0, 0, 0, 0) := by decide +kernel
theorem l_294_150 : look 294 150 = some (.invokestatic 468, 3, 204, 4, 1, 2080) := by decide +kernel
theorem l_294_153 : look 294 153 = some (.invokevirtual 560, 3, 292, 2, 0, 2256) := by decide +kernel
theorem l_294_156 : look 294 156 = some (.aload_n 0, 1, 0, 0, 0, 0) := by decide +kernel
theorem l_294_157 : look 294 157 = some (.getfield 523, 3, 10, 75, 0, 1576) := by decide +kernel
theorem l_294_160 : look 294 160 = some (.ireturn, 1, 0, 0, 0, 0) := by decide +kernel

theorem s_294 (hm : oModel S T s) {ne np : Nat} {a : Nat → Nat} {cd : Nat → Cd} (B : MP I s h l a ne np cd) (hpk : okPk h ne) {nm : Nat → List Nat} (NM : mNm I s l nm) {k : Nat} (hk : k < (runA h l noOut ne).2.1.length) : CL xs 294 [vr s, vi ((k : Nat) : Int)] (S, I, T, cc, zz) (RP S T cc zz (fun v I' => v = some (vi (((dropB nm ((runA h l noOut ne).2.1.getD k dr0)).length : Nat) : Int)) ∧ mlS I' s (dropB nm ((runA h l noOut ne).2.1.getD k dr0)) ∧ I' s 0 = 0 ∧ mfF I I' s)) := by
  have hD0 := run_okD B.2.2.2.2.1 B.2.2.2.2.2.1 hpk (by have := B.1.1; omega) B.1.2.1 hk
  have hdt0 : ((runA h l noOut ne).2.1.getD k dr0).2.2.2.2 = -1 ∨ ∃ dt : Nat, ((runA h l noOut ne).2.1.getD k dr0).2.2.2.2 = ((dt : Nat) : Int) ∧ dt ≤ 200 := by
    by_cases h9 : ((runA h l noOut ne).2.1.getD k dr0).2.2.2.2 = -1
    · exact Or.inl h9
    · exact Or.inr ⟨((runA h l noOut ne).2.1.getD k dr0).2.2.2.2.toNat, by have := hD0.2.2.2.2; omega, by have := hD0.2.2.2.2; omega⟩
  have hpt0 : ((runA h l noOut ne).2.1.getD k dr0).2.2.1 = -1 ∨ ∃ p : Nat, ((runA h l noOut ne).2.1.getD k dr0).2.2.1 = ((p : Nat) : Int) ∧ p < lPorts l := by
    by_cases h9 : ((runA h l noOut ne).2.1.getD k dr0).2.2.1 = -1
    · exact Or.inl h9
    · exact Or.inr ⟨((runA h l noOut ne).2.1.getD k dr0).2.2.1.toNat, by have := hD0.2.2.1; omega, by have := hD0.2.2.1; omega⟩
  rcases hdt0 with hdt | ⟨dt, hdt, hdt2⟩ <;> rcases hpt0 with hpt | ⟨p, hpt, hp⟩
  · skip
    refine CL_start (r := 11) (ls := [vr s, vi ((k : Nat) : Int)]) (rk_294 _) rfl ?_
    refine w_aln l_294_0 rfl ?_
    refine w_aln l_294_1 rfl ?_
    refine w_iln l_294_2 rfl ?_
    refine p_iv [vi ((k : Nat) : Int)] [vr s] l_294_3 rfl rfl (Nat.le_of_ble_eq_true rfl) (by rw [mx_252]; exact Nat.le_of_ble_eq_true rfl) (by rw [mt_252]; exact oModel_sh hm) (by rw [mt_252]; decide) (by rw [rk_252]; decide) (s_252 hm B) (fun v I1 hv => ?_)
    obtain ⟨rfl, hR1, f1⟩ := hv
    refine w_beq 13 l_294_6 (by decide) (fun hx => absurd hx (by rw [decide_eq_true (by omega)]; decide)) (fun _ => ?_)
    refine w_ic l_294_9 (by decide) ?_
    refine w_go 14 l_294_10 (by decide) ?_
    refine w_pi l_294_14 (oModel_sh hm) ?_
    refine w_aln l_294_17 rfl ?_
    refine w_gi 0 l_294_18 (oModel_sh hm) up_eq ?_
    refine w_zle 26 l_294_21 (by decide) (fun _ => ?_) (fun hx => absurd hx (by decide))
    have hD := run_okD B.2.2.2.2.1 B.2.2.2.2.2.1 hpk (by have := B.1.1; omega) B.1.2.1 hk
    have hl4 := B.2.2.2.2.1.1
    have hD1 := hD.1
    have hD2 := hD.2.1
    have hD3 := hD.2.2.1
    have hD4 := hD.2.2.2.1
    have hD5 := hD.2.2.2.2
    have b1 := numB_len ((runA h l noOut ne).2.1.getD k dr0).2.1
    have b2 := numB_len ((runA h l noOut ne).2.1.getD k dr0).1
    have hrc := rcS_ok ((runA h l noOut ne).2.1.getD k dr0).2.2.2.1 (by omega) hD4.1
    have b3 := strB_len (16 + ((runA h l noOut ne).2.1.getD k dr0).2.2.2.1)
    have b4 := stb_len (16 + ((runA h l noOut ne).2.1.getD k dr0).2.2.2.1) (by omega)
    have hnm : ∀ J, mff (up (up I1 s 0 0) s 75 0) J s → ∀ p, J (s + 1) p = I (s + 1) p := fun J f p => (f _ _ (by omega) (by omega)).trans ((up_no (by omega)).trans ((up_no (by omega)).trans (f1 _ _ (fun e => by omega) (fun _ => by omega))))
    refine w_aln l_294_26 rfl ?_
    refine w_ic l_294_27 (by decide) ?_
    refine w_pi l_294_28 (oModel_sh hm) ?_
    have H0 : mlS (up (up I1 s 0 0) s 75 0) s [] := ⟨up_eq, Nat.zero_le _, fun i hi => absurd hi (Nat.not_lt_zero i)⟩
    have F0 : mff (up (up I1 s 0 0) s 75 0) (up (up I1 s 0 0) s 75 0) s := mff.rf _ _
    have hL0 : nL (up (up I1 s 0 0) s 75 0) s (runA h l noOut ne).2 := hR1.2.fr ((up_nj (by decide)).trans (up_nj (by decide))) (fun y h1 h2 z => (up_no (by omega)).trans (up_no (by omega)))
    refine w_aln l_294_31 rfl ?_
    refine w_aln l_294_32 rfl ?_
    refine w_gr l_294_33 (oModel_sh hm) (oModel_r65 hm) ?_
    refine w_ic l_294_36 (by decide) ?_
    refine w_iln l_294_37 rfl ?_
    refine w_ic l_294_38 (by decide) ?_
    refine q_st [vr (s + 36), vi 5, vi ((k : Nat) : Int), vi 1] [vr s] l_294_39 (by decide) rfl rfl (Nat.le_of_ble_eq_true rfl) (by rw [mx_204]; exact Nat.le_of_ble_eq_true rfl) (by rw [rk_204]; decide) (r_part1 hm hL0 hk) ?_
    refine p_iv [vi ((((runA h l noOut ne).2.1.getD k dr0).2.1 : Nat) : Int)] [] l_294_42 rfl rfl (Nat.le_of_ble_eq_true rfl) (by rw [mx_290]; exact Nat.le_of_ble_eq_true rfl) (by rw [mt_290]; exact oModel_sh hm) (by rw [mt_290]; decide) (by rw [rk_290]; decide) (s_290 hm H0 (by omega) (by first | omega | (simp only [List.length_append, List.length_cons, List.length_nil]; omega))) (fun v I11 hv => ?_)
    obtain ⟨rfl, H1, g1⟩ := hv
    have F1 := F0.tr g1
    refine w_aln l_294_45 rfl ?_
    refine w_bp l_294_46 (by decide) ?_
    refine p_iv [vi 64] [] l_294_48 rfl rfl (Nat.le_of_ble_eq_true rfl) (by rw [mx_289]; exact Nat.le_of_ble_eq_true rfl) (by rw [mt_289]; exact oModel_sh hm) (by rw [mt_289]; decide) (by rw [rk_289]; decide) (r_put hm H1 (by first | omega | (simp only [List.length_append, List.length_cons, List.length_nil]; omega))) (fun v I12 hv => ?_)
    obtain ⟨rfl, H2, g2⟩ := hv
    have F2 := F1.tr g2
    refine w_aln l_294_51 rfl ?_
    refine w_aln l_294_52 rfl ?_
    refine w_gr l_294_53 (oModel_sh hm) (oModel_r65 hm) ?_
    refine w_ic l_294_56 (by decide) ?_
    refine w_iln l_294_57 rfl ?_
    refine w_ic l_294_58 (by decide) ?_
    refine q_st [vr (s + 36), vi 5, vi ((k : Nat) : Int), vi 0] [vr s] l_294_59 (by decide) rfl rfl (Nat.le_of_ble_eq_true rfl) (by rw [mx_204]; exact Nat.le_of_ble_eq_true rfl) (by rw [rk_204]; decide) (r_part0 hm (hL0.mff F2) hk) ?_
    refine p_iv [vi ((((runA h l noOut ne).2.1.getD k dr0).1 : Nat) : Int)] [] l_294_62 rfl rfl (Nat.le_of_ble_eq_true rfl) (by rw [mx_290]; exact Nat.le_of_ble_eq_true rfl) (by rw [mt_290]; exact oModel_sh hm) (by rw [mt_290]; decide) (by rw [rk_290]; decide) (s_290 hm H2 (by omega) (by first | omega | (simp only [List.length_append, List.length_cons, List.length_nil]; omega))) (fun v I13 hv => ?_)
    obtain ⟨rfl, H3, g3⟩ := hv
    have F3 := F2.tr g3
    refine w_aln l_294_65 rfl ?_
    refine w_bp l_294_66 (by decide) ?_
    refine p_iv [vi 32] [] l_294_68 rfl rfl (Nat.le_of_ble_eq_true rfl) (by rw [mx_289]; exact Nat.le_of_ble_eq_true rfl) (by rw [mt_289]; exact oModel_sh hm) (by rw [mt_289]; decide) (by rw [rk_289]; decide) (r_put hm H3 (by first | omega | (simp only [List.length_append, List.length_cons, List.length_nil]; omega))) (fun v I14 hv => ?_)
    obtain ⟨rfl, H4, g4⟩ := hv
    have F4 := F3.tr g4
    refine w_aln l_294_71 rfl ?_
    refine w_aln l_294_72 rfl ?_
    refine w_gr l_294_73 (oModel_sh hm) (oModel_r65 hm) ?_
    refine w_ic l_294_76 (by decide) ?_
    refine w_iln l_294_77 rfl ?_
    refine w_ic l_294_78 (by decide) ?_
    refine q_st [vr (s + 36), vi 5, vi ((k : Nat) : Int), vi 3] [vr s] l_294_79 (by decide) rfl rfl (Nat.le_of_ble_eq_true rfl) (by rw [mx_204]; exact Nat.le_of_ble_eq_true rfl) (by rw [rk_204]; decide) (r_part3 hm (hL0.mff F4) hk) ?_
    refine q_st [vi ((((runA h l noOut ne).2.1.getD k dr0).2.2.2.1 : Nat) : Int)] [vr s] l_294_82 (by decide) rfl rfl (Nat.le_of_ble_eq_true rfl) (by rw [mx_293]; exact Nat.le_of_ble_eq_true rfl) (by rw [rk_293]; decide) (s_293 hD.2.2.2.1) ?_
    refine p_iv [vs (2 * (rcS ((runA h l noOut ne).2.1.getD k dr0).2.2.2.1) + 4)] [] l_294_85 rfl rfl (Nat.le_of_ble_eq_true rfl) (by rw [mx_291]; exact Nat.le_of_ble_eq_true rfl) (by rw [mt_291]; exact oModel_sh hm) (by rw [mt_291]; decide) (by rw [rk_291]; decide) (by have g9 := s_291 (xs := xs) (T := T) (cc := cc) (zz := zz) hm H4 (w := rcS ((runA h l noOut ne).2.1.getD k dr0).2.2.2.1) hrc.1 (by first | omega | (simp only [List.length_append, List.length_cons, List.length_nil]; omega)); rw [hrc.2] at g9; exact g9) (fun v I15 hv => ?_)
    obtain ⟨rfl, H5, g5⟩ := hv
    have F5 := F4.tr g5
    refine w_aln l_294_88 rfl ?_
    refine w_gr l_294_89 (oModel_sh hm) (oModel_r65 hm) ?_
    refine w_ic l_294_92 (by decide) ?_
    refine w_iln l_294_93 rfl ?_
    refine w_ic l_294_94 (by decide) ?_
    refine q_st [vr (s + 36), vi 5, vi ((k : Nat) : Int), vi 4] [] l_294_95 (by decide) rfl rfl (Nat.le_of_ble_eq_true rfl) (by rw [mx_204]; exact Nat.le_of_ble_eq_true rfl) (by rw [rk_204]; decide) (by have g9 := r_part4 (xs := xs) (T := T) (cc := cc) (zz := zz) hm (hL0.mff F5) hk; rw [hdt] at g9; exact g9) ?_
    refine w_ic l_294_98 (by decide) ?_
    refine w_ceq 122 l_294_99 (by decide) (fun _ => ?_) (fun hx => absurd hx (by decide))
    refine w_aln l_294_122 rfl ?_
    refine w_gr l_294_123 (oModel_sh hm) (oModel_r65 hm) ?_
    refine w_ic l_294_126 (by decide) ?_
    refine w_iln l_294_127 rfl ?_
    refine w_ic l_294_128 (by decide) ?_
    refine q_st [vr (s + 36), vi 5, vi ((k : Nat) : Int), vi 2] [] l_294_129 (by decide) rfl rfl (Nat.le_of_ble_eq_true rfl) (by rw [mx_204]; exact Nat.le_of_ble_eq_true rfl) (by rw [rk_204]; decide) (by have g9 := r_part2 (xs := xs) (T := T) (cc := cc) (zz := zz) hm (hL0.mff F5) hk; rw [hpt] at g9; exact g9) ?_
    refine w_ic l_294_132 (by decide) ?_
    refine w_ceq 156 l_294_133 (by decide) (fun _ => ?_) (fun hx => absurd hx (by decide))
    refine w_aln l_294_156 rfl ?_
    refine w_gi ((((((([] ++ numB ((runA h l noOut ne).2.1.getD k dr0).2.1) ++ [64]) ++ numB ((runA h l noOut ne).2.1.getD k dr0).1) ++ [32]) ++ strB (16 + ((runA h l noOut ne).2.1.getD k dr0).2.2.2.1)).length : Nat) : Int) l_294_157 (oModel_sh hm) H5.1 ?_
    refine w_ir l_294_160 (Or.inl rfl) ?_
    have e9 : dropB nm ((runA h l noOut ne).2.1.getD k dr0) = ((((([] ++ numB ((runA h l noOut ne).2.1.getD k dr0).2.1) ++ [64]) ++ numB ((runA h l noOut ne).2.1.getD k dr0).1) ++ [32]) ++ strB (16 + ((runA h l noOut ne).2.1.getD k dr0).2.2.2.1)) := by
      unfold dropB
      rw [hdt, hpt, if_pos rfl, if_pos rfl]
      simp only [Int.toNat_natCast, List.append_assoc, List.nil_append, List.append_nil]
    rw [← e9] at H5
    refine ⟨_, _, rfl, rfl, by rw [e9], H5, (F5 s 0 (fun _ => by decide) (by omega)).trans ((up_nj (by decide)).trans up_eq), (fun y z h1 h2 => (F5 y z (fun e => (h1 e).2.1) (fun e => by have := h2 (by omega); omega)).trans ((up_out (by omega)).trans ((up_out (by omega)).trans (f1 y z (fun e => by have := (h1 e).2.2; omega) (fun e => by have := h2 e; omega)))))⟩
  · skip
    refine CL_start (r := 11) (ls := [vr s, vi ((k : Nat) : Int)]) (rk_294 _) rfl ?_
    refine w_aln l_294_0 rfl ?_
    refine w_aln l_294_1 rfl ?_
    refine w_iln l_294_2 rfl ?_
    refine p_iv [vi ((k : Nat) : Int)] [vr s] l_294_3 rfl rfl (Nat.le_of_ble_eq_true rfl) (by rw [mx_252]; exact Nat.le_of_ble_eq_true rfl) (by rw [mt_252]; exact oModel_sh hm) (by rw [mt_252]; decide) (by rw [rk_252]; decide) (s_252 hm B) (fun v I1 hv => ?_)
    obtain ⟨rfl, hR1, f1⟩ := hv
    refine w_beq 13 l_294_6 (by decide) (fun hx => absurd hx (by rw [decide_eq_true (by omega)]; decide)) (fun _ => ?_)
    refine w_ic l_294_9 (by decide) ?_
    refine w_go 14 l_294_10 (by decide) ?_
    refine w_pi l_294_14 (oModel_sh hm) ?_
    refine w_aln l_294_17 rfl ?_
    refine w_gi 0 l_294_18 (oModel_sh hm) up_eq ?_
    refine w_zle 26 l_294_21 (by decide) (fun _ => ?_) (fun hx => absurd hx (by decide))
    have hD := run_okD B.2.2.2.2.1 B.2.2.2.2.2.1 hpk (by have := B.1.1; omega) B.1.2.1 hk
    have hl4 := B.2.2.2.2.1.1
    have hD1 := hD.1
    have hD2 := hD.2.1
    have hD3 := hD.2.2.1
    have hD4 := hD.2.2.2.1
    have hD5 := hD.2.2.2.2
    have b1 := numB_len ((runA h l noOut ne).2.1.getD k dr0).2.1
    have b2 := numB_len ((runA h l noOut ne).2.1.getD k dr0).1
    have hrc := rcS_ok ((runA h l noOut ne).2.1.getD k dr0).2.2.2.1 (by omega) hD4.1
    have b3 := strB_len (16 + ((runA h l noOut ne).2.1.getD k dr0).2.2.2.1)
    have b4 := stb_len (16 + ((runA h l noOut ne).2.1.getD k dr0).2.2.2.1) (by omega)
    have hnm : ∀ J, mff (up (up I1 s 0 0) s 75 0) J s → ∀ p, J (s + 1) p = I (s + 1) p := fun J f p => (f _ _ (by omega) (by omega)).trans ((up_no (by omega)).trans ((up_no (by omega)).trans (f1 _ _ (fun e => by omega) (fun _ => by omega))))
    have b6 := (NM p hp).1.1
    have b7 := nameB_len (nm p)
    refine w_aln l_294_26 rfl ?_
    refine w_ic l_294_27 (by decide) ?_
    refine w_pi l_294_28 (oModel_sh hm) ?_
    have H0 : mlS (up (up I1 s 0 0) s 75 0) s [] := ⟨up_eq, Nat.zero_le _, fun i hi => absurd hi (Nat.not_lt_zero i)⟩
    have F0 : mff (up (up I1 s 0 0) s 75 0) (up (up I1 s 0 0) s 75 0) s := mff.rf _ _
    have hL0 : nL (up (up I1 s 0 0) s 75 0) s (runA h l noOut ne).2 := hR1.2.fr ((up_nj (by decide)).trans (up_nj (by decide))) (fun y h1 h2 z => (up_no (by omega)).trans (up_no (by omega)))
    refine w_aln l_294_31 rfl ?_
    refine w_aln l_294_32 rfl ?_
    refine w_gr l_294_33 (oModel_sh hm) (oModel_r65 hm) ?_
    refine w_ic l_294_36 (by decide) ?_
    refine w_iln l_294_37 rfl ?_
    refine w_ic l_294_38 (by decide) ?_
    refine q_st [vr (s + 36), vi 5, vi ((k : Nat) : Int), vi 1] [vr s] l_294_39 (by decide) rfl rfl (Nat.le_of_ble_eq_true rfl) (by rw [mx_204]; exact Nat.le_of_ble_eq_true rfl) (by rw [rk_204]; decide) (r_part1 hm hL0 hk) ?_
    refine p_iv [vi ((((runA h l noOut ne).2.1.getD k dr0).2.1 : Nat) : Int)] [] l_294_42 rfl rfl (Nat.le_of_ble_eq_true rfl) (by rw [mx_290]; exact Nat.le_of_ble_eq_true rfl) (by rw [mt_290]; exact oModel_sh hm) (by rw [mt_290]; decide) (by rw [rk_290]; decide) (s_290 hm H0 (by omega) (by first | omega | (simp only [List.length_append, List.length_cons, List.length_nil]; omega))) (fun v I11 hv => ?_)
    obtain ⟨rfl, H1, g1⟩ := hv
    have F1 := F0.tr g1
    refine w_aln l_294_45 rfl ?_
    refine w_bp l_294_46 (by decide) ?_
    refine p_iv [vi 64] [] l_294_48 rfl rfl (Nat.le_of_ble_eq_true rfl) (by rw [mx_289]; exact Nat.le_of_ble_eq_true rfl) (by rw [mt_289]; exact oModel_sh hm) (by rw [mt_289]; decide) (by rw [rk_289]; decide) (r_put hm H1 (by first | omega | (simp only [List.length_append, List.length_cons, List.length_nil]; omega))) (fun v I12 hv => ?_)
    obtain ⟨rfl, H2, g2⟩ := hv
    have F2 := F1.tr g2
    refine w_aln l_294_51 rfl ?_
    refine w_aln l_294_52 rfl ?_
    refine w_gr l_294_53 (oModel_sh hm) (oModel_r65 hm) ?_
    refine w_ic l_294_56 (by decide) ?_
    refine w_iln l_294_57 rfl ?_
    refine w_ic l_294_58 (by decide) ?_
    refine q_st [vr (s + 36), vi 5, vi ((k : Nat) : Int), vi 0] [vr s] l_294_59 (by decide) rfl rfl (Nat.le_of_ble_eq_true rfl) (by rw [mx_204]; exact Nat.le_of_ble_eq_true rfl) (by rw [rk_204]; decide) (r_part0 hm (hL0.mff F2) hk) ?_
    refine p_iv [vi ((((runA h l noOut ne).2.1.getD k dr0).1 : Nat) : Int)] [] l_294_62 rfl rfl (Nat.le_of_ble_eq_true rfl) (by rw [mx_290]; exact Nat.le_of_ble_eq_true rfl) (by rw [mt_290]; exact oModel_sh hm) (by rw [mt_290]; decide) (by rw [rk_290]; decide) (s_290 hm H2 (by omega) (by first | omega | (simp only [List.length_append, List.length_cons, List.length_nil]; omega))) (fun v I13 hv => ?_)
    obtain ⟨rfl, H3, g3⟩ := hv
    have F3 := F2.tr g3
    refine w_aln l_294_65 rfl ?_
    refine w_bp l_294_66 (by decide) ?_
    refine p_iv [vi 32] [] l_294_68 rfl rfl (Nat.le_of_ble_eq_true rfl) (by rw [mx_289]; exact Nat.le_of_ble_eq_true rfl) (by rw [mt_289]; exact oModel_sh hm) (by rw [mt_289]; decide) (by rw [rk_289]; decide) (r_put hm H3 (by first | omega | (simp only [List.length_append, List.length_cons, List.length_nil]; omega))) (fun v I14 hv => ?_)
    obtain ⟨rfl, H4, g4⟩ := hv
    have F4 := F3.tr g4
    refine w_aln l_294_71 rfl ?_
    refine w_aln l_294_72 rfl ?_
    refine w_gr l_294_73 (oModel_sh hm) (oModel_r65 hm) ?_
    refine w_ic l_294_76 (by decide) ?_
    refine w_iln l_294_77 rfl ?_
    refine w_ic l_294_78 (by decide) ?_
    refine q_st [vr (s + 36), vi 5, vi ((k : Nat) : Int), vi 3] [vr s] l_294_79 (by decide) rfl rfl (Nat.le_of_ble_eq_true rfl) (by rw [mx_204]; exact Nat.le_of_ble_eq_true rfl) (by rw [rk_204]; decide) (r_part3 hm (hL0.mff F4) hk) ?_
    refine q_st [vi ((((runA h l noOut ne).2.1.getD k dr0).2.2.2.1 : Nat) : Int)] [vr s] l_294_82 (by decide) rfl rfl (Nat.le_of_ble_eq_true rfl) (by rw [mx_293]; exact Nat.le_of_ble_eq_true rfl) (by rw [rk_293]; decide) (s_293 hD.2.2.2.1) ?_
    refine p_iv [vs (2 * (rcS ((runA h l noOut ne).2.1.getD k dr0).2.2.2.1) + 4)] [] l_294_85 rfl rfl (Nat.le_of_ble_eq_true rfl) (by rw [mx_291]; exact Nat.le_of_ble_eq_true rfl) (by rw [mt_291]; exact oModel_sh hm) (by rw [mt_291]; decide) (by rw [rk_291]; decide) (by have g9 := s_291 (xs := xs) (T := T) (cc := cc) (zz := zz) hm H4 (w := rcS ((runA h l noOut ne).2.1.getD k dr0).2.2.2.1) hrc.1 (by first | omega | (simp only [List.length_append, List.length_cons, List.length_nil]; omega)); rw [hrc.2] at g9; exact g9) (fun v I15 hv => ?_)
    obtain ⟨rfl, H5, g5⟩ := hv
    have F5 := F4.tr g5
    refine w_aln l_294_88 rfl ?_
    refine w_gr l_294_89 (oModel_sh hm) (oModel_r65 hm) ?_
    refine w_ic l_294_92 (by decide) ?_
    refine w_iln l_294_93 rfl ?_
    refine w_ic l_294_94 (by decide) ?_
    refine q_st [vr (s + 36), vi 5, vi ((k : Nat) : Int), vi 4] [] l_294_95 (by decide) rfl rfl (Nat.le_of_ble_eq_true rfl) (by rw [mx_204]; exact Nat.le_of_ble_eq_true rfl) (by rw [rk_204]; decide) (by have g9 := r_part4 (xs := xs) (T := T) (cc := cc) (zz := zz) hm (hL0.mff F5) hk; rw [hdt] at g9; exact g9) ?_
    refine w_ic l_294_98 (by decide) ?_
    refine w_ceq 122 l_294_99 (by decide) (fun _ => ?_) (fun hx => absurd hx (by decide))
    refine w_aln l_294_122 rfl ?_
    refine w_gr l_294_123 (oModel_sh hm) (oModel_r65 hm) ?_
    refine w_ic l_294_126 (by decide) ?_
    refine w_iln l_294_127 rfl ?_
    refine w_ic l_294_128 (by decide) ?_
    refine q_st [vr (s + 36), vi 5, vi ((k : Nat) : Int), vi 2] [] l_294_129 (by decide) rfl rfl (Nat.le_of_ble_eq_true rfl) (by rw [mx_204]; exact Nat.le_of_ble_eq_true rfl) (by rw [rk_204]; decide) (by have g9 := r_part2 (xs := xs) (T := T) (cc := cc) (zz := zz) hm (hL0.mff F5) hk; rw [hpt] at g9; exact g9) ?_
    refine w_ic l_294_132 (by decide) ?_
    refine w_ceq 156 l_294_133 (by decide) (fun hx => absurd hx (by omega)) (fun _ => ?_)
    refine w_aln l_294_136 rfl ?_
    refine w_bp l_294_137 (by decide) ?_
    refine p_iv [vi 32] [] l_294_139 rfl rfl (Nat.le_of_ble_eq_true rfl) (by rw [mx_289]; exact Nat.le_of_ble_eq_true rfl) (by rw [mt_289]; exact oModel_sh hm) (by rw [mt_289]; decide) (by rw [rk_289]; decide) (r_put hm H5 (by first | omega | (simp only [List.length_append, List.length_cons, List.length_nil]; omega))) (fun v I16 hv => ?_)
    obtain ⟨rfl, H6, g6⟩ := hv
    have F6 := F5.tr g6
    refine w_aln l_294_142 rfl ?_
    refine w_aln l_294_143 rfl ?_
    refine w_gr l_294_144 (oModel_sh hm) (oModel_r65 hm) ?_
    refine w_ic l_294_147 (by decide) ?_
    refine w_iln l_294_148 rfl ?_
    refine w_ic l_294_149 (by decide) ?_
    refine q_st [vr (s + 36), vi 5, vi ((k : Nat) : Int), vi 2] [vr s] l_294_150 (by decide) rfl rfl (Nat.le_of_ble_eq_true rfl) (by rw [mx_204]; exact Nat.le_of_ble_eq_true rfl) (by rw [rk_204]; decide) (by have g9 := r_part2 (xs := xs) (T := T) (cc := cc) (zz := zz) hm (hL0.mff F6) hk; rw [hpt] at g9; exact g9) ?_
    refine p_iv [vi ((p : Nat) : Int)] [] l_294_153 rfl rfl (Nat.le_of_ble_eq_true rfl) (by rw [mx_292]; exact Nat.le_of_ble_eq_true rfl) (by rw [mt_292]; exact oModel_sh hm) (by rw [mt_292]; decide) (by rw [rk_292]; decide) (s_292 hm H6 (by omega) (NM p hp).1 ((hnm _ F6 p).trans (NM p hp).2) (by first | omega | (simp only [List.length_append, List.length_cons, List.length_nil]; omega))) (fun v I17 hv => ?_)
    obtain ⟨rfl, H7, g7⟩ := hv
    have F7 := F6.tr g7
    refine w_aln l_294_156 rfl ?_
    refine w_gi ((((((((([] ++ numB ((runA h l noOut ne).2.1.getD k dr0).2.1) ++ [64]) ++ numB ((runA h l noOut ne).2.1.getD k dr0).1) ++ [32]) ++ strB (16 + ((runA h l noOut ne).2.1.getD k dr0).2.2.2.1)) ++ [32]) ++ nameB (nm p)).length : Nat) : Int) l_294_157 (oModel_sh hm) H7.1 ?_
    refine w_ir l_294_160 (Or.inl rfl) ?_
    have e9 : dropB nm ((runA h l noOut ne).2.1.getD k dr0) = ((((((([] ++ numB ((runA h l noOut ne).2.1.getD k dr0).2.1) ++ [64]) ++ numB ((runA h l noOut ne).2.1.getD k dr0).1) ++ [32]) ++ strB (16 + ((runA h l noOut ne).2.1.getD k dr0).2.2.2.1)) ++ [32]) ++ nameB (nm p)) := by
      unfold dropB
      rw [hdt, hpt, if_pos rfl, if_neg (by omega)]
      simp only [Int.toNat_natCast, List.append_assoc, List.nil_append, List.append_nil]
    rw [← e9] at H7
    refine ⟨_, _, rfl, rfl, by rw [e9], H7, (F7 s 0 (fun _ => by decide) (by omega)).trans ((up_nj (by decide)).trans up_eq), (fun y z h1 h2 => (F7 y z (fun e => (h1 e).2.1) (fun e => by have := h2 (by omega); omega)).trans ((up_out (by omega)).trans ((up_out (by omega)).trans (f1 y z (fun e => by have := (h1 e).2.2; omega) (fun e => by have := h2 e; omega)))))⟩
  · skip
    refine CL_start (r := 11) (ls := [vr s, vi ((k : Nat) : Int)]) (rk_294 _) rfl ?_
    refine w_aln l_294_0 rfl ?_
    refine w_aln l_294_1 rfl ?_
    refine w_iln l_294_2 rfl ?_
    refine p_iv [vi ((k : Nat) : Int)] [vr s] l_294_3 rfl rfl (Nat.le_of_ble_eq_true rfl) (by rw [mx_252]; exact Nat.le_of_ble_eq_true rfl) (by rw [mt_252]; exact oModel_sh hm) (by rw [mt_252]; decide) (by rw [rk_252]; decide) (s_252 hm B) (fun v I1 hv => ?_)
    obtain ⟨rfl, hR1, f1⟩ := hv
    refine w_beq 13 l_294_6 (by decide) (fun hx => absurd hx (by rw [decide_eq_true (by omega)]; decide)) (fun _ => ?_)
    refine w_ic l_294_9 (by decide) ?_
    refine w_go 14 l_294_10 (by decide) ?_
    refine w_pi l_294_14 (oModel_sh hm) ?_
    refine w_aln l_294_17 rfl ?_
    refine w_gi 0 l_294_18 (oModel_sh hm) up_eq ?_
    refine w_zle 26 l_294_21 (by decide) (fun _ => ?_) (fun hx => absurd hx (by decide))
    have hD := run_okD B.2.2.2.2.1 B.2.2.2.2.2.1 hpk (by have := B.1.1; omega) B.1.2.1 hk
    have hl4 := B.2.2.2.2.1.1
    have hD1 := hD.1
    have hD2 := hD.2.1
    have hD3 := hD.2.2.1
    have hD4 := hD.2.2.2.1
    have hD5 := hD.2.2.2.2
    have b1 := numB_len ((runA h l noOut ne).2.1.getD k dr0).2.1
    have b2 := numB_len ((runA h l noOut ne).2.1.getD k dr0).1
    have hrc := rcS_ok ((runA h l noOut ne).2.1.getD k dr0).2.2.2.1 (by omega) hD4.1
    have b3 := strB_len (16 + ((runA h l noOut ne).2.1.getD k dr0).2.2.2.1)
    have b4 := stb_len (16 + ((runA h l noOut ne).2.1.getD k dr0).2.2.2.1) (by omega)
    have hnm : ∀ J, mff (up (up I1 s 0 0) s 75 0) J s → ∀ p, J (s + 1) p = I (s + 1) p := fun J f p => (f _ _ (by omega) (by omega)).trans ((up_no (by omega)).trans ((up_no (by omega)).trans (f1 _ _ (fun e => by omega) (fun _ => by omega))))
    have b5 := numB_len dt
    refine w_aln l_294_26 rfl ?_
    refine w_ic l_294_27 (by decide) ?_
    refine w_pi l_294_28 (oModel_sh hm) ?_
    have H0 : mlS (up (up I1 s 0 0) s 75 0) s [] := ⟨up_eq, Nat.zero_le _, fun i hi => absurd hi (Nat.not_lt_zero i)⟩
    have F0 : mff (up (up I1 s 0 0) s 75 0) (up (up I1 s 0 0) s 75 0) s := mff.rf _ _
    have hL0 : nL (up (up I1 s 0 0) s 75 0) s (runA h l noOut ne).2 := hR1.2.fr ((up_nj (by decide)).trans (up_nj (by decide))) (fun y h1 h2 z => (up_no (by omega)).trans (up_no (by omega)))
    refine w_aln l_294_31 rfl ?_
    refine w_aln l_294_32 rfl ?_
    refine w_gr l_294_33 (oModel_sh hm) (oModel_r65 hm) ?_
    refine w_ic l_294_36 (by decide) ?_
    refine w_iln l_294_37 rfl ?_
    refine w_ic l_294_38 (by decide) ?_
    refine q_st [vr (s + 36), vi 5, vi ((k : Nat) : Int), vi 1] [vr s] l_294_39 (by decide) rfl rfl (Nat.le_of_ble_eq_true rfl) (by rw [mx_204]; exact Nat.le_of_ble_eq_true rfl) (by rw [rk_204]; decide) (r_part1 hm hL0 hk) ?_
    refine p_iv [vi ((((runA h l noOut ne).2.1.getD k dr0).2.1 : Nat) : Int)] [] l_294_42 rfl rfl (Nat.le_of_ble_eq_true rfl) (by rw [mx_290]; exact Nat.le_of_ble_eq_true rfl) (by rw [mt_290]; exact oModel_sh hm) (by rw [mt_290]; decide) (by rw [rk_290]; decide) (s_290 hm H0 (by omega) (by first | omega | (simp only [List.length_append, List.length_cons, List.length_nil]; omega))) (fun v I11 hv => ?_)
    obtain ⟨rfl, H1, g1⟩ := hv
    have F1 := F0.tr g1
    refine w_aln l_294_45 rfl ?_
    refine w_bp l_294_46 (by decide) ?_
    refine p_iv [vi 64] [] l_294_48 rfl rfl (Nat.le_of_ble_eq_true rfl) (by rw [mx_289]; exact Nat.le_of_ble_eq_true rfl) (by rw [mt_289]; exact oModel_sh hm) (by rw [mt_289]; decide) (by rw [rk_289]; decide) (r_put hm H1 (by first | omega | (simp only [List.length_append, List.length_cons, List.length_nil]; omega))) (fun v I12 hv => ?_)
    obtain ⟨rfl, H2, g2⟩ := hv
    have F2 := F1.tr g2
    refine w_aln l_294_51 rfl ?_
    refine w_aln l_294_52 rfl ?_
    refine w_gr l_294_53 (oModel_sh hm) (oModel_r65 hm) ?_
    refine w_ic l_294_56 (by decide) ?_
    refine w_iln l_294_57 rfl ?_
    refine w_ic l_294_58 (by decide) ?_
    refine q_st [vr (s + 36), vi 5, vi ((k : Nat) : Int), vi 0] [vr s] l_294_59 (by decide) rfl rfl (Nat.le_of_ble_eq_true rfl) (by rw [mx_204]; exact Nat.le_of_ble_eq_true rfl) (by rw [rk_204]; decide) (r_part0 hm (hL0.mff F2) hk) ?_
    refine p_iv [vi ((((runA h l noOut ne).2.1.getD k dr0).1 : Nat) : Int)] [] l_294_62 rfl rfl (Nat.le_of_ble_eq_true rfl) (by rw [mx_290]; exact Nat.le_of_ble_eq_true rfl) (by rw [mt_290]; exact oModel_sh hm) (by rw [mt_290]; decide) (by rw [rk_290]; decide) (s_290 hm H2 (by omega) (by first | omega | (simp only [List.length_append, List.length_cons, List.length_nil]; omega))) (fun v I13 hv => ?_)
    obtain ⟨rfl, H3, g3⟩ := hv
    have F3 := F2.tr g3
    refine w_aln l_294_65 rfl ?_
    refine w_bp l_294_66 (by decide) ?_
    refine p_iv [vi 32] [] l_294_68 rfl rfl (Nat.le_of_ble_eq_true rfl) (by rw [mx_289]; exact Nat.le_of_ble_eq_true rfl) (by rw [mt_289]; exact oModel_sh hm) (by rw [mt_289]; decide) (by rw [rk_289]; decide) (r_put hm H3 (by first | omega | (simp only [List.length_append, List.length_cons, List.length_nil]; omega))) (fun v I14 hv => ?_)
    obtain ⟨rfl, H4, g4⟩ := hv
    have F4 := F3.tr g4
    refine w_aln l_294_71 rfl ?_
    refine w_aln l_294_72 rfl ?_
    refine w_gr l_294_73 (oModel_sh hm) (oModel_r65 hm) ?_
    refine w_ic l_294_76 (by decide) ?_
    refine w_iln l_294_77 rfl ?_
    refine w_ic l_294_78 (by decide) ?_
    refine q_st [vr (s + 36), vi 5, vi ((k : Nat) : Int), vi 3] [vr s] l_294_79 (by decide) rfl rfl (Nat.le_of_ble_eq_true rfl) (by rw [mx_204]; exact Nat.le_of_ble_eq_true rfl) (by rw [rk_204]; decide) (r_part3 hm (hL0.mff F4) hk) ?_
    refine q_st [vi ((((runA h l noOut ne).2.1.getD k dr0).2.2.2.1 : Nat) : Int)] [vr s] l_294_82 (by decide) rfl rfl (Nat.le_of_ble_eq_true rfl) (by rw [mx_293]; exact Nat.le_of_ble_eq_true rfl) (by rw [rk_293]; decide) (s_293 hD.2.2.2.1) ?_
    refine p_iv [vs (2 * (rcS ((runA h l noOut ne).2.1.getD k dr0).2.2.2.1) + 4)] [] l_294_85 rfl rfl (Nat.le_of_ble_eq_true rfl) (by rw [mx_291]; exact Nat.le_of_ble_eq_true rfl) (by rw [mt_291]; exact oModel_sh hm) (by rw [mt_291]; decide) (by rw [rk_291]; decide) (by have g9 := s_291 (xs := xs) (T := T) (cc := cc) (zz := zz) hm H4 (w := rcS ((runA h l noOut ne).2.1.getD k dr0).2.2.2.1) hrc.1 (by first | omega | (simp only [List.length_append, List.length_cons, List.length_nil]; omega)); rw [hrc.2] at g9; exact g9) (fun v I15 hv => ?_)
    obtain ⟨rfl, H5, g5⟩ := hv
    have F5 := F4.tr g5
    refine w_aln l_294_88 rfl ?_
    refine w_gr l_294_89 (oModel_sh hm) (oModel_r65 hm) ?_
    refine w_ic l_294_92 (by decide) ?_
    refine w_iln l_294_93 rfl ?_
    refine w_ic l_294_94 (by decide) ?_
    refine q_st [vr (s + 36), vi 5, vi ((k : Nat) : Int), vi 4] [] l_294_95 (by decide) rfl rfl (Nat.le_of_ble_eq_true rfl) (by rw [mx_204]; exact Nat.le_of_ble_eq_true rfl) (by rw [rk_204]; decide) (by have g9 := r_part4 (xs := xs) (T := T) (cc := cc) (zz := zz) hm (hL0.mff F5) hk; rw [hdt] at g9; exact g9) ?_
    refine w_ic l_294_98 (by decide) ?_
    refine w_ceq 122 l_294_99 (by decide) (fun hx => absurd hx (by omega)) (fun _ => ?_)
    refine w_aln l_294_102 rfl ?_
    refine w_bp l_294_103 (by decide) ?_
    refine p_iv [vi 61] [] l_294_105 rfl rfl (Nat.le_of_ble_eq_true rfl) (by rw [mx_289]; exact Nat.le_of_ble_eq_true rfl) (by rw [mt_289]; exact oModel_sh hm) (by rw [mt_289]; decide) (by rw [rk_289]; decide) (r_put hm H5 (by first | omega | (simp only [List.length_append, List.length_cons, List.length_nil]; omega))) (fun v I16 hv => ?_)
    obtain ⟨rfl, H6, g6⟩ := hv
    have F6 := F5.tr g6
    refine w_aln l_294_108 rfl ?_
    refine w_aln l_294_109 rfl ?_
    refine w_gr l_294_110 (oModel_sh hm) (oModel_r65 hm) ?_
    refine w_ic l_294_113 (by decide) ?_
    refine w_iln l_294_114 rfl ?_
    refine w_ic l_294_115 (by decide) ?_
    refine q_st [vr (s + 36), vi 5, vi ((k : Nat) : Int), vi 4] [vr s] l_294_116 (by decide) rfl rfl (Nat.le_of_ble_eq_true rfl) (by rw [mx_204]; exact Nat.le_of_ble_eq_true rfl) (by rw [rk_204]; decide) (by have g9 := r_part4 (xs := xs) (T := T) (cc := cc) (zz := zz) hm (hL0.mff F6) hk; rw [hdt] at g9; exact g9) ?_
    refine p_iv [vi ((dt : Nat) : Int)] [] l_294_119 rfl rfl (Nat.le_of_ble_eq_true rfl) (by rw [mx_290]; exact Nat.le_of_ble_eq_true rfl) (by rw [mt_290]; exact oModel_sh hm) (by rw [mt_290]; decide) (by rw [rk_290]; decide) (s_290 hm H6 (by omega) (by first | omega | (simp only [List.length_append, List.length_cons, List.length_nil]; omega))) (fun v I17 hv => ?_)
    obtain ⟨rfl, H7, g7⟩ := hv
    have F7 := F6.tr g7
    refine w_aln l_294_122 rfl ?_
    refine w_gr l_294_123 (oModel_sh hm) (oModel_r65 hm) ?_
    refine w_ic l_294_126 (by decide) ?_
    refine w_iln l_294_127 rfl ?_
    refine w_ic l_294_128 (by decide) ?_
    refine q_st [vr (s + 36), vi 5, vi ((k : Nat) : Int), vi 2] [] l_294_129 (by decide) rfl rfl (Nat.le_of_ble_eq_true rfl) (by rw [mx_204]; exact Nat.le_of_ble_eq_true rfl) (by rw [rk_204]; decide) (by have g9 := r_part2 (xs := xs) (T := T) (cc := cc) (zz := zz) hm (hL0.mff F7) hk; rw [hpt] at g9; exact g9) ?_
    refine w_ic l_294_132 (by decide) ?_
    refine w_ceq 156 l_294_133 (by decide) (fun _ => ?_) (fun hx => absurd hx (by decide))
    refine w_aln l_294_156 rfl ?_
    refine w_gi ((((((((([] ++ numB ((runA h l noOut ne).2.1.getD k dr0).2.1) ++ [64]) ++ numB ((runA h l noOut ne).2.1.getD k dr0).1) ++ [32]) ++ strB (16 + ((runA h l noOut ne).2.1.getD k dr0).2.2.2.1)) ++ [61]) ++ numB dt).length : Nat) : Int) l_294_157 (oModel_sh hm) H7.1 ?_
    refine w_ir l_294_160 (Or.inl rfl) ?_
    have e9 : dropB nm ((runA h l noOut ne).2.1.getD k dr0) = ((((((([] ++ numB ((runA h l noOut ne).2.1.getD k dr0).2.1) ++ [64]) ++ numB ((runA h l noOut ne).2.1.getD k dr0).1) ++ [32]) ++ strB (16 + ((runA h l noOut ne).2.1.getD k dr0).2.2.2.1)) ++ [61]) ++ numB dt) := by
      unfold dropB
      rw [hdt, hpt, if_neg (by omega), if_pos rfl]
      simp only [Int.toNat_natCast, List.append_assoc, List.nil_append, List.append_nil]
    rw [← e9] at H7
    refine ⟨_, _, rfl, rfl, by rw [e9], H7, (F7 s 0 (fun _ => by decide) (by omega)).trans ((up_nj (by decide)).trans up_eq), (fun y z h1 h2 => (F7 y z (fun e => (h1 e).2.1) (fun e => by have := h2 (by omega); omega)).trans ((up_out (by omega)).trans ((up_out (by omega)).trans (f1 y z (fun e => by have := (h1 e).2.2; omega) (fun e => by have := h2 e; omega)))))⟩
  · skip
    refine CL_start (r := 11) (ls := [vr s, vi ((k : Nat) : Int)]) (rk_294 _) rfl ?_
    refine w_aln l_294_0 rfl ?_
    refine w_aln l_294_1 rfl ?_
    refine w_iln l_294_2 rfl ?_
    refine p_iv [vi ((k : Nat) : Int)] [vr s] l_294_3 rfl rfl (Nat.le_of_ble_eq_true rfl) (by rw [mx_252]; exact Nat.le_of_ble_eq_true rfl) (by rw [mt_252]; exact oModel_sh hm) (by rw [mt_252]; decide) (by rw [rk_252]; decide) (s_252 hm B) (fun v I1 hv => ?_)
    obtain ⟨rfl, hR1, f1⟩ := hv
    refine w_beq 13 l_294_6 (by decide) (fun hx => absurd hx (by rw [decide_eq_true (by omega)]; decide)) (fun _ => ?_)
    refine w_ic l_294_9 (by decide) ?_
    refine w_go 14 l_294_10 (by decide) ?_
    refine w_pi l_294_14 (oModel_sh hm) ?_
    refine w_aln l_294_17 rfl ?_
    refine w_gi 0 l_294_18 (oModel_sh hm) up_eq ?_
    refine w_zle 26 l_294_21 (by decide) (fun _ => ?_) (fun hx => absurd hx (by decide))
    have hD := run_okD B.2.2.2.2.1 B.2.2.2.2.2.1 hpk (by have := B.1.1; omega) B.1.2.1 hk
    have hl4 := B.2.2.2.2.1.1
    have hD1 := hD.1
    have hD2 := hD.2.1
    have hD3 := hD.2.2.1
    have hD4 := hD.2.2.2.1
    have hD5 := hD.2.2.2.2
    have b1 := numB_len ((runA h l noOut ne).2.1.getD k dr0).2.1
    have b2 := numB_len ((runA h l noOut ne).2.1.getD k dr0).1
    have hrc := rcS_ok ((runA h l noOut ne).2.1.getD k dr0).2.2.2.1 (by omega) hD4.1
    have b3 := strB_len (16 + ((runA h l noOut ne).2.1.getD k dr0).2.2.2.1)
    have b4 := stb_len (16 + ((runA h l noOut ne).2.1.getD k dr0).2.2.2.1) (by omega)
    have hnm : ∀ J, mff (up (up I1 s 0 0) s 75 0) J s → ∀ p, J (s + 1) p = I (s + 1) p := fun J f p => (f _ _ (by omega) (by omega)).trans ((up_no (by omega)).trans ((up_no (by omega)).trans (f1 _ _ (fun e => by omega) (fun _ => by omega))))
    have b5 := numB_len dt
    have b6 := (NM p hp).1.1
    have b7 := nameB_len (nm p)
    refine w_aln l_294_26 rfl ?_
    refine w_ic l_294_27 (by decide) ?_
    refine w_pi l_294_28 (oModel_sh hm) ?_
    have H0 : mlS (up (up I1 s 0 0) s 75 0) s [] := ⟨up_eq, Nat.zero_le _, fun i hi => absurd hi (Nat.not_lt_zero i)⟩
    have F0 : mff (up (up I1 s 0 0) s 75 0) (up (up I1 s 0 0) s 75 0) s := mff.rf _ _
    have hL0 : nL (up (up I1 s 0 0) s 75 0) s (runA h l noOut ne).2 := hR1.2.fr ((up_nj (by decide)).trans (up_nj (by decide))) (fun y h1 h2 z => (up_no (by omega)).trans (up_no (by omega)))
    refine w_aln l_294_31 rfl ?_
    refine w_aln l_294_32 rfl ?_
    refine w_gr l_294_33 (oModel_sh hm) (oModel_r65 hm) ?_
    refine w_ic l_294_36 (by decide) ?_
    refine w_iln l_294_37 rfl ?_
    refine w_ic l_294_38 (by decide) ?_
    refine q_st [vr (s + 36), vi 5, vi ((k : Nat) : Int), vi 1] [vr s] l_294_39 (by decide) rfl rfl (Nat.le_of_ble_eq_true rfl) (by rw [mx_204]; exact Nat.le_of_ble_eq_true rfl) (by rw [rk_204]; decide) (r_part1 hm hL0 hk) ?_
    refine p_iv [vi ((((runA h l noOut ne).2.1.getD k dr0).2.1 : Nat) : Int)] [] l_294_42 rfl rfl (Nat.le_of_ble_eq_true rfl) (by rw [mx_290]; exact Nat.le_of_ble_eq_true rfl) (by rw [mt_290]; exact oModel_sh hm) (by rw [mt_290]; decide) (by rw [rk_290]; decide) (s_290 hm H0 (by omega) (by first | omega | (simp only [List.length_append, List.length_cons, List.length_nil]; omega))) (fun v I11 hv => ?_)
    obtain ⟨rfl, H1, g1⟩ := hv
    have F1 := F0.tr g1
    refine w_aln l_294_45 rfl ?_
    refine w_bp l_294_46 (by decide) ?_
    refine p_iv [vi 64] [] l_294_48 rfl rfl (Nat.le_of_ble_eq_true rfl) (by rw [mx_289]; exact Nat.le_of_ble_eq_true rfl) (by rw [mt_289]; exact oModel_sh hm) (by rw [mt_289]; decide) (by rw [rk_289]; decide) (r_put hm H1 (by first | omega | (simp only [List.length_append, List.length_cons, List.length_nil]; omega))) (fun v I12 hv => ?_)
    obtain ⟨rfl, H2, g2⟩ := hv
    have F2 := F1.tr g2
    refine w_aln l_294_51 rfl ?_
    refine w_aln l_294_52 rfl ?_
    refine w_gr l_294_53 (oModel_sh hm) (oModel_r65 hm) ?_
    refine w_ic l_294_56 (by decide) ?_
    refine w_iln l_294_57 rfl ?_
    refine w_ic l_294_58 (by decide) ?_
    refine q_st [vr (s + 36), vi 5, vi ((k : Nat) : Int), vi 0] [vr s] l_294_59 (by decide) rfl rfl (Nat.le_of_ble_eq_true rfl) (by rw [mx_204]; exact Nat.le_of_ble_eq_true rfl) (by rw [rk_204]; decide) (r_part0 hm (hL0.mff F2) hk) ?_
    refine p_iv [vi ((((runA h l noOut ne).2.1.getD k dr0).1 : Nat) : Int)] [] l_294_62 rfl rfl (Nat.le_of_ble_eq_true rfl) (by rw [mx_290]; exact Nat.le_of_ble_eq_true rfl) (by rw [mt_290]; exact oModel_sh hm) (by rw [mt_290]; decide) (by rw [rk_290]; decide) (s_290 hm H2 (by omega) (by first | omega | (simp only [List.length_append, List.length_cons, List.length_nil]; omega))) (fun v I13 hv => ?_)
    obtain ⟨rfl, H3, g3⟩ := hv
    have F3 := F2.tr g3
    refine w_aln l_294_65 rfl ?_
    refine w_bp l_294_66 (by decide) ?_
    refine p_iv [vi 32] [] l_294_68 rfl rfl (Nat.le_of_ble_eq_true rfl) (by rw [mx_289]; exact Nat.le_of_ble_eq_true rfl) (by rw [mt_289]; exact oModel_sh hm) (by rw [mt_289]; decide) (by rw [rk_289]; decide) (r_put hm H3 (by first | omega | (simp only [List.length_append, List.length_cons, List.length_nil]; omega))) (fun v I14 hv => ?_)
    obtain ⟨rfl, H4, g4⟩ := hv
    have F4 := F3.tr g4
    refine w_aln l_294_71 rfl ?_
    refine w_aln l_294_72 rfl ?_
    refine w_gr l_294_73 (oModel_sh hm) (oModel_r65 hm) ?_
    refine w_ic l_294_76 (by decide) ?_
    refine w_iln l_294_77 rfl ?_
    refine w_ic l_294_78 (by decide) ?_
    refine q_st [vr (s + 36), vi 5, vi ((k : Nat) : Int), vi 3] [vr s] l_294_79 (by decide) rfl rfl (Nat.le_of_ble_eq_true rfl) (by rw [mx_204]; exact Nat.le_of_ble_eq_true rfl) (by rw [rk_204]; decide) (r_part3 hm (hL0.mff F4) hk) ?_
    refine q_st [vi ((((runA h l noOut ne).2.1.getD k dr0).2.2.2.1 : Nat) : Int)] [vr s] l_294_82 (by decide) rfl rfl (Nat.le_of_ble_eq_true rfl) (by rw [mx_293]; exact Nat.le_of_ble_eq_true rfl) (by rw [rk_293]; decide) (s_293 hD.2.2.2.1) ?_
    refine p_iv [vs (2 * (rcS ((runA h l noOut ne).2.1.getD k dr0).2.2.2.1) + 4)] [] l_294_85 rfl rfl (Nat.le_of_ble_eq_true rfl) (by rw [mx_291]; exact Nat.le_of_ble_eq_true rfl) (by rw [mt_291]; exact oModel_sh hm) (by rw [mt_291]; decide) (by rw [rk_291]; decide) (by have g9 := s_291 (xs := xs) (T := T) (cc := cc) (zz := zz) hm H4 (w := rcS ((runA h l noOut ne).2.1.getD k dr0).2.2.2.1) hrc.1 (by first | omega | (simp only [List.length_append, List.length_cons, List.length_nil]; omega)); rw [hrc.2] at g9; exact g9) (fun v I15 hv => ?_)
    obtain ⟨rfl, H5, g5⟩ := hv
    have F5 := F4.tr g5
    refine w_aln l_294_88 rfl ?_
    refine w_gr l_294_89 (oModel_sh hm) (oModel_r65 hm) ?_
    refine w_ic l_294_92 (by decide) ?_
    refine w_iln l_294_93 rfl ?_
    refine w_ic l_294_94 (by decide) ?_
    refine q_st [vr (s + 36), vi 5, vi ((k : Nat) : Int), vi 4] [] l_294_95 (by decide) rfl rfl (Nat.le_of_ble_eq_true rfl) (by rw [mx_204]; exact Nat.le_of_ble_eq_true rfl) (by rw [rk_204]; decide) (by have g9 := r_part4 (xs := xs) (T := T) (cc := cc) (zz := zz) hm (hL0.mff F5) hk; rw [hdt] at g9; exact g9) ?_
    refine w_ic l_294_98 (by decide) ?_
    refine w_ceq 122 l_294_99 (by decide) (fun hx => absurd hx (by omega)) (fun _ => ?_)
    refine w_aln l_294_102 rfl ?_
    refine w_bp l_294_103 (by decide) ?_
    refine p_iv [vi 61] [] l_294_105 rfl rfl (Nat.le_of_ble_eq_true rfl) (by rw [mx_289]; exact Nat.le_of_ble_eq_true rfl) (by rw [mt_289]; exact oModel_sh hm) (by rw [mt_289]; decide) (by rw [rk_289]; decide) (r_put hm H5 (by first | omega | (simp only [List.length_append, List.length_cons, List.length_nil]; omega))) (fun v I16 hv => ?_)
    obtain ⟨rfl, H6, g6⟩ := hv
    have F6 := F5.tr g6
    refine w_aln l_294_108 rfl ?_
    refine w_aln l_294_109 rfl ?_
    refine w_gr l_294_110 (oModel_sh hm) (oModel_r65 hm) ?_
    refine w_ic l_294_113 (by decide) ?_
    refine w_iln l_294_114 rfl ?_
    refine w_ic l_294_115 (by decide) ?_
    refine q_st [vr (s + 36), vi 5, vi ((k : Nat) : Int), vi 4] [vr s] l_294_116 (by decide) rfl rfl (Nat.le_of_ble_eq_true rfl) (by rw [mx_204]; exact Nat.le_of_ble_eq_true rfl) (by rw [rk_204]; decide) (by have g9 := r_part4 (xs := xs) (T := T) (cc := cc) (zz := zz) hm (hL0.mff F6) hk; rw [hdt] at g9; exact g9) ?_
    refine p_iv [vi ((dt : Nat) : Int)] [] l_294_119 rfl rfl (Nat.le_of_ble_eq_true rfl) (by rw [mx_290]; exact Nat.le_of_ble_eq_true rfl) (by rw [mt_290]; exact oModel_sh hm) (by rw [mt_290]; decide) (by rw [rk_290]; decide) (s_290 hm H6 (by omega) (by first | omega | (simp only [List.length_append, List.length_cons, List.length_nil]; omega))) (fun v I17 hv => ?_)
    obtain ⟨rfl, H7, g7⟩ := hv
    have F7 := F6.tr g7
    refine w_aln l_294_122 rfl ?_
    refine w_gr l_294_123 (oModel_sh hm) (oModel_r65 hm) ?_
    refine w_ic l_294_126 (by decide) ?_
    refine w_iln l_294_127 rfl ?_
    refine w_ic l_294_128 (by decide) ?_
    refine q_st [vr (s + 36), vi 5, vi ((k : Nat) : Int), vi 2] [] l_294_129 (by decide) rfl rfl (Nat.le_of_ble_eq_true rfl) (by rw [mx_204]; exact Nat.le_of_ble_eq_true rfl) (by rw [rk_204]; decide) (by have g9 := r_part2 (xs := xs) (T := T) (cc := cc) (zz := zz) hm (hL0.mff F7) hk; rw [hpt] at g9; exact g9) ?_
    refine w_ic l_294_132 (by decide) ?_
    refine w_ceq 156 l_294_133 (by decide) (fun hx => absurd hx (by omega)) (fun _ => ?_)
    refine w_aln l_294_136 rfl ?_
    refine w_bp l_294_137 (by decide) ?_
    refine p_iv [vi 32] [] l_294_139 rfl rfl (Nat.le_of_ble_eq_true rfl) (by rw [mx_289]; exact Nat.le_of_ble_eq_true rfl) (by rw [mt_289]; exact oModel_sh hm) (by rw [mt_289]; decide) (by rw [rk_289]; decide) (r_put hm H7 (by first | omega | (simp only [List.length_append, List.length_cons, List.length_nil]; omega))) (fun v I18 hv => ?_)
    obtain ⟨rfl, H8, g8⟩ := hv
    have F8 := F7.tr g8
    refine w_aln l_294_142 rfl ?_
    refine w_aln l_294_143 rfl ?_
    refine w_gr l_294_144 (oModel_sh hm) (oModel_r65 hm) ?_
    refine w_ic l_294_147 (by decide) ?_
    refine w_iln l_294_148 rfl ?_
    refine w_ic l_294_149 (by decide) ?_
    refine q_st [vr (s + 36), vi 5, vi ((k : Nat) : Int), vi 2] [vr s] l_294_150 (by decide) rfl rfl (Nat.le_of_ble_eq_true rfl) (by rw [mx_204]; exact Nat.le_of_ble_eq_true rfl) (by rw [rk_204]; decide) (by have g9 := r_part2 (xs := xs) (T := T) (cc := cc) (zz := zz) hm (hL0.mff F8) hk; rw [hpt] at g9; exact g9) ?_
    refine p_iv [vi ((p : Nat) : Int)] [] l_294_153 rfl rfl (Nat.le_of_ble_eq_true rfl) (by rw [mx_292]; exact Nat.le_of_ble_eq_true rfl) (by rw [mt_292]; exact oModel_sh hm) (by rw [mt_292]; decide) (by rw [rk_292]; decide) (s_292 hm H8 (by omega) (NM p hp).1 ((hnm _ F8 p).trans (NM p hp).2) (by first | omega | (simp only [List.length_append, List.length_cons, List.length_nil]; omega))) (fun v I19 hv => ?_)
    obtain ⟨rfl, H9, g9⟩ := hv
    have F9 := F8.tr g9
    refine w_aln l_294_156 rfl ?_
    refine w_gi ((((((((((([] ++ numB ((runA h l noOut ne).2.1.getD k dr0).2.1) ++ [64]) ++ numB ((runA h l noOut ne).2.1.getD k dr0).1) ++ [32]) ++ strB (16 + ((runA h l noOut ne).2.1.getD k dr0).2.2.2.1)) ++ [61]) ++ numB dt) ++ [32]) ++ nameB (nm p)).length : Nat) : Int) l_294_157 (oModel_sh hm) H9.1 ?_
    refine w_ir l_294_160 (Or.inl rfl) ?_
    have e9 : dropB nm ((runA h l noOut ne).2.1.getD k dr0) = ((((((((([] ++ numB ((runA h l noOut ne).2.1.getD k dr0).2.1) ++ [64]) ++ numB ((runA h l noOut ne).2.1.getD k dr0).1) ++ [32]) ++ strB (16 + ((runA h l noOut ne).2.1.getD k dr0).2.2.2.1)) ++ [61]) ++ numB dt) ++ [32]) ++ nameB (nm p)) := by
      unfold dropB
      rw [hdt, hpt, if_neg (by omega), if_neg (by omega)]
      simp only [Int.toNat_natCast, List.append_assoc, List.nil_append, List.append_nil]
    rw [← e9] at H9
    refine ⟨_, _, rfl, rfl, by rw [e9], H9, (F9 s 0 (fun _ => by decide) (by omega)).trans ((up_nj (by decide)).trans up_eq), (fun y z h1 h2 => (F9 y z (fun e => (h1 e).2.1) (fun e => by have := h2 (by omega); omega)).trans ((up_out (by omega)).trans ((up_out (by omega)).trans (f1 y z (fun e => by have := (h1 e).2.2; omega) (fun e => by have := h2 e; omega)))))⟩

theorem s_294n (hm : oModel S T s) {ne np : Nat} {a : Nat → Nat} {cd : Nat → Cd} (B : MP I s h l a ne np cd) {k : Int} (hk : ¬ (0 ≤ k ∧ k < (((runA h l noOut ne).2.1.length : Nat) : Int))) : CL xs 294 [vr s, vi k] (S, I, T, cc, zz) (RP S T cc zz (fun v I' => v = some (vi 0) ∧ I' s 0 = 1 ∧ mfk I I' s)) := by
  refine CL_start (r := 11) (ls := [vr s, vi k]) (rk_294 _) rfl ?_
  refine w_aln l_294_0 rfl ?_
  refine w_aln l_294_1 rfl ?_
  refine w_iln l_294_2 rfl ?_
  refine p_iv [vi k] [vr s] l_294_3 rfl rfl (Nat.le_of_ble_eq_true rfl) (by rw [mx_252]; exact Nat.le_of_ble_eq_true rfl) (by rw [mt_252]; exact oModel_sh hm) (by rw [mt_252]; decide) (by rw [rk_252]; decide) (s_252 hm B) (fun v I1 hv => ?_)
  obtain ⟨rfl, hR1, f1⟩ := hv
  refine w_beq 13 l_294_6 (by decide) (fun _ => ?_) (fun hx => absurd hx (by rw [decide_eq_false (by omega)]; decide))
  refine w_ic l_294_13 (by decide) ?_
  refine w_pi l_294_14 (oModel_sh hm) ?_
  refine w_aln l_294_17 rfl ?_
  refine w_gi 1 l_294_18 (oModel_sh hm) up_eq ?_
  refine w_zle 26 l_294_21 (by decide) (fun hx => absurd hx (by decide)) (fun _ => ?_)
  refine w_ic l_294_24 (by decide) ?_
  refine w_ir l_294_25 (Or.inl rfl) ?_
  exact ⟨_, _, rfl, rfl, rfl, up_eq, f1.k.tr (mfk.u (Or.inl rfl))⟩

theorem mx_295 : mxl 295 = 4 := by decide +kernel
theorem mt_295 : mtc 295 = 10 := by decide +kernel
theorem rk_295 (as : List AV) : rkA 295 as = 11 := rfl
theorem l_295_0 : look 295 0 = some (.aload_n 0, 1, 0, 0, 0, 0) := by decide +kernel
theorem l_295_1 : look 295 1 = some (.iload_n 1, 1, 0, 0, 0, 0) := by decide +kernel
theorem l_295_2 : look 295 2 = some (.invokevirtual 462, 3, 242, 2, 0, 2036) := by decide +kernel
theorem l_295_5 : look 295 5 = some (.ifCond .ne 5, 3, 0, 0, 0, 0) := by decide +kernel
theorem l_295_8 : look 295 8 = some (.iconst 0, 1, 0, 0, 0, 0) := by decide +kernel
theorem l_295_9 : look 295 9 = some (.ireturn, 1, 0, 0, 0, 0) := by decide +kernel
theorem l_295_10 : look 295 10 = some (.aload_n 0, 1, 0, 0, 0, 0) := by decide +kernel
theorem l_295_11 : look 295 11 = some (.iconst 0, 1, 0, 0, 0, 0) := by decide +kernel
theorem l_295_12 : look 295 12 = some (.putfield 523, 3, 10, 75, 0, 1576) := by decide +kernel
theorem l_295_15 : look 295 15 = some (.aload_n 0, 1, 0, 0, 0, 0) := by decide +kernel
theorem l_295_16 : look 295 16 = some (.iload_n 1, 1, 0, 0, 0, 0) := by decide +kernel
theorem l_295_17 : look 295 17 = some (.invokevirtual 560, 3, 292, 2, 0, 2256) := by decide +kernel
theorem l_295_20 : look 295 20 = some (.iconst 0, 1, 0, 0, 0, 0) := by decide +kernel
theorem l_295_21 : look 295 21 = some (.istore_n 2, 1, 0, 0, 0, 0) := by decide +kernel
theorem l_295_22 : look 295 22 = some (.iload_n 2, 1, 0, 0, 0, 0) := by decide +kernel
theorem l_295_23 : look 295 23 = some (.aload_n 0, 1, 0, 0, 0, 0) := by decide +kernel
theorem l_295_24 : look 295 24 = some (.getfield 122, 3, 10, 59, 2, 1560) := by decide +kernel
theorem l_295_27 : look 295 27 = some (.iload_n 1, 1, 0, 0, 0, 0) := by decide +kernel
theorem l_295_28 : look 295 28 = some (.iaload, 1, 0, 0, 0, 0) := by decide +kernel
theorem l_295_29 : look 295 29 = some (.if_icmp .ge 50, 3, 0, 0, 0, 0) := by decide +kernel
theorem l_295_32 : look 295 32 = some (.aload_n 0, 1, 0, 0, 0, 0) := by decide +kernel
theorem l_295_33 : look 295 33 = some (.getfield 116, 3, 10, 57, 2, 1558) := by decide +kernel
theorem l_295_36 : look 295 36 = some (.bipush 100, 2, 0, 0, 0, 0) := by decide +kernel
theorem l_295_38 : look 295 38 = some (.iload_n 1, 1, 0, 0, 0, 0) := by decide +kernel
theorem l_295_39 : look 295 39 = some (.imul, 1, 0, 0, 0, 0) := by decide +kernel
theorem l_295_40 : look 295 40 = some (.iload_n 2, 1, 0, 0, 0, 0) := by decide +kernel
theorem l_295_41 : look 295 41 = some (.iadd, 1, 0, 0, 0, 0) := by decide +kernel
theorem l_295_42 : look 295 42 = some (.iaload, 1, 0, 0, 0, 0) := by decide +kernel
theorem l_295_43 : look 295 43 = some (.istore_n 3, 1, 0, 0, 0, 0) := by decide +kernel
theorem l_295_44 : look 295 44 = some (.aload_n 0, 1, 0, 0, 0, 0) := by decide +kernel
theorem l_295_45 : look 295 45 = some (.bipush 32, 2, 0, 0, 0, 0) := by decide +kernel
theorem l_295_47 : look 295 47 = some (.invokevirtual 526, 3, 289, 2, 0, 2236) := by decide +kernel
theorem l_295_50 : look 295 50 = some (.aload_n 0, 1, 0, 0, 0, 0) := by decide +kernel
theorem l_295_51 : look 295 51 = some (.iload_n 3, 1, 0, 0, 0, 0) := by decide +kernel
theorem l_295_52 : look 295 52 = some (.invokevirtual 549, 3, 290, 2, 0, 2232) := by decide +kernel
theorem l_295_55 : look 295 55 = some (.aload_n 0, 1, 0, 0, 0, 0) := by decide +kernel
theorem l_295_56 : look 295 56 = some (.bipush 46, 2, 0, 0, 0, 0) := by decide +kernel
theorem l_295_58 : look 295 58 = some (.invokevirtual 526, 3, 289, 2, 0, 2236) := by decide +kernel
theorem l_295_61 : look 295 61 = some (.aload_n 0, 1, 0, 0, 0, 0) := by decide +kernel
theorem l_295_62 : look 295 62 = some (.bipush 48, 2, 0, 0, 0, 0) := by decide +kernel
theorem l_295_64 : look 295 64 = some (.aload_n 0, 1, 0, 0, 0, 0) := by decide +kernel
theorem l_295_65 : look 295 65 = some (.iload_n 3, 1, 0, 0, 0, 0) := by decide +kernel
theorem l_295_66 : look 295 66 = some (.invokevirtual 428, 3, 208, 2, 0, 1960) := by decide +kernel
theorem l_295_69 : look 295 69 = some (.iadd, 1, 0, 0, 0, 0) := by decide +kernel
theorem l_295_70 : look 295 70 = some (.invokevirtual 526, 3, 289, 2, 0, 2236) := by decide +kernel
theorem l_295_73 : look 295 73 = some (.iinc 2 1, 3, 0, 0, 0, 0) := by decide +kernel
theorem l_295_76 : look 295 76 = some (.goto (-54), 3, 0, 0, 0, 0) := by decide +kernel
theorem l_295_79 : look 295 79 = some (.aload_n 0, 1, 0, 0, 0, 0) := by decide +kernel
theorem l_295_80 : look 295 80 = some (.getfield 523, 3, 10, 75, 0, 1576) := by decide +kernel
theorem l_295_83 : look 295 83 = some (.ireturn, 1, 0, 0, 0, 0) := by decide +kernel

theorem lp_295 (hm : oModel S T s) {ne np : Nat} {a : Nat → Nat} (ok : okHi h) {nm : Nat → List Nat} {p : Nat} (hp : p < 4) (hn6 : (nm p).length ≤ 6) (hq : mQ I s p (sQ (runA h l noOut ne).1 p)) (hH : ∀ J, mff I J s → mH J s h a ne np) (hcq : ∀ k, k < (sQ (runA h l noOut ne).1 p).length → ((sQ (runA h l noOut ne).1 p).getD k (0, 0)).1 < np) (hnp : np ≤ 120) : ∀ d k J (v3 : AV), k + d = (sQ (runA h l noOut ne).1 p).length → mlS J s (queB h (nm p) ((sQ (runA h l noOut ne).1 p).take k)) → mff I J s → WP xs 295 11 22 [vr s, vi ((p : Nat) : Int), vi ((k : Nat) : Int), v3] [] (S, J, T, cc, zz) (RP S T cc zz (fun v I' => v = some (vi (((queB h (nm p) (sQ (runA h l noOut ne).1 p)).length : Nat) : Int)) ∧ mlS I' s (queB h (nm p) (sQ (runA h l noOut ne).1 p)) ∧ mff I I' s)) := by
  intro d
  have h99 := hq.2.1
  induction d with
  | zero =>
    intro k J v3 hk0 H0 F0
    refine w_iln l_295_22 rfl ?_
    refine w_aln l_295_23 rfl ?_
    refine w_gr l_295_24 (oModel_sh hm) (oModel_r59 hm) ?_
    refine w_iln l_295_27 rfl ?_
    refine w_ia p (((sQ (runA h l noOut ne).1 p).length : Nat) : Int) l_295_28 (oModel_s59 hm) rfl (by omega) ((F0 _ _ (by omega) (by omega)).trans hq.1) ?_
    refine w_cge 79 l_295_29 (by decide) (fun _ => ?_) (fun hx => absurd hx (by omega))
    refine w_aln l_295_79 rfl ?_
    refine w_gi (((queB h (nm p) ((sQ (runA h l noOut ne).1 p).take k)).length : Nat) : Int) l_295_80 (oModel_sh hm) H0.1 ?_
    refine w_ir l_295_83 (Or.inl rfl) ?_
    rw [List.take_of_length_le (show (sQ (runA h l noOut ne).1 p).length ≤ k by omega)] at H0 ⊢
    exact ⟨_, _, rfl, rfl, rfl, H0, F0⟩
  | succ d ih =>
    intro k J v3 hk0 H0 F0
    have hk : k < (sQ (runA h l noOut ne).1 p).length := by omega
    have hcp := hcq k hk
    have b0 := queB_len (h := h) (n := nm p) ok k (sQ (runA h l noOut ne).1 p) (by omega)
    have b1 := numB_len ((sQ (runA h l noOut ne).1 p).getD k (0, 0)).1
    have b2 := (ok ((sQ (runA h l noOut ne).1 p).getD k (0, 0)).1).2.2.1
    have b4 : (queB h (nm p) ((sQ (runA h l noOut ne).1 p).take (k + 1))).length ≤ 600 := by
      have := queB_len (h := h) (n := nm p) ok (k + 1) (sQ (runA h l noOut ne).1 p) (by omega)
      omega
    have b5 := queB_s (h := h) (n := nm p) hk
    rw [b5, numB_1 (show hRnk h ((sQ (runA h l noOut ne).1 p).getD k (0, 0)).1 < 10 by omega)] at b4
    simp only [List.length_append, List.length_cons, List.length_nil] at b4
    refine w_iln l_295_22 rfl ?_
    refine w_aln l_295_23 rfl ?_
    refine w_gr l_295_24 (oModel_sh hm) (oModel_r59 hm) ?_
    refine w_iln l_295_27 rfl ?_
    refine w_ia p (((sQ (runA h l noOut ne).1 p).length : Nat) : Int) l_295_28 (oModel_s59 hm) rfl (by omega) ((F0 _ _ (by omega) (by omega)).trans hq.1) ?_
    refine w_cge 79 l_295_29 (by decide) (fun hx => absurd hx (by omega)) (fun _ => ?_)
    refine w_aln l_295_32 rfl ?_
    refine w_gr l_295_33 (oModel_sh hm) (oModel_r57 hm) ?_
    refine w_bp l_295_36 (by decide) ?_
    refine w_iln l_295_38 rfl ?_
    refine w_mul ((100 * p : Nat) : Int) l_295_39 (by unfold wr; omega) ?_
    refine w_iln l_295_40 rfl ?_
    refine w_add ((100 * p + k : Nat) : Int) l_295_41 (by unfold wr; omega) ?_
    refine w_ia (100 * p + k) ((((sQ (runA h l noOut ne).1 p).getD k (0, 0)).1 : Nat) : Int) l_295_42 (oModel_s57 hm) rfl (by omega) ((F0 _ _ (by omega) (by omega)).trans (hq.2.2 k hk).1) ?_
    refine w_isn l_295_43 ⟨Nat.le_of_ble_eq_true rfl, rfl⟩ ?_
    refine w_aln l_295_44 rfl ?_
    refine w_bp l_295_45 (by decide) ?_
    refine p_iv [vi 32] [] l_295_47 rfl rfl (Nat.le_of_ble_eq_true rfl) (by rw [mx_289]; exact Nat.le_of_ble_eq_true rfl) (by rw [mt_289]; exact oModel_sh hm) (by rw [mt_289]; decide) (by rw [rk_289]; decide) (r_put hm H0 (by omega)) (fun v I11 hv => ?_)
    obtain ⟨rfl, H1, g1⟩ := hv
    have F1 := F0.tr g1
    refine w_aln l_295_50 rfl ?_
    refine w_iln l_295_51 rfl ?_
    refine p_iv [vi ((((sQ (runA h l noOut ne).1 p).getD k (0, 0)).1 : Nat) : Int)] [] l_295_52 rfl rfl (Nat.le_of_ble_eq_true rfl) (by rw [mx_290]; exact Nat.le_of_ble_eq_true rfl) (by rw [mt_290]; exact oModel_sh hm) (by rw [mt_290]; decide) (by rw [rk_290]; decide) (s_290 hm H1 (by omega) (by first | omega | (simp only [List.length_append, List.length_cons, List.length_nil]; omega))) (fun v I12 hv => ?_)
    obtain ⟨rfl, H2, g2⟩ := hv
    have F2 := F1.tr g2
    refine w_aln l_295_55 rfl ?_
    refine w_bp l_295_56 (by decide) ?_
    refine p_iv [vi 46] [] l_295_58 rfl rfl (Nat.le_of_ble_eq_true rfl) (by rw [mx_289]; exact Nat.le_of_ble_eq_true rfl) (by rw [mt_289]; exact oModel_sh hm) (by rw [mt_289]; decide) (by rw [rk_289]; decide) (r_put hm H2 (by first | omega | (simp only [List.length_append, List.length_cons, List.length_nil]; omega))) (fun v I13 hv => ?_)
    obtain ⟨rfl, H3, g3⟩ := hv
    have F3 := F2.tr g3
    refine w_aln l_295_61 rfl ?_
    refine w_bp l_295_62 (by decide) ?_
    refine w_aln l_295_64 rfl ?_
    refine w_iln l_295_65 rfl ?_
    refine q_iv [vi ((((sQ (runA h l noOut ne).1 p).getD k (0, 0)).1 : Nat) : Int)] [vi 48, vr s] l_295_66 rfl rfl (Nat.le_of_ble_eq_true rfl) (by rw [mx_208]; exact Nat.le_of_ble_eq_true rfl) (by rw [mt_208]; exact oModel_sh hm) (by rw [mt_208]; decide) (by rw [rk_208]; decide) (s_208 hm (hH _ F3) hcp) ?_
    refine w_add (((48 + hRnk h ((sQ (runA h l noOut ne).1 p).getD k (0, 0)).1) : Nat) : Int) l_295_69 (by unfold wr; omega) ?_
    refine p_iv [vi (((48 + hRnk h ((sQ (runA h l noOut ne).1 p).getD k (0, 0)).1) : Nat) : Int)] [] l_295_70 rfl rfl (Nat.le_of_ble_eq_true rfl) (by rw [mx_289]; exact Nat.le_of_ble_eq_true rfl) (by rw [mt_289]; exact oModel_sh hm) (by rw [mt_289]; decide) (by rw [rk_289]; decide) (r_put hm H3 (by first | omega | (simp only [List.length_append, List.length_cons, List.length_nil]; omega))) (fun v I14 hv => ?_)
    obtain ⟨rfl, H4, g4⟩ := hv
    have F4 := F3.tr g4
    refine w_inc ((k + 1 : Nat) : Int) l_295_73 rfl rfl (by unfold wr; omega) ?_
    refine w_go 22 l_295_76 (by decide) ?_
    rw [← numB_1 (show hRnk h ((sQ (runA h l noOut ne).1 p).getD k (0, 0)).1 < 10 by omega), ← queB_s hk] at H4
    exact ih (k + 1) I14 _ (by omega) H4 F4
theorem mH.eqf {I J : Ix} {s : Nat} {h : Hi} {a : Nat → Nat} {ne np : Nat} (H : mH I s h a ne np) (e : ∀ j z, j = 10 ∨ j = 11 → J (s + j) z = I (s + j) z) : mH J s h a ne np := by
  unfold mH at H ⊢
  simp only [fun z => e 10 z (Or.inl rfl), fun z => e 11 z (Or.inr rfl)]
  exact H
theorem s_295 (hm : oModel S T s) {ne np : Nat} {a : Nat → Nat} {cd : Nat → Cd} (B : MP I s h l a ne np cd) {nm : Nat → List Nat} (NM : mNm I s l nm) {p : Nat} (hp : p < lPorts l) : CL xs 295 [vr s, vi ((p : Nat) : Int)] (S, I, T, cc, zz) (RP S T cc zz (fun v I' => v = some (vi (((queB h (nm p) (sQ (runA h l noOut ne).1 p)).length : Nat) : Int)) ∧ mlS I' s (queB h (nm p) (sQ (runA h l noOut ne).1 p)) ∧ I' s 0 = 0 ∧ mfF I I' s)) := by
  refine CL_start (r := 11) (ls := [vr s, vi ((p : Nat) : Int), vs 2, vs 2]) (rk_295 _) rfl ?_
  have hl4 := B.2.2.2.2.1.1
  have hok := (B.run noOut (Nat.le_refl ne)).1
  refine w_aln l_295_0 rfl ?_
  refine w_iln l_295_1 rfl ?_
  refine p_iv [vi ((p : Nat) : Int)] [] l_295_2 rfl rfl (Nat.le_of_ble_eq_true rfl) (by rw [mx_242]; exact Nat.le_of_ble_eq_true rfl) (by rw [mt_242]; exact oModel_sh hm) (by rw [mt_242]; decide) (by rw [rk_242]; decide) (s_242 hm B (p := ((p : Nat) : Int)) (by omega)) (fun v I1 hv => ?_)
  obtain ⟨rfl, h0, hR1, f1⟩ := hv
  refine w_zne 10 l_295_5 (by decide) (fun _ => ?_) (fun hx => absurd hx (by decide))
  refine w_aln l_295_10 rfl ?_
  refine w_ic l_295_11 (by decide) ?_
  refine w_pi l_295_12 (oModel_sh hm) ?_
  have H0 : mlS (up I1 s 75 0) s [] := ⟨up_eq, Nat.zero_le _, fun i hi => absurd hi (Nat.not_lt_zero i)⟩
  have F0 : mff (up I1 s 75 0) (up I1 s 75 0) s := mff.rf _ _
  have hn6 := (NM p hp).1.1
  refine w_aln l_295_15 rfl ?_
  refine w_iln l_295_16 rfl ?_
  refine p_iv [vi ((p : Nat) : Int)] [] l_295_17 rfl rfl (Nat.le_of_ble_eq_true rfl) (by rw [mx_292]; exact Nat.le_of_ble_eq_true rfl) (by rw [mt_292]; exact oModel_sh hm) (by rw [mt_292]; decide) (by rw [rk_292]; decide) (s_292 hm H0 (by omega) (NM p hp).1 ((up_no (by omega)).trans ((f1 _ _ (by omega) (by omega)).trans (NM p hp).2)) (by first | omega | (simp only [List.length_append, List.length_cons, List.length_nil]; omega))) (fun v I11 hv => ?_)
  obtain ⟨rfl, H1, g1⟩ := hv
  have F1 := F0.tr g1
  refine w_ic l_295_20 (by decide) ?_
  refine w_isn l_295_21 ⟨Nat.le_of_ble_eq_true rfl, rfl⟩ ?_
  have fk : mfk I1 I1 s := fun _ _ _ _ => rfl
  have fE : ∀ J, mff I11 J s → ∀ y z, (y = s → z ≠ 75) → y ≠ s + 39 → J y z = I1 y z := fun J f y z h1 h2 => (f y z h1 h2).trans ((F1 y z h1 h2).trans (up_out (by omega)))
  have hq9 : mQ I11 s p (sQ (runA h l noOut ne).1 p) := (hR1.1.2.2.1 p (by omega)).fr fun y h1 h2 z => fE I11 (mff.rf _ _) y z (fun e => by omega) (by omega)
  refine WP_mono (lp_295 (I := I11) (a := a) (nm := nm) (p := p) (h := h) hm B.2.2.2.1 (by omega) hn6 hq9 (fun J f => ?_) (fun k hk => ok_hq hok k hk) (by have := B.1.1; have := B.1.2.1; omega) _ 0 I11 _ (Nat.zero_add _) ?_ (mff.rf _ _)) ?_
  · have g9 := (B.k f1).1
    exact g9.eqf (fun j z hj => fE J f _ z (fun e => by omega) (by omega))
  · rw [List.take_zero, show queB h (nm p) [] = [] ++ nameB (nm p) by unfold queB; simp]
    exact H1
  · rintro _ _ ⟨v, I9, rfl, rfl, rfl, H9, F9⟩
    refine ⟨_, _, rfl, rfl, rfl, H9, (fE I9 F9 s 0 (fun _ => by decide) (by omega)).trans h0, fun y z h1 h2 => (fE I9 F9 y z (fun e => (h1 e).2.1) (fun e => by have := h2 (by omega); omega)).trans (f1 y z (fun e => ⟨(h1 e).1, (h1 e).2.2⟩) (fun e => by have := h2 e; omega))⟩

theorem s_295n (hm : oModel S T s) {ne np : Nat} {a : Nat → Nat} {cd : Nat → Cd} (B : MP I s h l a ne np cd) {p : Int} (hp : ¬ (0 ≤ p ∧ p ≤ ((lPorts l : Nat) : Int) - 1)) : CL xs 295 [vr s, vi p] (S, I, T, cc, zz) (RP S T cc zz (fun v I' => v = some (vi 0) ∧ I' s 0 = 1 ∧ mfk I I' s)) := by
  refine CL_start (r := 11) (ls := [vr s, vi p, vs 2, vs 2]) (rk_295 _) rfl ?_
  refine w_aln l_295_0 rfl ?_
  refine w_iln l_295_1 rfl ?_
  refine p_iv [vi p] [] l_295_2 rfl rfl (Nat.le_of_ble_eq_true rfl) (by rw [mx_242]; exact Nat.le_of_ble_eq_true rfl) (by rw [mt_242]; exact oModel_sh hm) (by rw [mt_242]; decide) (by rw [rk_242]; decide) (s_242n hm B hp) (fun v I1 hv => ?_)
  obtain ⟨rfl, h0, f1⟩ := hv
  refine w_zne 10 l_295_5 (by decide) (fun hx => absurd hx (by decide)) (fun _ => ?_)
  refine w_ic l_295_8 (by decide) ?_
  refine w_ir l_295_9 (Or.inl rfl) ?_
  exact ⟨_, _, rfl, rfl, rfl, h0, f1⟩

theorem mx_296 : mxl 296 = 2 := by decide +kernel
theorem mt_296 : mtc 296 = 10 := by decide +kernel
theorem rk_296 (as : List AV) : rkA 296 as = 1 := rfl
theorem l_296_0 : look 296 0 = some (.aload_n 0, 1, 0, 0, 0, 0) := by decide +kernel
theorem l_296_1 : look 296 1 = some (.iconst 0, 1, 0, 0, 0, 0) := by decide +kernel
theorem l_296_2 : look 296 2 = some (.putfield 152, 3, 10, 0, 0, 1501) := by decide +kernel
theorem l_296_5 : look 296 5 = some (.iload_n 1, 1, 0, 0, 0, 0) := by decide +kernel
theorem l_296_6 : look 296 6 = some (.iconst 0, 1, 0, 0, 0, 0) := by decide +kernel
theorem l_296_7 : look 296 7 = some (.aload_n 0, 1, 0, 0, 0, 0) := by decide +kernel
theorem l_296_8 : look 296 8 = some (.getfield 523, 3, 10, 75, 0, 1576) := by decide +kernel
theorem l_296_11 : look 296 11 = some (.iconst 1, 1, 0, 0, 0, 0) := by decide +kernel
theorem l_296_12 : look 296 12 = some (.isub, 1, 0, 0, 0, 0) := by decide +kernel
theorem l_296_13 : look 296 13 = some (.invokestatic 175, 3, 169, 3, 1, 1775) := by decide +kernel
theorem l_296_16 : look 296 16 = some (.ifCond .eq 12, 3, 0, 0, 0, 0) := by decide +kernel
theorem l_296_19 : look 296 19 = some (.aload_n 0, 1, 0, 0, 0, 0) := by decide +kernel
theorem l_296_20 : look 296 20 = some (.getfield 149, 3, 10, 74, 2, 1575) := by decide +kernel
theorem l_296_23 : look 296 23 = some (.iload_n 1, 1, 0, 0, 0, 0) := by decide +kernel
theorem l_296_24 : look 296 24 = some (.iaload, 1, 0, 0, 0, 0) := by decide +kernel
theorem l_296_25 : look 296 25 = some (.goto 4, 3, 0, 0, 0, 0) := by decide +kernel
theorem l_296_28 : look 296 28 = some (.iconst (-1), 1, 0, 0, 0, 0) := by decide +kernel
theorem l_296_29 : look 296 29 = some (.ireturn, 1, 0, 0, 0, 0) := by decide +kernel

theorem s_296 (hm : oModel S T s) (H : mlS I s L) {k : Nat} (hk : k < L.length) : CL xs 296 [vr s, vi ((k : Nat) : Int)] (S, I, T, cc, zz) (FN (some (vi ((L.getD k 0 : Nat) : Int))) (S, up I s 0 0, T, cc, zz)) := by
  have hl6 := H.2.1
  refine CL_start (r := 1) (ls := [vr s, vi ((k : Nat) : Int)]) (rk_296 _) rfl ?_
  refine w_aln l_296_0 rfl ?_
  refine w_ic l_296_1 (by decide) ?_
  refine w_pi l_296_2 (oModel_sh hm) ?_
  refine w_iln l_296_5 rfl ?_
  refine w_ic l_296_6 (by decide) ?_
  refine w_aln l_296_7 rfl ?_
  refine w_gi ((L.length : Nat) : Int) l_296_8 (oModel_sh hm) ((up_nj (by omega)).trans (H.1)) ?_
  refine w_ic l_296_11 (by decide) ?_
  refine w_sub (((L.length : Nat) : Int) - 1) l_296_12 (by unfold wr; omega) ?_
  refine q_st [vi ((k : Nat) : Int), vi 0, vi (((L.length : Nat) : Int) - 1)] [] l_296_13 (by decide) rfl rfl (Nat.le_of_ble_eq_true rfl) (by rw [mx_169]; exact Nat.le_of_ble_eq_true rfl) (by rw [rk_169]; decide) (s_169) ?_
  refine w_beq 28 l_296_16 (by decide) (fun hx => absurd hx (by rw [decide_eq_true (by omega)]; decide)) (fun _ => ?_)
  refine w_aln l_296_19 rfl ?_
  refine w_gr l_296_20 (oModel_sh hm) (oModel_r74 hm) ?_
  refine w_iln l_296_23 rfl ?_
  refine w_ia k (((L.getD k 0) : Nat) : Int) l_296_24 (oModel_s74 hm) rfl (by omega) ((up_no (by omega)).trans ((H.2.2 k hk))) ?_
  refine w_go 29 l_296_25 (by decide) ?_
  refine w_ir l_296_29 (Or.inl rfl) ?_
  exact ⟨rfl, rfl⟩

theorem s_296n (hm : oModel S T s) (H : mlS I s L) {k : Int} (hk : ¬ (0 ≤ k ∧ k < ((L.length : Nat) : Int))) : CL xs 296 [vr s, vi k] (S, I, T, cc, zz) (FN (some (vi (-1))) (S, up I s 0 0, T, cc, zz)) := by
  have hl6 := H.2.1
  refine CL_start (r := 1) (ls := [vr s, vi k]) (rk_296 _) rfl ?_
  refine w_aln l_296_0 rfl ?_
  refine w_ic l_296_1 (by decide) ?_
  refine w_pi l_296_2 (oModel_sh hm) ?_
  refine w_iln l_296_5 rfl ?_
  refine w_ic l_296_6 (by decide) ?_
  refine w_aln l_296_7 rfl ?_
  refine w_gi ((L.length : Nat) : Int) l_296_8 (oModel_sh hm) ((up_nj (by omega)).trans (H.1)) ?_
  refine w_ic l_296_11 (by decide) ?_
  refine w_sub (((L.length : Nat) : Int) - 1) l_296_12 (by unfold wr; omega) ?_
  refine q_st [vi k, vi 0, vi (((L.length : Nat) : Int) - 1)] [] l_296_13 (by decide) rfl rfl (Nat.le_of_ble_eq_true rfl) (by rw [mx_169]; exact Nat.le_of_ble_eq_true rfl) (by rw [rk_169]; decide) (s_169) ?_
  refine w_beq 28 l_296_16 (by decide) (fun _ => ?_) (fun hx => absurd hx (by rw [decide_eq_false (by omega)]; decide))
  refine w_ic l_296_28 (by decide) ?_
  refine w_ir l_296_29 (Or.inl rfl) ?_
  exact ⟨rfl, rfl⟩

end RFN
