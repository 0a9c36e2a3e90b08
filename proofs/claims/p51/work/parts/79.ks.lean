/-! the class: answers, 3 -/
/-- the event of the latest checkpoint -/
def ltC (e ne : Nat) : Nat := if ne = 0 then 0 else min e (ne - 1) - min e (ne - 1) % 16
theorem ltC_le {e ne : Nat} : ltC e ne ≤ e := by
  unfold ltC
  split
  · exact Nat.zero_le _
  · have := Nat.min_le_left e (ne - 1)
    omega
theorem rep_ltC {e ne : Nat} (he : e ≤ ne) : e - ltC e ne = repA e ne := by
  unfold ltC repA
  by_cases h0 : ne = 0
  · rw [if_pos h0, if_pos (by omega)]; omega
  · rw [if_neg h0]
    by_cases h1 : e = 0
    · rw [if_pos h1]; omega
    · rw [if_neg h1]
      by_cases h2 : e = ne
      · rw [if_pos h2, Nat.min_eq_right (by omega)]; omega
      · rw [if_neg h2, Nat.min_eq_left (by omega)]; omega
section KQU
variable {xs : List Int} {S : List (Nat × Nat)} {T : Nat → Nat → Nat} {cc zz s q y : Nat} {h : Hi} {l : Li} {I I' : Ix}

theorem mx_104 : mxl 104 = 2 := by decide +kernel
theorem mt_104 : mtc 104 = 9 := by decide +kernel
theorem rk_104 (as : List AV) : rkA 104 as = 0 := rfl
theorem l_104_0 : look 104 0 = some (.iload_n 1, 1, 0, 0, 0, 0) := by decide +kernel
theorem l_104_1 : look 104 1 = some (.tableswitch 96 0 5 #[39, 50, 58, 66, 74, 85], 39, 0, 0, 0, 0) := by decide +kernel
theorem l_104_40 : look 104 40 = some (.aload_n 0, 1, 0, 0, 0, 0) := by decide +kernel
theorem l_104_41 : look 104 41 = some (.getfield 35, 3, 9, 5, 2, 729) := by decide +kernel
theorem l_104_44 : look 104 44 = some (.getfield 113, 3, 6, 0, 2, 439) := by decide +kernel
theorem l_104_47 : look 104 47 = some (.getfield 117, 3, 1, 0, 0, 377) := by decide +kernel
theorem l_104_50 : look 104 50 = some (.ireturn, 1, 0, 0, 0, 0) := by decide +kernel
theorem l_104_51 : look 104 51 = some (.aload_n 0, 1, 0, 0, 0, 0) := by decide +kernel
theorem l_104_52 : look 104 52 = some (.getfield 35, 3, 9, 5, 2, 729) := by decide +kernel
theorem l_104_55 : look 104 55 = some (.getfield 122, 3, 6, 2, 0, 443) := by decide +kernel
theorem l_104_58 : look 104 58 = some (.ireturn, 1, 0, 0, 0, 0) := by decide +kernel
theorem l_104_59 : look 104 59 = some (.aload_n 0, 1, 0, 0, 0, 0) := by decide +kernel
theorem l_104_60 : look 104 60 = some (.getfield 42, 3, 9, 6, 2, 730) := by decide +kernel
theorem l_104_63 : look 104 63 = some (.getfield 125, 3, 0, 0, 0, 507) := by decide +kernel
theorem l_104_66 : look 104 66 = some (.ireturn, 1, 0, 0, 0, 0) := by decide +kernel
theorem l_104_67 : look 104 67 = some (.aload_n 0, 1, 0, 0, 0, 0) := by decide +kernel
theorem l_104_68 : look 104 68 = some (.getfield 42, 3, 9, 6, 2, 730) := by decide +kernel
theorem l_104_71 : look 104 71 = some (.getfield 128, 3, 0, 1, 0, 509) := by decide +kernel
theorem l_104_74 : look 104 74 = some (.ireturn, 1, 0, 0, 0, 0) := by decide +kernel
theorem l_104_75 : look 104 75 = some (.aload_n 0, 1, 0, 0, 0, 0) := by decide +kernel
theorem l_104_76 : look 104 76 = some (.getfield 57, 3, 9, 8, 2, 732) := by decide +kernel
theorem l_104_79 : look 104 79 = some (.getfield 131, 3, 5, 2, 2, 639) := by decide +kernel
theorem l_104_82 : look 104 82 = some (.getfield 135, 3, 3, 0, 0, 614) := by decide +kernel
theorem l_104_85 : look 104 85 = some (.ireturn, 1, 0, 0, 0, 0) := by decide +kernel
theorem l_104_86 : look 104 86 = some (.aload_n 0, 1, 0, 0, 0, 0) := by decide +kernel
theorem l_104_87 : look 104 87 = some (.getfield 57, 3, 9, 8, 2, 732) := by decide +kernel
theorem l_104_90 : look 104 90 = some (.getfield 140, 3, 5, 1, 2, 637) := by decide +kernel
theorem l_104_93 : look 104 93 = some (.getfield 144, 3, 7, 0, 0, 572) := by decide +kernel
theorem l_104_96 : look 104 96 = some (.ireturn, 1, 0, 0, 0, 0) := by decide +kernel
theorem l_104_97 : look 104 97 = some (.new 147, 3, 3, 0, 1, 77) := by decide +kernel
theorem l_104_100 : look 104 100 = some (.dup, 1, 0, 0, 0, 0) := by decide +kernel
theorem l_104_101 : look 104 101 = some (.invokespecial 149, 3, 0, 1, 99, 121) := by decide +kernel
theorem l_104_104 : look 104 104 = some (.athrow, 1, 0, 0, 0, 0) := by decide +kernel
theorem s_104_0 (o : oDropSwitch S T s q y) {ne np : Nat} {a : Nat → Nat} (K : KQ I s q h l a ne np) : CL xs 104 [vr s, vi 0] (S, I, T, cc, zz) (FN (some (vi (((lPorts l) : Nat) : Int))) (S, I, T, cc, zz)) := by
  refine CL_start (r := 0) (ls := [vr s, vi 0]) (rk_104 _) rfl ?_
  refine w_iln l_104_0 rfl ?_
  refine w_swi 40 l_104_1 (by decide) rfl (by decide) ?_
  refine w_aln l_104_40 rfl ?_
  refine w_gr l_104_41 (oDropSwitch_sh o) (oDropSwitch_r5 o) ?_
  refine w_gr l_104_44 (oSetup_sh (oDropSwitch_o5 o)) (oSetup_r0 (oDropSwitch_o5 o)) ?_
  refine w_gi (((lPorts l) : Nat) : Int) l_104_47 (oLimits_sh (oSetup_o0 (oDropSwitch_o5 o))) K.1.1 ?_
  refine w_ir l_104_50 (Or.inl rfl) ?_
  exact ⟨rfl, rfl⟩

theorem s_104_1 (o : oDropSwitch S T s q y) {ne np : Nat} {a : Nat → Nat} (K : KQ I s q h l a ne np) : CL xs 104 [vr s, vi 1] (S, I, T, cc, zz) (FN (some (vi (((lRules l) : Nat) : Int))) (S, I, T, cc, zz)) := by
  refine CL_start (r := 0) (ls := [vr s, vi 1]) (rk_104 _) rfl ?_
  refine w_iln l_104_0 rfl ?_
  refine w_swi 51 l_104_1 (by decide) rfl (by decide) ?_
  refine w_aln l_104_51 rfl ?_
  refine w_gr l_104_52 (oDropSwitch_sh o) (oDropSwitch_r5 o) ?_
  refine w_gi (((lRules l) : Nat) : Int) l_104_55 (oSetup_sh (oDropSwitch_o5 o)) K.2.1 ?_
  refine w_ir l_104_58 (Or.inl rfl) ?_
  exact ⟨rfl, rfl⟩

theorem s_104_2 (o : oDropSwitch S T s q y) {ne np : Nat} {a : Nat → Nat} (K : KQ I s q h l a ne np) : CL xs 104 [vr s, vi 2] (S, I, T, cc, zz) (FN (some (vi ((ne : Nat) : Int))) (S, I, T, cc, zz)) := by
  refine CL_start (r := 0) (ls := [vr s, vi 2]) (rk_104 _) rfl ?_
  refine w_iln l_104_0 rfl ?_
  refine w_swi 59 l_104_1 (by decide) rfl (by decide) ?_
  refine w_aln l_104_59 rfl ?_
  refine w_gr l_104_60 (oDropSwitch_sh o) (oDropSwitch_r6 o) ?_
  refine w_gi ((ne : Nat) : Int) l_104_63 (oHistory_sh (oDropSwitch_o6 o)) K.2.2.1.1 ?_
  refine w_ir l_104_66 (Or.inl rfl) ?_
  exact ⟨rfl, rfl⟩

theorem s_104_3 (o : oDropSwitch S T s q y) {ne np : Nat} {a : Nat → Nat} (K : KQ I s q h l a ne np) : CL xs 104 [vr s, vi 3] (S, I, T, cc, zz) (FN (some (vi ((np : Nat) : Int))) (S, I, T, cc, zz)) := by
  refine CL_start (r := 0) (ls := [vr s, vi 3]) (rk_104 _) rfl ?_
  refine w_iln l_104_0 rfl ?_
  refine w_swi 67 l_104_1 (by decide) rfl (by decide) ?_
  refine w_aln l_104_67 rfl ?_
  refine w_gr l_104_68 (oDropSwitch_sh o) (oDropSwitch_r6 o) ?_
  refine w_gi ((np : Nat) : Int) l_104_71 (oHistory_sh (oDropSwitch_o6 o)) K.2.2.1.2.1 ?_
  refine w_ir l_104_74 (Or.inl rfl) ?_
  exact ⟨rfl, rfl⟩

theorem s_104_4 (o : oDropSwitch S T s q y) {ne np : Nat} {a : Nat → Nat} (K : KQ I s q h l a ne np) : CL xs 104 [vr s, vi 4] (S, I, T, cc, zz) (FN (some (vi (((runA h l noOut ne).2.1.length : Nat) : Int))) (S, I, T, cc, zz)) := by
  refine CL_start (r := 0) (ls := [vr s, vi 4]) (rk_104 _) rfl ?_
  refine w_iln l_104_0 rfl ?_
  refine w_swi 75 l_104_1 (by decide) rfl (by decide) ?_
  refine w_aln l_104_75 rfl ?_
  refine w_gr l_104_76 (oDropSwitch_sh o) (oDropSwitch_r8 o) ?_
  refine w_gr l_104_79 (oRun_sh (oDropSwitch_o8 o)) (oRun_r2 (oDropSwitch_o8 o)) ?_
  refine w_gi (((runA h l noOut ne).2.1.length : Nat) : Int) l_104_82 (oLog_sh (oRun_o2 (oDropSwitch_o8 o))) K.2.2.2.1.2.1.1 ?_
  refine w_ir l_104_85 (Or.inl rfl) ?_
  exact ⟨rfl, rfl⟩

theorem s_104_5 (o : oDropSwitch S T s q y) {ne np : Nat} {a : Nat → Nat} (K : KQ I s q h l a ne np) : CL xs 104 [vr s, vi 5] (S, I, T, cc, zz) (FN (some (vi (((sTime (runA h l noOut ne).1) : Nat) : Int))) (S, I, T, cc, zz)) := by
  refine CL_start (r := 0) (ls := [vr s, vi 5]) (rk_104 _) rfl ?_
  refine w_iln l_104_0 rfl ?_
  refine w_swi 86 l_104_1 (by decide) rfl (by decide) ?_
  refine w_aln l_104_86 rfl ?_
  refine w_gr l_104_87 (oDropSwitch_sh o) (oDropSwitch_r8 o) ?_
  refine w_gr l_104_90 (oRun_sh (oDropSwitch_o8 o)) (oRun_r1 (oDropSwitch_o8 o)) ?_
  refine w_gi (((sTime (runA h l noOut ne).1) : Nat) : Int) l_104_93 (oState_sh (oRun_o1 (oDropSwitch_o8 o))) K.2.2.2.1.1.1.1 ?_
  refine w_ir l_104_96 (Or.inl rfl) ?_
  exact ⟨rfl, rfl⟩

theorem s_104n {p : Int} (hp : ¬ (0 ≤ p ∧ p ≤ 5)) (hc : 1 ≤ cc ∧ 6 ≤ zz) : CL xs 104 [vr s, vi p] (S, I, T, cc, zz) (TH 3 (S, I, T, cc - 1, zz - 6)) := by
  refine CL_start (r := 0) (ls := [vr s, vi p]) (rk_104 _) rfl ?_
  refine w_iln l_104_0 rfl ?_
  refine w_swd 97 l_104_1 (by omega) (by decide) ?_
  refine w_th l_104_97 ⟨hc.1, hc.2, Nat.le_of_ble_eq_true rfl⟩ ?_
  exact ⟨rfl, rfl⟩

theorem mx_110 : mxl 110 = 2 := by decide +kernel
theorem mt_110 : mtc 110 = 9 := by decide +kernel
theorem rk_110 (as : List AV) : rkA 110 as = 1 := rfl
theorem l_110_0 : look 110 0 = some (.aload_n 0, 1, 0, 0, 0, 0) := by decide +kernel
theorem l_110_1 : look 110 1 = some (.iload_n 1, 1, 0, 0, 0, 0) := by decide +kernel
theorem l_110_2 : look 110 2 = some (.invokevirtual 190, 3, 149, 2, 0, 147) := by decide +kernel
theorem l_110_5 : look 110 5 = some (.aload_n 0, 1, 0, 0, 0, 0) := by decide +kernel
theorem l_110_6 : look 110 6 = some (.getfield 42, 3, 9, 6, 2, 730) := by decide +kernel
theorem l_110_9 : look 110 9 = some (.getfield 196, 3, 0, 4, 2, 516) := by decide +kernel
theorem l_110_12 : look 110 12 = some (.iload_n 1, 1, 0, 0, 0, 0) := by decide +kernel
theorem l_110_13 : look 110 13 = some (.iaload, 1, 0, 0, 0, 0) := by decide +kernel
theorem l_110_14 : look 110 14 = some (.ireturn, 1, 0, 0, 0, 0) := by decide +kernel
theorem s_110 (o : oDropSwitch S T s q y) {ne np : Nat} {a : Nat → Nat} (K : KQ I s q h l a ne np) {e : Nat} {pv : Int} (he : e < ne) (hv : I (s + 21 + 3) e = pv) : CL xs 110 [vr s, vi ((e : Nat) : Int)] (S, I, T, cc, zz) (FN (some (vi pv)) (S, I, T, cc, zz)) := by
  refine CL_start (r := 1) (ls := [vr s, vi ((e : Nat) : Int)]) (rk_110 _) rfl ?_
  have hl4 := K.2.2.2.2.2.2.2.1.1
  have hok := (run_ok K.2.2.2.2.2.2.1 K.2.2.2.2.2.2.2.1 K.2.2.2.2.2.2.2.2.1 (out := noOut) ne (Nat.le_refl ne)).1
  have hRr := K.2.2.2.1
  have hne := K.2.2.1.2.2.1
  have hnp := K.2.2.1.2.2.2.1
  refine w_aln l_110_0 rfl ?_
  refine w_iln l_110_1 rfl ?_
  refine q_iv [vi ((e : Nat) : Int)] [] l_110_2 rfl rfl (Nat.le_of_ble_eq_true rfl) (by rw [mx_149]; exact Nat.le_of_ble_eq_true rfl) (by rw [mt_149]; exact oDropSwitch_sh o) (by rw [mt_149]; decide) (by rw [rk_149]; decide) (s_149 o K he) ?_
  refine w_aln l_110_5 rfl ?_
  refine w_gr l_110_6 (oDropSwitch_sh o) (oDropSwitch_r6 o) ?_
  refine w_gr l_110_9 (oHistory_sh (oDropSwitch_o6 o)) (oHistory_r4 (oDropSwitch_o6 o)) ?_
  refine w_iln l_110_12 rfl ?_
  refine w_ia e pv l_110_13 (oHistory_s4 (oDropSwitch_o6 o)) rfl (by omega) hv ?_
  refine w_ir l_110_14 (Or.inl rfl) ?_
  exact ⟨rfl, rfl⟩

theorem s_110n (o : oDropSwitch S T s q y) {ne np : Nat} {a : Nat → Nat} (K : KQ I s q h l a ne np) {p : Int} (hp : ¬ (0 ≤ p ∧ p < ((ne : Nat) : Int))) (hc : 1 ≤ cc ∧ 6 ≤ zz) : CL xs 110 [vr s, vi p] (S, I, T, cc, zz) (TH 0 (S, I, T, cc - 1, zz - 6)) := by
  refine CL_start (r := 1) (ls := [vr s, vi p]) (rk_110 _) rfl ?_
  refine w_aln l_110_0 rfl ?_
  refine w_iln l_110_1 rfl ?_
  refine t_iv [vi p] [] l_110_2 rfl rfl (Nat.le_of_ble_eq_true rfl) (by rw [mx_149]; exact Nat.le_of_ble_eq_true rfl) (by rw [mt_149]; exact oDropSwitch_sh o) (by rw [mt_149]; decide) (by rw [rk_149]; decide) (s_149n o K hp hc) (by decide +kernel) ?_
  exact ⟨rfl, rfl⟩

theorem mx_111 : mxl 111 = 2 := by decide +kernel
theorem mt_111 : mtc 111 = 9 := by decide +kernel
theorem rk_111 (as : List AV) : rkA 111 as = 1 := rfl
theorem l_111_0 : look 111 0 = some (.aload_n 0, 1, 0, 0, 0, 0) := by decide +kernel
theorem l_111_1 : look 111 1 = some (.iload_n 1, 1, 0, 0, 0, 0) := by decide +kernel
theorem l_111_2 : look 111 2 = some (.invokevirtual 199, 3, 151, 2, 0, 171) := by decide +kernel
theorem l_111_5 : look 111 5 = some (.aload_n 0, 1, 0, 0, 0, 0) := by decide +kernel
theorem l_111_6 : look 111 6 = some (.getfield 42, 3, 9, 6, 2, 730) := by decide +kernel
theorem l_111_9 : look 111 9 = some (.getfield 202, 3, 0, 5, 2, 518) := by decide +kernel
theorem l_111_12 : look 111 12 = some (.iload_n 1, 1, 0, 0, 0, 0) := by decide +kernel
theorem l_111_13 : look 111 13 = some (.iaload, 1, 0, 0, 0, 0) := by decide +kernel
theorem l_111_14 : look 111 14 = some (.ireturn, 1, 0, 0, 0, 0) := by decide +kernel
theorem s_111 (o : oDropSwitch S T s q y) {ne np : Nat} {a : Nat → Nat} (K : KQ I s q h l a ne np) {k : Nat} (hk : k < np) : CL xs 111 [vr s, vi ((k : Nat) : Int)] (S, I, T, cc, zz) (FN (some (vi ((a k : Nat) : Int))) (S, I, T, cc, zz)) := by
  refine CL_start (r := 1) (ls := [vr s, vi ((k : Nat) : Int)]) (rk_111 _) rfl ?_
  have hl4 := K.2.2.2.2.2.2.2.1.1
  have hok := (run_ok K.2.2.2.2.2.2.1 K.2.2.2.2.2.2.2.1 K.2.2.2.2.2.2.2.2.1 (out := noOut) ne (Nat.le_refl ne)).1
  have hRr := K.2.2.2.1
  have hne := K.2.2.1.2.2.1
  have hnp := K.2.2.1.2.2.2.1
  refine w_aln l_111_0 rfl ?_
  refine w_iln l_111_1 rfl ?_
  refine q_iv [vi ((k : Nat) : Int)] [] l_111_2 rfl rfl (Nat.le_of_ble_eq_true rfl) (by rw [mx_151]; exact Nat.le_of_ble_eq_true rfl) (by rw [mt_151]; exact oDropSwitch_sh o) (by rw [mt_151]; decide) (by rw [rk_151]; decide) (s_151 o K hk) ?_
  refine w_aln l_111_5 rfl ?_
  refine w_gr l_111_6 (oDropSwitch_sh o) (oDropSwitch_r6 o) ?_
  refine w_gr l_111_9 (oHistory_sh (oDropSwitch_o6 o)) (oHistory_r5 (oDropSwitch_o6 o)) ?_
  refine w_iln l_111_12 rfl ?_
  refine w_ia k (((a k) : Nat) : Int) l_111_13 (oHistory_s5 (oDropSwitch_o6 o)) rfl (by omega) ((K.2.2.1.2.2.2.2.2 k hk).1) ?_
  refine w_ir l_111_14 (Or.inl rfl) ?_
  exact ⟨rfl, rfl⟩

theorem s_111n (o : oDropSwitch S T s q y) {ne np : Nat} {a : Nat → Nat} (K : KQ I s q h l a ne np) {p : Int} (hp : ¬ (0 ≤ p ∧ p < ((np : Nat) : Int))) (hc : 1 ≤ cc ∧ 6 ≤ zz) : CL xs 111 [vr s, vi p] (S, I, T, cc, zz) (TH 0 (S, I, T, cc - 1, zz - 6)) := by
  refine CL_start (r := 1) (ls := [vr s, vi p]) (rk_111 _) rfl ?_
  refine w_aln l_111_0 rfl ?_
  refine w_iln l_111_1 rfl ?_
  refine t_iv [vi p] [] l_111_2 rfl rfl (Nat.le_of_ble_eq_true rfl) (by rw [mx_151]; exact Nat.le_of_ble_eq_true rfl) (by rw [mt_151]; exact oDropSwitch_sh o) (by rw [mt_151]; decide) (by rw [rk_151]; decide) (s_151n o K hp hc) (by decide +kernel) ?_
  exact ⟨rfl, rfl⟩

theorem mx_122 : mxl 122 = 3 := by decide +kernel
theorem mt_122 : mtc 122 = 9 := by decide +kernel
theorem rk_122 (as : List AV) : rkA 122 as = 1 := rfl
theorem l_122_0 : look 122 0 = some (.aload_n 0, 1, 0, 0, 0, 0) := by decide +kernel
theorem l_122_1 : look 122 1 = some (.iload_n 1, 1, 0, 0, 0, 0) := by decide +kernel
theorem l_122_2 : look 122 2 = some (.invokevirtual 199, 3, 151, 2, 0, 171) := by decide +kernel
theorem l_122_5 : look 122 5 = some (.iconst 0, 1, 0, 0, 0, 0) := by decide +kernel
theorem l_122_6 : look 122 6 = some (.istore_n 2, 1, 0, 0, 0, 0) := by decide +kernel
theorem l_122_7 : look 122 7 = some (.iload_n 2, 1, 0, 0, 0, 0) := by decide +kernel
theorem l_122_8 : look 122 8 = some (.aload_n 0, 1, 0, 0, 0, 0) := by decide +kernel
theorem l_122_9 : look 122 9 = some (.getfield 57, 3, 9, 8, 2, 732) := by decide +kernel
theorem l_122_12 : look 122 12 = some (.getfield 131, 3, 5, 2, 2, 639) := by decide +kernel
theorem l_122_15 : look 122 15 = some (.getfield 135, 3, 3, 0, 0, 614) := by decide +kernel
theorem l_122_18 : look 122 18 = some (.if_icmp .ge 27, 3, 0, 0, 0, 0) := by decide +kernel
theorem l_122_21 : look 122 21 = some (.aload_n 0, 1, 0, 0, 0, 0) := by decide +kernel
theorem l_122_22 : look 122 22 = some (.getfield 57, 3, 9, 8, 2, 732) := by decide +kernel
theorem l_122_25 : look 122 25 = some (.getfield 131, 3, 5, 2, 2, 639) := by decide +kernel
theorem l_122_28 : look 122 28 = some (.iload_n 2, 1, 0, 0, 0, 0) := by decide +kernel
theorem l_122_29 : look 122 29 = some (.iconst 1, 1, 0, 0, 0, 0) := by decide +kernel
theorem l_122_30 : look 122 30 = some (.invokevirtual 240, 3, 24, 3, 0, 215) := by decide +kernel
theorem l_122_33 : look 122 33 = some (.iload_n 1, 1, 0, 0, 0, 0) := by decide +kernel
theorem l_122_34 : look 122 34 = some (.if_icmp .ne 5, 3, 0, 0, 0, 0) := by decide +kernel
theorem l_122_37 : look 122 37 = some (.iload_n 2, 1, 0, 0, 0, 0) := by decide +kernel
theorem l_122_38 : look 122 38 = some (.ireturn, 1, 0, 0, 0, 0) := by decide +kernel
theorem l_122_39 : look 122 39 = some (.iinc 2 1, 3, 0, 0, 0, 0) := by decide +kernel
theorem l_122_42 : look 122 42 = some (.goto (-35), 3, 0, 0, 0, 0) := by decide +kernel
theorem l_122_45 : look 122 45 = some (.iconst (-1), 1, 0, 0, 0, 0) := by decide +kernel
theorem l_122_46 : look 122 46 = some (.ireturn, 1, 0, 0, 0, 0) := by decide +kernel
theorem lp_122 (o : oDropSwitch S T s q y) {ne np : Nat} {a : Nat → Nat} (K : KQ I s q h l a ne np) {p : Int} : ∀ d k, k + d = (runA h l noOut ne).2.1.length → WP xs 122 1 7 [vr s, vi p, vi ((k : Nat) : Int)] [] (S, I, T, cc, zz) (FN (some (vi (firstK (isPk p) (runA h l noOut ne).2.1 d k))) (S, I, T, cc, zz)) := by
  intro d
  have hRr := K.2.2.2.1
  have h360 := hRr.2.1.2
  induction d with
  | zero =>
    intro k hk0
    refine w_iln l_122_7 rfl ?_
    refine w_aln l_122_8 rfl ?_
    refine w_gr l_122_9 (oDropSwitch_sh o) (oDropSwitch_r8 o) ?_
    refine w_gr l_122_12 (oRun_sh (oDropSwitch_o8 o)) (oRun_r2 (oDropSwitch_o8 o)) ?_
    refine w_gi (((runA h l noOut ne).2.1.length : Nat) : Int) l_122_15 (oLog_sh (oRun_o2 (oDropSwitch_o8 o))) K.2.2.2.1.2.1.1 ?_
    refine w_cge 45 l_122_18 (by decide) (fun _ => ?_) (fun hx => absurd hx (by omega))
    refine w_ic l_122_45 (by decide) ?_
    refine w_ir l_122_46 (Or.inl rfl) ?_
    exact ⟨rfl, rfl⟩
  | succ d ih =>
    intro k hk0
    have hk : k < (runA h l noOut ne).2.1.length := by omega
    refine w_iln l_122_7 rfl ?_
    refine w_aln l_122_8 rfl ?_
    refine w_gr l_122_9 (oDropSwitch_sh o) (oDropSwitch_r8 o) ?_
    refine w_gr l_122_12 (oRun_sh (oDropSwitch_o8 o)) (oRun_r2 (oDropSwitch_o8 o)) ?_
    refine w_gi (((runA h l noOut ne).2.1.length : Nat) : Int) l_122_15 (oLog_sh (oRun_o2 (oDropSwitch_o8 o))) K.2.2.2.1.2.1.1 ?_
    refine w_cge 45 l_122_18 (by decide) (fun hx => absurd hx (by omega)) (fun _ => ?_)
    refine w_aln l_122_21 rfl ?_
    refine w_gr l_122_22 (oDropSwitch_sh o) (oDropSwitch_r8 o) ?_
    refine w_gr l_122_25 (oRun_sh (oDropSwitch_o8 o)) (oRun_r2 (oDropSwitch_o8 o)) ?_
    refine w_iln l_122_28 rfl ?_
    refine w_ic l_122_29 (by decide) ?_
    refine q_iv [vi ((k : Nat) : Int), vi 1] [] l_122_30 rfl rfl (Nat.le_of_ble_eq_true rfl) (by rw [mx_24]; exact Nat.le_of_ble_eq_true rfl) (by rw [mt_24]; exact oLog_sh (oRun_o2 (oDropSwitch_o8 o))) (by rw [mt_24]; decide) (by rw [rk_24]; decide) (t_part1 (oRun_o2 (oDropSwitch_o8 o)) hRr.2 hk) ?_
    refine w_iln l_122_33 rfl ?_
    refine w_cne 39 l_122_34 (by decide) (fun h1 => ?_) (fun h1 => ?_)
    · skip
      refine w_inc ((k + 1 : Nat) : Int) l_122_39 rfl rfl (by unfold wr; omega) ?_
      refine w_go 7 l_122_42 (by decide) ?_
      have hf : isPk p ((runA h l noOut ne).2.1.getD k dr0) = false := decide_eq_false (by omega)
      have e9 := ih (k + 1) (by omega)
      rw [show firstK (isPk p) (runA h l noOut ne).2.1 (d + 1) k = firstK (isPk p) (runA h l noOut ne).2.1 d (k + 1) from if_neg (by rw [hf]; decide)]
      exact e9
    · skip
      refine w_iln l_122_37 rfl ?_
      refine w_ir l_122_38 (Or.inl rfl) ?_
      have hf : isPk p ((runA h l noOut ne).2.1.getD k dr0) = true := decide_eq_true (by omega)
      rw [show firstK (isPk p) (runA h l noOut ne).2.1 (d + 1) k = (k : Int) from if_pos hf]
      exact ⟨rfl, rfl⟩
theorem s_122 (o : oDropSwitch S T s q y) {ne np : Nat} {a : Nat → Nat} (K : KQ I s q h l a ne np) {p : Nat} (hp : p < np) : CL xs 122 [vr s, vi ((p : Nat) : Int)] (S, I, T, cc, zz) (FN (some (vi (firstK (isPk ((p : Nat) : Int)) (runA h l noOut ne).2.1 (runA h l noOut ne).2.1.length 0))) (S, I, T, cc, zz)) := by
  refine CL_start (r := 1) (ls := [vr s, vi ((p : Nat) : Int), vs 2]) (rk_122 _) rfl ?_
  refine w_aln l_122_0 rfl ?_
  refine w_iln l_122_1 rfl ?_
  refine q_iv [vi ((p : Nat) : Int)] [] l_122_2 rfl rfl (Nat.le_of_ble_eq_true rfl) (by rw [mx_151]; exact Nat.le_of_ble_eq_true rfl) (by rw [mt_151]; exact oDropSwitch_sh o) (by rw [mt_151]; decide) (by rw [rk_151]; decide) (s_151 o K hp) ?_
  refine w_ic l_122_5 (by decide) ?_
  refine w_isn l_122_6 ⟨Nat.le_of_ble_eq_true rfl, rfl⟩ ?_
  exact lp_122 o K _ 0 (Nat.zero_add _)

theorem s_122n (o : oDropSwitch S T s q y) {ne np : Nat} {a : Nat → Nat} (K : KQ I s q h l a ne np) {p : Int} (hp : ¬ (0 ≤ p ∧ p < ((np : Nat) : Int))) (hc : 1 ≤ cc ∧ 6 ≤ zz) : CL xs 122 [vr s, vi p] (S, I, T, cc, zz) (TH 0 (S, I, T, cc - 1, zz - 6)) := by
  refine CL_start (r := 1) (ls := [vr s, vi p, vs 2]) (rk_122 _) rfl ?_
  refine w_aln l_122_0 rfl ?_
  refine w_iln l_122_1 rfl ?_
  refine t_iv [vi p] [] l_122_2 rfl rfl (Nat.le_of_ble_eq_true rfl) (by rw [mx_151]; exact Nat.le_of_ble_eq_true rfl) (by rw [mt_151]; exact oDropSwitch_sh o) (by rw [mt_151]; decide) (by rw [rk_151]; decide) (s_151n o K hp hc) (by decide +kernel) ?_
  exact ⟨rfl, rfl⟩

end KQU
