/-! the class: logs, histories, settings: one method at a time, on the numbers -/
section LOG
variable {xs : List Int} {S : List (Nat × Nat)} {T : Nat → Nat → Nat} {cc zz s : Nat}

theorem mx_22 : mxl 22 = 3 := by decide +kernel
theorem mt_22 : mtc 22 = 3 := by decide +kernel
theorem rk_22 (as : List AV) : rkA 22 as = 0 := rfl
theorem l_22_0 : look 22 0 = some (.aload_n 0, 1, 0, 0, 0, 0) := by decide +kernel
theorem l_22_1 : look 22 1 = some (.getfield 15, 3, 3, 2, 2, 616) := by decide +kernel
theorem l_22_4 : look 22 4 = some (.iload_n 1, 1, 0, 0, 0, 0) := by decide +kernel
theorem l_22_5 : look 22 5 = some (.iconst 5, 1, 0, 0, 0, 0) := by decide +kernel
theorem l_22_6 : look 22 6 = some (.imul, 1, 0, 0, 0, 0) := by decide +kernel
theorem l_22_7 : look 22 7 = some (.iload_n 2, 1, 0, 0, 0, 0) := by decide +kernel
theorem l_22_8 : look 22 8 = some (.iadd, 1, 0, 0, 0, 0) := by decide +kernel
theorem l_22_9 : look 22 9 = some (.iconst 1, 1, 0, 0, 0, 0) := by decide +kernel
theorem l_22_10 : look 22 10 = some (.iadd, 1, 0, 0, 0, 0) := by decide +kernel
theorem l_22_11 : look 22 11 = some (.iaload, 1, 0, 0, 0, 0) := by decide +kernel
theorem l_22_12 : look 22 12 = some (.ireturn, 1, 0, 0, 0, 0) := by decide +kernel
theorem s_22 {I : Ix} (h : oLog S T s) {k : Nat} {port : Int} (hp : -1 ≤ port ∧ port ≤ 3) (hk : k < 120) : CL xs 22 [vr s, vi ((k : Nat) : Int), vi port] (S, I, T, cc, zz) (FN (some (vi (I (s + 2) (k * 5 + (port + 1).toNat)))) (S, I, T, cc, zz)) := by
  refine CL_start (r := 0) (ls := [vr s, vi ((k : Nat) : Int), vi port]) (rk_22 _) rfl ?_
  refine w_aln l_22_0 rfl ?_
  refine w_gr l_22_1 (oLog_sh h) (oLog_r2 h) ?_
  refine w_iln l_22_4 rfl ?_
  refine w_ic l_22_5 (by decide) ?_
  refine w_mul ((k * 5 : Nat) : Int) l_22_6 (by unfold wr; omega) ?_
  refine w_iln l_22_7 rfl ?_
  refine w_add (((k * 5 : Nat) : Int) + port) l_22_8 (by unfold wr; omega) ?_
  refine w_ic l_22_9 (by decide) ?_
  refine w_add (((k * 5 + (port + 1).toNat) : Nat) : Int) l_22_10 (by unfold wr; omega) ?_
  refine w_ia (k * 5 + (port + 1).toNat) (I (s + 2) (k * 5 + (port + 1).toNat)) l_22_11 (oLog_s2 h) rfl (by omega) rfl ?_
  refine w_ir l_22_12 (Or.inl rfl) ?_
  exact ⟨rfl, rfl⟩

theorem mx_21 : mxl 21 = 4 := by decide +kernel
theorem mt_21 : mtc 21 = 3 := by decide +kernel
theorem rk_21 (as : List AV) : rkA 21 as = 0 := rfl
theorem l_21_0 : look 21 0 = some (.iload_n 1, 1, 0, 0, 0, 0) := by decide +kernel
theorem l_21_1 : look 21 1 = some (.ifCond .lt 22, 3, 0, 0, 0, 0) := by decide +kernel
theorem l_21_4 : look 21 4 = some (.iload_n 1, 1, 0, 0, 0, 0) := by decide +kernel
theorem l_21_5 : look 21 5 = some (.bipush 120, 2, 0, 0, 0, 0) := by decide +kernel
theorem l_21_7 : look 21 7 = some (.if_icmp .ge 16, 3, 0, 0, 0, 0) := by decide +kernel
theorem l_21_10 : look 21 10 = some (.aload_n 0, 1, 0, 0, 0, 0) := by decide +kernel
theorem l_21_11 : look 21 11 = some (.getfield 15, 3, 3, 2, 2, 616) := by decide +kernel
theorem l_21_14 : look 21 14 = some (.iload_n 1, 1, 0, 0, 0, 0) := by decide +kernel
theorem l_21_15 : look 21 15 = some (.iconst 5, 1, 0, 0, 0, 0) := by decide +kernel
theorem l_21_16 : look 21 16 = some (.imul, 1, 0, 0, 0, 0) := by decide +kernel
theorem l_21_17 : look 21 17 = some (.iload_n 2, 1, 0, 0, 0, 0) := by decide +kernel
theorem l_21_18 : look 21 18 = some (.iadd, 1, 0, 0, 0, 0) := by decide +kernel
theorem l_21_19 : look 21 19 = some (.iconst 1, 1, 0, 0, 0, 0) := by decide +kernel
theorem l_21_20 : look 21 20 = some (.iadd, 1, 0, 0, 0, 0) := by decide +kernel
theorem l_21_21 : look 21 21 = some (.iload_n 3, 1, 0, 0, 0, 0) := by decide +kernel
theorem l_21_22 : look 21 22 = some (.iastore, 1, 0, 0, 0, 0) := by decide +kernel
theorem l_21_23 : look 21 23 = some (.return_, 1, 0, 0, 0, 0) := by decide +kernel
theorem s_21 {I : Ix} (h : oLog S T s) {k v : Nat} {port : Int} (hp : -1 ≤ port ∧ port ≤ 3) (hk : k < 120) : CL xs 21 [vr s, vi ((k : Nat) : Int), vi port, vi ((v : Nat) : Int)] (S, I, T, cc, zz) (FN none (S, up I (s + 2) (k * 5 + (port + 1).toNat) ((v : Nat) : Int), T, cc, zz)) := by
  refine CL_start (r := 0) (ls := [vr s, vi ((k : Nat) : Int), vi port, vi ((v : Nat) : Int)]) (rk_21 _) rfl ?_
  refine w_iln l_21_0 rfl ?_
  refine w_zlt 23 l_21_1 (by decide) (fun hx => absurd hx (by omega)) (fun _ => ?_)
  refine w_iln l_21_4 rfl ?_
  refine w_bp l_21_5 (by decide) ?_
  refine w_cge 23 l_21_7 (by decide) (fun hx => absurd hx (by omega)) (fun _ => ?_)
  refine w_aln l_21_10 rfl ?_
  refine w_gr l_21_11 (oLog_sh h) (oLog_r2 h) ?_
  refine w_iln l_21_14 rfl ?_
  refine w_ic l_21_15 (by decide) ?_
  refine w_mul ((k * 5 : Nat) : Int) l_21_16 (by unfold wr; omega) ?_
  refine w_iln l_21_17 rfl ?_
  refine w_add (((k * 5 : Nat) : Int) + port) l_21_18 (by unfold wr; omega) ?_
  refine w_ic l_21_19 (by decide) ?_
  refine w_add (((k * 5 + (port + 1).toNat) : Nat) : Int) l_21_20 (by unfold wr; omega) ?_
  refine w_iln l_21_21 rfl ?_
  refine w_iS (k * 5 + (port + 1).toNat) l_21_22 (oLog_s2 h) rfl (by omega) ?_
  refine w_vr l_21_23 ?_
  exact ⟨rfl, rfl⟩

theorem mx_19 : mxl 19 = 7 := by decide +kernel
theorem mt_19 : mtc 19 = 3 := by decide +kernel
theorem rk_19 (as : List AV) : rkA 19 as = 1 := rfl
theorem l_19_0 : look 19 0 = some (.aload_n 0, 1, 0, 0, 0, 0) := by decide +kernel
theorem l_19_1 : look 19 1 = some (.iload_n 2, 1, 0, 0, 0, 0) := by decide +kernel
theorem l_19_2 : look 19 2 = some (.iload_n 3, 1, 0, 0, 0, 0) := by decide +kernel
theorem l_19_3 : look 19 3 = some (.iconst 3, 1, 0, 0, 0, 0) := by decide +kernel
theorem l_19_4 : look 19 4 = some (.invokevirtual 37, 3, 21, 4, 0, 1271) := by decide +kernel
theorem l_19_7 : look 19 7 = some (.aload_n 0, 1, 0, 0, 0, 0) := by decide +kernel
theorem l_19_8 : look 19 8 = some (.getfield 27, 3, 3, 0, 0, 613) := by decide +kernel
theorem l_19_11 : look 19 11 = some (.sipush 360, 3, 0, 0, 0, 0) := by decide +kernel
theorem l_19_14 : look 19 14 = some (.if_icmp .lt 4, 3, 0, 0, 0, 0) := by decide +kernel
theorem l_19_17 : look 19 17 = some (.return_, 1, 0, 0, 0, 0) := by decide +kernel
theorem l_19_18 : look 19 18 = some (.aload_n 0, 1, 0, 0, 0, 0) := by decide +kernel
theorem l_19_19 : look 19 19 = some (.getfield 27, 3, 3, 0, 0, 613) := by decide +kernel
theorem l_19_22 : look 19 22 = some (.iconst 5, 1, 0, 0, 0, 0) := by decide +kernel
theorem l_19_23 : look 19 23 = some (.imul, 1, 0, 0, 0, 0) := by decide +kernel
theorem l_19_24 : look 19 24 = some (.istore 6, 2, 0, 0, 0, 0) := by decide +kernel
theorem l_19_26 : look 19 26 = some (.aload_n 0, 1, 0, 0, 0, 0) := by decide +kernel
theorem l_19_27 : look 19 27 = some (.getfield 9, 3, 3, 1, 2, 615) := by decide +kernel
theorem l_19_30 : look 19 30 = some (.iload 6, 2, 0, 0, 0, 0) := by decide +kernel
theorem l_19_32 : look 19 32 = some (.iconst 0, 1, 0, 0, 0, 0) := by decide +kernel
theorem l_19_33 : look 19 33 = some (.iadd, 1, 0, 0, 0, 0) := by decide +kernel
theorem l_19_34 : look 19 34 = some (.iload_n 1, 1, 0, 0, 0, 0) := by decide +kernel
theorem l_19_35 : look 19 35 = some (.iastore, 1, 0, 0, 0, 0) := by decide +kernel
theorem l_19_36 : look 19 36 = some (.aload_n 0, 1, 0, 0, 0, 0) := by decide +kernel
theorem l_19_37 : look 19 37 = some (.getfield 9, 3, 3, 1, 2, 615) := by decide +kernel
theorem l_19_40 : look 19 40 = some (.iload 6, 2, 0, 0, 0, 0) := by decide +kernel
theorem l_19_42 : look 19 42 = some (.iconst 1, 1, 0, 0, 0, 0) := by decide +kernel
theorem l_19_43 : look 19 43 = some (.iadd, 1, 0, 0, 0, 0) := by decide +kernel
theorem l_19_44 : look 19 44 = some (.iload_n 2, 1, 0, 0, 0, 0) := by decide +kernel
theorem l_19_45 : look 19 45 = some (.iastore, 1, 0, 0, 0, 0) := by decide +kernel
theorem l_19_46 : look 19 46 = some (.aload_n 0, 1, 0, 0, 0, 0) := by decide +kernel
theorem l_19_47 : look 19 47 = some (.getfield 9, 3, 3, 1, 2, 615) := by decide +kernel
theorem l_19_50 : look 19 50 = some (.iload 6, 2, 0, 0, 0, 0) := by decide +kernel
theorem l_19_52 : look 19 52 = some (.iconst 2, 1, 0, 0, 0, 0) := by decide +kernel
theorem l_19_53 : look 19 53 = some (.iadd, 1, 0, 0, 0, 0) := by decide +kernel
theorem l_19_54 : look 19 54 = some (.iload_n 3, 1, 0, 0, 0, 0) := by decide +kernel
theorem l_19_55 : look 19 55 = some (.iastore, 1, 0, 0, 0, 0) := by decide +kernel
theorem l_19_56 : look 19 56 = some (.aload_n 0, 1, 0, 0, 0, 0) := by decide +kernel
theorem l_19_57 : look 19 57 = some (.getfield 9, 3, 3, 1, 2, 615) := by decide +kernel
theorem l_19_60 : look 19 60 = some (.iload 6, 2, 0, 0, 0, 0) := by decide +kernel
theorem l_19_62 : look 19 62 = some (.iconst 3, 1, 0, 0, 0, 0) := by decide +kernel
theorem l_19_63 : look 19 63 = some (.iadd, 1, 0, 0, 0, 0) := by decide +kernel
theorem l_19_64 : look 19 64 = some (.iload 4, 2, 0, 0, 0, 0) := by decide +kernel
theorem l_19_66 : look 19 66 = some (.iastore, 1, 0, 0, 0, 0) := by decide +kernel
theorem l_19_67 : look 19 67 = some (.aload_n 0, 1, 0, 0, 0, 0) := by decide +kernel
theorem l_19_68 : look 19 68 = some (.getfield 9, 3, 3, 1, 2, 615) := by decide +kernel
theorem l_19_71 : look 19 71 = some (.iload 6, 2, 0, 0, 0, 0) := by decide +kernel
theorem l_19_73 : look 19 73 = some (.iconst 4, 1, 0, 0, 0, 0) := by decide +kernel
theorem l_19_74 : look 19 74 = some (.iadd, 1, 0, 0, 0, 0) := by decide +kernel
theorem l_19_75 : look 19 75 = some (.iload 5, 2, 0, 0, 0, 0) := by decide +kernel
theorem l_19_77 : look 19 77 = some (.iastore, 1, 0, 0, 0, 0) := by decide +kernel
theorem l_19_78 : look 19 78 = some (.aload_n 0, 1, 0, 0, 0, 0) := by decide +kernel
theorem l_19_79 : look 19 79 = some (.dup, 1, 0, 0, 0, 0) := by decide +kernel
theorem l_19_80 : look 19 80 = some (.getfield 27, 3, 3, 0, 0, 613) := by decide +kernel
theorem l_19_83 : look 19 83 = some (.iconst 1, 1, 0, 0, 0, 0) := by decide +kernel
theorem l_19_84 : look 19 84 = some (.iadd, 1, 0, 0, 0, 0) := by decide +kernel
theorem l_19_85 : look 19 85 = some (.putfield 27, 3, 3, 0, 0, 613) := by decide +kernel
theorem l_19_88 : look 19 88 = some (.return_, 1, 0, 0, 0, 0) := by decide +kernel
theorem s_19 {I : Ix} (h : oLog S T s) {e k c n : Nat} {port d : Int} (hp : -1 ≤ port ∧ port ≤ 3) (hk : k < 120) (hn : I s 0 = (n : Int)) (hn1 : n < 360) : CL xs 19 [vr s, vi ((e : Nat) : Int), vi ((k : Nat) : Int), vi port, vi ((c : Nat) : Int), vi d] (S, I, T, cc, zz) (FN none (S, up (up (up (up (up (up (up I (s + 2) (k * 5 + (port + 1).toNat) ((3 : Nat) : Int)) (s + 1) (n * 5 + 0) ((e : Nat) : Int)) (s + 1) (n * 5 + 1) ((k : Nat) : Int)) (s + 1) (n * 5 + 2) port) (s + 1) (n * 5 + 3) ((c : Nat) : Int)) (s + 1) (n * 5 + 4) d) s 0 ((n + 1 : Nat) : Int), T, cc, zz)) := by
  refine CL_start (r := 1) (ls := [vr s, vi ((e : Nat) : Int), vi ((k : Nat) : Int), vi port, vi ((c : Nat) : Int), vi d, vs 2]) (rk_19 _) rfl ?_
  refine w_aln l_19_0 rfl ?_
  refine w_iln l_19_1 rfl ?_
  refine w_iln l_19_2 rfl ?_
  refine w_ic l_19_3 (by decide) ?_
  refine q_iv [vi ((k : Nat) : Int), vi port, vi 3] [] l_19_4 rfl rfl (Nat.le_of_ble_eq_true rfl) (by rw [mx_21]; exact Nat.le_of_ble_eq_true rfl) (by rw [mt_21]; exact oLog_sh h) (by rw [mt_21]; decide) (by rw [rk_21]; decide) (s_21 (v := 3) h hp hk) ?_
  refine w_aln l_19_7 rfl ?_
  refine w_gi ((n : Nat) : Int) l_19_8 (oLog_sh h) ((up_no (by omega)).trans (hn)) ?_
  refine w_sp l_19_11 (by decide) ?_
  refine w_clt 18 l_19_14 (by decide) (fun _ => ?_) (fun hx => absurd hx (by omega))
  refine w_aln l_19_18 rfl ?_
  refine w_gi ((n : Nat) : Int) l_19_19 (oLog_sh h) ((up_no (by omega)).trans (hn)) ?_
  refine w_ic l_19_22 (by decide) ?_
  refine w_mul ((n * 5 : Nat) : Int) l_19_23 (by unfold wr; omega) ?_
  refine w_is l_19_24 ⟨Nat.le_of_ble_eq_true rfl, rfl⟩ ?_
  refine w_aln l_19_26 rfl ?_
  refine w_gr l_19_27 (oLog_sh h) (oLog_r1 h) ?_
  refine w_il l_19_30 rfl ?_
  refine w_ic l_19_32 (by decide) ?_
  refine w_add ((n * 5 + 0 : Nat) : Int) l_19_33 (by unfold wr; omega) ?_
  refine w_iln l_19_34 rfl ?_
  refine w_iS (n * 5 + 0) l_19_35 (oLog_s1 h) rfl (by omega) ?_
  refine w_aln l_19_36 rfl ?_
  refine w_gr l_19_37 (oLog_sh h) (oLog_r1 h) ?_
  refine w_il l_19_40 rfl ?_
  refine w_ic l_19_42 (by decide) ?_
  refine w_add ((n * 5 + 1 : Nat) : Int) l_19_43 (by unfold wr; omega) ?_
  refine w_iln l_19_44 rfl ?_
  refine w_iS (n * 5 + 1) l_19_45 (oLog_s1 h) rfl (by omega) ?_
  refine w_aln l_19_46 rfl ?_
  refine w_gr l_19_47 (oLog_sh h) (oLog_r1 h) ?_
  refine w_il l_19_50 rfl ?_
  refine w_ic l_19_52 (by decide) ?_
  refine w_add ((n * 5 + 2 : Nat) : Int) l_19_53 (by unfold wr; omega) ?_
  refine w_iln l_19_54 rfl ?_
  refine w_iS (n * 5 + 2) l_19_55 (oLog_s1 h) rfl (by omega) ?_
  refine w_aln l_19_56 rfl ?_
  refine w_gr l_19_57 (oLog_sh h) (oLog_r1 h) ?_
  refine w_il l_19_60 rfl ?_
  refine w_ic l_19_62 (by decide) ?_
  refine w_add ((n * 5 + 3 : Nat) : Int) l_19_63 (by unfold wr; omega) ?_
  refine w_il l_19_64 rfl ?_
  refine w_iS (n * 5 + 3) l_19_66 (oLog_s1 h) rfl (by omega) ?_
  refine w_aln l_19_67 rfl ?_
  refine w_gr l_19_68 (oLog_sh h) (oLog_r1 h) ?_
  refine w_il l_19_71 rfl ?_
  refine w_ic l_19_73 (by decide) ?_
  refine w_add ((n * 5 + 4 : Nat) : Int) l_19_74 (by unfold wr; omega) ?_
  refine w_il l_19_75 rfl ?_
  refine w_iS (n * 5 + 4) l_19_77 (oLog_s1 h) rfl (by omega) ?_
  refine w_aln l_19_78 rfl ?_
  refine w_dup l_19_79 rfl ?_
  refine w_gi ((n : Nat) : Int) l_19_80 (oLog_sh h) ((up_no (by omega)).trans ((up_no (by omega)).trans ((up_no (by omega)).trans ((up_no (by omega)).trans ((up_no (by omega)).trans ((up_no (by omega)).trans (hn))))))) ?_
  refine w_ic l_19_83 (by decide) ?_
  refine w_add ((n + 1 : Nat) : Int) l_19_84 (by unfold wr; omega) ?_
  refine w_pi l_19_85 (oLog_sh h) ?_
  refine w_vr l_19_88 ?_
  exact ⟨rfl, rfl⟩

theorem mx_20 : mxl 20 = 3 := by decide +kernel
theorem mt_20 : mtc 20 = 3 := by decide +kernel
theorem rk_20 (as : List AV) : rkA 20 as = 1 := rfl
theorem l_20_0 : look 20 0 = some (.aload_n 0, 1, 0, 0, 0, 0) := by decide +kernel
theorem l_20_1 : look 20 1 = some (.iload_n 1, 1, 0, 0, 0, 0) := by decide +kernel
theorem l_20_2 : look 20 2 = some (.iload_n 2, 1, 0, 0, 0, 0) := by decide +kernel
theorem l_20_3 : look 20 3 = some (.iconst 2, 1, 0, 0, 0, 0) := by decide +kernel
theorem l_20_4 : look 20 4 = some (.invokevirtual 37, 3, 21, 4, 0, 1271) := by decide +kernel
theorem l_20_7 : look 20 7 = some (.aload_n 0, 1, 0, 0, 0, 0) := by decide +kernel
theorem l_20_8 : look 20 8 = some (.getfield 18, 3, 3, 3, 2, 617) := by decide +kernel
theorem l_20_11 : look 20 11 = some (.iload_n 2, 1, 0, 0, 0, 0) := by decide +kernel
theorem l_20_12 : look 20 12 = some (.dup2, 1, 0, 0, 0, 0) := by decide +kernel
theorem l_20_13 : look 20 13 = some (.iaload, 1, 0, 0, 0, 0) := by decide +kernel
theorem l_20_14 : look 20 14 = some (.iconst 1, 1, 0, 0, 0, 0) := by decide +kernel
theorem l_20_15 : look 20 15 = some (.iadd, 1, 0, 0, 0, 0) := by decide +kernel
theorem l_20_16 : look 20 16 = some (.iastore, 1, 0, 0, 0, 0) := by decide +kernel
theorem l_20_17 : look 20 17 = some (.return_, 1, 0, 0, 0, 0) := by decide +kernel
theorem s_20 {I : Ix} (h : oLog S T s) {k p n : Nat} (hk : k < 120) (hp : p < 4) (hn : I (s + 3) p = (n : Int)) (hn1 : n < 100000) : CL xs 20 [vr s, vi ((k : Nat) : Int), vi ((p : Nat) : Int)] (S, I, T, cc, zz) (FN none (S, up (up I (s + 2) (k * 5 + (((p : Nat) : Int) + 1).toNat) ((2 : Nat) : Int)) (s + 3) p ((n + 1 : Nat) : Int), T, cc, zz)) := by
  refine CL_start (r := 1) (ls := [vr s, vi ((k : Nat) : Int), vi ((p : Nat) : Int)]) (rk_20 _) rfl ?_
  refine w_aln l_20_0 rfl ?_
  refine w_iln l_20_1 rfl ?_
  refine w_iln l_20_2 rfl ?_
  refine w_ic l_20_3 (by decide) ?_
  refine q_iv [vi ((k : Nat) : Int), vi ((p : Nat) : Int), vi 2] [] l_20_4 rfl rfl (Nat.le_of_ble_eq_true rfl) (by rw [mx_21]; exact Nat.le_of_ble_eq_true rfl) (by rw [mt_21]; exact oLog_sh h) (by rw [mt_21]; decide) (by rw [rk_21]; decide) (s_21 (v := 2) h ⟨by omega, by omega⟩ hk) ?_
  refine w_aln l_20_7 rfl ?_
  refine w_gr l_20_8 (oLog_sh h) (oLog_r3 h) ?_
  refine w_iln l_20_11 rfl ?_
  refine w_dup2 l_20_12 rfl ?_
  refine w_ia p ((n : Nat) : Int) l_20_13 (oLog_s3 h) rfl (by omega) ((up_no (by omega)).trans (hn)) ?_
  refine w_ic l_20_14 (by decide) ?_
  refine w_add ((n + 1 : Nat) : Int) l_20_15 (by unfold wr; omega) ?_
  refine w_iS p l_20_16 (oLog_s3 h) rfl (by omega) ?_
  refine w_vr l_20_17 ?_
  exact ⟨rfl, rfl⟩

theorem mx_24 : mxl 24 = 3 := by decide +kernel
theorem mt_24 : mtc 24 = 3 := by decide +kernel
theorem rk_24 (as : List AV) : rkA 24 as = 0 := rfl
theorem l_24_0 : look 24 0 = some (.aload_n 0, 1, 0, 0, 0, 0) := by decide +kernel
theorem l_24_1 : look 24 1 = some (.getfield 9, 3, 3, 1, 2, 615) := by decide +kernel
theorem l_24_4 : look 24 4 = some (.iload_n 1, 1, 0, 0, 0, 0) := by decide +kernel
theorem l_24_5 : look 24 5 = some (.iconst 5, 1, 0, 0, 0, 0) := by decide +kernel
theorem l_24_6 : look 24 6 = some (.imul, 1, 0, 0, 0, 0) := by decide +kernel
theorem l_24_7 : look 24 7 = some (.iload_n 2, 1, 0, 0, 0, 0) := by decide +kernel
theorem l_24_8 : look 24 8 = some (.iadd, 1, 0, 0, 0, 0) := by decide +kernel
theorem l_24_9 : look 24 9 = some (.iaload, 1, 0, 0, 0, 0) := by decide +kernel
theorem l_24_10 : look 24 10 = some (.ireturn, 1, 0, 0, 0, 0) := by decide +kernel
theorem s_24 {I : Ix} (h : oLog S T s) {d j : Nat} (hd : d < 360) (hj : j < 5) : CL xs 24 [vr s, vi ((d : Nat) : Int), vi ((j : Nat) : Int)] (S, I, T, cc, zz) (FN (some (vi (I (s + 1) (d * 5 + j)))) (S, I, T, cc, zz)) := by
  refine CL_start (r := 0) (ls := [vr s, vi ((d : Nat) : Int), vi ((j : Nat) : Int)]) (rk_24 _) rfl ?_
  refine w_aln l_24_0 rfl ?_
  refine w_gr l_24_1 (oLog_sh h) (oLog_r1 h) ?_
  refine w_iln l_24_4 rfl ?_
  refine w_ic l_24_5 (by decide) ?_
  refine w_mul ((d * 5 : Nat) : Int) l_24_6 (by unfold wr; omega) ?_
  refine w_iln l_24_7 rfl ?_
  refine w_add ((d * 5 + j : Nat) : Int) l_24_8 (by unfold wr; omega) ?_
  refine w_ia (d * 5 + j) (I (s + 1) (d * 5 + j)) l_24_9 (oLog_s1 h) rfl (by omega) rfl ?_
  refine w_ir l_24_10 (Or.inl rfl) ?_
  exact ⟨rfl, rfl⟩

theorem mx_18 : mxl 18 = 1 := by decide +kernel
theorem mt_18 : mtc 18 = 3 := by decide +kernel
theorem rk_18 (as : List AV) : rkA 18 as = 1 := rfl
theorem l_18_0 : look 18 0 = some (.aload_n 0, 1, 0, 0, 0, 0) := by decide +kernel
theorem l_18_1 : look 18 1 = some (.iconst 0, 1, 0, 0, 0, 0) := by decide +kernel
theorem l_18_2 : look 18 2 = some (.putfield 27, 3, 3, 0, 0, 613) := by decide +kernel
theorem l_18_5 : look 18 5 = some (.aload_n 0, 1, 0, 0, 0, 0) := by decide +kernel
theorem l_18_6 : look 18 6 = some (.getfield 15, 3, 3, 2, 2, 616) := by decide +kernel
theorem l_18_9 : look 18 9 = some (.iconst 0, 1, 0, 0, 0, 0) := by decide +kernel
theorem l_18_10 : look 18 10 = some (.invokestatic 31, 3, 305, 2, 1, 718) := by decide +kernel
theorem l_18_13 : look 18 13 = some (.aload_n 0, 1, 0, 0, 0, 0) := by decide +kernel
theorem l_18_14 : look 18 14 = some (.getfield 18, 3, 3, 3, 2, 617) := by decide +kernel
theorem l_18_17 : look 18 17 = some (.iconst 0, 1, 0, 0, 0, 0) := by decide +kernel
theorem l_18_18 : look 18 18 = some (.invokestatic 31, 3, 305, 2, 1, 718) := by decide +kernel
theorem l_18_21 : look 18 21 = some (.aload_n 0, 1, 0, 0, 0, 0) := by decide +kernel
theorem l_18_22 : look 18 22 = some (.getfield 21, 3, 3, 4, 2, 619) := by decide +kernel
theorem l_18_25 : look 18 25 = some (.iconst 0, 1, 0, 0, 0, 0) := by decide +kernel
theorem l_18_26 : look 18 26 = some (.invokestatic 31, 3, 305, 2, 1, 718) := by decide +kernel
theorem l_18_29 : look 18 29 = some (.aload_n 0, 1, 0, 0, 0, 0) := by decide +kernel
theorem l_18_30 : look 18 30 = some (.getfield 24, 3, 3, 5, 2, 620) := by decide +kernel
theorem l_18_33 : look 18 33 = some (.iconst (-1), 1, 0, 0, 0, 0) := by decide +kernel
theorem l_18_34 : look 18 34 = some (.invokestatic 31, 3, 305, 2, 1, 718) := by decide +kernel
theorem l_18_37 : look 18 37 = some (.return_, 1, 0, 0, 0, 0) := by decide +kernel
theorem s_18 {I : Ix} (h : oLog S T s)  : CL xs 18 [vr s] (S, I, T, cc, zz) (FN none (S, fl (fl (fl (fl (up I s 0 0) (s + 2) 600 0) (s + 3) 4 0) (s + 4) 4 0) (s + 5) 4 (-1), T, cc, zz)) := by
  refine CL_start (r := 1) (ls := [vr s]) (rk_18 _) rfl ?_
  refine w_aln l_18_0 rfl ?_
  refine w_ic l_18_1 (by decide) ?_
  refine w_pi l_18_2 (oLog_sh h) ?_
  refine w_aln l_18_5 rfl ?_
  refine w_gr l_18_6 (oLog_sh h) (oLog_r2 h) ?_
  refine w_ic l_18_9 (by decide) ?_
  refine q_st [vr (s + 2), vi 0] [] l_18_10 (by decide) rfl rfl (Nat.le_of_ble_eq_true rfl) (by rw [mx_305]; exact Nat.le_of_ble_eq_true rfl) (by rw [rk_305]; decide) (s_305 (oLog_s2 h) (by decide)) ?_
  refine w_aln l_18_13 rfl ?_
  refine w_gr l_18_14 (oLog_sh h) (oLog_r3 h) ?_
  refine w_ic l_18_17 (by decide) ?_
  refine q_st [vr (s + 3), vi 0] [] l_18_18 (by decide) rfl rfl (Nat.le_of_ble_eq_true rfl) (by rw [mx_305]; exact Nat.le_of_ble_eq_true rfl) (by rw [rk_305]; decide) (s_305 (oLog_s3 h) (by decide)) ?_
  refine w_aln l_18_21 rfl ?_
  refine w_gr l_18_22 (oLog_sh h) (oLog_r4 h) ?_
  refine w_ic l_18_25 (by decide) ?_
  refine q_st [vr (s + 4), vi 0] [] l_18_26 (by decide) rfl rfl (Nat.le_of_ble_eq_true rfl) (by rw [mx_305]; exact Nat.le_of_ble_eq_true rfl) (by rw [rk_305]; decide) (s_305 (oLog_s4 h) (by decide)) ?_
  refine w_aln l_18_29 rfl ?_
  refine w_gr l_18_30 (oLog_sh h) (oLog_r5 h) ?_
  refine w_ic l_18_33 (by decide) ?_
  refine q_st [vr (s + 5), vi (-1)] [] l_18_34 (by decide) rfl rfl (Nat.le_of_ble_eq_true rfl) (by rw [mx_305]; exact Nat.le_of_ble_eq_true rfl) (by rw [rk_305]; decide) (s_305 (oLog_s5 h) (by decide)) ?_
  refine w_vr l_18_37 ?_
  exact ⟨rfl, rfl⟩

theorem mx_1 : mxl 1 = 3 := by decide +kernel
theorem mt_1 : mtc 1 = 0 := by decide +kernel
theorem rk_1 (as : List AV) : rkA 1 as = 0 := rfl
theorem l_1_0 : look 1 0 = some (.aload_n 0, 1, 0, 0, 0, 0) := by decide +kernel
theorem l_1_1 : look 1 1 = some (.getfield 39, 3, 0, 0, 0, 506) := by decide +kernel
theorem l_1_4 : look 1 4 = some (.bipush 120, 2, 0, 0, 0, 0) := by decide +kernel
theorem l_1_6 : look 1 6 = some (.if_icmp .lt 4, 3, 0, 0, 0, 0) := by decide +kernel
theorem l_1_9 : look 1 9 = some (.return_, 1, 0, 0, 0, 0) := by decide +kernel
theorem l_1_10 : look 1 10 = some (.aload_n 0, 1, 0, 0, 0, 0) := by decide +kernel
theorem l_1_11 : look 1 11 = some (.getfield 9, 3, 0, 2, 2, 510) := by decide +kernel
theorem l_1_14 : look 1 14 = some (.aload_n 0, 1, 0, 0, 0, 0) := by decide +kernel
theorem l_1_15 : look 1 15 = some (.getfield 39, 3, 0, 0, 0, 506) := by decide +kernel
theorem l_1_18 : look 1 18 = some (.iload_n 1, 1, 0, 0, 0, 0) := by decide +kernel
theorem l_1_19 : look 1 19 = some (.iastore, 1, 0, 0, 0, 0) := by decide +kernel
theorem l_1_20 : look 1 20 = some (.aload_n 0, 1, 0, 0, 0, 0) := by decide +kernel
theorem l_1_21 : look 1 21 = some (.getfield 15, 3, 0, 3, 2, 512) := by decide +kernel
theorem l_1_24 : look 1 24 = some (.aload_n 0, 1, 0, 0, 0, 0) := by decide +kernel
theorem l_1_25 : look 1 25 = some (.getfield 39, 3, 0, 0, 0, 506) := by decide +kernel
theorem l_1_28 : look 1 28 = some (.iload_n 2, 1, 0, 0, 0, 0) := by decide +kernel
theorem l_1_29 : look 1 29 = some (.iastore, 1, 0, 0, 0, 0) := by decide +kernel
theorem l_1_30 : look 1 30 = some (.aload_n 0, 1, 0, 0, 0, 0) := by decide +kernel
theorem l_1_31 : look 1 31 = some (.getfield 18, 3, 0, 4, 2, 514) := by decide +kernel
theorem l_1_34 : look 1 34 = some (.aload_n 0, 1, 0, 0, 0, 0) := by decide +kernel
theorem l_1_35 : look 1 35 = some (.getfield 39, 3, 0, 0, 0, 506) := by decide +kernel
theorem l_1_38 : look 1 38 = some (.iconst (-1), 1, 0, 0, 0, 0) := by decide +kernel
theorem l_1_39 : look 1 39 = some (.iastore, 1, 0, 0, 0, 0) := by decide +kernel
theorem l_1_40 : look 1 40 = some (.aload_n 0, 1, 0, 0, 0, 0) := by decide +kernel
theorem l_1_41 : look 1 41 = some (.dup, 1, 0, 0, 0, 0) := by decide +kernel
theorem l_1_42 : look 1 42 = some (.getfield 39, 3, 0, 0, 0, 506) := by decide +kernel
theorem l_1_45 : look 1 45 = some (.iconst 1, 1, 0, 0, 0, 0) := by decide +kernel
theorem l_1_46 : look 1 46 = some (.iadd, 1, 0, 0, 0, 0) := by decide +kernel
theorem l_1_47 : look 1 47 = some (.putfield 39, 3, 0, 0, 0, 506) := by decide +kernel
theorem l_1_50 : look 1 50 = some (.return_, 1, 0, 0, 0, 0) := by decide +kernel
theorem s_1 {I : Ix} (h : oHistory S T s) {c n : Nat} {p : Int} (hn : I s 0 = (n : Int)) (hn1 : n < 120) : CL xs 1 [vr s, vi ((c : Nat) : Int), vi p] (S, I, T, cc, zz) (FN none (S, up (up (up (up I (s + 1) n ((c : Nat) : Int)) (s + 2) n p) (s + 3) n (-1)) s 0 ((n + 1 : Nat) : Int), T, cc, zz)) := by
  refine CL_start (r := 0) (ls := [vr s, vi ((c : Nat) : Int), vi p]) (rk_1 _) rfl ?_
  refine w_aln l_1_0 rfl ?_
  refine w_gi ((n : Nat) : Int) l_1_1 (oHistory_sh h) hn ?_
  refine w_bp l_1_4 (by decide) ?_
  refine w_clt 10 l_1_6 (by decide) (fun _ => ?_) (fun hx => absurd hx (by omega))
  refine w_aln l_1_10 rfl ?_
  refine w_gr l_1_11 (oHistory_sh h) (oHistory_r2 h) ?_
  refine w_aln l_1_14 rfl ?_
  refine w_gi ((n : Nat) : Int) l_1_15 (oHistory_sh h) hn ?_
  refine w_iln l_1_18 rfl ?_
  refine w_iS n l_1_19 (oHistory_s2 h) rfl (by omega) ?_
  refine w_aln l_1_20 rfl ?_
  refine w_gr l_1_21 (oHistory_sh h) (oHistory_r3 h) ?_
  refine w_aln l_1_24 rfl ?_
  refine w_gi ((n : Nat) : Int) l_1_25 (oHistory_sh h) ((up_no (by omega)).trans (hn)) ?_
  refine w_iln l_1_28 rfl ?_
  refine w_iS n l_1_29 (oHistory_s3 h) rfl (by omega) ?_
  refine w_aln l_1_30 rfl ?_
  refine w_gr l_1_31 (oHistory_sh h) (oHistory_r4 h) ?_
  refine w_aln l_1_34 rfl ?_
  refine w_gi ((n : Nat) : Int) l_1_35 (oHistory_sh h) ((up_no (by omega)).trans ((up_no (by omega)).trans (hn))) ?_
  refine w_ic l_1_38 (by decide) ?_
  refine w_iS n l_1_39 (oHistory_s4 h) rfl (by omega) ?_
  refine w_aln l_1_40 rfl ?_
  refine w_dup l_1_41 rfl ?_
  refine w_gi ((n : Nat) : Int) l_1_42 (oHistory_sh h) ((up_no (by omega)).trans ((up_no (by omega)).trans ((up_no (by omega)).trans (hn)))) ?_
  refine w_ic l_1_45 (by decide) ?_
  refine w_add ((n + 1 : Nat) : Int) l_1_46 (by unfold wr; omega) ?_
  refine w_pi l_1_47 (oHistory_sh h) ?_
  refine w_vr l_1_50 ?_
  exact ⟨rfl, rfl⟩

theorem mx_2 : mxl 2 = 6 := by decide +kernel
theorem mt_2 : mtc 2 = 0 := by decide +kernel
theorem rk_2 (as : List AV) : rkA 2 as = 1 := rfl
theorem l_2_0 : look 2 0 = some (.aload_n 0, 1, 0, 0, 0, 0) := by decide +kernel
theorem l_2_1 : look 2 1 = some (.getfield 39, 3, 0, 0, 0, 506) := by decide +kernel
theorem l_2_4 : look 2 4 = some (.bipush 120, 2, 0, 0, 0, 0) := by decide +kernel
theorem l_2_6 : look 2 6 = some (.if_icmp .ge 12, 3, 0, 0, 0, 0) := by decide +kernel
theorem l_2_9 : look 2 9 = some (.aload_n 0, 1, 0, 0, 0, 0) := by decide +kernel
theorem l_2_10 : look 2 10 = some (.getfield 43, 3, 0, 1, 0, 508) := by decide +kernel
theorem l_2_13 : look 2 13 = some (.bipush 120, 2, 0, 0, 0, 0) := by decide +kernel
theorem l_2_15 : look 2 15 = some (.if_icmp .lt 4, 3, 0, 0, 0, 0) := by decide +kernel
theorem l_2_18 : look 2 18 = some (.return_, 1, 0, 0, 0, 0) := by decide +kernel
theorem l_2_19 : look 2 19 = some (.aload_n 0, 1, 0, 0, 0, 0) := by decide +kernel
theorem l_2_20 : look 2 20 = some (.getfield 21, 3, 0, 5, 2, 517) := by decide +kernel
theorem l_2_23 : look 2 23 = some (.aload_n 0, 1, 0, 0, 0, 0) := by decide +kernel
theorem l_2_24 : look 2 24 = some (.getfield 43, 3, 0, 1, 0, 508) := by decide +kernel
theorem l_2_27 : look 2 27 = some (.aload_n 0, 1, 0, 0, 0, 0) := by decide +kernel
theorem l_2_28 : look 2 28 = some (.getfield 39, 3, 0, 0, 0, 506) := by decide +kernel
theorem l_2_31 : look 2 31 = some (.iastore, 1, 0, 0, 0, 0) := by decide +kernel
theorem l_2_32 : look 2 32 = some (.aload_n 0, 1, 0, 0, 0, 0) := by decide +kernel
theorem l_2_33 : look 2 33 = some (.getfield 24, 3, 0, 6, 2, 519) := by decide +kernel
theorem l_2_36 : look 2 36 = some (.aload_n 0, 1, 0, 0, 0, 0) := by decide +kernel
theorem l_2_37 : look 2 37 = some (.getfield 43, 3, 0, 1, 0, 508) := by decide +kernel
theorem l_2_40 : look 2 40 = some (.iload_n 2, 1, 0, 0, 0, 0) := by decide +kernel
theorem l_2_41 : look 2 41 = some (.iastore, 1, 0, 0, 0, 0) := by decide +kernel
theorem l_2_42 : look 2 42 = some (.aload_n 0, 1, 0, 0, 0, 0) := by decide +kernel
theorem l_2_43 : look 2 43 = some (.getfield 27, 3, 0, 7, 2, 522) := by decide +kernel
theorem l_2_46 : look 2 46 = some (.aload_n 0, 1, 0, 0, 0, 0) := by decide +kernel
theorem l_2_47 : look 2 47 = some (.getfield 43, 3, 0, 1, 0, 508) := by decide +kernel
theorem l_2_50 : look 2 50 = some (.iload_n 3, 1, 0, 0, 0, 0) := by decide +kernel
theorem l_2_51 : look 2 51 = some (.iastore, 1, 0, 0, 0, 0) := by decide +kernel
theorem l_2_52 : look 2 52 = some (.aload_n 0, 1, 0, 0, 0, 0) := by decide +kernel
theorem l_2_53 : look 2 53 = some (.getfield 30, 3, 0, 8, 2, 525) := by decide +kernel
theorem l_2_56 : look 2 56 = some (.aload_n 0, 1, 0, 0, 0, 0) := by decide +kernel
theorem l_2_57 : look 2 57 = some (.getfield 43, 3, 0, 1, 0, 508) := by decide +kernel
theorem l_2_60 : look 2 60 = some (.iload 4, 2, 0, 0, 0, 0) := by decide +kernel
theorem l_2_62 : look 2 62 = some (.iastore, 1, 0, 0, 0, 0) := by decide +kernel
theorem l_2_63 : look 2 63 = some (.aload_n 0, 1, 0, 0, 0, 0) := by decide +kernel
theorem l_2_64 : look 2 64 = some (.getfield 33, 3, 0, 9, 2, 527) := by decide +kernel
theorem l_2_67 : look 2 67 = some (.aload_n 0, 1, 0, 0, 0, 0) := by decide +kernel
theorem l_2_68 : look 2 68 = some (.getfield 43, 3, 0, 1, 0, 508) := by decide +kernel
theorem l_2_71 : look 2 71 = some (.iload 5, 2, 0, 0, 0, 0) := by decide +kernel
theorem l_2_73 : look 2 73 = some (.iastore, 1, 0, 0, 0, 0) := by decide +kernel
theorem l_2_74 : look 2 74 = some (.aload_n 0, 1, 0, 0, 0, 0) := by decide +kernel
theorem l_2_75 : look 2 75 = some (.iconst 0, 1, 0, 0, 0, 0) := by decide +kernel
theorem l_2_76 : look 2 76 = some (.iload_n 1, 1, 0, 0, 0, 0) := by decide +kernel
theorem l_2_77 : look 2 77 = some (.invokevirtual 46, 3, 1, 3, 0, 1222) := by decide +kernel
theorem l_2_80 : look 2 80 = some (.aload_n 0, 1, 0, 0, 0, 0) := by decide +kernel
theorem l_2_81 : look 2 81 = some (.getfield 18, 3, 0, 4, 2, 514) := by decide +kernel
theorem l_2_84 : look 2 84 = some (.aload_n 0, 1, 0, 0, 0, 0) := by decide +kernel
theorem l_2_85 : look 2 85 = some (.getfield 39, 3, 0, 0, 0, 506) := by decide +kernel
theorem l_2_88 : look 2 88 = some (.iconst 1, 1, 0, 0, 0, 0) := by decide +kernel
theorem l_2_89 : look 2 89 = some (.isub, 1, 0, 0, 0, 0) := by decide +kernel
theorem l_2_90 : look 2 90 = some (.aload_n 0, 1, 0, 0, 0, 0) := by decide +kernel
theorem l_2_91 : look 2 91 = some (.getfield 43, 3, 0, 1, 0, 508) := by decide +kernel
theorem l_2_94 : look 2 94 = some (.iastore, 1, 0, 0, 0, 0) := by decide +kernel
theorem l_2_95 : look 2 95 = some (.aload_n 0, 1, 0, 0, 0, 0) := by decide +kernel
theorem l_2_96 : look 2 96 = some (.dup, 1, 0, 0, 0, 0) := by decide +kernel
theorem l_2_97 : look 2 97 = some (.getfield 43, 3, 0, 1, 0, 508) := by decide +kernel
theorem l_2_100 : look 2 100 = some (.iconst 1, 1, 0, 0, 0, 0) := by decide +kernel
theorem l_2_101 : look 2 101 = some (.iadd, 1, 0, 0, 0, 0) := by decide +kernel
theorem l_2_102 : look 2 102 = some (.putfield 43, 3, 0, 1, 0, 508) := by decide +kernel
theorem l_2_105 : look 2 105 = some (.return_, 1, 0, 0, 0, 0) := by decide +kernel
theorem s_2 {I : Ix} (h : oHistory S T s) {p f t u r n m : Nat} (hn : I s 0 = (n : Int)) (hn1 : n < 120) (hm : I s 1 = (m : Int)) (hm1 : m ≤ n) : CL xs 2 [vr s, vi ((p : Nat) : Int), vi ((f : Nat) : Int), vi ((t : Nat) : Int), vi ((u : Nat) : Int), vi ((r : Nat) : Int)] (S, I, T, cc, zz) (FN none (S, up (up (up (up (up (up (up (up (up (up (up I (s + 4) m ((n : Nat) : Int)) (s + 5) m ((f : Nat) : Int)) (s + 6) m ((t : Nat) : Int)) (s + 7) m ((u : Nat) : Int)) (s + 8) m ((r : Nat) : Int)) (s + 1) n ((0 : Nat) : Int)) (s + 2) n ((p : Nat) : Int)) (s + 3) n (-1)) s 0 (((n + 1) : Nat) : Int)) (s + 3) n ((m : Nat) : Int)) s 1 ((m + 1 : Nat) : Int), T, cc, zz)) := by
  refine CL_start (r := 1) (ls := [vr s, vi ((p : Nat) : Int), vi ((f : Nat) : Int), vi ((t : Nat) : Int), vi ((u : Nat) : Int), vi ((r : Nat) : Int)]) (rk_2 _) rfl ?_
  refine w_aln l_2_0 rfl ?_
  refine w_gi ((n : Nat) : Int) l_2_1 (oHistory_sh h) hn ?_
  refine w_bp l_2_4 (by decide) ?_
  refine w_cge 18 l_2_6 (by decide) (fun hx => absurd hx (by omega)) (fun _ => ?_)
  refine w_aln l_2_9 rfl ?_
  refine w_gi ((m : Nat) : Int) l_2_10 (oHistory_sh h) hm ?_
  refine w_bp l_2_13 (by decide) ?_
  refine w_clt 19 l_2_15 (by decide) (fun _ => ?_) (fun hx => absurd hx (by omega))
  refine w_aln l_2_19 rfl ?_
  refine w_gr l_2_20 (oHistory_sh h) (oHistory_r5 h) ?_
  refine w_aln l_2_23 rfl ?_
  refine w_gi ((m : Nat) : Int) l_2_24 (oHistory_sh h) hm ?_
  refine w_aln l_2_27 rfl ?_
  refine w_gi ((n : Nat) : Int) l_2_28 (oHistory_sh h) hn ?_
  refine w_iS m l_2_31 (oHistory_s5 h) rfl (by omega) ?_
  refine w_aln l_2_32 rfl ?_
  refine w_gr l_2_33 (oHistory_sh h) (oHistory_r6 h) ?_
  refine w_aln l_2_36 rfl ?_
  refine w_gi ((m : Nat) : Int) l_2_37 (oHistory_sh h) ((up_no (by omega)).trans (hm)) ?_
  refine w_iln l_2_40 rfl ?_
  refine w_iS m l_2_41 (oHistory_s6 h) rfl (by omega) ?_
  refine w_aln l_2_42 rfl ?_
  refine w_gr l_2_43 (oHistory_sh h) (oHistory_r7 h) ?_
  refine w_aln l_2_46 rfl ?_
  refine w_gi ((m : Nat) : Int) l_2_47 (oHistory_sh h) ((up_no (by omega)).trans ((up_no (by omega)).trans (hm))) ?_
  refine w_iln l_2_50 rfl ?_
  refine w_iS m l_2_51 (oHistory_s7 h) rfl (by omega) ?_
  refine w_aln l_2_52 rfl ?_
  refine w_gr l_2_53 (oHistory_sh h) (oHistory_r8 h) ?_
  refine w_aln l_2_56 rfl ?_
  refine w_gi ((m : Nat) : Int) l_2_57 (oHistory_sh h) ((up_no (by omega)).trans ((up_no (by omega)).trans ((up_no (by omega)).trans (hm)))) ?_
  refine w_il l_2_60 rfl ?_
  refine w_iS m l_2_62 (oHistory_s8 h) rfl (by omega) ?_
  refine w_aln l_2_63 rfl ?_
  refine w_gr l_2_64 (oHistory_sh h) (oHistory_r9 h) ?_
  refine w_aln l_2_67 rfl ?_
  refine w_gi ((m : Nat) : Int) l_2_68 (oHistory_sh h) ((up_no (by omega)).trans ((up_no (by omega)).trans ((up_no (by omega)).trans ((up_no (by omega)).trans (hm))))) ?_
  refine w_il l_2_71 rfl ?_
  refine w_iS m l_2_73 (oHistory_s9 h) rfl (by omega) ?_
  refine w_aln l_2_74 rfl ?_
  refine w_ic l_2_75 (by decide) ?_
  refine w_iln l_2_76 rfl ?_
  refine q_iv [vi 0, vi ((p : Nat) : Int)] [] l_2_77 rfl rfl (Nat.le_of_ble_eq_true rfl) (by rw [mx_1]; exact Nat.le_of_ble_eq_true rfl) (by rw [mt_1]; exact oHistory_sh h) (by rw [mt_1]; decide) (by rw [rk_1]; decide) (s_1 (c := 0) (n := n) h ((up_no (by omega)).trans ((up_no (by omega)).trans ((up_no (by omega)).trans ((up_no (by omega)).trans ((up_no (by omega)).trans (hn)))))) hn1) ?_
  refine w_aln l_2_80 rfl ?_
  refine w_gr l_2_81 (oHistory_sh h) (oHistory_r4 h) ?_
  refine w_aln l_2_84 rfl ?_
  refine w_gi (((n + 1) : Nat) : Int) l_2_85 (oHistory_sh h) up_eq ?_
  refine w_ic l_2_88 (by decide) ?_
  refine w_sub ((n : Nat) : Int) l_2_89 (by unfold wr; omega) ?_
  refine w_aln l_2_90 rfl ?_
  refine w_gi ((m : Nat) : Int) l_2_91 (oHistory_sh h) ((up_nj (by omega)).trans ((up_no (by omega)).trans ((up_no (by omega)).trans ((up_no (by omega)).trans ((up_no (by omega)).trans ((up_no (by omega)).trans ((up_no (by omega)).trans ((up_no (by omega)).trans ((up_no (by omega)).trans (hm)))))))))) ?_
  refine w_iS n l_2_94 (oHistory_s4 h) rfl (by omega) ?_
  refine w_aln l_2_95 rfl ?_
  refine w_dup l_2_96 rfl ?_
  refine w_gi ((m : Nat) : Int) l_2_97 (oHistory_sh h) ((up_no (by omega)).trans ((up_nj (by omega)).trans ((up_no (by omega)).trans ((up_no (by omega)).trans ((up_no (by omega)).trans ((up_no (by omega)).trans ((up_no (by omega)).trans ((up_no (by omega)).trans ((up_no (by omega)).trans ((up_no (by omega)).trans (hm))))))))))) ?_
  refine w_ic l_2_100 (by decide) ?_
  refine w_add ((m + 1 : Nat) : Int) l_2_101 (by unfold wr; omega) ?_
  refine w_pi l_2_102 (oHistory_sh h) ?_
  refine w_vr l_2_105 ?_
  exact ⟨rfl, rfl⟩

theorem mx_5 : mxl 5 = 2 := by decide +kernel
theorem mt_5 : mtc 5 = 0 := by decide +kernel
theorem rk_5 (as : List AV) : rkA 5 as = 0 := rfl
theorem l_5_0 : look 5 0 = some (.iload_n 1, 1, 0, 0, 0, 0) := by decide +kernel
theorem l_5_1 : look 5 1 = some (.ifCond .lt 20, 3, 0, 0, 0, 0) := by decide +kernel
theorem l_5_4 : look 5 4 = some (.iload_n 1, 1, 0, 0, 0, 0) := by decide +kernel
theorem l_5_5 : look 5 5 = some (.aload_n 0, 1, 0, 0, 0, 0) := by decide +kernel
theorem l_5_6 : look 5 6 = some (.getfield 43, 3, 0, 1, 0, 508) := by decide +kernel
theorem l_5_9 : look 5 9 = some (.if_icmp .ge 12, 3, 0, 0, 0, 0) := by decide +kernel
theorem l_5_12 : look 5 12 = some (.aload_n 0, 1, 0, 0, 0, 0) := by decide +kernel
theorem l_5_13 : look 5 13 = some (.getfield 30, 3, 0, 8, 2, 525) := by decide +kernel
theorem l_5_16 : look 5 16 = some (.iload_n 1, 1, 0, 0, 0, 0) := by decide +kernel
theorem l_5_17 : look 5 17 = some (.iaload, 1, 0, 0, 0, 0) := by decide +kernel
theorem l_5_18 : look 5 18 = some (.goto 4, 3, 0, 0, 0, 0) := by decide +kernel
theorem l_5_21 : look 5 21 = some (.iconst 0, 1, 0, 0, 0, 0) := by decide +kernel
theorem l_5_22 : look 5 22 = some (.ireturn, 1, 0, 0, 0, 0) := by decide +kernel
theorem s_5 {I : Ix} (h : oHistory S T s) {k m : Nat} (hm : I s 1 = (m : Int)) (hk : k < m) (hm1 : m ≤ 120) : CL xs 5 [vr s, vi ((k : Nat) : Int)] (S, I, T, cc, zz) (FN (some (vi (I (s + 7) k))) (S, I, T, cc, zz)) := by
  refine CL_start (r := 0) (ls := [vr s, vi ((k : Nat) : Int)]) (rk_5 _) rfl ?_
  refine w_iln l_5_0 rfl ?_
  refine w_zlt 21 l_5_1 (by decide) (fun hx => absurd hx (by omega)) (fun _ => ?_)
  refine w_iln l_5_4 rfl ?_
  refine w_aln l_5_5 rfl ?_
  refine w_gi ((m : Nat) : Int) l_5_6 (oHistory_sh h) hm ?_
  refine w_cge 21 l_5_9 (by decide) (fun hx => absurd hx (by omega)) (fun _ => ?_)
  refine w_aln l_5_12 rfl ?_
  refine w_gr l_5_13 (oHistory_sh h) (oHistory_r8 h) ?_
  refine w_iln l_5_16 rfl ?_
  refine w_ia k (I (s + 7) k) l_5_17 (oHistory_s8 h) rfl (by omega) rfl ?_
  refine w_go 22 l_5_18 (by decide) ?_
  refine w_ir l_5_22 (Or.inl rfl) ?_
  exact ⟨rfl, rfl⟩

theorem mx_6 : mxl 6 = 2 := by decide +kernel
theorem mt_6 : mtc 6 = 0 := by decide +kernel
theorem rk_6 (as : List AV) : rkA 6 as = 0 := rfl
theorem l_6_0 : look 6 0 = some (.iload_n 1, 1, 0, 0, 0, 0) := by decide +kernel
theorem l_6_1 : look 6 1 = some (.ifCond .lt 20, 3, 0, 0, 0, 0) := by decide +kernel
theorem l_6_4 : look 6 4 = some (.iload_n 1, 1, 0, 0, 0, 0) := by decide +kernel
theorem l_6_5 : look 6 5 = some (.aload_n 0, 1, 0, 0, 0, 0) := by decide +kernel
theorem l_6_6 : look 6 6 = some (.getfield 43, 3, 0, 1, 0, 508) := by decide +kernel
theorem l_6_9 : look 6 9 = some (.if_icmp .ge 12, 3, 0, 0, 0, 0) := by decide +kernel
theorem l_6_12 : look 6 12 = some (.aload_n 0, 1, 0, 0, 0, 0) := by decide +kernel
theorem l_6_13 : look 6 13 = some (.getfield 33, 3, 0, 9, 2, 527) := by decide +kernel
theorem l_6_16 : look 6 16 = some (.iload_n 1, 1, 0, 0, 0, 0) := by decide +kernel
theorem l_6_17 : look 6 17 = some (.iaload, 1, 0, 0, 0, 0) := by decide +kernel
theorem l_6_18 : look 6 18 = some (.goto 4, 3, 0, 0, 0, 0) := by decide +kernel
theorem l_6_21 : look 6 21 = some (.iconst 0, 1, 0, 0, 0, 0) := by decide +kernel
theorem l_6_22 : look 6 22 = some (.ireturn, 1, 0, 0, 0, 0) := by decide +kernel
theorem s_6 {I : Ix} (h : oHistory S T s) {k m : Nat} (hm : I s 1 = (m : Int)) (hk : k < m) (hm1 : m ≤ 120) : CL xs 6 [vr s, vi ((k : Nat) : Int)] (S, I, T, cc, zz) (FN (some (vi (I (s + 8) k))) (S, I, T, cc, zz)) := by
  refine CL_start (r := 0) (ls := [vr s, vi ((k : Nat) : Int)]) (rk_6 _) rfl ?_
  refine w_iln l_6_0 rfl ?_
  refine w_zlt 21 l_6_1 (by decide) (fun hx => absurd hx (by omega)) (fun _ => ?_)
  refine w_iln l_6_4 rfl ?_
  refine w_aln l_6_5 rfl ?_
  refine w_gi ((m : Nat) : Int) l_6_6 (oHistory_sh h) hm ?_
  refine w_cge 21 l_6_9 (by decide) (fun hx => absurd hx (by omega)) (fun _ => ?_)
  refine w_aln l_6_12 rfl ?_
  refine w_gr l_6_13 (oHistory_sh h) (oHistory_r9 h) ?_
  refine w_iln l_6_16 rfl ?_
  refine w_ia k (I (s + 8) k) l_6_17 (oHistory_s9 h) rfl (by omega) rfl ?_
  refine w_go 22 l_6_18 (by decide) ?_
  refine w_ir l_6_22 (Or.inl rfl) ?_
  exact ⟨rfl, rfl⟩

theorem mx_4 : mxl 4 = 2 := by decide +kernel
theorem mt_4 : mtc 4 = 0 := by decide +kernel
theorem rk_4 (as : List AV) : rkA 4 as = 0 := rfl
theorem l_4_0 : look 4 0 = some (.aload_n 0, 1, 0, 0, 0, 0) := by decide +kernel
theorem l_4_1 : look 4 1 = some (.getfield 15, 3, 0, 3, 2, 512) := by decide +kernel
theorem l_4_4 : look 4 4 = some (.aload_n 0, 1, 0, 0, 0, 0) := by decide +kernel
theorem l_4_5 : look 4 5 = some (.getfield 21, 3, 0, 5, 2, 517) := by decide +kernel
theorem l_4_8 : look 4 8 = some (.iload_n 1, 1, 0, 0, 0, 0) := by decide +kernel
theorem l_4_9 : look 4 9 = some (.iaload, 1, 0, 0, 0, 0) := by decide +kernel
theorem l_4_10 : look 4 10 = some (.iaload, 1, 0, 0, 0, 0) := by decide +kernel
theorem l_4_11 : look 4 11 = some (.ireturn, 1, 0, 0, 0, 0) := by decide +kernel
theorem s_4 {I : Ix} (h : oHistory S T s) {k a : Nat} (hk : k < 120) (ha : I (s + 4) k = (a : Int)) (ha1 : a < 120) : CL xs 4 [vr s, vi ((k : Nat) : Int)] (S, I, T, cc, zz) (FN (some (vi (I (s + 2) a))) (S, I, T, cc, zz)) := by
  refine CL_start (r := 0) (ls := [vr s, vi ((k : Nat) : Int)]) (rk_4 _) rfl ?_
  refine w_aln l_4_0 rfl ?_
  refine w_gr l_4_1 (oHistory_sh h) (oHistory_r3 h) ?_
  refine w_aln l_4_4 rfl ?_
  refine w_gr l_4_5 (oHistory_sh h) (oHistory_r5 h) ?_
  refine w_iln l_4_8 rfl ?_
  refine w_ia k ((a : Nat) : Int) l_4_9 (oHistory_s5 h) rfl (by omega) ha ?_
  refine w_ia a (I (s + 2) a) l_4_10 (oHistory_s3 h) rfl (by omega) rfl ?_
  refine w_ir l_4_11 (Or.inl rfl) ?_
  exact ⟨rfl, rfl⟩

theorem mx_10 : mxl 10 = 2 := by decide +kernel
theorem mt_10 : mtc 10 = 1 := by decide +kernel
theorem rk_10 (as : List AV) : rkA 10 as = 0 := rfl
theorem l_10_0 : look 10 0 = some (.aload_n 0, 1, 0, 0, 0, 0) := by decide +kernel
theorem l_10_1 : look 10 1 = some (.getfield 18, 3, 1, 3, 2, 386) := by decide +kernel
theorem l_10_4 : look 10 4 = some (.iload_n 1, 1, 0, 0, 0, 0) := by decide +kernel
theorem l_10_5 : look 10 5 = some (.iaload, 1, 0, 0, 0, 0) := by decide +kernel
theorem l_10_6 : look 10 6 = some (.iconst (-1), 1, 0, 0, 0, 0) := by decide +kernel
theorem l_10_7 : look 10 7 = some (.if_icmp .eq 7, 3, 0, 0, 0, 0) := by decide +kernel
theorem l_10_10 : look 10 10 = some (.iconst 1, 1, 0, 0, 0, 0) := by decide +kernel
theorem l_10_11 : look 10 11 = some (.goto 4, 3, 0, 0, 0, 0) := by decide +kernel
theorem l_10_14 : look 10 14 = some (.iconst 0, 1, 0, 0, 0, 0) := by decide +kernel
theorem l_10_15 : look 10 15 = some (.ireturn, 1, 0, 0, 1, 0) := by decide +kernel
theorem s_10 {I : Ix} (h : oLimits S T s) {p : Nat} (hp : p < 4) : CL xs 10 [vr s, vi ((p : Nat) : Int)] (S, I, T, cc, zz) (FN (some (vi (b2i (decide (I (s + 3) p ≠ -1))))) (S, I, T, cc, zz)) := by
  refine CL_start (r := 0) (ls := [vr s, vi ((p : Nat) : Int)]) (rk_10 _) rfl ?_
  refine w_aln l_10_0 rfl ?_
  refine w_gr l_10_1 (oLimits_sh h) (oLimits_r3 h) ?_
  refine w_iln l_10_4 rfl ?_
  refine w_ia p (I (s + 3) p) l_10_5 (oLimits_s3 h) rfl (by omega) rfl ?_
  refine w_ic l_10_6 (by decide) ?_
  refine w_ceq 14 l_10_7 (by decide) (fun h1 => ?_) (fun h1 => ?_)
  · skip
    refine w_ic l_10_14 (by decide) ?_
    refine w_ir l_10_15 (by decide) ?_
    first
      | (rw [show decide (I (s + 3) p ≠ -1) = true from decide_eq_true (by omega)]; exact ⟨rfl, rfl⟩)
      | (rw [show decide (I (s + 3) p ≠ -1) = false from decide_eq_false (by omega)]; exact ⟨rfl, rfl⟩)
  · skip
    refine w_ic l_10_10 (by decide) ?_
    refine w_go 15 l_10_11 (by decide) ?_
    refine w_ir l_10_15 (by decide) ?_
    first
      | (rw [show decide (I (s + 3) p ≠ -1) = true from decide_eq_true (by omega)]; exact ⟨rfl, rfl⟩)
      | (rw [show decide (I (s + 3) p ≠ -1) = false from decide_eq_false (by omega)]; exact ⟨rfl, rfl⟩)

theorem mx_11 : mxl 11 = 2 := by decide +kernel
theorem mt_11 : mtc 11 = 1 := by decide +kernel
theorem rk_11 (as : List AV) : rkA 11 as = 0 := rfl
theorem l_11_0 : look 11 0 = some (.aload_n 0, 1, 0, 0, 0, 0) := by decide +kernel
theorem l_11_1 : look 11 1 = some (.getfield 37, 3, 1, 8, 0, 404) := by decide +kernel
theorem l_11_4 : look 11 4 = some (.iload_n 1, 1, 0, 0, 0, 0) := by decide +kernel
theorem l_11_5 : look 11 5 = some (.ishr, 1, 0, 0, 0, 0) := by decide +kernel
theorem l_11_6 : look 11 6 = some (.iconst 1, 1, 0, 0, 0, 0) := by decide +kernel
theorem l_11_7 : look 11 7 = some (.iand, 1, 0, 0, 0, 0) := by decide +kernel
theorem l_11_8 : look 11 8 = some (.ifCond .eq 7, 3, 0, 0, 0, 0) := by decide +kernel
theorem l_11_11 : look 11 11 = some (.iconst 1, 1, 0, 0, 0, 0) := by decide +kernel
theorem l_11_12 : look 11 12 = some (.goto 4, 3, 0, 0, 0, 0) := by decide +kernel
theorem l_11_15 : look 11 15 = some (.iconst 0, 1, 0, 0, 0, 0) := by decide +kernel
theorem l_11_16 : look 11 16 = some (.ireturn, 1, 0, 0, 1, 0) := by decide +kernel
theorem s_11 {I : Ix} (h : oLimits S T s) {d k : Nat} (hd : I s 8 = (d : Int)) (hd1 : d < 256) (hk : k < 8) : CL xs 11 [vr s, vi ((k : Nat) : Int)] (S, I, T, cc, zz) (FN (some (vi (b2i (decide (bt d k ≠ 0))))) (S, I, T, cc, zz)) := by
  refine CL_start (r := 0) (ls := [vr s, vi ((k : Nat) : Int)]) (rk_11 _) rfl ?_
  refine w_aln l_11_0 rfl ?_
  refine w_gi ((d : Nat) : Int) l_11_1 (oLimits_sh h) hd ?_
  refine w_iln l_11_4 rfl ?_
  refine w_shr (((d / 2 ^ k) : Nat) : Int) l_11_5 (shr8 d hd1 k hk) ?_
  refine w_ic l_11_6 (by decide) ?_
  refine w_and (((bt d k) : Nat) : Int) l_11_7 (and1 _) ?_
  refine w_zeq 15 l_11_8 (by decide) (fun h1 => ?_) (fun h1 => ?_)
  · skip
    refine w_ic l_11_15 (by decide) ?_
    refine w_ir l_11_16 (by decide) ?_
    first
      | (rw [show decide (bt d k ≠ 0) = true from decide_eq_true (by omega)]; exact ⟨rfl, rfl⟩)
      | (rw [show decide (bt d k ≠ 0) = false from decide_eq_false (by omega)]; exact ⟨rfl, rfl⟩)
  · skip
    refine w_ic l_11_11 (by decide) ?_
    refine w_go 16 l_11_12 (by decide) ?_
    refine w_ir l_11_16 (by decide) ?_
    first
      | (rw [show decide (bt d k ≠ 0) = true from decide_eq_true (by omega)]; exact ⟨rfl, rfl⟩)
      | (rw [show decide (bt d k ≠ 0) = false from decide_eq_false (by omega)]; exact ⟨rfl, rfl⟩)

theorem mx_9 : mxl 9 = 2 := by decide +kernel
theorem mt_9 : mtc 9 = 1 := by decide +kernel
theorem rk_9 (as : List AV) : rkA 9 as = 0 := rfl
theorem l_9_0 : look 9 0 = some (.aload_n 0, 1, 0, 0, 0, 0) := by decide +kernel
theorem l_9_1 : look 9 1 = some (.aload_n 1, 1, 0, 0, 0, 0) := by decide +kernel
theorem l_9_2 : look 9 2 = some (.getfield 24, 3, 1, 0, 0, 375) := by decide +kernel
theorem l_9_5 : look 9 5 = some (.putfield 24, 3, 1, 0, 0, 375) := by decide +kernel
theorem l_9_8 : look 9 8 = some (.aload_n 1, 1, 0, 0, 0, 0) := by decide +kernel
theorem l_9_9 : look 9 9 = some (.getfield 9, 3, 1, 1, 2, 380) := by decide +kernel
theorem l_9_12 : look 9 12 = some (.iconst 0, 1, 0, 0, 0, 0) := by decide +kernel
theorem l_9_13 : look 9 13 = some (.aload_n 0, 1, 0, 0, 0, 0) := by decide +kernel
theorem l_9_14 : look 9 14 = some (.getfield 9, 3, 1, 1, 2, 380) := by decide +kernel
theorem l_9_17 : look 9 17 = some (.iconst 0, 1, 0, 0, 0, 0) := by decide +kernel
theorem l_9_18 : look 9 18 = some (.iconst 4, 1, 0, 0, 0, 0) := by decide +kernel
theorem l_9_19 : look 9 19 = some (.invokestatic 43, 3, 0, 5, 6, 702) := by decide +kernel
theorem l_9_22 : look 9 22 = some (.aload_n 1, 1, 0, 0, 0, 0) := by decide +kernel
theorem l_9_23 : look 9 23 = some (.getfield 15, 3, 1, 2, 2, 383) := by decide +kernel
theorem l_9_26 : look 9 26 = some (.iconst 0, 1, 0, 0, 0, 0) := by decide +kernel
theorem l_9_27 : look 9 27 = some (.aload_n 0, 1, 0, 0, 0, 0) := by decide +kernel
theorem l_9_28 : look 9 28 = some (.getfield 15, 3, 1, 2, 2, 383) := by decide +kernel
theorem l_9_31 : look 9 31 = some (.iconst 0, 1, 0, 0, 0, 0) := by decide +kernel
theorem l_9_32 : look 9 32 = some (.iconst 4, 1, 0, 0, 0, 0) := by decide +kernel
theorem l_9_33 : look 9 33 = some (.invokestatic 43, 3, 0, 5, 6, 702) := by decide +kernel
theorem l_9_36 : look 9 36 = some (.aload_n 1, 1, 0, 0, 0, 0) := by decide +kernel
theorem l_9_37 : look 9 37 = some (.getfield 18, 3, 1, 3, 2, 386) := by decide +kernel
theorem l_9_40 : look 9 40 = some (.iconst 0, 1, 0, 0, 0, 0) := by decide +kernel
theorem l_9_41 : look 9 41 = some (.aload_n 0, 1, 0, 0, 0, 0) := by decide +kernel
theorem l_9_42 : look 9 42 = some (.getfield 18, 3, 1, 3, 2, 386) := by decide +kernel
theorem l_9_45 : look 9 45 = some (.iconst 0, 1, 0, 0, 0, 0) := by decide +kernel
theorem l_9_46 : look 9 46 = some (.iconst 4, 1, 0, 0, 0, 0) := by decide +kernel
theorem l_9_47 : look 9 47 = some (.invokestatic 43, 3, 0, 5, 6, 702) := by decide +kernel
theorem l_9_50 : look 9 50 = some (.aload_n 1, 1, 0, 0, 0, 0) := by decide +kernel
theorem l_9_51 : look 9 51 = some (.getfield 21, 3, 1, 4, 2, 390) := by decide +kernel
theorem l_9_54 : look 9 54 = some (.iconst 0, 1, 0, 0, 0, 0) := by decide +kernel
theorem l_9_55 : look 9 55 = some (.aload_n 0, 1, 0, 0, 0, 0) := by decide +kernel
theorem l_9_56 : look 9 56 = some (.getfield 21, 3, 1, 4, 2, 390) := by decide +kernel
theorem l_9_59 : look 9 59 = some (.iconst 0, 1, 0, 0, 0, 0) := by decide +kernel
theorem l_9_60 : look 9 60 = some (.iconst 4, 1, 0, 0, 0, 0) := by decide +kernel
theorem l_9_61 : look 9 61 = some (.invokestatic 43, 3, 0, 5, 6, 702) := by decide +kernel
theorem l_9_64 : look 9 64 = some (.aload_n 0, 1, 0, 0, 0, 0) := by decide +kernel
theorem l_9_65 : look 9 65 = some (.aload_n 1, 1, 0, 0, 0, 0) := by decide +kernel
theorem l_9_66 : look 9 66 = some (.getfield 28, 3, 1, 5, 0, 395) := by decide +kernel
theorem l_9_69 : look 9 69 = some (.putfield 28, 3, 1, 5, 0, 395) := by decide +kernel
theorem l_9_72 : look 9 72 = some (.aload_n 0, 1, 0, 0, 0, 0) := by decide +kernel
theorem l_9_73 : look 9 73 = some (.aload_n 1, 1, 0, 0, 0, 0) := by decide +kernel
theorem l_9_74 : look 9 74 = some (.getfield 31, 3, 1, 6, 0, 398) := by decide +kernel
theorem l_9_77 : look 9 77 = some (.putfield 31, 3, 1, 6, 0, 398) := by decide +kernel
theorem l_9_80 : look 9 80 = some (.aload_n 0, 1, 0, 0, 0, 0) := by decide +kernel
theorem l_9_81 : look 9 81 = some (.aload_n 1, 1, 0, 0, 0, 0) := by decide +kernel
theorem l_9_82 : look 9 82 = some (.getfield 34, 3, 1, 7, 0, 401) := by decide +kernel
theorem l_9_85 : look 9 85 = some (.putfield 34, 3, 1, 7, 0, 401) := by decide +kernel
theorem l_9_88 : look 9 88 = some (.aload_n 0, 1, 0, 0, 0, 0) := by decide +kernel
theorem l_9_89 : look 9 89 = some (.aload_n 1, 1, 0, 0, 0, 0) := by decide +kernel
theorem l_9_90 : look 9 90 = some (.getfield 37, 3, 1, 8, 0, 404) := by decide +kernel
theorem l_9_93 : look 9 93 = some (.putfield 37, 3, 1, 8, 0, 404) := by decide +kernel
theorem l_9_96 : look 9 96 = some (.aload_n 0, 1, 0, 0, 0, 0) := by decide +kernel
theorem l_9_97 : look 9 97 = some (.aload_n 1, 1, 0, 0, 0, 0) := by decide +kernel
theorem l_9_98 : look 9 98 = some (.getfield 40, 3, 1, 9, 0, 406) := by decide +kernel
theorem l_9_101 : look 9 101 = some (.putfield 40, 3, 1, 9, 0, 406) := by decide +kernel
theorem l_9_104 : look 9 104 = some (.return_, 1, 0, 0, 0, 0) := by decide +kernel
theorem s_9 {I : Ix} (h : oLimits S T s) {x : Nat} (hx : oLimits S T x) (hsx : x + 4 < s ∨ s + 4 < x) : CL xs 9 [vr s, vr x] (S, I, T, cc, zz) (FN none (S, up (up (up (up (up (cpy (cpy (cpy (cpy (up I s 0 (I x 0)) (x + 1) 0 (s + 1) 0 4) (x + 2) 0 (s + 2) 0 4) (x + 3) 0 (s + 3) 0 4) (x + 4) 0 (s + 4) 0 4) s 5 (I x 5)) s 6 (I x 6)) s 7 (I x 7)) s 8 (I x 8)) s 9 (I x 9), T, cc, zz)) := by
  refine CL_start (r := 0) (ls := [vr s, vr x]) (rk_9 _) rfl ?_
  refine w_aln l_9_0 rfl ?_
  refine w_aln l_9_1 rfl ?_
  refine w_gi (I x 0) l_9_2 (oLimits_sh hx) rfl ?_
  refine w_pi l_9_5 (oLimits_sh h) ?_
  refine w_aln l_9_8 rfl ?_
  refine w_gr l_9_9 (oLimits_sh hx) (oLimits_r1 hx) ?_
  refine w_ic l_9_12 (by decide) ?_
  refine w_aln l_9_13 rfl ?_
  refine w_gr l_9_14 (oLimits_sh h) (oLimits_r1 h) ?_
  refine w_ic l_9_17 (by decide) ?_
  refine w_ic l_9_18 (by decide) ?_
  refine w_cp 0 0 4 l_9_19 (oLimits_s1 hx) (oLimits_s1 h) (by decide) rfl rfl rfl (by omega) (by omega) (by decide) ?_
  refine w_aln l_9_22 rfl ?_
  refine w_gr l_9_23 (oLimits_sh hx) (oLimits_r2 hx) ?_
  refine w_ic l_9_26 (by decide) ?_
  refine w_aln l_9_27 rfl ?_
  refine w_gr l_9_28 (oLimits_sh h) (oLimits_r2 h) ?_
  refine w_ic l_9_31 (by decide) ?_
  refine w_ic l_9_32 (by decide) ?_
  refine w_cp 0 0 4 l_9_33 (oLimits_s2 hx) (oLimits_s2 h) (by decide) rfl rfl rfl (by omega) (by omega) (by decide) ?_
  refine w_aln l_9_36 rfl ?_
  refine w_gr l_9_37 (oLimits_sh hx) (oLimits_r3 hx) ?_
  refine w_ic l_9_40 (by decide) ?_
  refine w_aln l_9_41 rfl ?_
  refine w_gr l_9_42 (oLimits_sh h) (oLimits_r3 h) ?_
  refine w_ic l_9_45 (by decide) ?_
  refine w_ic l_9_46 (by decide) ?_
  refine w_cp 0 0 4 l_9_47 (oLimits_s3 hx) (oLimits_s3 h) (by decide) rfl rfl rfl (by omega) (by omega) (by decide) ?_
  refine w_aln l_9_50 rfl ?_
  refine w_gr l_9_51 (oLimits_sh hx) (oLimits_r4 hx) ?_
  refine w_ic l_9_54 (by decide) ?_
  refine w_aln l_9_55 rfl ?_
  refine w_gr l_9_56 (oLimits_sh h) (oLimits_r4 h) ?_
  refine w_ic l_9_59 (by decide) ?_
  refine w_ic l_9_60 (by decide) ?_
  refine w_cp 0 0 4 l_9_61 (oLimits_s4 hx) (oLimits_s4 h) (by decide) rfl rfl rfl (by omega) (by omega) (by decide) ?_
  refine w_aln l_9_64 rfl ?_
  refine w_aln l_9_65 rfl ?_
  refine w_gi (I x 5) l_9_66 (oLimits_sh hx) ((cpy_no (by omega)).trans ((cpy_no (by omega)).trans ((cpy_no (by omega)).trans ((cpy_no (by omega)).trans ((up_no (by omega)).trans (rfl)))))) ?_
  refine w_pi l_9_69 (oLimits_sh h) ?_
  refine w_aln l_9_72 rfl ?_
  refine w_aln l_9_73 rfl ?_
  refine w_gi (I x 6) l_9_74 (oLimits_sh hx) ((up_no (by omega)).trans ((cpy_no (by omega)).trans ((cpy_no (by omega)).trans ((cpy_no (by omega)).trans ((cpy_no (by omega)).trans ((up_no (by omega)).trans (rfl))))))) ?_
  refine w_pi l_9_77 (oLimits_sh h) ?_
  refine w_aln l_9_80 rfl ?_
  refine w_aln l_9_81 rfl ?_
  refine w_gi (I x 7) l_9_82 (oLimits_sh hx) ((up_no (by omega)).trans ((up_no (by omega)).trans ((cpy_no (by omega)).trans ((cpy_no (by omega)).trans ((cpy_no (by omega)).trans ((cpy_no (by omega)).trans ((up_no (by omega)).trans (rfl)))))))) ?_
  refine w_pi l_9_85 (oLimits_sh h) ?_
  refine w_aln l_9_88 rfl ?_
  refine w_aln l_9_89 rfl ?_
  refine w_gi (I x 8) l_9_90 (oLimits_sh hx) ((up_no (by omega)).trans ((up_no (by omega)).trans ((up_no (by omega)).trans ((cpy_no (by omega)).trans ((cpy_no (by omega)).trans ((cpy_no (by omega)).trans ((cpy_no (by omega)).trans ((up_no (by omega)).trans (rfl))))))))) ?_
  refine w_pi l_9_93 (oLimits_sh h) ?_
  refine w_aln l_9_96 rfl ?_
  refine w_aln l_9_97 rfl ?_
  refine w_gi (I x 9) l_9_98 (oLimits_sh hx) ((up_no (by omega)).trans ((up_no (by omega)).trans ((up_no (by omega)).trans ((up_no (by omega)).trans ((cpy_no (by omega)).trans ((cpy_no (by omega)).trans ((cpy_no (by omega)).trans ((cpy_no (by omega)).trans ((up_no (by omega)).trans (rfl)))))))))) ?_
  refine w_pi l_9_101 (oLimits_sh h) ?_
  refine w_vr l_9_104 ?_
  exact ⟨rfl, rfl⟩

theorem mx_8 : mxl 8 = 1 := by decide +kernel
theorem mt_8 : mtc 8 = 1 := by decide +kernel
theorem rk_8 (as : List AV) : rkA 8 as = 0 := rfl
theorem l_8_0 : look 8 0 = some (.aload_n 0, 1, 0, 0, 0, 0) := by decide +kernel
theorem l_8_1 : look 8 1 = some (.iconst 0, 1, 0, 0, 0, 0) := by decide +kernel
theorem l_8_2 : look 8 2 = some (.putfield 24, 3, 1, 0, 0, 375) := by decide +kernel
theorem l_8_5 : look 8 5 = some (.aload_n 0, 1, 0, 0, 0, 0) := by decide +kernel
theorem l_8_6 : look 8 6 = some (.sipush 400, 3, 0, 0, 0, 0) := by decide +kernel
theorem l_8_9 : look 8 9 = some (.putfield 28, 3, 1, 5, 0, 395) := by decide +kernel
theorem l_8_12 : look 8 12 = some (.aload_n 0, 1, 0, 0, 0, 0) := by decide +kernel
theorem l_8_13 : look 8 13 = some (.bipush 99, 2, 0, 0, 0, 0) := by decide +kernel
theorem l_8_15 : look 8 15 = some (.putfield 31, 3, 1, 6, 0, 398) := by decide +kernel
theorem l_8_18 : look 8 18 = some (.aload_n 0, 1, 0, 0, 0, 0) := by decide +kernel
theorem l_8_19 : look 8 19 = some (.bipush 100, 2, 0, 0, 0, 0) := by decide +kernel
theorem l_8_21 : look 8 21 = some (.putfield 34, 3, 1, 7, 0, 401) := by decide +kernel
theorem l_8_24 : look 8 24 = some (.aload_n 0, 1, 0, 0, 0, 0) := by decide +kernel
theorem l_8_25 : look 8 25 = some (.iconst 0, 1, 0, 0, 0, 0) := by decide +kernel
theorem l_8_26 : look 8 26 = some (.putfield 37, 3, 1, 8, 0, 404) := by decide +kernel
theorem l_8_29 : look 8 29 = some (.aload_n 0, 1, 0, 0, 0, 0) := by decide +kernel
theorem l_8_30 : look 8 30 = some (.iconst 0, 1, 0, 0, 0, 0) := by decide +kernel
theorem l_8_31 : look 8 31 = some (.putfield 40, 3, 1, 9, 0, 406) := by decide +kernel
theorem l_8_34 : look 8 34 = some (.return_, 1, 0, 0, 0, 0) := by decide +kernel
theorem s_8 {I : Ix} (h : oLimits S T s)  : CL xs 8 [vr s] (S, I, T, cc, zz) (FN none (S, up (up (up (up (up (up I s 0 0) s 5 400) s 6 99) s 7 100) s 8 0) s 9 0, T, cc, zz)) := by
  refine CL_start (r := 0) (ls := [vr s]) (rk_8 _) rfl ?_
  refine w_aln l_8_0 rfl ?_
  refine w_ic l_8_1 (by decide) ?_
  refine w_pi l_8_2 (oLimits_sh h) ?_
  refine w_aln l_8_5 rfl ?_
  refine w_sp l_8_6 (by decide) ?_
  refine w_pi l_8_9 (oLimits_sh h) ?_
  refine w_aln l_8_12 rfl ?_
  refine w_bp l_8_13 (by decide) ?_
  refine w_pi l_8_15 (oLimits_sh h) ?_
  refine w_aln l_8_18 rfl ?_
  refine w_bp l_8_19 (by decide) ?_
  refine w_pi l_8_21 (oLimits_sh h) ?_
  refine w_aln l_8_24 rfl ?_
  refine w_ic l_8_25 (by decide) ?_
  refine w_pi l_8_26 (oLimits_sh h) ?_
  refine w_aln l_8_29 rfl ?_
  refine w_ic l_8_30 (by decide) ?_
  refine w_pi l_8_31 (oLimits_sh h) ?_
  refine w_vr l_8_34 ?_
  exact ⟨rfl, rfl⟩

theorem mx_13 : mxl 13 = 2 := by decide +kernel
theorem mt_13 : mtc 13 = 2 := by decide +kernel
theorem rk_13 (as : List AV) : rkA 13 as = 0 := rfl
theorem l_13_0 : look 13 0 = some (.aload_n 0, 1, 0, 0, 0, 0) := by decide +kernel
theorem l_13_1 : look 13 1 = some (.getfield 15, 3, 2, 1, 0, 674) := by decide +kernel
theorem l_13_4 : look 13 4 = some (.aload_n 0, 1, 0, 0, 0, 0) := by decide +kernel
theorem l_13_5 : look 13 5 = some (.getfield 11, 3, 2, 0, 2, 673) := by decide +kernel
theorem l_13_8 : look 13 8 = some (.arraylength, 1, 0, 0, 0, 0) := by decide +kernel
theorem l_13_9 : look 13 9 = some (.if_icmp .ge 24, 3, 0, 0, 0, 0) := by decide +kernel
theorem l_13_12 : look 13 12 = some (.aload_n 0, 1, 0, 0, 0, 0) := by decide +kernel
theorem l_13_13 : look 13 13 = some (.getfield 11, 3, 2, 0, 2, 673) := by decide +kernel
theorem l_13_16 : look 13 16 = some (.aload_n 0, 1, 0, 0, 0, 0) := by decide +kernel
theorem l_13_17 : look 13 17 = some (.getfield 15, 3, 2, 1, 0, 674) := by decide +kernel
theorem l_13_20 : look 13 20 = some (.iload_n 1, 1, 0, 0, 0, 0) := by decide +kernel
theorem l_13_21 : look 13 21 = some (.i2b, 1, 0, 0, 0, 0) := by decide +kernel
theorem l_13_22 : look 13 22 = some (.bastore, 1, 0, 0, 0, 0) := by decide +kernel
theorem l_13_23 : look 13 23 = some (.aload_n 0, 1, 0, 0, 0, 0) := by decide +kernel
theorem l_13_24 : look 13 24 = some (.dup, 1, 0, 0, 0, 0) := by decide +kernel
theorem l_13_25 : look 13 25 = some (.getfield 15, 3, 2, 1, 0, 674) := by decide +kernel
theorem l_13_28 : look 13 28 = some (.iconst 1, 1, 0, 0, 0, 0) := by decide +kernel
theorem l_13_29 : look 13 29 = some (.iadd, 1, 0, 0, 0, 0) := by decide +kernel
theorem l_13_30 : look 13 30 = some (.putfield 15, 3, 2, 1, 0, 674) := by decide +kernel
theorem l_13_33 : look 13 33 = some (.return_, 1, 0, 0, 0, 0) := by decide +kernel
theorem s_13 {I : Ix} (h : oLine S T s) {c n : Nat} (hn : I s 1 = (n : Int)) (hn1 : n < 600) (hc : c < 128) : CL xs 13 [vr s, vi ((c : Nat) : Int)] (S, I, T, cc, zz) (FN none (S, up (up I (s + 1) n ((c : Nat) : Int)) s 1 ((n + 1 : Nat) : Int), T, cc, zz)) := by
  refine CL_start (r := 0) (ls := [vr s, vi ((c : Nat) : Int)]) (rk_13 _) rfl ?_
  refine w_aln l_13_0 rfl ?_
  refine w_gi ((n : Nat) : Int) l_13_1 (oLine_sh h) hn ?_
  refine w_aln l_13_4 rfl ?_
  refine w_gr l_13_5 (oLine_sh h) (oLine_r0 h) ?_
  refine w_len l_13_8 (oLine_s0 h) ?_
  refine w_cge 33 l_13_9 (by decide) (fun hx => absurd hx (by omega)) (fun _ => ?_)
  refine w_aln l_13_12 rfl ?_
  refine w_gr l_13_13 (oLine_sh h) (oLine_r0 h) ?_
  refine w_aln l_13_16 rfl ?_
  refine w_gi ((n : Nat) : Int) l_13_17 (oLine_sh h) hn ?_
  refine w_iln l_13_20 rfl ?_
  refine w_i2b ((c : Nat) : Int) l_13_21 (by unfold wb; omega) ?_
  refine w_bS n ((c : Nat) : Int) l_13_22 (oLine_s0 h) rfl (by omega) (by unfold wb; omega) ?_
  refine w_aln l_13_23 rfl ?_
  refine w_dup l_13_24 rfl ?_
  refine w_gi ((n : Nat) : Int) l_13_25 (oLine_sh h) ((up_no (by omega)).trans (hn)) ?_
  refine w_ic l_13_28 (by decide) ?_
  refine w_add ((n + 1 : Nat) : Int) l_13_29 (by unfold wr; omega) ?_
  refine w_pi l_13_30 (oLine_sh h) ?_
  refine w_vr l_13_33 ?_
  exact ⟨rfl, rfl⟩

end LOG
