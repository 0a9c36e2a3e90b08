/-! the reference: answers, 4 -/
def capL (l : Li) (P c : Nat) : Li := (l.1, (fun p => if p = P then (c, lSpeed l p) else l.2.1 p), l.2.2)
def rulL (l : Li) (q : Nat) : Li := (l.1, l.2.1, l.2.2.1, l.2.2.2.1, l.2.2.2.2.1, fun x => x == q)
theorem capL_ok {l : Li} {P c : Nat} (okl : okLi l) (hc : c ≤ 99) : okLi (capL l P c) := by
  obtain ⟨h1, h2, h3, h4⟩ := okl
  refine ⟨h1, h2, fun p hp => ?_, h4⟩
  have g := h3 p hp
  unfold capL lCap lSpeed
  simp only
  split
  · exact ⟨hc, g.2⟩
  · exact g
theorem rulL_ok {l : Li} {q : Nat} (okl : okLi l) : okLi (rulL l q) := okl
theorem or8 : ∀ o : Nat, o < 8 → ∀ w : Nat, w < 2 ^ o → a2 (fun x y => x ||| y) (w : Int) ((2 ^ o : Nat) : Int) = ((w + 2 ^ o : Nat) : Int) := by decide +kernel
theorem or80 : ∀ w : Nat, w < 256 → a2 (fun x y => x ||| y) (w : Int) 0 = (w : Int) := by decide +kernel
theorem pow8 : ∀ o : Nat, o < 8 → 2 ^ o ≤ 128 := by decide
theorem bt_p8 : ∀ q : Nat, q < 8 → ∀ r : Nat, r < 8 → (bt (2 ^ q) r ≠ 0 ↔ (r == q) = true) := by decide +kernel
section RD
variable {xs : List Int} {S : List (Nat × Nat)} {T : Nat → Nat → Nat} {cc zz s : Nat} {h : Hi} {l : Li} {r : Ra} {g : Lo} {I I' : Ix}

theorem mx_273 : mxl 273 = 1 := by decide +kernel
theorem mt_273 : mtc 273 = 10 := by decide +kernel
theorem rk_273 (as : List AV) : rkA 273 as = 10 := rfl
theorem l_273_0 : look 273 0 = some (.aload_n 0, 1, 0, 0, 0, 0) := by decide +kernel
theorem l_273_1 : look 273 1 = some (.iconst 0, 1, 0, 0, 0, 0) := by decide +kernel
theorem l_273_2 : look 273 2 = some (.putfield 152, 3, 10, 0, 0, 1501) := by decide +kernel
theorem l_273_5 : look 273 5 = some (.aload_n 0, 1, 0, 0, 0, 0) := by decide +kernel
theorem l_273_6 : look 273 6 = some (.invokevirtual 496, 3, 272, 1, 0, 2161) := by decide +kernel
theorem l_273_9 : look 273 9 = some (.aload_n 0, 1, 0, 0, 0, 0) := by decide +kernel
theorem l_273_10 : look 273 10 = some (.getfield 369, 3, 10, 66, 0, 1567) := by decide +kernel
theorem l_273_13 : look 273 13 = some (.ireturn, 1, 0, 0, 0, 0) := by decide +kernel

theorem s_273 (hm : oModel S T s) {ne np : Nat} {a : Nat → Nat} {cd : Nat → Cd} (B : MP I s h l a ne np cd)  {su : Su} (hS : nSu I s su) (hsu : okSu su) : CL xs 273 [vr s] (S, I, T, cc, zz) (RP S T cc zz (fun v I' => v = some (vi (((runA h (supL l su) su.2.2.2 ne).2.1.length : Nat) : Int)) ∧ I' s 0 = 0 ∧ mfk I I' s)) := by
  refine CL_start (r := 10) (ls := [vr s]) (rk_273 _) rfl ?_
  refine w_aln l_273_0 rfl ?_
  refine w_ic l_273_1 (by decide) ?_
  refine w_pi l_273_2 (oModel_sh hm) ?_
  refine w_aln l_273_5 rfl ?_
  refine p_iv [] [] l_273_6 rfl rfl (Nat.le_of_ble_eq_true rfl) (by rw [mx_272]; exact Nat.le_of_ble_eq_true rfl) (by rw [mt_272]; exact oModel_sh hm) (by rw [mt_272]; decide) (by rw [rk_272]; decide) (s_272 hm (B.k (mfk.u (Or.inl rfl))) (hS.k (mfk.u (Or.inl rfl))) hsu) (fun v I1 hv => ?_)
  obtain ⟨rfl, hR1, f1, _, hLi⟩ := hv
  refine w_aln l_273_9 rfl ?_
  refine w_gi (((runA h (supL l su) su.2.2.2 ne).2.1.length : Nat) : Int) l_273_10 (oModel_sh hm) hR1.2.1.1 ?_
  refine w_ir l_273_13 (Or.inl rfl) ?_
  exact ⟨_, _, rfl, rfl, rfl, ((f1 s 0 (fun _ => Or.inl (by decide)) (fun e => absurd e (Nat.lt_irrefl s))).trans up_eq), (mfk.u (Or.inl rfl)).tr f1.k⟩

theorem mx_274 : mxl 274 = 2 := by decide +kernel
theorem mt_274 : mtc 274 = 10 := by decide +kernel
theorem rk_274 (as : List AV) : rkA 274 as = 10 := rfl
theorem l_274_0 : look 274 0 = some (.aload_n 0, 1, 0, 0, 0, 0) := by decide +kernel
theorem l_274_1 : look 274 1 = some (.iload_n 1, 1, 0, 0, 0, 0) := by decide +kernel
theorem l_274_2 : look 274 2 = some (.invokestatic 472, 3, 256, 1, 1, 2091) := by decide +kernel
theorem l_274_5 : look 274 5 = some (.ifCond .eq 7, 3, 0, 0, 0, 0) := by decide +kernel
theorem l_274_8 : look 274 8 = some (.iconst 0, 1, 0, 0, 0, 0) := by decide +kernel
theorem l_274_9 : look 274 9 = some (.goto 4, 3, 0, 0, 0, 0) := by decide +kernel
theorem l_274_12 : look 274 12 = some (.iconst 1, 1, 0, 0, 0, 0) := by decide +kernel
theorem l_274_13 : look 274 13 = some (.putfield 152, 3, 10, 0, 0, 1501) := by decide +kernel
theorem l_274_16 : look 274 16 = some (.aload_n 0, 1, 0, 0, 0, 0) := by decide +kernel
theorem l_274_17 : look 274 17 = some (.getfield 152, 3, 10, 0, 0, 1501) := by decide +kernel
theorem l_274_20 : look 274 20 = some (.ifCond .le 5, 3, 0, 0, 0, 0) := by decide +kernel
theorem l_274_23 : look 274 23 = some (.iconst 0, 1, 0, 0, 0, 0) := by decide +kernel
theorem l_274_24 : look 274 24 = some (.ireturn, 1, 0, 0, 0, 0) := by decide +kernel
theorem l_274_25 : look 274 25 = some (.aload_n 0, 1, 0, 0, 0, 0) := by decide +kernel
theorem l_274_26 : look 274 26 = some (.invokevirtual 496, 3, 272, 1, 0, 2161) := by decide +kernel
theorem l_274_29 : look 274 29 = some (.aload_n 0, 1, 0, 0, 0, 0) := by decide +kernel
theorem l_274_30 : look 274 30 = some (.iload_n 1, 1, 0, 0, 0, 0) := by decide +kernel
theorem l_274_31 : look 274 31 = some (.iconst (-1), 1, 0, 0, 0, 0) := by decide +kernel
theorem l_274_32 : look 274 32 = some (.invokevirtual 475, 3, 255, 3, 0, 2094) := by decide +kernel
theorem l_274_35 : look 274 35 = some (.ireturn, 1, 0, 0, 0, 0) := by decide +kernel

theorem s_274 (hm : oModel S T s) {ne np : Nat} {a : Nat → Nat} {cd : Nat → Cd} (B : MP I s h l a ne np cd) {p : Int} (hp : 1 ≤ p ∧ p ≤ 10) {su : Su} (hS : nSu I s su) (hsu : okSu su) : CL xs 274 [vr s, vi p] (S, I, T, cc, zz) (RP S T cc zz (fun v I' => v = some (vi ((cntK (isByR p (-1)) (runA h (supL l su) su.2.2.2 ne).2.1 (runA h (supL l su) su.2.2.2 ne).2.1.length : Nat) : Int)) ∧ I' s 0 = 0 ∧ mfk I I' s)) := by
  refine CL_start (r := 10) (ls := [vr s, vi p]) (rk_274 _) rfl ?_
  refine w_aln l_274_0 rfl ?_
  refine w_iln l_274_1 rfl ?_
  refine q_st [vi p] [vr s] l_274_2 (by decide) rfl rfl (Nat.le_of_ble_eq_true rfl) (by rw [mx_256]; exact Nat.le_of_ble_eq_true rfl) (by rw [rk_256]; decide) (s_256) ?_
  refine w_beq 12 l_274_5 (by decide) (fun hx => absurd hx (by rw [decide_eq_true hp]; decide)) (fun _ => ?_)
  refine w_ic l_274_8 (by decide) ?_
  refine w_go 13 l_274_9 (by decide) ?_
  refine w_pi l_274_13 (oModel_sh hm) ?_
  refine w_aln l_274_16 rfl ?_
  refine w_gi 0 l_274_17 (oModel_sh hm) up_eq ?_
  refine w_zle 25 l_274_20 (by decide) (fun _ => ?_) (fun hx => absurd hx (by decide))
  refine w_aln l_274_25 rfl ?_
  refine p_iv [] [] l_274_26 rfl rfl (Nat.le_of_ble_eq_true rfl) (by rw [mx_272]; exact Nat.le_of_ble_eq_true rfl) (by rw [mt_272]; exact oModel_sh hm) (by rw [mt_272]; decide) (by rw [rk_272]; decide) (s_272 hm (B.k (mfk.u (Or.inl rfl))) (hS.k (mfk.u (Or.inl rfl))) hsu) (fun v I1 hv => ?_)
  obtain ⟨rfl, hR1, f1, _, hLi⟩ := hv
  refine w_aln l_274_29 rfl ?_
  refine w_iln l_274_30 rfl ?_
  refine w_ic l_274_31 (by decide) ?_
  refine q_iv [vi p, vi (-1)] [] l_274_32 rfl rfl (Nat.le_of_ble_eq_true rfl) (by rw [mx_255]; exact Nat.le_of_ble_eq_true rfl) (by rw [mt_255]; exact oModel_sh hm) (by rw [mt_255]; decide) (by rw [rk_255]; decide) (s_255 hm hR1.2) ?_
  refine w_ir l_274_35 (Or.inl rfl) ?_
  exact ⟨_, _, rfl, rfl, rfl, ((f1 s 0 (fun _ => Or.inl (by decide)) (fun e => absurd e (Nat.lt_irrefl s))).trans up_eq), (mfk.u (Or.inl rfl)).tr f1.k⟩

theorem s_274n (hm : oModel S T s) {ne np : Nat} {a : Nat → Nat} {cd : Nat → Cd} (B : MP I s h l a ne np cd) {p : Int} (hp : ¬ (1 ≤ p ∧ p ≤ 10)): CL xs 274 [vr s, vi p] (S, I, T, cc, zz) (RP S T cc zz (fun v I' => v = some (vi 0) ∧ I' s 0 = 1 ∧ mfk I I' s)) := by
  refine CL_start (r := 10) (ls := [vr s, vi p]) (rk_274 _) rfl ?_
  refine w_aln l_274_0 rfl ?_
  refine w_iln l_274_1 rfl ?_
  refine q_st [vi p] [vr s] l_274_2 (by decide) rfl rfl (Nat.le_of_ble_eq_true rfl) (by rw [mx_256]; exact Nat.le_of_ble_eq_true rfl) (by rw [rk_256]; decide) (s_256) ?_
  refine w_beq 12 l_274_5 (by decide) (fun _ => ?_) (fun hx => absurd hx (by rw [decide_eq_false hp]; decide))
  refine w_ic l_274_12 (by decide) ?_
  refine w_pi l_274_13 (oModel_sh hm) ?_
  refine w_aln l_274_16 rfl ?_
  refine w_gi 1 l_274_17 (oModel_sh hm) up_eq ?_
  refine w_zle 25 l_274_20 (by decide) (fun hx => absurd hx (by decide)) (fun _ => ?_)
  refine w_ic l_274_23 (by decide) ?_
  refine w_ir l_274_24 (Or.inl rfl) ?_
  exact ⟨_, _, rfl, rfl, rfl, up_eq, (mfk.u (Or.inl rfl))⟩

theorem mx_275 : mxl 275 = 3 := by decide +kernel
theorem mt_275 : mtc 275 = 10 := by decide +kernel
theorem rk_275 (as : List AV) : rkA 275 as = 10 := rfl
theorem l_275_0 : look 275 0 = some (.aload_n 0, 1, 0, 0, 0, 0) := by decide +kernel
theorem l_275_1 : look 275 1 = some (.aload_n 0, 1, 0, 0, 0, 0) := by decide +kernel
theorem l_275_2 : look 275 2 = some (.iload_n 1, 1, 0, 0, 0, 0) := by decide +kernel
theorem l_275_3 : look 275 3 = some (.invokevirtual 459, 3, 230, 2, 0, 2028) := by decide +kernel
theorem l_275_6 : look 275 6 = some (.ifCond .eq 15, 3, 0, 0, 0, 0) := by decide +kernel
theorem l_275_9 : look 275 9 = some (.aload_n 0, 1, 0, 0, 0, 0) := by decide +kernel
theorem l_275_10 : look 275 10 = some (.iload_n 2, 1, 0, 0, 0, 0) := by decide +kernel
theorem l_275_11 : look 275 11 = some (.invokevirtual 449, 3, 228, 2, 0, 1889) := by decide +kernel
theorem l_275_14 : look 275 14 = some (.ifCond .eq 7, 3, 0, 0, 0, 0) := by decide +kernel
theorem l_275_17 : look 275 17 = some (.iconst 0, 1, 0, 0, 0, 0) := by decide +kernel
theorem l_275_18 : look 275 18 = some (.goto 4, 3, 0, 0, 0, 0) := by decide +kernel
theorem l_275_21 : look 275 21 = some (.iconst 1, 1, 0, 0, 0, 0) := by decide +kernel
theorem l_275_22 : look 275 22 = some (.putfield 152, 3, 10, 0, 0, 1501) := by decide +kernel
theorem l_275_25 : look 275 25 = some (.aload_n 0, 1, 0, 0, 0, 0) := by decide +kernel
theorem l_275_26 : look 275 26 = some (.getfield 152, 3, 10, 0, 0, 1501) := by decide +kernel
theorem l_275_29 : look 275 29 = some (.ifCond .le 5, 3, 0, 0, 0, 0) := by decide +kernel
theorem l_275_32 : look 275 32 = some (.iconst 0, 1, 0, 0, 0, 0) := by decide +kernel
theorem l_275_33 : look 275 33 = some (.ireturn, 1, 0, 0, 0, 0) := by decide +kernel
theorem l_275_34 : look 275 34 = some (.aload_n 0, 1, 0, 0, 0, 0) := by decide +kernel
theorem l_275_35 : look 275 35 = some (.invokevirtual 496, 3, 272, 1, 0, 2161) := by decide +kernel
theorem l_275_38 : look 275 38 = some (.aload_n 0, 1, 0, 0, 0, 0) := by decide +kernel
theorem l_275_39 : look 275 39 = some (.getfield 134, 3, 10, 63, 2, 1564) := by decide +kernel
theorem l_275_42 : look 275 42 = some (.iconst 4, 1, 0, 0, 0, 0) := by decide +kernel
theorem l_275_43 : look 275 43 = some (.iload_n 1, 1, 0, 0, 0, 0) := by decide +kernel
theorem l_275_44 : look 275 44 = some (.imul, 1, 0, 0, 0, 0) := by decide +kernel
theorem l_275_45 : look 275 45 = some (.iload_n 2, 1, 0, 0, 0, 0) := by decide +kernel
theorem l_275_46 : look 275 46 = some (.iadd, 1, 0, 0, 0, 0) := by decide +kernel
theorem l_275_47 : look 275 47 = some (.iaload, 1, 0, 0, 0, 0) := by decide +kernel
theorem l_275_48 : look 275 48 = some (.ireturn, 1, 0, 0, 0, 0) := by decide +kernel

theorem s_275 (hm : oModel S T s) {ne np : Nat} {a : Nat → Nat} {cd : Nat → Cd} (B : MP I s h l a ne np cd) {k p : Nat} (hk : k < np) (hp : p < lPorts l) {su : Su} (hS : nSu I s su) (hsu : okSu su) : CL xs 275 [vr s, vi ((k : Nat) : Int), vi ((p : Nat) : Int)] (S, I, T, cc, zz) (RP S T cc zz (fun v I' => v = some (vi (((runA h (supL l su) su.2.2.2 ne).2.2.1 k (p + 1) : Nat) : Int)) ∧ I' s 0 = 0 ∧ mfk I I' s)) := by
  refine CL_start (r := 10) (ls := [vr s, vi ((k : Nat) : Int), vi ((p : Nat) : Int)]) (rk_275 _) rfl ?_
  have hl4 := B.2.2.2.2.1.1
  have hne := B.1.1
  have hnp := B.1.2.1
  have hok := (B.run noOut (Nat.le_refl ne)).1
  have hlen : (runA h l noOut ne).2.1.length ≤ 360 := by
    have h8 := hok.2.2
    unfold tot at h8
    omega
  refine w_aln l_275_0 rfl ?_
  refine w_aln l_275_1 rfl ?_
  refine w_iln l_275_2 rfl ?_
  refine q_iv [vi ((k : Nat) : Int)] [vr s] l_275_3 rfl rfl (Nat.le_of_ble_eq_true rfl) (by rw [mx_230]; exact Nat.le_of_ble_eq_true rfl) (by rw [mt_230]; exact oModel_sh hm) (by rw [mt_230]; decide) (by rw [rk_230]; decide) (s_230 hm B) ?_
  refine w_beq 21 l_275_6 (by decide) (fun hx => absurd hx (by rw [decide_eq_true (by omega)]; decide)) (fun _ => ?_)
  refine w_aln l_275_9 rfl ?_
  refine w_iln l_275_10 rfl ?_
  refine q_iv [vi ((p : Nat) : Int)] [vr s] l_275_11 rfl rfl (Nat.le_of_ble_eq_true rfl) (by rw [mx_228]; exact Nat.le_of_ble_eq_true rfl) (by rw [mt_228]; exact oModel_sh hm) (by rw [mt_228]; decide) (by rw [rk_228]; decide) (s_228 hm B) ?_
  refine w_beq 21 l_275_14 (by decide) (fun hx => absurd hx (by rw [decide_eq_true (by omega)]; decide)) (fun _ => ?_)
  refine w_ic l_275_17 (by decide) ?_
  refine w_go 22 l_275_18 (by decide) ?_
  refine w_pi l_275_22 (oModel_sh hm) ?_
  refine w_aln l_275_25 rfl ?_
  refine w_gi 0 l_275_26 (oModel_sh hm) up_eq ?_
  refine w_zle 34 l_275_29 (by decide) (fun _ => ?_) (fun hx => absurd hx (by decide))
  refine w_aln l_275_34 rfl ?_
  refine p_iv [] [] l_275_35 rfl rfl (Nat.le_of_ble_eq_true rfl) (by rw [mx_272]; exact Nat.le_of_ble_eq_true rfl) (by rw [mt_272]; exact oModel_sh hm) (by rw [mt_272]; decide) (by rw [rk_272]; decide) (s_272 hm (B.k (mfk.u (Or.inl rfl))) (hS.k (mfk.u (Or.inl rfl))) hsu) (fun v I1 hv => ?_)
  obtain ⟨rfl, hR1, f1, _, hLi⟩ := hv
  refine w_aln l_275_38 rfl ?_
  refine w_gr l_275_39 (oModel_sh hm) (oModel_r63 hm) ?_
  refine w_ic l_275_42 (by decide) ?_
  refine w_iln l_275_43 rfl ?_
  refine w_mul ((4 * k : Nat) : Int) l_275_44 (by unfold wr; omega) ?_
  refine w_iln l_275_45 rfl ?_
  refine w_add ((4 * k + p : Nat) : Int) l_275_46 (by unfold wr; omega) ?_
  refine w_ia (4 * k + p) ((((runA h (supL l su) su.2.2.2 ne).2.2.1 k (p + 1)) : Nat) : Int) l_275_47 (oModel_s63 hm) rfl (by omega) (hR1.2.2.2.1 k (by omega) p (by omega)) ?_
  refine w_ir l_275_48 (Or.inl rfl) ?_
  exact ⟨_, _, rfl, rfl, rfl, ((f1 s 0 (fun _ => Or.inl (by decide)) (fun e => absurd e (Nat.lt_irrefl s))).trans up_eq), (mfk.u (Or.inl rfl)).tr f1.k⟩

theorem s_275n (hm : oModel S T s) {ne np : Nat} {a : Nat → Nat} {cd : Nat → Cd} (B : MP I s h l a ne np cd) {k p : Int} (hb : ¬ ((0 ≤ k ∧ k ≤ ((np : Nat) : Int) - 1) ∧ (0 ≤ p ∧ p ≤ ((lPorts l : Nat) : Int) - 1))): CL xs 275 [vr s, vi k, vi p] (S, I, T, cc, zz) (RP S T cc zz (fun v I' => v = some (vi 0) ∧ I' s 0 = 1 ∧ mfk I I' s)) := by
  refine CL_start (r := 10) (ls := [vr s, vi k, vi p]) (rk_275 _) rfl ?_
  refine w_aln l_275_0 rfl ?_
  refine w_aln l_275_1 rfl ?_
  refine w_iln l_275_2 rfl ?_
  refine q_iv [vi k] [vr s] l_275_3 rfl rfl (Nat.le_of_ble_eq_true rfl) (by rw [mx_230]; exact Nat.le_of_ble_eq_true rfl) (by rw [mt_230]; exact oModel_sh hm) (by rw [mt_230]; decide) (by rw [rk_230]; decide) (s_230 hm B) ?_
  refine w_beq 21 l_275_6 (by decide) (fun h1 => ?_) (fun h1 => ?_)
  · skip
    refine w_ic l_275_21 (by decide) ?_
    refine w_pi l_275_22 (oModel_sh hm) ?_
    refine w_aln l_275_25 rfl ?_
    refine w_gi 1 l_275_26 (oModel_sh hm) up_eq ?_
    refine w_zle 34 l_275_29 (by decide) (fun hx => absurd hx (by decide)) (fun _ => ?_)
    refine w_ic l_275_32 (by decide) ?_
    refine w_ir l_275_33 (Or.inl rfl) ?_
    exact ⟨_, _, rfl, rfl, rfl, up_eq, (mfk.u (Or.inl rfl))⟩
  · skip
    refine w_aln l_275_9 rfl ?_
    refine w_iln l_275_10 rfl ?_
    refine q_iv [vi p] [vr s] l_275_11 rfl rfl (Nat.le_of_ble_eq_true rfl) (by rw [mx_228]; exact Nat.le_of_ble_eq_true rfl) (by rw [mt_228]; exact oModel_sh hm) (by rw [mt_228]; decide) (by rw [rk_228]; decide) (s_228 hm B) ?_
    refine w_beq 21 l_275_14 (by decide) (fun h2 => ?_) (fun h2 => ?_)
    · skip
      refine w_ic l_275_21 (by decide) ?_
      refine w_pi l_275_22 (oModel_sh hm) ?_
      refine w_aln l_275_25 rfl ?_
      refine w_gi 1 l_275_26 (oModel_sh hm) up_eq ?_
      refine w_zle 34 l_275_29 (by decide) (fun hx => absurd hx (by decide)) (fun _ => ?_)
      refine w_ic l_275_32 (by decide) ?_
      refine w_ir l_275_33 (Or.inl rfl) ?_
      exact ⟨_, _, rfl, rfl, rfl, up_eq, (mfk.u (Or.inl rfl))⟩
    · skip
      refine w_ic l_275_17 (by decide) ?_
      refine w_go 22 l_275_18 (by decide) ?_
      refine w_pi l_275_22 (oModel_sh hm) ?_
      refine w_aln l_275_25 rfl ?_
      refine w_gi 0 l_275_26 (oModel_sh hm) up_eq ?_
      refine w_zle 34 l_275_29 (by decide) (fun _ => ?_) (fun hx => absurd hx (by decide))
      exact absurd ⟨of_decide_eq_true h1, of_decide_eq_true h2⟩ hb

theorem mx_276 : mxl 276 = 2 := by decide +kernel
theorem mt_276 : mtc 276 = 10 := by decide +kernel
theorem rk_276 (as : List AV) : rkA 276 as = 10 := rfl
theorem l_276_0 : look 276 0 = some (.aload_n 0, 1, 0, 0, 0, 0) := by decide +kernel
theorem l_276_1 : look 276 1 = some (.aload_n 0, 1, 0, 0, 0, 0) := by decide +kernel
theorem l_276_2 : look 276 2 = some (.iload_n 1, 1, 0, 0, 0, 0) := by decide +kernel
theorem l_276_3 : look 276 3 = some (.invokevirtual 449, 3, 228, 2, 0, 1889) := by decide +kernel
theorem l_276_6 : look 276 6 = some (.ifCond .eq 7, 3, 0, 0, 0, 0) := by decide +kernel
theorem l_276_9 : look 276 9 = some (.iconst 0, 1, 0, 0, 0, 0) := by decide +kernel
theorem l_276_10 : look 276 10 = some (.goto 4, 3, 0, 0, 0, 0) := by decide +kernel
theorem l_276_13 : look 276 13 = some (.iconst 1, 1, 0, 0, 0, 0) := by decide +kernel
theorem l_276_14 : look 276 14 = some (.putfield 152, 3, 10, 0, 0, 1501) := by decide +kernel
theorem l_276_17 : look 276 17 = some (.aload_n 0, 1, 0, 0, 0, 0) := by decide +kernel
theorem l_276_18 : look 276 18 = some (.getfield 152, 3, 10, 0, 0, 1501) := by decide +kernel
theorem l_276_21 : look 276 21 = some (.ifCond .le 5, 3, 0, 0, 0, 0) := by decide +kernel
theorem l_276_24 : look 276 24 = some (.iconst 0, 1, 0, 0, 0, 0) := by decide +kernel
theorem l_276_25 : look 276 25 = some (.ireturn, 1, 0, 0, 0, 0) := by decide +kernel
theorem l_276_26 : look 276 26 = some (.aload_n 0, 1, 0, 0, 0, 0) := by decide +kernel
theorem l_276_27 : look 276 27 = some (.invokevirtual 496, 3, 272, 1, 0, 2161) := by decide +kernel
theorem l_276_30 : look 276 30 = some (.aload_n 0, 1, 0, 0, 0, 0) := by decide +kernel
theorem l_276_31 : look 276 31 = some (.getfield 137, 3, 10, 64, 2, 1565) := by decide +kernel
theorem l_276_34 : look 276 34 = some (.iload_n 1, 1, 0, 0, 0, 0) := by decide +kernel
theorem l_276_35 : look 276 35 = some (.iaload, 1, 0, 0, 0, 0) := by decide +kernel
theorem l_276_36 : look 276 36 = some (.ireturn, 1, 0, 0, 0, 0) := by decide +kernel

theorem s_276 (hm : oModel S T s) {ne np : Nat} {a : Nat → Nat} {cd : Nat → Cd} (B : MP I s h l a ne np cd) {p : Nat} (hp : p < lPorts l) {su : Su} (hS : nSu I s su) (hsu : okSu su) : CL xs 276 [vr s, vi ((p : Nat) : Int)] (S, I, T, cc, zz) (RP S T cc zz (fun v I' => v = some (vi (((runA h (supL l su) su.2.2.2 ne).2.2.2 p : Nat) : Int)) ∧ I' s 0 = 0 ∧ mfk I I' s)) := by
  refine CL_start (r := 10) (ls := [vr s, vi ((p : Nat) : Int)]) (rk_276 _) rfl ?_
  have hl4 := B.2.2.2.2.1.1
  have hne := B.1.1
  have hnp := B.1.2.1
  have hok := (B.run noOut (Nat.le_refl ne)).1
  have hlen : (runA h l noOut ne).2.1.length ≤ 360 := by
    have h8 := hok.2.2
    unfold tot at h8
    omega
  refine w_aln l_276_0 rfl ?_
  refine w_aln l_276_1 rfl ?_
  refine w_iln l_276_2 rfl ?_
  refine q_iv [vi ((p : Nat) : Int)] [vr s] l_276_3 rfl rfl (Nat.le_of_ble_eq_true rfl) (by rw [mx_228]; exact Nat.le_of_ble_eq_true rfl) (by rw [mt_228]; exact oModel_sh hm) (by rw [mt_228]; decide) (by rw [rk_228]; decide) (s_228 hm B) ?_
  refine w_beq 13 l_276_6 (by decide) (fun hx => absurd hx (by rw [decide_eq_true (by omega)]; decide)) (fun _ => ?_)
  refine w_ic l_276_9 (by decide) ?_
  refine w_go 14 l_276_10 (by decide) ?_
  refine w_pi l_276_14 (oModel_sh hm) ?_
  refine w_aln l_276_17 rfl ?_
  refine w_gi 0 l_276_18 (oModel_sh hm) up_eq ?_
  refine w_zle 26 l_276_21 (by decide) (fun _ => ?_) (fun hx => absurd hx (by decide))
  refine w_aln l_276_26 rfl ?_
  refine p_iv [] [] l_276_27 rfl rfl (Nat.le_of_ble_eq_true rfl) (by rw [mx_272]; exact Nat.le_of_ble_eq_true rfl) (by rw [mt_272]; exact oModel_sh hm) (by rw [mt_272]; decide) (by rw [rk_272]; decide) (s_272 hm (B.k (mfk.u (Or.inl rfl))) (hS.k (mfk.u (Or.inl rfl))) hsu) (fun v I1 hv => ?_)
  obtain ⟨rfl, hR1, f1, _, hLi⟩ := hv
  refine w_aln l_276_30 rfl ?_
  refine w_gr l_276_31 (oModel_sh hm) (oModel_r64 hm) ?_
  refine w_iln l_276_34 rfl ?_
  refine w_ia p ((((runA h (supL l su) su.2.2.2 ne).2.2.2 p) : Nat) : Int) l_276_35 (oModel_s64 hm) rfl (by omega) (hR1.2.2.2.2 p (by omega)) ?_
  refine w_ir l_276_36 (Or.inl rfl) ?_
  exact ⟨_, _, rfl, rfl, rfl, ((f1 s 0 (fun _ => Or.inl (by decide)) (fun e => absurd e (Nat.lt_irrefl s))).trans up_eq), (mfk.u (Or.inl rfl)).tr f1.k⟩

theorem s_276n (hm : oModel S T s) {ne np : Nat} {a : Nat → Nat} {cd : Nat → Cd} (B : MP I s h l a ne np cd) {p : Int} (hp : ¬ (0 ≤ p ∧ p ≤ ((lPorts l : Nat) : Int) - 1)): CL xs 276 [vr s, vi p] (S, I, T, cc, zz) (RP S T cc zz (fun v I' => v = some (vi 0) ∧ I' s 0 = 1 ∧ mfk I I' s)) := by
  refine CL_start (r := 10) (ls := [vr s, vi p]) (rk_276 _) rfl ?_
  refine w_aln l_276_0 rfl ?_
  refine w_aln l_276_1 rfl ?_
  refine w_iln l_276_2 rfl ?_
  refine q_iv [vi p] [vr s] l_276_3 rfl rfl (Nat.le_of_ble_eq_true rfl) (by rw [mx_228]; exact Nat.le_of_ble_eq_true rfl) (by rw [mt_228]; exact oModel_sh hm) (by rw [mt_228]; decide) (by rw [rk_228]; decide) (s_228 hm B) ?_
  refine w_beq 13 l_276_6 (by decide) (fun _ => ?_) (fun hx => absurd hx (by rw [decide_eq_false hp]; decide))
  refine w_ic l_276_13 (by decide) ?_
  refine w_pi l_276_14 (oModel_sh hm) ?_
  refine w_aln l_276_17 rfl ?_
  refine w_gi 1 l_276_18 (oModel_sh hm) up_eq ?_
  refine w_zle 26 l_276_21 (by decide) (fun hx => absurd hx (by decide)) (fun _ => ?_)
  refine w_ic l_276_24 (by decide) ?_
  refine w_ir l_276_25 (Or.inl rfl) ?_
  exact ⟨_, _, rfl, rfl, rfl, up_eq, (mfk.u (Or.inl rfl))⟩

theorem mx_280 : mxl 280 = 1 := by decide +kernel
theorem mt_280 : mtc 280 = 10 := by decide +kernel
theorem rk_280 (as : List AV) : rkA 280 as = 10 := rfl
theorem l_280_0 : look 280 0 = some (.aload_n 0, 1, 0, 0, 0, 0) := by decide +kernel
theorem l_280_1 : look 280 1 = some (.iconst 0, 1, 0, 0, 0, 0) := by decide +kernel
theorem l_280_2 : look 280 2 = some (.putfield 152, 3, 10, 0, 0, 1501) := by decide +kernel
theorem l_280_5 : look 280 5 = some (.aload_n 0, 1, 0, 0, 0, 0) := by decide +kernel
theorem l_280_6 : look 280 6 = some (.invokevirtual 496, 3, 272, 1, 0, 2161) := by decide +kernel
theorem l_280_9 : look 280 9 = some (.aload_n 0, 1, 0, 0, 0, 0) := by decide +kernel
theorem l_280_10 : look 280 10 = some (.invokevirtual 502, 3, 278, 1, 0, 2185) := by decide +kernel
theorem l_280_13 : look 280 13 = some (.aload_n 0, 1, 0, 0, 0, 0) := by decide +kernel
theorem l_280_14 : look 280 14 = some (.invokevirtual 443, 3, 215, 1, 0, 1897) := by decide +kernel
theorem l_280_17 : look 280 17 = some (.aload_n 0, 1, 0, 0, 0, 0) := by decide +kernel
theorem l_280_18 : look 280 18 = some (.invokevirtual 505, 3, 279, 1, 0, 2192) := by decide +kernel
theorem l_280_21 : look 280 21 = some (.ireturn, 1, 0, 0, 0, 0) := by decide +kernel

theorem s_280 (hm : oModel S T s) {ne np : Nat} {a : Nat → Nat} {cd : Nat → Cd} (B : MP I s h l a ne np cd)  {su : Su} (hS : nSu I s su) (hsu : okSu su) (hpk : okPk h ne) : CL xs 280 [vr s] (S, I, T, cc, zz) (RP S T cc zz (fun v I' => v = some (vi ((cntK (notIn (fun k t => decide (cntK (isKT k t) (runA h (supL l su) su.2.2.2 ne).2.1 (runA h (supL l su) su.2.2.2 ne).2.1.length ≠ 0))) (runA h l noOut ne).2.1 (runA h l noOut ne).2.1.length : Nat) : Int)) ∧ I' s 0 = 0 ∧ mfk I I' s)) := by
  refine CL_start (r := 10) (ls := [vr s]) (rk_280 _) rfl ?_
  refine w_aln l_280_0 rfl ?_
  refine w_ic l_280_1 (by decide) ?_
  refine w_pi l_280_2 (oModel_sh hm) ?_
  refine w_aln l_280_5 rfl ?_
  refine p_iv [] [] l_280_6 rfl rfl (Nat.le_of_ble_eq_true rfl) (by rw [mx_272]; exact Nat.le_of_ble_eq_true rfl) (by rw [mt_272]; exact oModel_sh hm) (by rw [mt_272]; decide) (by rw [rk_272]; decide) (s_272 hm (B.k (mfk.u (Or.inl rfl))) (hS.k (mfk.u (Or.inl rfl))) hsu) (fun v I1 hv => ?_)
  obtain ⟨rfl, hR1, f1, _, _⟩ := hv
  refine w_aln l_280_9 rfl ?_
  refine p_iv [] [] l_280_10 rfl rfl (Nat.le_of_ble_eq_true rfl) (by rw [mx_278]; exact Nat.le_of_ble_eq_true rfl) (by rw [mt_278]; exact oModel_sh hm) (by rw [mt_278]; decide) (by rw [rk_278]; decide) (s_278 hm hR1.2 (run_okDr (supL_ok B.2.2.2.2.1 hsu) B.2.2.2.2.2.1 hpk B.1.1 (Nat.le_refl ne))) (fun v I2 hv => ?_)
  obtain ⟨rfl, hW, f2⟩ := hv
  refine w_aln l_280_13 rfl ?_
  refine p_iv [] [] l_280_14 rfl rfl (Nat.le_of_ble_eq_true rfl) (by rw [mx_215]; exact Nat.le_of_ble_eq_true rfl) (by rw [mt_215]; exact oModel_sh hm) (by rw [mt_215]; decide) (by rw [rk_215]; decide) (s_215 hm (B.k ((mfk.u (Or.inl rfl)).tr (f1.k.tr (mfk.w f2))))) (fun v I3 hv => ?_)
  obtain ⟨rfl, hR3, f3, _, _⟩ := hv
  refine w_aln l_280_17 rfl ?_
  refine q_iv [] [] l_280_18 rfl rfl (Nat.le_of_ble_eq_true rfl) (by rw [mx_279]; exact Nat.le_of_ble_eq_true rfl) (by rw [mt_279]; exact oModel_sh hm) (by rw [mt_279]; decide) (by rw [rk_279]; decide) (s_279 hm hR3.2 (run_okDr B.2.2.2.2.1 B.2.2.2.2.2.1 hpk B.1.1 (Nat.le_refl ne)) (W := (fun k t => decide (cntK (isKT k t) (runA h (supL l su) su.2.2.2 ne).2.1 (runA h (supL l su) su.2.2.2 ne).2.1.length ≠ 0))) (fun k t hk ht => by rw [f3 (s + 38) (5 * k + t) (fun e => by omega) (fun _ => by omega)]; exact hW k t hk ht)) ?_
  refine w_ir l_280_21 (Or.inl rfl) ?_
  have t3 : I3 s 0 = 0 := by
    rw [f3 s 0 (fun _ => Or.inl (by decide)) (fun e => absurd e (Nat.lt_irrefl s)), f2 s (by omega) 0, f1 s 0 (fun _ => Or.inl (by decide)) (fun e => absurd e (Nat.lt_irrefl s)), up_eq]
  exact ⟨_, _, rfl, rfl, rfl, t3, ((mfk.u (Or.inl rfl)).tr (f1.k.tr (mfk.w f2))).tr f3.k⟩

theorem mx_281 : mxl 281 = 1 := by decide +kernel
theorem mt_281 : mtc 281 = 10 := by decide +kernel
theorem rk_281 (as : List AV) : rkA 281 as = 10 := rfl
theorem l_281_0 : look 281 0 = some (.aload_n 0, 1, 0, 0, 0, 0) := by decide +kernel
theorem l_281_1 : look 281 1 = some (.iconst 0, 1, 0, 0, 0, 0) := by decide +kernel
theorem l_281_2 : look 281 2 = some (.putfield 152, 3, 10, 0, 0, 1501) := by decide +kernel
theorem l_281_5 : look 281 5 = some (.aload_n 0, 1, 0, 0, 0, 0) := by decide +kernel
theorem l_281_6 : look 281 6 = some (.invokevirtual 443, 3, 215, 1, 0, 1897) := by decide +kernel
theorem l_281_9 : look 281 9 = some (.aload_n 0, 1, 0, 0, 0, 0) := by decide +kernel
theorem l_281_10 : look 281 10 = some (.invokevirtual 502, 3, 278, 1, 0, 2185) := by decide +kernel
theorem l_281_13 : look 281 13 = some (.aload_n 0, 1, 0, 0, 0, 0) := by decide +kernel
theorem l_281_14 : look 281 14 = some (.invokevirtual 496, 3, 272, 1, 0, 2161) := by decide +kernel
theorem l_281_17 : look 281 17 = some (.aload_n 0, 1, 0, 0, 0, 0) := by decide +kernel
theorem l_281_18 : look 281 18 = some (.invokevirtual 505, 3, 279, 1, 0, 2192) := by decide +kernel
theorem l_281_21 : look 281 21 = some (.ireturn, 1, 0, 0, 0, 0) := by decide +kernel

theorem s_281 (hm : oModel S T s) {ne np : Nat} {a : Nat → Nat} {cd : Nat → Cd} (B : MP I s h l a ne np cd)  {su : Su} (hS : nSu I s su) (hsu : okSu su) (hpk : okPk h ne) : CL xs 281 [vr s] (S, I, T, cc, zz) (RP S T cc zz (fun v I' => v = some (vi ((cntK (notIn (fun k t => decide (cntK (isKT k t) (runA h l noOut ne).2.1 (runA h l noOut ne).2.1.length ≠ 0))) (runA h (supL l su) su.2.2.2 ne).2.1 (runA h (supL l su) su.2.2.2 ne).2.1.length : Nat) : Int)) ∧ I' s 0 = 0 ∧ mfk I I' s)) := by
  refine CL_start (r := 10) (ls := [vr s]) (rk_281 _) rfl ?_
  refine w_aln l_281_0 rfl ?_
  refine w_ic l_281_1 (by decide) ?_
  refine w_pi l_281_2 (oModel_sh hm) ?_
  refine w_aln l_281_5 rfl ?_
  refine p_iv [] [] l_281_6 rfl rfl (Nat.le_of_ble_eq_true rfl) (by rw [mx_215]; exact Nat.le_of_ble_eq_true rfl) (by rw [mt_215]; exact oModel_sh hm) (by rw [mt_215]; decide) (by rw [rk_215]; decide) (s_215 hm (B.k (mfk.u (Or.inl rfl)))) (fun v I1 hv => ?_)
  obtain ⟨rfl, hR1, f1, _, _⟩ := hv
  refine w_aln l_281_9 rfl ?_
  refine p_iv [] [] l_281_10 rfl rfl (Nat.le_of_ble_eq_true rfl) (by rw [mx_278]; exact Nat.le_of_ble_eq_true rfl) (by rw [mt_278]; exact oModel_sh hm) (by rw [mt_278]; decide) (by rw [rk_278]; decide) (s_278 hm hR1.2 (run_okDr B.2.2.2.2.1 B.2.2.2.2.2.1 hpk B.1.1 (Nat.le_refl ne))) (fun v I2 hv => ?_)
  obtain ⟨rfl, hW, f2⟩ := hv
  refine w_aln l_281_13 rfl ?_
  refine p_iv [] [] l_281_14 rfl rfl (Nat.le_of_ble_eq_true rfl) (by rw [mx_272]; exact Nat.le_of_ble_eq_true rfl) (by rw [mt_272]; exact oModel_sh hm) (by rw [mt_272]; decide) (by rw [rk_272]; decide) (s_272 hm (B.k ((mfk.u (Or.inl rfl)).tr (f1.k.tr (mfk.w f2)))) (hS.k ((mfk.u (Or.inl rfl)).tr (f1.k.tr (mfk.w f2)))) hsu) (fun v I3 hv => ?_)
  obtain ⟨rfl, hR3, f3, _, _⟩ := hv
  refine w_aln l_281_17 rfl ?_
  refine q_iv [] [] l_281_18 rfl rfl (Nat.le_of_ble_eq_true rfl) (by rw [mx_279]; exact Nat.le_of_ble_eq_true rfl) (by rw [mt_279]; exact oModel_sh hm) (by rw [mt_279]; decide) (by rw [rk_279]; decide) (s_279 hm hR3.2 (run_okDr (supL_ok B.2.2.2.2.1 hsu) B.2.2.2.2.2.1 hpk B.1.1 (Nat.le_refl ne)) (W := (fun k t => decide (cntK (isKT k t) (runA h l noOut ne).2.1 (runA h l noOut ne).2.1.length ≠ 0))) (fun k t hk ht => by rw [f3 (s + 38) (5 * k + t) (fun e => by omega) (fun _ => by omega)]; exact hW k t hk ht)) ?_
  refine w_ir l_281_21 (Or.inl rfl) ?_
  have t3 : I3 s 0 = 0 := by
    rw [f3 s 0 (fun _ => Or.inl (by decide)) (fun e => absurd e (Nat.lt_irrefl s)), f2 s (by omega) 0, f1 s 0 (fun _ => Or.inl (by decide)) (fun e => absurd e (Nat.lt_irrefl s)), up_eq]
  exact ⟨_, _, rfl, rfl, rfl, t3, ((mfk.u (Or.inl rfl)).tr (f1.k.tr (mfk.w f2))).tr f3.k⟩

theorem mx_282 : mxl 282 = 2 := by decide +kernel
theorem mt_282 : mtc 282 = 10 := by decide +kernel
theorem rk_282 (as : List AV) : rkA 282 as = 11 := rfl
theorem l_282_0 : look 282 0 = some (.aload_n 0, 1, 0, 0, 0, 0) := by decide +kernel
theorem l_282_1 : look 282 1 = some (.aload_n 0, 1, 0, 0, 0, 0) := by decide +kernel
theorem l_282_2 : look 282 2 = some (.iload_n 1, 1, 0, 0, 0, 0) := by decide +kernel
theorem l_282_3 : look 282 3 = some (.invokevirtual 465, 3, 252, 2, 0, 2076) := by decide +kernel
theorem l_282_6 : look 282 6 = some (.ifCond .eq 7, 3, 0, 0, 0, 0) := by decide +kernel
theorem l_282_9 : look 282 9 = some (.iconst 0, 1, 0, 0, 0, 0) := by decide +kernel
theorem l_282_10 : look 282 10 = some (.goto 4, 3, 0, 0, 0, 0) := by decide +kernel
theorem l_282_13 : look 282 13 = some (.iconst 1, 1, 0, 0, 0, 0) := by decide +kernel
theorem l_282_14 : look 282 14 = some (.putfield 152, 3, 10, 0, 0, 1501) := by decide +kernel
theorem l_282_17 : look 282 17 = some (.aload_n 0, 1, 0, 0, 0, 0) := by decide +kernel
theorem l_282_18 : look 282 18 = some (.getfield 152, 3, 10, 0, 0, 1501) := by decide +kernel
theorem l_282_21 : look 282 21 = some (.ifCond .ne 31, 3, 0, 0, 0, 0) := by decide +kernel
theorem l_282_24 : look 282 24 = some (.aload_n 0, 1, 0, 0, 0, 0) := by decide +kernel
theorem l_282_25 : look 282 25 = some (.aload_n 0, 1, 0, 0, 0, 0) := by decide +kernel
theorem l_282_26 : look 282 26 = some (.getfield 140, 3, 10, 65, 2, 1566) := by decide +kernel
theorem l_282_29 : look 282 29 = some (.iconst 5, 1, 0, 0, 0, 0) := by decide +kernel
theorem l_282_30 : look 282 30 = some (.iload_n 1, 1, 0, 0, 0, 0) := by decide +kernel
theorem l_282_31 : look 282 31 = some (.iconst 1, 1, 0, 0, 0, 0) := by decide +kernel
theorem l_282_32 : look 282 32 = some (.invokestatic 468, 3, 204, 4, 1, 2080) := by decide +kernel
theorem l_282_35 : look 282 35 = some (.putfield 508, 3, 10, 72, 0, 1573) := by decide +kernel
theorem l_282_38 : look 282 38 = some (.aload_n 0, 1, 0, 0, 0, 0) := by decide +kernel
theorem l_282_39 : look 282 39 = some (.aload_n 0, 1, 0, 0, 0, 0) := by decide +kernel
theorem l_282_40 : look 282 40 = some (.getfield 140, 3, 10, 65, 2, 1566) := by decide +kernel
theorem l_282_43 : look 282 43 = some (.iconst 5, 1, 0, 0, 0, 0) := by decide +kernel
theorem l_282_44 : look 282 44 = some (.iload_n 1, 1, 0, 0, 0, 0) := by decide +kernel
theorem l_282_45 : look 282 45 = some (.iconst 2, 1, 0, 0, 0, 0) := by decide +kernel
theorem l_282_46 : look 282 46 = some (.invokestatic 468, 3, 204, 4, 1, 2080) := by decide +kernel
theorem l_282_49 : look 282 49 = some (.putfield 511, 3, 10, 73, 0, 1574) := by decide +kernel
theorem l_282_52 : look 282 52 = some (.aload_n 0, 1, 0, 0, 0, 0) := by decide +kernel
theorem l_282_53 : look 282 53 = some (.getfield 152, 3, 10, 0, 0, 1501) := by decide +kernel
theorem l_282_56 : look 282 56 = some (.ifCond .ne 7, 3, 0, 0, 0, 0) := by decide +kernel
theorem l_282_59 : look 282 59 = some (.iconst 1, 1, 0, 0, 0, 0) := by decide +kernel
theorem l_282_60 : look 282 60 = some (.goto 4, 3, 0, 0, 0, 0) := by decide +kernel
theorem l_282_63 : look 282 63 = some (.iconst 0, 1, 0, 0, 0, 0) := by decide +kernel
theorem l_282_64 : look 282 64 = some (.ireturn, 1, 0, 0, 1, 0) := by decide +kernel

theorem s_282 (hm : oModel S T s) {ne np : Nat} {a : Nat → Nat} {cd : Nat → Cd} (B : MP I s h l a ne np cd) {k : Nat} (hk : k < (runA h l noOut ne).2.1.length) : CL xs 282 [vr s, vi ((k : Nat) : Int)] (S, I, T, cc, zz) (RP S T cc zz (fun v I' => v = some (vi 1) ∧ I' s 0 = 0 ∧ I' s 72 = ((((runA h l noOut ne).2.1.getD k dr0).2.1 : Nat) : Int) ∧ I' s 73 = ((runA h l noOut ne).2.1.getD k dr0).2.2.1 ∧ mfk I I' s)) := by
  refine CL_start (r := 11) (ls := [vr s, vi ((k : Nat) : Int)]) (rk_282 _) rfl ?_
  have hl4 := B.2.2.2.2.1.1
  have hne := B.1.1
  have hnp := B.1.2.1
  have hok := (B.run noOut (Nat.le_refl ne)).1
  have hlen : (runA h l noOut ne).2.1.length ≤ 360 := by
    have h8 := hok.2.2
    unfold tot at h8
    omega
  refine w_aln l_282_0 rfl ?_
  refine w_aln l_282_1 rfl ?_
  refine w_iln l_282_2 rfl ?_
  refine p_iv [vi ((k : Nat) : Int)] [vr s] l_282_3 rfl rfl (Nat.le_of_ble_eq_true rfl) (by rw [mx_252]; exact Nat.le_of_ble_eq_true rfl) (by rw [mt_252]; exact oModel_sh hm) (by rw [mt_252]; decide) (by rw [rk_252]; decide) (s_252 hm B (k := ((k : Nat) : Int))) (fun v I1 hv => ?_)
  obtain ⟨rfl, hR1, f1⟩ := hv
  refine w_beq 13 l_282_6 (by decide) (fun hx => absurd hx (by rw [decide_eq_true (by omega)]; decide)) (fun _ => ?_)
  refine w_ic l_282_9 (by decide) ?_
  refine w_go 14 l_282_10 (by decide) ?_
  refine w_pi l_282_14 (oModel_sh hm) ?_
  refine w_aln l_282_17 rfl ?_
  refine w_gi 0 l_282_18 (oModel_sh hm) up_eq ?_
  refine w_zne 52 l_282_21 (by decide) (fun hx => absurd hx (by decide)) (fun _ => ?_)
  refine w_aln l_282_24 rfl ?_
  refine w_aln l_282_25 rfl ?_
  refine w_gr l_282_26 (oModel_sh hm) (oModel_r65 hm) ?_
  refine w_ic l_282_29 (by decide) ?_
  refine w_iln l_282_30 rfl ?_
  refine w_ic l_282_31 (by decide) ?_
  refine q_st [vr (s + 36), vi 5, vi ((k : Nat) : Int), vi 1] [vr s] l_282_32 (by decide) rfl rfl (Nat.le_of_ble_eq_true rfl) (by rw [mx_204]; exact Nat.le_of_ble_eq_true rfl) (by rw [rk_204]; decide) (r_part1 hm (hR1.2.fr (up_nj (by decide)) (fun y h1 h2 z => up_no (by omega))) hk) ?_
  refine w_pi l_282_35 (oModel_sh hm) ?_
  refine w_aln l_282_38 rfl ?_
  refine w_aln l_282_39 rfl ?_
  refine w_gr l_282_40 (oModel_sh hm) (oModel_r65 hm) ?_
  refine w_ic l_282_43 (by decide) ?_
  refine w_iln l_282_44 rfl ?_
  refine w_ic l_282_45 (by decide) ?_
  refine q_st [vr (s + 36), vi 5, vi ((k : Nat) : Int), vi 2] [vr s] l_282_46 (by decide) rfl rfl (Nat.le_of_ble_eq_true rfl) (by rw [mx_204]; exact Nat.le_of_ble_eq_true rfl) (by rw [rk_204]; decide) (r_part2 hm ((hR1.2.fr (up_nj (by decide)) (fun y h1 h2 z => up_no (by omega))).fr (up_nj (by decide)) (fun y h1 h2 z => up_no (by omega))) hk) ?_
  refine w_pi l_282_49 (oModel_sh hm) ?_
  refine w_aln l_282_52 rfl ?_
  refine w_gi 0 l_282_53 (oModel_sh hm) ((up_nj (by omega)).trans ((up_nj (by omega)).trans (up_eq))) ?_
  refine w_zne 63 l_282_56 (by decide) (fun hx => absurd hx (by decide)) (fun _ => ?_)
  refine w_ic l_282_59 (by decide) ?_
  refine w_go 64 l_282_60 (by decide) ?_
  refine w_ir l_282_64 (by decide) ?_
  exact ⟨_, _, rfl, rfl, rfl, by rw [up_nj (by decide), up_nj (by decide), up_eq], by rw [up_nj (by decide), up_eq], up_eq, f1.k.tr (((mfk.u (Or.inl rfl)).tr (mfk.u (Or.inr (Or.inl rfl)))).tr (mfk.u (Or.inr (Or.inr rfl))))⟩

theorem s_282n (hm : oModel S T s) {ne np : Nat} {a : Nat → Nat} {cd : Nat → Cd} (B : MP I s h l a ne np cd) {k : Int} (hk : ¬ (0 ≤ k ∧ k < (((runA h l noOut ne).2.1.length : Nat) : Int))): CL xs 282 [vr s, vi k] (S, I, T, cc, zz) (RP S T cc zz (fun v I' => v = some (vi 0) ∧ I' s 0 = 1 ∧ mfk I I' s)) := by
  refine CL_start (r := 11) (ls := [vr s, vi k]) (rk_282 _) rfl ?_
  have hl4 := B.2.2.2.2.1.1
  have hne := B.1.1
  have hnp := B.1.2.1
  have hok := (B.run noOut (Nat.le_refl ne)).1
  have hlen : (runA h l noOut ne).2.1.length ≤ 360 := by
    have h8 := hok.2.2
    unfold tot at h8
    omega
  refine w_aln l_282_0 rfl ?_
  refine w_aln l_282_1 rfl ?_
  refine w_iln l_282_2 rfl ?_
  refine p_iv [vi k] [vr s] l_282_3 rfl rfl (Nat.le_of_ble_eq_true rfl) (by rw [mx_252]; exact Nat.le_of_ble_eq_true rfl) (by rw [mt_252]; exact oModel_sh hm) (by rw [mt_252]; decide) (by rw [rk_252]; decide) (s_252 hm B (k := k)) (fun v I1 hv => ?_)
  obtain ⟨rfl, hR1, f1⟩ := hv
  refine w_beq 13 l_282_6 (by decide) (fun _ => ?_) (fun hx => absurd hx (by rw [decide_eq_false (by omega)]; decide))
  refine w_ic l_282_13 (by decide) ?_
  refine w_pi l_282_14 (oModel_sh hm) ?_
  refine w_aln l_282_17 rfl ?_
  refine w_gi 1 l_282_18 (oModel_sh hm) up_eq ?_
  refine w_zne 52 l_282_21 (by decide) (fun _ => ?_) (fun hx => absurd hx (by decide))
  refine w_aln l_282_52 rfl ?_
  refine w_gi 1 l_282_53 (oModel_sh hm) up_eq ?_
  refine w_zne 63 l_282_56 (by decide) (fun _ => ?_) (fun hx => absurd hx (by decide))
  refine w_ic l_282_63 (by decide) ?_
  refine w_ir l_282_64 (by decide) ?_
  exact ⟨_, _, rfl, rfl, rfl, up_eq, f1.k.tr (mfk.u (Or.inl rfl))⟩

theorem mx_285 : mxl 285 = 2 := by decide +kernel
theorem mt_285 : mtc 285 = 10 := by decide +kernel
theorem rk_285 (as : List AV) : rkA 285 as = 12 := rfl
theorem l_285_0 : look 285 0 = some (.aload_n 0, 1, 0, 0, 0, 0) := by decide +kernel
theorem l_285_1 : look 285 1 = some (.iload_n 1, 1, 0, 0, 0, 0) := by decide +kernel
theorem l_285_2 : look 285 2 = some (.invokevirtual 517, 3, 282, 2, 0, 2204) := by decide +kernel
theorem l_285_5 : look 285 5 = some (.ifCond .eq 11, 3, 0, 0, 0, 0) := by decide +kernel
theorem l_285_8 : look 285 8 = some (.aload_n 0, 1, 0, 0, 0, 0) := by decide +kernel
theorem l_285_9 : look 285 9 = some (.iconst (-1), 1, 0, 0, 0, 0) := by decide +kernel
theorem l_285_10 : look 285 10 = some (.invokevirtual 520, 3, 284, 2, 0, 2208) := by decide +kernel
theorem l_285_13 : look 285 13 = some (.goto 4, 3, 0, 0, 0, 0) := by decide +kernel
theorem l_285_16 : look 285 16 = some (.iconst 0, 1, 0, 0, 0, 0) := by decide +kernel
theorem l_285_17 : look 285 17 = some (.ireturn, 1, 0, 0, 0, 0) := by decide +kernel

theorem s_285 (hm : oModel S T s) {ne np : Nat} {a : Nat → Nat} {cd : Nat → Cd} (B : MP I s h l a ne np cd) {k : Nat} (hk : k < (runA h l noOut ne).2.1.length): CL xs 285 [vr s, vi ((k : Nat) : Int)] (S, I, T, cc, zz) (RP S T cc zz (fun v I' => v = some (vi (evF (fun e => !still (runA h l (fun o => o == e) ne).2.1 ((((runA h l noOut ne).2.1.getD k dr0).2.1 : Nat) : Int) ((runA h l noOut ne).2.1.getD k dr0).2.2.1) (-1) ne 0 0)) ∧ I' s 0 = 0 ∧ mfk I I' s)) := by
  refine CL_start (r := 12) (ls := [vr s, vi ((k : Nat) : Int)]) (rk_285 _) rfl ?_
  refine w_aln l_285_0 rfl ?_
  refine w_iln l_285_1 rfl ?_
  refine p_iv [vi ((k : Nat) : Int)] [] l_285_2 rfl rfl (Nat.le_of_ble_eq_true rfl) (by rw [mx_282]; exact Nat.le_of_ble_eq_true rfl) (by rw [mt_282]; exact oModel_sh hm) (by rw [mt_282]; decide) (by rw [rk_282]; decide) (s_282 hm B hk) (fun v I1 hv => ?_)
  obtain ⟨rfl, h0, h72, h73, f1⟩ := hv
  refine w_zeq 16 l_285_5 (by decide) (fun hx => absurd hx (by decide)) (fun _ => ?_)
  refine w_aln l_285_8 rfl ?_
  refine w_ic l_285_9 (by decide) ?_
  refine p_iv [vi (-1)] [] l_285_10 rfl rfl (Nat.le_of_ble_eq_true rfl) (by rw [mx_284]; exact Nat.le_of_ble_eq_true rfl) (by rw [mt_284]; exact oModel_sh hm) (by rw [mt_284]; decide) (by rw [rk_284]; decide) (s_284 hm (B.k f1) h72 h73) (fun v I2 hv => ?_)
  obtain ⟨rfl, f2⟩ := hv
  refine w_go 17 l_285_13 (by decide) ?_
  refine w_ir l_285_17 (Or.inl rfl) ?_
  exact ⟨_, _, rfl, rfl, rfl, (f2 s 0 (fun _ => Or.inl (by decide)) (fun e => absurd e (Nat.lt_irrefl s))).trans h0, f1.tr f2.k⟩

theorem s_285n (hm : oModel S T s) {ne np : Nat} {a : Nat → Nat} {cd : Nat → Cd} (B : MP I s h l a ne np cd) {k : Int} (hk : ¬ (0 ≤ k ∧ k < (((runA h l noOut ne).2.1.length : Nat) : Int))): CL xs 285 [vr s, vi k] (S, I, T, cc, zz) (RP S T cc zz (fun v I' => v = some (vi 0) ∧ I' s 0 = 1 ∧ mfk I I' s)) := by
  refine CL_start (r := 12) (ls := [vr s, vi k]) (rk_285 _) rfl ?_
  refine w_aln l_285_0 rfl ?_
  refine w_iln l_285_1 rfl ?_
  refine p_iv [vi k] [] l_285_2 rfl rfl (Nat.le_of_ble_eq_true rfl) (by rw [mx_282]; exact Nat.le_of_ble_eq_true rfl) (by rw [mt_282]; exact oModel_sh hm) (by rw [mt_282]; decide) (by rw [rk_282]; decide) (s_282n hm B hk) (fun v I1 hv => ?_)
  obtain ⟨rfl, h0, f1⟩ := hv
  refine w_zeq 16 l_285_5 (by decide) (fun _ => ?_) (fun hx => absurd hx (by decide))
  refine w_ic l_285_16 (by decide) ?_
  refine w_ir l_285_17 (Or.inl rfl) ?_
  exact ⟨_, _, rfl, rfl, rfl, h0, f1⟩

theorem mx_286 : mxl 286 = 3 := by decide +kernel
theorem mt_286 : mtc 286 = 10 := by decide +kernel
theorem rk_286 (as : List AV) : rkA 286 as = 12 := rfl
theorem l_286_0 : look 286 0 = some (.aload_n 0, 1, 0, 0, 0, 0) := by decide +kernel
theorem l_286_1 : look 286 1 = some (.iload_n 1, 1, 0, 0, 0, 0) := by decide +kernel
theorem l_286_2 : look 286 2 = some (.invokevirtual 517, 3, 282, 2, 0, 2204) := by decide +kernel
theorem l_286_5 : look 286 5 = some (.ifCond .ne 5, 3, 0, 0, 0, 0) := by decide +kernel
theorem l_286_8 : look 286 8 = some (.iconst 0, 1, 0, 0, 0, 0) := by decide +kernel
theorem l_286_9 : look 286 9 = some (.ireturn, 1, 0, 0, 0, 0) := by decide +kernel
theorem l_286_10 : look 286 10 = some (.iload_n 2, 1, 0, 0, 0, 0) := by decide +kernel
theorem l_286_11 : look 286 11 = some (.ifCond .ge 7, 3, 0, 0, 0, 0) := by decide +kernel
theorem l_286_14 : look 286 14 = some (.iconst (-1), 1, 0, 0, 0, 0) := by decide +kernel
theorem l_286_15 : look 286 15 = some (.goto 8, 3, 0, 0, 0, 0) := by decide +kernel
theorem l_286_18 : look 286 18 = some (.aload_n 0, 1, 0, 0, 0, 0) := by decide +kernel
theorem l_286_19 : look 286 19 = some (.iload_n 2, 1, 0, 0, 0, 0) := by decide +kernel
theorem l_286_20 : look 286 20 = some (.invokevirtual 520, 3, 284, 2, 0, 2208) := by decide +kernel
theorem l_286_23 : look 286 23 = some (.ireturn, 1, 0, 0, 0, 0) := by decide +kernel

theorem s_286 (hm : oModel S T s) {ne np : Nat} {a : Nat → Nat} {cd : Nat → Cd} (B : MP I s h l a ne np cd) {k : Nat} (hk : k < (runA h l noOut ne).2.1.length) {j : Int} (hj : 0 ≤ j): CL xs 286 [vr s, vi ((k : Nat) : Int), vi j] (S, I, T, cc, zz) (RP S T cc zz (fun v I' => v = some (vi (evF (fun e => !still (runA h l (fun o => o == e) ne).2.1 ((((runA h l noOut ne).2.1.getD k dr0).2.1 : Nat) : Int) ((runA h l noOut ne).2.1.getD k dr0).2.2.1) j ne 0 0)) ∧ I' s 0 = 0 ∧ mfk I I' s)) := by
  refine CL_start (r := 12) (ls := [vr s, vi ((k : Nat) : Int), vi j]) (rk_286 _) rfl ?_
  refine w_aln l_286_0 rfl ?_
  refine w_iln l_286_1 rfl ?_
  refine p_iv [vi ((k : Nat) : Int)] [] l_286_2 rfl rfl (Nat.le_of_ble_eq_true rfl) (by rw [mx_282]; exact Nat.le_of_ble_eq_true rfl) (by rw [mt_282]; exact oModel_sh hm) (by rw [mt_282]; decide) (by rw [rk_282]; decide) (s_282 hm B hk) (fun v I1 hv => ?_)
  obtain ⟨rfl, h0, h72, h73, f1⟩ := hv
  refine w_zne 10 l_286_5 (by decide) (fun _ => ?_) (fun hx => absurd hx (by decide))
  refine w_iln l_286_10 rfl ?_
  refine w_zge 18 l_286_11 (by decide) (fun _ => ?_) (fun hx => absurd hx (by omega))
  refine w_aln l_286_18 rfl ?_
  refine w_iln l_286_19 rfl ?_
  refine p_iv [vi j] [] l_286_20 rfl rfl (Nat.le_of_ble_eq_true rfl) (by rw [mx_284]; exact Nat.le_of_ble_eq_true rfl) (by rw [mt_284]; exact oModel_sh hm) (by rw [mt_284]; decide) (by rw [rk_284]; decide) (s_284 hm (B.k f1) h72 h73) (fun v I2 hv => ?_)
  obtain ⟨rfl, f2⟩ := hv
  refine w_ir l_286_23 (Or.inl rfl) ?_
  exact ⟨_, _, rfl, rfl, rfl, (f2 s 0 (fun _ => Or.inl (by decide)) (fun e => absurd e (Nat.lt_irrefl s))).trans h0, f1.tr f2.k⟩

theorem s_286m (hm : oModel S T s) {ne np : Nat} {a : Nat → Nat} {cd : Nat → Cd} (B : MP I s h l a ne np cd) {k : Nat} (hk : k < (runA h l noOut ne).2.1.length) {j : Int} (hj : j < 0): CL xs 286 [vr s, vi ((k : Nat) : Int), vi j] (S, I, T, cc, zz) (RP S T cc zz (fun v I' => v = some (vi (-1)) ∧ I' s 0 = 0 ∧ mfk I I' s)) := by
  refine CL_start (r := 12) (ls := [vr s, vi ((k : Nat) : Int), vi j]) (rk_286 _) rfl ?_
  refine w_aln l_286_0 rfl ?_
  refine w_iln l_286_1 rfl ?_
  refine p_iv [vi ((k : Nat) : Int)] [] l_286_2 rfl rfl (Nat.le_of_ble_eq_true rfl) (by rw [mx_282]; exact Nat.le_of_ble_eq_true rfl) (by rw [mt_282]; exact oModel_sh hm) (by rw [mt_282]; decide) (by rw [rk_282]; decide) (s_282 hm B hk) (fun v I1 hv => ?_)
  obtain ⟨rfl, h0, h72, h73, f1⟩ := hv
  refine w_zne 10 l_286_5 (by decide) (fun _ => ?_) (fun hx => absurd hx (by decide))
  refine w_iln l_286_10 rfl ?_
  refine w_zge 18 l_286_11 (by decide) (fun hx => absurd hx (by omega)) (fun _ => ?_)
  refine w_ic l_286_14 (by decide) ?_
  refine w_go 23 l_286_15 (by decide) ?_
  refine w_ir l_286_23 (Or.inl rfl) ?_
  exact ⟨_, _, rfl, rfl, rfl, h0, f1⟩

theorem s_286n (hm : oModel S T s) {ne np : Nat} {a : Nat → Nat} {cd : Nat → Cd} (B : MP I s h l a ne np cd) {k j : Int} (hk : ¬ (0 ≤ k ∧ k < (((runA h l noOut ne).2.1.length : Nat) : Int))): CL xs 286 [vr s, vi k, vi j] (S, I, T, cc, zz) (RP S T cc zz (fun v I' => v = some (vi 0) ∧ I' s 0 = 1 ∧ mfk I I' s)) := by
  refine CL_start (r := 12) (ls := [vr s, vi k, vi j]) (rk_286 _) rfl ?_
  refine w_aln l_286_0 rfl ?_
  refine w_iln l_286_1 rfl ?_
  refine p_iv [vi k] [] l_286_2 rfl rfl (Nat.le_of_ble_eq_true rfl) (by rw [mx_282]; exact Nat.le_of_ble_eq_true rfl) (by rw [mt_282]; exact oModel_sh hm) (by rw [mt_282]; decide) (by rw [rk_282]; decide) (s_282n hm B hk) (fun v I1 hv => ?_)
  obtain ⟨rfl, h0, f1⟩ := hv
  refine w_zne 10 l_286_5 (by decide) (fun hx => absurd hx (by decide)) (fun _ => ?_)
  refine w_ic l_286_8 (by decide) ?_
  refine w_ir l_286_9 (Or.inl rfl) ?_
  exact ⟨_, _, rfl, rfl, rfl, h0, f1⟩

end RD
