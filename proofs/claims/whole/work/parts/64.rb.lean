/-! the reference: answers, 2 -/
def cntV (l : Li) (A : Sa) : Nat → Nat
  | 0 => 0
  | n + 1 => if (validA l A n).isSome then cntV l A n + 1 else cntV l A n
theorem cntV_t {l : Li} {A : Sa} {n : Nat} (h : (validA l A n).isSome = true) : cntV l A (n + 1) = cntV l A n + 1 := if_pos h
theorem cntV_f {l : Li} {A : Sa} {n : Nat} (h : (validA l A n).isSome = false) : cntV l A (n + 1) = cntV l A n := if_neg (by rw [h]; decide)
theorem cntV_le {l : Li} {A : Sa} : ∀ n, cntV l A n ≤ n
  | 0 => Nat.le_refl _
  | n + 1 => by
    have := cntV_le (l := l) (A := A) n
    unfold cntV
    split <;> omega
def firstK (f : Dr → Bool) (g : List Dr) : Nat → Nat → Int
  | 0, _ => -1
  | d + 1, k => if f (g.getD k dr0) then (k : Int) else firstK f g d (k + 1)
def isPk (k : Int) : Dr → Bool := fun d => decide ((d.2.1 : Int) = k)
def drF (d : Dr) (j : Nat) : Int := if j = 0 then (d.1 : Int) else if j = 1 then (d.2.1 : Int) else if j = 2 then d.2.2.1 else if j = 3 then (d.2.2.2.1 : Int) else d.2.2.2.2
section RB
variable {xs : List Int} {S : List (Nat × Nat)} {T : Nat → Nat → Nat} {cc zz s : Nat} {h : Hi} {l : Li} {r : Ra} {g : Lo} {I I' : Ix}

theorem mx_245 : mxl 245 = 3 := by decide +kernel
theorem mt_245 : mtc 245 = 10 := by decide +kernel
theorem rk_245 (as : List AV) : rkA 245 as = 11 := rfl
theorem l_245_0 : look 245 0 = some (.aload_n 0, 1, 0, 0, 0, 0) := by decide +kernel
theorem l_245_1 : look 245 1 = some (.iload_n 1, 1, 0, 0, 0, 0) := by decide +kernel
theorem l_245_2 : look 245 2 = some (.invokevirtual 462, 3, 242, 2, 0, 2036) := by decide +kernel
theorem l_245_5 : look 245 5 = some (.ifCond .ne 5, 3, 0, 0, 0, 0) := by decide +kernel
theorem l_245_8 : look 245 8 = some (.iconst 0, 1, 0, 0, 0, 0) := by decide +kernel
theorem l_245_9 : look 245 9 = some (.ireturn, 1, 0, 0, 0, 0) := by decide +kernel
theorem l_245_10 : look 245 10 = some (.iload_n 2, 1, 0, 0, 0, 0) := by decide +kernel
theorem l_245_11 : look 245 11 = some (.iconst 0, 1, 0, 0, 0, 0) := by decide +kernel
theorem l_245_12 : look 245 12 = some (.aload_n 0, 1, 0, 0, 0, 0) := by decide +kernel
theorem l_245_13 : look 245 13 = some (.getfield 122, 3, 10, 59, 2, 1560) := by decide +kernel
theorem l_245_16 : look 245 16 = some (.iload_n 1, 1, 0, 0, 0, 0) := by decide +kernel
theorem l_245_17 : look 245 17 = some (.iaload, 1, 0, 0, 0, 0) := by decide +kernel
theorem l_245_18 : look 245 18 = some (.iconst 1, 1, 0, 0, 0, 0) := by decide +kernel
theorem l_245_19 : look 245 19 = some (.isub, 1, 0, 0, 0, 0) := by decide +kernel
theorem l_245_20 : look 245 20 = some (.invokestatic 175, 3, 169, 3, 1, 1775) := by decide +kernel
theorem l_245_23 : look 245 23 = some (.ifCond .eq 17, 3, 0, 0, 0, 0) := by decide +kernel
theorem l_245_26 : look 245 26 = some (.aload_n 0, 1, 0, 0, 0, 0) := by decide +kernel
theorem l_245_27 : look 245 27 = some (.getfield 116, 3, 10, 57, 2, 1558) := by decide +kernel
theorem l_245_30 : look 245 30 = some (.bipush 100, 2, 0, 0, 0, 0) := by decide +kernel
theorem l_245_32 : look 245 32 = some (.iload_n 1, 1, 0, 0, 0, 0) := by decide +kernel
theorem l_245_33 : look 245 33 = some (.imul, 1, 0, 0, 0, 0) := by decide +kernel
theorem l_245_34 : look 245 34 = some (.iload_n 2, 1, 0, 0, 0, 0) := by decide +kernel
theorem l_245_35 : look 245 35 = some (.iadd, 1, 0, 0, 0, 0) := by decide +kernel
theorem l_245_36 : look 245 36 = some (.iaload, 1, 0, 0, 0, 0) := by decide +kernel
theorem l_245_37 : look 245 37 = some (.goto 4, 3, 0, 0, 0, 0) := by decide +kernel
theorem l_245_40 : look 245 40 = some (.iconst (-1), 1, 0, 0, 0, 0) := by decide +kernel
theorem l_245_41 : look 245 41 = some (.ireturn, 1, 0, 0, 0, 0) := by decide +kernel

theorem s_245 (hm : oModel S T s) {ne np : Nat} {a : Nat → Nat} {cd : Nat → Cd} (B : MP I s h l a ne np cd) {p k : Nat} (hp : p < lPorts l) (hk : k < (sQ (runA h l noOut ne).1 p).length): CL xs 245 [vr s, vi ((p : Nat) : Int), vi ((k : Nat) : Int)] (S, I, T, cc, zz) (RP S T cc zz (fun v I' => v = some (vi (((sQ (runA h l noOut ne).1 p).getD k (0, 0)).1 : Int)) ∧ I' s 0 = 0 ∧ mfk I I' s)) := by
  refine CL_start (r := 11) (ls := [vr s, vi ((p : Nat) : Int), vi ((k : Nat) : Int)]) (rk_245 _) rfl ?_
  have hl4 := B.2.2.2.2.1.1
  have hne := B.1.1
  have hnp := B.1.2.1
  have hok := (B.run noOut (Nat.le_refl ne)).1
  have hlen : (runA h l noOut ne).2.1.length ≤ 360 := by
    have h8 := hok.2.2
    unfold tot at h8
    omega
  have hp4 : p < 4 := by omega
  have hll := ok_len hok B.2.2.2.1 p
  refine w_aln l_245_0 rfl ?_
  refine w_iln l_245_1 rfl ?_
  refine p_iv [vi ((p : Nat) : Int)] [] l_245_2 rfl rfl (Nat.le_of_ble_eq_true rfl) (by rw [mx_242]; exact Nat.le_of_ble_eq_true rfl) (by rw [mt_242]; exact oModel_sh hm) (by rw [mt_242]; decide) (by rw [rk_242]; decide) (s_242 hm B (p := ((p : Nat) : Int)) (by omega)) (fun v I1 hv => ?_)
  obtain ⟨rfl, h0, hR1, f1⟩ := hv
  refine w_zne 10 l_245_5 (by decide) (fun _ => ?_) (fun hx => absurd hx (by decide))
  refine w_iln l_245_10 rfl ?_
  refine w_ic l_245_11 (by decide) ?_
  refine w_aln l_245_12 rfl ?_
  refine w_gr l_245_13 (oModel_sh hm) (oModel_r59 hm) ?_
  refine w_iln l_245_16 rfl ?_
  refine w_ia p (((sQ (runA h l noOut ne).1 p).length : Nat) : Int) l_245_17 (oModel_s59 hm) rfl (by omega) ((hR1.1.2.2.1 p hp4).1) ?_
  refine w_ic l_245_18 (by decide) ?_
  refine w_sub ((((sQ (runA h l noOut ne).1 p).length : Nat) : Int) - 1) l_245_19 (by unfold wr; omega) ?_
  refine q_st [vi ((k : Nat) : Int), vi 0, vi ((((sQ (runA h l noOut ne).1 p).length : Nat) : Int) - 1)] [] l_245_20 (by decide) rfl rfl (Nat.le_of_ble_eq_true rfl) (by rw [mx_169]; exact Nat.le_of_ble_eq_true rfl) (by rw [rk_169]; decide) (s_169) ?_
  refine w_beq 40 l_245_23 (by decide) (fun hx => absurd hx (by rw [decide_eq_true (by omega)]; decide)) (fun _ => ?_)
  refine w_aln l_245_26 rfl ?_
  refine w_gr l_245_27 (oModel_sh hm) (oModel_r57 hm) ?_
  refine w_bp l_245_30 (by decide) ?_
  refine w_iln l_245_32 rfl ?_
  refine w_mul ((100 * p : Nat) : Int) l_245_33 (by unfold wr; omega) ?_
  refine w_iln l_245_34 rfl ?_
  refine w_add ((100 * p + k : Nat) : Int) l_245_35 (by unfold wr; omega) ?_
  refine w_ia (100 * p + k) ((((sQ (runA h l noOut ne).1 p).getD k (0, 0)).1 : Nat) : Int) l_245_36 (oModel_s57 hm) rfl (by omega) (((hR1.1.2.2.1 p hp4).2.2 k hk).1) ?_
  refine w_go 41 l_245_37 (by decide) ?_
  refine w_ir l_245_41 (Or.inl rfl) ?_
  exact ⟨_, _, rfl, rfl, rfl, h0, f1⟩

theorem s_245o (hm : oModel S T s) {ne np : Nat} {a : Nat → Nat} {cd : Nat → Cd} (B : MP I s h l a ne np cd) {p : Nat} {k : Int} (hp : p < lPorts l) (hk : ¬ (0 ≤ k ∧ k < (((sQ (runA h l noOut ne).1 p).length : Nat) : Int))): CL xs 245 [vr s, vi ((p : Nat) : Int), vi k] (S, I, T, cc, zz) (RP S T cc zz (fun v I' => v = some (vi (-1)) ∧ I' s 0 = 0 ∧ mfk I I' s)) := by
  refine CL_start (r := 11) (ls := [vr s, vi ((p : Nat) : Int), vi k]) (rk_245 _) rfl ?_
  have hl4 := B.2.2.2.2.1.1
  have hne := B.1.1
  have hnp := B.1.2.1
  have hok := (B.run noOut (Nat.le_refl ne)).1
  have hlen : (runA h l noOut ne).2.1.length ≤ 360 := by
    have h8 := hok.2.2
    unfold tot at h8
    omega
  have hp4 : p < 4 := by omega
  have hll := ok_len hok B.2.2.2.1 p
  refine w_aln l_245_0 rfl ?_
  refine w_iln l_245_1 rfl ?_
  refine p_iv [vi ((p : Nat) : Int)] [] l_245_2 rfl rfl (Nat.le_of_ble_eq_true rfl) (by rw [mx_242]; exact Nat.le_of_ble_eq_true rfl) (by rw [mt_242]; exact oModel_sh hm) (by rw [mt_242]; decide) (by rw [rk_242]; decide) (s_242 hm B (p := ((p : Nat) : Int)) (by omega)) (fun v I1 hv => ?_)
  obtain ⟨rfl, h0, hR1, f1⟩ := hv
  refine w_zne 10 l_245_5 (by decide) (fun _ => ?_) (fun hx => absurd hx (by decide))
  refine w_iln l_245_10 rfl ?_
  refine w_ic l_245_11 (by decide) ?_
  refine w_aln l_245_12 rfl ?_
  refine w_gr l_245_13 (oModel_sh hm) (oModel_r59 hm) ?_
  refine w_iln l_245_16 rfl ?_
  refine w_ia p (((sQ (runA h l noOut ne).1 p).length : Nat) : Int) l_245_17 (oModel_s59 hm) rfl (by omega) ((hR1.1.2.2.1 p hp4).1) ?_
  refine w_ic l_245_18 (by decide) ?_
  refine w_sub ((((sQ (runA h l noOut ne).1 p).length : Nat) : Int) - 1) l_245_19 (by unfold wr; omega) ?_
  refine q_st [vi k, vi 0, vi ((((sQ (runA h l noOut ne).1 p).length : Nat) : Int) - 1)] [] l_245_20 (by decide) rfl rfl (Nat.le_of_ble_eq_true rfl) (by rw [mx_169]; exact Nat.le_of_ble_eq_true rfl) (by rw [rk_169]; decide) (s_169) ?_
  refine w_beq 40 l_245_23 (by decide) (fun _ => ?_) (fun hx => absurd hx (by rw [decide_eq_false (by omega)]; decide))
  refine w_ic l_245_40 (by decide) ?_
  refine w_ir l_245_41 (Or.inl rfl) ?_
  exact ⟨_, _, rfl, rfl, rfl, h0, f1⟩

theorem s_245n (hm : oModel S T s) {ne np : Nat} {a : Nat → Nat} {cd : Nat → Cd} (B : MP I s h l a ne np cd) {p k : Int} (hp : ¬ (0 ≤ p ∧ p ≤ ((lPorts l : Nat) : Int) - 1)): CL xs 245 [vr s, vi p, vi k] (S, I, T, cc, zz) (RP S T cc zz (fun v I' => v = some (vi 0) ∧ I' s 0 = 1 ∧ mfk I I' s)) := by
  refine CL_start (r := 11) (ls := [vr s, vi p, vi k]) (rk_245 _) rfl ?_
  refine w_aln l_245_0 rfl ?_
  refine w_iln l_245_1 rfl ?_
  refine p_iv [vi p] [] l_245_2 rfl rfl (Nat.le_of_ble_eq_true rfl) (by rw [mx_242]; exact Nat.le_of_ble_eq_true rfl) (by rw [mt_242]; exact oModel_sh hm) (by rw [mt_242]; decide) (by rw [rk_242]; decide) (s_242n hm B hp) (fun v I1 hv => ?_)
  obtain ⟨rfl, h0, f1⟩ := hv
  refine w_zne 10 l_245_5 (by decide) (fun hx => absurd hx (by decide)) (fun _ => ?_)
  refine w_ic l_245_8 (by decide) ?_
  refine w_ir l_245_9 (Or.inl rfl) ?_
  exact ⟨_, _, rfl, rfl, rfl, h0, f1⟩

theorem mx_247 : mxl 247 = 2 := by decide +kernel
theorem mt_247 : mtc 247 = 10 := by decide +kernel
theorem rk_247 (as : List AV) : rkA 247 as = 11 := rfl
theorem l_247_0 : look 247 0 = some (.aload_n 0, 1, 0, 0, 0, 0) := by decide +kernel
theorem l_247_1 : look 247 1 = some (.iload_n 1, 1, 0, 0, 0, 0) := by decide +kernel
theorem l_247_2 : look 247 2 = some (.invokevirtual 462, 3, 242, 2, 0, 2036) := by decide +kernel
theorem l_247_5 : look 247 5 = some (.ifCond .ne 5, 3, 0, 0, 0, 0) := by decide +kernel
theorem l_247_8 : look 247 8 = some (.iconst 0, 1, 0, 0, 0, 0) := by decide +kernel
theorem l_247_9 : look 247 9 = some (.ireturn, 1, 0, 0, 0, 0) := by decide +kernel
theorem l_247_10 : look 247 10 = some (.aload_n 0, 1, 0, 0, 0, 0) := by decide +kernel
theorem l_247_11 : look 247 11 = some (.getfield 23, 3, 10, 6, 2, 1507) := by decide +kernel
theorem l_247_14 : look 247 14 = some (.iload_n 1, 1, 0, 0, 0, 0) := by decide +kernel
theorem l_247_15 : look 247 15 = some (.iaload, 1, 0, 0, 0, 0) := by decide +kernel
theorem l_247_16 : look 247 16 = some (.iconst (-1), 1, 0, 0, 0, 0) := by decide +kernel
theorem l_247_17 : look 247 17 = some (.if_icmp .ne 7, 3, 0, 0, 0, 0) := by decide +kernel
theorem l_247_20 : look 247 20 = some (.iconst (-1), 1, 0, 0, 0, 0) := by decide +kernel
theorem l_247_21 : look 247 21 = some (.goto 9, 3, 0, 0, 0, 0) := by decide +kernel
theorem l_247_24 : look 247 24 = some (.aload_n 0, 1, 0, 0, 0, 0) := by decide +kernel
theorem l_247_25 : look 247 25 = some (.getfield 125, 3, 10, 60, 2, 1561) := by decide +kernel
theorem l_247_28 : look 247 28 = some (.iload_n 1, 1, 0, 0, 0, 0) := by decide +kernel
theorem l_247_29 : look 247 29 = some (.iaload, 1, 0, 0, 0, 0) := by decide +kernel
theorem l_247_30 : look 247 30 = some (.ireturn, 1, 0, 0, 0, 0) := by decide +kernel

theorem s_247 (hm : oModel S T s) {ne np : Nat} {a : Nat → Nat} {cd : Nat → Cd} (B : MP I s h l a ne np cd) {p : Nat} (hp : p < lPorts l) : CL xs 247 [vr s, vi ((p : Nat) : Int)] (S, I, T, cc, zz) (RP S T cc zz (fun v I' => v = some (vi (tokI l (runA h l noOut ne).1 p)) ∧ I' s 0 = 0 ∧ mfk I I' s)) := by
  have hl4 := B.2.2.2.2.1.1
  have hne := B.1.1
  have hnp := B.1.2.1
  have hok := (B.run noOut (Nat.le_refl ne)).1
  have hlen : (runA h l noOut ne).2.1.length ≤ 360 := by
    have h8 := hok.2.2
    unfold tot at h8
    omega
  have hp4 : p < 4 := by omega
  have hll := ok_len hok B.2.2.2.1 p
  cases hpo : lPol l p with
  | none =>
    have gB : ∀ {J : Ix}, nR J s l (runA h l noOut ne) → mfk I J s → J (s + 4) p = 0 ∧ J (s + 5) p = -1 := by
      intro J _ f
      have g := ((B.k f).2.1.2.1 p hp).2.2
      rw [hpo] at g
      exact g
    refine CL_start (r := 11) (ls := [vr s, vi ((p : Nat) : Int)]) (rk_247 _) rfl ?_
    refine w_aln l_247_0 rfl ?_
    refine w_iln l_247_1 rfl ?_
    refine p_iv [vi ((p : Nat) : Int)] [] l_247_2 rfl rfl (Nat.le_of_ble_eq_true rfl) (by rw [mx_242]; exact Nat.le_of_ble_eq_true rfl) (by rw [mt_242]; exact oModel_sh hm) (by rw [mt_242]; decide) (by rw [rk_242]; decide) (s_242 hm B (p := ((p : Nat) : Int)) (by omega)) (fun v I1 hv => ?_)
    obtain ⟨rfl, h0, hR1, f1⟩ := hv
    refine w_zne 10 l_247_5 (by decide) (fun _ => ?_) (fun hx => absurd hx (by decide))
    refine w_aln l_247_10 rfl ?_
    refine w_gr l_247_11 (oModel_sh hm) (oModel_r6 hm) ?_
    refine w_iln l_247_14 rfl ?_
    refine w_ia p (-1) l_247_15 (oModel_s6 hm) rfl (by omega) ((gB hR1 f1).2) ?_
    refine w_ic l_247_16 (by decide) ?_
    refine w_cne 24 l_247_17 (by decide) (fun hx => absurd hx (by decide)) (fun _ => ?_)
    refine w_ic l_247_20 (by decide) ?_
    refine w_go 30 l_247_21 (by decide) ?_
    refine w_ir l_247_30 (Or.inl rfl) ?_
    refine ⟨_, _, rfl, rfl, ?_, h0, f1⟩
    rw [show tokI l (runA h l noOut ne).1 p = -1 by unfold tokI; rw [hpo]]
  | some rb =>
    obtain ⟨ra, b⟩ := rb
    have gB : ∀ {J : Ix}, nR J s l (runA h l noOut ne) → mfk I J s → J (s + 4) p = (ra : Int) ∧ J (s + 5) p = (b : Int) := by
      intro J _ f
      have g := ((B.k f).2.1.2.1 p hp).2.2
      rw [hpo] at g
      exact g
    refine CL_start (r := 11) (ls := [vr s, vi ((p : Nat) : Int)]) (rk_247 _) rfl ?_
    refine w_aln l_247_0 rfl ?_
    refine w_iln l_247_1 rfl ?_
    refine p_iv [vi ((p : Nat) : Int)] [] l_247_2 rfl rfl (Nat.le_of_ble_eq_true rfl) (by rw [mx_242]; exact Nat.le_of_ble_eq_true rfl) (by rw [mt_242]; exact oModel_sh hm) (by rw [mt_242]; decide) (by rw [rk_242]; decide) (s_242 hm B (p := ((p : Nat) : Int)) (by omega)) (fun v I1 hv => ?_)
    obtain ⟨rfl, h0, hR1, f1⟩ := hv
    refine w_zne 10 l_247_5 (by decide) (fun _ => ?_) (fun hx => absurd hx (by decide))
    refine w_aln l_247_10 rfl ?_
    refine w_gr l_247_11 (oModel_sh hm) (oModel_r6 hm) ?_
    refine w_iln l_247_14 rfl ?_
    refine w_ia p ((b : Nat) : Int) l_247_15 (oModel_s6 hm) rfl (by omega) ((gB hR1 f1).2) ?_
    refine w_ic l_247_16 (by decide) ?_
    refine w_cne 24 l_247_17 (by decide) (fun _ => ?_) (fun hx => absurd hx (by omega))
    refine w_aln l_247_24 rfl ?_
    refine w_gr l_247_25 (oModel_sh hm) (oModel_r60 hm) ?_
    refine w_iln l_247_28 rfl ?_
    refine w_ia p (tokI l (runA h l noOut ne).1 p) l_247_29 (oModel_s60 hm) rfl (by omega) ((hR1.1.2.2.2.1 p hp).1) ?_
    refine w_ir l_247_30 (Or.inl rfl) ?_
    exact ⟨_, _, rfl, rfl, rfl, h0, f1⟩

theorem s_247n (hm : oModel S T s) {ne np : Nat} {a : Nat → Nat} {cd : Nat → Cd} (B : MP I s h l a ne np cd) {p : Int} (hp : ¬ (0 ≤ p ∧ p ≤ ((lPorts l : Nat) : Int) - 1)): CL xs 247 [vr s, vi p] (S, I, T, cc, zz) (RP S T cc zz (fun v I' => v = some (vi 0) ∧ I' s 0 = 1 ∧ mfk I I' s)) := by
  refine CL_start (r := 11) (ls := [vr s, vi p]) (rk_247 _) rfl ?_
  refine w_aln l_247_0 rfl ?_
  refine w_iln l_247_1 rfl ?_
  refine p_iv [vi p] [] l_247_2 rfl rfl (Nat.le_of_ble_eq_true rfl) (by rw [mx_242]; exact Nat.le_of_ble_eq_true rfl) (by rw [mt_242]; exact oModel_sh hm) (by rw [mt_242]; decide) (by rw [rk_242]; decide) (s_242n hm B hp) (fun v I1 hv => ?_)
  obtain ⟨rfl, h0, f1⟩ := hv
  refine w_zne 10 l_247_5 (by decide) (fun hx => absurd hx (by decide)) (fun _ => ?_)
  refine w_ic l_247_8 (by decide) ?_
  refine w_ir l_247_9 (Or.inl rfl) ?_
  exact ⟨_, _, rfl, rfl, rfl, h0, f1⟩

theorem mx_248 : mxl 248 = 2 := by decide +kernel
theorem mt_248 : mtc 248 = 10 := by decide +kernel
theorem rk_248 (as : List AV) : rkA 248 as = 10 := rfl
theorem l_248_0 : look 248 0 = some (.aload_n 0, 1, 0, 0, 0, 0) := by decide +kernel
theorem l_248_1 : look 248 1 = some (.iload_n 1, 1, 0, 0, 0, 0) := by decide +kernel
theorem l_248_2 : look 248 2 = some (.invokestatic 446, 3, 233, 1, 1, 1886) := by decide +kernel
theorem l_248_5 : look 248 5 = some (.ifCond .eq 7, 3, 0, 0, 0, 0) := by decide +kernel
theorem l_248_8 : look 248 8 = some (.iconst 0, 1, 0, 0, 0, 0) := by decide +kernel
theorem l_248_9 : look 248 9 = some (.goto 4, 3, 0, 0, 0, 0) := by decide +kernel
theorem l_248_12 : look 248 12 = some (.iconst 1, 1, 0, 0, 0, 0) := by decide +kernel
theorem l_248_13 : look 248 13 = some (.putfield 152, 3, 10, 0, 0, 1501) := by decide +kernel
theorem l_248_16 : look 248 16 = some (.aload_n 0, 1, 0, 0, 0, 0) := by decide +kernel
theorem l_248_17 : look 248 17 = some (.getfield 152, 3, 10, 0, 0, 1501) := by decide +kernel
theorem l_248_20 : look 248 20 = some (.ifCond .le 5, 3, 0, 0, 0, 0) := by decide +kernel
theorem l_248_23 : look 248 23 = some (.iconst 0, 1, 0, 0, 0, 0) := by decide +kernel
theorem l_248_24 : look 248 24 = some (.ireturn, 1, 0, 0, 0, 0) := by decide +kernel
theorem l_248_25 : look 248 25 = some (.aload_n 0, 1, 0, 0, 0, 0) := by decide +kernel
theorem l_248_26 : look 248 26 = some (.invokevirtual 443, 3, 215, 1, 0, 1897) := by decide +kernel
theorem l_248_29 : look 248 29 = some (.aload_n 0, 1, 0, 0, 0, 0) := by decide +kernel
theorem l_248_30 : look 248 30 = some (.iload_n 1, 1, 0, 0, 0, 0) := by decide +kernel
theorem l_248_31 : look 248 31 = some (.invokevirtual 421, 3, 221, 2, 0, 1952) := by decide +kernel
theorem l_248_34 : look 248 34 = some (.ifCond .eq 12, 3, 0, 0, 0, 0) := by decide +kernel
theorem l_248_37 : look 248 37 = some (.aload_n 0, 1, 0, 0, 0, 0) := by decide +kernel
theorem l_248_38 : look 248 38 = some (.getfield 128, 3, 10, 61, 2, 1562) := by decide +kernel
theorem l_248_41 : look 248 41 = some (.iload_n 1, 1, 0, 0, 0, 0) := by decide +kernel
theorem l_248_42 : look 248 42 = some (.iaload, 1, 0, 0, 0, 0) := by decide +kernel
theorem l_248_43 : look 248 43 = some (.goto 4, 3, 0, 0, 0, 0) := by decide +kernel
theorem l_248_46 : look 248 46 = some (.iconst (-1), 1, 0, 0, 0, 0) := by decide +kernel
theorem l_248_47 : look 248 47 = some (.ireturn, 1, 0, 0, 0, 0) := by decide +kernel

theorem s_248 (hm : oModel S T s) {ne np : Nat} {a : Nat → Nat} {cd : Nat → Cd} (B : MP I s h l a ne np cd) {p : Nat} (hp : p < 64) : CL xs 248 [vr s, vi ((p : Nat) : Int)] (S, I, T, cc, zz) (RP S T cc zz (fun v I' => v = some (vi (ruleI (validA l (runA h l noOut ne).1 p))) ∧ I' s 0 = 0 ∧ mfk I I' s)) := by
  cases hv : validA l (runA h l noOut ne).1 p with
  | some w =>
    refine CL_start (r := 10) (ls := [vr s, vi ((p : Nat) : Int)]) (rk_248 _) rfl ?_
    refine w_aln l_248_0 rfl ?_
    refine w_iln l_248_1 rfl ?_
    refine q_st [vi ((p : Nat) : Int)] [vr s] l_248_2 (by decide) rfl rfl (Nat.le_of_ble_eq_true rfl) (by rw [mx_233]; exact Nat.le_of_ble_eq_true rfl) (by rw [rk_233]; decide) (s_233) ?_
    refine w_beq 12 l_248_5 (by decide) (fun hx => absurd hx (by rw [decide_eq_true (by omega)]; decide)) (fun _ => ?_)
    refine w_ic l_248_8 (by decide) ?_
    refine w_go 13 l_248_9 (by decide) ?_
    refine w_pi l_248_13 (oModel_sh hm) ?_
    refine w_aln l_248_16 rfl ?_
    refine w_gi 0 l_248_17 (oModel_sh hm) up_eq ?_
    refine w_zle 25 l_248_20 (by decide) (fun _ => ?_) (fun hx => absurd hx (by decide))
    refine w_aln l_248_25 rfl ?_
    refine p_iv [] [] l_248_26 rfl rfl (Nat.le_of_ble_eq_true rfl) (by rw [mx_215]; exact Nat.le_of_ble_eq_true rfl) (by rw [mt_215]; exact oModel_sh hm) (by rw [mt_215]; decide) (by rw [rk_215]; decide) (s_215 hm (B.k (mfk.u (Or.inl rfl)))) (fun v I1 hv => ?_)
    obtain ⟨rfl, hR1, f1, _, hLi⟩ := hv
    refine w_aln l_248_29 rfl ?_
    refine w_iln l_248_30 rfl ?_
    refine q_iv [vi ((p : Nat) : Int)] [] l_248_31 rfl rfl (Nat.le_of_ble_eq_true rfl) (by rw [mx_221]; exact Nat.le_of_ble_eq_true rfl) (by rw [mt_221]; exact oModel_sh hm) (by rw [mt_221]; decide) (by rw [rk_221]; decide) (r_validI hm hLi.2.2.2.2.1 hR1 (by omega) hv) ?_
    refine w_beq 46 l_248_34 (by decide) (fun hx => absurd hx (by intro q; cases q)) (fun _ => ?_)
    refine w_aln l_248_37 rfl ?_
    refine w_gr l_248_38 (oModel_sh hm) (oModel_r61 hm) ?_
    refine w_iln l_248_41 rfl ?_
    refine w_ia p ((w : Nat) : Int) l_248_42 (oModel_s61 hm) rfl (by omega) (nS_way hR1 (by omega) hv) ?_
    refine w_go 47 l_248_43 (by decide) ?_
    refine w_ir l_248_47 (Or.inl rfl) ?_
    exact ⟨_, _, rfl, rfl, rfl, ((f1 s 0 (fun _ => Or.inl (by decide)) (fun e => absurd e (Nat.lt_irrefl s))).trans up_eq), (mfk.u (Or.inl rfl)).tr f1.k⟩
  | none =>
    refine CL_start (r := 10) (ls := [vr s, vi ((p : Nat) : Int)]) (rk_248 _) rfl ?_
    refine w_aln l_248_0 rfl ?_
    refine w_iln l_248_1 rfl ?_
    refine q_st [vi ((p : Nat) : Int)] [vr s] l_248_2 (by decide) rfl rfl (Nat.le_of_ble_eq_true rfl) (by rw [mx_233]; exact Nat.le_of_ble_eq_true rfl) (by rw [rk_233]; decide) (s_233) ?_
    refine w_beq 12 l_248_5 (by decide) (fun hx => absurd hx (by rw [decide_eq_true (by omega)]; decide)) (fun _ => ?_)
    refine w_ic l_248_8 (by decide) ?_
    refine w_go 13 l_248_9 (by decide) ?_
    refine w_pi l_248_13 (oModel_sh hm) ?_
    refine w_aln l_248_16 rfl ?_
    refine w_gi 0 l_248_17 (oModel_sh hm) up_eq ?_
    refine w_zle 25 l_248_20 (by decide) (fun _ => ?_) (fun hx => absurd hx (by decide))
    refine w_aln l_248_25 rfl ?_
    refine p_iv [] [] l_248_26 rfl rfl (Nat.le_of_ble_eq_true rfl) (by rw [mx_215]; exact Nat.le_of_ble_eq_true rfl) (by rw [mt_215]; exact oModel_sh hm) (by rw [mt_215]; decide) (by rw [rk_215]; decide) (s_215 hm (B.k (mfk.u (Or.inl rfl)))) (fun v I1 hv => ?_)
    obtain ⟨rfl, hR1, f1, _, hLi⟩ := hv
    refine w_aln l_248_29 rfl ?_
    refine w_iln l_248_30 rfl ?_
    refine q_iv [vi ((p : Nat) : Int)] [] l_248_31 rfl rfl (Nat.le_of_ble_eq_true rfl) (by rw [mx_221]; exact Nat.le_of_ble_eq_true rfl) (by rw [mt_221]; exact oModel_sh hm) (by rw [mt_221]; decide) (by rw [rk_221]; decide) (r_validI hm hLi.2.2.2.2.1 hR1 (by omega) hv) ?_
    refine w_beq 46 l_248_34 (by decide) (fun _ => ?_) (fun hx => absurd hx (by intro q; cases q))
    refine w_ic l_248_46 (by decide) ?_
    refine w_ir l_248_47 (Or.inl rfl) ?_
    exact ⟨_, _, rfl, rfl, rfl, ((f1 s 0 (fun _ => Or.inl (by decide)) (fun e => absurd e (Nat.lt_irrefl s))).trans up_eq), (mfk.u (Or.inl rfl)).tr f1.k⟩

theorem s_248n (hm : oModel S T s) {ne np : Nat} {a : Nat → Nat} {cd : Nat → Cd} (B : MP I s h l a ne np cd) {p : Int} (hp : ¬ (0 ≤ p ∧ p ≤ 63)): CL xs 248 [vr s, vi p] (S, I, T, cc, zz) (RP S T cc zz (fun v I' => v = some (vi 0) ∧ I' s 0 = 1 ∧ mfk I I' s)) := by
  refine CL_start (r := 10) (ls := [vr s, vi p]) (rk_248 _) rfl ?_
  refine w_aln l_248_0 rfl ?_
  refine w_iln l_248_1 rfl ?_
  refine q_st [vi p] [vr s] l_248_2 (by decide) rfl rfl (Nat.le_of_ble_eq_true rfl) (by rw [mx_233]; exact Nat.le_of_ble_eq_true rfl) (by rw [rk_233]; decide) (s_233) ?_
  refine w_beq 12 l_248_5 (by decide) (fun _ => ?_) (fun hx => absurd hx (by rw [decide_eq_false hp]; decide))
  refine w_ic l_248_12 (by decide) ?_
  refine w_pi l_248_13 (oModel_sh hm) ?_
  refine w_aln l_248_16 rfl ?_
  refine w_gi 1 l_248_17 (oModel_sh hm) up_eq ?_
  refine w_zle 25 l_248_20 (by decide) (fun hx => absurd hx (by decide)) (fun _ => ?_)
  refine w_ic l_248_23 (by decide) ?_
  refine w_ir l_248_24 (Or.inl rfl) ?_
  exact ⟨_, _, rfl, rfl, rfl, up_eq, (mfk.u (Or.inl rfl))⟩

theorem mx_249 : mxl 249 = 3 := by decide +kernel
theorem mt_249 : mtc 249 = 10 := by decide +kernel
theorem rk_249 (as : List AV) : rkA 249 as = 10 := rfl
theorem l_249_0 : look 249 0 = some (.aload_n 0, 1, 0, 0, 0, 0) := by decide +kernel
theorem l_249_1 : look 249 1 = some (.iconst 0, 1, 0, 0, 0, 0) := by decide +kernel
theorem l_249_2 : look 249 2 = some (.putfield 152, 3, 10, 0, 0, 1501) := by decide +kernel
theorem l_249_5 : look 249 5 = some (.aload_n 0, 1, 0, 0, 0, 0) := by decide +kernel
theorem l_249_6 : look 249 6 = some (.invokevirtual 443, 3, 215, 1, 0, 1897) := by decide +kernel
theorem l_249_9 : look 249 9 = some (.iconst 0, 1, 0, 0, 0, 0) := by decide +kernel
theorem l_249_10 : look 249 10 = some (.istore_n 1, 1, 0, 0, 0, 0) := by decide +kernel
theorem l_249_11 : look 249 11 = some (.iconst 0, 1, 0, 0, 0, 0) := by decide +kernel
theorem l_249_12 : look 249 12 = some (.istore_n 2, 1, 0, 0, 0, 0) := by decide +kernel
theorem l_249_13 : look 249 13 = some (.iload_n 2, 1, 0, 0, 0, 0) := by decide +kernel
theorem l_249_14 : look 249 14 = some (.bipush 64, 2, 0, 0, 0, 0) := by decide +kernel
theorem l_249_16 : look 249 16 = some (.if_icmp .ge 25, 3, 0, 0, 0, 0) := by decide +kernel
theorem l_249_19 : look 249 19 = some (.iload_n 1, 1, 0, 0, 0, 0) := by decide +kernel
theorem l_249_20 : look 249 20 = some (.aload_n 0, 1, 0, 0, 0, 0) := by decide +kernel
theorem l_249_21 : look 249 21 = some (.iload_n 2, 1, 0, 0, 0, 0) := by decide +kernel
theorem l_249_22 : look 249 22 = some (.invokevirtual 421, 3, 221, 2, 0, 1952) := by decide +kernel
theorem l_249_25 : look 249 25 = some (.ifCond .eq 7, 3, 0, 0, 0, 0) := by decide +kernel
theorem l_249_28 : look 249 28 = some (.iconst 1, 1, 0, 0, 0, 0) := by decide +kernel
theorem l_249_29 : look 249 29 = some (.goto 4, 3, 0, 0, 0, 0) := by decide +kernel
theorem l_249_32 : look 249 32 = some (.iconst 0, 1, 0, 0, 0, 0) := by decide +kernel
theorem l_249_33 : look 249 33 = some (.iadd, 1, 0, 0, 0, 0) := by decide +kernel
theorem l_249_34 : look 249 34 = some (.istore_n 1, 1, 0, 0, 0, 0) := by decide +kernel
theorem l_249_35 : look 249 35 = some (.iinc 2 1, 3, 0, 0, 0, 0) := by decide +kernel
theorem l_249_38 : look 249 38 = some (.goto (-25), 3, 0, 0, 0, 0) := by decide +kernel
theorem l_249_41 : look 249 41 = some (.iload_n 1, 1, 0, 0, 0, 0) := by decide +kernel
theorem l_249_42 : look 249 42 = some (.ireturn, 1, 0, 0, 0, 0) := by decide +kernel

theorem lp_249 (hm : oModel S T s) (hA : I s 52 = ((lAge l : Nat) : Int)) (hR : nR I s l r) : ∀ d k, k + d = 64 → WP xs 249 10 13 [vr s, vi (((cntV l r.1 k) : Nat) : Int), vi ((k : Nat) : Int)] [] (S, I, T, cc, zz) (FN (some (vi ((cntV l r.1 64 : Nat) : Int))) (S, I, T, cc, zz)) := by
  intro d
  induction d with
  | zero =>
    intro k hk
    refine w_iln l_249_13 rfl ?_
    refine w_bp l_249_14 (by decide) ?_
    refine w_cge 41 l_249_16 (by decide) (fun _ => ?_) (fun hx => absurd hx (by omega))
    refine w_iln l_249_41 rfl ?_
    refine w_ir l_249_42 (Or.inl rfl) ?_
    have e9 : k = 64 := by omega
    rw [e9]
    exact ⟨rfl, rfl⟩
  | succ d ih =>
    intro k hk
    have hcl := cntV_le (l := l) (A := r.1) k
    refine w_iln l_249_13 rfl ?_
    refine w_bp l_249_14 (by decide) ?_
    refine w_cge 41 l_249_16 (by decide) (fun hx => absurd hx (by omega)) (fun _ => ?_)
    refine w_iln l_249_19 rfl ?_
    refine w_aln l_249_20 rfl ?_
    refine w_iln l_249_21 rfl ?_
    refine q_iv [vi ((k : Nat) : Int)] [vi (((cntV l r.1 k) : Nat) : Int)] l_249_22 rfl rfl (Nat.le_of_ble_eq_true rfl) (by rw [mx_221]; exact Nat.le_of_ble_eq_true rfl) (by rw [mt_221]; exact oModel_sh hm) (by rw [mt_221]; decide) (by rw [rk_221]; decide) (r_validI hm hA hR (by omega) rfl) ?_
    refine w_beq 32 l_249_25 (by decide) (fun h1 => ?_) (fun h1 => ?_)
    · skip
      refine w_ic l_249_32 (by decide) ?_
      refine w_add (((cntV l r.1 k) + 0 : Nat) : Int) l_249_33 (by unfold wr; omega) ?_
      refine w_isn l_249_34 ⟨Nat.le_of_ble_eq_true rfl, rfl⟩ ?_
      refine w_inc ((k + 1 : Nat) : Int) l_249_35 rfl rfl (by unfold wr; omega) ?_
      refine w_go 13 l_249_38 (by decide) ?_
      have e9 := ih (k + 1) (by omega)
      rw [cntV_f h1] at e9
      exact e9
    · skip
      refine w_ic l_249_28 (by decide) ?_
      refine w_go 33 l_249_29 (by decide) ?_
      refine w_add (((cntV l r.1 k) + 1 : Nat) : Int) l_249_33 (by unfold wr; omega) ?_
      refine w_isn l_249_34 ⟨Nat.le_of_ble_eq_true rfl, rfl⟩ ?_
      refine w_inc ((k + 1 : Nat) : Int) l_249_35 rfl rfl (by unfold wr; omega) ?_
      refine w_go 13 l_249_38 (by decide) ?_
      have e9 := ih (k + 1) (by omega)
      rw [cntV_t h1] at e9
      exact e9
theorem s_249 (hm : oModel S T s) {ne np : Nat} {a : Nat → Nat} {cd : Nat → Cd} (B : MP I s h l a ne np cd) : CL xs 249 [vr s] (S, I, T, cc, zz) (RP S T cc zz (fun v I' => v = some (vi ((cntV l (runA h l noOut ne).1 64 : Nat) : Int)) ∧ I' s 0 = 0 ∧ mfk I I' s)) := by
  refine CL_start (r := 10) (ls := [vr s, vs 2, vs 2]) (rk_249 _) rfl ?_
  refine w_aln l_249_0 rfl ?_
  refine w_ic l_249_1 (by decide) ?_
  refine w_pi l_249_2 (oModel_sh hm) ?_
  refine w_aln l_249_5 rfl ?_
  refine p_iv [] [] l_249_6 rfl rfl (Nat.le_of_ble_eq_true rfl) (by rw [mx_215]; exact Nat.le_of_ble_eq_true rfl) (by rw [mt_215]; exact oModel_sh hm) (by rw [mt_215]; decide) (by rw [rk_215]; decide) (s_215 hm (B.k (mfk.u (Or.inl rfl)))) (fun v I1 hv => ?_)
  obtain ⟨rfl, hR1, f1, _, hLi⟩ := hv
  refine w_ic l_249_9 (by decide) ?_
  refine w_isn l_249_10 ⟨Nat.le_of_ble_eq_true rfl, rfl⟩ ?_
  refine w_ic l_249_11 (by decide) ?_
  refine w_isn l_249_12 ⟨Nat.le_of_ble_eq_true rfl, rfl⟩ ?_
  refine WP_mono (lp_249 hm hLi.2.2.2.2.1 hR1 64 0 rfl) ?_
  rintro q m' ⟨rfl, rfl⟩
  exact ⟨_, _, rfl, rfl, rfl, ((f1 s 0 (fun _ => Or.inl (by decide)) (fun e => absurd e (Nat.lt_irrefl s))).trans up_eq), (mfk.u (Or.inl rfl)).tr f1.k⟩

theorem mx_251 : mxl 251 = 3 := by decide +kernel
theorem mt_251 : mtc 251 = 10 := by decide +kernel
theorem rk_251 (as : List AV) : rkA 251 as = 10 := rfl
theorem l_251_0 : look 251 0 = some (.aload_n 0, 1, 0, 0, 0, 0) := by decide +kernel
theorem l_251_1 : look 251 1 = some (.aload_n 0, 1, 0, 0, 0, 0) := by decide +kernel
theorem l_251_2 : look 251 2 = some (.iload_n 1, 1, 0, 0, 0, 0) := by decide +kernel
theorem l_251_3 : look 251 3 = some (.invokevirtual 459, 3, 230, 2, 0, 2028) := by decide +kernel
theorem l_251_6 : look 251 6 = some (.ifCond .eq 15, 3, 0, 0, 0, 0) := by decide +kernel
theorem l_251_9 : look 251 9 = some (.aload_n 0, 1, 0, 0, 0, 0) := by decide +kernel
theorem l_251_10 : look 251 10 = some (.iload_n 2, 1, 0, 0, 0, 0) := by decide +kernel
theorem l_251_11 : look 251 11 = some (.invokevirtual 449, 3, 228, 2, 0, 1889) := by decide +kernel
theorem l_251_14 : look 251 14 = some (.ifCond .eq 7, 3, 0, 0, 0, 0) := by decide +kernel
theorem l_251_17 : look 251 17 = some (.iconst 0, 1, 0, 0, 0, 0) := by decide +kernel
theorem l_251_18 : look 251 18 = some (.goto 4, 3, 0, 0, 0, 0) := by decide +kernel
theorem l_251_21 : look 251 21 = some (.iconst 1, 1, 0, 0, 0, 0) := by decide +kernel
theorem l_251_22 : look 251 22 = some (.putfield 152, 3, 10, 0, 0, 1501) := by decide +kernel
theorem l_251_25 : look 251 25 = some (.aload_n 0, 1, 0, 0, 0, 0) := by decide +kernel
theorem l_251_26 : look 251 26 = some (.getfield 152, 3, 10, 0, 0, 1501) := by decide +kernel
theorem l_251_29 : look 251 29 = some (.ifCond .le 5, 3, 0, 0, 0, 0) := by decide +kernel
theorem l_251_32 : look 251 32 = some (.iconst 0, 1, 0, 0, 0, 0) := by decide +kernel
theorem l_251_33 : look 251 33 = some (.ireturn, 1, 0, 0, 0, 0) := by decide +kernel
theorem l_251_34 : look 251 34 = some (.aload_n 0, 1, 0, 0, 0, 0) := by decide +kernel
theorem l_251_35 : look 251 35 = some (.invokevirtual 443, 3, 215, 1, 0, 1897) := by decide +kernel
theorem l_251_38 : look 251 38 = some (.aload_n 0, 1, 0, 0, 0, 0) := by decide +kernel
theorem l_251_39 : look 251 39 = some (.getfield 134, 3, 10, 63, 2, 1564) := by decide +kernel
theorem l_251_42 : look 251 42 = some (.iconst 4, 1, 0, 0, 0, 0) := by decide +kernel
theorem l_251_43 : look 251 43 = some (.iload_n 1, 1, 0, 0, 0, 0) := by decide +kernel
theorem l_251_44 : look 251 44 = some (.imul, 1, 0, 0, 0, 0) := by decide +kernel
theorem l_251_45 : look 251 45 = some (.iload_n 2, 1, 0, 0, 0, 0) := by decide +kernel
theorem l_251_46 : look 251 46 = some (.iadd, 1, 0, 0, 0, 0) := by decide +kernel
theorem l_251_47 : look 251 47 = some (.iaload, 1, 0, 0, 0, 0) := by decide +kernel
theorem l_251_48 : look 251 48 = some (.ireturn, 1, 0, 0, 0, 0) := by decide +kernel

theorem s_251 (hm : oModel S T s) {ne np : Nat} {a : Nat → Nat} {cd : Nat → Cd} (B : MP I s h l a ne np cd) {k p : Nat} (hk : k < np) (hp : p < lPorts l): CL xs 251 [vr s, vi ((k : Nat) : Int), vi ((p : Nat) : Int)] (S, I, T, cc, zz) (RP S T cc zz (fun v I' => v = some (vi (((runA h l noOut ne).2.2.1 k (p + 1) : Nat) : Int)) ∧ I' s 0 = 0 ∧ mfk I I' s)) := by
  refine CL_start (r := 10) (ls := [vr s, vi ((k : Nat) : Int), vi ((p : Nat) : Int)]) (rk_251 _) rfl ?_
  have hl4 := B.2.2.2.2.1.1
  have hne := B.1.1
  have hnp := B.1.2.1
  have hok := (B.run noOut (Nat.le_refl ne)).1
  have hlen : (runA h l noOut ne).2.1.length ≤ 360 := by
    have h8 := hok.2.2
    unfold tot at h8
    omega
  refine w_aln l_251_0 rfl ?_
  refine w_aln l_251_1 rfl ?_
  refine w_iln l_251_2 rfl ?_
  refine q_iv [vi ((k : Nat) : Int)] [vr s] l_251_3 rfl rfl (Nat.le_of_ble_eq_true rfl) (by rw [mx_230]; exact Nat.le_of_ble_eq_true rfl) (by rw [mt_230]; exact oModel_sh hm) (by rw [mt_230]; decide) (by rw [rk_230]; decide) (s_230 hm B) ?_
  refine w_beq 21 l_251_6 (by decide) (fun hx => absurd hx (by rw [decide_eq_true (by omega)]; decide)) (fun _ => ?_)
  refine w_aln l_251_9 rfl ?_
  refine w_iln l_251_10 rfl ?_
  refine q_iv [vi ((p : Nat) : Int)] [vr s] l_251_11 rfl rfl (Nat.le_of_ble_eq_true rfl) (by rw [mx_228]; exact Nat.le_of_ble_eq_true rfl) (by rw [mt_228]; exact oModel_sh hm) (by rw [mt_228]; decide) (by rw [rk_228]; decide) (s_228 hm B) ?_
  refine w_beq 21 l_251_14 (by decide) (fun hx => absurd hx (by rw [decide_eq_true (by omega)]; decide)) (fun _ => ?_)
  refine w_ic l_251_17 (by decide) ?_
  refine w_go 22 l_251_18 (by decide) ?_
  refine w_pi l_251_22 (oModel_sh hm) ?_
  refine w_aln l_251_25 rfl ?_
  refine w_gi 0 l_251_26 (oModel_sh hm) up_eq ?_
  refine w_zle 34 l_251_29 (by decide) (fun _ => ?_) (fun hx => absurd hx (by decide))
  refine w_aln l_251_34 rfl ?_
  refine p_iv [] [] l_251_35 rfl rfl (Nat.le_of_ble_eq_true rfl) (by rw [mx_215]; exact Nat.le_of_ble_eq_true rfl) (by rw [mt_215]; exact oModel_sh hm) (by rw [mt_215]; decide) (by rw [rk_215]; decide) (s_215 hm (B.k (mfk.u (Or.inl rfl)))) (fun v I1 hv => ?_)
  obtain ⟨rfl, hR1, f1, _, hLi⟩ := hv
  refine w_aln l_251_38 rfl ?_
  refine w_gr l_251_39 (oModel_sh hm) (oModel_r63 hm) ?_
  refine w_ic l_251_42 (by decide) ?_
  refine w_iln l_251_43 rfl ?_
  refine w_mul ((4 * k : Nat) : Int) l_251_44 (by unfold wr; omega) ?_
  refine w_iln l_251_45 rfl ?_
  refine w_add ((4 * k + p : Nat) : Int) l_251_46 (by unfold wr; omega) ?_
  refine w_ia (4 * k + p) ((((runA h l noOut ne).2.2.1 k (p + 1)) : Nat) : Int) l_251_47 (oModel_s63 hm) rfl (by omega) (hR1.2.2.2.1 k (by omega) p (by omega)) ?_
  refine w_ir l_251_48 (Or.inl rfl) ?_
  exact ⟨_, _, rfl, rfl, rfl, ((f1 s 0 (fun _ => Or.inl (by decide)) (fun e => absurd e (Nat.lt_irrefl s))).trans up_eq), (mfk.u (Or.inl rfl)).tr f1.k⟩

theorem s_251n (hm : oModel S T s) {ne np : Nat} {a : Nat → Nat} {cd : Nat → Cd} (B : MP I s h l a ne np cd) {k p : Int} (hb : ¬ ((0 ≤ k ∧ k ≤ ((np : Nat) : Int) - 1) ∧ (0 ≤ p ∧ p ≤ ((lPorts l : Nat) : Int) - 1))): CL xs 251 [vr s, vi k, vi p] (S, I, T, cc, zz) (RP S T cc zz (fun v I' => v = some (vi 0) ∧ I' s 0 = 1 ∧ mfk I I' s)) := by
  refine CL_start (r := 10) (ls := [vr s, vi k, vi p]) (rk_251 _) rfl ?_
  refine w_aln l_251_0 rfl ?_
  refine w_aln l_251_1 rfl ?_
  refine w_iln l_251_2 rfl ?_
  refine q_iv [vi k] [vr s] l_251_3 rfl rfl (Nat.le_of_ble_eq_true rfl) (by rw [mx_230]; exact Nat.le_of_ble_eq_true rfl) (by rw [mt_230]; exact oModel_sh hm) (by rw [mt_230]; decide) (by rw [rk_230]; decide) (s_230 hm B) ?_
  refine w_beq 21 l_251_6 (by decide) (fun h1 => ?_) (fun h1 => ?_)
  · skip
    refine w_ic l_251_21 (by decide) ?_
    refine w_pi l_251_22 (oModel_sh hm) ?_
    refine w_aln l_251_25 rfl ?_
    refine w_gi 1 l_251_26 (oModel_sh hm) up_eq ?_
    refine w_zle 34 l_251_29 (by decide) (fun hx => absurd hx (by decide)) (fun _ => ?_)
    refine w_ic l_251_32 (by decide) ?_
    refine w_ir l_251_33 (Or.inl rfl) ?_
    exact ⟨_, _, rfl, rfl, rfl, up_eq, (mfk.u (Or.inl rfl))⟩
  · skip
    refine w_aln l_251_9 rfl ?_
    refine w_iln l_251_10 rfl ?_
    refine q_iv [vi p] [vr s] l_251_11 rfl rfl (Nat.le_of_ble_eq_true rfl) (by rw [mx_228]; exact Nat.le_of_ble_eq_true rfl) (by rw [mt_228]; exact oModel_sh hm) (by rw [mt_228]; decide) (by rw [rk_228]; decide) (s_228 hm B) ?_
    refine w_beq 21 l_251_14 (by decide) (fun h2 => ?_) (fun h2 => ?_)
    · skip
      refine w_ic l_251_21 (by decide) ?_
      refine w_pi l_251_22 (oModel_sh hm) ?_
      refine w_aln l_251_25 rfl ?_
      refine w_gi 1 l_251_26 (oModel_sh hm) up_eq ?_
      refine w_zle 34 l_251_29 (by decide) (fun hx => absurd hx (by decide)) (fun _ => ?_)
      refine w_ic l_251_32 (by decide) ?_
      refine w_ir l_251_33 (Or.inl rfl) ?_
      exact ⟨_, _, rfl, rfl, rfl, up_eq, (mfk.u (Or.inl rfl))⟩
    · skip
      refine w_ic l_251_17 (by decide) ?_
      refine w_go 22 l_251_18 (by decide) ?_
      refine w_pi l_251_22 (oModel_sh hm) ?_
      refine w_aln l_251_25 rfl ?_
      refine w_gi 0 l_251_26 (oModel_sh hm) up_eq ?_
      refine w_zle 34 l_251_29 (by decide) (fun _ => ?_) (fun hx => absurd hx (by decide))
      exact absurd ⟨of_decide_eq_true h1, of_decide_eq_true h2⟩ hb

end RB
