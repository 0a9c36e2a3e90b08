/-! the reference: is it dropped still, what is evidence -/
def still (G : List Dr) (k P : Int) : Bool := decide (cntK (isPP k P) G G.length ≠ 0)
/-- the k-th, from the e-th on, of those that ev tells (n before); how many there are if k is -1 -/
def evF (ev : Nat → Bool) (k : Int) : Nat → Nat → Nat → Int
  | 0, _, n => if k = -1 then (n : Int) else -1
  | d + 1, e, n => if ev e then (if (n : Int) = k then (e : Int) else evF ev k d (e + 1) (n + 1)) else evF ev k d (e + 1) n
/-- the least from c on for which ok tells -/
def lcF (ok : Nat → Bool) : Nat → Nat → Int
  | 0, _ => -1
  | d + 1, c => if ok c then (c : Int) else lcF ok d (c + 1)
section RS
variable {xs : List Int} {S : List (Nat × Nat)} {T : Nat → Nat → Nat} {cc zz s : Nat} {h : Hi} {l l' : Li} {g : Lo} {I I' : Ix}

theorem mx_283 : mxl 283 = 2 := by decide +kernel
theorem mt_283 : mtc 283 = 10 := by decide +kernel
theorem rk_283 (as : List AV) : rkA 283 as = 9 := rfl
theorem l_283_0 : look 283 0 = some (.aload_n 0, 1, 0, 0, 0, 0) := by decide +kernel
theorem l_283_1 : look 283 1 = some (.aload_n 0, 1, 0, 0, 0, 0) := by decide +kernel
theorem l_283_2 : look 283 2 = some (.getfield 330, 3, 10, 15, 0, 1516) := by decide +kernel
theorem l_283_5 : look 283 5 = some (.invokevirtual 390, 3, 214, 2, 0, 1905) := by decide +kernel
theorem l_283_8 : look 283 8 = some (.iconst 0, 1, 0, 0, 0, 0) := by decide +kernel
theorem l_283_9 : look 283 9 = some (.istore_n 1, 1, 0, 0, 0, 0) := by decide +kernel
theorem l_283_10 : look 283 10 = some (.iload_n 1, 1, 0, 0, 0, 0) := by decide +kernel
theorem l_283_11 : look 283 11 = some (.aload_n 0, 1, 0, 0, 0, 0) := by decide +kernel
theorem l_283_12 : look 283 12 = some (.getfield 369, 3, 10, 66, 0, 1567) := by decide +kernel
theorem l_283_15 : look 283 15 = some (.if_icmp .ge 45, 3, 0, 0, 0, 0) := by decide +kernel
theorem l_283_18 : look 283 18 = some (.aload_n 0, 1, 0, 0, 0, 0) := by decide +kernel
theorem l_283_19 : look 283 19 = some (.getfield 140, 3, 10, 65, 2, 1566) := by decide +kernel
theorem l_283_22 : look 283 22 = some (.iconst 5, 1, 0, 0, 0, 0) := by decide +kernel
theorem l_283_23 : look 283 23 = some (.iload_n 1, 1, 0, 0, 0, 0) := by decide +kernel
theorem l_283_24 : look 283 24 = some (.iconst 1, 1, 0, 0, 0, 0) := by decide +kernel
theorem l_283_25 : look 283 25 = some (.invokestatic 468, 3, 204, 4, 1, 2080) := by decide +kernel
theorem l_283_28 : look 283 28 = some (.aload_n 0, 1, 0, 0, 0, 0) := by decide +kernel
theorem l_283_29 : look 283 29 = some (.getfield 508, 3, 10, 72, 0, 1573) := by decide +kernel
theorem l_283_32 : look 283 32 = some (.if_icmp .ne 22, 3, 0, 0, 0, 0) := by decide +kernel
theorem l_283_35 : look 283 35 = some (.aload_n 0, 1, 0, 0, 0, 0) := by decide +kernel
theorem l_283_36 : look 283 36 = some (.getfield 140, 3, 10, 65, 2, 1566) := by decide +kernel
theorem l_283_39 : look 283 39 = some (.iconst 5, 1, 0, 0, 0, 0) := by decide +kernel
theorem l_283_40 : look 283 40 = some (.iload_n 1, 1, 0, 0, 0, 0) := by decide +kernel
theorem l_283_41 : look 283 41 = some (.iconst 2, 1, 0, 0, 0, 0) := by decide +kernel
theorem l_283_42 : look 283 42 = some (.invokestatic 468, 3, 204, 4, 1, 2080) := by decide +kernel
theorem l_283_45 : look 283 45 = some (.aload_n 0, 1, 0, 0, 0, 0) := by decide +kernel
theorem l_283_46 : look 283 46 = some (.getfield 511, 3, 10, 73, 0, 1574) := by decide +kernel
theorem l_283_49 : look 283 49 = some (.if_icmp .ne 5, 3, 0, 0, 0, 0) := by decide +kernel
theorem l_283_52 : look 283 52 = some (.iconst 1, 1, 0, 0, 0, 0) := by decide +kernel
theorem l_283_53 : look 283 53 = some (.ireturn, 1, 0, 0, 1, 0) := by decide +kernel
theorem l_283_54 : look 283 54 = some (.iinc 1 1, 3, 0, 0, 0, 0) := by decide +kernel
theorem l_283_57 : look 283 57 = some (.goto (-47), 3, 0, 0, 0, 0) := by decide +kernel
theorem l_283_60 : look 283 60 = some (.iconst 0, 1, 0, 0, 0, 0) := by decide +kernel
theorem l_283_61 : look 283 61 = some (.ireturn, 1, 0, 0, 1, 0) := by decide +kernel

theorem lp_283 (hm : oModel S T s) (hL : nL I s g) {kk PP : Int} (h72 : I s 72 = kk) (h73 : I s 73 = PP) : ∀ d k, k + d = g.1.length → cntK (isPP kk PP) g.1 k = 0 → WP xs 283 9 10 [vr s, vi ((k : Nat) : Int)] [] (S, I, T, cc, zz) (FN (some (vi (b2i (still g.1 kk PP)))) (S, I, T, cc, zz)) := by
  intro d
  have h360 := hL.1.2
  induction d with
  | zero =>
    intro k hk0 h0
    refine w_iln l_283_10 rfl ?_
    refine w_aln l_283_11 rfl ?_
    refine w_gi ((g.1.length : Nat) : Int) l_283_12 (oModel_sh hm) hL.1.1 ?_
    refine w_cge 60 l_283_15 (by decide) (fun _ => ?_) (fun hx => absurd hx (by omega))
    refine w_ic l_283_60 (by decide) ?_
    refine w_ir l_283_61 (by decide) ?_
    have e9 : k = g.1.length := by omega
    rw [e9] at h0
    rw [show still g.1 kk PP = false from decide_eq_false (by omega)]
    exact ⟨rfl, rfl⟩
  | succ d ih =>
    intro k hk0 h0
    have hk : k < g.1.length := by omega
    refine w_iln l_283_10 rfl ?_
    refine w_aln l_283_11 rfl ?_
    refine w_gi ((g.1.length : Nat) : Int) l_283_12 (oModel_sh hm) hL.1.1 ?_
    refine w_cge 60 l_283_15 (by decide) (fun hx => absurd hx (by omega)) (fun _ => ?_)
    refine w_aln l_283_18 rfl ?_
    refine w_gr l_283_19 (oModel_sh hm) (oModel_r65 hm) ?_
    refine w_ic l_283_22 (by decide) ?_
    refine w_iln l_283_23 rfl ?_
    refine w_ic l_283_24 (by decide) ?_
    refine q_st [vr (s + 36), vi 5, vi ((k : Nat) : Int), vi 1] [] l_283_25 (by decide) rfl rfl (Nat.le_of_ble_eq_true rfl) (by rw [mx_204]; exact Nat.le_of_ble_eq_true rfl) (by rw [rk_204]; decide) (r_part1 hm hL hk) ?_
    refine w_aln l_283_28 rfl ?_
    refine w_gi kk l_283_29 (oModel_sh hm) h72 ?_
    refine w_cne 54 l_283_32 (by decide) (fun h1 => ?_) (fun h1 => ?_)
    · skip
      refine w_inc ((k + 1 : Nat) : Int) l_283_54 rfl rfl (by unfold wr; omega) ?_
      refine w_go 10 l_283_57 (by decide) ?_
      have hf : isPP kk PP (g.1.getD k dr0) = false := by unfold isPP; first | (rw [decide_eq_true (by omega), decide_eq_true (by omega)]; rfl) | (rw [decide_eq_false (by omega)]; rfl) | (rw [decide_eq_true (by omega), decide_eq_false (by omega)]; rfl)
      exact ih (k + 1) (by omega) (by rw [cntK_f hf]; exact h0)
    · skip
      refine w_aln l_283_35 rfl ?_
      refine w_gr l_283_36 (oModel_sh hm) (oModel_r65 hm) ?_
      refine w_ic l_283_39 (by decide) ?_
      refine w_iln l_283_40 rfl ?_
      refine w_ic l_283_41 (by decide) ?_
      refine q_st [vr (s + 36), vi 5, vi ((k : Nat) : Int), vi 2] [] l_283_42 (by decide) rfl rfl (Nat.le_of_ble_eq_true rfl) (by rw [mx_204]; exact Nat.le_of_ble_eq_true rfl) (by rw [rk_204]; decide) (r_part2 hm hL hk) ?_
      refine w_aln l_283_45 rfl ?_
      refine w_gi PP l_283_46 (oModel_sh hm) h73 ?_
      refine w_cne 54 l_283_49 (by decide) (fun h2 => ?_) (fun h2 => ?_)
      · skip
        refine w_inc ((k + 1 : Nat) : Int) l_283_54 rfl rfl (by unfold wr; omega) ?_
        refine w_go 10 l_283_57 (by decide) ?_
        have hf : isPP kk PP (g.1.getD k dr0) = false := by unfold isPP; first | (rw [decide_eq_true (by omega), decide_eq_true (by omega)]; rfl) | (rw [decide_eq_false (by omega)]; rfl) | (rw [decide_eq_true (by omega), decide_eq_false (by omega)]; rfl)
        exact ih (k + 1) (by omega) (by rw [cntK_f hf]; exact h0)
      · skip
        refine w_ic l_283_52 (by decide) ?_
        refine w_ir l_283_53 (by decide) ?_
        have hf : isPP kk PP (g.1.getD k dr0) = true := by unfold isPP; first | (rw [decide_eq_true (by omega), decide_eq_true (by omega)]; rfl) | (rw [decide_eq_false (by omega)]; rfl) | (rw [decide_eq_true (by omega), decide_eq_false (by omega)]; rfl)
        have hmm := cntK_mono (f := isPP kk PP) (g := g.1) (m := k + 1) g.1.length (by omega)
        rw [cntK_t hf] at hmm
        rw [show still g.1 kk PP = true from decide_eq_true (by omega)]
        exact ⟨rfl, rfl⟩
theorem s_283 (hm : oModel S T s) {ne np : Nat} {a : Nat → Nat} {cd : Nat → Cd} {out : Nat → Bool} {kk PP : Int} (B : MB I s h l a ne np cd) (hout : ∀ e, e < ne → I (s + 26) e = b2i (out e)) (h15 : I s 15 = (ne : Int)) (h72 : I s 72 = kk) (h73 : I s 73 = PP) : CL xs 283 [vr s] (S, I, T, cc, zz) (RP S T cc zz (fun v I' => v = some (vi (b2i (still (runA h l out ne).2.1 kk PP))) ∧ mfz I I' s)) := by
  refine CL_start (r := 9) (ls := [vr s, vs 2]) (rk_283 _) rfl ?_
  refine w_aln l_283_0 rfl ?_
  refine w_aln l_283_1 rfl ?_
  refine w_gi ((ne : Nat) : Int) l_283_2 (oModel_sh hm) h15 ?_
  refine p_iv [vi ((ne : Nat) : Int)] [] l_283_5 rfl rfl (Nat.le_of_ble_eq_true rfl) (by rw [mx_214]; exact Nat.le_of_ble_eq_true rfl) (by rw [mt_214]; exact oModel_sh hm) (by rw [mt_214]; decide) (by rw [rk_214]; decide) (s_214 hm B (Nat.le_refl _) hout) (fun v I1 hv => ?_)
  obtain ⟨rfl, hR1, f1, _⟩ := hv
  refine w_ic l_283_8 (by decide) ?_
  refine w_isn l_283_9 ⟨Nat.le_of_ble_eq_true rfl, rfl⟩ ?_
  have e9 := lp_283 (xs := xs) (T := T) (cc := cc) (zz := zz) hm hR1.2 ((f1 s 72 (fun _ => by omega) (fun e => absurd e (Nat.lt_irrefl s))).trans h72) ((f1 s 73 (fun _ => by omega) (fun e => absurd e (Nat.lt_irrefl s))).trans h73) _ 0 (Nat.zero_add _) rfl
  refine WP_mono e9 ?_
  rintro q m' ⟨rfl, rfl⟩
  exact ⟨_, _, rfl, rfl, rfl, f1⟩

theorem mx_284 : mxl 284 = 4 := by decide +kernel
theorem mt_284 : mtc 284 = 10 := by decide +kernel
theorem rk_284 (as : List AV) : rkA 284 as = 10 := rfl
theorem l_284_0 : look 284 0 = some (.iconst 0, 1, 0, 0, 0, 0) := by decide +kernel
theorem l_284_1 : look 284 1 = some (.istore_n 2, 1, 0, 0, 0, 0) := by decide +kernel
theorem l_284_2 : look 284 2 = some (.iconst 0, 1, 0, 0, 0, 0) := by decide +kernel
theorem l_284_3 : look 284 3 = some (.istore_n 3, 1, 0, 0, 0, 0) := by decide +kernel
theorem l_284_4 : look 284 4 = some (.iload_n 3, 1, 0, 0, 0, 0) := by decide +kernel
theorem l_284_5 : look 284 5 = some (.aload_n 0, 1, 0, 0, 0, 0) := by decide +kernel
theorem l_284_6 : look 284 6 = some (.getfield 330, 3, 10, 15, 0, 1516) := by decide +kernel
theorem l_284_9 : look 284 9 = some (.if_icmp .ge 40, 3, 0, 0, 0, 0) := by decide +kernel
theorem l_284_12 : look 284 12 = some (.aload_n 0, 1, 0, 0, 0, 0) := by decide +kernel
theorem l_284_13 : look 284 13 = some (.invokevirtual 354, 3, 202, 1, 0, 1901) := by decide +kernel
theorem l_284_16 : look 284 16 = some (.aload_n 0, 1, 0, 0, 0, 0) := by decide +kernel
theorem l_284_17 : look 284 17 = some (.getfield 110, 3, 10, 54, 2, 1555) := by decide +kernel
theorem l_284_20 : look 284 20 = some (.iload_n 3, 1, 0, 0, 0, 0) := by decide +kernel
theorem l_284_21 : look 284 21 = some (.iconst 1, 1, 0, 0, 0, 0) := by decide +kernel
theorem l_284_22 : look 284 22 = some (.bastore, 1, 0, 0, 0, 0) := by decide +kernel
theorem l_284_23 : look 284 23 = some (.aload_n 0, 1, 0, 0, 0, 0) := by decide +kernel
theorem l_284_24 : look 284 24 = some (.invokevirtual 514, 3, 283, 1, 0, 2212) := by decide +kernel
theorem l_284_27 : look 284 27 = some (.ifCond .eq 6, 3, 0, 0, 0, 0) := by decide +kernel
theorem l_284_30 : look 284 30 = some (.goto 13, 3, 0, 0, 0, 0) := by decide +kernel
theorem l_284_33 : look 284 33 = some (.iload_n 2, 1, 0, 0, 0, 0) := by decide +kernel
theorem l_284_34 : look 284 34 = some (.iload_n 1, 1, 0, 0, 0, 0) := by decide +kernel
theorem l_284_35 : look 284 35 = some (.if_icmp .ne 5, 3, 0, 0, 0, 0) := by decide +kernel
theorem l_284_38 : look 284 38 = some (.iload_n 3, 1, 0, 0, 0, 0) := by decide +kernel
theorem l_284_39 : look 284 39 = some (.ireturn, 1, 0, 0, 0, 0) := by decide +kernel
theorem l_284_40 : look 284 40 = some (.iinc 2 1, 3, 0, 0, 0, 0) := by decide +kernel
theorem l_284_43 : look 284 43 = some (.iinc 3 1, 3, 0, 0, 0, 0) := by decide +kernel
theorem l_284_46 : look 284 46 = some (.goto (-42), 3, 0, 0, 0, 0) := by decide +kernel
theorem l_284_49 : look 284 49 = some (.iload_n 1, 1, 0, 0, 0, 0) := by decide +kernel
theorem l_284_50 : look 284 50 = some (.iconst (-1), 1, 0, 0, 0, 0) := by decide +kernel
theorem l_284_51 : look 284 51 = some (.if_icmp .ne 7, 3, 0, 0, 0, 0) := by decide +kernel
theorem l_284_54 : look 284 54 = some (.iload_n 2, 1, 0, 0, 0, 0) := by decide +kernel
theorem l_284_55 : look 284 55 = some (.goto 4, 3, 0, 0, 0, 0) := by decide +kernel
theorem l_284_58 : look 284 58 = some (.iconst (-1), 1, 0, 0, 0, 0) := by decide +kernel
theorem l_284_59 : look 284 59 = some (.ireturn, 1, 0, 0, 0, 0) := by decide +kernel

theorem lp_284 {I0 : Ix} (hm : oModel S T s) {ne np : Nat} {a : Nat → Nat} {cd : Nat → Cd} {kk PP k : Int} (B : MP I0 s h l a ne np cd) (h720 : I0 s 72 = kk) (h730 : I0 s 73 = PP) {R : Int} : ∀ d e n I, e + d = ne → n ≤ e → evF (fun e => !still (runA h l (fun o => o == e) ne).2.1 kk PP) k d e n = R → mfb I0 I s → mfb I0 I s →
    WP xs 284 10 4 [vr s, vi k, vi ((n : Nat) : Int), vi ((e : Nat) : Int)] [] (S, I, T, cc, zz) (RP S T cc zz (fun v I' => v = some (vi R) ∧ mfb I0 I' s)) := by
  intro d
  have hne := B.1.1
  induction d with
  | zero =>
    intro e n I he hn hX f _
    have Bp := B.fr f
    refine w_iln l_284_4 rfl ?_
    refine w_aln l_284_5 rfl ?_
    refine w_gi ((ne : Nat) : Int) l_284_6 (oModel_sh hm) Bp.2.2.2.2.2.2.2.1 ?_
    refine w_cge 49 l_284_9 (by decide) (fun _ => ?_) (fun hx => absurd hx (by omega))
    refine w_iln l_284_49 rfl ?_
    refine w_ic l_284_50 (by decide) ?_
    refine w_cne 58 l_284_51 (by decide) (fun h1 => ?_) (fun h1 => ?_)
    · skip
      refine w_ic l_284_58 (by decide) ?_
      refine w_ir l_284_59 (Or.inl rfl) ?_
      refine ⟨_, _, rfl, rfl, ?_, f⟩
      rw [← hX]
      first
        | rw [show evF (fun e => !still (runA h l (fun o => o == e) ne).2.1 kk PP) k 0 e n = (n : Int) from if_pos (by omega)]
        | rw [show evF (fun e => !still (runA h l (fun o => o == e) ne).2.1 kk PP) k 0 e n = -1 from if_neg (by omega)]
    · skip
      refine w_iln l_284_54 rfl ?_
      refine w_go 59 l_284_55 (by decide) ?_
      refine w_ir l_284_59 (Or.inl rfl) ?_
      refine ⟨_, _, rfl, rfl, ?_, f⟩
      rw [← hX]
      first
        | rw [show evF (fun e => !still (runA h l (fun o => o == e) ne).2.1 kk PP) k 0 e n = (n : Int) from if_pos (by omega)]
        | rw [show evF (fun e => !still (runA h l (fun o => o == e) ne).2.1 kk PP) k 0 e n = -1 from if_neg (by omega)]
  | succ d ih =>
    intro e n I he hn hX f _
    have Bp := B.fr f
    have h72 : I s 72 = kk := (f s 72 (fun _ => by omega) (fun e => absurd e (Nat.lt_irrefl s))).trans h720
    have h73 : I s 73 = PP := (f s 73 (fun _ => by omega) (fun e => absurd e (Nat.lt_irrefl s))).trans h730
    refine w_iln l_284_4 rfl ?_
    refine w_aln l_284_5 rfl ?_
    refine w_gi ((ne : Nat) : Int) l_284_6 (oModel_sh hm) Bp.2.2.2.2.2.2.2.1 ?_
    refine w_cge 49 l_284_9 (by decide) (fun hx => absurd hx (by omega)) (fun _ => ?_)
    refine w_aln l_284_12 rfl ?_
    refine p_iv [] [] l_284_13 rfl rfl (Nat.le_of_ble_eq_true rfl) (by rw [mx_202]; exact Nat.le_of_ble_eq_true rfl) (by rw [mt_202]; exact oModel_sh hm) (by rw [mt_202]; decide) (by rw [rk_202]; decide) (r_plain hm Bp.2.1 Bp.2.2.2.2.1) (fun v I1 hv => ?_)
    obtain ⟨rfl, k1, k2, F⟩ := hv
    refine w_aln l_284_16 rfl ?_
    refine w_gr l_284_17 (oModel_sh hm) (oModel_r54 hm) ?_
    refine w_iln l_284_20 rfl ?_
    refine w_ic l_284_21 (by decide) ?_
    refine w_zS e 1 l_284_22 (oModel_s54 hm) rfl (by omega) (by decide) ?_
    have hu : mfb I1 (up I1 (s + 26) e 1) s := fun y z h1 h2 => up_no (by intro q; have := h2 (by omega); omega)
    have k1u : nLi (up I1 (s + 26) e 1) s l := by
      unfold nLi at k1 ⊢
      simp only [up_no (show s ≠ s + 26 by omega), up_no (show s + 25 ≠ s + 26 by omega), up_no (show s + 3 ≠ s + 26 by omega), up_no (show s + 4 ≠ s + 26 by omega), up_no (show s + 5 ≠ s + 26 by omega), up_no (show s + 6 ≠ s + 26 by omega)]
      exact k1
    have hout : ∀ o, o < ne → up I1 (s + 26) e 1 (s + 26) o = b2i (o == e) := by
      intro o ho
      by_cases hoe : o = e
      · rw [hoe, up_eq, beq_self_eq_true]; rfl
      · rw [up_nj hoe, k2 o (by omega)]
        have : (o == e) = false := by simpa using hoe
        rw [this]; rfl
    refine w_aln l_284_23 rfl ?_
    refine p_iv [] [] l_284_24 rfl rfl (Nat.le_of_ble_eq_true rfl) (by rw [mx_283]; exact Nat.le_of_ble_eq_true rfl) (by rw [mt_283]; exact oModel_sh hm) (by rw [mt_283]; decide) (by rw [rk_283]; decide) (s_283 hm (out := fun o => o == e) (((Bp.fr F).fr hu).MB k1u Bp.2.2.2.2.1 rfl) hout ((Bp.fr (F.tr hu)).2.2.2.2.2.2.2.1) (((F.tr hu) s 72 (fun _ => by omega) (fun e => absurd e (Nat.lt_irrefl s))).trans h72) (((F.tr hu) s 73 (fun _ => by omega) (fun e => absurd e (Nat.lt_irrefl s))).trans h73)) (fun v I2 hv => ?_)
    obtain ⟨rfl, f2⟩ := hv
    refine w_beq 33 l_284_27 (by decide) (fun h1 => ?_) (fun h1 => ?_)
    · skip
      refine w_iln l_284_33 rfl ?_
      refine w_iln l_284_34 rfl ?_
      refine w_cne 40 l_284_35 (by decide) (fun h2 => ?_) (fun h2 => ?_)
      · skip
        refine w_inc ((n + 1 : Nat) : Int) l_284_40 rfl rfl (by unfold wr; omega) ?_
        refine w_inc ((e + 1 : Nat) : Int) l_284_43 rfl rfl (by unfold wr; omega) ?_
        refine w_go 4 l_284_46 (by decide) ?_
        have hX2 : evF (fun e => !still (runA h l (fun o => o == e) ne).2.1 kk PP) k d (e + 1) (n + 1) = R := by
          rw [← hX]
          show _ = if (fun e => !still (runA h l (fun o => o == e) ne).2.1 kk PP) e then _ else _
          rw [show (fun e => !still (runA h l (fun o => o == e) ne).2.1 kk PP) e = !still (runA h l (fun o => o == e) ne).2.1 kk PP from rfl, h1]
          show _ = if (n : Int) = k then _ else _
          rw [if_neg (by omega)]
        exact ih (e + 1) (n + 1) I2 (by omega) (by omega) hX2 (f.tr ((F.tr hu).tr f2.b)) ((f.tr ((F.tr hu).tr f2.b)))
      · skip
        refine w_iln l_284_38 rfl ?_
        refine w_ir l_284_39 (Or.inl rfl) ?_
        exact ⟨_, _, rfl, rfl, by
          rw [← hX]
          show some (vi ((e : Nat) : Int)) = some (vi (if (fun e => !still (runA h l (fun o => o == e) ne).2.1 kk PP) e then _ else _))
          rw [show (fun e => !still (runA h l (fun o => o == e) ne).2.1 kk PP) e = !still (runA h l (fun o => o == e) ne).2.1 kk PP from rfl, h1]
          show _ = some (vi (if (n : Int) = k then _ else _))
          rw [if_pos (by omega)], f.tr ((F.tr hu).tr f2.b)⟩
    · skip
      refine w_go 43 l_284_30 (by decide) ?_
      refine w_inc ((e + 1 : Nat) : Int) l_284_43 rfl rfl (by unfold wr; omega) ?_
      refine w_go 4 l_284_46 (by decide) ?_
      have hX2 : evF (fun e => !still (runA h l (fun o => o == e) ne).2.1 kk PP) k d (e + 1) n = R := by
        rw [← hX]
        show _ = if (fun e => !still (runA h l (fun o => o == e) ne).2.1 kk PP) e then _ else _
        rw [show (fun e => !still (runA h l (fun o => o == e) ne).2.1 kk PP) e = !still (runA h l (fun o => o == e) ne).2.1 kk PP from rfl, h1]
        rfl
      exact ih (e + 1) n I2 (by omega) (by omega) hX2 (f.tr ((F.tr hu).tr f2.b)) ((f.tr ((F.tr hu).tr f2.b)))
theorem s_284 (hm : oModel S T s) {ne np : Nat} {a : Nat → Nat} {cd : Nat → Cd} {kk PP k : Int} (B : MP I s h l a ne np cd) (h72 : I s 72 = kk) (h73 : I s 73 = PP) : CL xs 284 [vr s, vi k] (S, I, T, cc, zz) (RP S T cc zz (fun v I' => v = some (vi (evF (fun e => !still (runA h l (fun o => o == e) ne).2.1 kk PP) k ne 0 0)) ∧ mfb I I' s)) := by
  refine CL_start (r := 10) (ls := [vr s, vi k, vs 2, vs 2]) (rk_284 _) rfl ?_
  refine w_ic l_284_0 (by decide) ?_
  refine w_isn l_284_1 ⟨Nat.le_of_ble_eq_true rfl, rfl⟩ ?_
  refine w_ic l_284_2 (by decide) ?_
  refine w_isn l_284_3 ⟨Nat.le_of_ble_eq_true rfl, rfl⟩ ?_
  exact lp_284 hm B h72 h73 ne 0 0 I (Nat.zero_add _) (Nat.le_refl _) rfl (mfb.rf _ _) (mfb.rf _ _)

end RS
