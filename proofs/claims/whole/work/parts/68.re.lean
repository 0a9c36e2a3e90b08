/-! the reference: answers, 5 -/
def pkA (h : Hi) (l : Li) (p : Nat) : Nat → Nat × Int
  | 0 => (0, -1)
  | e + 1 => if (pkA h l p e).1 < fillP h (runA h l noOut (e + 1)).1 p then (fillP h (runA h l noOut (e + 1)).1 p, (e : Int)) else pkA h l p e
section RE
variable {xs : List Int} {S : List (Nat × Nat)} {T : Nat → Nat → Nat} {cc zz s : Nat} {h : Hi} {l : Li} {r : Ra} {g : Lo} {I I' : Ix}

theorem mx_287 : mxl 287 = 3 := by decide +kernel
theorem mt_287 : mtc 287 = 10 := by decide +kernel
theorem rk_287 (as : List AV) : rkA 287 as = 12 := rfl
theorem l_287_0 : look 287 0 = some (.aload_n 0, 1, 0, 0, 0, 0) := by decide +kernel
theorem l_287_1 : look 287 1 = some (.iload_n 1, 1, 0, 0, 0, 0) := by decide +kernel
theorem l_287_2 : look 287 2 = some (.invokevirtual 517, 3, 282, 2, 0, 2204) := by decide +kernel
theorem l_287_5 : look 287 5 = some (.ifCond .ne 5, 3, 0, 0, 0, 0) := by decide +kernel
theorem l_287_8 : look 287 8 = some (.iconst 0, 1, 0, 0, 0, 0) := by decide +kernel
theorem l_287_9 : look 287 9 = some (.ireturn, 1, 0, 0, 0, 0) := by decide +kernel
theorem l_287_10 : look 287 10 = some (.iconst 1, 1, 0, 0, 0, 0) := by decide +kernel
theorem l_287_11 : look 287 11 = some (.istore_n 2, 1, 0, 0, 0, 0) := by decide +kernel
theorem l_287_12 : look 287 12 = some (.iload_n 2, 1, 0, 0, 0, 0) := by decide +kernel
theorem l_287_13 : look 287 13 = some (.bipush 99, 2, 0, 0, 0, 0) := by decide +kernel
theorem l_287_15 : look 287 15 = some (.if_icmp .gt 40, 3, 0, 0, 0, 0) := by decide +kernel
theorem l_287_18 : look 287 18 = some (.aload_n 0, 1, 0, 0, 0, 0) := by decide +kernel
theorem l_287_19 : look 287 19 = some (.getfield 511, 3, 10, 73, 0, 1574) := by decide +kernel
theorem l_287_22 : look 287 22 = some (.iconst (-1), 1, 0, 0, 0, 0) := by decide +kernel
theorem l_287_23 : look 287 23 = some (.if_icmp .eq 32, 3, 0, 0, 0, 0) := by decide +kernel
theorem l_287_26 : look 287 26 = some (.aload_n 0, 1, 0, 0, 0, 0) := by decide +kernel
theorem l_287_27 : look 287 27 = some (.invokevirtual 354, 3, 202, 1, 0, 1901) := by decide +kernel
theorem l_287_30 : look 287 30 = some (.aload_n 0, 1, 0, 0, 0, 0) := by decide +kernel
theorem l_287_31 : look 287 31 = some (.getfield 107, 3, 10, 49, 2, 1550) := by decide +kernel
theorem l_287_34 : look 287 34 = some (.aload_n 0, 1, 0, 0, 0, 0) := by decide +kernel
theorem l_287_35 : look 287 35 = some (.getfield 511, 3, 10, 73, 0, 1574) := by decide +kernel
theorem l_287_38 : look 287 38 = some (.iload_n 2, 1, 0, 0, 0, 0) := by decide +kernel
theorem l_287_39 : look 287 39 = some (.iastore, 1, 0, 0, 0, 0) := by decide +kernel
theorem l_287_40 : look 287 40 = some (.aload_n 0, 1, 0, 0, 0, 0) := by decide +kernel
theorem l_287_41 : look 287 41 = some (.invokevirtual 514, 3, 283, 1, 0, 2212) := by decide +kernel
theorem l_287_44 : look 287 44 = some (.ifCond .ne 5, 3, 0, 0, 0, 0) := by decide +kernel
theorem l_287_47 : look 287 47 = some (.iload_n 2, 1, 0, 0, 0, 0) := by decide +kernel
theorem l_287_48 : look 287 48 = some (.ireturn, 1, 0, 0, 0, 0) := by decide +kernel
theorem l_287_49 : look 287 49 = some (.iinc 2 1, 3, 0, 0, 0, 0) := by decide +kernel
theorem l_287_52 : look 287 52 = some (.goto (-40), 3, 0, 0, 0, 0) := by decide +kernel
theorem l_287_55 : look 287 55 = some (.iconst (-1), 1, 0, 0, 0, 0) := by decide +kernel
theorem l_287_56 : look 287 56 = some (.ireturn, 1, 0, 0, 0, 0) := by decide +kernel

theorem lp_287 {I0 : Ix} (hm : oModel S T s) {ne np p : Nat} {a : Nat → Nat} {cd : Nat → Cd} {kk k9 : Int} (B : MP I0 s h l a ne np cd) (hp : p < lPorts l) (h720 : I0 s 72 = kk) (h730 : I0 s 73 = ((p : Nat) : Int)) {R : Int} : ∀ d c I, c + d = 100 → lcF (fun c => !still (runA h (capL l p c) noOut ne).2.1 kk ((p : Nat) : Int)) d c = R → mfb I0 I s →
    WP xs 287 12 12 [vr s, vi k9, vi ((c : Nat) : Int)] [] (S, I, T, cc, zz) (RP S T cc zz (fun v I' => v = some (vi R) ∧ mfb I0 I' s)) := by
  intro d
  have hne := B.1.1
  have hl4 := B.2.2.2.2.1.1
  induction d with
  | zero =>
    intro c I hc hX f
    refine w_iln l_287_12 rfl ?_
    refine w_bp l_287_13 (by decide) ?_
    refine w_cgt 55 l_287_15 (by decide) (fun _ => ?_) (fun hx => absurd hx (by omega))
    refine w_ic l_287_55 (by decide) ?_
    refine w_ir l_287_56 (Or.inl rfl) ?_
    refine ⟨_, _, rfl, rfl, ?_, f⟩
    rw [← hX]; rfl
  | succ d ih =>
    intro c I hc hX f
    have Bp := B.fr f
    have h72 : I s 72 = kk := (f s 72 (fun _ => by omega) (fun e => absurd e (Nat.lt_irrefl s))).trans h720
    have h73 : I s 73 = ((p : Nat) : Int) := (f s 73 (fun _ => by omega) (fun e => absurd e (Nat.lt_irrefl s))).trans h730
    refine w_iln l_287_12 rfl ?_
    refine w_bp l_287_13 (by decide) ?_
    refine w_cgt 55 l_287_15 (by decide) (fun hx => absurd hx (by omega)) (fun _ => ?_)
    refine w_aln l_287_18 rfl ?_
    refine w_gi ((p : Nat) : Int) l_287_19 (oModel_sh hm) h73 ?_
    refine w_ic l_287_22 (by decide) ?_
    refine w_ceq 55 l_287_23 (by decide) (fun hx => absurd hx (by omega)) (fun _ => ?_)
    refine w_aln l_287_26 rfl ?_
    refine p_iv [] [] l_287_27 rfl rfl (Nat.le_of_ble_eq_true rfl) (by rw [mx_202]; exact Nat.le_of_ble_eq_true rfl) (by rw [mt_202]; exact oModel_sh hm) (by rw [mt_202]; decide) (by rw [rk_202]; decide) (r_plain hm Bp.2.1 Bp.2.2.2.2.1) (fun v I1 hv => ?_)
    obtain ⟨rfl, k1, k2, F⟩ := hv
    refine w_aln l_287_30 rfl ?_
    refine w_gr l_287_31 (oModel_sh hm) (oModel_r49 hm) ?_
    refine w_aln l_287_34 rfl ?_
    refine w_gi ((p : Nat) : Int) l_287_35 (oModel_sh hm) ((F s 73 (fun _ => by omega) (fun e => absurd e (Nat.lt_irrefl s))).trans h73) ?_
    refine w_iln l_287_38 rfl ?_
    refine w_iS p l_287_39 (oModel_s49 hm) rfl (by omega) ?_
    have hu : mfb I1 (up I1 (s + 25) p ((c : Nat) : Int)) s := fun y z h1 h2 => up_no (by intro q; have := h2 (by omega); omega)
    have k1u : nLi (up I1 (s + 25) p ((c : Nat) : Int)) s (capL l p c) := by
      obtain ⟨g1, g2, g3⟩ := k1
      refine ⟨by rw [up_no (by omega)]; exact g1, fun x hx => ?_, ?_⟩
      · obtain ⟨q1, q2, q3⟩ := g2 x hx
        refine ⟨?_, ?_, ?_⟩
        · show _ = (((if x = p then (c, lSpeed l x) else l.2.1 x).1 : Nat) : Int)
          by_cases hxp : x = p
          · rw [if_pos hxp, hxp, up_eq]
          · rw [if_neg hxp, up_nj hxp]; exact q1
        · show _ = (((if x = p then (c, lSpeed l x) else l.2.1 x).2 : Nat) : Int)
          rw [up_no (by omega), q2]
          by_cases hxp : x = p
          · rw [if_pos hxp]
          · rw [if_neg hxp]; rfl
        · rw [up_no (by omega), up_no (by omega)]
          exact q3
      · simp only [up_no (show s ≠ s + 25 by omega), up_no (show s + 6 ≠ s + 25 by omega)]
        exact g3
    have hout : ∀ o, o < ne → up I1 (s + 25) p ((c : Nat) : Int) (s + 26) o = b2i (noOut o) := fun o ho => by rw [up_no (by omega)]; exact k2 o (by omega)
    refine w_aln l_287_40 rfl ?_
    refine p_iv [] [] l_287_41 rfl rfl (Nat.le_of_ble_eq_true rfl) (by rw [mx_283]; exact Nat.le_of_ble_eq_true rfl) (by rw [mt_283]; exact oModel_sh hm) (by rw [mt_283]; decide) (by rw [rk_283]; decide) (s_283 hm (out := noOut) (((Bp.fr F).fr hu).MB k1u (capL_ok Bp.2.2.2.2.1 (by omega)) rfl) hout ((Bp.fr (F.tr hu)).2.2.2.2.2.2.2.1) (((F.tr hu) s 72 (fun _ => by omega) (fun e => absurd e (Nat.lt_irrefl s))).trans h72) (((F.tr hu) s 73 (fun _ => by omega) (fun e => absurd e (Nat.lt_irrefl s))).trans h73)) (fun v I2 hv => ?_)
    obtain ⟨rfl, f2⟩ := hv
    refine w_bne 49 l_287_44 (by decide) (fun h1 => ?_) (fun h1 => ?_)
    · skip
      refine w_inc ((c + 1 : Nat) : Int) l_287_49 rfl rfl (by unfold wr; omega) ?_
      refine w_go 12 l_287_52 (by decide) ?_
      refine ih (c + 1) I2 (by omega) ?_ (f.tr ((F.tr hu).tr f2.b))
      rw [← hX]
      exact (if_neg (by show ¬ ((!still _ _ _) = true); rw [h1]; decide)).symm
    · skip
      refine w_iln l_287_47 rfl ?_
      refine w_ir l_287_48 (Or.inl rfl) ?_
      refine ⟨_, _, rfl, rfl, ?_, f.tr ((F.tr hu).tr f2.b)⟩
      rw [← hX, show lcF (fun c => !still (runA h (capL l p c) noOut ne).2.1 kk ((p : Nat) : Int)) (d + 1) c = (c : Int) from if_pos (by show (!still _ _ _) = true; rw [h1]; rfl)]
theorem s_287 (hm : oModel S T s) {ne np : Nat} {a : Nat → Nat} {cd : Nat → Cd} (B : MP I s h l a ne np cd) {k : Nat} (hk : k < (runA h l noOut ne).2.1.length) {p : Nat} (hp : p < lPorts l) (hP : ((runA h l noOut ne).2.1.getD k dr0).2.2.1 = ((p : Nat) : Int)): CL xs 287 [vr s, vi ((k : Nat) : Int)] (S, I, T, cc, zz) (RP S T cc zz (fun v I' => v = some (vi (lcF (fun c => !still (runA h (capL l p c) noOut ne).2.1 ((((runA h l noOut ne).2.1.getD k dr0).2.1 : Nat) : Int) ((p : Nat) : Int)) 99 1)) ∧ I' s 0 = 0 ∧ mfk I I' s)) := by
  refine CL_start (r := 12) (ls := [vr s, vi ((k : Nat) : Int), vs 2]) (rk_287 _) rfl ?_
  refine w_aln l_287_0 rfl ?_
  refine w_iln l_287_1 rfl ?_
  refine p_iv [vi ((k : Nat) : Int)] [] l_287_2 rfl rfl (Nat.le_of_ble_eq_true rfl) (by rw [mx_282]; exact Nat.le_of_ble_eq_true rfl) (by rw [mt_282]; exact oModel_sh hm) (by rw [mt_282]; decide) (by rw [rk_282]; decide) (s_282 hm B hk) (fun v I1 hv => ?_)
  obtain ⟨rfl, h0, h72, h73, f1⟩ := hv
  refine w_zne 10 l_287_5 (by decide) (fun _ => ?_) (fun hx => absurd hx (by decide))
  refine w_ic l_287_10 (by decide) ?_
  refine w_isn l_287_11 ⟨Nat.le_of_ble_eq_true rfl, rfl⟩ ?_
  rw [hP] at h73
  refine WP_mono (lp_287 hm (B.k f1) hp h72 h73 99 1 I1 rfl rfl (mfb.rf _ _)) ?_
  rintro q m' ⟨v, J, e1, e2, e3, e4⟩
  exact ⟨v, J, e1, e2, e3, (e4 s 0 (fun _ => Or.inl (by decide)) (fun e => absurd e (Nat.lt_irrefl s))).trans h0, f1.tr e4.k⟩

theorem s_287m (hm : oModel S T s) {ne np : Nat} {a : Nat → Nat} {cd : Nat → Cd} (B : MP I s h l a ne np cd) {k : Nat} (hk : k < (runA h l noOut ne).2.1.length) (hP : ((runA h l noOut ne).2.1.getD k dr0).2.2.1 = -1): CL xs 287 [vr s, vi ((k : Nat) : Int)] (S, I, T, cc, zz) (RP S T cc zz (fun v I' => v = some (vi (-1)) ∧ I' s 0 = 0 ∧ mfk I I' s)) := by
  refine CL_start (r := 12) (ls := [vr s, vi ((k : Nat) : Int), vs 2]) (rk_287 _) rfl ?_
  refine w_aln l_287_0 rfl ?_
  refine w_iln l_287_1 rfl ?_
  refine p_iv [vi ((k : Nat) : Int)] [] l_287_2 rfl rfl (Nat.le_of_ble_eq_true rfl) (by rw [mx_282]; exact Nat.le_of_ble_eq_true rfl) (by rw [mt_282]; exact oModel_sh hm) (by rw [mt_282]; decide) (by rw [rk_282]; decide) (s_282 hm B hk) (fun v I1 hv => ?_)
  obtain ⟨rfl, h0, h72, h73, f1⟩ := hv
  refine w_zne 10 l_287_5 (by decide) (fun _ => ?_) (fun hx => absurd hx (by decide))
  refine w_ic l_287_10 (by decide) ?_
  refine w_isn l_287_11 ⟨Nat.le_of_ble_eq_true rfl, rfl⟩ ?_
  refine w_iln l_287_12 rfl ?_
  refine w_bp l_287_13 (by decide) ?_
  refine w_cgt 55 l_287_15 (by decide) (fun hx => absurd hx (by decide)) (fun _ => ?_)
  refine w_aln l_287_18 rfl ?_
  refine w_gi (-1) l_287_19 (oModel_sh hm) (h73.trans hP) ?_
  refine w_ic l_287_22 (by decide) ?_
  refine w_ceq 55 l_287_23 (by decide) (fun _ => ?_) (fun hx => absurd hx (by decide))
  refine w_ic l_287_55 (by decide) ?_
  refine w_ir l_287_56 (Or.inl rfl) ?_
  exact ⟨_, _, rfl, rfl, rfl, h0, f1⟩

theorem s_287n (hm : oModel S T s) {ne np : Nat} {a : Nat → Nat} {cd : Nat → Cd} (B : MP I s h l a ne np cd) {k : Int} (hk : ¬ (0 ≤ k ∧ k < (((runA h l noOut ne).2.1.length : Nat) : Int))): CL xs 287 [vr s, vi k] (S, I, T, cc, zz) (RP S T cc zz (fun v I' => v = some (vi 0) ∧ I' s 0 = 1 ∧ mfk I I' s)) := by
  refine CL_start (r := 12) (ls := [vr s, vi k, vs 2]) (rk_287 _) rfl ?_
  refine w_aln l_287_0 rfl ?_
  refine w_iln l_287_1 rfl ?_
  refine p_iv [vi k] [] l_287_2 rfl rfl (Nat.le_of_ble_eq_true rfl) (by rw [mx_282]; exact Nat.le_of_ble_eq_true rfl) (by rw [mt_282]; exact oModel_sh hm) (by rw [mt_282]; decide) (by rw [rk_282]; decide) (s_282n hm B hk) (fun v I1 hv => ?_)
  obtain ⟨rfl, h0, f1⟩ := hv
  refine w_zne 10 l_287_5 (by decide) (fun hx => absurd hx (by decide)) (fun _ => ?_)
  refine w_ic l_287_8 (by decide) ?_
  refine w_ir l_287_9 (Or.inl rfl) ?_
  exact ⟨_, _, rfl, rfl, rfl, h0, f1⟩

theorem mx_288 : mxl 288 = 4 := by decide +kernel
theorem mt_288 : mtc 288 = 10 := by decide +kernel
theorem rk_288 (as : List AV) : rkA 288 as = 12 := rfl
theorem l_288_0 : look 288 0 = some (.aload_n 0, 1, 0, 0, 0, 0) := by decide +kernel
theorem l_288_1 : look 288 1 = some (.iload_n 1, 1, 0, 0, 0, 0) := by decide +kernel
theorem l_288_2 : look 288 2 = some (.invokevirtual 517, 3, 282, 2, 0, 2204) := by decide +kernel
theorem l_288_5 : look 288 5 = some (.ifCond .ne 5, 3, 0, 0, 0, 0) := by decide +kernel
theorem l_288_8 : look 288 8 = some (.iconst 0, 1, 0, 0, 0, 0) := by decide +kernel
theorem l_288_9 : look 288 9 = some (.ireturn, 1, 0, 0, 0, 0) := by decide +kernel
theorem l_288_10 : look 288 10 = some (.iconst 0, 1, 0, 0, 0, 0) := by decide +kernel
theorem l_288_11 : look 288 11 = some (.istore_n 2, 1, 0, 0, 0, 0) := by decide +kernel
theorem l_288_12 : look 288 12 = some (.iconst 0, 1, 0, 0, 0, 0) := by decide +kernel
theorem l_288_13 : look 288 13 = some (.istore_n 3, 1, 0, 0, 0, 0) := by decide +kernel
theorem l_288_14 : look 288 14 = some (.iload_n 3, 1, 0, 0, 0, 0) := by decide +kernel
theorem l_288_15 : look 288 15 = some (.aload_n 0, 1, 0, 0, 0, 0) := by decide +kernel
theorem l_288_16 : look 288 16 = some (.getfield 327, 3, 10, 10, 0, 1511) := by decide +kernel
theorem l_288_19 : look 288 19 = some (.if_icmp .ge 37, 3, 0, 0, 0, 0) := by decide +kernel
theorem l_288_22 : look 288 22 = some (.aload_n 0, 1, 0, 0, 0, 0) := by decide +kernel
theorem l_288_23 : look 288 23 = some (.invokevirtual 354, 3, 202, 1, 0, 1901) := by decide +kernel
theorem l_288_26 : look 288 26 = some (.aload_n 0, 1, 0, 0, 0, 0) := by decide +kernel
theorem l_288_27 : look 288 27 = some (.iconst 1, 1, 0, 0, 0, 0) := by decide +kernel
theorem l_288_28 : look 288 28 = some (.iload_n 3, 1, 0, 0, 0, 0) := by decide +kernel
theorem l_288_29 : look 288 29 = some (.ishl, 1, 0, 0, 0, 0) := by decide +kernel
theorem l_288_30 : look 288 30 = some (.putfield 351, 3, 10, 53, 0, 1554) := by decide +kernel
theorem l_288_33 : look 288 33 = some (.iload_n 2, 1, 0, 0, 0, 0) := by decide +kernel
theorem l_288_34 : look 288 34 = some (.aload_n 0, 1, 0, 0, 0, 0) := by decide +kernel
theorem l_288_35 : look 288 35 = some (.invokevirtual 514, 3, 283, 1, 0, 2212) := by decide +kernel
theorem l_288_38 : look 288 38 = some (.ifCond .eq 7, 3, 0, 0, 0, 0) := by decide +kernel
theorem l_288_41 : look 288 41 = some (.iconst 0, 1, 0, 0, 0, 0) := by decide +kernel
theorem l_288_42 : look 288 42 = some (.goto 6, 3, 0, 0, 0, 0) := by decide +kernel
theorem l_288_45 : look 288 45 = some (.iconst 1, 1, 0, 0, 0, 0) := by decide +kernel
theorem l_288_46 : look 288 46 = some (.iload_n 3, 1, 0, 0, 0, 0) := by decide +kernel
theorem l_288_47 : look 288 47 = some (.ishl, 1, 0, 0, 0, 0) := by decide +kernel
theorem l_288_48 : look 288 48 = some (.ior, 1, 0, 0, 0, 0) := by decide +kernel
theorem l_288_49 : look 288 49 = some (.istore_n 2, 1, 0, 0, 0, 0) := by decide +kernel
theorem l_288_50 : look 288 50 = some (.iinc 3 1, 3, 0, 0, 0, 0) := by decide +kernel
theorem l_288_53 : look 288 53 = some (.goto (-39), 3, 0, 0, 0, 0) := by decide +kernel
theorem l_288_56 : look 288 56 = some (.iload_n 2, 1, 0, 0, 0, 0) := by decide +kernel
theorem l_288_57 : look 288 57 = some (.ireturn, 1, 0, 0, 0, 0) := by decide +kernel

theorem lp_288 {I0 : Ix} (hm : oModel S T s) {ne np : Nat} {a : Nat → Nat} {cd : Nat → Cd} {kk PP k9 : Int} (B : MP I0 s h l a ne np cd) (h720 : I0 s 72 = kk) (h730 : I0 s 73 = PP) : ∀ d q I, q + d = lRules l → mfb I0 I s →
    WP xs 288 12 14 [vr s, vi k9, vi (((wbits (fun q => !still (runA h (rulL l q) noOut ne).2.1 kk PP) q) : Nat) : Int), vi ((q : Nat) : Int)] [] (S, I, T, cc, zz) (RP S T cc zz (fun v I' => v = some (vi ((wbits (fun q => !still (runA h (rulL l q) noOut ne).2.1 kk PP) (lRules l) : Nat) : Int)) ∧ mfb I0 I' s)) := by
  intro d
  have hne := B.1.1
  have hl8 := B.2.2.2.2.1.2.1
  induction d with
  | zero =>
    intro q I hq f
    have Bp := B.fr f
    refine w_iln l_288_14 rfl ?_
    refine w_aln l_288_15 rfl ?_
    refine w_gi (((lRules l) : Nat) : Int) l_288_16 (oModel_sh hm) Bp.2.1.2.2.2.2.2.1 ?_
    refine w_cge 56 l_288_19 (by decide) (fun _ => ?_) (fun hx => absurd hx (by omega))
    refine w_iln l_288_56 rfl ?_
    refine w_ir l_288_57 (Or.inl rfl) ?_
    have e9 : q = lRules l := by omega
    rw [e9]
    exact ⟨_, _, rfl, rfl, rfl, f⟩
  | succ d ih =>
    intro q I hq f
    have Bp := B.fr f
    have h72 : I s 72 = kk := (f s 72 (fun _ => by omega) (fun e => absurd e (Nat.lt_irrefl s))).trans h720
    have h73 : I s 73 = PP := (f s 73 (fun _ => by omega) (fun e => absurd e (Nat.lt_irrefl s))).trans h730
    refine w_iln l_288_14 rfl ?_
    refine w_aln l_288_15 rfl ?_
    refine w_gi (((lRules l) : Nat) : Int) l_288_16 (oModel_sh hm) Bp.2.1.2.2.2.2.2.1 ?_
    refine w_cge 56 l_288_19 (by decide) (fun hx => absurd hx (by omega)) (fun _ => ?_)
    refine w_aln l_288_22 rfl ?_
    refine p_iv [] [] l_288_23 rfl rfl (Nat.le_of_ble_eq_true rfl) (by rw [mx_202]; exact Nat.le_of_ble_eq_true rfl) (by rw [mt_202]; exact oModel_sh hm) (by rw [mt_202]; decide) (by rw [rk_202]; decide) (r_plain hm Bp.2.1 Bp.2.2.2.2.1) (fun v I1 hv => ?_)
    obtain ⟨rfl, k1, k2, F⟩ := hv
    refine w_aln l_288_26 rfl ?_
    refine w_ic l_288_27 (by decide) ?_
    refine w_iln l_288_28 rfl ?_
    refine w_shl (((2 ^ q) : Nat) : Int) l_288_29 (shl1 q (by omega)) ?_
    refine w_pi l_288_30 (oModel_sh hm) ?_
    have hu : mfb I1 (up I1 s 53 ((2 ^ q : Nat) : Int)) s := fun y z h1 h2 => by
      by_cases hy : y = s
      · rw [hy, up_nj (by have := h1 hy; omega)]
      · rw [up_no hy]
    have k1u : nLi (up I1 s 53 ((2 ^ q : Nat) : Int)) s (rulL l q) := by
      obtain ⟨g1, g2, g3, g4, g5, g6, g7, _⟩ := k1
      refine ⟨by rw [up_nj (by decide)]; exact g1, fun x hx => ?_, by rw [up_nj (by decide)]; exact g3, by rw [up_nj (by decide)]; exact g4, by rw [up_nj (by decide)]; exact g5, by rw [up_nj (by decide)]; exact g6, fun x hx => by rw [up_no (by omega)]; exact g7 x hx, 2 ^ q, up_eq, by have := pow8 q (by omega); omega, fun r hr => bt_p8 q (by omega) r hr⟩
      simp only [up_no (show s + 25 ≠ s by omega), up_no (show s + 3 ≠ s by omega), up_no (show s + 4 ≠ s by omega), up_no (show s + 5 ≠ s by omega)]
      exact g2 x hx
    have hout : ∀ o, o < ne → up I1 s 53 ((2 ^ q : Nat) : Int) (s + 26) o = b2i (noOut o) := fun o ho => by rw [up_no (by omega)]; exact k2 o (by omega)
    refine w_iln l_288_33 rfl ?_
    refine w_aln l_288_34 rfl ?_
    refine p_iv [] [vi (((wbits (fun q => !still (runA h (rulL l q) noOut ne).2.1 kk PP) q) : Nat) : Int)] l_288_35 rfl rfl (Nat.le_of_ble_eq_true rfl) (by rw [mx_283]; exact Nat.le_of_ble_eq_true rfl) (by rw [mt_283]; exact oModel_sh hm) (by rw [mt_283]; decide) (by rw [rk_283]; decide) (s_283 hm (out := noOut) (((Bp.fr F).fr hu).MB k1u (rulL_ok Bp.2.2.2.2.1) rfl) hout ((Bp.fr (F.tr hu)).2.2.2.2.2.2.2.1) (((F.tr hu) s 72 (fun _ => by omega) (fun e => absurd e (Nat.lt_irrefl s))).trans h72) (((F.tr hu) s 73 (fun _ => by omega) (fun e => absurd e (Nat.lt_irrefl s))).trans h73)) (fun v I2 hv => ?_)
    obtain ⟨rfl, f2⟩ := hv
    refine w_beq 45 l_288_38 (by decide) (fun h1 => ?_) (fun h1 => ?_)
    · skip
      refine w_ic l_288_45 (by decide) ?_
      refine w_iln l_288_46 rfl ?_
      refine w_shl (((2 ^ q) : Nat) : Int) l_288_47 (shl1 q (by omega)) ?_
      refine w_or ((((wbits (fun q => !still (runA h (rulL l q) noOut ne).2.1 kk PP) q) + 2 ^ q) : Nat) : Int) l_288_48 (or8 q (by omega) _ (wbits_lt _ _)) ?_
      refine w_isn l_288_49 ⟨Nat.le_of_ble_eq_true rfl, rfl⟩ ?_
      refine w_inc ((q + 1 : Nat) : Int) l_288_50 rfl rfl (by unfold wr; omega) ?_
      refine w_go 14 l_288_53 (by decide) ?_
      have hf : (fun q => !still (runA h (rulL l q) noOut ne).2.1 kk PP) q = true := by show (!still _ _ _) = _; rw [h1]; rfl
      have e9 := ih (q + 1) I2 (by omega) (f.tr ((F.tr hu).tr f2.b))
      rw [wbits_t hf] at e9
      exact e9
    · skip
      refine w_ic l_288_41 (by decide) ?_
      refine w_go 48 l_288_42 (by decide) ?_
      refine w_or (((wbits (fun q => !still (runA h (rulL l q) noOut ne).2.1 kk PP) q) : Nat) : Int) l_288_48 (or80 _ (by have := wbits_lt (fun q => !still (runA h (rulL l q) noOut ne).2.1 kk PP) q; have := pow8 q (by omega); omega)) ?_
      refine w_isn l_288_49 ⟨Nat.le_of_ble_eq_true rfl, rfl⟩ ?_
      refine w_inc ((q + 1 : Nat) : Int) l_288_50 rfl rfl (by unfold wr; omega) ?_
      refine w_go 14 l_288_53 (by decide) ?_
      have hf : (fun q => !still (runA h (rulL l q) noOut ne).2.1 kk PP) q = false := by show (!still _ _ _) = _; rw [h1]; rfl
      have e9 := ih (q + 1) I2 (by omega) (f.tr ((F.tr hu).tr f2.b))
      rw [wbits_f hf] at e9
      exact e9
theorem s_288 (hm : oModel S T s) {ne np : Nat} {a : Nat → Nat} {cd : Nat → Cd} (B : MP I s h l a ne np cd) {k : Nat} (hk : k < (runA h l noOut ne).2.1.length): CL xs 288 [vr s, vi ((k : Nat) : Int)] (S, I, T, cc, zz) (RP S T cc zz (fun v I' => v = some (vi ((wbits (fun q => !still (runA h (rulL l q) noOut ne).2.1 ((((runA h l noOut ne).2.1.getD k dr0).2.1 : Nat) : Int) ((runA h l noOut ne).2.1.getD k dr0).2.2.1) (lRules l) : Nat) : Int)) ∧ I' s 0 = 0 ∧ mfk I I' s)) := by
  refine CL_start (r := 12) (ls := [vr s, vi ((k : Nat) : Int), vs 2, vs 2]) (rk_288 _) rfl ?_
  refine w_aln l_288_0 rfl ?_
  refine w_iln l_288_1 rfl ?_
  refine p_iv [vi ((k : Nat) : Int)] [] l_288_2 rfl rfl (Nat.le_of_ble_eq_true rfl) (by rw [mx_282]; exact Nat.le_of_ble_eq_true rfl) (by rw [mt_282]; exact oModel_sh hm) (by rw [mt_282]; decide) (by rw [rk_282]; decide) (s_282 hm B hk) (fun v I1 hv => ?_)
  obtain ⟨rfl, h0, h72, h73, f1⟩ := hv
  refine w_zne 10 l_288_5 (by decide) (fun _ => ?_) (fun hx => absurd hx (by decide))
  refine w_ic l_288_10 (by decide) ?_
  refine w_isn l_288_11 ⟨Nat.le_of_ble_eq_true rfl, rfl⟩ ?_
  refine w_ic l_288_12 (by decide) ?_
  refine w_isn l_288_13 ⟨Nat.le_of_ble_eq_true rfl, rfl⟩ ?_
  refine WP_mono (lp_288 hm (B.k f1) h72 h73 _ 0 I1 (Nat.zero_add _) (mfb.rf _ _)) ?_
  rintro q m' ⟨v, J, e1, e2, e3, e4⟩
  exact ⟨v, J, e1, e2, e3, (e4 s 0 (fun _ => Or.inl (by decide)) (fun e => absurd e (Nat.lt_irrefl s))).trans h0, f1.tr e4.k⟩

theorem s_288n (hm : oModel S T s) {ne np : Nat} {a : Nat → Nat} {cd : Nat → Cd} (B : MP I s h l a ne np cd) {k : Int} (hk : ¬ (0 ≤ k ∧ k < (((runA h l noOut ne).2.1.length : Nat) : Int))): CL xs 288 [vr s, vi k] (S, I, T, cc, zz) (RP S T cc zz (fun v I' => v = some (vi 0) ∧ I' s 0 = 1 ∧ mfk I I' s)) := by
  refine CL_start (r := 12) (ls := [vr s, vi k, vs 2, vs 2]) (rk_288 _) rfl ?_
  refine w_aln l_288_0 rfl ?_
  refine w_iln l_288_1 rfl ?_
  refine p_iv [vi k] [] l_288_2 rfl rfl (Nat.le_of_ble_eq_true rfl) (by rw [mx_282]; exact Nat.le_of_ble_eq_true rfl) (by rw [mt_282]; exact oModel_sh hm) (by rw [mt_282]; decide) (by rw [rk_282]; decide) (s_282n hm B hk) (fun v I1 hv => ?_)
  obtain ⟨rfl, h0, f1⟩ := hv
  refine w_zne 10 l_288_5 (by decide) (fun hx => absurd hx (by decide)) (fun _ => ?_)
  refine w_ic l_288_8 (by decide) ?_
  refine w_ir l_288_9 (Or.inl rfl) ?_
  exact ⟨_, _, rfl, rfl, rfl, h0, f1⟩

end RE
