/-! the class: limits are copied and changed -/
/-- the class's suppositions -/
def cSu (I : Ix) (s : Nat) (su : Su) : Prop := (∀ p, p < 4 → I (s + 1) p = oI (su.1 p)) ∧ I (s + 1) 4 = oI su.2.1.1 ∧ I (s + 1) 5 = oI su.2.1.2.1 ∧ I (s + 1) 6 = oI su.2.1.2.2 ∧ (∀ r, r < 8 → (I (s + 1) (7 + r) = -1 ↔ su.2.2.1 r = false)) ∧ ∀ e, e < 120 → I (s + 2) e = b2i (su.2.2.2 e)
theorem cSu.fr {I J : Ix} {s lo hi : Nat} {su : Su} (H : cSu I s su) (f : fr I J lo hi) (d : hi < s ∨ s + 2 < lo) : cSu J s su := by
  have e : ∀ j, j ≤ 2 → ∀ y, J (s + j) y = I (s + j) y := fun j hj y => f (s + j) (by omega) y
  unfold cSu at H ⊢
  simp only [e 1 (by decide), e 2 (by decide)]
  exact H
section CLM
variable {xs : List Int} {S : List (Nat × Nat)} {T : Nat → Nat → Nat} {cc zz s x : Nat} {h : Hi} {l : Li} {I I' : Ix}
theorem t_limits (o : oLimits S T s) (ox : oLimits S T x) (hsx : x + 4 < s ∨ s + 4 < x) (hL : cLi I x l) (h4 : lPorts l ≤ 4) : CL xs 9 [vr s, vr x] (S, I, T, cc, zz) (RP S T cc zz (fun v I' => v = none ∧ cLi I' s l ∧ fr I I' s (s + 4))) := by
  refine CL_mono (s_9 o ox hsx) ?_
  rintro q m' ⟨rfl, rfl⟩
  obtain ⟨g1, g2, g3, g4, g5, g6, g7⟩ := hL
  have A : ∀ j, 1 ≤ j ∧ j ≤ 4 → ∀ p, p < 4 → (up (up (up (up (up (cpy (cpy (cpy (cpy (up I s 0 (I x 0)) (x + 1) 0 (s + 1) 0 4) (x + 2) 0 (s + 2) 0 4) (x + 3) 0 (s + 3) 0 4) (x + 4) 0 (s + 4) 0 4) s 5 (I x 5)) s 6 (I x 6)) s 7 (I x 7)) s 8 (I x 8)) s 9 (I x 9)) (s + j) p = I (x + j) p := by
    intro j hj p hp
    rw [up_no (by omega), up_no (by omega), up_no (by omega), up_no (by omega), up_no (by omega)]
    rcases (show j = 1 ∨ j = 2 ∨ j = 3 ∨ j = 4 by omega) with rfl | rfl | rfl | rfl
    · repeat (rw [cpy_no (by omega)])
      rw [cpy_in (Nat.zero_le _) (by omega), up_no (by omega), Nat.sub_zero, Nat.zero_add]
    · repeat (rw [cpy_no (by omega)])
      rw [cpy_in (Nat.zero_le _) (by omega)]
      repeat (rw [cpy_no (by omega)])
      rw [up_no (by omega), Nat.sub_zero, Nat.zero_add]
    · repeat (rw [cpy_no (by omega)])
      rw [cpy_in (Nat.zero_le _) (by omega)]
      repeat (rw [cpy_no (by omega)])
      rw [up_no (by omega), Nat.sub_zero, Nat.zero_add]
    · rw [cpy_in (Nat.zero_le _) (by omega)]
      repeat (rw [cpy_no (by omega)])
      rw [up_no (by omega), Nat.sub_zero, Nat.zero_add]
  have V : ∀ j, j = 0 ∨ (5 ≤ j ∧ j ≤ 9) → (up (up (up (up (up (cpy (cpy (cpy (cpy (up I s 0 (I x 0)) (x + 1) 0 (s + 1) 0 4) (x + 2) 0 (s + 2) 0 4) (x + 3) 0 (s + 3) 0 4) (x + 4) 0 (s + 4) 0 4) s 5 (I x 5)) s 6 (I x 6)) s 7 (I x 7)) s 8 (I x 8)) s 9 (I x 9)) s j = I x j := by
    intro j hj
    rcases (show j = 0 ∨ j = 5 ∨ j = 6 ∨ j = 7 ∨ j = 8 ∨ j = 9 by omega) with rfl | rfl | rfl | rfl | rfl | rfl
    · rw [up_nj (by decide), up_nj (by decide), up_nj (by decide), up_nj (by decide), up_nj (by decide)]
      repeat (rw [cpy_no (by omega)])
      rw [up_eq]
    · rw [up_nj (by decide), up_nj (by decide), up_nj (by decide), up_nj (by decide), up_eq]
    · rw [up_nj (by decide), up_nj (by decide), up_nj (by decide), up_eq]
    · rw [up_nj (by decide), up_nj (by decide), up_eq]
    · rw [up_nj (by decide), up_eq]
    · rw [up_eq]
  refine ⟨none, _, rfl, rfl, rfl, ⟨?_, fun p hp => ?_, ?_, ?_, ?_, ?_, ?_⟩, ?_⟩
  · rw [V 0 (by decide)]; exact g1
  · rw [A 1 (by decide) p (by omega), A 2 (by decide) p (by omega), A 3 (by decide) p (by omega), A 4 (by decide) p (by omega)]
    exact g2 p hp
  · rw [V 5 (by decide)]; exact g3
  · rw [V 6 (by decide)]; exact g4
  · rw [V 7 (by decide)]; exact g5
  · rw [V 8 (by decide)]; exact g6
  · rw [V 9 (by decide)]; exact g7
  · repeat (refine fr.up ?_ (by omega) (by omega))
    repeat (refine fr.cpy ?_ (by omega) (by omega))
    repeat (refine fr.up ?_ (by omega) (by omega))
    exact fr.rf _ _ _

theorem mx_97 : mxl 97 = 3 := by decide +kernel
theorem mt_97 : mtc 97 = 8 := by decide +kernel
theorem rk_97 (as : List AV) : rkA 97 as = 0 := rfl
theorem l_97_0 : look 97 0 = some (.aload_n 0, 1, 0, 0, 0, 0) := by decide +kernel
theorem l_97_1 : look 97 1 = some (.getfield 11, 3, 8, 0, 2, 471) := by decide +kernel
theorem l_97_4 : look 97 4 = some (.iload_n 1, 1, 0, 0, 0, 0) := by decide +kernel
theorem l_97_5 : look 97 5 = some (.iaload, 1, 0, 0, 0, 0) := by decide +kernel
theorem l_97_6 : look 97 6 = some (.iconst (-1), 1, 0, 0, 0, 0) := by decide +kernel
theorem l_97_7 : look 97 7 = some (.if_icmp .eq 12, 3, 0, 0, 0, 0) := by decide +kernel
theorem l_97_10 : look 97 10 = some (.aload_n 0, 1, 0, 0, 0, 0) := by decide +kernel
theorem l_97_11 : look 97 11 = some (.getfield 11, 3, 8, 0, 2, 471) := by decide +kernel
theorem l_97_14 : look 97 14 = some (.iload_n 1, 1, 0, 0, 0, 0) := by decide +kernel
theorem l_97_15 : look 97 15 = some (.iaload, 1, 0, 0, 0, 0) := by decide +kernel
theorem l_97_16 : look 97 16 = some (.goto 4, 3, 0, 0, 0, 0) := by decide +kernel
theorem l_97_19 : look 97 19 = some (.iload_n 2, 1, 0, 0, 0, 0) := by decide +kernel
theorem l_97_20 : look 97 20 = some (.ireturn, 1, 0, 0, 0, 0) := by decide +kernel

def vOr (u : Option Nat) (v : Int) : Int := if oI u = -1 then v else oI u
theorem vOr_n {u : Option Nat} {v : Nat} : vOr u (v : Int) = ((oD u v : Nat) : Int) := by
  unfold vOr
  by_cases h : oI u = -1
  · rw [if_pos h]; exact oI_n h
  · rw [if_neg h]; exact oI_s h
theorem up_id {I : Ix} {a j : Nat} {v : Int} (h : I a j = v) : up I a j v = I := by
  funext x y
  unfold up
  by_cases hx : x = a ∧ y = j
  · rw [if_pos hx, hx.1, hx.2, h]
  · rw [if_neg hx]
theorem bits0 : ∀ d : Nat, d < 256 → (∀ r : Nat, r < 8 → bt d r = 0) → d = 0 := by decide +kernel

theorem s_97 (o : oSuppositions S T s) {k : Nat} {v : Int} {u : Option Nat} (hk : k < 15) (hu : I (s + 1) k = oI u) : CL xs 97 [vr s, vi ((k : Nat) : Int), vi v] (S, I, T, cc, zz) (FN (some (vi (vOr u v))) (S, I, T, cc, zz)) := by
  refine CL_start (r := 0) (ls := [vr s, vi ((k : Nat) : Int), vi v]) (rk_97 _) rfl ?_
  refine w_aln l_97_0 rfl ?_
  refine w_gr l_97_1 (oSuppositions_sh o) (oSuppositions_r0 o) ?_
  refine w_iln l_97_4 rfl ?_
  refine w_ia k (oI u) l_97_5 (oSuppositions_s0 o) rfl (by omega) hu ?_
  refine w_ic l_97_6 (by decide) ?_
  refine w_ceq 19 l_97_7 (by decide) (fun h1 => ?_) (fun h1 => ?_)
  · skip
    refine w_iln l_97_19 rfl ?_
    refine w_ir l_97_20 (Or.inl rfl) ?_
    refine ⟨?_, rfl⟩
    unfold vOr
    first
      | rw [if_pos (by assumption)]
      | rw [if_neg (by assumption)]
  · skip
    refine w_aln l_97_10 rfl ?_
    refine w_gr l_97_11 (oSuppositions_sh o) (oSuppositions_r0 o) ?_
    refine w_iln l_97_14 rfl ?_
    refine w_ia k (oI u) l_97_15 (oSuppositions_s0 o) rfl (by omega) hu ?_
    refine w_go 20 l_97_16 (by decide) ?_
    refine w_ir l_97_20 (Or.inl rfl) ?_
    refine ⟨?_, rfl⟩
    unfold vOr
    first
      | rw [if_pos (by assumption)]
      | rw [if_neg (by assumption)]

theorem mx_96 : mxl 96 = 3 := by decide +kernel
theorem mt_96 : mtc 96 = 8 := by decide +kernel
theorem rk_96 (as : List AV) : rkA 96 as = 1 := rfl
theorem l_96_0 : look 96 0 = some (.iconst 0, 1, 0, 0, 0, 0) := by decide +kernel
theorem l_96_1 : look 96 1 = some (.istore_n 2, 1, 0, 0, 0, 0) := by decide +kernel
theorem l_96_2 : look 96 2 = some (.iload_n 2, 1, 0, 0, 0, 0) := by decide +kernel
theorem l_96_3 : look 96 3 = some (.iconst 4, 1, 0, 0, 0, 0) := by decide +kernel
theorem l_96_4 : look 96 4 = some (.if_icmp .ge 26, 3, 0, 0, 0, 0) := by decide +kernel
theorem l_96_7 : look 96 7 = some (.aload_n 1, 1, 0, 0, 0, 0) := by decide +kernel
theorem l_96_8 : look 96 8 = some (.getfield 25, 3, 1, 1, 2, 182) := by decide +kernel
theorem l_96_11 : look 96 11 = some (.iload_n 2, 1, 0, 0, 0, 0) := by decide +kernel
theorem l_96_12 : look 96 12 = some (.aload_n 0, 1, 0, 0, 0, 0) := by decide +kernel
theorem l_96_13 : look 96 13 = some (.iload_n 2, 1, 0, 0, 0, 0) := by decide +kernel
theorem l_96_14 : look 96 14 = some (.aload_n 1, 1, 0, 0, 0, 0) := by decide +kernel
theorem l_96_15 : look 96 15 = some (.getfield 25, 3, 1, 1, 2, 182) := by decide +kernel
theorem l_96_18 : look 96 18 = some (.iload_n 2, 1, 0, 0, 0, 0) := by decide +kernel
theorem l_96_19 : look 96 19 = some (.iaload, 1, 0, 0, 0, 0) := by decide +kernel
theorem l_96_20 : look 96 20 = some (.invokevirtual 30, 3, 97, 3, 0, 646) := by decide +kernel
theorem l_96_23 : look 96 23 = some (.iastore, 1, 0, 0, 0, 0) := by decide +kernel
theorem l_96_24 : look 96 24 = some (.iinc 2 1, 3, 0, 0, 0, 0) := by decide +kernel
theorem l_96_27 : look 96 27 = some (.goto (-25), 3, 0, 0, 0, 0) := by decide +kernel
theorem l_96_30 : look 96 30 = some (.aload_n 1, 1, 0, 0, 0, 0) := by decide +kernel
theorem l_96_31 : look 96 31 = some (.aload_n 0, 1, 0, 0, 0, 0) := by decide +kernel
theorem l_96_32 : look 96 32 = some (.iconst 4, 1, 0, 0, 0, 0) := by decide +kernel
theorem l_96_33 : look 96 33 = some (.aload_n 1, 1, 0, 0, 0, 0) := by decide +kernel
theorem l_96_34 : look 96 34 = some (.getfield 34, 3, 1, 5, 0, 198) := by decide +kernel
theorem l_96_37 : look 96 37 = some (.invokevirtual 30, 3, 97, 3, 0, 646) := by decide +kernel
theorem l_96_40 : look 96 40 = some (.putfield 34, 3, 1, 5, 0, 198) := by decide +kernel
theorem l_96_43 : look 96 43 = some (.aload_n 1, 1, 0, 0, 0, 0) := by decide +kernel
theorem l_96_44 : look 96 44 = some (.aload_n 0, 1, 0, 0, 0, 0) := by decide +kernel
theorem l_96_45 : look 96 45 = some (.iconst 5, 1, 0, 0, 0, 0) := by decide +kernel
theorem l_96_46 : look 96 46 = some (.aload_n 1, 1, 0, 0, 0, 0) := by decide +kernel
theorem l_96_47 : look 96 47 = some (.getfield 38, 3, 1, 6, 0, 202) := by decide +kernel
theorem l_96_50 : look 96 50 = some (.invokevirtual 30, 3, 97, 3, 0, 646) := by decide +kernel
theorem l_96_53 : look 96 53 = some (.putfield 38, 3, 1, 6, 0, 202) := by decide +kernel
theorem l_96_56 : look 96 56 = some (.aload_n 1, 1, 0, 0, 0, 0) := by decide +kernel
theorem l_96_57 : look 96 57 = some (.aload_n 0, 1, 0, 0, 0, 0) := by decide +kernel
theorem l_96_58 : look 96 58 = some (.bipush 6, 2, 0, 0, 0, 0) := by decide +kernel
theorem l_96_60 : look 96 60 = some (.aload_n 1, 1, 0, 0, 0, 0) := by decide +kernel
theorem l_96_61 : look 96 61 = some (.getfield 41, 3, 1, 7, 0, 206) := by decide +kernel
theorem l_96_64 : look 96 64 = some (.invokevirtual 30, 3, 97, 3, 0, 646) := by decide +kernel
theorem l_96_67 : look 96 67 = some (.putfield 41, 3, 1, 7, 0, 206) := by decide +kernel
theorem l_96_70 : look 96 70 = some (.iconst 0, 1, 0, 0, 0, 0) := by decide +kernel
theorem l_96_71 : look 96 71 = some (.istore_n 2, 1, 0, 0, 0, 0) := by decide +kernel
theorem l_96_72 : look 96 72 = some (.iload_n 2, 1, 0, 0, 0, 0) := by decide +kernel
theorem l_96_73 : look 96 73 = some (.bipush 8, 2, 0, 0, 0, 0) := by decide +kernel
theorem l_96_75 : look 96 75 = some (.if_icmp .ge 34, 3, 0, 0, 0, 0) := by decide +kernel
theorem l_96_78 : look 96 78 = some (.aload_n 0, 1, 0, 0, 0, 0) := by decide +kernel
theorem l_96_79 : look 96 79 = some (.getfield 11, 3, 8, 0, 2, 471) := by decide +kernel
theorem l_96_82 : look 96 82 = some (.bipush 7, 2, 0, 0, 0, 0) := by decide +kernel
theorem l_96_84 : look 96 84 = some (.iload_n 2, 1, 0, 0, 0, 0) := by decide +kernel
theorem l_96_85 : look 96 85 = some (.iadd, 1, 0, 0, 0, 0) := by decide +kernel
theorem l_96_86 : look 96 86 = some (.iaload, 1, 0, 0, 0, 0) := by decide +kernel
theorem l_96_87 : look 96 87 = some (.iconst (-1), 1, 0, 0, 0, 0) := by decide +kernel
theorem l_96_88 : look 96 88 = some (.if_icmp .eq 15, 3, 0, 0, 0, 0) := by decide +kernel
theorem l_96_91 : look 96 91 = some (.aload_n 1, 1, 0, 0, 0, 0) := by decide +kernel
theorem l_96_92 : look 96 92 = some (.dup, 1, 0, 0, 0, 0) := by decide +kernel
theorem l_96_93 : look 96 93 = some (.getfield 44, 3, 1, 9, 0, 213) := by decide +kernel
theorem l_96_96 : look 96 96 = some (.iconst 1, 1, 0, 0, 0, 0) := by decide +kernel
theorem l_96_97 : look 96 97 = some (.iload_n 2, 1, 0, 0, 0, 0) := by decide +kernel
theorem l_96_98 : look 96 98 = some (.ishl, 1, 0, 0, 0, 0) := by decide +kernel
theorem l_96_99 : look 96 99 = some (.ior, 1, 0, 0, 0, 0) := by decide +kernel
theorem l_96_100 : look 96 100 = some (.putfield 44, 3, 1, 9, 0, 213) := by decide +kernel
theorem l_96_103 : look 96 103 = some (.iinc 2 1, 3, 0, 0, 0, 0) := by decide +kernel
theorem l_96_106 : look 96 106 = some (.goto (-34), 3, 0, 0, 0, 0) := by decide +kernel
theorem l_96_109 : look 96 109 = some (.return_, 1, 0, 0, 0, 0) := by decide +kernel

theorem lp_96 (o : oSuppositions S T s) (ox : oLimits S T x) (hsx : s + 2 < x ∨ x + 4 < s) {J : Ix} {su : Su} (hR : ∀ r, r < 8 → (J (s + 1) (7 + r) = -1 ↔ su.2.2.1 r = false)) : ∀ d q, q + d = 8 → WP xs 96 1 72 [vr s, vr x, vi ((q : Nat) : Int)] [] (S, (up J x 9 ((wbits su.2.2.1 q : Nat) : Int)), T, cc, zz) (FN none (S, up J x 9 ((wbits su.2.2.1 8 : Nat) : Int), T, cc, zz)) := by
  intro d
  induction d with
  | zero =>
    intro q hq
    refine w_iln l_96_72 rfl ?_
    refine w_bp l_96_73 (by decide) ?_
    refine w_cge 109 l_96_75 (by decide) (fun _ => ?_) (fun hx => absurd hx (by omega))
    refine w_vr l_96_109 ?_
    have e9 : q = 8 := by omega
    rw [e9]
    exact ⟨rfl, rfl⟩
  | succ d ih =>
    intro q hq
    refine w_iln l_96_72 rfl ?_
    refine w_bp l_96_73 (by decide) ?_
    refine w_cge 109 l_96_75 (by decide) (fun hx => absurd hx (by omega)) (fun _ => ?_)
    refine w_aln l_96_78 rfl ?_
    refine w_gr l_96_79 (oSuppositions_sh o) (oSuppositions_r0 o) ?_
    refine w_bp l_96_82 (by decide) ?_
    refine w_iln l_96_84 rfl ?_
    refine w_add ((7 + q : Nat) : Int) l_96_85 (by unfold wr; omega) ?_
    refine w_ia (7 + q) (J (s + 1) (7 + q)) l_96_86 (oSuppositions_s0 o) rfl (by omega) (up_no (by omega)) ?_
    refine w_ic l_96_87 (by decide) ?_
    refine w_ceq 103 l_96_88 (by decide) (fun h1 => ?_) (fun h1 => ?_)
    · skip
      refine w_inc ((q + 1 : Nat) : Int) l_96_103 rfl rfl (by unfold wr; omega) ?_
      refine w_go 72 l_96_106 (by decide) ?_
      have hw : su.2.2.1 q = false := (hR q (by omega)).mp (by assumption)
      have e9 := ih (q + 1) (by omega)
      rw [wbits_f hw] at e9
      exact e9
    · skip
      refine w_aln l_96_91 rfl ?_
      refine w_dup l_96_92 rfl ?_
      refine w_gi (((wbits su.2.2.1 q) : Nat) : Int) l_96_93 (oLimits_sh ox) up_eq ?_
      refine w_ic l_96_96 (by decide) ?_
      refine w_iln l_96_97 rfl ?_
      refine w_shl (((2 ^ q) : Nat) : Int) l_96_98 (shl1 q (by omega)) ?_
      refine w_or (((wbits su.2.2.1 q + 2 ^ q) : Nat) : Int) l_96_99 (or8 q (by omega) _ (wbits_lt _ _)) ?_
      refine w_pi l_96_100 (oLimits_sh ox) ?_
      refine w_inc ((q + 1 : Nat) : Int) l_96_103 rfl rfl (by unfold wr; omega) ?_
      refine w_go 72 l_96_106 (by decide) ?_
      have hw : su.2.2.1 q = true := by
        cases hb : su.2.2.1 q
        · exact absurd ((hR q (by omega)).mpr hb) (by assumption)
        · rfl
      have e9 := ih (q + 1) (by omega)
      rw [wbits_t hw] at e9
      rw [up_up]
      exact e9
theorem s_96 (o : oSuppositions S T s) (ox : oLimits S T x) (hsx : s + 2 < x ∨ x + 4 < s) {su : Su} (hS : cSu I s su) (hL : cLi I x l) (h4 : lPorts l ≤ 4) (hi : ∀ r, lIdle l r = false) : CL xs 96 [vr s, vr x] (S, I, T, cc, zz) (RP S T cc zz (fun v I' => v = none ∧ cLi I' x (supL l su) ∧ fr I I' x (x + 4))) := by
  refine CL_start (r := 1) (ls := [vr s, vr x, vs 2]) (rk_96 _) rfl ?_
  refine w_ic l_96_0 (by decide) ?_
  refine w_isn l_96_1 ⟨Nat.le_of_ble_eq_true rfl, rfl⟩ ?_
  refine w_iln l_96_2 rfl ?_
  refine w_ic l_96_3 (by decide) ?_
  refine w_cge 30 l_96_4 (by decide) (fun hx => absurd hx (by decide)) (fun _ => ?_)
  refine w_aln l_96_7 rfl ?_
  refine w_gr l_96_8 (oLimits_sh ox) (oLimits_r1 ox) ?_
  refine w_iln l_96_11 rfl ?_
  refine w_aln l_96_12 rfl ?_
  refine w_iln l_96_13 rfl ?_
  refine w_aln l_96_14 rfl ?_
  refine w_gr l_96_15 (oLimits_sh ox) (oLimits_r1 ox) ?_
  refine w_iln l_96_18 rfl ?_
  refine w_ia 0 (I (x + 1) 0) l_96_19 (oLimits_s1 ox) rfl (by omega) rfl ?_
  refine q_iv [vi 0, vi (I (x + 1) 0)] [vi 0, vr (x + 1)] l_96_20 rfl rfl (Nat.le_of_ble_eq_true rfl) (by rw [mx_97]; exact Nat.le_of_ble_eq_true rfl) (by rw [mt_97]; exact oSuppositions_sh o) (by rw [mt_97]; decide) (by rw [rk_97]; decide) (s_97 o (k := 0) (u := (su.1 0)) (by decide) (by (repeat rw [up_no (by omega)]); exact hS.1 0 (by decide))) ?_
  refine w_iS 0 l_96_23 (oLimits_s1 ox) rfl (by omega) ?_
  refine w_inc 1 l_96_24 rfl rfl (by unfold wr; omega) ?_
  refine w_go 2 l_96_27 (by decide) ?_
  refine w_iln l_96_2 rfl ?_
  refine w_ic l_96_3 (by decide) ?_
  refine w_cge 30 l_96_4 (by decide) (fun hx => absurd hx (by decide)) (fun _ => ?_)
  refine w_aln l_96_7 rfl ?_
  refine w_gr l_96_8 (oLimits_sh ox) (oLimits_r1 ox) ?_
  refine w_iln l_96_11 rfl ?_
  refine w_aln l_96_12 rfl ?_
  refine w_iln l_96_13 rfl ?_
  refine w_aln l_96_14 rfl ?_
  refine w_gr l_96_15 (oLimits_sh ox) (oLimits_r1 ox) ?_
  refine w_iln l_96_18 rfl ?_
  refine w_ia 1 (I (x + 1) 1) l_96_19 (oLimits_s1 ox) rfl (by omega) ((up_nj (by omega)).trans (rfl)) ?_
  refine q_iv [vi 1, vi (I (x + 1) 1)] [vi 1, vr (x + 1)] l_96_20 rfl rfl (Nat.le_of_ble_eq_true rfl) (by rw [mx_97]; exact Nat.le_of_ble_eq_true rfl) (by rw [mt_97]; exact oSuppositions_sh o) (by rw [mt_97]; decide) (by rw [rk_97]; decide) (s_97 o (k := 1) (u := (su.1 1)) (by decide) (by (repeat rw [up_no (by omega)]); exact hS.1 1 (by decide))) ?_
  refine w_iS 1 l_96_23 (oLimits_s1 ox) rfl (by omega) ?_
  refine w_inc 2 l_96_24 rfl rfl (by unfold wr; omega) ?_
  refine w_go 2 l_96_27 (by decide) ?_
  refine w_iln l_96_2 rfl ?_
  refine w_ic l_96_3 (by decide) ?_
  refine w_cge 30 l_96_4 (by decide) (fun hx => absurd hx (by decide)) (fun _ => ?_)
  refine w_aln l_96_7 rfl ?_
  refine w_gr l_96_8 (oLimits_sh ox) (oLimits_r1 ox) ?_
  refine w_iln l_96_11 rfl ?_
  refine w_aln l_96_12 rfl ?_
  refine w_iln l_96_13 rfl ?_
  refine w_aln l_96_14 rfl ?_
  refine w_gr l_96_15 (oLimits_sh ox) (oLimits_r1 ox) ?_
  refine w_iln l_96_18 rfl ?_
  refine w_ia 2 (I (x + 1) 2) l_96_19 (oLimits_s1 ox) rfl (by omega) ((up_nj (by omega)).trans ((up_nj (by omega)).trans (rfl))) ?_
  refine q_iv [vi 2, vi (I (x + 1) 2)] [vi 2, vr (x + 1)] l_96_20 rfl rfl (Nat.le_of_ble_eq_true rfl) (by rw [mx_97]; exact Nat.le_of_ble_eq_true rfl) (by rw [mt_97]; exact oSuppositions_sh o) (by rw [mt_97]; decide) (by rw [rk_97]; decide) (s_97 o (k := 2) (u := (su.1 2)) (by decide) (by (repeat rw [up_no (by omega)]); exact hS.1 2 (by decide))) ?_
  refine w_iS 2 l_96_23 (oLimits_s1 ox) rfl (by omega) ?_
  refine w_inc 3 l_96_24 rfl rfl (by unfold wr; omega) ?_
  refine w_go 2 l_96_27 (by decide) ?_
  refine w_iln l_96_2 rfl ?_
  refine w_ic l_96_3 (by decide) ?_
  refine w_cge 30 l_96_4 (by decide) (fun hx => absurd hx (by decide)) (fun _ => ?_)
  refine w_aln l_96_7 rfl ?_
  refine w_gr l_96_8 (oLimits_sh ox) (oLimits_r1 ox) ?_
  refine w_iln l_96_11 rfl ?_
  refine w_aln l_96_12 rfl ?_
  refine w_iln l_96_13 rfl ?_
  refine w_aln l_96_14 rfl ?_
  refine w_gr l_96_15 (oLimits_sh ox) (oLimits_r1 ox) ?_
  refine w_iln l_96_18 rfl ?_
  refine w_ia 3 (I (x + 1) 3) l_96_19 (oLimits_s1 ox) rfl (by omega) ((up_nj (by omega)).trans ((up_nj (by omega)).trans ((up_nj (by omega)).trans (rfl)))) ?_
  refine q_iv [vi 3, vi (I (x + 1) 3)] [vi 3, vr (x + 1)] l_96_20 rfl rfl (Nat.le_of_ble_eq_true rfl) (by rw [mx_97]; exact Nat.le_of_ble_eq_true rfl) (by rw [mt_97]; exact oSuppositions_sh o) (by rw [mt_97]; decide) (by rw [rk_97]; decide) (s_97 o (k := 3) (u := (su.1 3)) (by decide) (by (repeat rw [up_no (by omega)]); exact hS.1 3 (by decide))) ?_
  refine w_iS 3 l_96_23 (oLimits_s1 ox) rfl (by omega) ?_
  refine w_inc 4 l_96_24 rfl rfl (by unfold wr; omega) ?_
  refine w_go 2 l_96_27 (by decide) ?_
  refine w_iln l_96_2 rfl ?_
  refine w_ic l_96_3 (by decide) ?_
  refine w_cge 30 l_96_4 (by decide) (fun _ => ?_) (fun hx => absurd hx (by decide))
  refine w_aln l_96_30 rfl ?_
  refine w_aln l_96_31 rfl ?_
  refine w_ic l_96_32 (by decide) ?_
  refine w_aln l_96_33 rfl ?_
  refine w_gi (I x 5) l_96_34 (oLimits_sh ox) ((up_no (by omega)).trans ((up_no (by omega)).trans ((up_no (by omega)).trans ((up_no (by omega)).trans (rfl))))) ?_
  refine q_iv [vi 4, vi (I x 5)] [vr x] l_96_37 rfl rfl (Nat.le_of_ble_eq_true rfl) (by rw [mx_97]; exact Nat.le_of_ble_eq_true rfl) (by rw [mt_97]; exact oSuppositions_sh o) (by rw [mt_97]; decide) (by rw [rk_97]; decide) (s_97 o (k := 4) (u := su.2.1.1) (by decide) (by (repeat rw [up_no (by omega)]); exact hS.2.1)) ?_
  refine w_pi l_96_40 (oLimits_sh ox) ?_
  refine w_aln l_96_43 rfl ?_
  refine w_aln l_96_44 rfl ?_
  refine w_ic l_96_45 (by decide) ?_
  refine w_aln l_96_46 rfl ?_
  refine w_gi (I x 6) l_96_47 (oLimits_sh ox) ((up_nj (by omega)).trans ((up_no (by omega)).trans ((up_no (by omega)).trans ((up_no (by omega)).trans ((up_no (by omega)).trans (rfl)))))) ?_
  refine q_iv [vi 5, vi (I x 6)] [vr x] l_96_50 rfl rfl (Nat.le_of_ble_eq_true rfl) (by rw [mx_97]; exact Nat.le_of_ble_eq_true rfl) (by rw [mt_97]; exact oSuppositions_sh o) (by rw [mt_97]; decide) (by rw [rk_97]; decide) (s_97 o (k := 5) (u := su.2.1.2.1) (by decide) (by (repeat rw [up_no (by omega)]); exact hS.2.2.1)) ?_
  refine w_pi l_96_53 (oLimits_sh ox) ?_
  refine w_aln l_96_56 rfl ?_
  refine w_aln l_96_57 rfl ?_
  refine w_bp l_96_58 (by decide) ?_
  refine w_aln l_96_60 rfl ?_
  refine w_gi (I x 7) l_96_61 (oLimits_sh ox) ((up_nj (by omega)).trans ((up_nj (by omega)).trans ((up_no (by omega)).trans ((up_no (by omega)).trans ((up_no (by omega)).trans ((up_no (by omega)).trans (rfl))))))) ?_
  refine q_iv [vi 6, vi (I x 7)] [vr x] l_96_64 rfl rfl (Nat.le_of_ble_eq_true rfl) (by rw [mx_97]; exact Nat.le_of_ble_eq_true rfl) (by rw [mt_97]; exact oSuppositions_sh o) (by rw [mt_97]; decide) (by rw [rk_97]; decide) (s_97 o (k := 6) (u := su.2.1.2.2) (by decide) (by (repeat rw [up_no (by omega)]); exact hS.2.2.2.1)) ?_
  refine w_pi l_96_67 (oLimits_sh ox) ?_
  refine w_ic l_96_70 (by decide) ?_
  refine w_isn l_96_71 ⟨Nat.le_of_ble_eq_true rfl, rfl⟩ ?_
  have J9 : (up (up (up (up (up (up (up I (x + 1) 0 (vOr (su.1 0) (I (x + 1) 0))) (x + 1) 1 (vOr (su.1 1) (I (x + 1) 1))) (x + 1) 2 (vOr (su.1 2) (I (x + 1) 2))) (x + 1) 3 (vOr (su.1 3) (I (x + 1) 3))) x 5 (vOr su.2.1.1 (I x 5))) x 6 (vOr su.2.1.2.1 (I x 6))) x 7 (vOr su.2.1.2.2 (I x 7))) x 9 = 0 := by
    repeat (first | rw [up_nj (by decide)] | rw [up_no (by omega)])
    obtain ⟨d, d1, d2, d3⟩ := hL.2.2.2.2.2.2
    rw [d1, bits0 d d2 fun r hr => by
      have h9 := d3 r hr
      rw [hi r] at h9
      simpa using h9]
    rfl
  have e8 := lp_96 (xs := xs) (T := T) (cc := cc) (zz := zz) o ox hsx (J := up (up (up (up (up (up (up I (x + 1) 0 (vOr (su.1 0) (I (x + 1) 0))) (x + 1) 1 (vOr (su.1 1) (I (x + 1) 1))) (x + 1) 2 (vOr (su.1 2) (I (x + 1) 2))) (x + 1) 3 (vOr (su.1 3) (I (x + 1) 3))) x 5 (vOr su.2.1.1 (I x 5))) x 6 (vOr su.2.1.2.1 (I x 6))) x 7 (vOr su.2.1.2.2 (I x 7))) (su := su) (fun r hr => by
    repeat (rw [up_no (by omega)])
    exact hS.2.2.2.2.1 r hr) 8 0 rfl
  rw [show ((wbits su.2.2.1 0 : Nat) : Int) = 0 from rfl, up_id J9] at e8
  refine WP_mono e8 ?_
  rintro q m' ⟨rfl, rfl⟩
  have F : fr I (up (up (up (up (up (up (up (up I (x + 1) 0 (vOr (su.1 0) (I (x + 1) 0))) (x + 1) 1 (vOr (su.1 1) (I (x + 1) 1))) (x + 1) 2 (vOr (su.1 2) (I (x + 1) 2))) (x + 1) 3 (vOr (su.1 3) (I (x + 1) 3))) x 5 (vOr su.2.1.1 (I x 5))) x 6 (vOr su.2.1.2.1 (I x 6))) x 7 (vOr su.2.1.2.2 (I x 7))) x 9 ((wbits su.2.2.1 8 : Nat) : Int)) x (x + 4) := by
    repeat (refine fr.up ?_ (by omega) (by omega))
    exact fr.rf _ _ _
  obtain ⟨g1, g2, g3, g4, g5, g6, g7⟩ := hL
  refine ⟨none, _, rfl, rfl, rfl, ⟨?_, fun p hp => ⟨?_, ?_, ?_⟩, ?_, ?_, ?_, ?_, wbits su.2.2.1 8, up_eq, wbits_lt _ 8, fun r hr => bt_w 8 r hr⟩, F⟩
  · repeat (first | rw [up_nj (by decide)] | rw [up_no (by omega)])
    exact g1
  · have g := (g2 p hp).1
    have hp' : p < lPorts l := hp
    have hp4 : p < 4 := by omega
    repeat (rw [up_no (by omega)])
    show _ = ((oD (su.1 p) (lCap l p) : Nat) : Int)
    rw [← vOr_n, ← g]
    rcases four hp4 with rfl | rfl | rfl | rfl <;> simp [up]
  · repeat (rw [up_no (by omega)])
    exact (g2 p hp).2.1
  · have g := (g2 p hp).2.2
    have e3 : (up (up (up (up (up (up (up (up I (x + 1) 0 (vOr (su.1 0) (I (x + 1) 0))) (x + 1) 1 (vOr (su.1 1) (I (x + 1) 1))) (x + 1) 2 (vOr (su.1 2) (I (x + 1) 2))) (x + 1) 3 (vOr (su.1 3) (I (x + 1) 3))) x 5 (vOr su.2.1.1 (I x 5))) x 6 (vOr su.2.1.2.1 (I x 6))) x 7 (vOr su.2.1.2.2 (I x 7))) x 9 ((wbits su.2.2.1 8 : Nat) : Int)) (x + 3) p = I (x + 3) p := by repeat (rw [up_no (by omega)])
    have e4 : (up (up (up (up (up (up (up (up I (x + 1) 0 (vOr (su.1 0) (I (x + 1) 0))) (x + 1) 1 (vOr (su.1 1) (I (x + 1) 1))) (x + 1) 2 (vOr (su.1 2) (I (x + 1) 2))) (x + 1) 3 (vOr (su.1 3) (I (x + 1) 3))) x 5 (vOr su.2.1.1 (I x 5))) x 6 (vOr su.2.1.2.1 (I x 6))) x 7 (vOr su.2.1.2.2 (I x 7))) x 9 ((wbits su.2.2.1 8 : Nat) : Int)) (x + 4) p = I (x + 4) p := by repeat (rw [up_no (by omega)])
    rw [e3, e4]
    exact g
  · show _ = ((oD su.2.1.1 (lBuf l) : Nat) : Int)
    rw [← vOr_n, ← g3]
    repeat (first | rw [up_eq] | rw [up_nj (by decide)] | rw [up_no (by omega)])
  · show _ = ((oD su.2.1.2.1 (lWait l) : Nat) : Int)
    rw [← vOr_n, ← g4]
    repeat (first | rw [up_eq] | rw [up_nj (by decide)] | rw [up_no (by omega)])
  · show _ = ((oD su.2.1.2.2 (lAge l) : Nat) : Int)
    rw [← vOr_n, ← g5]
    repeat (first | rw [up_eq] | rw [up_nj (by decide)] | rw [up_no (by omega)])
  · obtain ⟨d, d1, d2⟩ := g6
    refine ⟨d, ?_, d2⟩
    repeat (first | rw [up_nj (by decide)] | rw [up_no (by omega)])
    exact d1

end CLM
