/-! the reference's reader: rules -/
theorem mSU.eqr {I J : Ix} {s tot : Nat} {P : Ps} {cs : Cd} (Z : mSU I s P cs tot) (e : ∀ w, 24 < w → w < 40 → J s w = I s w) (e2 : ∀ j, 13 ≤ j → j ≤ 21 → ∀ w, (18 ≤ j → j ≤ 20 → w ≠ lRules P.1) → J (s + j) w = I (s + j) w) : mSU J s P cs tot := by
  obtain ⟨⟨a1, a2, a3, a4, a5, a6⟩, z2, z3, z4, z5⟩ := Z
  have e' : ∀ j, 13 ≤ j → j ≤ 21 → ¬ (18 ≤ j ∧ j ≤ 20) → ∀ w, J (s + j) w = I (s + j) w := fun j h1 h2 h3 w => e2 j h1 h2 w (fun h4 h5 => absurd ⟨h4, h5⟩ h3)
  refine ⟨⟨(e 25 (by decide) (by decide)).trans a1, (e 34 (by decide) (by decide)).trans a2, (e 31 (by decide) (by decide)).trans a3, (e 32 (by decide) (by decide)).trans a4, (e 33 (by decide) (by decide)).trans a5, (e 39 (by decide) (by decide)).trans a6⟩, fun p hp => ?_, z3, fun r hr => ?_, fun j hj => ?_⟩
  · rw [e' 13 (by decide) (by decide) (by decide), e' 14 (by decide) (by decide) (by decide), e' 15 (by decide) (by decide) (by decide), e' 16 (by decide) (by decide) (by decide), e' 17 (by decide) (by decide) (by decide)]
    exact z2 p hp
  · obtain ⟨g1, g2, o, g3, g4, g5, g6⟩ := z4 r hr
    refine ⟨(e2 18 (by decide) (by decide) r (fun _ _ => by omega)).trans g1, g2, o, (e2 19 (by decide) (by decide) r (fun _ _ => by omega)).trans g3, (e2 20 (by decide) (by decide) r (fun _ _ => by omega)).trans g4, g5, fun j hj => ?_⟩
    rw [e' 21 (by decide) (by decide) (by decide), e' 21 (by decide) (by decide) (by decide), e' 21 (by decide) (by decide) (by decide)]
    exact g6 j hj
  · rw [e' 21 (by decide) (by decide) (by decide), e' 21 (by decide) (by decide) (by decide), e' 21 (by decide) (by decide) (by decide)]
    exact z5 j hj
theorem mSU.rule {I J : Ix} {s tot : Nat} {P : Ps} {cs : Cd} {b : Bool} (Z : mSU I s P cs tot) (h8 : lRules P.1 < 8) (hw : wfP cs 0) (e : ∀ w, 24 < w → w < 40 → w ≠ 34 → J s w = I s w) (v34 : J s 34 = ((lRules P.1 + 1 : Nat) : Int)) (e2 : ∀ j, 13 ≤ j → j ≤ 21 → ∀ w, (18 ≤ j → j ≤ 20 → w ≠ lRules P.1) → J (s + j) w = I (s + j) w) (v18 : J (s + 18) (lRules P.1) = b2i b) (v19 : J (s + 19) (lRules P.1) = (tot : Int)) (v20 : J (s + 20) (lRules P.1) = ((tot + cs.length : Nat) : Int)) : mSU J s (psRule P b cs) [] (tot + cs.length) := by
  obtain ⟨⟨a1, a2, a3, a4, a5, a6⟩, z2, z3, z4, z5⟩ := Z
  have e' : ∀ j, 13 ≤ j → j ≤ 21 → ¬ (18 ≤ j ∧ j ≤ 20) → ∀ w, J (s + j) w = I (s + j) w := fun j h1 h2 h3 w => e2 j h1 h2 w (fun h4 h5 => absurd ⟨h4, h5⟩ h3)
  have hR : lRules (psRule P b cs).1 = lRules P.1 + 1 := rfl
  have hD : ∀ r, lDrop (psRule P b cs).1 r = if r = lRules P.1 then b else lDrop P.1 r := fun r => rfl
  have hc : ∀ r, (psRule P b cs).2.2 r = if r = lRules P.1 then cs else P.2.2 r := fun r => rfl
  refine ⟨⟨(e 25 (by decide) (by decide) (by decide)).trans a1, v34, (e 31 (by decide) (by decide) (by decide)).trans a3, (e 32 (by decide) (by decide) (by decide)).trans a4, (e 33 (by decide) (by decide) (by decide)).trans a5, (e 39 (by decide) (by decide) (by decide)).trans a6⟩, fun p hp => ?_, okPs_rule z3 h8, fun r hr => ?_, fun j hj => absurd hj (Nat.not_lt_zero j)⟩
  · rw [e' 13 (by decide) (by decide) (by decide), e' 14 (by decide) (by decide) (by decide), e' 15 (by decide) (by decide) (by decide), e' 16 (by decide) (by decide) (by decide), e' 17 (by decide) (by decide) (by decide)]
    exact z2 p hp
  · rw [hR] at hr
    rw [hD, hc]
    by_cases hrr : r = lRules P.1
    · rw [if_pos hrr, if_pos hrr, hrr]
      refine ⟨v18, hw, tot, v19, v20, Nat.le_refl _, fun j hj => ?_⟩
      rw [e' 21 (by decide) (by decide) (by decide), e' 21 (by decide) (by decide) (by decide), e' 21 (by decide) (by decide) (by decide)]
      exact z5 j hj
    · rw [if_neg hrr, if_neg hrr]
      obtain ⟨g1, g2, o, g3, g4, g5, g6⟩ := z4 r (by omega)
      refine ⟨(e2 18 (by decide) (by decide) r (fun _ _ => hrr)).trans g1, g2, o, (e2 19 (by decide) (by decide) r (fun _ _ => hrr)).trans g3, (e2 20 (by decide) (by decide) r (fun _ _ => hrr)).trans g4, by omega, fun j hj => ?_⟩
      rw [e' 21 (by decide) (by decide) (by decide), e' 21 (by decide) (by decide) (by decide), e' 21 (by decide) (by decide) (by decide)]
      exact g6 j hj
theorem mSU.buf {I : Ix} {s tot v : Nat} {P : Ps} (Z : mSU I s P [] tot) (hv : v ≤ 400) : mSU (up I s 31 (v : Int)) s (psBuf P v) [] tot := by
  have Z2 : mSU (up I s 31 (v : Int)) s P [] tot ∨ True := Or.inr trivial
  obtain ⟨⟨a1, a2, a3, a4, a5, a6⟩, z2, z3, z4, z5⟩ := Z
  have e : ∀ j, 0 < j → ∀ w, up I s 31 (v : Int) (s + j) w = I (s + j) w := fun j hj w => up_no (by omega)
  refine ⟨⟨(up_nj (by decide)).trans a1, (up_nj (by decide)).trans a2, up_eq, (up_nj (by decide)).trans a4, (up_nj (by decide)).trans a5, (up_nj (by decide)).trans a6⟩, fun p hp => ?_, okPs_buf z3 hv, fun r hr => ?_, fun j hj => absurd hj (Nat.not_lt_zero j)⟩
  · rw [e 13 (by decide), e 14 (by decide), e 15 (by decide), e 16 (by decide), e 17 (by decide)]
    exact z2 p hp
  · unfold mCs
    rw [e 18 (by decide), e 19 (by decide), e 20 (by decide)]
    simp only [e 21 (by decide)]
    exact z4 r hr
theorem mSU.age {I : Ix} {s tot v : Nat} {P : Ps} (Z : mSU I s P [] tot) (hv : v ≤ 999) : mSU (up I s 32 (v : Int)) s (psAge P v) [] tot := by
  obtain ⟨⟨a1, a2, a3, a4, a5, a6⟩, z2, z3, z4, z5⟩ := Z
  have e : ∀ j, 0 < j → ∀ w, up I s 32 (v : Int) (s + j) w = I (s + j) w := fun j hj w => up_no (by omega)
  refine ⟨⟨(up_nj (by decide)).trans a1, (up_nj (by decide)).trans a2, (up_nj (by decide)).trans a3, up_eq, (up_nj (by decide)).trans a5, (up_nj (by decide)).trans a6⟩, fun p hp => ?_, okPs_age z3 hv, fun r hr => ?_, fun j hj => absurd hj (Nat.not_lt_zero j)⟩
  · rw [e 13 (by decide), e 14 (by decide), e 15 (by decide), e 16 (by decide), e 17 (by decide)]
    exact z2 p hp
  · unfold mCs
    rw [e 18 (by decide), e 19 (by decide), e 20 (by decide)]
    simp only [e 21 (by decide)]
    exact z4 r hr
theorem mSU.wait {I : Ix} {s tot v : Nat} {P : Ps} (Z : mSU I s P [] tot) (hv : v ≤ 99) : mSU (up I s 33 (v : Int)) s (psWait P v) [] tot := by
  obtain ⟨⟨a1, a2, a3, a4, a5, a6⟩, z2, z3, z4, z5⟩ := Z
  have e : ∀ j, 0 < j → ∀ w, up I s 33 (v : Int) (s + j) w = I (s + j) w := fun j hj w => up_no (by omega)
  refine ⟨⟨(up_nj (by decide)).trans a1, (up_nj (by decide)).trans a2, (up_nj (by decide)).trans a3, (up_nj (by decide)).trans a4, up_eq, (up_nj (by decide)).trans a6⟩, fun p hp => ?_, okPs_wait z3 hv, fun r hr => ?_, fun j hj => absurd hj (Nat.not_lt_zero j)⟩
  · rw [e 13 (by decide), e 14 (by decide), e 15 (by decide), e 16 (by decide), e 17 (by decide)]
    exact z2 p hp
  · unfold mCs
    rw [e 18 (by decide), e 19 (by decide), e 20 (by decide)]
    simp only [e 21 (by decide)]
    exact z4 r hr
/-- what stands behind the word "pass" or "drop" -/
def rulM (t : Nat → Int) (n : Nat) (P : Ps) (b : Bool) (p : Nat) : PR (Ps × Nat) := if isWL t n (strB 4) p then (match condR t n (atomR t n P 5) (nxt t n p) with
    | .inl e => .inl e
    | .inr (p2, cs) => .inr (psRule P b cs, p2)) else .inl (1, p)
theorem rulL_M {t : Nat → Int} {n : Nat} {P : Ps} {b : Bool} {p : Nat} (h8 : ¬ 8 ≤ lRules P.1) : rulL' t n P b p = rulM t n P b (nxt t n p) := if_neg h8
section RGE
variable {xs : List Int} {S : List (Nat × Nat)} {T : Nat → Nat → Nat} {cc zz s : Nat} {I I' : Ix} {t : Nat → Int} {n : Nat}

theorem mx_195 : mxl 195 = 2 := by decide +kernel
theorem mt_195 : mtc 195 = 10 := by decide +kernel
theorem rk_195 (as : List AV) : rkA 195 as = 8 := rfl
theorem l_195_0 : look 195 0 = some (.aload_n 0, 1, 0, 0, 0, 0) := by decide +kernel
theorem l_195_1 : look 195 1 = some (.ldc_w 279, 3, 34, 0, 0, 1824) := by decide +kernel
theorem l_195_4 : look 195 4 = some (.invokevirtual 252, 3, 179, 2, 0, 1786) := by decide +kernel
theorem l_195_7 : look 195 7 = some (.ifCond .ne 13, 3, 0, 0, 0, 0) := by decide +kernel
theorem l_195_10 : look 195 10 = some (.aload_n 0, 1, 0, 0, 0, 0) := by decide +kernel
theorem l_195_11 : look 195 11 = some (.iconst 1, 1, 0, 0, 0, 0) := by decide +kernel
theorem l_195_12 : look 195 12 = some (.aload_n 0, 1, 0, 0, 0, 0) := by decide +kernel
theorem l_195_13 : look 195 13 = some (.getfield 161, 3, 10, 22, 0, 1523) := by decide +kernel
theorem l_195_16 : look 195 16 = some (.invokevirtual 198, 3, 176, 3, 0, 1782) := by decide +kernel
theorem l_195_19 : look 195 19 = some (.return_, 1, 0, 0, 0, 0) := by decide +kernel
theorem l_195_20 : look 195 20 = some (.aload_n 0, 1, 0, 0, 0, 0) := by decide +kernel
theorem l_195_21 : look 195 21 = some (.getfield 77, 3, 10, 35, 2, 1536) := by decide +kernel
theorem l_195_24 : look 195 24 = some (.aload_n 0, 1, 0, 0, 0, 0) := by decide +kernel
theorem l_195_25 : look 195 25 = some (.getfield 281, 3, 10, 34, 0, 1535) := by decide +kernel
theorem l_195_28 : look 195 28 = some (.iload_n 1, 1, 0, 0, 0, 0) := by decide +kernel
theorem l_195_29 : look 195 29 = some (.bastore, 1, 0, 0, 0, 0) := by decide +kernel
theorem l_195_30 : look 195 30 = some (.aload_n 0, 1, 0, 0, 0, 0) := by decide +kernel
theorem l_195_31 : look 195 31 = some (.getfield 80, 3, 10, 36, 2, 1537) := by decide +kernel
theorem l_195_34 : look 195 34 = some (.aload_n 0, 1, 0, 0, 0, 0) := by decide +kernel
theorem l_195_35 : look 195 35 = some (.getfield 281, 3, 10, 34, 0, 1535) := by decide +kernel
theorem l_195_38 : look 195 38 = some (.aload_n 0, 1, 0, 0, 0, 0) := by decide +kernel
theorem l_195_39 : look 195 39 = some (.getfield 224, 3, 10, 39, 0, 1540) := by decide +kernel
theorem l_195_42 : look 195 42 = some (.iastore, 1, 0, 0, 0, 0) := by decide +kernel
theorem l_195_43 : look 195 43 = some (.aload_n 0, 1, 0, 0, 0, 0) := by decide +kernel
theorem l_195_44 : look 195 44 = some (.invokevirtual 284, 3, 194, 1, 0, 1825) := by decide +kernel
theorem l_195_47 : look 195 47 = some (.aload_n 0, 1, 0, 0, 0, 0) := by decide +kernel
theorem l_195_48 : look 195 48 = some (.getfield 83, 3, 10, 37, 2, 1538) := by decide +kernel
theorem l_195_51 : look 195 51 = some (.aload_n 0, 1, 0, 0, 0, 0) := by decide +kernel
theorem l_195_52 : look 195 52 = some (.getfield 281, 3, 10, 34, 0, 1535) := by decide +kernel
theorem l_195_55 : look 195 55 = some (.aload_n 0, 1, 0, 0, 0, 0) := by decide +kernel
theorem l_195_56 : look 195 56 = some (.getfield 224, 3, 10, 39, 0, 1540) := by decide +kernel
theorem l_195_59 : look 195 59 = some (.iastore, 1, 0, 0, 0, 0) := by decide +kernel
theorem l_195_60 : look 195 60 = some (.aload_n 0, 1, 0, 0, 0, 0) := by decide +kernel
theorem l_195_61 : look 195 61 = some (.dup, 1, 0, 0, 0, 0) := by decide +kernel
theorem l_195_62 : look 195 62 = some (.getfield 281, 3, 10, 34, 0, 1535) := by decide +kernel
theorem l_195_65 : look 195 65 = some (.aload_n 0, 1, 0, 0, 0, 0) := by decide +kernel
theorem l_195_66 : look 195 66 = some (.invokevirtual 182, 3, 175, 1, 0, 1750) := by decide +kernel
theorem l_195_69 : look 195 69 = some (.ifCond .eq 7, 3, 0, 0, 0, 0) := by decide +kernel
theorem l_195_72 : look 195 72 = some (.iconst 0, 1, 0, 0, 0, 0) := by decide +kernel
theorem l_195_73 : look 195 73 = some (.goto 4, 3, 0, 0, 0, 0) := by decide +kernel
theorem l_195_76 : look 195 76 = some (.iconst 1, 1, 0, 0, 0, 0) := by decide +kernel
theorem l_195_77 : look 195 77 = some (.iadd, 1, 0, 0, 0, 0) := by decide +kernel
theorem l_195_78 : look 195 78 = some (.putfield 281, 3, 10, 34, 0, 1535) := by decide +kernel
theorem l_195_81 : look 195 81 = some (.return_, 1, 0, 0, 0, 0) := by decide +kernel

theorem s_195 (hm : oModel S T s) {P : Ps} {tot p : Nat} {b : Bool} (H : mTx I s t n) (A : mAt I s t n p) (h24 : I s 24 = 0) (Y : mSU I s P [] tot) (h8 : ¬ 8 ≤ lRules P.1) (hb : 2 * tot + 2 ≤ p) : CL xs 195 [vr s, vi (b2i b)] (S, I, T, cc, zz) (RP S T cc zz (fun v I' => v = none ∧ fP I I' s ∧ mRO I s I' (rulM t n P b p) (fun a => mAt I' s t n a.2 ∧ ∃ tot', mSU I' s a.1 [] tot' ∧ 2 * tot' ≤ a.2))) := by
  have h600 := H.2.1
  have hpn := A.le
  have h4 := Y.2.2.1.1.1
  cases hw4 : isWL t n (strB 4) p with
  | false =>
    refine CL_start (r := 8) (ls := [vr s, vi (b2i b)]) (rk_195 _) rfl ?_
    refine w_aln l_195_0 rfl ?_
    refine w_ldcw l_195_1 (by decide) ?_
    refine p_iv [vs (2 * 34 + 4)] [] l_195_4 rfl rfl (Nat.le_of_ble_eq_true rfl) (by rw [mx_179]; exact Nat.le_of_ble_eq_true rfl) (by rw [mt_179]; exact oModel_sh hm) (by rw [mt_179]; decide) (by rw [rk_179]; decide) (s_179F hm H A h24 (q := 34) (by decide) (by rw [strB_same.2.2.2.2.2.2.2.2.2.1]; exact hw4)) (fun v I1 hv => ?_)
    obtain ⟨rfl, g22, f1⟩ := hv
    refine w_zne 20 l_195_7 (by decide) (fun hx => absurd hx (by decide)) (fun _ => ?_)
    refine w_aln l_195_10 rfl ?_
    refine w_ic l_195_11 (by decide) ?_
    refine w_aln l_195_12 rfl ?_
    refine w_gi ((p : Nat) : Int) l_195_13 (oModel_sh hm) g22 ?_
    refine q_iv [vi 1, vi ((p : Nat) : Int)] [] l_195_16 rfl rfl (Nat.le_of_ble_eq_true rfl) (by rw [mx_176]; exact Nat.le_of_ble_eq_true rfl) (by rw [mt_176]; exact oModel_sh hm) (by rw [mt_176]; decide) (by rw [rk_176]; decide) (s_176 hm ((f1 s 24 (fun _ => by decide)).trans h24) (k := 1)) ?_
    refine w_vr l_195_19 ?_
    have hR : rulM t n P b p = .inl (1, p) := if_neg (by rw [hw4]; decide)
    exact ⟨_, _, rfl, rfl, rfl, (f1.T.P.up (Or.inl ⟨rfl, by decide, by decide⟩)).up (Or.inl ⟨rfl, by decide, by decide⟩), by rw [hR]; exact ⟨Nat.le_refl 1, (up_nj (by decide)).trans up_eq, up_eq⟩⟩
  | true =>
    have hnx := isWL_nx (by decide) hw4
    have hnl := nxt_le (t := t) hpn
    have hph : phi tot (nxt t n p) [] [] := ⟨by show 2 * (tot + 0 + 0) + 0 + 4 ≤ _; omega, by decide⟩
    cases hc : condR t n (atomR t n P 5) (nxt t n p) with
    | inl e9 =>
      refine CL_start (r := 8) (ls := [vr s, vi (b2i b)]) (rk_195 _) rfl ?_
      refine w_aln l_195_0 rfl ?_
      refine w_ldcw l_195_1 (by decide) ?_
      refine p_iv [vs (2 * 34 + 4)] [] l_195_4 rfl rfl (Nat.le_of_ble_eq_true rfl) (by rw [mx_179]; exact Nat.le_of_ble_eq_true rfl) (by rw [mt_179]; exact oModel_sh hm) (by rw [mt_179]; decide) (by rw [rk_179]; decide) (s_179T hm H A h24 (q := 34) (by decide) (by rw [strB_same.2.2.2.2.2.2.2.2.2.1]; exact hw4)) (fun v I1 hv => ?_)
      obtain ⟨rfl, A1, f1⟩ := hv
      have Y1 := Y.fT f1.T
      refine w_zne 20 l_195_7 (by decide) (fun _ => ?_) (fun hx => absurd hx (by decide))
      refine w_aln l_195_20 rfl ?_
      refine w_gr l_195_21 (oModel_sh hm) (oModel_r35 hm) ?_
      refine w_aln l_195_24 rfl ?_
      refine w_gi (((lRules P.1) : Nat) : Int) l_195_25 (oModel_sh hm) Y1.1.2.1 ?_
      refine w_iln l_195_28 rfl ?_
      refine w_zS (lRules P.1) (b2i b) l_195_29 (oModel_s35 hm) rfl (by omega) (b2i_2 _) ?_
      refine w_aln l_195_30 rfl ?_
      refine w_gr l_195_31 (oModel_sh hm) (oModel_r36 hm) ?_
      refine w_aln l_195_34 rfl ?_
      refine w_gi (((lRules P.1) : Nat) : Int) l_195_35 (oModel_sh hm) ((up_no (by omega)).trans (Y1.1.2.1)) ?_
      refine w_aln l_195_38 rfl ?_
      refine w_gi ((tot : Nat) : Int) l_195_39 (oModel_sh hm) ((up_no (by omega)).trans (Y1.1.2.2.2.2.2)) ?_
      refine w_iS (lRules P.1) l_195_42 (oModel_s36 hm) rfl (by omega) ?_
      refine w_aln l_195_43 rfl ?_
      have F2 : fP I1 (up (up I1 (s + 18) (lRules P.1) (b2i b)) (s + 19) (lRules P.1) ((tot : Nat) : Int)) s := ((fP.rf I1 s).up (Or.inr ⟨by omega, by omega⟩)).up (Or.inr ⟨by omega, by omega⟩)
      have HM2 := (H.fT f1.T).fP F2
      have YM2 : mSU (up (up I1 (s + 18) (lRules P.1) (b2i b)) (s + 19) (lRules P.1) ((tot : Nat) : Int)) s P [] tot := Y1.eqr (fun w h1 h2 => by repeat (rw [up_out (by omega)])) (fun j h1 h2 w h3 => by repeat (rw [up_out (by omega)]))
      have KM2 : (up (up I1 (s + 18) (lRules P.1) (b2i b)) (s + 19) (lRules P.1) ((tot : Nat) : Int)) s 24 = 0 := by
        repeat (rw [up_out (by omega)])
        exact (f1 s 24 (fun _ => by decide)).trans h24
      have AM2 : mAt (up (up I1 (s + 18) (lRules P.1) (b2i b)) (s + 19) (lRules P.1) ((tot : Nat) : Int)) s t n (nxt t n p) := by
        obtain ⟨j9, a9, b9, c9⟩ := A1
        refine ⟨j9, ?_, b9, c9⟩
        repeat (rw [up_out (by omega)])
        exact a9
      refine p_iv [] [] l_195_44 rfl rfl (Nat.le_of_ble_eq_true rfl) (by rw [mx_194]; exact Nat.le_of_ble_eq_true rfl) (by rw [mt_194]; exact oModel_sh hm) (by rw [mt_194]; decide) (by rw [rk_194]; decide) (by have g9 := s_194 (xs := xs) (cc := cc) (zz := zz) (t := t) hm HM2 AM2 KM2 YM2 hph; rw [hc] at g9; exact g9) (fun v I3 hv => ?_)
      obtain ⟨rfl, f3, he, e24, e23⟩ := hv
      have g3 : I3 s 34 = (up (up I1 (s + 18) (lRules P.1) (b2i b)) (s + 19) (lRules P.1) ((tot : Nat) : Int)) s 34 := f3 s 34 (fun _ => by decide) (by omega)
      refine w_aln l_195_47 rfl ?_
      refine w_gr l_195_48 (oModel_sh hm) (oModel_r37 hm) ?_
      refine w_aln l_195_51 rfl ?_
      refine w_gi (((lRules P.1) : Nat) : Int) l_195_52 (oModel_sh hm) (g3.trans YM2.1.2.1) ?_
      refine w_aln l_195_55 rfl ?_
      refine w_gi (I3 s 39) l_195_56 (oModel_sh hm) rfl ?_
      refine w_iS (lRules P.1) l_195_59 (oModel_s37 hm) rfl (by omega) ?_
      refine w_aln l_195_60 rfl ?_
      refine w_dup l_195_61 rfl ?_
      refine w_gi (((lRules P.1) : Nat) : Int) l_195_62 (oModel_sh hm) ((up_no (by omega)).trans ((g3.trans YM2.1.2.1))) ?_
      refine w_aln l_195_65 rfl ?_
      refine q_iv [] [vi (((lRules P.1) : Nat) : Int), vr s] l_195_66 rfl rfl (Nat.le_of_ble_eq_true rfl) (by rw [mx_175]; exact Nat.le_of_ble_eq_true rfl) (by rw [mt_175]; exact oModel_sh hm) (by rw [mt_175]; decide) (by rw [rk_175]; decide) (s_175_1 (k := ((e9.1 : Nat) : Int)) hm ((up_no (by omega)).trans e24) (by omega)) ?_
      refine w_zeq 76 l_195_69 (by decide) (fun hx => absurd hx (by decide)) (fun _ => ?_)
      refine w_ic l_195_72 (by decide) ?_
      refine w_go 77 l_195_73 (by decide) ?_
      refine w_add (((lRules P.1) : Nat) : Int) l_195_77 (by unfold wr; omega) ?_
      refine w_pi l_195_78 (oModel_sh hm) ?_
      refine w_vr l_195_81 ?_
      have hR : rulM t n P b p = .inl e9 := by
        unfold rulM
        rw [if_pos hw4, hc]
      exact ⟨_, _, rfl, rfl, rfl, ((((f1.T.P.tr F2).tr f3.P).up (Or.inr ⟨by omega, by omega⟩)).up (Or.inl ⟨rfl, by decide, by decide⟩)), by rw [hR]; exact ⟨he, (up_nj (by decide)).trans ((up_no (by omega)).trans e24), (up_nj (by decide)).trans ((up_no (by omega)).trans e23)⟩⟩
    | inr a9 =>
      obtain ⟨p2, cs⟩ := a9
      have hok := cond_ok (atom_ok h4 5) _ hnl _ hc
      have hok1 : nxt t n p + 2 * cs.length ≤ p2 := hok.1
      have hok2 : p2 ≤ n := hok.2.1
      have hwf : wfP cs 0 := by
        have h1 := hok.2.2.1 0 (by decide) [] (show (0 + 1 : Nat) = 1 from rfl)
        rw [List.append_nil] at h1
        exact h1
      refine CL_start (r := 8) (ls := [vr s, vi (b2i b)]) (rk_195 _) rfl ?_
      refine w_aln l_195_0 rfl ?_
      refine w_ldcw l_195_1 (by decide) ?_
      refine p_iv [vs (2 * 34 + 4)] [] l_195_4 rfl rfl (Nat.le_of_ble_eq_true rfl) (by rw [mx_179]; exact Nat.le_of_ble_eq_true rfl) (by rw [mt_179]; exact oModel_sh hm) (by rw [mt_179]; decide) (by rw [rk_179]; decide) (s_179T hm H A h24 (q := 34) (by decide) (by rw [strB_same.2.2.2.2.2.2.2.2.2.1]; exact hw4)) (fun v I1 hv => ?_)
      obtain ⟨rfl, A1, f1⟩ := hv
      have Y1 := Y.fT f1.T
      refine w_zne 20 l_195_7 (by decide) (fun _ => ?_) (fun hx => absurd hx (by decide))
      refine w_aln l_195_20 rfl ?_
      refine w_gr l_195_21 (oModel_sh hm) (oModel_r35 hm) ?_
      refine w_aln l_195_24 rfl ?_
      refine w_gi (((lRules P.1) : Nat) : Int) l_195_25 (oModel_sh hm) Y1.1.2.1 ?_
      refine w_iln l_195_28 rfl ?_
      refine w_zS (lRules P.1) (b2i b) l_195_29 (oModel_s35 hm) rfl (by omega) (b2i_2 _) ?_
      refine w_aln l_195_30 rfl ?_
      refine w_gr l_195_31 (oModel_sh hm) (oModel_r36 hm) ?_
      refine w_aln l_195_34 rfl ?_
      refine w_gi (((lRules P.1) : Nat) : Int) l_195_35 (oModel_sh hm) ((up_no (by omega)).trans (Y1.1.2.1)) ?_
      refine w_aln l_195_38 rfl ?_
      refine w_gi ((tot : Nat) : Int) l_195_39 (oModel_sh hm) ((up_no (by omega)).trans (Y1.1.2.2.2.2.2)) ?_
      refine w_iS (lRules P.1) l_195_42 (oModel_s36 hm) rfl (by omega) ?_
      refine w_aln l_195_43 rfl ?_
      have F2 : fP I1 (up (up I1 (s + 18) (lRules P.1) (b2i b)) (s + 19) (lRules P.1) ((tot : Nat) : Int)) s := ((fP.rf I1 s).up (Or.inr ⟨by omega, by omega⟩)).up (Or.inr ⟨by omega, by omega⟩)
      have HM2 := (H.fT f1.T).fP F2
      have YM2 : mSU (up (up I1 (s + 18) (lRules P.1) (b2i b)) (s + 19) (lRules P.1) ((tot : Nat) : Int)) s P [] tot := Y1.eqr (fun w h1 h2 => by repeat (rw [up_out (by omega)])) (fun j h1 h2 w h3 => by repeat (rw [up_out (by omega)]))
      have KM2 : (up (up I1 (s + 18) (lRules P.1) (b2i b)) (s + 19) (lRules P.1) ((tot : Nat) : Int)) s 24 = 0 := by
        repeat (rw [up_out (by omega)])
        exact (f1 s 24 (fun _ => by decide)).trans h24
      have AM2 : mAt (up (up I1 (s + 18) (lRules P.1) (b2i b)) (s + 19) (lRules P.1) ((tot : Nat) : Int)) s t n (nxt t n p) := by
        obtain ⟨j9, a9, b9, c9⟩ := A1
        refine ⟨j9, ?_, b9, c9⟩
        repeat (rw [up_out (by omega)])
        exact a9
      refine p_iv [] [] l_195_44 rfl rfl (Nat.le_of_ble_eq_true rfl) (by rw [mx_194]; exact Nat.le_of_ble_eq_true rfl) (by rw [mt_194]; exact oModel_sh hm) (by rw [mt_194]; decide) (by rw [rk_194]; decide) (by have g9 := s_194 (xs := xs) (cc := cc) (zz := zz) (t := t) hm HM2 AM2 KM2 YM2 hph; rw [hc] at g9; exact g9) (fun v I3 hv => ?_)
      obtain ⟨rfl, f3, ⟨k243, k233⟩, A3, Y3⟩ := hv
      have g3 : I3 s 34 = (up (up I1 (s + 18) (lRules P.1) (b2i b)) (s + 19) (lRules P.1) ((tot : Nat) : Int)) s 34 := f3 s 34 (fun _ => by decide) (by omega)
      have Y3 : mSU I3 s P cs tot := Y3
      have A3 : mAt I3 s t n p2 := A3
      refine w_aln l_195_47 rfl ?_
      refine w_gr l_195_48 (oModel_sh hm) (oModel_r37 hm) ?_
      refine w_aln l_195_51 rfl ?_
      refine w_gi (((lRules P.1) : Nat) : Int) l_195_52 (oModel_sh hm) (g3.trans YM2.1.2.1) ?_
      refine w_aln l_195_55 rfl ?_
      refine w_gi (((tot + cs.length) : Nat) : Int) l_195_56 (oModel_sh hm) Y3.1.2.2.2.2.2 ?_
      refine w_iS (lRules P.1) l_195_59 (oModel_s37 hm) rfl (by omega) ?_
      refine w_aln l_195_60 rfl ?_
      refine w_dup l_195_61 rfl ?_
      refine w_gi (((lRules P.1) : Nat) : Int) l_195_62 (oModel_sh hm) ((up_no (by omega)).trans ((g3.trans YM2.1.2.1))) ?_
      refine w_aln l_195_65 rfl ?_
      refine q_iv [] [vi (((lRules P.1) : Nat) : Int), vr s] l_195_66 rfl rfl (Nat.le_of_ble_eq_true rfl) (by rw [mx_175]; exact Nat.le_of_ble_eq_true rfl) (by rw [mt_175]; exact oModel_sh hm) (by rw [mt_175]; decide) (by rw [rk_175]; decide) (s_175_0 hm ((up_no (by omega)).trans k243)) ?_
      refine w_zeq 76 l_195_69 (by decide) (fun _ => ?_) (fun hx => absurd hx (by decide))
      refine w_ic l_195_76 (by decide) ?_
      refine w_add (((lRules P.1 + 1) : Nat) : Int) l_195_77 (by unfold wr; omega) ?_
      refine w_pi l_195_78 (oModel_sh hm) ?_
      refine w_vr l_195_81 ?_
      have hR : rulM t n P b p = .inr (psRule P b cs, p2) := by
        unfold rulM
        rw [if_pos hw4, hc]
      refine ⟨_, _, rfl, rfl, rfl, ((((f1.T.P.tr F2).tr f3.P).up (Or.inr ⟨by omega, by omega⟩)).up (Or.inl ⟨rfl, by decide, by decide⟩)), ?_⟩
      rw [hR]
      refine ⟨⟨?_, ?_⟩, ?_, tot + cs.length, ?_, by show 2 * (tot + cs.length) ≤ p2; omega⟩
      · repeat (rw [up_out (by omega)])
        exact k243
      · repeat (rw [up_out (by omega)])
        refine k233.trans ?_
        repeat (rw [up_out (by omega)])
        exact f1 s 23 (fun _ => by decide)
      · obtain ⟨j9, a9, b9, c9⟩ := A3
        refine ⟨j9, ?_, b9, c9⟩
        repeat (rw [up_out (by omega)])
        exact a9
      · refine Y3.rule (by omega) hwf (fun w h1 h2 h3 => ?_) up_eq (fun j h1 h2 w h3 => ?_) ?_ ?_ ?_
        · repeat (rw [up_out (by omega)])
        · repeat (rw [up_out (by omega)])
        · repeat (rw [up_out (by omega)])
          rw [f3 _ _ (fun e => by omega) (by omega)]
          repeat (first | exact up_eq | rw [up_out (by omega)])
        · repeat (rw [up_out (by omega)])
          rw [f3 _ _ (fun e => by omega) (by omega)]
          repeat (first | exact up_eq | rw [up_out (by omega)])
        · repeat (first | exact up_eq | rw [up_out (by omega)])

end RGE
