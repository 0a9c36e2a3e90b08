/-! the reference: plain, supposed, now -/
def noOut : Nat → Bool := fun _ => false
/-- the reference's settings as the text tells them -/
def nB (I : Ix) (s : Nat) (l : Li) : Prop := I s 1 = (lPorts l : Int) ∧ (∀ p, p < lPorts l → I (s + 2) p = (lCap l p : Int) ∧ I (s + 3) p = (lSpeed l p : Int) ∧ (match lPol l p with
  | none => I (s + 4) p = 0 ∧ I (s + 5) p = -1
  | some (r, b) => I (s + 4) p = (r : Int) ∧ I (s + 5) p = (b : Int))) ∧ I s 7 = (lBuf l : Int) ∧ I s 9 = (lWait l : Int) ∧ I s 8 = (lAge l : Int) ∧ I s 10 = (lRules l : Int) ∧ (∀ r, r < lRules l → I (s + 6) r = b2i (lDrop l r)) ∧ ∀ r, lIdle l r = false
/-- all but what a run and its settings change -/
def mfb (I J : Ix) (s : Nat) : Prop := ∀ y z, (y = s → z < 50 ∨ 54 = z ∨ (56 ≤ z ∧ z ≤ 65) ∨ 69 < z) → (s < y → y < s + 25 ∨ s + 37 < y) → J y z = I y z
theorem mfb.rf (I : Ix) (s : Nat) : mfb I I s := fun _ _ _ _ => rfl
theorem mfb.tr {I J K : Ix} {s : Nat} (h1 : mfb I J s) (h2 : mfb J K s) : mfb I K s := fun y z a b => (h2 y z a b).trans (h1 y z a b)
theorem mfz.b {I J : Ix} {s : Nat} (f : mfz I J s) : mfb I J s := fun y z a b => f y z (fun e => by have := a e; omega) (fun e => by have := b e; omega)
abbrev Su : Type := (Nat → Option Nat) × (Option Nat × Option Nat × Option Nat) × (Nat → Bool) × (Nat → Bool)
def oI : Option Nat → Int
  | some x => (x : Int)
  | none => -1
def oD (o : Option Nat) (x : Nat) : Nat := match o with
  | some y => y
  | none => x
/-- the settings with what is supposed -/
def supL (l : Li) (su : Su) : Li := (l.1, (fun p => (oD (su.1 p) (lCap l p), lSpeed l p)), l.2.2.1, (oD su.2.1.1 (lBuf l), oD su.2.1.2.1 (lWait l), oD su.2.1.2.2 (lAge l)), l.2.2.2.2.1, su.2.2.1)
def okSu (su : Su) : Prop := (∀ p v, su.1 p = some v → v ≤ 99) ∧ (∀ v, su.2.1.1 = some v → v ≤ 400) ∧ (∀ v, su.2.1.2.1 = some v → v ≤ 99) ∧ ∀ v, su.2.1.2.2 = some v → v ≤ 999
theorem oD_le {o : Option Nat} {x n : Nat} (h : ∀ v, o = some v → v ≤ n) (hx : x ≤ n) : oD o x ≤ n := by
  cases o with
  | none => exact hx
  | some v => exact h v rfl
theorem supL_ok {l : Li} {su : Su} (okl : okLi l) (hs : okSu su) : okLi (supL l su) := by
  obtain ⟨h1, h2, h3, h4, h5, h6, h7⟩ := okl
  exact ⟨h1, h2, fun p hp => ⟨oD_le (hs.1 p) (h3 p hp).1, (h3 p hp).2⟩, h4, oD_le hs.2.1 h5, oD_le hs.2.2.1 h6, oD_le hs.2.2.2 h7⟩
def nSu (I : Ix) (s : Nat) (su : Su) : Prop := (∀ p, p < 4 → I (s + 23) p = oI (su.1 p)) ∧ I s 44 = oI su.2.1.1 ∧ I s 45 = oI su.2.1.2.1 ∧ I s 46 = oI su.2.1.2.2 ∧ (∃ d : Nat, I s 47 = (d : Int) ∧ d < 256 ∧ ∀ r, r < 8 → (bt d r ≠ 0 ↔ su.2.2.1 r = true)) ∧ ∀ e, e < 120 → I (s + 24) e = b2i (su.2.2.2 e)
/-- what the reference keeps between calls -/
def MP (I : Ix) (s : Nat) (h : Hi) (l : Li) (a : Nat → Nat) (ne np : Nat) (cd : Nat → Cd) : Prop := mH I s h a ne np ∧ nB I s l ∧ nC I s h l a np cd ∧ okHi h ∧ okLi l ∧ okEv h l ne np ∧ (∀ k, k < np → I (s + 10) (7 * a k + 1) = ((hPort h (a k) : Nat) : Int)) ∧ I s 15 = (ne : Int) ∧ I s 16 = (np : Int)
theorem MP.fr {I J : Ix} {s : Nat} {h : Hi} {l : Li} {a : Nat → Nat} {ne np : Nat} {cd : Nat → Cd} (B : MP I s h l a ne np cd) (f : mfb I J s) : MP J s h l a ne np cd := by
  obtain ⟨b1, b2, b3, b4, b5, b6, b7, b8, b9⟩ := B
  have e0 : ∀ j, j < 50 → J s j = I s j := fun j hj => f s j (fun _ => Or.inl hj) (fun e => absurd e (Nat.lt_irrefl s))
  have e : ∀ j, j ≤ 24 ∧ 0 < j → ∀ z, J (s + j) z = I (s + j) z := fun j hj z => f (s + j) z (fun e => by omega) (fun _ => by omega)
  refine ⟨?_, ?_, ?_, b4, b5, b6, fun k hk => by rw [e 10 (by decide)]; exact b7 k hk, by rw [e0 15 (by decide)]; exact b8, by rw [e0 16 (by decide)]; exact b9⟩
  · unfold mH at b1 ⊢
    simp only [e 10 (by decide), e 11 (by decide)]
    exact b1
  · unfold nB at b2 ⊢
    simp only [e0 1 (by decide), e0 7 (by decide), e0 8 (by decide), e0 9 (by decide), e0 10 (by decide), e 2 (by decide), e 3 (by decide), e 4 (by decide), e 5 (by decide), e 6 (by decide)]
    exact b2
  · unfold nC codesAt at b3 ⊢
    simp only [e 7 (by decide), e 8 (by decide), e 9 (by decide)]
    exact b3
theorem nSu.fr {I J : Ix} {s : Nat} {su : Su} (H : nSu I s su) (f : mfb I J s) : nSu J s su := by
  have e0 : ∀ j, j < 50 → J s j = I s j := fun j hj => f s j (fun _ => Or.inl hj) (fun e => absurd e (Nat.lt_irrefl s))
  have e : ∀ j, j ≤ 24 ∧ 0 < j → ∀ z, J (s + j) z = I (s + j) z := fun j hj z => f (s + j) z (fun e => by omega) (fun _ => by omega)
  unfold nSu at H ⊢
  simp only [e0 44 (by decide), e0 45 (by decide), e0 46 (by decide), e0 47 (by decide), e 23 (by decide), e 24 (by decide)]
  exact H
theorem MP.MB {I : Ix} {s : Nat} {h : Hi} {l l' : Li} {a : Nat → Nat} {ne np : Nat} {cd : Nat → Cd} (B : MP I s h l a ne np cd) (hL : nLi I s l') (ok : okLi l') (e1 : l'.1 = l.1) : MB I s h l' a ne np cd := by
  obtain ⟨b1, b2, b3, b4, b5, b6, b7, b8, b9⟩ := B
  refine ⟨b1, hL, ?_, b4, ok, ?_, b7⟩
  · intro r hr
    exact b3 r (by unfold lRules at hr ⊢; rw [← e1]; exact hr)
  · intro e he
    obtain ⟨g1, g2, g3⟩ := b6 e he
    exact ⟨fun h9 => by have := g1 h9; unfold lPorts at this ⊢; rw [e1]; exact this, g2, g3⟩
section REQ
variable {xs : List Int} {S : List (Nat × Nat)} {T : Nat → Nat → Nat} {cc zz s : Nat} {h : Hi} {l : Li} {r : Ra} {I I' : Ix}

theorem mx_202 : mxl 202 = 2 := by decide +kernel
theorem mt_202 : mtc 202 = 10 := by decide +kernel
theorem rk_202 (as : List AV) : rkA 202 as = 0 := rfl
theorem l_202_0 : look 202 0 = some (.iconst 0, 1, 0, 0, 0, 0) := by decide +kernel
theorem l_202_1 : look 202 1 = some (.istore_n 1, 1, 0, 0, 0, 0) := by decide +kernel
theorem l_202_2 : look 202 2 = some (.iload_n 1, 1, 0, 0, 0, 0) := by decide +kernel
theorem l_202_3 : look 202 3 = some (.iconst 4, 1, 0, 0, 0, 0) := by decide +kernel
theorem l_202_4 : look 202 4 = some (.if_icmp .ge 21, 3, 0, 0, 0, 0) := by decide +kernel
theorem l_202_7 : look 202 7 = some (.aload_n 0, 1, 0, 0, 0, 0) := by decide +kernel
theorem l_202_8 : look 202 8 = some (.getfield 107, 3, 10, 49, 2, 1550) := by decide +kernel
theorem l_202_11 : look 202 11 = some (.iload_n 1, 1, 0, 0, 0, 0) := by decide +kernel
theorem l_202_12 : look 202 12 = some (.aload_n 0, 1, 0, 0, 0, 0) := by decide +kernel
theorem l_202_13 : look 202 13 = some (.getfield 13, 3, 10, 3, 2, 1504) := by decide +kernel
theorem l_202_16 : look 202 16 = some (.iload_n 1, 1, 0, 0, 0, 0) := by decide +kernel
theorem l_202_17 : look 202 17 = some (.iaload, 1, 0, 0, 0, 0) := by decide +kernel
theorem l_202_18 : look 202 18 = some (.iastore, 1, 0, 0, 0, 0) := by decide +kernel
theorem l_202_19 : look 202 19 = some (.iinc 1 1, 3, 0, 0, 0, 0) := by decide +kernel
theorem l_202_22 : look 202 22 = some (.goto (-20), 3, 0, 0, 0, 0) := by decide +kernel
theorem l_202_25 : look 202 25 = some (.aload_n 0, 1, 0, 0, 0, 0) := by decide +kernel
theorem l_202_26 : look 202 26 = some (.aload_n 0, 1, 0, 0, 0, 0) := by decide +kernel
theorem l_202_27 : look 202 27 = some (.getfield 26, 3, 10, 7, 0, 1508) := by decide +kernel
theorem l_202_30 : look 202 30 = some (.putfield 342, 3, 10, 50, 0, 1551) := by decide +kernel
theorem l_202_33 : look 202 33 = some (.aload_n 0, 1, 0, 0, 0, 0) := by decide +kernel
theorem l_202_34 : look 202 34 = some (.aload_n 0, 1, 0, 0, 0, 0) := by decide +kernel
theorem l_202_35 : look 202 35 = some (.getfield 33, 3, 10, 9, 0, 1510) := by decide +kernel
theorem l_202_38 : look 202 38 = some (.putfield 345, 3, 10, 51, 0, 1552) := by decide +kernel
theorem l_202_41 : look 202 41 = some (.aload_n 0, 1, 0, 0, 0, 0) := by decide +kernel
theorem l_202_42 : look 202 42 = some (.aload_n 0, 1, 0, 0, 0, 0) := by decide +kernel
theorem l_202_43 : look 202 43 = some (.getfield 30, 3, 10, 8, 0, 1509) := by decide +kernel
theorem l_202_46 : look 202 46 = some (.putfield 348, 3, 10, 52, 0, 1553) := by decide +kernel
theorem l_202_49 : look 202 49 = some (.aload_n 0, 1, 0, 0, 0, 0) := by decide +kernel
theorem l_202_50 : look 202 50 = some (.iconst 0, 1, 0, 0, 0, 0) := by decide +kernel
theorem l_202_51 : look 202 51 = some (.putfield 351, 3, 10, 53, 0, 1554) := by decide +kernel
theorem l_202_54 : look 202 54 = some (.iconst 0, 1, 0, 0, 0, 0) := by decide +kernel
theorem l_202_55 : look 202 55 = some (.istore_n 1, 1, 0, 0, 0, 0) := by decide +kernel
theorem l_202_56 : look 202 56 = some (.iload_n 1, 1, 0, 0, 0, 0) := by decide +kernel
theorem l_202_57 : look 202 57 = some (.bipush 120, 2, 0, 0, 0, 0) := by decide +kernel
theorem l_202_59 : look 202 59 = some (.if_icmp .ge 16, 3, 0, 0, 0, 0) := by decide +kernel
theorem l_202_62 : look 202 62 = some (.aload_n 0, 1, 0, 0, 0, 0) := by decide +kernel
theorem l_202_63 : look 202 63 = some (.getfield 110, 3, 10, 54, 2, 1555) := by decide +kernel
theorem l_202_66 : look 202 66 = some (.iload_n 1, 1, 0, 0, 0, 0) := by decide +kernel
theorem l_202_67 : look 202 67 = some (.iconst 0, 1, 0, 0, 0, 0) := by decide +kernel
theorem l_202_68 : look 202 68 = some (.bastore, 1, 0, 0, 0, 0) := by decide +kernel
theorem l_202_69 : look 202 69 = some (.iinc 1 1, 3, 0, 0, 0, 0) := by decide +kernel
theorem l_202_72 : look 202 72 = some (.goto (-16), 3, 0, 0, 0, 0) := by decide +kernel
theorem l_202_75 : look 202 75 = some (.return_, 1, 0, 0, 0, 0) := by decide +kernel

theorem lp_202 (hm : oModel S T s) {J : Ix} : ∀ d k, k + d = 120 → WP xs 202 0 56 [vr s, vi ((k : Nat) : Int)] [] (S, (fl J (s + 26) k 0), T, cc, zz) (FN none (S, fl J (s + 26) 120 0, T, cc, zz)) := by
  intro d
  induction d with
  | zero =>
    intro k hk
    refine w_iln l_202_56 rfl ?_
    refine w_bp l_202_57 (by decide) ?_
    refine w_cge 75 l_202_59 (by decide) (fun _ => ?_) (fun hx => absurd hx (by omega))
    refine w_vr l_202_75 ?_
    have e9 : k = 120 := by omega
    rw [e9]
    exact ⟨rfl, rfl⟩
  | succ d ih =>
    intro k hk
    refine w_iln l_202_56 rfl ?_
    refine w_bp l_202_57 (by decide) ?_
    refine w_cge 75 l_202_59 (by decide) (fun hx => absurd hx (by omega)) (fun _ => ?_)
    refine w_aln l_202_62 rfl ?_
    refine w_gr l_202_63 (oModel_sh hm) (oModel_r54 hm) ?_
    refine w_iln l_202_66 rfl ?_
    refine w_ic l_202_67 (by decide) ?_
    refine w_zS k 0 l_202_68 (oModel_s54 hm) rfl (by omega) (by decide) ?_
    refine w_inc ((k + 1 : Nat) : Int) l_202_69 rfl rfl (by unfold wr; omega) ?_
    refine w_go 56 l_202_72 (by decide) ?_
    rw [fl_s]
    exact ih (k + 1) (by omega)
theorem s_202 (hm : oModel S T s) : CL xs 202 [vr s] (S, I, T, cc, zz) (FN none (S, fl (up (up (up (up (up (up (up (up I (s + 25) 0 (I (s + 2) 0)) (s + 25) 1 (I (s + 2) 1)) (s + 25) 2 (I (s + 2) 2)) (s + 25) 3 (I (s + 2) 3)) s 50 (I s 7)) s 51 (I s 9)) s 52 (I s 8)) s 53 0) (s + 26) 120 0, T, cc, zz)) := by
  refine CL_start (r := 0) (ls := [vr s, vs 2]) (rk_202 _) rfl ?_
  refine w_ic l_202_0 (by decide) ?_
  refine w_isn l_202_1 ⟨Nat.le_of_ble_eq_true rfl, rfl⟩ ?_
  refine w_iln l_202_2 rfl ?_
  refine w_ic l_202_3 (by decide) ?_
  refine w_cge 25 l_202_4 (by decide) (fun hx => absurd hx (by decide)) (fun _ => ?_)
  refine w_aln l_202_7 rfl ?_
  refine w_gr l_202_8 (oModel_sh hm) (oModel_r49 hm) ?_
  refine w_iln l_202_11 rfl ?_
  refine w_aln l_202_12 rfl ?_
  refine w_gr l_202_13 (oModel_sh hm) (oModel_r3 hm) ?_
  refine w_iln l_202_16 rfl ?_
  refine w_ia 0 (I (s + 2) 0) l_202_17 (oModel_s3 hm) rfl (by omega) rfl ?_
  refine w_iS 0 l_202_18 (oModel_s49 hm) rfl (by omega) ?_
  refine w_inc 1 l_202_19 rfl rfl (by unfold wr; omega) ?_
  refine w_go 2 l_202_22 (by decide) ?_
  refine w_iln l_202_2 rfl ?_
  refine w_ic l_202_3 (by decide) ?_
  refine w_cge 25 l_202_4 (by decide) (fun hx => absurd hx (by decide)) (fun _ => ?_)
  refine w_aln l_202_7 rfl ?_
  refine w_gr l_202_8 (oModel_sh hm) (oModel_r49 hm) ?_
  refine w_iln l_202_11 rfl ?_
  refine w_aln l_202_12 rfl ?_
  refine w_gr l_202_13 (oModel_sh hm) (oModel_r3 hm) ?_
  refine w_iln l_202_16 rfl ?_
  refine w_ia 1 (I (s + 2) 1) l_202_17 (oModel_s3 hm) rfl (by omega) ((up_no (by omega)).trans (rfl)) ?_
  refine w_iS 1 l_202_18 (oModel_s49 hm) rfl (by omega) ?_
  refine w_inc 2 l_202_19 rfl rfl (by unfold wr; omega) ?_
  refine w_go 2 l_202_22 (by decide) ?_
  refine w_iln l_202_2 rfl ?_
  refine w_ic l_202_3 (by decide) ?_
  refine w_cge 25 l_202_4 (by decide) (fun hx => absurd hx (by decide)) (fun _ => ?_)
  refine w_aln l_202_7 rfl ?_
  refine w_gr l_202_8 (oModel_sh hm) (oModel_r49 hm) ?_
  refine w_iln l_202_11 rfl ?_
  refine w_aln l_202_12 rfl ?_
  refine w_gr l_202_13 (oModel_sh hm) (oModel_r3 hm) ?_
  refine w_iln l_202_16 rfl ?_
  refine w_ia 2 (I (s + 2) 2) l_202_17 (oModel_s3 hm) rfl (by omega) ((up_no (by omega)).trans ((up_no (by omega)).trans (rfl))) ?_
  refine w_iS 2 l_202_18 (oModel_s49 hm) rfl (by omega) ?_
  refine w_inc 3 l_202_19 rfl rfl (by unfold wr; omega) ?_
  refine w_go 2 l_202_22 (by decide) ?_
  refine w_iln l_202_2 rfl ?_
  refine w_ic l_202_3 (by decide) ?_
  refine w_cge 25 l_202_4 (by decide) (fun hx => absurd hx (by decide)) (fun _ => ?_)
  refine w_aln l_202_7 rfl ?_
  refine w_gr l_202_8 (oModel_sh hm) (oModel_r49 hm) ?_
  refine w_iln l_202_11 rfl ?_
  refine w_aln l_202_12 rfl ?_
  refine w_gr l_202_13 (oModel_sh hm) (oModel_r3 hm) ?_
  refine w_iln l_202_16 rfl ?_
  refine w_ia 3 (I (s + 2) 3) l_202_17 (oModel_s3 hm) rfl (by omega) ((up_no (by omega)).trans ((up_no (by omega)).trans ((up_no (by omega)).trans (rfl)))) ?_
  refine w_iS 3 l_202_18 (oModel_s49 hm) rfl (by omega) ?_
  refine w_inc 4 l_202_19 rfl rfl (by unfold wr; omega) ?_
  refine w_go 2 l_202_22 (by decide) ?_
  refine w_iln l_202_2 rfl ?_
  refine w_ic l_202_3 (by decide) ?_
  refine w_cge 25 l_202_4 (by decide) (fun _ => ?_) (fun hx => absurd hx (by decide))
  refine w_aln l_202_25 rfl ?_
  refine w_aln l_202_26 rfl ?_
  refine w_gi (I s 7) l_202_27 (oModel_sh hm) ((up_no (by omega)).trans ((up_no (by omega)).trans ((up_no (by omega)).trans ((up_no (by omega)).trans (rfl))))) ?_
  refine w_pi l_202_30 (oModel_sh hm) ?_
  refine w_aln l_202_33 rfl ?_
  refine w_aln l_202_34 rfl ?_
  refine w_gi (I s 9) l_202_35 (oModel_sh hm) ((up_nj (by omega)).trans ((up_no (by omega)).trans ((up_no (by omega)).trans ((up_no (by omega)).trans ((up_no (by omega)).trans (rfl)))))) ?_
  refine w_pi l_202_38 (oModel_sh hm) ?_
  refine w_aln l_202_41 rfl ?_
  refine w_aln l_202_42 rfl ?_
  refine w_gi (I s 8) l_202_43 (oModel_sh hm) ((up_nj (by omega)).trans ((up_nj (by omega)).trans ((up_no (by omega)).trans ((up_no (by omega)).trans ((up_no (by omega)).trans ((up_no (by omega)).trans (rfl))))))) ?_
  refine w_pi l_202_46 (oModel_sh hm) ?_
  refine w_aln l_202_49 rfl ?_
  refine w_ic l_202_50 (by decide) ?_
  refine w_pi l_202_51 (oModel_sh hm) ?_
  refine w_ic l_202_54 (by decide) ?_
  refine w_isn l_202_55 ⟨Nat.le_of_ble_eq_true rfl, rfl⟩ ?_
  have e8 := lp_202 (xs := xs) (T := T) (cc := cc) (zz := zz) (J := up (up (up (up (up (up (up (up I (s + 25) 0 (I (s + 2) 0)) (s + 25) 1 (I (s + 2) 1)) (s + 25) 2 (I (s + 2) 2)) (s + 25) 3 (I (s + 2) 3)) s 50 (I s 7)) s 51 (I s 9)) s 52 (I s 8)) s 53 0) hm 120 0 (by omega)
  rw [fl_0] at e8
  exact e8

theorem r_plain (hm : oModel S T s) (hB : nB I s l) (okl : okLi l) : CL xs 202 [vr s] (S, I, T, cc, zz) (RP S T cc zz (fun v I' => v = none ∧ nLi I' s l ∧ (∀ e, e < 120 → I' (s + 26) e = b2i (noOut e)) ∧ mfb I I' s)) := by
  refine CL_mono (s_202 hm) ?_
  rintro q m' ⟨rfl, rfl⟩
  have h4 := okl.1
  have F : mfb I (fl (up (up (up (up (up (up (up (up I (s + 25) 0 (I (s + 2) 0)) (s + 25) 1 (I (s + 2) 1)) (s + 25) 2 (I (s + 2) 2)) (s + 25) 3 (I (s + 2) 3)) s 50 (I s 7)) s 51 (I s 9)) s 52 (I s 8)) s 53 0) (s + 26) 120 0) s := by
    intro y z h1 h2
    by_cases hy : y = s
    · have h3 := h1 hy
      rw [hy, fl_no (by omega), up_nj (by omega), up_nj (by omega), up_nj (by omega), up_nj (by omega), up_no (by omega), up_no (by omega), up_no (by omega), up_no (by omega)]
    · rw [fl_no (by intro e; have := h2 (by omega); omega), up_no hy, up_no hy, up_no hy, up_no hy]
      simp only [up_no (show y ≠ s + 25 by intro e; have := h2 (by omega); omega)]
  obtain ⟨g1, g2, g3, g4, g5, g6, g7, g8⟩ := hB
  have e0 : ∀ j, j < 50 → (fl (up (up (up (up (up (up (up (up I (s + 25) 0 (I (s + 2) 0)) (s + 25) 1 (I (s + 2) 1)) (s + 25) 2 (I (s + 2) 2)) (s + 25) 3 (I (s + 2) 3)) s 50 (I s 7)) s 51 (I s 9)) s 52 (I s 8)) s 53 0) (s + 26) 120 0) s j = I s j := fun j hj => F s j (fun _ => Or.inl hj) (fun e => absurd e (Nat.lt_irrefl s))
  have e : ∀ j, j ≤ 24 ∧ 0 < j → ∀ z, (fl (up (up (up (up (up (up (up (up I (s + 25) 0 (I (s + 2) 0)) (s + 25) 1 (I (s + 2) 1)) (s + 25) 2 (I (s + 2) 2)) (s + 25) 3 (I (s + 2) 3)) s 50 (I s 7)) s 51 (I s 9)) s 52 (I s 8)) s 53 0) (s + 26) 120 0) (s + j) z = I (s + j) z := fun j hj z => F (s + j) z (fun e => by omega) (fun _ => by omega)
  refine ⟨none, _, rfl, rfl, rfl, ⟨?_, fun p hp => ⟨?_, ?_, ?_⟩, ?_, ?_, ?_, ?_, fun r hr => ?_, 0, ?_, by decide, fun r hr => ?_⟩, fun e he => ?_, F⟩
  · rw [e0 1 (by decide)]; exact g1
  · rw [fl_no (by omega), up_no (by omega), up_no (by omega), up_no (by omega), up_no (by omega), ← (g2 p hp).1]
    rcases four (show p < 4 by omega) with rfl | rfl | rfl | rfl <;> simp [up]
  · rw [e 3 (by decide)]; exact (g2 p hp).2.1
  · rw [e 4 (by decide), e 5 (by decide)]; exact (g2 p hp).2.2
  · rw [fl_no (by omega), up_nj (by decide), up_nj (by decide), up_nj (by decide), up_eq]
    exact g3
  · rw [fl_no (by omega), up_nj (by decide), up_nj (by decide), up_eq]
    exact g4
  · rw [fl_no (by omega), up_nj (by decide), up_eq]
    exact g5
  · rw [e0 10 (by decide)]; exact g6
  · rw [e 6 (by decide)]; exact g7 r hr
  · rw [fl_no (by omega), up_eq]; rfl
  · rw [g8 r]
    have h9 : bt 0 r = 0 := by unfold bt; rw [Nat.zero_div]
    simp [h9]
  · rw [fl_in he]; rfl

end REQ
