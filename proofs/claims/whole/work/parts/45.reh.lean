/-! the reference: a link goes down, a copy is put -/
theorem fgt_s2 {I : Ix} {a k : Nat} {p : Int} (h : I a k ≠ p) : up (fgt I a k p) a k (I a k) = fgt I a (k + 1) p := by
  rw [fgt_s0 h]
  funext x y
  by_cases h1 : x = a ∧ y = k
  · rw [h1.1, h1.2, up_eq, fgt_k]
  · unfold up; rw [if_neg h1]
theorem fgt_s3 {I : Ix} {a k : Nat} {p : Int} (h : I a k = p) : up (fgt I a k p) a k (-1) = fgt I a (k + 1) p := fgt_s1 h
section REH
variable {xs : List Int} {S : List (Nat × Nat)} {T : Nat → Nat → Nat} {cc zz s : Nat} {h : Hi} {l : Li} {r : Ra} {I I' : Ix}

theorem mx_217 : mxl 217 = 3 := by decide +kernel
theorem mt_217 : mtc 217 = 10 := by decide +kernel
theorem rk_217 (as : List AV) : rkA 217 as = 1 := rfl
theorem l_217_0 : look 217 0 = some (.aload_n 0, 1, 0, 0, 0, 0) := by decide +kernel
theorem l_217_1 : look 217 1 = some (.getfield 113, 3, 10, 56, 2, 1557) := by decide +kernel
theorem l_217_4 : look 217 4 = some (.iload_n 1, 1, 0, 0, 0, 0) := by decide +kernel
theorem l_217_5 : look 217 5 = some (.iconst 0, 1, 0, 0, 0, 0) := by decide +kernel
theorem l_217_6 : look 217 6 = some (.bastore, 1, 0, 0, 0, 0) := by decide +kernel
theorem l_217_7 : look 217 7 = some (.aload_n 0, 1, 0, 0, 0, 0) := by decide +kernel
theorem l_217_8 : look 217 8 = some (.getfield 122, 3, 10, 59, 2, 1560) := by decide +kernel
theorem l_217_11 : look 217 11 = some (.iload_n 1, 1, 0, 0, 0, 0) := by decide +kernel
theorem l_217_12 : look 217 12 = some (.iaload, 1, 0, 0, 0, 0) := by decide +kernel
theorem l_217_13 : look 217 13 = some (.ifCond .le 20, 3, 0, 0, 0, 0) := by decide +kernel
theorem l_217_16 : look 217 16 = some (.aload_n 0, 1, 0, 0, 0, 0) := by decide +kernel
theorem l_217_17 : look 217 17 = some (.aload_n 0, 1, 0, 0, 0, 0) := by decide +kernel
theorem l_217_18 : look 217 18 = some (.iload_n 1, 1, 0, 0, 0, 0) := by decide +kernel
theorem l_217_19 : look 217 19 = some (.iconst 0, 1, 0, 0, 0, 0) := by decide +kernel
theorem l_217_20 : look 217 20 = some (.invokevirtual 402, 3, 212, 3, 0, 1980) := by decide +kernel
theorem l_217_23 : look 217 23 = some (.iload_n 1, 1, 0, 0, 0, 0) := by decide +kernel
theorem l_217_24 : look 217 24 = some (.bipush 10, 2, 0, 0, 0, 0) := by decide +kernel
theorem l_217_26 : look 217 26 = some (.iconst (-1), 1, 0, 0, 0, 0) := by decide +kernel
theorem l_217_27 : look 217 27 = some (.invokevirtual 405, 3, 211, 5, 0, 1925) := by decide +kernel
theorem l_217_30 : look 217 30 = some (.goto (-23), 3, 0, 0, 0, 0) := by decide +kernel
theorem l_217_33 : look 217 33 = some (.iconst 0, 1, 0, 0, 0, 0) := by decide +kernel
theorem l_217_34 : look 217 34 = some (.istore_n 2, 1, 0, 0, 0, 0) := by decide +kernel
theorem l_217_35 : look 217 35 = some (.iload_n 2, 1, 0, 0, 0, 0) := by decide +kernel
theorem l_217_36 : look 217 36 = some (.bipush 64, 2, 0, 0, 0, 0) := by decide +kernel
theorem l_217_38 : look 217 38 = some (.if_icmp .ge 35, 3, 0, 0, 0, 0) := by decide +kernel
theorem l_217_41 : look 217 41 = some (.aload_n 0, 1, 0, 0, 0, 0) := by decide +kernel
theorem l_217_42 : look 217 42 = some (.getfield 128, 3, 10, 61, 2, 1562) := by decide +kernel
theorem l_217_45 : look 217 45 = some (.iload_n 2, 1, 0, 0, 0, 0) := by decide +kernel
theorem l_217_46 : look 217 46 = some (.aload_n 0, 1, 0, 0, 0, 0) := by decide +kernel
theorem l_217_47 : look 217 47 = some (.getfield 128, 3, 10, 61, 2, 1562) := by decide +kernel
theorem l_217_50 : look 217 50 = some (.iload_n 2, 1, 0, 0, 0, 0) := by decide +kernel
theorem l_217_51 : look 217 51 = some (.iaload, 1, 0, 0, 0, 0) := by decide +kernel
theorem l_217_52 : look 217 52 = some (.iload_n 1, 1, 0, 0, 0, 0) := by decide +kernel
theorem l_217_53 : look 217 53 = some (.if_icmp .ne 7, 3, 0, 0, 0, 0) := by decide +kernel
theorem l_217_56 : look 217 56 = some (.iconst (-1), 1, 0, 0, 0, 0) := by decide +kernel
theorem l_217_57 : look 217 57 = some (.goto 9, 3, 0, 0, 0, 0) := by decide +kernel
theorem l_217_60 : look 217 60 = some (.aload_n 0, 1, 0, 0, 0, 0) := by decide +kernel
theorem l_217_61 : look 217 61 = some (.getfield 128, 3, 10, 61, 2, 1562) := by decide +kernel
theorem l_217_64 : look 217 64 = some (.iload_n 2, 1, 0, 0, 0, 0) := by decide +kernel
theorem l_217_65 : look 217 65 = some (.iaload, 1, 0, 0, 0, 0) := by decide +kernel
theorem l_217_66 : look 217 66 = some (.iastore, 1, 0, 0, 0, 0) := by decide +kernel
theorem l_217_67 : look 217 67 = some (.iinc 2 1, 3, 0, 0, 0, 0) := by decide +kernel
theorem l_217_70 : look 217 70 = some (.goto (-35), 3, 0, 0, 0, 0) := by decide +kernel
theorem l_217_73 : look 217 73 = some (.return_, 1, 0, 0, 0, 0) := by decide +kernel

theorem lp_217 (hm : oModel S T s) {p : Nat} : ∀ d k, k + d = 64 → WP xs 217 1 35 [vr s, vi ((p : Nat) : Int), vi ((k : Nat) : Int)] [] (S, (fgt I (s + 32) k ((p : Nat) : Int)), T, cc, zz) (FN none (S, fgt I (s + 32) 64 ((p : Nat) : Int), T, cc, zz)) := by
  intro d
  induction d with
  | zero =>
    intro k hk
    refine w_iln l_217_35 rfl ?_
    refine w_bp l_217_36 (by decide) ?_
    refine w_cge 73 l_217_38 (by decide) (fun _ => ?_) (fun hx => absurd hx (by omega))
    refine w_vr l_217_73 ?_
    have e9 : k = 64 := by omega
    rw [e9]
    exact ⟨rfl, rfl⟩
  | succ d ih =>
    intro k hk
    refine w_iln l_217_35 rfl ?_
    refine w_bp l_217_36 (by decide) ?_
    refine w_cge 73 l_217_38 (by decide) (fun hx => absurd hx (by omega)) (fun _ => ?_)
    refine w_aln l_217_41 rfl ?_
    refine w_gr l_217_42 (oModel_sh hm) (oModel_r61 hm) ?_
    refine w_iln l_217_45 rfl ?_
    refine w_aln l_217_46 rfl ?_
    refine w_gr l_217_47 (oModel_sh hm) (oModel_r61 hm) ?_
    refine w_iln l_217_50 rfl ?_
    refine w_ia k (I (s + 32) k) l_217_51 (oModel_s61 hm) rfl (by omega) fgt_k ?_
    refine w_iln l_217_52 rfl ?_
    refine w_cne 60 l_217_53 (by decide) (fun h1 => ?_) (fun h1 => ?_)
    · skip
      refine w_aln l_217_60 rfl ?_
      refine w_gr l_217_61 (oModel_sh hm) (oModel_r61 hm) ?_
      refine w_iln l_217_64 rfl ?_
      refine w_ia k (I (s + 32) k) l_217_65 (oModel_s61 hm) rfl (by omega) fgt_k ?_
      refine w_iS k l_217_66 (oModel_s61 hm) rfl (by omega) ?_
      refine w_inc ((k + 1 : Nat) : Int) l_217_67 rfl rfl (by unfold wr; omega) ?_
      refine w_go 35 l_217_70 (by decide) ?_
      have e9 := fgt_s2 (I := I) (a := s + 32) (k := k) (p := ((p : Nat) : Int)) (by omega)
      rw [e9]
      exact ih (k + 1) (by omega)
    · skip
      refine w_ic l_217_56 (by decide) ?_
      refine w_go 66 l_217_57 (by decide) ?_
      refine w_iS k l_217_66 (oModel_s61 hm) rfl (by omega) ?_
      refine w_inc ((k + 1 : Nat) : Int) l_217_67 rfl rfl (by unfold wr; omega) ?_
      refine w_go 35 l_217_70 (by decide) ?_
      have e9 := fgt_s3 (I := I) (a := s + 32) (k := k) (p := ((p : Nat) : Int)) (by omega)
      rw [e9]
      exact ih (k + 1) (by omega)
theorem nS_forget {p : Nat} (hR : nR I s l r) : nR (fgt I (s + 32) 64 ((p : Nat) : Int)) s l (forgetS r.1 p, r.2) ∧ mfc I (fgt I (s + 32) 64 ((p : Nat) : Int)) s 0 0 := by
  have hn : ∀ x y, x ≠ s + 32 → fgt I (s + 32) 64 ((p : Nat) : Int) x y = I x y := fun x y hx => if_neg (fun q => hx q.1)
  refine nR_S hR ?_ fun x y h1 h2 => hn x y (by intro e; have := h2 (by omega); omega)
  obtain ⟨h1, h2, h3, h4, h5⟩ := hR.1
  refine ⟨by rw [hn _ _ (by omega)]; exact h1, fun x hx => by rw [hn _ _ (by omega)]; exact h2 x hx, fun x hx => ?_, fun x hx => by rw [hn _ _ (by omega)]; exact h4 x hx, fun a ha => ?_⟩
  · obtain ⟨g1, g2, g3⟩ := h3 x hx
    exact ⟨by rw [hn _ _ (by omega)]; exact g1, g2, fun k hk => by rw [hn _ _ (by omega), hn _ _ (by omega)]; exact g3 k hk⟩
  · have g2 := h5 a ha
    show (match (match sTab r.1 a with
      | some (x, t) => if x = p then none else some (x, t)
      | none => none : Option (Nat × Nat)) with
      | some (w, t) => fgt I (s + 32) 64 ((p : Nat) : Int) (s + 32) a = (w : Int) ∧ w < 4 ∧ fgt I (s + 32) 64 ((p : Nat) : Int) (s + 33) a = (t : Int) ∧ t ≤ 120
      | none => fgt I (s + 32) 64 ((p : Nat) : Int) (s + 32) a = -1)
    unfold nT at g2
    cases hT : sTab r.1 a with
    | none =>
      rw [hT] at g2
      show fgt I (s + 32) 64 ((p : Nat) : Int) (s + 32) a = -1
      unfold fgt
      change I (s + 32) a = -1 at g2
      split
      · rfl
      · exact g2
    | some wt =>
      obtain ⟨w, t⟩ := wt
      rw [hT] at g2
      change I (s + 32) a = (w : Int) ∧ w < 4 ∧ I (s + 33) a = (t : Int) ∧ t ≤ 120 at g2
      by_cases hw : w = p
      · simp only [if_pos hw]
        exact if_pos ⟨rfl, ha, by rw [g2.1, hw]⟩
      · simp only [if_neg hw]
        refine ⟨?_, g2.2.1, ?_, g2.2.2.2⟩
        · rw [← g2.1]
          exact if_neg (fun q => hw (by have := q.2.2; omega))
        · rw [hn _ _ (by omega)]
          exact g2.2.2.1
theorem nS_up {p : Nat} {b : Bool} (hR : nR I s l r) : nR (up I (s + 27) p (b2i b)) s l (setUp r.1 p b, r.2) ∧ mfc I (up I (s + 27) p (b2i b)) s 0 0 := by
  refine nR_S hR ?_ fun x y h1 h2 => up_no (by intro e; have := h2 (by omega); omega)
  obtain ⟨h1, h2, h3, h4, h5⟩ := hR.1
  refine ⟨by rw [up_no (by omega)]; exact h1, fun x hx => ?_, fun x hx => ?_, fun x hx => by rw [up_no (by omega)]; exact h4 x hx, fun a ha => ?_⟩
  · show _ = b2i (if x = p then b else sUp r.1 x)
    by_cases hxp : x = p
    · rw [if_pos hxp, hxp, up_eq]
    · rw [if_neg hxp, up_nj hxp]; exact h2 x hx
  · obtain ⟨g1, g2, g3⟩ := h3 x hx
    exact ⟨by rw [up_no (by omega)]; exact g1, g2, fun k hk => by rw [up_no (by omega), up_no (by omega)]; exact g3 k hk⟩
  · have g := h5 a ha
    unfold nT at g ⊢
    rw [up_no (by omega), up_no (by omega)]
    exact g
/-- the link is set down first, the copies are lost then -/
def loseC (e p : Nat) (q : List Cp) (r : Ra) : Ra := (forgetS (setQ r.1 p []) p, q.foldl (fun g c => addDr g e c.1 p 10 (-1)) r.2)
theorem loseC_1 {e p : Nat} {c : Cp} {q : List Cp} (hq : sQ r.1 p = c :: q) : loseC e p q (outDr e p 0 10 (-1) r) = loseC e p (c :: q) r := by
  unfold loseC
  show (forgetS (setQ (setQ r.1 p _) p []) p, q.foldl _ (addDr r.2 e ((sQ r.1 p).getD 0 (0, 0)).1 p 10 (-1))) = _
  rw [setQ_set, hq]
  rfl

theorem lp_217b {I0 : Ix} (hm : oModel S T s) {e ne np u p : Nat} {a : Nat → Nat} (E : ME I0 s e h l a ne np) (hp : p < lPorts l) (hu : u ≤ 360) {R : Ra} : ∀ (q : List Cp) (I : Ix) (r : Ra), sQ r.1 p = q → nR I s l r → okR h l np u r → mfc I0 I s 0 0 → loseC e p q r = R →
    WP xs 217 1 7 [vr s, vi ((p : Nat) : Int), vs 2] [] (S, I, T, cc, zz) (RP S T cc zz (fun v I' => v = none ∧ nR I' s l R ∧ mfc I0 I' s 0 0)) := by
  intro q
  induction q with
  | nil =>
    intro I r hq hR hok f hX
    have hp4 := E.p4 hp
    have hlen : (sQ r.1 p).length = 0 := by rw [hq]; rfl
    have hE : (forgetS r.1 p, r.2) = loseC e p [] r := by
      have h0 : setQ r.1 p [] = r.1 := by rw [← hq, setQ_id]
      show _ = (forgetS (setQ r.1 p []) p, r.2)
      rw [h0]
    refine w_aln l_217_7 rfl ?_
    refine w_gr l_217_8 (oModel_sh hm) (oModel_r59 hm) ?_
    refine w_iln l_217_11 rfl ?_
    refine w_ia p (((sQ r.1 p).length : Nat) : Int) l_217_12 (oModel_s59 hm) rfl (by omega) ((hR.1.2.2.1 p hp4).1) ?_
    refine w_zle 33 l_217_13 (by decide) (fun _ => ?_) (fun hx => absurd hx (by omega))
    refine w_ic l_217_33 (by decide) ?_
    refine w_isn l_217_34 ⟨Nat.le_of_ble_eq_true rfl, rfl⟩ ?_
    have e9 := lp_217 (xs := xs) (T := T) (cc := cc) (zz := zz) (I := I) hm (p := p) 64 0 (by omega)
    rw [fgt_0] at e9
    refine WP_mono e9 ?_
    rintro q m' ⟨rfl, rfl⟩
    obtain ⟨g1, g2⟩ := nS_forget (p := p) hR
    exact ⟨_, _, rfl, rfl, rfl, by rw [← hX, ← hE]; exact g1, f.t0 g2⟩
  | cons c q ih =>
    intro I r hq hR hok f hX
    have hp4 := E.p4 hp
    have hlen : (sQ r.1 p).length = q.length + 1 := by rw [hq]; rfl
    have hll := ok_len hok E.ok p
    have h8 : r.2.1.length < 360 := by have h9 := ok_lt hok hp4; omega
    refine w_aln l_217_7 rfl ?_
    refine w_gr l_217_8 (oModel_sh hm) (oModel_r59 hm) ?_
    refine w_iln l_217_11 rfl ?_
    refine w_ia p (((sQ r.1 p).length : Nat) : Int) l_217_12 (oModel_s59 hm) rfl (by omega) ((hR.1.2.2.1 p hp4).1) ?_
    refine w_zle 33 l_217_13 (by decide) (fun hx => absurd hx (by omega)) (fun _ => ?_)
    refine w_aln l_217_16 rfl ?_
    refine w_aln l_217_17 rfl ?_
    refine w_iln l_217_18 rfl ?_
    refine w_ic l_217_19 (by decide) ?_
    refine p_iv [vi ((p : Nat) : Int), vi 0] [vr s] l_217_20 rfl rfl (Nat.le_of_ble_eq_true rfl) (by rw [mx_212]; exact Nat.le_of_ble_eq_true rfl) (by rw [mt_212]; exact oModel_sh hm) (by rw [mt_212]; decide) (by rw [rk_212]; decide) (r_takesOut hm hR hp4 (i := 0) (by omega)) (fun v I1 hv => ?_)
    obtain ⟨rfl, hR1, f1⟩ := hv
    refine w_iln l_217_23 rfl ?_
    refine w_bp l_217_24 (by decide) ?_
    refine w_ic l_217_26 (by decide) ?_
    refine p_iv [vi ((((sQ r.1 p).getD 0 (0, 0)).1 : Nat) : Int), vi ((p : Nat) : Int), vi 10, vi (-1)] [] l_217_27 rfl rfl (Nat.le_of_ble_eq_true rfl) (by rw [mx_211]; exact Nat.le_of_ble_eq_true rfl) (by rw [mt_211]; exact oModel_sh hm) (by rw [mt_211]; decide) (by rw [rk_211]; decide) (r_drops1 hm hR1 ((E.fr f.1).fr f1.1).ev (E.np (ok_hq hok 0 (by omega))) h8 hp4) (fun v I2 hv => ?_)
    obtain ⟨rfl, hR2, f2⟩ := hv
    refine w_go 7 l_217_30 (by decide) ?_
    refine ih I2 (outDr e p 0 10 (-1) r) ?_ hR2 (ok_out hok hp4 (by omega)) ((f.t0 f1).t0 f2) ?_
    · show sQ (setQ r.1 p _) p = _
      rw [sQ_set, if_pos rfl, hq]; rfl
    · rw [loseC_1 hq]
      exact hX
theorem s_217 (hm : oModel S T s) {e ne np u p : Nat} {a : Nat → Nat} (E : ME I s e h l a ne np) (hR : nR I s l r) (hok : okR h l np u r) (hp : p < lPorts l) (hu : u ≤ 360) : CL xs 217 [vr s, vi ((p : Nat) : Int)] (S, I, T, cc, zz) (RP S T cc zz (fun v I' => v = none ∧ nR I' s l (loseA e p r).1 ∧ mfc I I' s 0 0)) := by
  refine CL_start (r := 1) (ls := [vr s, vi ((p : Nat) : Int), vs 2]) (rk_217 _) rfl ?_
  have hp4 := E.p4 hp
  obtain ⟨g1, g2⟩ := nS_up (p := p) (b := false) hR
  refine w_aln l_217_0 rfl ?_
  refine w_gr l_217_1 (oModel_sh hm) (oModel_r56 hm) ?_
  refine w_iln l_217_4 rfl ?_
  refine w_ic l_217_5 (by decide) ?_
  refine w_zS p 0 l_217_6 (oModel_s56 hm) rfl (by omega) (by decide) ?_
  exact lp_217b hm E hp hu (sQ r.1 p) _ (setUp r.1 p false, r.2) rfl g1 ⟨hok.1, hok.2.1, hok.2.2⟩ g2 rfl

theorem mx_225 : mxl 225 = 5 := by decide +kernel
theorem mt_225 : mtc 225 = 10 := by decide +kernel
theorem rk_225 (as : List AV) : rkA 225 as = 5 := rfl
theorem l_225_0 : look 225 0 = some (.aload_n 0, 1, 0, 0, 0, 0) := by decide +kernel
theorem l_225_1 : look 225 1 = some (.iload_n 2, 1, 0, 0, 0, 0) := by decide +kernel
theorem l_225_2 : look 225 2 = some (.invokevirtual 363, 3, 207, 2, 0, 1948) := by decide +kernel
theorem l_225_5 : look 225 5 = some (.istore_n 3, 1, 0, 0, 0, 0) := by decide +kernel
theorem l_225_6 : look 225 6 = some (.aload_n 0, 1, 0, 0, 0, 0) := by decide +kernel
theorem l_225_7 : look 225 7 = some (.iload_n 2, 1, 0, 0, 0, 0) := by decide +kernel
theorem l_225_8 : look 225 8 = some (.invokevirtual 428, 3, 208, 2, 0, 1960) := by decide +kernel
theorem l_225_11 : look 225 11 = some (.istore 4, 2, 0, 0, 0, 0) := by decide +kernel
theorem l_225_13 : look 225 13 = some (.aload_n 0, 1, 0, 0, 0, 0) := by decide +kernel
theorem l_225_14 : look 225 14 = some (.invokevirtual 431, 3, 210, 1, 0, 1964) := by decide +kernel
theorem l_225_17 : look 225 17 = some (.iload_n 3, 1, 0, 0, 0, 0) := by decide +kernel
theorem l_225_18 : look 225 18 = some (.iadd, 1, 0, 0, 0, 0) := by decide +kernel
theorem l_225_19 : look 225 19 = some (.aload_n 0, 1, 0, 0, 0, 0) := by decide +kernel
theorem l_225_20 : look 225 20 = some (.getfield 342, 3, 10, 50, 0, 1551) := by decide +kernel
theorem l_225_23 : look 225 23 = some (.if_icmp .le 13, 3, 0, 0, 0, 0) := by decide +kernel
theorem l_225_26 : look 225 26 = some (.aload_n 0, 1, 0, 0, 0, 0) := by decide +kernel
theorem l_225_27 : look 225 27 = some (.iload_n 2, 1, 0, 0, 0, 0) := by decide +kernel
theorem l_225_28 : look 225 28 = some (.iload_n 1, 1, 0, 0, 0, 0) := by decide +kernel
theorem l_225_29 : look 225 29 = some (.bipush 6, 2, 0, 0, 0, 0) := by decide +kernel
theorem l_225_31 : look 225 31 = some (.iconst (-1), 1, 0, 0, 0, 0) := by decide +kernel
theorem l_225_32 : look 225 32 = some (.invokevirtual 405, 3, 211, 5, 0, 1925) := by decide +kernel
theorem l_225_35 : look 225 35 = some (.return_, 1, 0, 0, 0, 0) := by decide +kernel
theorem l_225_36 : look 225 36 = some (.aload_n 0, 1, 0, 0, 0, 0) := by decide +kernel
theorem l_225_37 : look 225 37 = some (.iload_n 1, 1, 0, 0, 0, 0) := by decide +kernel
theorem l_225_38 : look 225 38 = some (.invokevirtual 366, 3, 209, 2, 0, 1968) := by decide +kernel
theorem l_225_41 : look 225 41 = some (.iload_n 3, 1, 0, 0, 0, 0) := by decide +kernel
theorem l_225_42 : look 225 42 = some (.iadd, 1, 0, 0, 0, 0) := by decide +kernel
theorem l_225_43 : look 225 43 = some (.aload_n 0, 1, 0, 0, 0, 0) := by decide +kernel
theorem l_225_44 : look 225 44 = some (.iload_n 1, 1, 0, 0, 0, 0) := by decide +kernel
theorem l_225_45 : look 225 45 = some (.iload 4, 2, 0, 0, 0, 0) := by decide +kernel
theorem l_225_47 : look 225 47 = some (.invokevirtual 434, 3, 224, 3, 0, 1972) := by decide +kernel
theorem l_225_50 : look 225 50 = some (.isub, 1, 0, 0, 0, 0) := by decide +kernel
theorem l_225_51 : look 225 51 = some (.aload_n 0, 1, 0, 0, 0, 0) := by decide +kernel
theorem l_225_52 : look 225 52 = some (.getfield 107, 3, 10, 49, 2, 1550) := by decide +kernel
theorem l_225_55 : look 225 55 = some (.iload_n 1, 1, 0, 0, 0, 0) := by decide +kernel
theorem l_225_56 : look 225 56 = some (.iaload, 1, 0, 0, 0, 0) := by decide +kernel
theorem l_225_57 : look 225 57 = some (.if_icmp .le 13, 3, 0, 0, 0, 0) := by decide +kernel
theorem l_225_60 : look 225 60 = some (.aload_n 0, 1, 0, 0, 0, 0) := by decide +kernel
theorem l_225_61 : look 225 61 = some (.iload_n 2, 1, 0, 0, 0, 0) := by decide +kernel
theorem l_225_62 : look 225 62 = some (.iload_n 1, 1, 0, 0, 0, 0) := by decide +kernel
theorem l_225_63 : look 225 63 = some (.bipush 7, 2, 0, 0, 0, 0) := by decide +kernel
theorem l_225_65 : look 225 65 = some (.iconst (-1), 1, 0, 0, 0, 0) := by decide +kernel
theorem l_225_66 : look 225 66 = some (.invokevirtual 405, 3, 211, 5, 0, 1925) := by decide +kernel
theorem l_225_69 : look 225 69 = some (.return_, 1, 0, 0, 0, 0) := by decide +kernel
theorem l_225_70 : look 225 70 = some (.aload_n 0, 1, 0, 0, 0, 0) := by decide +kernel
theorem l_225_71 : look 225 71 = some (.iload_n 1, 1, 0, 0, 0, 0) := by decide +kernel
theorem l_225_72 : look 225 72 = some (.invokevirtual 366, 3, 209, 2, 0, 1968) := by decide +kernel
theorem l_225_75 : look 225 75 = some (.iload_n 3, 1, 0, 0, 0, 0) := by decide +kernel
theorem l_225_76 : look 225 76 = some (.iadd, 1, 0, 0, 0, 0) := by decide +kernel
theorem l_225_77 : look 225 77 = some (.aload_n 0, 1, 0, 0, 0, 0) := by decide +kernel
theorem l_225_78 : look 225 78 = some (.getfield 107, 3, 10, 49, 2, 1550) := by decide +kernel
theorem l_225_81 : look 225 81 = some (.iload_n 1, 1, 0, 0, 0, 0) := by decide +kernel
theorem l_225_82 : look 225 82 = some (.iaload, 1, 0, 0, 0, 0) := by decide +kernel
theorem l_225_83 : look 225 83 = some (.if_icmp .le 26, 3, 0, 0, 0, 0) := by decide +kernel
theorem l_225_86 : look 225 86 = some (.aload_n 0, 1, 0, 0, 0, 0) := by decide +kernel
theorem l_225_87 : look 225 87 = some (.aload_n 0, 1, 0, 0, 0, 0) := by decide +kernel
theorem l_225_88 : look 225 88 = some (.iload_n 1, 1, 0, 0, 0, 0) := by decide +kernel
theorem l_225_89 : look 225 89 = some (.aload_n 0, 1, 0, 0, 0, 0) := by decide +kernel
theorem l_225_90 : look 225 90 = some (.iload_n 1, 1, 0, 0, 0, 0) := by decide +kernel
theorem l_225_91 : look 225 91 = some (.iload 4, 2, 0, 0, 0, 0) := by decide +kernel
theorem l_225_93 : look 225 93 = some (.invokevirtual 437, 3, 223, 3, 0, 1976) := by decide +kernel
theorem l_225_96 : look 225 96 = some (.invokevirtual 402, 3, 212, 3, 0, 1980) := by decide +kernel
theorem l_225_99 : look 225 99 = some (.iload_n 1, 1, 0, 0, 0, 0) := by decide +kernel
theorem l_225_100 : look 225 100 = some (.bipush 8, 2, 0, 0, 0, 0) := by decide +kernel
theorem l_225_102 : look 225 102 = some (.iload_n 2, 1, 0, 0, 0, 0) := by decide +kernel
theorem l_225_103 : look 225 103 = some (.invokevirtual 405, 3, 211, 5, 0, 1925) := by decide +kernel
theorem l_225_106 : look 225 106 = some (.goto (-36), 3, 0, 0, 0, 0) := by decide +kernel
theorem l_225_109 : look 225 109 = some (.aload_n 0, 1, 0, 0, 0, 0) := by decide +kernel
theorem l_225_110 : look 225 110 = some (.getfield 116, 3, 10, 57, 2, 1558) := by decide +kernel
theorem l_225_113 : look 225 113 = some (.bipush 100, 2, 0, 0, 0, 0) := by decide +kernel
theorem l_225_115 : look 225 115 = some (.iload_n 1, 1, 0, 0, 0, 0) := by decide +kernel
theorem l_225_116 : look 225 116 = some (.imul, 1, 0, 0, 0, 0) := by decide +kernel
theorem l_225_117 : look 225 117 = some (.aload_n 0, 1, 0, 0, 0, 0) := by decide +kernel
theorem l_225_118 : look 225 118 = some (.getfield 122, 3, 10, 59, 2, 1560) := by decide +kernel
theorem l_225_121 : look 225 121 = some (.iload_n 1, 1, 0, 0, 0, 0) := by decide +kernel
theorem l_225_122 : look 225 122 = some (.iaload, 1, 0, 0, 0, 0) := by decide +kernel
theorem l_225_123 : look 225 123 = some (.iadd, 1, 0, 0, 0, 0) := by decide +kernel
theorem l_225_124 : look 225 124 = some (.iload_n 2, 1, 0, 0, 0, 0) := by decide +kernel
theorem l_225_125 : look 225 125 = some (.iastore, 1, 0, 0, 0, 0) := by decide +kernel
theorem l_225_126 : look 225 126 = some (.aload_n 0, 1, 0, 0, 0, 0) := by decide +kernel
theorem l_225_127 : look 225 127 = some (.getfield 119, 3, 10, 58, 2, 1559) := by decide +kernel
theorem l_225_130 : look 225 130 = some (.bipush 100, 2, 0, 0, 0, 0) := by decide +kernel
theorem l_225_132 : look 225 132 = some (.iload_n 1, 1, 0, 0, 0, 0) := by decide +kernel
theorem l_225_133 : look 225 133 = some (.imul, 1, 0, 0, 0, 0) := by decide +kernel
theorem l_225_134 : look 225 134 = some (.aload_n 0, 1, 0, 0, 0, 0) := by decide +kernel
theorem l_225_135 : look 225 135 = some (.getfield 122, 3, 10, 59, 2, 1560) := by decide +kernel
theorem l_225_138 : look 225 138 = some (.iload_n 1, 1, 0, 0, 0, 0) := by decide +kernel
theorem l_225_139 : look 225 139 = some (.iaload, 1, 0, 0, 0, 0) := by decide +kernel
theorem l_225_140 : look 225 140 = some (.iadd, 1, 0, 0, 0, 0) := by decide +kernel
theorem l_225_141 : look 225 141 = some (.aload_n 0, 1, 0, 0, 0, 0) := by decide +kernel
theorem l_225_142 : look 225 142 = some (.getfield 375, 3, 10, 55, 0, 1556) := by decide +kernel
theorem l_225_145 : look 225 145 = some (.iastore, 1, 0, 0, 0, 0) := by decide +kernel
theorem l_225_146 : look 225 146 = some (.aload_n 0, 1, 0, 0, 0, 0) := by decide +kernel
theorem l_225_147 : look 225 147 = some (.getfield 122, 3, 10, 59, 2, 1560) := by decide +kernel
theorem l_225_150 : look 225 150 = some (.iload_n 1, 1, 0, 0, 0, 0) := by decide +kernel
theorem l_225_151 : look 225 151 = some (.dup2, 1, 0, 0, 0, 0) := by decide +kernel
theorem l_225_152 : look 225 152 = some (.iaload, 1, 0, 0, 0, 0) := by decide +kernel
theorem l_225_153 : look 225 153 = some (.iconst 1, 1, 0, 0, 0, 0) := by decide +kernel
theorem l_225_154 : look 225 154 = some (.iadd, 1, 0, 0, 0, 0) := by decide +kernel
theorem l_225_155 : look 225 155 = some (.iastore, 1, 0, 0, 0, 0) := by decide +kernel
theorem l_225_156 : look 225 156 = some (.aload_n 0, 1, 0, 0, 0, 0) := by decide +kernel
theorem l_225_157 : look 225 157 = some (.getfield 134, 3, 10, 63, 2, 1564) := by decide +kernel
theorem l_225_160 : look 225 160 = some (.iconst 4, 1, 0, 0, 0, 0) := by decide +kernel
theorem l_225_161 : look 225 161 = some (.iload_n 2, 1, 0, 0, 0, 0) := by decide +kernel
theorem l_225_162 : look 225 162 = some (.imul, 1, 0, 0, 0, 0) := by decide +kernel
theorem l_225_163 : look 225 163 = some (.iload_n 1, 1, 0, 0, 0, 0) := by decide +kernel
theorem l_225_164 : look 225 164 = some (.iadd, 1, 0, 0, 0, 0) := by decide +kernel
theorem l_225_165 : look 225 165 = some (.iconst 1, 1, 0, 0, 0, 0) := by decide +kernel
theorem l_225_166 : look 225 166 = some (.iastore, 1, 0, 0, 0, 0) := by decide +kernel
theorem l_225_167 : look 225 167 = some (.aload_n 0, 1, 0, 0, 0, 0) := by decide +kernel
theorem l_225_168 : look 225 168 = some (.dup, 1, 0, 0, 0, 0) := by decide +kernel
theorem l_225_169 : look 225 169 = some (.getfield 381, 3, 10, 68, 0, 1569) := by decide +kernel
theorem l_225_172 : look 225 172 = some (.iconst 1, 1, 0, 0, 0, 0) := by decide +kernel
theorem l_225_173 : look 225 173 = some (.iadd, 1, 0, 0, 0, 0) := by decide +kernel
theorem l_225_174 : look 225 174 = some (.putfield 381, 3, 10, 68, 0, 1569) := by decide +kernel
theorem l_225_177 : look 225 177 = some (.return_, 1, 0, 0, 0, 0) := by decide +kernel

theorem nS_put (hR : nR I s l r) {p k e : Nat} (hp : p < 4) (hk : k < 120) (hq : (sQ r.1 p).length < 99) : nR (up (up (up (up (up I (s + 28) (100 * p + (sQ r.1 p).length) ((k : Nat) : Int)) (s + 29) (100 * p + (sQ r.1 p).length) (((sTime r.1) : Nat) : Int)) (s + 30) p (((sQ r.1 p).length + 1 : Nat) : Int)) (s + 34) (4 * k + p) 1) s 68 (wr (I s 68 + 1))) s l (putEnd e k p r) := by
  have hQ := hR.1.2.2.1 p hp
  refine ⟨nS_Q hR.1 ?_ ?_ ?_ ?_ ?_ ?_ ?_ ⟨?_, ?_, fun j hj => ?_⟩, ?_⟩
  · rw [up_nj (by decide), up_no (by omega), up_no (by omega), up_no (by omega), up_no (by omega)]
  · intro y; rw [up_no (by omega), up_no (by omega), up_no (by omega), up_no (by omega), up_no (by omega)]
  · intro y; rw [up_no (by omega), up_no (by omega), up_no (by omega), up_no (by omega), up_no (by omega)]
  · intro y; rw [up_no (by omega), up_no (by omega), up_no (by omega), up_no (by omega), up_no (by omega)]
  · intro y; rw [up_no (by omega), up_no (by omega), up_no (by omega), up_no (by omega), up_no (by omega)]
  · intro y hy; rw [up_no (by omega), up_no (by omega), up_nj hy, up_no (by omega), up_no (by omega)]
  · intro y hy
    refine ⟨?_, ?_⟩
    · rw [up_no (by omega), up_no (by omega), up_no (by omega), up_no (by omega), up_nj (by omega)]
    · rw [up_no (by omega), up_no (by omega), up_no (by omega), up_nj (by omega), up_no (by omega)]
  · rw [up_no (by omega), up_no (by omega), up_eq, List.length_append]; rfl
  · rw [List.length_append]
    show _ + 1 ≤ 99
    omega
  · have hj1 : j < (sQ r.1 p).length + 1 := by
      have h9 := hj
      rw [List.length_append] at h9
      exact h9
    rw [getD_a hj1]
    by_cases hj2 : j < (sQ r.1 p).length
    · rw [if_pos hj2, up_no (by omega), up_no (by omega), up_no (by omega), up_no (by omega), up_nj (by omega), up_no (by omega), up_no (by omega), up_no (by omega), up_nj (by omega), up_no (by omega)]
      exact hQ.2.2 j hj2
    · have hj3 : j = (sQ r.1 p).length := by omega
      rw [if_neg hj2, hj3, up_no (by omega), up_no (by omega), up_no (by omega), up_no (by omega), up_eq, up_no (by omega), up_no (by omega), up_no (by omega), up_eq]
      exact ⟨rfl, rfl⟩
  · obtain ⟨h1, h2, h3, h4⟩ := hR.2
    refine ⟨?_, fun j hj => ?_, fun k' hk' t ht => ?_, fun p' hp' => ?_⟩
    · rw [up_nj (by decide), up_no (by omega), up_no (by omega), up_no (by omega), up_no (by omega)]; exact h1
    · simp only [up_no (show s + 36 ≠ s by omega), up_no (show s + 36 ≠ s + 34 by omega), up_no (show s + 36 ≠ s + 30 by omega), up_no (show s + 36 ≠ s + 29 by omega), up_no (show s + 36 ≠ s + 28 by omega)]
      exact h2 j hj
    · show _ = ((if k' = k ∧ t + 1 = p + 1 then 1 else r.2.2.1 k' (t + 1) : Nat) : Int)
      rw [up_no (by omega)]
      by_cases h9 : k' = k ∧ t = p
      · rw [if_pos ⟨h9.1, by omega⟩, h9.1, h9.2, up_eq]; rfl
      · rw [if_neg (by omega), up_nj (by omega), up_no (by omega), up_no (by omega), up_no (by omega)]
        exact h3 k' hk' t ht
    · rw [up_no (by omega), up_no (by omega), up_no (by omega), up_no (by omega), up_no (by omega)]
      exact h4 p' hp'
theorem put_fr {I0 : Ix} (f : mfc I0 I s 0 0) {p k q : Nat} {t : Int} (hp : p < 4) : mfc I0 (up (up (up (up (up I (s + 28) (100 * p + q) ((k : Nat) : Int)) (s + 29) (100 * p + q) t) (s + 30) p ((q + 1 : Nat) : Int)) (s + 34) (4 * k + p) 1) s 68 (wr (I s 68 + 1))) s 1 0 := by
  refine ⟨?_, ?_, ?_⟩
  · exact ((((f.1.u2 (by omega)).u2 (by omega)).u2 (by omega)).u2 (by omega)).u1 (by omega)
  · rw [up_eq]
    have h := f.2.1.tr (cg.wr (u := I s 68))
    rw [Int.zero_add] at h
    exact h
  · rw [up_nj (by decide), up_no (by omega), up_no (by omega), up_no (by omega), up_no (by omega)]
    exact f.2.2

theorem lp_225 {I0 : Ix} (hm : oModel S T s) {e ne np u p k : Nat} {a : Nat → Nat} (E : ME I0 s e h l a ne np) (hp : p < lPorts l) (hk : k < np) (hu : u ≤ 360) {R : Ra} : ∀ (n : Nat) (I : Ix) (r : Ra), (sQ r.1 p).length = n → nR I s l r → okR h l np u r → mfc I0 I s 0 0 →
    fillP h r.1 p + hSiz h k ≤ lCap l p + belowQ h (hRnk h k) (sQ r.1 p) → putEnd e k p (pushA h (lCap l p) (hSiz h k) e k p n r) = R →
    WP xs 225 5 70 [vr s, vi ((p : Nat) : Int), vi ((k : Nat) : Int), vi (((hSiz h k) : Nat) : Int), vi (((hRnk h k) : Nat) : Int)] [] (S, I, T, cc, zz) (RP S T cc zz (fun v I' => v = none ∧ nR I' s l R ∧ mfc I0 I' s 1 0)) := by
  intro n
  induction n with
  | zero =>
    intro I r hn hR hok f hfit hX
    have hp4 := E.p4 hp
    have hk120 := E.np hk
    have hb1 := hok.2.1 p
    have hb2 := (E.ok k).1
    have hb3 := (E.okl.2.2.1 p hp).1
    have hll := ok_len hok E.ok p
    have hst0 : fillP h r.1 p + hSiz h k ≤ lCap l p := by
      rw [List.eq_nil_of_length_eq_zero hn] at hfit
      exact hfit
    refine w_aln l_225_70 rfl ?_
    refine w_iln l_225_71 rfl ?_
    refine q_iv [vi ((p : Nat) : Int)] [] l_225_72 rfl rfl (Nat.le_of_ble_eq_true rfl) (by rw [mx_209]; exact Nat.le_of_ble_eq_true rfl) (by rw [mt_209]; exact oModel_sh hm) (by rw [mt_209]; decide) (by rw [rk_209]; decide) (r_fillOf hm (E.fr f.1) hR hok hp4) ?_
    refine w_iln l_225_75 rfl ?_
    refine w_add (((fillP h r.1 p) + (hSiz h k) : Nat) : Int) l_225_76 (by unfold wr; omega) ?_
    refine w_aln l_225_77 rfl ?_
    refine w_gr l_225_78 (oModel_sh hm) (oModel_r49 hm) ?_
    refine w_iln l_225_81 rfl ?_
    refine w_ia p (((lCap l p) : Nat) : Int) l_225_82 (oModel_s49 hm) rfl (by omega) (((E.fr f.1).L.2.1 p hp).1) ?_
    refine w_cle 109 l_225_83 (by decide) (fun _ => ?_) (fun hx => absurd hx (by omega))
    have hst : fillP h r.1 p + hSiz h k ≤ lCap l p := by omega
    refine w_aln l_225_109 rfl ?_
    refine w_gr l_225_110 (oModel_sh hm) (oModel_r57 hm) ?_
    refine w_bp l_225_113 (by decide) ?_
    refine w_iln l_225_115 rfl ?_
    refine w_mul ((100 * p : Nat) : Int) l_225_116 (by unfold wr; omega) ?_
    refine w_aln l_225_117 rfl ?_
    refine w_gr l_225_118 (oModel_sh hm) (oModel_r59 hm) ?_
    refine w_iln l_225_121 rfl ?_
    refine w_ia p (((sQ r.1 p).length : Nat) : Int) l_225_122 (oModel_s59 hm) rfl (by omega) ((hR.1.2.2.1 p hp4).1) ?_
    refine w_add ((100 * p + (sQ r.1 p).length : Nat) : Int) l_225_123 (by unfold wr; omega) ?_
    refine w_iln l_225_124 rfl ?_
    refine w_iS (100 * p + (sQ r.1 p).length) l_225_125 (oModel_s57 hm) rfl (by omega) ?_
    refine w_aln l_225_126 rfl ?_
    refine w_gr l_225_127 (oModel_sh hm) (oModel_r58 hm) ?_
    refine w_bp l_225_130 (by decide) ?_
    refine w_iln l_225_132 rfl ?_
    refine w_mul ((100 * p : Nat) : Int) l_225_133 (by unfold wr; omega) ?_
    refine w_aln l_225_134 rfl ?_
    refine w_gr l_225_135 (oModel_sh hm) (oModel_r59 hm) ?_
    refine w_iln l_225_138 rfl ?_
    refine w_ia p (((sQ r.1 p).length : Nat) : Int) l_225_139 (oModel_s59 hm) rfl (by omega) ((up_no (by omega)).trans ((hR.1.2.2.1 p hp4).1)) ?_
    refine w_add ((100 * p + (sQ r.1 p).length : Nat) : Int) l_225_140 (by unfold wr; omega) ?_
    refine w_aln l_225_141 rfl ?_
    refine w_gi (((sTime r.1) : Nat) : Int) l_225_142 (oModel_sh hm) ((up_no (by omega)).trans (hR.1.1.1)) ?_
    refine w_iS (100 * p + (sQ r.1 p).length) l_225_145 (oModel_s58 hm) rfl (by omega) ?_
    refine w_aln l_225_146 rfl ?_
    refine w_gr l_225_147 (oModel_sh hm) (oModel_r59 hm) ?_
    refine w_iln l_225_150 rfl ?_
    refine w_dup2 l_225_151 rfl ?_
    refine w_ia p (((sQ r.1 p).length : Nat) : Int) l_225_152 (oModel_s59 hm) rfl (by omega) ((up_no (by omega)).trans ((up_no (by omega)).trans ((hR.1.2.2.1 p hp4).1))) ?_
    refine w_ic l_225_153 (by decide) ?_
    refine w_add (((sQ r.1 p).length + 1 : Nat) : Int) l_225_154 (by unfold wr; omega) ?_
    refine w_iS p l_225_155 (oModel_s59 hm) rfl (by omega) ?_
    refine w_aln l_225_156 rfl ?_
    refine w_gr l_225_157 (oModel_sh hm) (oModel_r63 hm) ?_
    refine w_ic l_225_160 (by decide) ?_
    refine w_iln l_225_161 rfl ?_
    refine w_mul ((4 * k : Nat) : Int) l_225_162 (by unfold wr; omega) ?_
    refine w_iln l_225_163 rfl ?_
    refine w_add ((4 * k + p : Nat) : Int) l_225_164 (by unfold wr; omega) ?_
    refine w_ic l_225_165 (by decide) ?_
    refine w_iS (4 * k + p) l_225_166 (oModel_s63 hm) rfl (by omega) ?_
    refine w_aln l_225_167 rfl ?_
    refine w_dup l_225_168 rfl ?_
    refine w_gi (I s 68) l_225_169 (oModel_sh hm) ((up_no (by omega)).trans ((up_no (by omega)).trans ((up_no (by omega)).trans ((up_no (by omega)).trans (rfl))))) ?_
    refine w_ic l_225_172 (by decide) ?_
    refine w_add (wr (I s 68 + 1)) l_225_173 rfl ?_
    refine w_pi l_225_174 (oModel_sh hm) ?_
    refine w_vr l_225_177 ?_
    have hl99 : (sQ r.1 p).length < 99 := by
      have h1 := len_fill E.ok (sQ r.1 p)
      have h2 : fillP h r.1 p = fillQ h (sQ r.1 p) := rfl
      have h3 := (E.ok k).2.1
      omega
    exact ⟨_, _, rfl, rfl, rfl, by rw [← hX, push_stop hst]; exact nS_put hR hp4 hk120 hl99, put_fr f hp4⟩
  | succ n ih =>
    intro I r hn hR hok f hfit hX
    have hp4 := E.p4 hp
    have hk120 := E.np hk
    have hi := loK_lt (rkQ h (sQ r.1 p)) (sQ r.1 p).length (by omega)
    have hb1 := hok.2.1 p
    have hb2 := (E.ok k).1
    have hb3 := (E.okl.2.2.1 p hp).1
    have hll := ok_len hok E.ok p
    have h8 : r.2.1.length < 360 := by have h9 := ok_lt hok hp4; omega
    refine w_aln l_225_70 rfl ?_
    refine w_iln l_225_71 rfl ?_
    refine q_iv [vi ((p : Nat) : Int)] [] l_225_72 rfl rfl (Nat.le_of_ble_eq_true rfl) (by rw [mx_209]; exact Nat.le_of_ble_eq_true rfl) (by rw [mt_209]; exact oModel_sh hm) (by rw [mt_209]; decide) (by rw [rk_209]; decide) (r_fillOf hm (E.fr f.1) hR hok hp4) ?_
    refine w_iln l_225_75 rfl ?_
    refine w_add (((fillP h r.1 p) + (hSiz h k) : Nat) : Int) l_225_76 (by unfold wr; omega) ?_
    refine w_aln l_225_77 rfl ?_
    refine w_gr l_225_78 (oModel_sh hm) (oModel_r49 hm) ?_
    refine w_iln l_225_81 rfl ?_
    refine w_ia p (((lCap l p) : Nat) : Int) l_225_82 (oModel_s49 hm) rfl (by omega) (((E.fr f.1).L.2.1 p hp).1) ?_
    refine w_cle 109 l_225_83 (by decide) (fun h1 => ?_) (fun h1 => ?_)
    · skip
      have hst : fillP h r.1 p + hSiz h k ≤ lCap l p := by omega
      refine w_aln l_225_109 rfl ?_
      refine w_gr l_225_110 (oModel_sh hm) (oModel_r57 hm) ?_
      refine w_bp l_225_113 (by decide) ?_
      refine w_iln l_225_115 rfl ?_
      refine w_mul ((100 * p : Nat) : Int) l_225_116 (by unfold wr; omega) ?_
      refine w_aln l_225_117 rfl ?_
      refine w_gr l_225_118 (oModel_sh hm) (oModel_r59 hm) ?_
      refine w_iln l_225_121 rfl ?_
      refine w_ia p (((sQ r.1 p).length : Nat) : Int) l_225_122 (oModel_s59 hm) rfl (by omega) ((hR.1.2.2.1 p hp4).1) ?_
      refine w_add ((100 * p + (sQ r.1 p).length : Nat) : Int) l_225_123 (by unfold wr; omega) ?_
      refine w_iln l_225_124 rfl ?_
      refine w_iS (100 * p + (sQ r.1 p).length) l_225_125 (oModel_s57 hm) rfl (by omega) ?_
      refine w_aln l_225_126 rfl ?_
      refine w_gr l_225_127 (oModel_sh hm) (oModel_r58 hm) ?_
      refine w_bp l_225_130 (by decide) ?_
      refine w_iln l_225_132 rfl ?_
      refine w_mul ((100 * p : Nat) : Int) l_225_133 (by unfold wr; omega) ?_
      refine w_aln l_225_134 rfl ?_
      refine w_gr l_225_135 (oModel_sh hm) (oModel_r59 hm) ?_
      refine w_iln l_225_138 rfl ?_
      refine w_ia p (((sQ r.1 p).length : Nat) : Int) l_225_139 (oModel_s59 hm) rfl (by omega) ((up_no (by omega)).trans ((hR.1.2.2.1 p hp4).1)) ?_
      refine w_add ((100 * p + (sQ r.1 p).length : Nat) : Int) l_225_140 (by unfold wr; omega) ?_
      refine w_aln l_225_141 rfl ?_
      refine w_gi (((sTime r.1) : Nat) : Int) l_225_142 (oModel_sh hm) ((up_no (by omega)).trans (hR.1.1.1)) ?_
      refine w_iS (100 * p + (sQ r.1 p).length) l_225_145 (oModel_s58 hm) rfl (by omega) ?_
      refine w_aln l_225_146 rfl ?_
      refine w_gr l_225_147 (oModel_sh hm) (oModel_r59 hm) ?_
      refine w_iln l_225_150 rfl ?_
      refine w_dup2 l_225_151 rfl ?_
      refine w_ia p (((sQ r.1 p).length : Nat) : Int) l_225_152 (oModel_s59 hm) rfl (by omega) ((up_no (by omega)).trans ((up_no (by omega)).trans ((hR.1.2.2.1 p hp4).1))) ?_
      refine w_ic l_225_153 (by decide) ?_
      refine w_add (((sQ r.1 p).length + 1 : Nat) : Int) l_225_154 (by unfold wr; omega) ?_
      refine w_iS p l_225_155 (oModel_s59 hm) rfl (by omega) ?_
      refine w_aln l_225_156 rfl ?_
      refine w_gr l_225_157 (oModel_sh hm) (oModel_r63 hm) ?_
      refine w_ic l_225_160 (by decide) ?_
      refine w_iln l_225_161 rfl ?_
      refine w_mul ((4 * k : Nat) : Int) l_225_162 (by unfold wr; omega) ?_
      refine w_iln l_225_163 rfl ?_
      refine w_add ((4 * k + p : Nat) : Int) l_225_164 (by unfold wr; omega) ?_
      refine w_ic l_225_165 (by decide) ?_
      refine w_iS (4 * k + p) l_225_166 (oModel_s63 hm) rfl (by omega) ?_
      refine w_aln l_225_167 rfl ?_
      refine w_dup l_225_168 rfl ?_
      refine w_gi (I s 68) l_225_169 (oModel_sh hm) ((up_no (by omega)).trans ((up_no (by omega)).trans ((up_no (by omega)).trans ((up_no (by omega)).trans (rfl))))) ?_
      refine w_ic l_225_172 (by decide) ?_
      refine w_add (wr (I s 68 + 1)) l_225_173 rfl ?_
      refine w_pi l_225_174 (oModel_sh hm) ?_
      refine w_vr l_225_177 ?_
      have hl99 : (sQ r.1 p).length < 99 := by
        have h1 := len_fill E.ok (sQ r.1 p)
        have h2 : fillP h r.1 p = fillQ h (sQ r.1 p) := rfl
        have h3 := (E.ok k).2.1
        omega
      exact ⟨_, _, rfl, rfl, rfl, by rw [← hX, push_stop hst]; exact nS_put hR hp4 hk120 hl99, put_fr f hp4⟩
    · skip
      have hst : ¬ fillP h r.1 p + hSiz h k ≤ lCap l p := by omega
      have hex : ∃ i, i < (sQ r.1 p).length ∧ rkQ h (sQ r.1 p) i < hRnk h k := by
        refine Classical.byContradiction fun hno => hst ?_
        have h5 : belowQ h (hRnk h k) (sQ r.1 p) = 0 := below_0 fun i hi => Nat.le_of_not_lt fun h6 => hno ⟨i, hi, h6⟩
        omega
      refine w_aln l_225_86 rfl ?_
      refine w_aln l_225_87 rfl ?_
      refine w_iln l_225_88 rfl ?_
      refine w_aln l_225_89 rfl ?_
      refine w_iln l_225_90 rfl ?_
      refine w_il l_225_91 rfl ?_
      refine q_iv [vi ((p : Nat) : Int), vi (((hRnk h k) : Nat) : Int)] [vi ((p : Nat) : Int), vr s, vr s] l_225_93 rfl rfl (Nat.le_of_ble_eq_true rfl) (by rw [mx_223]; exact Nat.le_of_ble_eq_true rfl) (by rw [mt_223]; exact oModel_sh hm) (by rw [mt_223]; decide) (by rw [rk_223]; decide) (s_223 hm (E.fr f.1) hR hok hp4 hex) ?_
      refine p_iv [vi ((p : Nat) : Int), vi (((loK (rkQ h (sQ r.1 p)) (sQ r.1 p).length) : Nat) : Int)] [vr s] l_225_96 rfl rfl (Nat.le_of_ble_eq_true rfl) (by rw [mx_212]; exact Nat.le_of_ble_eq_true rfl) (by rw [mt_212]; exact oModel_sh hm) (by rw [mt_212]; decide) (by rw [rk_212]; decide) (r_takesOut hm hR hp4 hi) (fun v I1 hv => ?_)
      obtain ⟨rfl, hR1, f1⟩ := hv
      refine w_iln l_225_99 rfl ?_
      refine w_bp l_225_100 (by decide) ?_
      refine w_iln l_225_102 rfl ?_
      refine p_iv [vi ((((sQ r.1 p).getD (loK (rkQ h (sQ r.1 p)) (sQ r.1 p).length) (0, 0)).1 : Nat) : Int), vi ((p : Nat) : Int), vi 8, vi ((k : Nat) : Int)] [] l_225_103 rfl rfl (Nat.le_of_ble_eq_true rfl) (by rw [mx_211]; exact Nat.le_of_ble_eq_true rfl) (by rw [mt_211]; exact oModel_sh hm) (by rw [mt_211]; decide) (by rw [rk_211]; decide) (r_drops1 hm hR1 ((E.fr f.1).fr f1.1).ev (E.np (ok_hq hok _ hi)) h8 hp4) (fun v I2 hv => ?_)
      obtain ⟨rfl, hR2, f2⟩ := hv
      refine w_go 70 l_225_106 (by decide) ?_
      refine ih I2 (outDr e p (loK (rkQ h (sQ r.1 p)) (sQ r.1 p).length) 8 k r) ?_ hR2 (ok_out hok hp4 hi) ((f.t0 f1).t0 f2) ?_ ?_
      · show (sQ (setQ r.1 p _) p).length = n
        rw [sQ_set, if_pos rfl, len_e hi]
        omega
      · exact push_fit hst hfit hi
      · rw [← hX, ← push_go hst]
end REH
