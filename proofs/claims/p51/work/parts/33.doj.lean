/-! the class: a run's doings, 2 -/
def forgetS (A : Sa) (p : Nat) : Sa := (A.1, A.2.1, A.2.2.1, A.2.2.2.1, fun a => match sTab A a with
  | some (x, t) => if x = p then none else some (x, t)
  | none => none)
theorem bset4 : ∀ d : Nat, d < 16 → ∀ p : Nat, p < 4 → bset d p < 16 ∧ ∀ q : Nat, q < 4 → bt (bset d p) q = if q = p then 1 else bt d q := by decide +kernel
theorem bclr4 : ∀ d : Nat, d < 16 → ∀ p : Nat, p < 4 → bclr d p < 16 ∧ ∀ q : Nat, q < 4 → bt (bclr d p) q = if q = p then 0 else bt d q := by decide +kernel
section DOJ
variable {xs : List Int} {S : List (Nat × Nat)} {T : Nat → Nat → Nat} {cc zz s x : Nat} {h : Hi} {l : Li} {r : Ra} {I I' : Ix}

theorem cS_up {s d : Nat} {A : Sa} {b : Bool} {p : Nat} (hA : cS I s h l A) (hd : d < 16) (hb : ∀ q, q < 4 → (bt d q = 0 ↔ sUp (setUp A p b) q = true)) : cS (up I s 1 (d : Int)) s h l (setUp A p b) := by
  obtain ⟨h1, h2, h3, h4, h5, h6⟩ := hA
  refine ⟨by rw [up_nj (by decide)]; exact h1, ⟨d, up_eq, hd, hb⟩, fun p hp hl => by rw [up_no (by omega)]; exact h3 p hp hl, fun p hp => by rw [up_no (by omega)]; exact h4 p hp, fun p hp => ?_, fun a ha => ?_⟩
  · obtain ⟨g1, g2, g3, g4⟩ := h5 p hp
    exact ⟨by rw [up_no (by omega)]; exact g1, g2, rowR_eq g3 (fun k _ => up_no (by omega)), rowR_eq g4 (fun k _ => up_no (by omega))⟩
  · have g := h6 a ha
    unfold cT at g ⊢
    rw [up_no (by omega), up_no (by omega)]
    exact g
theorem c_linkF (o : oRun S T s x) (hR : cR I s h l r) {p : Nat} (hp : p < 4) : CL xs 81 [vr (s + 6), vi ((p : Nat) : Int), vi 0] (S, I, T, cc, zz) (RP S T cc zz (fun v I' => v = none ∧ cR I' s h l (setUp r.1 p false, r.2) ∧ fr I I' (s + 6) (s + 17))) := by
  obtain ⟨d, d1, d2, d3⟩ := hR.1.2.1
  refine CL_mono (s_81F (oRun_o1 o) hp d1 d2) ?_
  rintro q m' ⟨rfl, rfl⟩
  obtain ⟨e1, e2⟩ := bset4 d d2 p hp
  refine ⟨none, _, rfl, rfl, rfl, cR_S hR (cS_up hR.1 e1 fun q hq => ?_) ((fr.rf _ _ _).up (by omega) (by omega))⟩
  rw [e2 q hq]
  show _ ↔ (if q = p then false else sUp r.1 q) = true
  by_cases hqp : q = p
  · rw [if_pos hqp, if_pos hqp]; decide
  · rw [if_neg hqp, if_neg hqp]; exact d3 q hq
theorem c_linkT (o : oRun S T s x) (hR : cR I s h l r) {p : Nat} (hp : p < 4) : CL xs 81 [vr (s + 6), vi ((p : Nat) : Int), vi 1] (S, I, T, cc, zz) (RP S T cc zz (fun v I' => v = none ∧ cR I' s h l (setUp r.1 p true, r.2) ∧ fr I I' (s + 6) (s + 17))) := by
  obtain ⟨d, d1, d2, d3⟩ := hR.1.2.1
  refine CL_mono (s_81T (oRun_o1 o) hp d1 d2) ?_
  rintro q m' ⟨rfl, rfl⟩
  obtain ⟨e1, e2⟩ := bclr4 d d2 p hp
  refine ⟨none, _, rfl, rfl, rfl, cR_S hR (cS_up hR.1 e1 fun q hq => ?_) ((fr.rf _ _ _).up (by omega) (by omega))⟩
  rw [e2 q hq]
  show _ ↔ (if q = p then true else sUp r.1 q) = true
  by_cases hqp : q = p
  · rw [if_pos hqp, if_pos hqp]; decide
  · rw [if_neg hqp, if_neg hqp]; exact d3 q hq
theorem c_hasLink (o : oRun S T s x) (hR : cR I s h l r) {p : Nat} (hp : p < 4) : CL xs 80 [vr (s + 6), vi ((p : Nat) : Int)] (S, I, T, cc, zz) (FN (some (vi (b2i (sUp r.1 p)))) (S, I, T, cc, zz)) := by
  obtain ⟨d, d1, d2, d3⟩ := hR.1.2.1
  have h1 := s_80 (xs := xs) (cc := cc) (zz := zz) (oRun_o1 o) hp d1 d2
  have h2 : decide (bt d p = 0) = sUp r.1 p := by
    have h3 := d3 p hp
    by_cases h4 : bt d p = 0
    · rw [decide_eq_true h4, h3.mp h4]
    · rw [decide_eq_false h4]
      cases h5 : sUp r.1 p
      · rfl
      · exact absurd (h3.mpr h5) h4
  rw [h2] at h1
  exact h1
theorem c_forget (o : oRun S T s x) (hR : cR I s h l r) {p : Nat} (hp : p < 4) : CL xs 89 [vr (s + 6), vi ((p : Nat) : Int)] (S, I, T, cc, zz) (RP S T cc zz (fun v I' => v = none ∧ cR I' s h l (forgetS r.1 p, r.2) ∧ fr I I' (s + 6) (s + 17))) := by
  refine CL_mono (s_89 (oRun_o1 o) hp) ?_
  rintro q m' ⟨rfl, rfl⟩
  have hn : ∀ x y, x ≠ s + 6 + 6 → fgt I (s + 6 + 6) 64 ((p : Nat) : Int) x y = I x y := fun x y hx => if_neg (fun q => hx q.1)
  refine ⟨none, _, rfl, rfl, rfl, cR_S hR ?_ fun x hx y => hn x y (by omega)⟩
  obtain ⟨h1, h2, h3, h4, h5, h6⟩ := hR.1
  refine ⟨by rw [hn _ _ (by omega)]; exact h1, by rw [hn _ _ (by omega)]; exact h2, fun p hp hl => by rw [hn _ _ (by omega)]; exact h3 p hp hl, fun p hp => by rw [hn _ _ (by omega)]; exact h4 p hp, fun p hp => ?_, fun a ha => ?_⟩
  · obtain ⟨g1, g2, g3, g4⟩ := h5 p hp
    exact ⟨by rw [hn _ _ (by omega)]; exact g1, g2, rowR_eq g3 (fun k _ => hn _ _ (by omega)), rowR_eq g4 (fun k _ => hn _ _ (by omega))⟩
  · obtain ⟨g1, g2⟩ := h6 a ha
    refine ⟨by rw [hn _ _ (by omega)]; exact g1, ?_⟩
    show (match (match sTab r.1 a with
      | some (x, t) => if x = p then none else some (x, t)
      | none => none : Option (Nat × Nat)) with
      | some (w, t) => fgt I (s + 6 + 6) 64 ((p : Nat) : Int) (s + 6 + 6) a = (w : Int) ∧ w < 4 ∧ fgt I (s + 6 + 6) 64 ((p : Nat) : Int) (s + 6 + 7) a = (t : Int)
      | none => fgt I (s + 6 + 6) 64 ((p : Nat) : Int) (s + 6 + 6) a = -1)
    cases hT : sTab r.1 a with
    | none =>
      rw [hT] at g2
      show fgt I (s + 6 + 6) 64 ((p : Nat) : Int) (s + 6 + 6) a = -1
      unfold fgt
      change I (s + 6 + 6) a = -1 at g2
      split
      · rfl
      · exact g2
    | some wt =>
      obtain ⟨w, t⟩ := wt
      rw [hT] at g2
      change I (s + 6 + 6) a = (w : Int) ∧ w < 4 ∧ I (s + 6 + 7) a = (t : Int) at g2
      by_cases hw : w = p
      · simp only [if_pos hw]
        exact if_pos ⟨rfl, ha, by rw [g2.1, hw]⟩
      · simp only [if_neg hw]
        refine ⟨?_, g2.2.1, ?_⟩
        · rw [← g2.1]
          exact if_neg (fun q => hw (by have := q.2.2; omega))
        · rw [hn _ _ (by omega)]
          exact g2.2.2

theorem mx_62 : mxl 62 = 4 := by decide +kernel
theorem mt_62 : mtc 62 = 5 := by decide +kernel
theorem rk_62 (as : List AV) : rkA 62 as = 2 := rfl
theorem l_62_0 : look 62 0 = some (.aload_n 0, 1, 0, 0, 0, 0) := by decide +kernel
theorem l_62_1 : look 62 1 = some (.getfield 12, 3, 5, 0, 2, 634) := by decide +kernel
theorem l_62_4 : look 62 4 = some (.getfield 206, 3, 1, 2, 2, 385) := by decide +kernel
theorem l_62_7 : look 62 7 = some (.iload_n 1, 1, 0, 0, 0, 0) := by decide +kernel
theorem l_62_8 : look 62 8 = some (.iaload, 1, 0, 0, 0, 0) := by decide +kernel
theorem l_62_9 : look 62 9 = some (.aload_n 0, 1, 0, 0, 0, 0) := by decide +kernel
theorem l_62_10 : look 62 10 = some (.getfield 21, 3, 5, 1, 2, 636) := by decide +kernel
theorem l_62_13 : look 62 13 = some (.getfield 160, 3, 7, 4, 2, 582) := by decide +kernel
theorem l_62_16 : look 62 16 = some (.iload_n 1, 1, 0, 0, 0, 0) := by decide +kernel
theorem l_62_17 : look 62 17 = some (.iaload, 1, 0, 0, 0, 0) := by decide +kernel
theorem l_62_18 : look 62 18 = some (.invokestatic 198, 3, 0, 2, 5, 1349) := by decide +kernel
theorem l_62_21 : look 62 21 = some (.istore_n 2, 1, 0, 0, 0, 0) := by decide +kernel
theorem l_62_22 : look 62 22 = some (.iconst 0, 1, 0, 0, 0, 0) := by decide +kernel
theorem l_62_23 : look 62 23 = some (.istore_n 3, 1, 0, 0, 0, 0) := by decide +kernel
theorem l_62_24 : look 62 24 = some (.iload_n 3, 1, 0, 0, 0, 0) := by decide +kernel
theorem l_62_25 : look 62 25 = some (.iload_n 2, 1, 0, 0, 0, 0) := by decide +kernel
theorem l_62_26 : look 62 26 = some (.if_icmp .ge 27, 3, 0, 0, 0, 0) := by decide +kernel
theorem l_62_29 : look 62 29 = some (.aload_n 0, 1, 0, 0, 0, 0) := by decide +kernel
theorem l_62_30 : look 62 30 = some (.getfield 28, 3, 5, 2, 2, 638) := by decide +kernel
theorem l_62_33 : look 62 33 = some (.aload_n 0, 1, 0, 0, 0, 0) := by decide +kernel
theorem l_62_34 : look 62 34 = some (.iload_n 1, 1, 0, 0, 0, 0) := by decide +kernel
theorem l_62_35 : look 62 35 = some (.aload_n 0, 1, 0, 0, 0, 0) := by decide +kernel
theorem l_62_36 : look 62 36 = some (.iload_n 1, 1, 0, 0, 0, 0) := by decide +kernel
theorem l_62_37 : look 62 37 = some (.invokevirtual 209, 3, 59, 2, 0, 1350) := by decide +kernel
theorem l_62_40 : look 62 40 = some (.invokevirtual 166, 3, 60, 3, 0, 1328) := by decide +kernel
theorem l_62_43 : look 62 43 = some (.iload_n 1, 1, 0, 0, 0, 0) := by decide +kernel
theorem l_62_44 : look 62 44 = some (.invokevirtual 212, 3, 20, 3, 0, 1354) := by decide +kernel
theorem l_62_47 : look 62 47 = some (.iinc 3 1, 3, 0, 0, 0, 0) := by decide +kernel
theorem l_62_50 : look 62 50 = some (.goto (-26), 3, 0, 0, 0, 0) := by decide +kernel
theorem l_62_53 : look 62 53 = some (.iload_n 2, 1, 0, 0, 0, 0) := by decide +kernel
theorem l_62_54 : look 62 54 = some (.ireturn, 1, 0, 0, 0, 0) := by decide +kernel
theorem lp_62 {I0 : Ix} (o : oRun S T s x) {e ne np : Nat} {a : Nat → Nat} {p u n : Nat} (E : CE I0 s x e h l a ne np) (hp : p < lPorts l) (hu : u ≤ 360) (hn99 : n ≤ 99) {R : Ra} : ∀ (d k : Nat) (I : Ix) (r : Ra), k + d = n → d ≤ (sQ r.1 p).length → cR I s h l r → okR h l np u r → fr I0 I (s + 6) (s + 17) → delA h p d r = R →
    WP xs 62 2 24 [vr s, vi ((p : Nat) : Int), vi ((n : Nat) : Int), vi ((k : Nat) : Int)] [] (S, I, T, cc, zz) (RP S T cc zz (fun v I' => v = some (vi ((n : Nat) : Int)) ∧ cR I' s h l R ∧ fr I0 I' (s + 6) (s + 17))) := by
  intro d
  induction d with
  | zero =>
    intro k I r hn hl2 hR hk f hX
    have hn0 : k = n := hn
    refine w_iln l_62_24 rfl ?_
    refine w_iln l_62_25 rfl ?_
    refine w_cge 53 l_62_26 (by decide) (fun _ => ?_) (fun hx => absurd hx (by omega))
    refine w_iln l_62_53 rfl ?_
    refine w_ir l_62_54 (Or.inl rfl) ?_
    exact ⟨_, _, rfl, rfl, rfl, by rw [← hX]; exact hR, f⟩
  | succ d ih =>
    intro k I r hn hl2 hR hk f hX
    have hp4 := E.p4 hp
    have hi := hiK_lt (rkQ h (sQ r.1 p)) (sQ r.1 p).length (by omega)
    have hll := ok_len hk E.ok p
    have hnn : n ≤ n := Nat.le_refl _
    have h8 : r.2.2.2 p < 100000 := by have h9 := ok_dl hk hp4; omega
    refine w_iln l_62_24 rfl ?_
    refine w_iln l_62_25 rfl ?_
    refine w_cge 53 l_62_26 (by decide) (fun hx => absurd hx (by omega)) (fun _ => ?_)
    refine w_aln l_62_29 rfl ?_
    refine w_gr l_62_30 (oRun_sh o) (oRun_r2 o) ?_
    refine w_aln l_62_33 rfl ?_
    refine w_iln l_62_34 rfl ?_
    refine w_aln l_62_35 rfl ?_
    refine w_iln l_62_36 rfl ?_
    refine q_iv [vi ((p : Nat) : Int)] [vi ((p : Nat) : Int), vr s, vr (s + 14)] l_62_37 rfl rfl (Nat.le_of_ble_eq_true rfl) (by rw [mx_59]; exact Nat.le_of_ble_eq_true rfl) (by rw [mt_59]; exact oRun_sh o) (by rw [mt_59]; decide) (by rw [rk_59]; decide) (s_59 o (E.fr f).H E.ok hR.1 hp4 (ok_hq hk)) ?_
    refine p_iv [vi ((p : Nat) : Int), vi (((hiK (rkQ h (sQ r.1 p)) (sQ r.1 p).length) : Nat) : Int)] [vr (s + 14)] l_62_40 rfl rfl (Nat.le_of_ble_eq_true rfl) (by rw [mx_60]; exact Nat.le_of_ble_eq_true rfl) (by rw [mt_60]; exact oRun_sh o) (by rw [mt_60]; decide) (by rw [rk_60]; decide) (c_takeOut o (E.fr f) hR hk hp hi) (fun v I1 hv => ?_)
    obtain ⟨rfl, hR1, f1⟩ := hv
    refine w_iln l_62_43 rfl ?_
    refine p_iv [vi ((((sQ r.1 p).getD (hiK (rkQ h (sQ r.1 p)) (sQ r.1 p).length) (0, 0)).1 : Nat) : Int), vi ((p : Nat) : Int)] [] l_62_44 rfl rfl (Nat.le_of_ble_eq_true rfl) (by rw [mx_20]; exact Nat.le_of_ble_eq_true rfl) (by rw [mt_20]; exact oLog_sh (oRun_o2 o)) (by rw [mt_20]; decide) (by rw [rk_20]; decide) (c_addDel o hR1 (E.np (ok_hq hk _ hi)) hp4 h8) (fun v I2 hv => ?_)
    obtain ⟨rfl, hR2, f2⟩ := hv
    refine w_inc ((k + 1 : Nat) : Int) l_62_47 rfl rfl (by unfold wr; omega) ?_
    refine w_go 24 l_62_50 (by decide) ?_
    refine ih (k + 1) I2 (setQ r.1 p ((sQ r.1 p).eraseIdx (hiK (rkQ h (sQ r.1 p)) (sQ r.1 p).length)), addDel r.2 ((sQ r.1 p).getD (hiK (rkQ h (sQ r.1 p)) (sQ r.1 p).length) (0, 0)).1 p) (by omega) ?_ hR2 (ok_del hk hp4 hi) ((f.tr f1).tr f2) hX
    show d ≤ (sQ (setQ r.1 p _) p).length
    rw [sQ_set, if_pos rfl, len_e hi]
    omega
theorem s_62 (o : oRun S T s x) {e ne np : Nat} {a : Nat → Nat} {u p : Nat} (E : CE I s x e h l a ne np) (hR : cR I s h l r) (hk : okR h l np u r) (hp : p < lPorts l) (hu : u ≤ 360) : CL xs 62 [vr s, vi ((p : Nat) : Int)] (S, I, T, cc, zz) (RP S T cc zz (fun v I' => v = some (vi (((min (lSpeed l p) (sQ r.1 p).length) : Nat) : Int)) ∧ cR I' s h l (delA h p (min (lSpeed l p) (sQ r.1 p).length) r) ∧ fr I I' (s + 6) (s + 17))) := by
  refine CL_start (r := 2) (ls := [vr s, vi ((p : Nat) : Int), vs 2, vs 2]) (rk_62 _) rfl ?_
  have hp4 := E.p4 hp
  refine w_aln l_62_0 rfl ?_
  refine w_gr l_62_1 (oRun_sh o) (oRun_r0 o) ?_
  refine w_gr l_62_4 (oLimits_sh (oRun_o0 o)) (oLimits_r2 (oRun_o0 o)) ?_
  refine w_iln l_62_7 rfl ?_
  refine w_ia p (((lSpeed l p) : Nat) : Int) l_62_8 (oLimits_s2 (oRun_o0 o)) rfl (by omega) ((E.L.2.1 p hp).2.1) ?_
  refine w_aln l_62_9 rfl ?_
  refine w_gr l_62_10 (oRun_sh o) (oRun_r1 o) ?_
  refine w_gr l_62_13 (oState_sh (oRun_o1 o)) (oState_r4 (oRun_o1 o)) ?_
  refine w_iln l_62_16 rfl ?_
  refine w_ia p (((sQ r.1 p).length : Nat) : Int) l_62_17 (oState_s4 (oRun_o1 o)) rfl (by omega) ((hR.1.2.2.2.2.1 p (E.p4 hp)).1) ?_
  refine w_mn (((min (lSpeed l p) (sQ r.1 p).length) : Nat) : Int) l_62_18 (by decide) (by rw [Nat.min_def]; split <;> split <;> omega) ?_
  refine w_isn l_62_21 ⟨Nat.le_of_ble_eq_true rfl, rfl⟩ ?_
  refine w_ic l_62_22 (by decide) ?_
  refine w_isn l_62_23 ⟨Nat.le_of_ble_eq_true rfl, rfl⟩ ?_
  exact lp_62 o E hp hu (by have := ok_len hk E.ok p; omega) (min (lSpeed l p) (sQ r.1 p).length) 0 I r (by omega) (by omega) hR hk (fr.rf _ _ _) rfl

def loseB (e p : Nat) (q : List Cp) (r : Ra) : Ra := (setUp (forgetS (setQ r.1 p []) p) p false, q.foldl (fun g c => addDr g e c.1 p 10 (-1)) r.2)
theorem loseB_1 {e p : Nat} {c : Cp} {q : List Cp} (hq : sQ r.1 p = c :: q) : loseB e p q (outDr e p 0 10 (-1) r) = loseB e p (c :: q) r := by
  unfold loseB
  show (setUp (forgetS (setQ (setQ r.1 p _) p []) p) p false, q.foldl _ (addDr r.2 e ((sQ r.1 p).getD 0 (0, 0)).1 p 10 (-1))) = _
  rw [setQ_set, hq]
  rfl

theorem mx_64 : mxl 64 = 4 := by decide +kernel
theorem mt_64 : mtc 64 = 5 := by decide +kernel
theorem rk_64 (as : List AV) : rkA 64 as = 2 := rfl
theorem l_64_0 : look 64 0 = some (.aload_n 0, 1, 0, 0, 0, 0) := by decide +kernel
theorem l_64_1 : look 64 1 = some (.getfield 21, 3, 5, 1, 2, 636) := by decide +kernel
theorem l_64_4 : look 64 4 = some (.getfield 160, 3, 7, 4, 2, 582) := by decide +kernel
theorem l_64_7 : look 64 7 = some (.iload_n 1, 1, 0, 0, 0, 0) := by decide +kernel
theorem l_64_8 : look 64 8 = some (.iaload, 1, 0, 0, 0, 0) := by decide +kernel
theorem l_64_9 : look 64 9 = some (.istore_n 2, 1, 0, 0, 0, 0) := by decide +kernel
theorem l_64_10 : look 64 10 = some (.iload_n 2, 1, 0, 0, 0, 0) := by decide +kernel
theorem l_64_11 : look 64 11 = some (.istore_n 3, 1, 0, 0, 0, 0) := by decide +kernel
theorem l_64_12 : look 64 12 = some (.iload_n 3, 1, 0, 0, 0, 0) := by decide +kernel
theorem l_64_13 : look 64 13 = some (.ifCond .le 30, 3, 0, 0, 0, 0) := by decide +kernel
theorem l_64_16 : look 64 16 = some (.aload_n 0, 1, 0, 0, 0, 0) := by decide +kernel
theorem l_64_17 : look 64 17 = some (.getfield 28, 3, 5, 2, 2, 638) := by decide +kernel
theorem l_64_20 : look 64 20 = some (.aload_n 0, 1, 0, 0, 0, 0) := by decide +kernel
theorem l_64_21 : look 64 21 = some (.getfield 47, 3, 5, 4, 0, 641) := by decide +kernel
theorem l_64_24 : look 64 24 = some (.aload_n 0, 1, 0, 0, 0, 0) := by decide +kernel
theorem l_64_25 : look 64 25 = some (.iload_n 1, 1, 0, 0, 0, 0) := by decide +kernel
theorem l_64_26 : look 64 26 = some (.iconst 0, 1, 0, 0, 0, 0) := by decide +kernel
theorem l_64_27 : look 64 27 = some (.invokevirtual 166, 3, 60, 3, 0, 1328) := by decide +kernel
theorem l_64_30 : look 64 30 = some (.iload_n 1, 1, 0, 0, 0, 0) := by decide +kernel
theorem l_64_31 : look 64 31 = some (.bipush 10, 2, 0, 0, 0, 0) := by decide +kernel
theorem l_64_33 : look 64 33 = some (.iconst (-1), 1, 0, 0, 0, 0) := by decide +kernel
theorem l_64_34 : look 64 34 = some (.invokevirtual 123, 3, 19, 6, 0, 1267) := by decide +kernel
theorem l_64_37 : look 64 37 = some (.iinc 3 (-1), 3, 0, 0, 0, 0) := by decide +kernel
theorem l_64_40 : look 64 40 = some (.goto (-28), 3, 0, 0, 0, 0) := by decide +kernel
theorem l_64_43 : look 64 43 = some (.aload_n 0, 1, 0, 0, 0, 0) := by decide +kernel
theorem l_64_44 : look 64 44 = some (.getfield 21, 3, 5, 1, 2, 636) := by decide +kernel
theorem l_64_47 : look 64 47 = some (.iload_n 1, 1, 0, 0, 0, 0) := by decide +kernel
theorem l_64_48 : look 64 48 = some (.invokevirtual 221, 3, 89, 2, 0, 1374) := by decide +kernel
theorem l_64_51 : look 64 51 = some (.aload_n 0, 1, 0, 0, 0, 0) := by decide +kernel
theorem l_64_52 : look 64 52 = some (.getfield 21, 3, 5, 1, 2, 636) := by decide +kernel
theorem l_64_55 : look 64 55 = some (.iload_n 1, 1, 0, 0, 0, 0) := by decide +kernel
theorem l_64_56 : look 64 56 = some (.iconst 0, 1, 0, 0, 0, 0) := by decide +kernel
theorem l_64_57 : look 64 57 = some (.invokevirtual 71, 3, 81, 3, 0, 1366) := by decide +kernel
theorem l_64_60 : look 64 60 = some (.iload_n 2, 1, 0, 0, 0, 0) := by decide +kernel
theorem l_64_61 : look 64 61 = some (.ireturn, 1, 0, 0, 0, 0) := by decide +kernel
theorem lp_64 {I0 : Ix} (o : oRun S T s x) {e ne np : Nat} {a : Nat → Nat} {p u m : Nat} (E : CE I0 s x e h l a ne np) (hp : p < lPorts l) (hu : u ≤ 360) {R : Ra} : ∀ (q : List Cp) (n : Nat) (I : Ix) (r : Ra), q.length = n → sQ r.1 p = q → cR I s h l r → okR h l np u r → fr I0 I (s + 6) (s + 17) → loseB e p q r = R →
    WP xs 64 2 12 [vr s, vi ((p : Nat) : Int), vi ((m : Nat) : Int), vi ((n : Nat) : Int)] [] (S, I, T, cc, zz) (RP S T cc zz (fun v I' => v = some (vi ((m : Nat) : Int)) ∧ cR I' s h l R ∧ fr I0 I' (s + 6) (s + 17))) := by
  intro q
  induction q with
  | nil =>
    intro n I r hn hq hR hk f hX
    have hn0 : n = 0 := hn.symm
    have hp4 := E.p4 hp
    have hE : (setUp (forgetS r.1 p) p false, r.2) = loseB e p [] r := by
      have h0 : setQ r.1 p [] = r.1 := by rw [← hq, setQ_id]
      show _ = (setUp (forgetS (setQ r.1 p []) p) p false, r.2)
      rw [h0]
    refine w_iln l_64_12 rfl ?_
    refine w_zle 43 l_64_13 (by decide) (fun _ => ?_) (fun hx => absurd hx (by omega))
    refine w_aln l_64_43 rfl ?_
    refine w_gr l_64_44 (oRun_sh o) (oRun_r1 o) ?_
    refine w_iln l_64_47 rfl ?_
    refine p_iv [vi ((p : Nat) : Int)] [] l_64_48 rfl rfl (Nat.le_of_ble_eq_true rfl) (by rw [mx_89]; exact Nat.le_of_ble_eq_true rfl) (by rw [mt_89]; exact oState_sh (oRun_o1 o)) (by rw [mt_89]; decide) (by rw [rk_89]; decide) (c_forget o hR hp4) (fun v I1 hv => ?_)
    obtain ⟨rfl, hR1, f1⟩ := hv
    refine w_aln l_64_51 rfl ?_
    refine w_gr l_64_52 (oRun_sh o) (oRun_r1 o) ?_
    refine w_iln l_64_55 rfl ?_
    refine w_ic l_64_56 (by decide) ?_
    refine p_iv [vi ((p : Nat) : Int), vi 0] [] l_64_57 rfl rfl (Nat.le_of_ble_eq_true rfl) (by rw [mx_81]; exact Nat.le_of_ble_eq_true rfl) (by rw [mt_81]; exact oState_sh (oRun_o1 o)) (by rw [mt_81]; decide) (by rw [rk_81]; decide) (c_linkF o hR1 hp4) (fun v I2 hv => ?_)
    obtain ⟨rfl, hR2, f2⟩ := hv
    refine w_iln l_64_60 rfl ?_
    refine w_ir l_64_61 (Or.inl rfl) ?_
    exact ⟨_, _, rfl, rfl, rfl, by rw [← hX, ← hE]; exact hR2, (f.tr f1).tr f2⟩
  | cons c q ih =>
    intro n I r hn hq hR hk f hX
    have hp4 := E.p4 hp
    have hlen : (sQ r.1 p).length = n := by rw [hq]; exact hn
    have hn1 : 0 < n := by rw [← hn]; exact Nat.succ_pos _
    have hn2 : q.length + 1 = n := hn
    have hll := ok_len hk E.ok p
    have h8 : r.2.1.length < 360 := by have h9 := ok_lt hk hp4; omega
    refine w_iln l_64_12 rfl ?_
    refine w_zle 43 l_64_13 (by decide) (fun hx => absurd hx (by omega)) (fun _ => ?_)
    refine w_aln l_64_16 rfl ?_
    refine w_gr l_64_17 (oRun_sh o) (oRun_r2 o) ?_
    refine w_aln l_64_20 rfl ?_
    refine w_gi ((e : Nat) : Int) l_64_21 (oRun_sh o) ((E.fr f).ev) ?_
    refine w_aln l_64_24 rfl ?_
    refine w_iln l_64_25 rfl ?_
    refine w_ic l_64_26 (by decide) ?_
    refine p_iv [vi ((p : Nat) : Int), vi 0] [vi ((e : Nat) : Int), vr (s + 14)] l_64_27 rfl rfl (Nat.le_of_ble_eq_true rfl) (by rw [mx_60]; exact Nat.le_of_ble_eq_true rfl) (by rw [mt_60]; exact oRun_sh o) (by rw [mt_60]; decide) (by rw [rk_60]; decide) (c_takeOut o (E.fr f) hR hk hp (i := 0) (by omega)) (fun v I1 hv => ?_)
    obtain ⟨rfl, hR1, f1⟩ := hv
    refine w_iln l_64_30 rfl ?_
    refine w_bp l_64_31 (by decide) ?_
    refine w_ic l_64_33 (by decide) ?_
    refine p_iv [vi ((e : Nat) : Int), vi ((((sQ r.1 p).getD 0 (0, 0)).1 : Nat) : Int), vi ((p : Nat) : Int), vi 10, vi (-1)] [] l_64_34 rfl rfl (Nat.le_of_ble_eq_true rfl) (by rw [mx_19]; exact Nat.le_of_ble_eq_true rfl) (by rw [mt_19]; exact oLog_sh (oRun_o2 o)) (by rw [mt_19]; decide) (by rw [rk_19]; decide) (c_addDrop o hR1 (by omega) (E.np (ok_hq hk 0 (by omega))) h8) (fun v I2 hv => ?_)
    obtain ⟨rfl, hR2, f2⟩ := hv
    refine w_inc (((n - 1) : Nat) : Int) l_64_37 rfl rfl (by unfold wr; omega) ?_
    refine w_go 12 l_64_40 (by decide) ?_
    refine ih (n - 1) I2 (outDr e p 0 10 (-1) r) (by omega) ?_ hR2 (ok_out hk hp4 (by omega)) ((f.tr f1).tr f2) ?_
    · show sQ (setQ r.1 p _) p = _
      rw [sQ_set, if_pos rfl, hq]; rfl
    · rw [loseB_1 hq]
      exact hX
theorem s_64 (o : oRun S T s x) {e ne np : Nat} {a : Nat → Nat} {u p : Nat} (E : CE I s x e h l a ne np) (hR : cR I s h l r) (hk : okR h l np u r) (hp : p < lPorts l) (hu : u ≤ 360) : CL xs 64 [vr s, vi ((p : Nat) : Int)] (S, I, T, cc, zz) (RP S T cc zz (fun v I' => v = some (vi (((loseA e p r).2 : Nat) : Int)) ∧ cR I' s h l (loseA e p r).1 ∧ fr I I' (s + 6) (s + 17))) := by
  refine CL_start (r := 2) (ls := [vr s, vi ((p : Nat) : Int), vs 2, vs 2]) (rk_64 _) rfl ?_
  have hp4 := E.p4 hp
  refine w_aln l_64_0 rfl ?_
  refine w_gr l_64_1 (oRun_sh o) (oRun_r1 o) ?_
  refine w_gr l_64_4 (oState_sh (oRun_o1 o)) (oState_r4 (oRun_o1 o)) ?_
  refine w_iln l_64_7 rfl ?_
  refine w_ia p (((sQ r.1 p).length : Nat) : Int) l_64_8 (oState_s4 (oRun_o1 o)) rfl (by omega) ((hR.1.2.2.2.2.1 p (E.p4 hp)).1) ?_
  refine w_isn l_64_9 ⟨Nat.le_of_ble_eq_true rfl, rfl⟩ ?_
  refine w_iln l_64_10 rfl ?_
  refine w_isn l_64_11 ⟨Nat.le_of_ble_eq_true rfl, rfl⟩ ?_
  exact lp_64 o E hp hu (sQ r.1 p) _ I r rfl rfl hR hk (fr.rf _ _ _) rfl

end DOJ
