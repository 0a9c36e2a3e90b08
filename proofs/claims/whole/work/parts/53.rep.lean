/-! the reference: a run -/
def okEv (h : Hi) (l : Li) (ne np : Nat) : Prop := ∀ e, e < ne → (hKind h e ≠ 1 → hPort h e < lPorts l) ∧ (hKind h e = 0 → hPk h e < np) ∧ hKind h e ≤ 3
theorem okT_of {l : Li} {A B : Sa} (H : okT l A) (e : B.2.2.2.2 = A.2.2.2.2) : okT l B := fun b w t hb => H b w t (by unfold sTab at hb ⊢; rw [← e]; exact hb)
theorem okT_tab {l : Li} {A : Sa} {b p t : Nat} (H : okT l A) (hp : p < lPorts l) : okT l (setTab A b (some (p, t))) := fun x w t' hb => by
  have e : sTab (setTab A b (some (p, t))) x = if x = b then some (p, t) else sTab A x := rfl
  rw [e] at hb
  split at hb
  · injection hb with e; injection e with e1 e2; omega
  · exact H x w t' hb
theorem arrive_T {h : Hi} {l : Li} {e p k : Nat} {r : Ra} (H : okT l r.1) (hp : p < lPorts l) : okT l (arriveA h l e p k r).1.1 := by
  unfold arriveA
  split
  · exact H
  · split
    · exact H
    · split
      · exact H
      · rename_i s1 hs
        have hs1 : okT l s1 := by
          unfold policeA at hs
          split at hs
          · injection hs with e; subst e; exact H
          · split at hs
            · cases hs
            · injection hs with e; subst e; exact okT_of H rfl
        have hs2 : okT l (setTab s1 (hSrc h k) (some (p, sTime s1))) := okT_tab hs1 hp
        simp only
        split
        · split
          · exact hs2
          · exact okT_of hs2 (puts_keep (r := (setTab s1 (hSrc h k) (some (p, sTime s1)), r.2)) _).2.2
        · split
          · exact hs2
          · exact okT_of hs2 (puts_keep (r := (setTab s1 (hSrc h k) (some (p, sTime s1)), r.2)) _).2.2
theorem delA_T {h : Hi} {p : Nat} : ∀ d (r : Ra), (delA h p d r).1.2.2.2.2 = r.1.2.2.2.2
  | 0, _ => rfl
  | d + 1, r => delA_T d _
theorem delsA_T {h : Hi} {l : Li} {r : Ra} : ∀ n, (delsA h l n r).1.1.2.2.2.2 = r.1.2.2.2.2
  | 0 => rfl
  | n + 1 => by
    cases hw : sUp (delsA h l n r).1.1 n
    · rw [dels_f hw]; exact delsA_T n
    · rw [dels_t hw]; exact (delA_T _ _).trans (delsA_T n)
theorem stalesA_T {l : Li} {e : Nat} {r : Ra} : ∀ n, (stalesA l e n r).1.2.2.2.2 = r.1.2.2.2.2
  | 0 => rfl
  | n + 1 => stalesA_T (l := l) (e := e) (r := r) n
theorem step_ok {h : Hi} {l : Li} {ne np u e : Nat} {r : Ra} (H : okR h l np u r) (hT : okT l r.1) (ok : okHi h) (okl : okLi l) (hev : okEv h l ne np) (he : e < ne) : okR h l np (u + 3) (stepA h l e r).1 ∧ okT l (stepA h l e r).1.1 ∧ sTime (stepA h l e r).1.1 ≤ sTime r.1 + 1 := by
  obtain ⟨h1, h2, h3⟩ := hev e he
  rcases (show hKind h e = 0 ∨ hKind h e = 1 ∨ hKind h e = 2 ∨ hKind h e = 3 by omega) with hk0 | hk0 | hk0 | hk0
  · rw [step_0 hk0]
    have g := arriveA_ok (e := e) H ok okl (h2 hk0) (h1 (by omega))
    exact ⟨g.1, arrive_T hT (h1 (by omega)), by rw [g.2]; exact Nat.le_succ _⟩
  · rw [step_1 hk0]
    have g := tickA_ok (e := e) H ok okl
    refine ⟨ok_le g.1 (by omega), okT_of hT ?_, by rw [g.2]; exact Nat.le_refl _⟩
    show (stalesA l e (lPorts l) (delsA h l (lPorts l) r).1).1.2.2.2.2 = _
    rw [stalesA_T, delsA_T]
  · rw [step_2 hk0]
    exact ⟨ok_le (show okR h l np u (setUp r.1 (hPort h e) true, r.2) from ⟨H.1, H.2.1, H.2.2⟩) (by omega), okT_of hT rfl, Nat.le_succ _⟩
  · rw [step_3 hk0]
    refine ⟨ok_le (loseA_ok H (Nat.lt_of_lt_of_le (h1 (by omega)) okl.1)) (by omega), fun b w t hb => ?_, Nat.le_succ _⟩
    have e1 : sTab (loseA e (hPort h e) r).1.1 b = match sTab r.1 b with
      | some (x, t) => if x = hPort h e then none else some (x, t)
      | none => none := rfl
    rw [e1] at hb
    cases hB : sTab r.1 b with
    | none => rw [hB] at hb; cases hb
    | some wt =>
      obtain ⟨w', t'⟩ := wt
      rw [hB] at hb
      simp only at hb
      split at hb
      · cases hb
      · rw [hb] at hB
        exact hT b w t hB
theorem begin_ok {h : Hi} {l : Li} {np : Nat} : okR h l np 0 (beginA l) ∧ okT l (beginA l).1 := by
  refine ⟨⟨fun p c hc => (by cases hc), fun p => Nat.zero_le _, Nat.le_refl _⟩, fun b w t hb => (by cases hb)⟩
theorem run_ok {h : Hi} {l : Li} {ne np : Nat} (ok : okHi h) (okl : okLi l) (hev : okEv h l ne np) {out : Nat → Bool} : ∀ e, e ≤ ne → okR h l np (3 * e) (runA h l out e) ∧ okT l (runA h l out e).1 ∧ sTime (runA h l out e).1 ≤ e
  | 0, _ => ⟨(begin_ok (h := h) (l := l) (np := np)).1, (begin_ok (h := h) (l := l) (np := np)).2, Nat.le_refl _⟩
  | e + 1, he => by
    obtain ⟨h1, h2, h3⟩ := run_ok (out := out) ok okl hev e (by omega)
    unfold runA
    split
    · exact ⟨ok_le h1 (by omega), h2, by omega⟩
    · have g := step_ok (e := e) h1 h2 ok okl hev (by omega)
      exact ⟨ok_le g.1 (by omega), g.2.1, by omega⟩
theorem cnt_le {h : Hi} {l : Li} {np u e : Nat} {r : Ra} (H : okR h l np u r) (ok : okHi h) (okl : okLi l) : ((0 : Int) ≤ ((cntP h l e r : Nat) : Int) ∧ ((cntP h l e r : Nat) : Int) ≤ 10000) ∧ ((0 : Int) ≤ ((cntD h l e r : Nat) : Int) ∧ ((cntD h l e r : Nat) : Int) ≤ 10000) := by
  have h1 : cntP h l e r ≤ 400 := by
    unfold cntP
    by_cases hk : hKind h e = 0
    · rw [if_pos hk, step_0 hk]
      have hp : ∀ way (r : Ra), (putsA h l e (hPk h e) way (lPorts l) r).2 ≤ 400 := fun way r => by
        have := puts_le (h := h) (l := l) (e := e) (k := hPk h e) (way := way) (r := r) (lPorts l)
        have := okl.1
        omega
      unfold arriveA
      split
      · exact Nat.zero_le _
      · split
        · exact Nat.zero_le _
        · split
          · exact Nat.zero_le _
          · simp only
            split
            · split
              · exact Nat.zero_le _
              · exact hp _ _
            · split
              · exact Nat.zero_le _
              · exact hp _ _
    · rw [if_neg hk]; exact Nat.zero_le _
  have h2 : cntD h l e r ≤ 400 := by
    unfold cntD
    by_cases hk : hKind h e = 1
    · rw [if_pos hk, step_1 hk]
      have g := (delsA_ok (l := l) H ok (lPorts l) okl.1).2.2
      have := okl.1
      show (delsA h l (lPorts l) r).2 ≤ 400
      omega
    · rw [if_neg hk]; exact Nat.zero_le _
  omega
def mfz (I J : Ix) (s : Nat) : Prop := ∀ y z, (y = s → z ≠ 55 ∧ z ≠ 66 ∧ z ≠ 67 ∧ z ≠ 68 ∧ z ≠ 69) → (s < y → y < s + 27 ∨ s + 37 < y) → J y z = I y z
theorem mfz.rf (I : Ix) (s : Nat) : mfz I I s := fun _ _ _ _ => rfl
theorem mfz.tr {I J K : Ix} {s : Nat} (h1 : mfz I J s) (h2 : mfz J K s) : mfz I K s := fun y z a b => (h2 y z a b).trans (h1 y z a b)
theorem mfr.z {I J : Ix} {s : Nat} (f : mfr I J s) : mfz I J s := fun y z a b => f y z (fun e => ⟨(a e).1, (a e).2.1, (a e).2.2.2.1, (a e).2.2.2.2⟩) b
theorem mfz.u {I : Ix} {s j : Nat} {v : Int} (hj : j = 67 ∨ j = 68 ∨ j = 69) : mfz I (up I s j v) s := fun y z a b => by
  by_cases hy : y = s
  · have := a hy
    rw [hy, up_nj (by omega)]
  · rw [up_no hy]
/-- what the reference's runs go by -/
def MB (I : Ix) (s : Nat) (h : Hi) (l : Li) (a : Nat → Nat) (ne np : Nat) (cd : Nat → Cd) : Prop := mH I s h a ne np ∧ nLi I s l ∧ nC I s h l a np cd ∧ okHi h ∧ okLi l ∧ okEv h l ne np ∧ ∀ k, k < np → I (s + 10) (7 * a k + 1) = ((hPort h (a k) : Nat) : Int)
theorem MB.fr {I J : Ix} {s : Nat} {h : Hi} {l : Li} {a : Nat → Nat} {ne np : Nat} {cd : Nat → Cd} (B : MB I s h l a ne np cd) (f : mfz I J s) : MB J s h l a ne np cd := by
  obtain ⟨b1, b2, b3, b4, b5, b6, b7⟩ := B
  have e0 : ∀ j, j ≠ 55 ∧ j ≠ 66 ∧ j ≠ 67 ∧ j ≠ 68 ∧ j ≠ 69 → J s j = I s j := fun j hj => f s j (fun _ => hj) (fun e => absurd e (Nat.lt_irrefl s))
  have e : ∀ j, j ≤ 26 ∧ 0 < j → ∀ z, J (s + j) z = I (s + j) z := fun j hj z => f (s + j) z (fun e => by omega) (fun _ => by omega)
  refine ⟨?_, ?_, ?_, b4, b5, b6, fun k hk => by rw [e 10 (by decide)]; exact b7 k hk⟩
  · unfold mH at b1 ⊢
    simp only [e 10 (by decide), e 11 (by decide)]
    exact b1
  · unfold nLi at b2 ⊢
    simp only [e0 1 (by decide), e0 50 (by decide), e0 51 (by decide), e0 52 (by decide), e0 53 (by decide), e0 10 (by decide), e 25 (by decide), e 3 (by decide), e 4 (by decide), e 5 (by decide), e 6 (by decide)]
    exact b2
  · unfold nC codesAt at b3 ⊢
    simp only [e 7 (by decide), e 8 (by decide), e 9 (by decide)]
    exact b3
theorem MB.E {I : Ix} {s : Nat} {h : Hi} {l : Li} {a : Nat → Nat} {ne np e : Nat} {cd : Nat → Cd} (B : MB I s h l a ne np cd) (he : I s 67 = (e : Int)) : ME I s e h l a ne np := ⟨B.1, B.2.1, he, B.2.2.2.1, B.2.2.2.2.1⟩
theorem nR.c {I : Ix} {s j : Nat} {v : Int} {l : Li} {r : Ra} (hR : nR I s l r) (hj : j = 67 ∨ j = 68 ∨ j = 69) : nR (up I s j v) s l r :=
  ⟨hR.1.fr (up_nj (by omega)) fun y h1 h2 z => up_no (by omega), hR.2.fr (up_nj (by omega)) fun y h1 h2 z => up_no (by omega)⟩
section REP
variable {xs : List Int} {S : List (Nat × Nat)} {T : Nat → Nat → Nat} {cc zz s : Nat} {h : Hi} {l : Li} {r : Ra} {I I' : Ix}

theorem mx_214 : mxl 214 = 3 := by decide +kernel
theorem mt_214 : mtc 214 = 10 := by decide +kernel
theorem rk_214 (as : List AV) : rkA 214 as = 8 := rfl
theorem l_214_0 : look 214 0 = some (.aload_n 0, 1, 0, 0, 0, 0) := by decide +kernel
theorem l_214_1 : look 214 1 = some (.invokevirtual 378, 3, 213, 1, 0, 1909) := by decide +kernel
theorem l_214_4 : look 214 4 = some (.iconst 0, 1, 0, 0, 0, 0) := by decide +kernel
theorem l_214_5 : look 214 5 = some (.istore_n 2, 1, 0, 0, 0, 0) := by decide +kernel
theorem l_214_6 : look 214 6 = some (.iload_n 2, 1, 0, 0, 0, 0) := by decide +kernel
theorem l_214_7 : look 214 7 = some (.iload_n 1, 1, 0, 0, 0, 0) := by decide +kernel
theorem l_214_8 : look 214 8 = some (.if_icmp .ge 38, 3, 0, 0, 0, 0) := by decide +kernel
theorem l_214_11 : look 214 11 = some (.aload_n 0, 1, 0, 0, 0, 0) := by decide +kernel
theorem l_214_12 : look 214 12 = some (.iload_n 2, 1, 0, 0, 0, 0) := by decide +kernel
theorem l_214_13 : look 214 13 = some (.putfield 372, 3, 10, 67, 0, 1568) := by decide +kernel
theorem l_214_16 : look 214 16 = some (.aload_n 0, 1, 0, 0, 0, 0) := by decide +kernel
theorem l_214_17 : look 214 17 = some (.iconst 0, 1, 0, 0, 0, 0) := by decide +kernel
theorem l_214_18 : look 214 18 = some (.putfield 381, 3, 10, 68, 0, 1569) := by decide +kernel
theorem l_214_21 : look 214 21 = some (.aload_n 0, 1, 0, 0, 0, 0) := by decide +kernel
theorem l_214_22 : look 214 22 = some (.iconst 0, 1, 0, 0, 0, 0) := by decide +kernel
theorem l_214_23 : look 214 23 = some (.putfield 384, 3, 10, 69, 0, 1570) := by decide +kernel
theorem l_214_26 : look 214 26 = some (.aload_n 0, 1, 0, 0, 0, 0) := by decide +kernel
theorem l_214_27 : look 214 27 = some (.getfield 110, 3, 10, 54, 2, 1555) := by decide +kernel
theorem l_214_30 : look 214 30 = some (.iload_n 2, 1, 0, 0, 0, 0) := by decide +kernel
theorem l_214_31 : look 214 31 = some (.baload, 1, 0, 0, 0, 0) := by decide +kernel
theorem l_214_32 : look 214 32 = some (.ifCond .ne 8, 3, 0, 0, 0, 0) := by decide +kernel
theorem l_214_35 : look 214 35 = some (.aload_n 0, 1, 0, 0, 0, 0) := by decide +kernel
theorem l_214_36 : look 214 36 = some (.iload_n 2, 1, 0, 0, 0, 0) := by decide +kernel
theorem l_214_37 : look 214 37 = some (.invokevirtual 387, 3, 216, 2, 0, 1913) := by decide +kernel
theorem l_214_40 : look 214 40 = some (.iinc 2 1, 3, 0, 0, 0, 0) := by decide +kernel
theorem l_214_43 : look 214 43 = some (.goto (-37), 3, 0, 0, 0, 0) := by decide +kernel
theorem l_214_46 : look 214 46 = some (.return_, 1, 0, 0, 0, 0) := by decide +kernel

theorem run_s {out : Nat → Bool} {e : Nat} (ho : out e = false) : runA h l out (e + 1) = (stepA h l e (runA h l out e)).1 := by
  rw [runA, if_neg (by rw [ho]; decide)]
theorem run_o {out : Nat → Bool} {e : Nat} (ho : out e = true) : runA h l out (e + 1) = runA h l out e := by
  rw [runA, if_pos ho]
theorem lp_214 {I0 : Ix} (hm : oModel S T s) {ne np n : Nat} {a : Nat → Nat} {cd : Nat → Cd} {out : Nat → Bool} (B : MB I0 s h l a ne np cd) (hn : n ≤ ne) (hout : ∀ e, e < n → I0 (s + 26) e = b2i (out e)) : ∀ d e I, e + d = n → nR I s l (runA h l out e) → mfz I0 I s → (∀ e', e = e' + 1 → out e' = false → I s 68 = ((cntP h l e' (runA h l out e') : Nat) : Int) ∧ I s 69 = ((cntD h l e' (runA h l out e') : Nat) : Int)) →
    WP xs 214 8 6 [vr s, vi ((n : Nat) : Int), vi ((e : Nat) : Int)] [] (S, I, T, cc, zz) (RP S T cc zz (fun v I' => v = none ∧ nR I' s l (runA h l out n) ∧ mfz I0 I' s ∧ ∀ e, n = e + 1 → out e = false → I' s 68 = ((cntP h l e (runA h l out e) : Nat) : Int) ∧ I' s 69 = ((cntD h l e (runA h l out e) : Nat) : Int))) := by
  intro d
  have hne := B.1.1
  induction d with
  | zero =>
    intro e I hd hR f hc
    refine w_iln l_214_6 rfl ?_
    refine w_iln l_214_7 rfl ?_
    refine w_cge 46 l_214_8 (by decide) (fun _ => ?_) (fun hx => absurd hx (by omega))
    refine w_vr l_214_46 ?_
    have e9 : e = n := by omega
    rw [e9] at hR hc
    exact ⟨_, _, rfl, rfl, rfl, hR, f, hc⟩
  | succ d ih =>
    intro e I hd hR f hc
    have he : e < ne := by omega
    have hok := run_ok B.2.2.2.1 B.2.2.2.2.1 B.2.2.2.2.2.1 (out := out) e (by omega)
    have hu : 3 * e + 3 ≤ 360 := by omega
    have ho : I (s + 26) e = b2i (out e) := by rw [f (s + 26) e (fun q => by omega) (fun _ => by omega)]; exact hout e (by omega)
    have fm : mfz I0 (up (up (up I s 67 ((e : Nat) : Int)) s 68 0) s 69 0) s := ((f.tr (mfz.u (Or.inl rfl))).tr (mfz.u (Or.inr (Or.inl rfl)))).tr (mfz.u (Or.inr (Or.inr rfl)))
    have hR1 : nR (up (up (up I s 67 ((e : Nat) : Int)) s 68 0) s 69 0) s l (runA h l out e) := ((hR.c (Or.inl rfl)).c (Or.inr (Or.inl rfl))).c (Or.inr (Or.inr rfl))
    have B1 : MB (up (up (up I s 67 ((e : Nat) : Int)) s 68 0) s 69 0) s h l a ne np cd := B.fr fm
    have E1 : ME (up (up (up I s 67 ((e : Nat) : Int)) s 68 0) s 69 0) s e h l a ne np := B1.E (by rw [up_nj (by decide), up_nj (by decide), up_eq])
    refine w_iln l_214_6 rfl ?_
    refine w_iln l_214_7 rfl ?_
    refine w_cge 46 l_214_8 (by decide) (fun hx => absurd hx (by omega)) (fun _ => ?_)
    refine w_aln l_214_11 rfl ?_
    refine w_iln l_214_12 rfl ?_
    refine w_pi l_214_13 (oModel_sh hm) ?_
    refine w_aln l_214_16 rfl ?_
    refine w_ic l_214_17 (by decide) ?_
    refine w_pi l_214_18 (oModel_sh hm) ?_
    refine w_aln l_214_21 rfl ?_
    refine w_ic l_214_22 (by decide) ?_
    refine w_pi l_214_23 (oModel_sh hm) ?_
    refine w_aln l_214_26 rfl ?_
    refine w_gr l_214_27 (oModel_sh hm) (oModel_r54 hm) ?_
    refine w_iln l_214_30 rfl ?_
    refine w_ba e (b2i (out e)) l_214_31 (Or.inr (oModel_s54 hm)) rfl (by omega) ((up_no (by omega)).trans ((up_no (by omega)).trans ((up_no (by omega)).trans (ho)))) ?_
    refine w_bne 40 l_214_32 (by decide) (fun h1 => ?_) (fun h1 => ?_)
    · skip
      refine w_inc ((e + 1 : Nat) : Int) l_214_40 rfl rfl (by unfold wr; omega) ?_
      refine w_go 6 l_214_43 (by decide) ?_
      refine ih (e + 1) _ (by omega) ?_ fm ?_
      · rw [run_o h1]; exact hR1
      · intro e' he' ho'
        have : e' = e := by omega
        subst this
        exact absurd (h1.symm.trans ho') (by decide)
    · skip
      refine w_aln l_214_35 rfl ?_
      refine w_iln l_214_36 rfl ?_
      refine p_iv [vi ((e : Nat) : Int)] [] l_214_37 rfl rfl (Nat.le_of_ble_eq_true rfl) (by rw [mx_216]; exact Nat.le_of_ble_eq_true rfl) (by rw [mt_216]; exact oModel_sh hm) (by rw [mt_216]; decide) (by rw [rk_216]; decide) (s_216 hm E1 B1.2.2.1 hR1 hok.1 hok.2.1 hu he (by omega) B1.2.2.2.2.2.1 B1.2.2.2.2.2.2) (fun v I1 hv => ?_)
      obtain ⟨rfl, hR2, f2⟩ := hv
      refine w_inc ((e + 1 : Nat) : Int) l_214_40 rfl rfl (by unfold wr; omega) ?_
      refine w_go 6 l_214_43 (by decide) ?_
      refine ih (e + 1) I1 (by omega) ?_ (fm.tr f2.1.z) ?_
      · rw [run_s h1]; exact hR2
      · intro e' he' ho
        have : e' = e := by omega
        subst this
        refine ⟨?_, ?_⟩
        · have h9 := f2.2.1
          rw [up_nj (by decide), up_eq] at h9
          exact h9.val (cnt_le hok.1 B.2.2.2.1 B.2.2.2.2.1).1
        · have h9 := f2.2.2
          rw [up_eq] at h9
          exact h9.val (cnt_le hok.1 B.2.2.2.1 B.2.2.2.2.1).2
theorem s_214 (hm : oModel S T s) {ne np n : Nat} {a : Nat → Nat} {cd : Nat → Cd} {out : Nat → Bool} (B : MB I s h l a ne np cd) (hn : n ≤ ne) (hout : ∀ e, e < n → I (s + 26) e = b2i (out e)) : CL xs 214 [vr s, vi ((n : Nat) : Int)] (S, I, T, cc, zz) (RP S T cc zz (fun v I' => v = none ∧ nR I' s l (runA h l out n) ∧ mfz I I' s ∧ ∀ e, n = e + 1 → out e = false → I' s 68 = ((cntP h l e (runA h l out e) : Nat) : Int) ∧ I' s 69 = ((cntD h l e (runA h l out e) : Nat) : Int))) := by
  refine CL_start (r := 8) (ls := [vr s, vi ((n : Nat) : Int), vs 2]) (rk_214 _) rfl ?_
  refine w_aln l_214_0 rfl ?_
  refine p_iv [] [] l_214_1 rfl rfl (Nat.le_of_ble_eq_true rfl) (by rw [mx_213]; exact Nat.le_of_ble_eq_true rfl) (by rw [mt_213]; exact oModel_sh hm) (by rw [mt_213]; decide) (by rw [rk_213]; decide) (r_begins hm B.2.1 B.2.2.2.2.1) (fun v I1 hv => ?_)
  obtain ⟨rfl, hR1, f1⟩ := hv
  refine w_ic l_214_4 (by decide) ?_
  refine w_isn l_214_5 ⟨Nat.le_of_ble_eq_true rfl, rfl⟩ ?_
  refine WP_mono (lp_214 (out := out) hm (B.fr f1.1.z) hn (fun e he => by rw [f1.1 (s + 26) e (fun q => by omega) (fun _ => by omega)]; exact hout e he) n 0 I1 (Nat.zero_add _) hR1 (mfz.rf _ _) (fun e' he' => by omega)) ?_
  rintro q m' ⟨v, J, e1, e2, e3, e4, e5, e6⟩
  exact ⟨v, J, e1, e2, e3, e4, f1.1.z.tr e5, e6⟩

end REP
