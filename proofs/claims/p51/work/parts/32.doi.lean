/-! the class: a run's doings -/
theorem cS.fr {I J : Ix} {s lo hi : Nat} {h : Hi} {l : Li} {A : Sa} (H : cS I s h l A) (f : fr I J lo hi) (d : hi < s ∨ s + 7 < lo) : cS J s h l A := by
  obtain ⟨h1, h2, h3, h4, h5, h6⟩ := H
  have e : ∀ j, j ≤ 7 → ∀ y, J (s + j) y = I (s + j) y := fun j hj y => f (s + j) (by omega) y
  have e0 : ∀ y, J s y = I s y := fun y => f s (by omega) y
  refine ⟨by rw [e0]; exact h1, ?_, fun p hp hl => ?_, fun p hp => ?_, fun p hp => ?_, fun a ha => ?_⟩
  · obtain ⟨d, g1, g2⟩ := h2
    exact ⟨d, by rw [e0]; exact g1, g2⟩
  · rw [e 1 (by decide)]; exact h3 p hp hl
  · rw [e 2 (by decide)]; exact h4 p hp
  · obtain ⟨g1, g2, g3, g4⟩ := h5 p hp
    exact ⟨by rw [e 3 (by decide)]; exact g1, g2, rowR_eq g3 (fun k _ => e 4 (by decide) _), rowR_eq g4 (fun k _ => e 5 (by decide) _)⟩
  · have g := h6 a ha
    unfold cT at g ⊢
    rw [e 6 (by decide), e 7 (by decide)]
    exact g
/-- what a run of the class holds -/
def cR (I : Ix) (s : Nat) (h : Hi) (l : Li) (r : Ra) : Prop := cS I (s + 6) h l r.1 ∧ cL I (s + 14) r.2
/-- the limits of the class -/
def cLi (I : Ix) (s : Nat) (l : Li) : Prop := I s 0 = (lPorts l : Int) ∧ (∀ p, p < lPorts l → I (s + 1) p = (lCap l p : Int) ∧ I (s + 2) p = (lSpeed l p : Int) ∧ (match lPol l p with
  | none => I (s + 3) p = -1
  | some (r, b) => I (s + 3) p = (r : Int) ∧ I (s + 4) p = (b : Int))) ∧ I s 5 = (lBuf l : Int) ∧ I s 6 = (lWait l : Int) ∧ I s 7 = (lAge l : Int) ∧ (∃ d : Nat, I s 8 = (d : Int) ∧ d < 256 ∧ ∀ r, r < 8 → (bt d r ≠ 0 ↔ lDrop l r = true)) ∧
  ∃ d : Nat, I s 9 = (d : Int) ∧ d < 256 ∧ ∀ r, r < 8 → (bt d r ≠ 0 ↔ lIdle l r = true)
theorem cLi.fr {I J : Ix} {s lo hi : Nat} {l : Li} (H : cLi I s l) (f : fr I J lo hi) (d : hi < s ∨ s + 4 < lo) : cLi J s l := by
  have e : ∀ j, j ≤ 4 → ∀ y, J (s + j) y = I (s + j) y := fun j hj y => f (s + j) (by omega) y
  have e0 : ∀ y, J s y = I s y := fun y => f s (by omega) y
  unfold cLi at H ⊢
  simp only [e0, e 1 (by decide), e 2 (by decide), e 3 (by decide), e 4 (by decide)]
  exact H
/-- what a run of the class goes by while the event e happens -/
def CE (I : Ix) (s x e : Nat) (h : Hi) (l : Li) (a : Nat → Nat) (ne np : Nat) : Prop := cH I x h a ne np ∧ cLi I (s + 1) l ∧ I s 4 = (e : Int) ∧ x + 9 < s ∧ (∀ k, k < np → ∃ d : Nat, I (x + 9) k = (d : Int) ∧ d < 256 ∧ ∀ r, r < 8 → (bt d r ≠ 0 ↔ (r < lRules l ∧ hHol h k r = true))) ∧ okHi h ∧ okLi l
theorem CE.H {I : Ix} {s x e : Nat} {h : Hi} {l : Li} {a : Nat → Nat} {ne np : Nat} (E : CE I s x e h l a ne np) : cH I x h a ne np := E.1
theorem CE.L {I : Ix} {s x e : Nat} {h : Hi} {l : Li} {a : Nat → Nat} {ne np : Nat} (E : CE I s x e h l a ne np) : cLi I (s + 1) l := E.2.1
theorem CE.ev {I : Ix} {s x e : Nat} {h : Hi} {l : Li} {a : Nat → Nat} {ne np : Nat} (E : CE I s x e h l a ne np) : I s 4 = (e : Int) := E.2.2.1
theorem CE.d {I : Ix} {s x e : Nat} {h : Hi} {l : Li} {a : Nat → Nat} {ne np : Nat} (E : CE I s x e h l a ne np) : x + 9 < s := E.2.2.2.1
theorem CE.rules {I : Ix} {s x e : Nat} {h : Hi} {l : Li} {a : Nat → Nat} {ne np : Nat} (E : CE I s x e h l a ne np) : ∀ k, k < np → ∃ d : Nat, I (x + 9) k = (d : Int) ∧ d < 256 ∧ ∀ r, r < 8 → (bt d r ≠ 0 ↔ (r < lRules l ∧ hHol h k r = true)) := E.2.2.2.2.1
theorem CE.ok {I : Ix} {s x e : Nat} {h : Hi} {l : Li} {a : Nat → Nat} {ne np : Nat} (E : CE I s x e h l a ne np) : okHi h := E.2.2.2.2.2.1
theorem CE.okl {I : Ix} {s x e : Nat} {h : Hi} {l : Li} {a : Nat → Nat} {ne np : Nat} (E : CE I s x e h l a ne np) : okLi l := E.2.2.2.2.2.2
theorem CE.fr {I J : Ix} {s x e : Nat} {h : Hi} {l : Li} {a : Nat → Nat} {ne np : Nat} (E : CE I s x e h l a ne np) (f : fr I J (s + 6) (s + 17)) : CE J s x e h l a ne np :=
  ⟨E.H.fr f (Or.inr (by have := E.d; omega)), E.L.fr f (Or.inr (by omega)), by rw [f s (by omega) 4]; exact E.ev, E.d, fun k hk => by rw [f (x + 9) (by have := E.d; omega) k]; exact E.rules k hk, E.ok, E.okl⟩
theorem CE.p4 {I : Ix} {s x e : Nat} {h : Hi} {l : Li} {a : Nat → Nat} {ne np p : Nat} (E : CE I s x e h l a ne np) (hp : p < lPorts l) : p < 4 := Nat.lt_of_lt_of_le hp E.okl.1
theorem CE.np {I : Ix} {s x e : Nat} {h : Hi} {l : Li} {a : Nat → Nat} {ne np k : Nat} (E : CE I s x e h l a ne np) (hk : k < np) : k < 120 := by
  have h1 := E.H.2.2.1
  have h2 := E.H.2.2.2.1
  omega
section DOI
variable {xs : List Int} {S : List (Nat × Nat)} {T : Nat → Nat → Nat} {cc zz s x : Nat} {h : Hi} {l : Li} {r : Ra} {I I' : Ix}
theorem cR_L {g : Lo} (hR : cR I s h l r) (hL : cL I' (s + 14) g) (f : fr I I' (s + 14) (s + 14 + 3)) : cR I' s h l (r.1, g) ∧ fr I I' (s + 6) (s + 17) :=
  ⟨⟨hR.1.fr f (Or.inr (by omega)), hL⟩, f.mono (by omega) (by omega)⟩
theorem cR_S {A : Sa} (hR : cR I s h l r) (hS : cS I' (s + 6) h l A) (f : fr I I' (s + 6) (s + 6 + 7)) : cR I' s h l (A, r.2) ∧ fr I I' (s + 6) (s + 17) :=
  ⟨⟨hS, hR.2.fr f (Or.inl (by omega))⟩, f.mono (by omega) (by omega)⟩

theorem c_addDrop (o : oRun S T s x) (hR : cR I s h l r) {e k c : Nat} {port d : Int} (hp : -1 ≤ port ∧ port ≤ 3) (hk : k < 120) (hn : r.2.1.length < 360) :
    CL xs 19 [vr (s + 14), vi ((e : Nat) : Int), vi ((k : Nat) : Int), vi port, vi ((c : Nat) : Int), vi d] (S, I, T, cc, zz) (RP S T cc zz (fun v I' => v = none ∧ cR I' s h l (r.1, addDr r.2 e k port c d) ∧ fr I I' (s + 6) (s + 17))) :=
  CL_mono (l_addDrop (oRun_o2 o) hR.2 hp hk hn) fun _ _ ⟨v, J, h1, h2, h3, h4, h5⟩ => ⟨v, J, h1, h2, h3, cR_L hR h4 h5⟩
theorem c_setFate (o : oRun S T s x) (hR : cR I s h l r) {k y : Nat} {port : Int} (hp : -1 ≤ port ∧ port ≤ 3) (hk : k < 120) :
    CL xs 21 [vr (s + 14), vi ((k : Nat) : Int), vi port, vi ((y : Nat) : Int)] (S, I, T, cc, zz) (RP S T cc zz (fun v I' => v = none ∧ cR I' s h l (r.1, setFate r.2 k (port + 1).toNat y) ∧ fr I I' (s + 6) (s + 17))) :=
  CL_mono (l_setFate (oRun_o2 o) hR.2 hp hk) fun _ _ ⟨v, J, h1, h2, h3, h4, h5⟩ => ⟨v, J, h1, h2, h3, cR_L hR h4 h5⟩
theorem c_addDel (o : oRun S T s x) (hR : cR I s h l r) {k p : Nat} (hk : k < 120) (hp : p < 4) (hn : r.2.2.2 p < 100000) :
    CL xs 20 [vr (s + 14), vi ((k : Nat) : Int), vi ((p : Nat) : Int)] (S, I, T, cc, zz) (RP S T cc zz (fun v I' => v = none ∧ cR I' s h l (r.1, addDel r.2 k p) ∧ fr I I' (s + 6) (s + 17))) :=
  CL_mono (l_addDel (oRun_o2 o) hR.2 hk hp hn) fun _ _ ⟨v, J, h1, h2, h3, h4, h5⟩ => ⟨v, J, h1, h2, h3, cR_L hR h4 h5⟩
theorem c_takeOut (o : oRun S T s x) {e ne np : Nat} {a : Nat → Nat} (E : CE I s x e h l a ne np) (hR : cR I s h l r) {u p i : Nat} (hk : okR h l np u r) (hp : p < lPorts l) (hi : i < (sQ r.1 p).length) :
    CL xs 60 [vr s, vi ((p : Nat) : Int), vi ((i : Nat) : Int)] (S, I, T, cc, zz) (RP S T cc zz (fun v I' => v = some (vi ((((sQ r.1 p).getD i (0, 0)).1 : Nat) : Int)) ∧ cR I' s h l (setQ r.1 p ((sQ r.1 p).eraseIdx i), r.2) ∧ fr I I' (s + 6) (s + 17))) :=
  CL_mono (s_60 o E.H E.ok hR.1 (E.p4 hp) (ok_hq hk) hi) fun _ _ ⟨v, J, h1, h2, h3, h4, h5⟩ => ⟨v, J, h1, h2, h3, cR_S hR h4 h5⟩
theorem c_putLast (o : oRun S T s x) {e ne np : Nat} {a : Nat → Nat} (E : CE I s x e h l a ne np) (hR : cR I s h l r) {u p k : Nat} (hk : okR h l np u r) (hp : p < lPorts l) :
    CL xs 86 [vr (s + 6), vi ((p : Nat) : Int), vi ((k : Nat) : Int), vi ((hSiz h k : Nat) : Int)] (S, I, T, cc, zz) (RP S T cc zz (fun v I' => v = none ∧ cR I' s h l (setQ r.1 p (sQ r.1 p ++ [(k, sTime r.1)]), r.2) ∧ fr I I' (s + 6) (s + 17))) :=
  CL_mono (t_putLast (oRun_o1 o) hR.1 E.ok (E.p4 hp) (by have := ok_len hk E.ok p; omega)) fun _ _ ⟨v, J, h1, h2, h3, h4, h5⟩ => ⟨v, J, h1, h2, h3, cR_S hR h4 h5⟩

theorem mx_53 : mxl 53 = 4 := by decide +kernel
theorem mt_53 : mtc 53 = 5 := by decide +kernel
theorem rk_53 (as : List AV) : rkA 53 as = 2 := rfl
theorem l_53_0 : look 53 0 = some (.aload_n 0, 1, 0, 0, 0, 0) := by decide +kernel
theorem l_53_1 : look 53 1 = some (.getfield 28, 3, 5, 2, 2, 638) := by decide +kernel
theorem l_53_4 : look 53 4 = some (.aload_n 0, 1, 0, 0, 0, 0) := by decide +kernel
theorem l_53_5 : look 53 5 = some (.getfield 47, 3, 5, 4, 0, 641) := by decide +kernel
theorem l_53_8 : look 53 8 = some (.iload_n 1, 1, 0, 0, 0, 0) := by decide +kernel
theorem l_53_9 : look 53 9 = some (.iconst (-1), 1, 0, 0, 0, 0) := by decide +kernel
theorem l_53_10 : look 53 10 = some (.iload_n 2, 1, 0, 0, 0, 0) := by decide +kernel
theorem l_53_11 : look 53 11 = some (.iload_n 3, 1, 0, 0, 0, 0) := by decide +kernel
theorem l_53_12 : look 53 12 = some (.invokevirtual 123, 3, 19, 6, 0, 1267) := by decide +kernel
theorem l_53_15 : look 53 15 = some (.iconst 0, 1, 0, 0, 0, 0) := by decide +kernel
theorem l_53_16 : look 53 16 = some (.ireturn, 1, 0, 0, 0, 0) := by decide +kernel
theorem s_53 (o : oRun S T s x) {e ne np : Nat} {a : Nat → Nat} (E : CE I s x e h l a ne np) (hR : cR I s h l r) {k c : Nat} {d : Int} (hk : k < np) (hn : r.2.1.length < 360) : CL xs 53 [vr s, vi ((k : Nat) : Int), vi ((c : Nat) : Int), vi d] (S, I, T, cc, zz) (RP S T cc zz (fun v I' => v = some (vi 0) ∧ cR I' s h l (r.1, addDr r.2 e k (-1) c d) ∧ fr I I' (s + 6) (s + 17))) := by
  refine CL_start (r := 2) (ls := [vr s, vi ((k : Nat) : Int), vi ((c : Nat) : Int), vi d]) (rk_53 _) rfl ?_
  refine w_aln l_53_0 rfl ?_
  refine w_gr l_53_1 (oRun_sh o) (oRun_r2 o) ?_
  refine w_aln l_53_4 rfl ?_
  refine w_gi ((e : Nat) : Int) l_53_5 (oRun_sh o) E.ev ?_
  refine w_iln l_53_8 rfl ?_
  refine w_ic l_53_9 (by decide) ?_
  refine w_iln l_53_10 rfl ?_
  refine w_iln l_53_11 rfl ?_
  refine p_iv [vi ((e : Nat) : Int), vi ((k : Nat) : Int), vi (-1), vi ((c : Nat) : Int), vi d] [] l_53_12 rfl rfl (Nat.le_of_ble_eq_true rfl) (by rw [mx_19]; exact Nat.le_of_ble_eq_true rfl) (by rw [mt_19]; exact oLog_sh (oRun_o2 o)) (by rw [mt_19]; decide) (by rw [rk_19]; decide) (c_addDrop o hR (by omega) (E.np hk) hn) (fun v I1 hv => ?_)
  obtain ⟨rfl, hR1, f1⟩ := hv
  refine w_ic l_53_15 (by decide) ?_
  refine w_ir l_53_16 (Or.inl rfl) ?_
  exact ⟨_, _, rfl, rfl, rfl, hR1, f1⟩


theorem t_ageOf (o : oState S T s) {A : Sa} (hA : cS I s h l A) {p i : Nat} (hp : p < 4) (hi : i < (sQ A p).length) (ht : ((sQ A p).getD i (0, 0)).2 ≤ sTime A) :
    CL xs 85 [vr s, vi ((p : Nat) : Int), vi ((i : Nat) : Int)] (S, I, T, cc, zz) (FN (some (vi ((sTime A - ((sQ A p).getD i (0, 0)).2 : Nat) : Int))) (S, I, T, cc, zz)) := by
  obtain ⟨b1, b2, b3, b4⟩ := hA.2.2.2.2.1 p hp
  have b5 := b4 i (by rw [List.length_map]; exact hi)
  rw [(getD_m hi).2] at b5
  have b6 := hA.1.2
  refine CL_start (r := 0) (ls := [vr s, vi ((p : Nat) : Int), vi ((i : Nat) : Int)]) (rk_85 _) rfl ?_
  refine w_iln l_85_0 rfl ?_
  refine w_zlt 33 l_85_1 (by decide) (fun hx => absurd hx (by omega)) (fun _ => ?_)
  refine w_iln l_85_4 rfl ?_
  refine w_aln l_85_5 rfl ?_
  refine w_gr l_85_6 (oState_sh o) (oState_r4 o) ?_
  refine w_iln l_85_9 rfl ?_
  refine w_ia p (((sQ A p).length : Nat) : Int) l_85_10 (oState_s4 o) rfl (by omega) b1 ?_
  refine w_cge 33 l_85_11 (by decide) (fun hx => absurd hx (by omega)) (fun _ => ?_)
  refine w_aln l_85_14 rfl ?_
  refine w_gi (((sTime A) : Nat) : Int) l_85_15 (oState_sh o) hA.1.1 ?_
  refine w_aln l_85_18 rfl ?_
  refine w_gr l_85_19 (oState_sh o) (oState_r6 o) ?_
  refine w_iln l_85_22 rfl ?_
  refine w_bp l_85_23 (by decide) ?_
  refine w_mul ((p * 120 : Nat) : Int) l_85_25 (by unfold wr; omega) ?_
  refine w_iln l_85_26 rfl ?_
  refine w_add ((p * 120 + i : Nat) : Int) l_85_27 (by unfold wr; omega) ?_
  refine w_ia (p * 120 + i) ((((sQ A p).getD i (0, 0)).2 : Nat) : Int) l_85_28 (oState_s6 o) rfl (by omega) b5 ?_
  refine w_sub (((sTime A - ((sQ A p).getD i (0, 0)).2) : Nat) : Int) l_85_29 (by unfold wr; omega) ?_
  refine w_go 34 l_85_30 (by decide) ?_
  refine w_ir l_85_34 (Or.inl rfl) ?_
  exact ⟨rfl, rfl⟩

def staleB (l : Li) (e p : Nat) (kept rest : List Cp) (r : Ra) : Ra := (setQ r.1 p (kept ++ rest.filter (fun c => !isStale l r.1 c)), (rest.filter (isStale l r.1)).foldl (fun g c => addDr g e c.1 p 9 (-1)) r.2)
theorem getD_mid {a b : List Cp} {c : Cp} : (a ++ c :: b).getD a.length (0, 0) = c := by simp
theorem er_mid {a b : List Cp} {c : Cp} : (a ++ c :: b).eraseIdx a.length = a ++ b := by
  rw [List.eraseIdx_append_of_length_le (Nat.le_refl _), Nat.sub_self]; rfl
theorem staleB_0 {e p : Nat} {kept rest : List Cp} {c : Cp} (hc : isStale l r.1 c = false) : staleB l e p (kept ++ [c]) rest r = staleB l e p kept (c :: rest) r := by
  unfold staleB
  rw [List.filter_cons_of_pos (by rw [hc]; rfl), List.filter_cons_of_neg (by rw [hc]; decide), List.append_assoc]
  rfl
theorem staleB_1 {e p : Nat} {kept rest : List Cp} {c : Cp} (hq : sQ r.1 p = kept ++ c :: rest) (hc : isStale l r.1 c = true) : staleB l e p kept rest (outDr e p kept.length 9 (-1) r) = staleB l e p kept (c :: rest) r := by
  unfold staleB
  rw [List.filter_cons_of_neg (by rw [hc]; decide), List.filter_cons_of_pos hc]
  show (setQ (setQ r.1 p _) p _, _) = _
  rw [setQ_set]
  show (_, (rest.filter (isStale l r.1)).foldl _ (addDr r.2 e ((sQ r.1 p).getD kept.length (0, 0)).1 p 9 (-1))) = _
  rw [hq, getD_mid]
  rfl

theorem mx_63 : mxl 63 = 4 := by decide +kernel
theorem mt_63 : mtc 63 = 5 := by decide +kernel
theorem rk_63 (as : List AV) : rkA 63 as = 2 := rfl
theorem l_63_0 : look 63 0 = some (.iconst 0, 1, 0, 0, 0, 0) := by decide +kernel
theorem l_63_1 : look 63 1 = some (.istore_n 2, 1, 0, 0, 0, 0) := by decide +kernel
theorem l_63_2 : look 63 2 = some (.aload_n 0, 1, 0, 0, 0, 0) := by decide +kernel
theorem l_63_3 : look 63 3 = some (.getfield 21, 3, 5, 1, 2, 636) := by decide +kernel
theorem l_63_6 : look 63 6 = some (.getfield 160, 3, 7, 4, 2, 582) := by decide +kernel
theorem l_63_9 : look 63 9 = some (.iload_n 1, 1, 0, 0, 0, 0) := by decide +kernel
theorem l_63_10 : look 63 10 = some (.iaload, 1, 0, 0, 0, 0) := by decide +kernel
theorem l_63_11 : look 63 11 = some (.istore_n 3, 1, 0, 0, 0, 0) := by decide +kernel
theorem l_63_12 : look 63 12 = some (.iload_n 3, 1, 0, 0, 0, 0) := by decide +kernel
theorem l_63_13 : look 63 13 = some (.ifCond .le 55, 3, 0, 0, 0, 0) := by decide +kernel
theorem l_63_16 : look 63 16 = some (.aload_n 0, 1, 0, 0, 0, 0) := by decide +kernel
theorem l_63_17 : look 63 17 = some (.getfield 21, 3, 5, 1, 2, 636) := by decide +kernel
theorem l_63_20 : look 63 20 = some (.iload_n 1, 1, 0, 0, 0, 0) := by decide +kernel
theorem l_63_21 : look 63 21 = some (.iload_n 2, 1, 0, 0, 0, 0) := by decide +kernel
theorem l_63_22 : look 63 22 = some (.invokevirtual 215, 3, 85, 3, 0, 1362) := by decide +kernel
theorem l_63_25 : look 63 25 = some (.aload_n 0, 1, 0, 0, 0, 0) := by decide +kernel
theorem l_63_26 : look 63 26 = some (.getfield 12, 3, 5, 0, 2, 634) := by decide +kernel
theorem l_63_29 : look 63 29 = some (.getfield 218, 3, 1, 6, 0, 400) := by decide +kernel
theorem l_63_32 : look 63 32 = some (.if_icmp .lt 27, 3, 0, 0, 0, 0) := by decide +kernel
theorem l_63_35 : look 63 35 = some (.aload_n 0, 1, 0, 0, 0, 0) := by decide +kernel
theorem l_63_36 : look 63 36 = some (.getfield 28, 3, 5, 2, 2, 638) := by decide +kernel
theorem l_63_39 : look 63 39 = some (.aload_n 0, 1, 0, 0, 0, 0) := by decide +kernel
theorem l_63_40 : look 63 40 = some (.getfield 47, 3, 5, 4, 0, 641) := by decide +kernel
theorem l_63_43 : look 63 43 = some (.aload_n 0, 1, 0, 0, 0, 0) := by decide +kernel
theorem l_63_44 : look 63 44 = some (.iload_n 1, 1, 0, 0, 0, 0) := by decide +kernel
theorem l_63_45 : look 63 45 = some (.iload_n 2, 1, 0, 0, 0, 0) := by decide +kernel
theorem l_63_46 : look 63 46 = some (.invokevirtual 166, 3, 60, 3, 0, 1328) := by decide +kernel
theorem l_63_49 : look 63 49 = some (.iload_n 1, 1, 0, 0, 0, 0) := by decide +kernel
theorem l_63_50 : look 63 50 = some (.bipush 9, 2, 0, 0, 0, 0) := by decide +kernel
theorem l_63_52 : look 63 52 = some (.iconst (-1), 1, 0, 0, 0, 0) := by decide +kernel
theorem l_63_53 : look 63 53 = some (.invokevirtual 123, 3, 19, 6, 0, 1267) := by decide +kernel
theorem l_63_56 : look 63 56 = some (.goto 6, 3, 0, 0, 0, 0) := by decide +kernel
theorem l_63_59 : look 63 59 = some (.iinc 2 1, 3, 0, 0, 0, 0) := by decide +kernel
theorem l_63_62 : look 63 62 = some (.iinc 3 (-1), 3, 0, 0, 0, 0) := by decide +kernel
theorem l_63_65 : look 63 65 = some (.goto (-53), 3, 0, 0, 0, 0) := by decide +kernel
theorem l_63_68 : look 63 68 = some (.return_, 1, 0, 0, 0, 0) := by decide +kernel
theorem lp_63 {I0 : Ix} (o : oRun S T s x) {e ne np : Nat} {a : Nat → Nat} {p u : Nat} (E : CE I0 s x e h l a ne np) (hp : p < lPorts l) (hu : u ≤ 360) {R : Ra} : ∀ (rest kept : List Cp) (n kk : Nat) (I : Ix) (r : Ra), rest.length = n → kept.length = kk → sQ r.1 p = kept ++ rest → cR I s h l r → okR h l np u r → fr I0 I (s + 6) (s + 17) → staleB l e p kept rest r = R →
    WP xs 63 2 12 [vr s, vi ((p : Nat) : Int), vi ((kk : Nat) : Int), vi ((n : Nat) : Int)] [] (S, I, T, cc, zz) (RP S T cc zz (fun v I' => v = none ∧ cR I' s h l R ∧ fr I0 I' (s + 6) (s + 17))) := by
  intro rest
  induction rest with
  | nil =>
    intro kept n kk I r hn hl2 hq hR hk f hX
    have hn0 : n = 0 := hn.symm
    have hE : r = staleB l e p kept [] r := by
      unfold staleB
      show r = (setQ r.1 p (kept ++ []), r.2)
      rw [← hq, setQ_id]
    refine w_iln l_63_12 rfl ?_
    refine w_zle 68 l_63_13 (by decide) (fun _ => ?_) (fun hx => absurd hx (by omega))
    refine w_vr l_63_68 ?_
    exact ⟨_, _, rfl, rfl, rfl, by rw [← hX, ← hE]; exact hR, f⟩
  | cons c rest ih =>
    intro kept n kk I r hn hl2 hq hR hk f hX
    have hn1 : rest.length + 1 = n := hn
    have hlen : (sQ r.1 p).length = kk + n := by rw [hq, List.length_append]; show kept.length + (rest.length + 1) = _; omega
    have hll := ok_len hk E.ok p
    have hst : isStale l r.1 c = decide (lWait l ≤ sTime r.1 - c.2) := rfl
    have hge : (sQ r.1 p).getD kk (0, 0) = c := by rw [hq, ← hl2, getD_mid]
    have hge2 : ((sQ r.1 p).getD kk (0, 0)).2 = c.2 := by rw [hge]
    refine w_iln l_63_12 rfl ?_
    refine w_zle 68 l_63_13 (by decide) (fun hx => absurd hx (by omega)) (fun _ => ?_)
    refine w_aln l_63_16 rfl ?_
    refine w_gr l_63_17 (oRun_sh o) (oRun_r1 o) ?_
    refine w_iln l_63_20 rfl ?_
    refine w_iln l_63_21 rfl ?_
    refine q_iv [vi ((p : Nat) : Int), vi ((kk : Nat) : Int)] [] l_63_22 rfl rfl (Nat.le_of_ble_eq_true rfl) (by rw [mx_85]; exact Nat.le_of_ble_eq_true rfl) (by rw [mt_85]; exact oState_sh (oRun_o1 o)) (by rw [mt_85]; decide) (by rw [rk_85]; decide) (t_ageOf (oRun_o1 o) hR.1 (E.p4 hp) (by omega) (hk.1 p _ (mem_g (by omega))).2.2) ?_
    refine w_aln l_63_25 rfl ?_
    refine w_gr l_63_26 (oRun_sh o) (oRun_r0 o) ?_
    refine w_gi (((lWait l) : Nat) : Int) l_63_29 (oLimits_sh (oRun_o0 o)) ((E.fr f).L.2.2.2.1) ?_
    refine w_clt 59 l_63_32 (by decide) (fun h1 => ?_) (fun h1 => ?_)
    · skip
      refine w_inc ((kk + 1 : Nat) : Int) l_63_59 rfl rfl (by unfold wr; omega) ?_
      refine w_inc (((n - 1) : Nat) : Int) l_63_62 rfl rfl (by unfold wr; omega) ?_
      refine w_go 12 l_63_65 (by decide) ?_
      refine ih (kept ++ [c]) (n - 1) (kk + 1) I r (by omega) (by rw [List.length_append]; show kept.length + 1 = _; omega) (by rw [hq, List.append_assoc]; rfl) hR hk f ?_
      rw [staleB_0 ?_]
      · exact hX
      · exact decide_eq_false (by omega)
    · skip
      have h8 : r.2.1.length < 360 := by have h9 := ok_lt hk (E.p4 hp); omega
      refine w_aln l_63_35 rfl ?_
      refine w_gr l_63_36 (oRun_sh o) (oRun_r2 o) ?_
      refine w_aln l_63_39 rfl ?_
      refine w_gi ((e : Nat) : Int) l_63_40 (oRun_sh o) ((E.fr f).ev) ?_
      refine w_aln l_63_43 rfl ?_
      refine w_iln l_63_44 rfl ?_
      refine w_iln l_63_45 rfl ?_
      refine p_iv [vi ((p : Nat) : Int), vi ((kk : Nat) : Int)] [vi ((e : Nat) : Int), vr (s + 14)] l_63_46 rfl rfl (Nat.le_of_ble_eq_true rfl) (by rw [mx_60]; exact Nat.le_of_ble_eq_true rfl) (by rw [mt_60]; exact oRun_sh o) (by rw [mt_60]; decide) (by rw [rk_60]; decide) (c_takeOut o (E.fr f) hR hk hp (i := kk) (by omega)) (fun v I1 hv => ?_)
      obtain ⟨rfl, hR1, f1⟩ := hv
      refine w_iln l_63_49 rfl ?_
      refine w_bp l_63_50 (by decide) ?_
      refine w_ic l_63_52 (by decide) ?_
      refine p_iv [vi ((e : Nat) : Int), vi ((((sQ r.1 p).getD kk (0, 0)).1 : Nat) : Int), vi ((p : Nat) : Int), vi 9, vi (-1)] [] l_63_53 rfl rfl (Nat.le_of_ble_eq_true rfl) (by rw [mx_19]; exact Nat.le_of_ble_eq_true rfl) (by rw [mt_19]; exact oLog_sh (oRun_o2 o)) (by rw [mt_19]; decide) (by rw [rk_19]; decide) (c_addDrop o hR1 (by have := E.p4 hp; omega) (E.np (ok_hq hk kk (by omega))) h8) (fun v I2 hv => ?_)
      obtain ⟨rfl, hR2, f2⟩ := hv
      refine w_go 62 l_63_56 (by decide) ?_
      refine w_inc (((n - 1) : Nat) : Int) l_63_62 rfl rfl (by unfold wr; omega) ?_
      refine w_go 12 l_63_65 (by decide) ?_
      refine ih kept (n - 1) kk I2 (outDr e p kk 9 (-1) r) (by omega) hl2 ?_ hR2 (ok_out hk (E.p4 hp) (by omega)) ((f.tr f1).tr f2) ?_
      · show sQ (setQ r.1 p _) p = _
        rw [sQ_set, if_pos rfl, hq, ← hl2, er_mid]
      · rw [← hl2, staleB_1 hq ?_]
        · exact hX
        · exact decide_eq_true (by omega)
theorem s_63 (o : oRun S T s x) {e ne np : Nat} {a : Nat → Nat} {u p : Nat} (E : CE I s x e h l a ne np) (hR : cR I s h l r) (hk : okR h l np u r) (hp : p < lPorts l) (hu : u ≤ 360) : CL xs 63 [vr s, vi ((p : Nat) : Int)] (S, I, T, cc, zz) (RP S T cc zz (fun v I' => v = none ∧ cR I' s h l (staleA l e p r) ∧ fr I I' (s + 6) (s + 17))) := by
  refine CL_start (r := 2) (ls := [vr s, vi ((p : Nat) : Int), vs 2, vs 2]) (rk_63 _) rfl ?_
  have hp4 := E.p4 hp
  refine w_ic l_63_0 (by decide) ?_
  refine w_isn l_63_1 ⟨Nat.le_of_ble_eq_true rfl, rfl⟩ ?_
  refine w_aln l_63_2 rfl ?_
  refine w_gr l_63_3 (oRun_sh o) (oRun_r1 o) ?_
  refine w_gr l_63_6 (oState_sh (oRun_o1 o)) (oState_r4 (oRun_o1 o)) ?_
  refine w_iln l_63_9 rfl ?_
  refine w_ia p (((sQ r.1 p).length : Nat) : Int) l_63_10 (oState_s4 (oRun_o1 o)) rfl (by omega) ((hR.1.2.2.2.2.1 p (E.p4 hp)).1) ?_
  refine w_isn l_63_11 ⟨Nat.le_of_ble_eq_true rfl, rfl⟩ ?_
  exact lp_63 o E hp hu (sQ r.1 p) [] _ 0 I r rfl rfl rfl hR hk (fr.rf _ _ _) rfl

end DOI
