/-! the class: an event happens -/
abbrev Pk : Type := Nat → Nat × Int
def cP (I : Ix) (b : Nat) (pk : Pk) : Prop := ∀ p, p < 4 → I (b + 4) p = ((pk p).1 : Int) ∧ I (b + 5) p = (pk p).2
theorem cP.fr {I J : Ix} {b lo hi : Nat} {pk : Pk} (H : cP I b pk) (f : fr I J lo hi) (d : hi < b + 4 ∨ b + 5 < lo) : cP J b pk := fun p hp => by
  rw [f (b + 4) (by omega), f (b + 5) (by omega)]; exact H p hp
/-- the peaks after an event, of fills u -/
def pkS (u : Nat → Nat) (e : Nat) (pk : Pk) : Pk := fun p => if (pk p).1 < u p then (u p, (e : Int)) else pk p
def pkN (u : Nat → Nat) (e : Nat) (pk : Pk) (n : Nat) : Pk := fun p => if p < n then pkS u e pk p else pk p
theorem pkN_q {u : Nat → Nat} {e : Nat} {pk : Pk} {n : Nat} : pkN u e pk n n = pk n := if_neg (Nat.lt_irrefl n)
/-- all but the place of the event, the state and the log of the run at s -/
def frR (I J : Ix) (s : Nat) : Prop := ∀ y, (y < s ∨ (s < y ∧ y < s + 6) ∨ s + 19 < y) → ∀ z, J y z = I y z
theorem frR.rf (I : Ix) (s : Nat) : frR I I s := fun _ _ _ => rfl
theorem frR.tr {I J K : Ix} {s : Nat} (h1 : frR I J s) (h2 : frR J K s) : frR I K s := fun y hy z => (h2 y hy z).trans (h1 y hy z)
theorem frR.of {I J : Ix} {s lo hi : Nat} (f : fr I J lo hi) (h1 : s + 6 ≤ lo) (h2 : hi ≤ s + 19) : frR I J s := fun y hy z => f y (by omega) z
theorem frR.up {I : Ix} {s j : Nat} {v : Int} : frR I (up I s j v) s := fun y hy z => up_no (by omega)
theorem frR.fr {I J : Ix} {s : Nat} (f : frR I J s) : fr I J s (s + 19) := fun y hy z => f y (by omega) z
/-- what a run of the class goes by -/
def CB (I : Ix) (s x : Nat) (h : Hi) (l : Li) (a : Nat → Nat) (ne np : Nat) : Prop := cH I x h a ne np ∧ cLi I (s + 1) l ∧ x + 9 < s ∧ (∀ k, k < np → ∃ d : Nat, I (x + 9) k = (d : Int) ∧ d < 256 ∧ ∀ r, r < 8 → (bt d r ≠ 0 ↔ (r < lRules l ∧ hHol h k r = true))) ∧ okHi h ∧ okLi l ∧ ∀ e, e < ne → hKind h e ≠ 1 → hPort h e < lPorts l
theorem CB.fr {I J : Ix} {s x : Nat} {h : Hi} {l : Li} {a : Nat → Nat} {ne np : Nat} (B : CB I s x h l a ne np) (f : frR I J s) : CB J s x h l a ne np := by
  obtain ⟨b1, b2, b3, b4, b5⟩ := B
  refine ⟨b1.fr f.fr (Or.inr (by omega)), ?_, b3, fun k hk => by rw [f (x + 9) (by omega) k]; exact b4 k hk, b5⟩
  have e : ∀ j, j ≤ 4 → ∀ y, J (s + 1 + j) y = I (s + 1 + j) y := fun j hj y => f (s + 1 + j) (by omega) y
  have e0 : ∀ y, J (s + 1) y = I (s + 1) y := fun y => f (s + 1) (by omega) y
  unfold cLi at b2 ⊢
  simp only [e0, e 1 (by decide), e 2 (by decide), e 3 (by decide), e 4 (by decide)]
  exact b2
theorem CB.CE {I : Ix} {s x e : Nat} {h : Hi} {l : Li} {a : Nat → Nat} {ne np : Nat} (B : CB I s x h l a ne np) : CE (up I s 4 (e : Int)) s x e h l a ne np := by
  obtain ⟨b1, b2, b3, b4, b5, b6, b7⟩ := B.fr (frR.up (j := 4) (v := (e : Int)))
  exact ⟨b1, b2, up_eq, b3, b4, b5, b6⟩
section DOQ
variable {xs : List Int} {S : List (Nat × Nat)} {T : Nat → Nat → Nat} {cc zz s x : Nat} {h : Hi} {l : Li} {r : Ra} {I I' : Ix}

theorem mx_23 : mxl 23 = 4 := by decide +kernel
theorem mt_23 : mtc 23 = 3 := by decide +kernel
theorem rk_23 (as : List AV) : rkA 23 as = 0 := rfl
theorem l_23_0 : look 23 0 = some (.iconst 0, 1, 0, 0, 0, 0) := by decide +kernel
theorem l_23_1 : look 23 1 = some (.istore_n 3, 1, 0, 0, 0, 0) := by decide +kernel
theorem l_23_2 : look 23 2 = some (.iload_n 3, 1, 0, 0, 0, 0) := by decide +kernel
theorem l_23_3 : look 23 3 = some (.iconst 4, 1, 0, 0, 0, 0) := by decide +kernel
theorem l_23_4 : look 23 4 = some (.if_icmp .ge 43, 3, 0, 0, 0, 0) := by decide +kernel
theorem l_23_7 : look 23 7 = some (.aload_n 2, 1, 0, 0, 0, 0) := by decide +kernel
theorem l_23_8 : look 23 8 = some (.getfield 41, 3, 7, 3, 2, 578) := by decide +kernel
theorem l_23_11 : look 23 11 = some (.iload_n 3, 1, 0, 0, 0, 0) := by decide +kernel
theorem l_23_12 : look 23 12 = some (.iaload, 1, 0, 0, 0, 0) := by decide +kernel
theorem l_23_13 : look 23 13 = some (.aload_n 0, 1, 0, 0, 0, 0) := by decide +kernel
theorem l_23_14 : look 23 14 = some (.getfield 21, 3, 3, 4, 2, 619) := by decide +kernel
theorem l_23_17 : look 23 17 = some (.iload_n 3, 1, 0, 0, 0, 0) := by decide +kernel
theorem l_23_18 : look 23 18 = some (.iaload, 1, 0, 0, 0, 0) := by decide +kernel
theorem l_23_19 : look 23 19 = some (.if_icmp .le 22, 3, 0, 0, 0, 0) := by decide +kernel
theorem l_23_22 : look 23 22 = some (.aload_n 0, 1, 0, 0, 0, 0) := by decide +kernel
theorem l_23_23 : look 23 23 = some (.getfield 21, 3, 3, 4, 2, 619) := by decide +kernel
theorem l_23_26 : look 23 26 = some (.iload_n 3, 1, 0, 0, 0, 0) := by decide +kernel
theorem l_23_27 : look 23 27 = some (.aload_n 2, 1, 0, 0, 0, 0) := by decide +kernel
theorem l_23_28 : look 23 28 = some (.getfield 41, 3, 7, 3, 2, 578) := by decide +kernel
theorem l_23_31 : look 23 31 = some (.iload_n 3, 1, 0, 0, 0, 0) := by decide +kernel
theorem l_23_32 : look 23 32 = some (.iaload, 1, 0, 0, 0, 0) := by decide +kernel
theorem l_23_33 : look 23 33 = some (.iastore, 1, 0, 0, 0, 0) := by decide +kernel
theorem l_23_34 : look 23 34 = some (.aload_n 0, 1, 0, 0, 0, 0) := by decide +kernel
theorem l_23_35 : look 23 35 = some (.getfield 24, 3, 3, 5, 2, 620) := by decide +kernel
theorem l_23_38 : look 23 38 = some (.iload_n 3, 1, 0, 0, 0, 0) := by decide +kernel
theorem l_23_39 : look 23 39 = some (.iload_n 1, 1, 0, 0, 0, 0) := by decide +kernel
theorem l_23_40 : look 23 40 = some (.iastore, 1, 0, 0, 0, 0) := by decide +kernel
theorem l_23_41 : look 23 41 = some (.iinc 3 1, 3, 0, 0, 0, 0) := by decide +kernel
theorem l_23_44 : look 23 44 = some (.goto (-42), 3, 0, 0, 0, 0) := by decide +kernel
theorem l_23_47 : look 23 47 = some (.return_, 1, 0, 0, 0, 0) := by decide +kernel
theorem lp_23 {I0 : Ix} {b t e : Nat} {u : Nat → Nat} {pk : Pk} (o : oLog S T b) (o2 : oState S T t) (hbt : t + 7 < b) (hU0 : ∀ p, p < 4 → I0 (t + 2) p = (u p : Int)) : ∀ d q I, q + d = 4 → cP I b (pkN u e pk q) → fr I0 I (b + 4) (b + 5) → WP xs 23 0 2 [vr b, vi ((e : Nat) : Int), vr t, vi ((q : Nat) : Int)] [] (S, I, T, cc, zz) (RP S T cc zz (fun v I' => v = none ∧ cP I' b (pkS u e pk) ∧ fr I0 I' (b + 4) (b + 5))) := by
  intro d
  induction d with
  | zero =>
    intro q I hq hP f
    refine w_iln l_23_2 rfl ?_
    refine w_ic l_23_3 (by decide) ?_
    refine w_cge 47 l_23_4 (by decide) (fun _ => ?_) (fun hx => absurd hx (by omega))
    refine w_vr l_23_47 ?_
    have e9 : q = 4 := by omega
    refine ⟨_, _, rfl, rfl, rfl, fun p hp => ?_, f⟩
    have g := hP p hp
    unfold pkN at g
    rw [if_pos (by omega)] at g
    exact g
  | succ d ih =>
    intro q I hq hP f
    have hU : I (t + 2) q = (u q : Int) := by rw [f (t + 2) (by omega)]; exact hU0 q (by omega)
    have hB : I (b + 4) q = (((pk q).1 : Nat) : Int) := by
      have g := (hP q (by omega)).1
      rw [pkN_q] at g
      exact g
    refine w_iln l_23_2 rfl ?_
    refine w_ic l_23_3 (by decide) ?_
    refine w_cge 47 l_23_4 (by decide) (fun hx => absurd hx (by omega)) (fun _ => ?_)
    refine w_aln l_23_7 rfl ?_
    refine w_gr l_23_8 (oState_sh o2) (oState_r3 o2) ?_
    refine w_iln l_23_11 rfl ?_
    refine w_ia q (((u q) : Nat) : Int) l_23_12 (oState_s3 o2) rfl (by omega) hU ?_
    refine w_aln l_23_13 rfl ?_
    refine w_gr l_23_14 (oLog_sh o) (oLog_r4 o) ?_
    refine w_iln l_23_17 rfl ?_
    refine w_ia q (((pk q).1 : Nat) : Int) l_23_18 (oLog_s4 o) rfl (by omega) hB ?_
    refine w_cle 41 l_23_19 (by decide) (fun h1 => ?_) (fun h1 => ?_)
    · skip
      refine w_inc ((q + 1 : Nat) : Int) l_23_41 rfl rfl (by unfold wr; omega) ?_
      refine w_go 2 l_23_44 (by decide) ?_
      refine ih (q + 1) I (by omega) (fun p hp => ?_) f
      have g := hP p hp
      have g2 : pkN u e pk q p = pkN u e pk (q + 1) p := by
        unfold pkN
        by_cases hpq : p = q
        · rw [hpq, if_neg (by omega), if_pos (by omega)]
          unfold pkS
          rw [if_neg (by omega)]
        · by_cases h9 : p < q
          · rw [if_pos h9, if_pos (by omega)]
          · rw [if_neg h9, if_neg (by omega)]
      rw [← g2]
      exact g
    · skip
      refine w_aln l_23_22 rfl ?_
      refine w_gr l_23_23 (oLog_sh o) (oLog_r4 o) ?_
      refine w_iln l_23_26 rfl ?_
      refine w_aln l_23_27 rfl ?_
      refine w_gr l_23_28 (oState_sh o2) (oState_r3 o2) ?_
      refine w_iln l_23_31 rfl ?_
      refine w_ia q (((u q) : Nat) : Int) l_23_32 (oState_s3 o2) rfl (by omega) hU ?_
      refine w_iS q l_23_33 (oLog_s4 o) rfl (by omega) ?_
      refine w_aln l_23_34 rfl ?_
      refine w_gr l_23_35 (oLog_sh o) (oLog_r5 o) ?_
      refine w_iln l_23_38 rfl ?_
      refine w_iln l_23_39 rfl ?_
      refine w_iS q l_23_40 (oLog_s5 o) rfl (by omega) ?_
      refine w_inc ((q + 1 : Nat) : Int) l_23_41 rfl rfl (by unfold wr; omega) ?_
      refine w_go 2 l_23_44 (by decide) ?_
      refine ih (q + 1) _ (by omega) (fun p hp => ?_) ((f.up (by omega) (by omega)).up (by omega) (by omega))
      show _ = (((if p < q + 1 then pkS u e pk p else pk p).1 : Nat) : Int) ∧ _ = (if p < q + 1 then pkS u e pk p else pk p).2
      by_cases hpq : p = q
      · rw [hpq, if_pos (by omega), up_no (by omega), up_eq, up_eq]
        unfold pkS
        rw [if_pos (by omega)]
        exact ⟨rfl, rfl⟩
      · have g := hP p hp
        have g2 : pkN u e pk q p = if p < q + 1 then pkS u e pk p else pk p := by
          unfold pkN
          by_cases h9 : p < q
          · rw [if_pos h9, if_pos (by omega)]
          · rw [if_neg h9, if_neg (by omega)]
        rw [g2] at g
        rw [up_no (by omega), up_nj hpq, up_nj hpq, up_no (by omega)]
        exact g
theorem s_23 {b t e : Nat} {u : Nat → Nat} {pk : Pk} (o : oLog S T b) (o2 : oState S T t) (hbt : t + 7 < b) (hU : ∀ p, p < 4 → I (t + 2) p = (u p : Int)) (hP : cP I b pk) : CL xs 23 [vr b, vi ((e : Nat) : Int), vr t] (S, I, T, cc, zz) (RP S T cc zz (fun v I' => v = none ∧ cP I' b (pkS u e pk) ∧ fr I I' (b + 4) (b + 5))) := by
  refine CL_start (r := 0) (ls := [vr b, vi ((e : Nat) : Int), vr t, vs 2]) (rk_23 _) rfl ?_
  refine w_ic l_23_0 (by decide) ?_
  refine w_isn l_23_1 ⟨Nat.le_of_ble_eq_true rfl, rfl⟩ ?_
  exact lp_23 o o2 hbt hU 4 0 I rfl (by intro p hp; exact hP p hp) (fr.rf _ _ _)

theorem mx_51 : mxl 51 = 4 := by decide +kernel
theorem mt_51 : mtc 51 = 5 := by decide +kernel
theorem rk_51 (as : List AV) : rkA 51 as = 4 := rfl
theorem l_51_0 : look 51 0 = some (.aload_n 0, 1, 0, 0, 0, 0) := by decide +kernel
theorem l_51_1 : look 51 1 = some (.iload_n 1, 1, 0, 0, 0, 0) := by decide +kernel
theorem l_51_2 : look 51 2 = some (.putfield 47, 3, 5, 4, 0, 641) := by decide +kernel
theorem l_51_5 : look 51 5 = some (.aload_n 0, 1, 0, 0, 0, 0) := by decide +kernel
theorem l_51_6 : look 51 6 = some (.getfield 32, 3, 5, 3, 2, 640) := by decide +kernel
theorem l_51_9 : look 51 9 = some (.getfield 51, 3, 0, 3, 2, 513) := by decide +kernel
theorem l_51_12 : look 51 12 = some (.iload_n 1, 1, 0, 0, 0, 0) := by decide +kernel
theorem l_51_13 : look 51 13 = some (.iaload, 1, 0, 0, 0, 0) := by decide +kernel
theorem l_51_14 : look 51 14 = some (.istore_n 2, 1, 0, 0, 0, 0) := by decide +kernel
theorem l_51_15 : look 51 15 = some (.aload_n 0, 1, 0, 0, 0, 0) := by decide +kernel
theorem l_51_16 : look 51 16 = some (.getfield 32, 3, 5, 3, 2, 640) := by decide +kernel
theorem l_51_19 : look 51 19 = some (.getfield 57, 3, 0, 2, 2, 511) := by decide +kernel
theorem l_51_22 : look 51 22 = some (.iload_n 1, 1, 0, 0, 0, 0) := by decide +kernel
theorem l_51_23 : look 51 23 = some (.iaload, 1, 0, 0, 0, 0) := by decide +kernel
theorem l_51_24 : look 51 24 = some (.tableswitch 68 0 2 #[28, 46, 54], 28, 0, 0, 0, 0) := by decide +kernel
theorem l_51_52 : look 51 52 = some (.aload_n 0, 1, 0, 0, 0, 0) := by decide +kernel
theorem l_51_53 : look 51 53 = some (.aload_n 0, 1, 0, 0, 0, 0) := by decide +kernel
theorem l_51_54 : look 51 54 = some (.getfield 32, 3, 5, 3, 2, 640) := by decide +kernel
theorem l_51_57 : look 51 57 = some (.getfield 60, 3, 0, 4, 2, 515) := by decide +kernel
theorem l_51_60 : look 51 60 = some (.iload_n 1, 1, 0, 0, 0, 0) := by decide +kernel
theorem l_51_61 : look 51 61 = some (.iaload, 1, 0, 0, 0, 0) := by decide +kernel
theorem l_51_62 : look 51 62 = some (.iload_n 2, 1, 0, 0, 0, 0) := by decide +kernel
theorem l_51_63 : look 51 63 = some (.invokevirtual 63, 3, 52, 3, 0, 1255) := by decide +kernel
theorem l_51_66 : look 51 66 = some (.istore_n 3, 1, 0, 0, 0, 0) := by decide +kernel
theorem l_51_67 : look 51 67 = some (.goto 31, 3, 0, 0, 0, 0) := by decide +kernel
theorem l_51_70 : look 51 70 = some (.aload_n 0, 1, 0, 0, 0, 0) := by decide +kernel
theorem l_51_71 : look 51 71 = some (.invokevirtual 67, 3, 61, 1, 0, 1341) := by decide +kernel
theorem l_51_74 : look 51 74 = some (.istore_n 3, 1, 0, 0, 0, 0) := by decide +kernel
theorem l_51_75 : look 51 75 = some (.goto 23, 3, 0, 0, 0, 0) := by decide +kernel
theorem l_51_78 : look 51 78 = some (.aload_n 0, 1, 0, 0, 0, 0) := by decide +kernel
theorem l_51_79 : look 51 79 = some (.getfield 21, 3, 5, 1, 2, 636) := by decide +kernel
theorem l_51_82 : look 51 82 = some (.iload_n 2, 1, 0, 0, 0, 0) := by decide +kernel
theorem l_51_83 : look 51 83 = some (.iconst 1, 1, 0, 0, 0, 0) := by decide +kernel
theorem l_51_84 : look 51 84 = some (.invokevirtual 71, 3, 81, 3, 0, 1366) := by decide +kernel
theorem l_51_87 : look 51 87 = some (.iconst 0, 1, 0, 0, 0, 0) := by decide +kernel
theorem l_51_88 : look 51 88 = some (.istore_n 3, 1, 0, 0, 0, 0) := by decide +kernel
theorem l_51_89 : look 51 89 = some (.goto 9, 3, 0, 0, 0, 0) := by decide +kernel
theorem l_51_92 : look 51 92 = some (.aload_n 0, 1, 0, 0, 0, 0) := by decide +kernel
theorem l_51_93 : look 51 93 = some (.iload_n 2, 1, 0, 0, 0, 0) := by decide +kernel
theorem l_51_94 : look 51 94 = some (.invokevirtual 75, 3, 64, 2, 0, 1370) := by decide +kernel
theorem l_51_97 : look 51 97 = some (.istore_n 3, 1, 0, 0, 0, 0) := by decide +kernel
theorem l_51_98 : look 51 98 = some (.aload_n 0, 1, 0, 0, 0, 0) := by decide +kernel
theorem l_51_99 : look 51 99 = some (.getfield 28, 3, 5, 2, 2, 638) := by decide +kernel
theorem l_51_102 : look 51 102 = some (.iload_n 1, 1, 0, 0, 0, 0) := by decide +kernel
theorem l_51_103 : look 51 103 = some (.aload_n 0, 1, 0, 0, 0, 0) := by decide +kernel
theorem l_51_104 : look 51 104 = some (.getfield 21, 3, 5, 1, 2, 636) := by decide +kernel
theorem l_51_107 : look 51 107 = some (.invokevirtual 79, 3, 23, 3, 0, 1378) := by decide +kernel
theorem l_51_110 : look 51 110 = some (.iload_n 3, 1, 0, 0, 0, 0) := by decide +kernel
theorem l_51_111 : look 51 111 = some (.ireturn, 1, 0, 0, 0, 0) := by decide +kernel
theorem step_0 {h : Hi} {l : Li} {e : Nat} {r : Ra} (hk : hKind h e = 0) : stepA h l e r = arriveA h l e (hPort h e) (hPk h e) r := by unfold stepA; rw [hk]; rfl
theorem step_1 {h : Hi} {l : Li} {e : Nat} {r : Ra} (hk : hKind h e = 1) : stepA h l e r = tickA h l e r := by unfold stepA; rw [hk]; rfl
theorem step_2 {h : Hi} {l : Li} {e : Nat} {r : Ra} (hk : hKind h e = 2) : stepA h l e r = ((setUp r.1 (hPort h e) true, r.2), 0) := by unfold stepA; rw [hk]; rfl
theorem step_3 {h : Hi} {l : Li} {e : Nat} {r : Ra} (hk : hKind h e = 3) : stepA h l e r = loseA e (hPort h e) r := by unfold stepA; rw [hk]; rfl
theorem s_51 (o : oRun S T s x) {e ne np u : Nat} {a : Nat → Nat} {pk : Pk} (B : CB I s x h l a ne np) (hR : cR I s h l r) (hP : cP I (s + 14) pk) (hok : okR h l np u r) (hu : u + 3 ≤ 360) (he : e < ne) (ht : sTime r.1 < 120) :
    CL xs 51 [vr s, vi ((e : Nat) : Int)] (S, I, T, cc, zz) (RP S T cc zz (fun v I' => v = some (vi (((stepA h l e r).2 : Nat) : Int)) ∧ cR I' s h l (stepA h l e r).1 ∧ cP I' (s + 14) (pkS (fillP h (stepA h l e r).1.1) e pk) ∧ frR I I' s)) := by
  have E1 : CE (up I s 4 (e : Int)) s x e h l a ne np := B.CE
  have hxs := B.2.2.1
  have he120 : e < 120 := by have := B.1.2.2.1; omega
  have b1e := B.1.2.2.2.2.1 e he
  have fu : fr I (up I s 4 (e : Int)) s s := (fr.rf _ _ _).up (Nat.le_refl _) (Nat.le_refl _)
  have hR1 : cR (up I s 4 (e : Int)) s h l r := ⟨hR.1.fr fu (Or.inl (by omega)), hR.2.fr fu (Or.inl (by omega))⟩
  have hP1 : cP (up I s 4 (e : Int)) (s + 14) pk := hP.fr fu (Or.inl (by omega))
  have h3 := b1e.2.1
  rcases (show hKind h e = 0 ∨ hKind h e = 1 ∨ hKind h e = 2 ∨ hKind h e = 3 by omega) with hk0 | hk0 | hk0 | hk0
  · have hpl := (b1e.2.2.1 (by omega)).1
    have hp4 := (b1e.2.2.1 (by omega)).2
    have hpl2 := B.2.2.2.2.2.2 e he (by omega)
    have hpk := (b1e.2.2.2 hk0).1
    have hpk2 := (b1e.2.2.2 hk0).2
    rw [step_0 hk0]
    refine CL_start (r := 4) (ls := [vr s, vi ((e : Nat) : Int), vs 2, vs 2]) (rk_51 _) rfl ?_
    refine w_aln l_51_0 rfl ?_
    refine w_iln l_51_1 rfl ?_
    refine w_pi l_51_2 (oRun_sh o) ?_
    refine w_aln l_51_5 rfl ?_
    refine w_gr l_51_6 (oRun_sh o) (oRun_r3 o) ?_
    refine w_gr l_51_9 (oHistory_sh (oRun_o3 o)) (oHistory_r3 (oRun_o3 o)) ?_
    refine w_iln l_51_12 rfl ?_
    refine w_ia e (((hPort h e) : Nat) : Int) l_51_13 (oHistory_s3 (oRun_o3 o)) rfl (by omega) ((up_no (by omega)).trans (hpl)) ?_
    refine w_isn l_51_14 ⟨Nat.le_of_ble_eq_true rfl, rfl⟩ ?_
    refine w_aln l_51_15 rfl ?_
    refine w_gr l_51_16 (oRun_sh o) (oRun_r3 o) ?_
    refine w_gr l_51_19 (oHistory_sh (oRun_o3 o)) (oHistory_r2 (oRun_o3 o)) ?_
    refine w_iln l_51_22 rfl ?_
    refine w_ia e 0 l_51_23 (oHistory_s2 (oRun_o3 o)) rfl (by omega) ((up_no (by omega)).trans ((b1e.1.trans (by rw [hk0]; rfl)))) ?_
    refine w_swi 52 l_51_24 (by decide) rfl (by decide) ?_
    refine w_aln l_51_52 rfl ?_
    refine w_aln l_51_53 rfl ?_
    refine w_gr l_51_54 (oRun_sh o) (oRun_r3 o) ?_
    refine w_gr l_51_57 (oHistory_sh (oRun_o3 o)) (oHistory_r4 (oRun_o3 o)) ?_
    refine w_iln l_51_60 rfl ?_
    refine w_ia e (((hPk h e) : Nat) : Int) l_51_61 (oHistory_s4 (oRun_o3 o)) rfl (by omega) ((up_no (by omega)).trans (hpk)) ?_
    refine w_iln l_51_62 rfl ?_
    refine p_iv [vi (((hPk h e) : Nat) : Int), vi (((hPort h e) : Nat) : Int)] [] l_51_63 rfl rfl (Nat.le_of_ble_eq_true rfl) (by rw [mx_52]; exact Nat.le_of_ble_eq_true rfl) (by rw [mt_52]; exact oRun_sh o) (by rw [mt_52]; decide) (by rw [rk_52]; decide) (s_52 o E1 hR1 hok hpk2 hpl2 hu) (fun v I2 hv => ?_)
    obtain ⟨rfl, hR2, f2⟩ := hv
    refine w_isn l_51_66 ⟨Nat.le_of_ble_eq_true rfl, rfl⟩ ?_
    refine w_go 98 l_51_67 (by decide) ?_
    refine w_aln l_51_98 rfl ?_
    refine w_gr l_51_99 (oRun_sh o) (oRun_r2 o) ?_
    refine w_iln l_51_102 rfl ?_
    refine w_aln l_51_103 rfl ?_
    refine w_gr l_51_104 (oRun_sh o) (oRun_r1 o) ?_
    refine p_iv [vi ((e : Nat) : Int), vr (s + 6)] [] l_51_107 rfl rfl (Nat.le_of_ble_eq_true rfl) (by rw [mx_23]; exact Nat.le_of_ble_eq_true rfl) (by rw [mt_23]; exact oLog_sh (oRun_o2 o)) (by rw [mt_23]; decide) (by rw [rk_23]; decide) (s_23 (oRun_o2 o) (oRun_o1 o) (by omega) hR2.1.2.2.2.1 (hP1.fr f2 (Or.inl (by omega)))) (fun v I3 hv => ?_)
    obtain ⟨rfl, hP3, f3⟩ := hv
    refine w_iln l_51_110 rfl ?_
    refine w_ir l_51_111 (Or.inl rfl) ?_
    exact ⟨_, _, rfl, rfl, rfl, ⟨hR2.1.fr f3 (Or.inr (by omega)), hR2.2.fr f3 (Or.inr (by omega))⟩, hP3, (frR.up.tr (frR.of f2 (by omega) (by omega))).tr (frR.of f3 (by omega) (by omega))⟩
  · rw [step_1 hk0]
    refine CL_start (r := 4) (ls := [vr s, vi ((e : Nat) : Int), vs 2, vs 2]) (rk_51 _) rfl ?_
    refine w_aln l_51_0 rfl ?_
    refine w_iln l_51_1 rfl ?_
    refine w_pi l_51_2 (oRun_sh o) ?_
    refine w_aln l_51_5 rfl ?_
    refine w_gr l_51_6 (oRun_sh o) (oRun_r3 o) ?_
    refine w_gr l_51_9 (oHistory_sh (oRun_o3 o)) (oHistory_r3 (oRun_o3 o)) ?_
    refine w_iln l_51_12 rfl ?_
    refine w_ia e (I (x + 2) e) l_51_13 (oHistory_s3 (oRun_o3 o)) rfl (by omega) ((up_no (by omega)).trans (rfl)) ?_
    refine w_isn l_51_14 ⟨Nat.le_of_ble_eq_true rfl, rfl⟩ ?_
    refine w_aln l_51_15 rfl ?_
    refine w_gr l_51_16 (oRun_sh o) (oRun_r3 o) ?_
    refine w_gr l_51_19 (oHistory_sh (oRun_o3 o)) (oHistory_r2 (oRun_o3 o)) ?_
    refine w_iln l_51_22 rfl ?_
    refine w_ia e 1 l_51_23 (oHistory_s2 (oRun_o3 o)) rfl (by omega) ((up_no (by omega)).trans ((b1e.1.trans (by rw [hk0]; rfl)))) ?_
    refine w_swi 70 l_51_24 (by decide) rfl (by decide) ?_
    refine w_aln l_51_70 rfl ?_
    refine p_iv [] [] l_51_71 rfl rfl (Nat.le_of_ble_eq_true rfl) (by rw [mx_61]; exact Nat.le_of_ble_eq_true rfl) (by rw [mt_61]; exact oRun_sh o) (by rw [mt_61]; decide) (by rw [rk_61]; decide) (s_61 o E1 hR1 hok (by omega) ht) (fun v I2 hv => ?_)
    obtain ⟨rfl, hR2, f2⟩ := hv
    refine w_isn l_51_74 ⟨Nat.le_of_ble_eq_true rfl, rfl⟩ ?_
    refine w_go 98 l_51_75 (by decide) ?_
    refine w_aln l_51_98 rfl ?_
    refine w_gr l_51_99 (oRun_sh o) (oRun_r2 o) ?_
    refine w_iln l_51_102 rfl ?_
    refine w_aln l_51_103 rfl ?_
    refine w_gr l_51_104 (oRun_sh o) (oRun_r1 o) ?_
    refine p_iv [vi ((e : Nat) : Int), vr (s + 6)] [] l_51_107 rfl rfl (Nat.le_of_ble_eq_true rfl) (by rw [mx_23]; exact Nat.le_of_ble_eq_true rfl) (by rw [mt_23]; exact oLog_sh (oRun_o2 o)) (by rw [mt_23]; decide) (by rw [rk_23]; decide) (s_23 (oRun_o2 o) (oRun_o1 o) (by omega) hR2.1.2.2.2.1 (hP1.fr f2 (Or.inl (by omega)))) (fun v I3 hv => ?_)
    obtain ⟨rfl, hP3, f3⟩ := hv
    refine w_iln l_51_110 rfl ?_
    refine w_ir l_51_111 (Or.inl rfl) ?_
    exact ⟨_, _, rfl, rfl, rfl, ⟨hR2.1.fr f3 (Or.inr (by omega)), hR2.2.fr f3 (Or.inr (by omega))⟩, hP3, (frR.up.tr (frR.of f2 (by omega) (by omega))).tr (frR.of f3 (by omega) (by omega))⟩
  · have hpl := (b1e.2.2.1 (by omega)).1
    have hp4 := (b1e.2.2.1 (by omega)).2
    rw [step_2 hk0]
    refine CL_start (r := 4) (ls := [vr s, vi ((e : Nat) : Int), vs 2, vs 2]) (rk_51 _) rfl ?_
    refine w_aln l_51_0 rfl ?_
    refine w_iln l_51_1 rfl ?_
    refine w_pi l_51_2 (oRun_sh o) ?_
    refine w_aln l_51_5 rfl ?_
    refine w_gr l_51_6 (oRun_sh o) (oRun_r3 o) ?_
    refine w_gr l_51_9 (oHistory_sh (oRun_o3 o)) (oHistory_r3 (oRun_o3 o)) ?_
    refine w_iln l_51_12 rfl ?_
    refine w_ia e (((hPort h e) : Nat) : Int) l_51_13 (oHistory_s3 (oRun_o3 o)) rfl (by omega) ((up_no (by omega)).trans (hpl)) ?_
    refine w_isn l_51_14 ⟨Nat.le_of_ble_eq_true rfl, rfl⟩ ?_
    refine w_aln l_51_15 rfl ?_
    refine w_gr l_51_16 (oRun_sh o) (oRun_r3 o) ?_
    refine w_gr l_51_19 (oHistory_sh (oRun_o3 o)) (oHistory_r2 (oRun_o3 o)) ?_
    refine w_iln l_51_22 rfl ?_
    refine w_ia e 2 l_51_23 (oHistory_s2 (oRun_o3 o)) rfl (by omega) ((up_no (by omega)).trans ((b1e.1.trans (by rw [hk0]; rfl)))) ?_
    refine w_swi 78 l_51_24 (by decide) rfl (by decide) ?_
    refine w_aln l_51_78 rfl ?_
    refine w_gr l_51_79 (oRun_sh o) (oRun_r1 o) ?_
    refine w_iln l_51_82 rfl ?_
    refine w_ic l_51_83 (by decide) ?_
    refine p_iv [vi (((hPort h e) : Nat) : Int), vi 1] [] l_51_84 rfl rfl (Nat.le_of_ble_eq_true rfl) (by rw [mx_81]; exact Nat.le_of_ble_eq_true rfl) (by rw [mt_81]; exact oState_sh (oRun_o1 o)) (by rw [mt_81]; decide) (by rw [rk_81]; decide) (c_linkT o hR1 hp4) (fun v I2 hv => ?_)
    obtain ⟨rfl, hR2, f2⟩ := hv
    refine w_ic l_51_87 (by decide) ?_
    refine w_isn l_51_88 ⟨Nat.le_of_ble_eq_true rfl, rfl⟩ ?_
    refine w_go 98 l_51_89 (by decide) ?_
    refine w_aln l_51_98 rfl ?_
    refine w_gr l_51_99 (oRun_sh o) (oRun_r2 o) ?_
    refine w_iln l_51_102 rfl ?_
    refine w_aln l_51_103 rfl ?_
    refine w_gr l_51_104 (oRun_sh o) (oRun_r1 o) ?_
    refine p_iv [vi ((e : Nat) : Int), vr (s + 6)] [] l_51_107 rfl rfl (Nat.le_of_ble_eq_true rfl) (by rw [mx_23]; exact Nat.le_of_ble_eq_true rfl) (by rw [mt_23]; exact oLog_sh (oRun_o2 o)) (by rw [mt_23]; decide) (by rw [rk_23]; decide) (s_23 (oRun_o2 o) (oRun_o1 o) (by omega) hR2.1.2.2.2.1 (hP1.fr f2 (Or.inl (by omega)))) (fun v I3 hv => ?_)
    obtain ⟨rfl, hP3, f3⟩ := hv
    refine w_iln l_51_110 rfl ?_
    refine w_ir l_51_111 (Or.inl rfl) ?_
    exact ⟨_, _, rfl, rfl, rfl, ⟨hR2.1.fr f3 (Or.inr (by omega)), hR2.2.fr f3 (Or.inr (by omega))⟩, hP3, (frR.up.tr (frR.of f2 (by omega) (by omega))).tr (frR.of f3 (by omega) (by omega))⟩
  · have hpl := (b1e.2.2.1 (by omega)).1
    have hp4 := (b1e.2.2.1 (by omega)).2
    have hpl2 := B.2.2.2.2.2.2 e he (by omega)
    rw [step_3 hk0]
    refine CL_start (r := 4) (ls := [vr s, vi ((e : Nat) : Int), vs 2, vs 2]) (rk_51 _) rfl ?_
    refine w_aln l_51_0 rfl ?_
    refine w_iln l_51_1 rfl ?_
    refine w_pi l_51_2 (oRun_sh o) ?_
    refine w_aln l_51_5 rfl ?_
    refine w_gr l_51_6 (oRun_sh o) (oRun_r3 o) ?_
    refine w_gr l_51_9 (oHistory_sh (oRun_o3 o)) (oHistory_r3 (oRun_o3 o)) ?_
    refine w_iln l_51_12 rfl ?_
    refine w_ia e (((hPort h e) : Nat) : Int) l_51_13 (oHistory_s3 (oRun_o3 o)) rfl (by omega) ((up_no (by omega)).trans (hpl)) ?_
    refine w_isn l_51_14 ⟨Nat.le_of_ble_eq_true rfl, rfl⟩ ?_
    refine w_aln l_51_15 rfl ?_
    refine w_gr l_51_16 (oRun_sh o) (oRun_r3 o) ?_
    refine w_gr l_51_19 (oHistory_sh (oRun_o3 o)) (oHistory_r2 (oRun_o3 o)) ?_
    refine w_iln l_51_22 rfl ?_
    refine w_ia e 3 l_51_23 (oHistory_s2 (oRun_o3 o)) rfl (by omega) ((up_no (by omega)).trans ((b1e.1.trans (by rw [hk0]; rfl)))) ?_
    refine w_swd 92 l_51_24 (by decide) (by decide) ?_
    refine w_aln l_51_92 rfl ?_
    refine w_iln l_51_93 rfl ?_
    refine p_iv [vi (((hPort h e) : Nat) : Int)] [] l_51_94 rfl rfl (Nat.le_of_ble_eq_true rfl) (by rw [mx_64]; exact Nat.le_of_ble_eq_true rfl) (by rw [mt_64]; exact oRun_sh o) (by rw [mt_64]; decide) (by rw [rk_64]; decide) (s_64 o E1 hR1 hok hpl2 (by omega)) (fun v I2 hv => ?_)
    obtain ⟨rfl, hR2, f2⟩ := hv
    refine w_isn l_51_97 ⟨Nat.le_of_ble_eq_true rfl, rfl⟩ ?_
    refine w_aln l_51_98 rfl ?_
    refine w_gr l_51_99 (oRun_sh o) (oRun_r2 o) ?_
    refine w_iln l_51_102 rfl ?_
    refine w_aln l_51_103 rfl ?_
    refine w_gr l_51_104 (oRun_sh o) (oRun_r1 o) ?_
    refine p_iv [vi ((e : Nat) : Int), vr (s + 6)] [] l_51_107 rfl rfl (Nat.le_of_ble_eq_true rfl) (by rw [mx_23]; exact Nat.le_of_ble_eq_true rfl) (by rw [mt_23]; exact oLog_sh (oRun_o2 o)) (by rw [mt_23]; decide) (by rw [rk_23]; decide) (s_23 (oRun_o2 o) (oRun_o1 o) (by omega) hR2.1.2.2.2.1 (hP1.fr f2 (Or.inl (by omega)))) (fun v I3 hv => ?_)
    obtain ⟨rfl, hP3, f3⟩ := hv
    refine w_iln l_51_110 rfl ?_
    refine w_ir l_51_111 (Or.inl rfl) ?_
    exact ⟨_, _, rfl, rfl, rfl, ⟨hR2.1.fr f3 (Or.inr (by omega)), hR2.2.fr f3 (Or.inr (by omega))⟩, hP3, (frR.up.tr (frR.of f2 (by omega) (by omega))).tr (frR.of f3 (by omega) (by omega))⟩

end DOQ
