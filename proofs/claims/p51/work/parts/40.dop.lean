/-! the class: a tick, an event -/
/-- tokens of the first n ports are filled up -/
def rf3 (l : Li) (r : Ra) (n : Nat) : Ra := ((r.1.1, r.1.2.1, (fun p => if p < n then refillA l r.1 p else sTok r.1 p), r.1.2.2.2), r.2)
theorem rf3_0 {l : Li} {r : Ra} : rf3 l r 0 = r := rfl
theorem rf3_s {l : Li} {r : Ra} {n : Nat} : setTok (rf3 l r n).1 n (refillA l r.1 n) = (rf3 l r (n + 1)).1 := by
  unfold setTok rf3 fu
  simp only
  congr 3
  funext x
  by_cases hx : x = n
  · rw [if_pos hx, if_pos (by omega), hx]
  · rw [if_neg hx]
    by_cases hx2 : x < n
    · rw [if_pos hx2, if_pos (by omega)]
    · rw [if_neg hx2, if_neg (by omega)]
theorem rf3_n {l : Li} {r : Ra} {n : Nat} (hn : refillA l r.1 n = sTok r.1 n) : rf3 l r n = rf3 l r (n + 1) := by
  unfold rf3
  congr 4
  funext x
  by_cases hx : x = n
  · rw [if_neg (by omega), if_pos (by omega), hx, hn]
  · by_cases hx2 : x < n
    · rw [if_pos hx2, if_pos (by omega)]
    · rw [if_neg hx2, if_neg (by omega)]
theorem rf3_e {l : Li} {r : Ra} : rf3 l r (lPorts l) = ((r.1.1, r.1.2.1, refillA l r.1, r.1.2.2.2), r.2) := by
  unfold rf3
  congr 4
  funext x
  by_cases hx : x < lPorts l
  · rw [if_pos hx]
  · rw [if_neg hx]
    unfold refillA
    split
    · rw [if_neg hx]
    · rfl
theorem cS_tok {I : Ix} {s p v : Nat} {h : Hi} {l : Li} {A : Sa} (hA : cS I s h l A) (hv : v ≤ 99) : cS (up I (s + 1) p (v : Int)) s h l (setTok A p v) := by
  obtain ⟨h1, h2, h3, h4, h5, h6⟩ := hA
  refine ⟨by rw [up_no (by omega)]; exact h1, by rw [up_no (by omega)]; exact h2, fun p' hp' hl' => ?_, fun p hp => by rw [up_no (by omega)]; exact h4 p hp, fun p hp => ?_, fun a ha => ?_⟩
  · show _ = ((if p' = p then v else sTok A p' : Nat) : Int) ∧ (if p' = p then v else sTok A p') ≤ 99
    by_cases hpp : p' = p
    · rw [if_pos hpp, hpp, up_eq]
      exact ⟨rfl, hv⟩
    · rw [if_neg hpp, up_nj hpp]
      exact h3 p' hp' hl'
  · obtain ⟨g1, g2, g3, g4⟩ := h5 p hp
    exact ⟨by rw [up_no (by omega)]; exact g1, g2, rowR_eq g3 (fun k _ => up_no (by omega)), rowR_eq g4 (fun k _ => up_no (by omega))⟩
  · have g := h6 a ha
    unfold cT at g ⊢
    rw [up_no (by omega), up_no (by omega)]
    exact g
theorem cS_time {I : Ix} {s t : Nat} {h : Hi} {l : Li} {A : Sa} (hA : cS I s h l A) (ht : t ≤ 120) : cS (up I s 0 (t : Int)) s h l (t, A.2) := by
  obtain ⟨h1, h2, h3, h4, h5, h6⟩ := hA
  refine ⟨⟨up_eq, ht⟩, by rw [up_nj (by decide)]; exact h2, fun p' hp' hl' => by rw [up_no (by omega)]; exact h3 p' hp' hl', fun p hp => by rw [up_no (by omega)]; exact h4 p hp, fun p hp => ?_, fun a ha => ?_⟩
  · obtain ⟨g1, g2, g3, g4⟩ := h5 p hp
    exact ⟨by rw [up_no (by omega)]; exact g1, g2, rowR_eq g3 (fun k _ => up_no (by omega)), rowR_eq g4 (fun k _ => up_no (by omega))⟩
  · have g := h6 a ha
    unfold cT at g ⊢
    rw [up_no (by omega), up_no (by omega)]
    exact g
section DOP
variable {xs : List Int} {S : List (Nat × Nat)} {T : Nat → Nat → Nat} {cc zz s x : Nat} {h : Hi} {l : Li} {r : Ra} {I I' : Ix}

theorem c_hasPol0 (o : oRun S T s x) (hL : cLi I (s + 1) l) {p : Nat} (hp : p < lPorts l) (hp4 : p < 4) (hpo : lPol l p = none) : CL xs 10 [vr (s + 1), vi ((p : Nat) : Int)] (S, I, T, cc, zz) (FN (some (vi 0)) (S, I, T, cc, zz)) := by
  have h9 := c_hasPol (xs := xs) (cc := cc) (zz := zz) o hL hp hp4
  rw [hpo] at h9
  exact h9
theorem c_hasPol1 (o : oRun S T s x) (hL : cLi I (s + 1) l) {p : Nat} (hp : p < lPorts l) (hp4 : p < 4) {rb : Nat × Nat} (hpo : lPol l p = some rb) : CL xs 10 [vr (s + 1), vi ((p : Nat) : Int)] (S, I, T, cc, zz) (FN (some (vi 1)) (S, I, T, cc, zz)) := by
  have h9 := c_hasPol (xs := xs) (cc := cc) (zz := zz) o hL hp hp4
  rw [hpo] at h9
  exact h9

theorem mx_61 : mxl 61 = 3 := by decide +kernel
theorem mt_61 : mtc 61 = 5 := by decide +kernel
theorem rk_61 (as : List AV) : rkA 61 as = 3 := rfl
theorem l_61_0 : look 61 0 = some (.iconst 0, 1, 0, 0, 0, 0) := by decide +kernel
theorem l_61_1 : look 61 1 = some (.istore_n 1, 1, 0, 0, 0, 0) := by decide +kernel
theorem l_61_2 : look 61 2 = some (.iconst 0, 1, 0, 0, 0, 0) := by decide +kernel
theorem l_61_3 : look 61 3 = some (.istore_n 2, 1, 0, 0, 0, 0) := by decide +kernel
theorem l_61_4 : look 61 4 = some (.iload_n 2, 1, 0, 0, 0, 0) := by decide +kernel
theorem l_61_5 : look 61 5 = some (.aload_n 0, 1, 0, 0, 0, 0) := by decide +kernel
theorem l_61_6 : look 61 6 = some (.getfield 12, 3, 5, 0, 2, 634) := by decide +kernel
theorem l_61_9 : look 61 9 = some (.getfield 117, 3, 1, 0, 0, 378) := by decide +kernel
theorem l_61_12 : look 61 12 = some (.if_icmp .ge 28, 3, 0, 0, 0, 0) := by decide +kernel
theorem l_61_15 : look 61 15 = some (.aload_n 0, 1, 0, 0, 0, 0) := by decide +kernel
theorem l_61_16 : look 61 16 = some (.getfield 21, 3, 5, 1, 2, 636) := by decide +kernel
theorem l_61_19 : look 61 19 = some (.iload_n 2, 1, 0, 0, 0, 0) := by decide +kernel
theorem l_61_20 : look 61 20 = some (.invokevirtual 83, 3, 80, 2, 0, 1259) := by decide +kernel
theorem l_61_23 : look 61 23 = some (.ifCond .eq 11, 3, 0, 0, 0, 0) := by decide +kernel
theorem l_61_26 : look 61 26 = some (.iload_n 1, 1, 0, 0, 0, 0) := by decide +kernel
theorem l_61_27 : look 61 27 = some (.aload_n 0, 1, 0, 0, 0, 0) := by decide +kernel
theorem l_61_28 : look 61 28 = some (.iload_n 2, 1, 0, 0, 0, 0) := by decide +kernel
theorem l_61_29 : look 61 29 = some (.invokevirtual 182, 3, 62, 2, 0, 1345) := by decide +kernel
theorem l_61_32 : look 61 32 = some (.iadd, 1, 0, 0, 0, 0) := by decide +kernel
theorem l_61_33 : look 61 33 = some (.istore_n 1, 1, 0, 0, 0, 0) := by decide +kernel
theorem l_61_34 : look 61 34 = some (.iinc 2 1, 3, 0, 0, 0, 0) := by decide +kernel
theorem l_61_37 : look 61 37 = some (.goto (-33), 3, 0, 0, 0, 0) := by decide +kernel
theorem l_61_40 : look 61 40 = some (.iconst 0, 1, 0, 0, 0, 0) := by decide +kernel
theorem l_61_41 : look 61 41 = some (.istore_n 2, 1, 0, 0, 0, 0) := by decide +kernel
theorem l_61_42 : look 61 42 = some (.iload_n 2, 1, 0, 0, 0, 0) := by decide +kernel
theorem l_61_43 : look 61 43 = some (.aload_n 0, 1, 0, 0, 0, 0) := by decide +kernel
theorem l_61_44 : look 61 44 = some (.getfield 12, 3, 5, 0, 2, 634) := by decide +kernel
theorem l_61_47 : look 61 47 = some (.getfield 117, 3, 1, 0, 0, 378) := by decide +kernel
theorem l_61_50 : look 61 50 = some (.if_icmp .ge 14, 3, 0, 0, 0, 0) := by decide +kernel
theorem l_61_53 : look 61 53 = some (.aload_n 0, 1, 0, 0, 0, 0) := by decide +kernel
theorem l_61_54 : look 61 54 = some (.iload_n 2, 1, 0, 0, 0, 0) := by decide +kernel
theorem l_61_55 : look 61 55 = some (.invokevirtual 185, 3, 63, 2, 0, 1358) := by decide +kernel
theorem l_61_58 : look 61 58 = some (.iinc 2 1, 3, 0, 0, 0, 0) := by decide +kernel
theorem l_61_61 : look 61 61 = some (.goto (-19), 3, 0, 0, 0, 0) := by decide +kernel
theorem l_61_64 : look 61 64 = some (.iconst 0, 1, 0, 0, 0, 0) := by decide +kernel
theorem l_61_65 : look 61 65 = some (.istore_n 2, 1, 0, 0, 0, 0) := by decide +kernel
theorem l_61_66 : look 61 66 = some (.iload_n 2, 1, 0, 0, 0, 0) := by decide +kernel
theorem l_61_67 : look 61 67 = some (.aload_n 0, 1, 0, 0, 0, 0) := by decide +kernel
theorem l_61_68 : look 61 68 = some (.getfield 12, 3, 5, 0, 2, 634) := by decide +kernel
theorem l_61_71 : look 61 71 = some (.getfield 117, 3, 1, 0, 0, 378) := by decide +kernel
theorem l_61_74 : look 61 74 = some (.if_icmp .ge 60, 3, 0, 0, 0, 0) := by decide +kernel
theorem l_61_77 : look 61 77 = some (.aload_n 0, 1, 0, 0, 0, 0) := by decide +kernel
theorem l_61_78 : look 61 78 = some (.getfield 12, 3, 5, 0, 2, 634) := by decide +kernel
theorem l_61_81 : look 61 81 = some (.iload_n 2, 1, 0, 0, 0, 0) := by decide +kernel
theorem l_61_82 : look 61 82 = some (.invokevirtual 97, 3, 10, 2, 0, 1283) := by decide +kernel
theorem l_61_85 : look 61 85 = some (.ifCond .eq 43, 3, 0, 0, 0, 0) := by decide +kernel
theorem l_61_88 : look 61 88 = some (.aload_n 0, 1, 0, 0, 0, 0) := by decide +kernel
theorem l_61_89 : look 61 89 = some (.getfield 21, 3, 5, 1, 2, 636) := by decide +kernel
theorem l_61_92 : look 61 92 = some (.getfield 189, 3, 7, 2, 2, 576) := by decide +kernel
theorem l_61_95 : look 61 95 = some (.iload_n 2, 1, 0, 0, 0, 0) := by decide +kernel
theorem l_61_96 : look 61 96 = some (.aload_n 0, 1, 0, 0, 0, 0) := by decide +kernel
theorem l_61_97 : look 61 97 = some (.getfield 21, 3, 5, 1, 2, 636) := by decide +kernel
theorem l_61_100 : look 61 100 = some (.getfield 189, 3, 7, 2, 2, 576) := by decide +kernel
theorem l_61_103 : look 61 103 = some (.iload_n 2, 1, 0, 0, 0, 0) := by decide +kernel
theorem l_61_104 : look 61 104 = some (.iaload, 1, 0, 0, 0, 0) := by decide +kernel
theorem l_61_105 : look 61 105 = some (.aload_n 0, 1, 0, 0, 0, 0) := by decide +kernel
theorem l_61_106 : look 61 106 = some (.getfield 12, 3, 5, 0, 2, 634) := by decide +kernel
theorem l_61_109 : look 61 109 = some (.getfield 192, 3, 1, 3, 2, 389) := by decide +kernel
theorem l_61_112 : look 61 112 = some (.iload_n 2, 1, 0, 0, 0, 0) := by decide +kernel
theorem l_61_113 : look 61 113 = some (.iaload, 1, 0, 0, 0, 0) := by decide +kernel
theorem l_61_114 : look 61 114 = some (.iadd, 1, 0, 0, 0, 0) := by decide +kernel
theorem l_61_115 : look 61 115 = some (.aload_n 0, 1, 0, 0, 0, 0) := by decide +kernel
theorem l_61_116 : look 61 116 = some (.getfield 12, 3, 5, 0, 2, 634) := by decide +kernel
theorem l_61_119 : look 61 119 = some (.getfield 195, 3, 1, 4, 2, 394) := by decide +kernel
theorem l_61_122 : look 61 122 = some (.iload_n 2, 1, 0, 0, 0, 0) := by decide +kernel
theorem l_61_123 : look 61 123 = some (.iaload, 1, 0, 0, 0, 0) := by decide +kernel
theorem l_61_124 : look 61 124 = some (.invokestatic 198, 3, 0, 2, 5, 1349) := by decide +kernel
theorem l_61_127 : look 61 127 = some (.iastore, 1, 0, 0, 0, 0) := by decide +kernel
theorem l_61_128 : look 61 128 = some (.iinc 2 1, 3, 0, 0, 0, 0) := by decide +kernel
theorem l_61_131 : look 61 131 = some (.goto (-65), 3, 0, 0, 0, 0) := by decide +kernel
theorem l_61_134 : look 61 134 = some (.aload_n 0, 1, 0, 0, 0, 0) := by decide +kernel
theorem l_61_135 : look 61 135 = some (.getfield 21, 3, 5, 1, 2, 636) := by decide +kernel
theorem l_61_138 : look 61 138 = some (.dup, 1, 0, 0, 0, 0) := by decide +kernel
theorem l_61_139 : look 61 139 = some (.getfield 203, 3, 7, 0, 0, 573) := by decide +kernel
theorem l_61_142 : look 61 142 = some (.iconst 1, 1, 0, 0, 0, 0) := by decide +kernel
theorem l_61_143 : look 61 143 = some (.iadd, 1, 0, 0, 0, 0) := by decide +kernel
theorem l_61_144 : look 61 144 = some (.putfield 203, 3, 7, 0, 0, 573) := by decide +kernel
theorem l_61_147 : look 61 147 = some (.iload_n 1, 1, 0, 0, 0, 0) := by decide +kernel
theorem l_61_148 : look 61 148 = some (.ireturn, 1, 0, 0, 0, 0) := by decide +kernel
theorem lp_61c {I0 : Ix} (o : oRun S T s x) {e ne np : Nat} {a : Nat → Nat} {u m : Nat} (E : CE I0 s x e h l a ne np) (hu : u ≤ 360) (ht : sTime r.1 < 120) : ∀ d q I, q + d = lPorts l → cR I s h l (rf3 l r q) → fr I0 I (s + 6) (s + 17) → WP xs 61 3 66 [vr s, vi ((m : Nat) : Int), vi ((q : Nat) : Int)] [] (S, I, T, cc, zz) (RP S T cc zz (fun v I' => v = some (vi ((m : Nat) : Int)) ∧ cR I' s h l ((sTime r.1 + 1, r.1.2.1, refillA l r.1, r.1.2.2.2), r.2) ∧ fr I0 I' (s + 6) (s + 17))) := by
  intro d
  have hl4 := E.okl.1
  induction d with
  | zero =>
    intro q I hq hR f
    refine w_iln l_61_66 rfl ?_
    refine w_aln l_61_67 rfl ?_
    refine w_gr l_61_68 (oRun_sh o) (oRun_r0 o) ?_
    refine w_gi (((lPorts l) : Nat) : Int) l_61_71 (oLimits_sh (oRun_o0 o)) ((E.fr f).L.1) ?_
    refine w_cge 134 l_61_74 (by decide) (fun _ => ?_) (fun hx => absurd hx (by omega))
    refine w_aln l_61_134 rfl ?_
    refine w_gr l_61_135 (oRun_sh o) (oRun_r1 o) ?_
    refine w_dup l_61_138 rfl ?_
    refine w_gi (((sTime r.1) : Nat) : Int) l_61_139 (oState_sh (oRun_o1 o)) hR.1.1.1 ?_
    refine w_ic l_61_142 (by decide) ?_
    refine w_add (((sTime r.1) + 1 : Nat) : Int) l_61_143 (by unfold wr; omega) ?_
    refine w_pi l_61_144 (oState_sh (oRun_o1 o)) ?_
    refine w_iln l_61_147 rfl ?_
    refine w_ir l_61_148 (Or.inl rfl) ?_
    have e9 : q = lPorts l := by omega
    rw [e9, rf3_e] at hR
    exact ⟨_, _, rfl, rfl, rfl, ⟨cS_time hR.1 (by omega), hR.2.fr ((fr.rf I (s + 6) (s + 6)).up (Nat.le_refl _) (Nat.le_refl _)) (Or.inl (by omega))⟩, f.tr ((fr.rf _ _ _).up (by omega) (by omega))⟩
  | succ d ih =>
    intro q I hq hR f
    have hq4 : q < lPorts l := by omega
    have hq5 : q < 4 := by omega
    cases hpo : lPol l q with
    | none =>
      refine w_iln l_61_66 rfl ?_
      refine w_aln l_61_67 rfl ?_
      refine w_gr l_61_68 (oRun_sh o) (oRun_r0 o) ?_
      refine w_gi (((lPorts l) : Nat) : Int) l_61_71 (oLimits_sh (oRun_o0 o)) ((E.fr f).L.1) ?_
      refine w_cge 134 l_61_74 (by decide) (fun hx => absurd hx (by omega)) (fun _ => ?_)
      refine w_aln l_61_77 rfl ?_
      refine w_gr l_61_78 (oRun_sh o) (oRun_r0 o) ?_
      refine w_iln l_61_81 rfl ?_
      refine q_iv [vi ((q : Nat) : Int)] [] l_61_82 rfl rfl (Nat.le_of_ble_eq_true rfl) (by rw [mx_10]; exact Nat.le_of_ble_eq_true rfl) (by rw [mt_10]; exact oLimits_sh (oRun_o0 o)) (by rw [mt_10]; decide) (by rw [rk_10]; decide) (c_hasPol0 o (E.fr f).L hq4 hq5 hpo) ?_
      refine w_zeq 128 l_61_85 (by decide) (fun _ => ?_) (fun hx => absurd hx (by decide))
      refine w_inc ((q + 1 : Nat) : Int) l_61_128 rfl rfl (by unfold wr; omega) ?_
      refine w_go 66 l_61_131 (by decide) ?_
      refine ih (q + 1) I (by omega) ?_ f
      rw [← rf3_n (by unfold refillA; rw [hpo])]
      exact hR
    | some rb =>
      obtain ⟨ra, b⟩ := rb
      have hrb := E.okl.2.2.2.1 q ra b hpo
      have g1 : I (s + 6 + 1) q = ((sTok r.1 q : Nat) : Int) ∧ sTok r.1 q ≤ 99 := by
        have g := hR.1.2.2.1 q hq5 (by rw [hpo]; intro q; cases q)
        have e : sTok (rf3 l r q).1 q = sTok r.1 q := if_neg (by omega)
        rw [e] at g
        exact g
      obtain ⟨g1, g2⟩ := g1
      have g3 : I (s + 1 + 3) q = (ra : Int) ∧ I (s + 1 + 4) q = (b : Int) := by
        have g := ((E.fr f).L.2.1 q hq4).2.2
        rw [hpo] at g
        exact g
      have hrf : refillA l r.1 q = min (sTok r.1 q + ra) b := by
        unfold refillA
        rw [hpo]
        exact if_pos hq4
      refine w_iln l_61_66 rfl ?_
      refine w_aln l_61_67 rfl ?_
      refine w_gr l_61_68 (oRun_sh o) (oRun_r0 o) ?_
      refine w_gi (((lPorts l) : Nat) : Int) l_61_71 (oLimits_sh (oRun_o0 o)) ((E.fr f).L.1) ?_
      refine w_cge 134 l_61_74 (by decide) (fun hx => absurd hx (by omega)) (fun _ => ?_)
      refine w_aln l_61_77 rfl ?_
      refine w_gr l_61_78 (oRun_sh o) (oRun_r0 o) ?_
      refine w_iln l_61_81 rfl ?_
      refine q_iv [vi ((q : Nat) : Int)] [] l_61_82 rfl rfl (Nat.le_of_ble_eq_true rfl) (by rw [mx_10]; exact Nat.le_of_ble_eq_true rfl) (by rw [mt_10]; exact oLimits_sh (oRun_o0 o)) (by rw [mt_10]; decide) (by rw [rk_10]; decide) (c_hasPol1 o (E.fr f).L hq4 hq5 hpo) ?_
      refine w_zeq 128 l_61_85 (by decide) (fun hx => absurd hx (by decide)) (fun _ => ?_)
      refine w_aln l_61_88 rfl ?_
      refine w_gr l_61_89 (oRun_sh o) (oRun_r1 o) ?_
      refine w_gr l_61_92 (oState_sh (oRun_o1 o)) (oState_r2 (oRun_o1 o)) ?_
      refine w_iln l_61_95 rfl ?_
      refine w_aln l_61_96 rfl ?_
      refine w_gr l_61_97 (oRun_sh o) (oRun_r1 o) ?_
      refine w_gr l_61_100 (oState_sh (oRun_o1 o)) (oState_r2 (oRun_o1 o)) ?_
      refine w_iln l_61_103 rfl ?_
      refine w_ia q (((sTok r.1 q) : Nat) : Int) l_61_104 (oState_s2 (oRun_o1 o)) rfl (by omega) g1 ?_
      refine w_aln l_61_105 rfl ?_
      refine w_gr l_61_106 (oRun_sh o) (oRun_r0 o) ?_
      refine w_gr l_61_109 (oLimits_sh (oRun_o0 o)) (oLimits_r3 (oRun_o0 o)) ?_
      refine w_iln l_61_112 rfl ?_
      refine w_ia q ((ra : Nat) : Int) l_61_113 (oLimits_s3 (oRun_o0 o)) rfl (by omega) g3.1 ?_
      refine w_add (((sTok r.1 q) + ra : Nat) : Int) l_61_114 (by unfold wr; omega) ?_
      refine w_aln l_61_115 rfl ?_
      refine w_gr l_61_116 (oRun_sh o) (oRun_r0 o) ?_
      refine w_gr l_61_119 (oLimits_sh (oRun_o0 o)) (oLimits_r4 (oRun_o0 o)) ?_
      refine w_iln l_61_122 rfl ?_
      refine w_ia q ((b : Nat) : Int) l_61_123 (oLimits_s4 (oRun_o0 o)) rfl (by omega) g3.2 ?_
      refine w_mn (((min (sTok r.1 q + ra) b) : Nat) : Int) l_61_124 (Nat.le_of_ble_eq_true rfl) (by rw [Nat.min_def]; split <;> split <;> omega) ?_
      refine w_iS q l_61_127 (oState_s2 (oRun_o1 o)) rfl (by omega) ?_
      refine w_inc ((q + 1 : Nat) : Int) l_61_128 rfl rfl (by unfold wr; omega) ?_
      refine w_go 66 l_61_131 (by decide) ?_
      refine ih (q + 1) _ (by omega) ?_ (f.tr ((fr.rf _ _ _).up (by omega) (by omega)))
      refine ⟨?_, hR.2.fr ((fr.rf I (s + 6 + 1) (s + 6 + 1)).up (Nat.le_refl _) (Nat.le_refl _)) (Or.inl (by omega))⟩
      rw [← rf3_s, hrf]
      exact cS_tok hR.1 (by omega)
theorem lp_61b {I0 : Ix} (o : oRun S T s x) {e ne np : Nat} {a : Nat → Nat} {u m : Nat} (E : CE I0 s x e h l a ne np) (hu : u ≤ 360) (hok : okR h l np u r) (ht : sTime r.1 < 120) : ∀ d q I, q + d = lPorts l → cR I s h l (stalesA l e q r) → fr I0 I (s + 6) (s + 17) → WP xs 61 3 42 [vr s, vi ((m : Nat) : Int), vi ((q : Nat) : Int)] [] (S, I, T, cc, zz) (RP S T cc zz (fun v I' => v = some (vi ((m : Nat) : Int)) ∧ cR I' s h l ((sTime (stalesA l e (lPorts l) r).1 + 1, (stalesA l e (lPorts l) r).1.2.1, refillA l (stalesA l e (lPorts l) r).1, (stalesA l e (lPorts l) r).1.2.2.2), (stalesA l e (lPorts l) r).2) ∧ fr I0 I' (s + 6) (s + 17))) := by
  intro d
  have hl4 := E.okl.1
  induction d with
  | zero =>
    intro q I hq hR f
    refine w_iln l_61_42 rfl ?_
    refine w_aln l_61_43 rfl ?_
    refine w_gr l_61_44 (oRun_sh o) (oRun_r0 o) ?_
    refine w_gi (((lPorts l) : Nat) : Int) l_61_47 (oLimits_sh (oRun_o0 o)) ((E.fr f).L.1) ?_
    refine w_cge 64 l_61_50 (by decide) (fun _ => ?_) (fun hx => absurd hx (by omega))
    refine w_ic l_61_64 (by decide) ?_
    refine w_isn l_61_65 ⟨Nat.le_of_ble_eq_true rfl, rfl⟩ ?_
    have e9 : q = lPorts l := by omega
    rw [e9] at hR
    exact lp_61c o E hu (by rw [(stalesA_ok (e := e) hok (lPorts l) hl4).2]; exact ht) _ 0 I (Nat.zero_add _) (by rw [rf3_0]; exact hR) f
  | succ d ih =>
    intro q I hq hR f
    refine w_iln l_61_42 rfl ?_
    refine w_aln l_61_43 rfl ?_
    refine w_gr l_61_44 (oRun_sh o) (oRun_r0 o) ?_
    refine w_gi (((lPorts l) : Nat) : Int) l_61_47 (oLimits_sh (oRun_o0 o)) ((E.fr f).L.1) ?_
    refine w_cge 64 l_61_50 (by decide) (fun hx => absurd hx (by omega)) (fun _ => ?_)
    refine w_aln l_61_53 rfl ?_
    refine w_iln l_61_54 rfl ?_
    refine p_iv [vi ((q : Nat) : Int)] [] l_61_55 rfl rfl (Nat.le_of_ble_eq_true rfl) (by rw [mx_63]; exact Nat.le_of_ble_eq_true rfl) (by rw [mt_63]; exact oRun_sh o) (by rw [mt_63]; decide) (by rw [rk_63]; decide) (s_63 o (E.fr f) hR (stalesA_ok hok q (by omega)).1 (by omega) hu) (fun v I1 hv => ?_)
    obtain ⟨rfl, hR1, f1⟩ := hv
    refine w_inc ((q + 1 : Nat) : Int) l_61_58 rfl rfl (by unfold wr; omega) ?_
    refine w_go 42 l_61_61 (by decide) ?_
    exact ih (q + 1) I1 (by omega) hR1 (f.tr f1)
theorem lp_61a {I0 : Ix} (o : oRun S T s x) {e ne np : Nat} {a : Nat → Nat} {u : Nat} (E : CE I0 s x e h l a ne np) (hu : u ≤ 360) (hok : okR h l np u r) (ht : sTime r.1 < 120) : ∀ d q I, q + d = lPorts l → cR I s h l (delsA h l q r).1 → fr I0 I (s + 6) (s + 17) → WP xs 61 3 4 [vr s, vi (((delsA h l q r).2 : Nat) : Int), vi ((q : Nat) : Int)] [] (S, I, T, cc, zz) (RP S T cc zz (fun v I' => v = some (vi (((tickA h l e r).2 : Nat) : Int)) ∧ cR I' s h l (tickA h l e r).1 ∧ fr I0 I' (s + 6) (s + 17))) := by
  intro d
  have hl4 := E.okl.1
  induction d with
  | zero =>
    intro q I hq hR f
    refine w_iln l_61_4 rfl ?_
    refine w_aln l_61_5 rfl ?_
    refine w_gr l_61_6 (oRun_sh o) (oRun_r0 o) ?_
    refine w_gi (((lPorts l) : Nat) : Int) l_61_9 (oLimits_sh (oRun_o0 o)) ((E.fr f).L.1) ?_
    refine w_cge 40 l_61_12 (by decide) (fun _ => ?_) (fun hx => absurd hx (by omega))
    refine w_ic l_61_40 (by decide) ?_
    refine w_isn l_61_41 ⟨Nat.le_of_ble_eq_true rfl, rfl⟩ ?_
    have e9 : q = lPorts l := by omega
    rw [e9] at hR ⊢
    exact lp_61b o E hu (delsA_ok hok E.ok (lPorts l) hl4).1 (by rw [(delsA_ok hok E.ok (lPorts l) hl4).2.1]; exact ht) _ 0 I (Nat.zero_add _) hR f
  | succ d ih =>
    intro q I hq hR f
    obtain ⟨hokq, _, hdl⟩ := delsA_ok (l := l) hok E.ok q (by omega)
    have hmn := ok_len hokq E.ok q
    refine w_iln l_61_4 rfl ?_
    refine w_aln l_61_5 rfl ?_
    refine w_gr l_61_6 (oRun_sh o) (oRun_r0 o) ?_
    refine w_gi (((lPorts l) : Nat) : Int) l_61_9 (oLimits_sh (oRun_o0 o)) ((E.fr f).L.1) ?_
    refine w_cge 40 l_61_12 (by decide) (fun hx => absurd hx (by omega)) (fun _ => ?_)
    refine w_aln l_61_15 rfl ?_
    refine w_gr l_61_16 (oRun_sh o) (oRun_r1 o) ?_
    refine w_iln l_61_19 rfl ?_
    refine q_iv [vi ((q : Nat) : Int)] [] l_61_20 rfl rfl (Nat.le_of_ble_eq_true rfl) (by rw [mx_80]; exact Nat.le_of_ble_eq_true rfl) (by rw [mt_80]; exact oState_sh (oRun_o1 o)) (by rw [mt_80]; decide) (by rw [rk_80]; decide) (c_hasLink o hR (by omega)) ?_
    refine w_beq 34 l_61_23 (by decide) (fun h1 => ?_) (fun h1 => ?_)
    · skip
      refine w_inc ((q + 1 : Nat) : Int) l_61_34 rfl rfl (by unfold wr; omega) ?_
      refine w_go 4 l_61_37 (by decide) ?_
      have e9 := ih (q + 1) I (by omega) (by rw [dels_f h1]; exact hR) f
      rw [dels_f h1] at e9
      exact e9
    · skip
      refine w_iln l_61_26 rfl ?_
      refine w_aln l_61_27 rfl ?_
      refine w_iln l_61_28 rfl ?_
      refine p_iv [vi ((q : Nat) : Int)] [vi (((delsA h l q r).2 : Nat) : Int)] l_61_29 rfl rfl (Nat.le_of_ble_eq_true rfl) (by rw [mx_62]; exact Nat.le_of_ble_eq_true rfl) (by rw [mt_62]; exact oRun_sh o) (by rw [mt_62]; decide) (by rw [rk_62]; decide) (s_62 o (E.fr f) hR hokq (by omega) hu) (fun v I1 hv => ?_)
      obtain ⟨rfl, hR1, f1⟩ := hv
      refine w_add (((delsA h l q r).2 + (min (lSpeed l q) (sQ (delsA h l q r).1.1 q).length) : Nat) : Int) l_61_32 (by unfold wr; omega) ?_
      refine w_isn l_61_33 ⟨Nat.le_of_ble_eq_true rfl, rfl⟩ ?_
      refine w_inc ((q + 1 : Nat) : Int) l_61_34 rfl rfl (by unfold wr; omega) ?_
      refine w_go 4 l_61_37 (by decide) ?_
      have e9 := ih (q + 1) I1 (by omega) (by rw [dels_t h1]; exact hR1) (f.tr f1)
      rw [dels_t h1] at e9
      exact e9
theorem s_61 (o : oRun S T s x) {e ne np : Nat} {a : Nat → Nat} {u : Nat} (E : CE I s x e h l a ne np) (hR : cR I s h l r) (hok : okR h l np u r) (hu : u ≤ 360) (ht : sTime r.1 < 120) : CL xs 61 [vr s] (S, I, T, cc, zz) (RP S T cc zz (fun v I' => v = some (vi (((tickA h l e r).2 : Nat) : Int)) ∧ cR I' s h l (tickA h l e r).1 ∧ fr I I' (s + 6) (s + 17))) := by
  refine CL_start (r := 3) (ls := [vr s, vs 2, vs 2]) (rk_61 _) rfl ?_
  refine w_ic l_61_0 (by decide) ?_
  refine w_isn l_61_1 ⟨Nat.le_of_ble_eq_true rfl, rfl⟩ ?_
  refine w_ic l_61_2 (by decide) ?_
  refine w_isn l_61_3 ⟨Nat.le_of_ble_eq_true rfl, rfl⟩ ?_
  exact lp_61a o E hu hok ht _ 0 I (Nat.zero_add _) hR (fr.rf _ _ _)

end DOP
