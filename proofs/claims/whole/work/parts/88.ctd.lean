/-! the class: a trial until a drop happens again -/
def anyF (h : Hi) (L : Li) (d : Dr) : Nat → Bool
  | 0 => false
  | n + 1 => anyF h L d n || hasF (runA h L noOut (n + 1)).2 d.2.1 d.2.2.1
theorem anyF_up {h : Hi} {L : Li} {d : Dr} {m : Nat} (H : anyF h L d m = true) : ∀ k, anyF h L d (m + k) = true
  | 0 => H
  | k + 1 => by show (anyF h L d (m + k) || _) = true; rw [anyF_up H k]; rfl
section CTD
variable {xs : List Int} {S : List (Nat × Nat)} {T : Nat → Nat → Nat} {cc zz s q y : Nat} {h : Hi} {l L : Li} {I I' : Ix}

theorem mx_165 : mxl 165 = 3 := by decide +kernel
theorem mt_165 : mtc 165 = 9 := by decide +kernel
theorem rk_165 (as : List AV) : rkA 165 as = 5 := rfl
theorem l_165_0 : look 165 0 = some (.aload_n 0, 1, 0, 0, 0, 0) := by decide +kernel
theorem l_165_1 : look 165 1 = some (.getfield 61, 3, 9, 9, 2, 547) := by decide +kernel
theorem l_165_4 : look 165 4 = some (.invokevirtual 183, 3, 49, 1, 0, 519) := by decide +kernel
theorem l_165_7 : look 165 7 = some (.iconst 0, 1, 0, 0, 0, 0) := by decide +kernel
theorem l_165_8 : look 165 8 = some (.istore_n 2, 1, 0, 0, 0, 0) := by decide +kernel
theorem l_165_9 : look 165 9 = some (.iload_n 2, 1, 0, 0, 0, 0) := by decide +kernel
theorem l_165_10 : look 165 10 = some (.aload_n 0, 1, 0, 0, 0, 0) := by decide +kernel
theorem l_165_11 : look 165 11 = some (.getfield 42, 3, 9, 6, 2, 544) := by decide +kernel
theorem l_165_14 : look 165 14 = some (.getfield 125, 3, 0, 0, 0, 316) := by decide +kernel
theorem l_165_17 : look 165 17 = some (.if_icmp .ge 41, 3, 0, 0, 0, 0) := by decide +kernel
theorem l_165_20 : look 165 20 = some (.aload_n 0, 1, 0, 0, 0, 0) := by decide +kernel
theorem l_165_21 : look 165 21 = some (.getfield 61, 3, 9, 9, 2, 547) := by decide +kernel
theorem l_165_24 : look 165 24 = some (.iload_n 2, 1, 0, 0, 0, 0) := by decide +kernel
theorem l_165_25 : look 165 25 = some (.invokevirtual 186, 3, 51, 2, 0, 650) := by decide +kernel
theorem l_165_28 : look 165 28 = some (.pop, 1, 0, 0, 0, 0) := by decide +kernel
theorem l_165_29 : look 165 29 = some (.aload_n 0, 1, 0, 0, 0, 0) := by decide +kernel
theorem l_165_30 : look 165 30 = some (.getfield 61, 3, 9, 9, 2, 547) := by decide +kernel
theorem l_165_33 : look 165 33 = some (.getfield 131, 3, 5, 2, 2, 451) := by decide +kernel
theorem l_165_36 : look 165 36 = some (.aload_n 0, 1, 0, 0, 0, 0) := by decide +kernel
theorem l_165_37 : look 165 37 = some (.getfield 57, 3, 9, 8, 2, 546) := by decide +kernel
theorem l_165_40 : look 165 40 = some (.getfield 131, 3, 5, 2, 2, 451) := by decide +kernel
theorem l_165_43 : look 165 43 = some (.iload_n 1, 1, 0, 0, 0, 0) := by decide +kernel
theorem l_165_44 : look 165 44 = some (.invokevirtual 362, 3, 27, 3, 0, 1410) := by decide +kernel
theorem l_165_47 : look 165 47 = some (.ifCond .eq 5, 3, 0, 0, 0, 0) := by decide +kernel
theorem l_165_50 : look 165 50 = some (.iconst 1, 1, 0, 0, 0, 0) := by decide +kernel
theorem l_165_51 : look 165 51 = some (.ireturn, 1, 0, 0, 1, 0) := by decide +kernel
theorem l_165_52 : look 165 52 = some (.iinc 2 1, 3, 0, 0, 0, 0) := by decide +kernel
theorem l_165_55 : look 165 55 = some (.goto (-46), 3, 0, 0, 0, 0) := by decide +kernel
theorem l_165_58 : look 165 58 = some (.iconst 0, 1, 0, 0, 0, 0) := by decide +kernel
theorem l_165_59 : look 165 59 = some (.ireturn, 1, 0, 0, 1, 0) := by decide +kernel

theorem lp_165 {I0 : Ix} (o : oDropSwitch S T s q y) {ne np : Nat} {a : Nat → Nat} (K : KQ I0 s q h l a ne np) (B : KB I0 s h l a ne np) (okL : okLi L) (e1 : L.1 = l.1) {k : Nat} (hk : k < (runA h l noOut ne).2.1.length) : ∀ d e I pk, e + d = ne → anyF h L ((runA h l noOut ne).2.1.getD k dr0) e = false → cR I (s + 52) h L (runA h L noOut e) → cP I (s + 66) pk → cLi I (s + 53) L → fr I0 I (s + 52) (s + 71) → WP xs 165 5 9 [vr s, vi ((k : Nat) : Int), vi ((e : Nat) : Int)] [] (S, I, T, cc, zz) (RP S T cc zz (fun v I' => v = some (vi (b2i (anyF h L ((runA h l noOut ne).2.1.getD k dr0) ne))) ∧ cLi I' (s + 53) L ∧ fr I0 I' (s + 52) (s + 71) ∧ tmR I' s ∧ ∃ m, m ≤ ne ∧ cR I' (s + 52) h L (runA h L noOut m) ∧ (anyF h L ((runA h l noOut ne).2.1.getD k dr0) ne = true → hasF (runA h L noOut m).2 ((runA h l noOut ne).2.1.getD k dr0).2.1 ((runA h l noOut ne).2.1.getD k dr0).2.2.1 = true))) := by
  intro d
  have hne := B.1.2.2.1
  have hPr := K.2.2.2.1.2
  have hdr : okDr (runA h l noOut ne).2.1 := run_okDr K.2.2.2.2.2.2.2.1 K.2.2.2.2.2.2.2.2.1 K.2.2.2.2.2.2.2.2.2 hne (Nat.le_refl ne)
  induction d with
  | zero =>
    intro e I pk he hany hR hP hL fi
    have KBc := B.fr fi (by omega)
    refine w_iln l_165_9 rfl ?_
    refine w_aln l_165_10 rfl ?_
    refine w_gr l_165_11 (oDropSwitch_sh o) (oDropSwitch_r6 o) ?_
    refine w_gi ((ne : Nat) : Int) l_165_14 (oHistory_sh (oDropSwitch_o6 o)) KBc.1.1 ?_
    refine w_cge 58 l_165_17 (by decide) (fun _ => ?_) (fun hx => absurd hx (by omega))
    refine w_ic l_165_58 (by decide) ?_
    refine w_ir l_165_59 (by decide) ?_
    have e9 : e = ne := by omega
    rw [e9] at hany hR
    exact ⟨_, _, rfl, rfl, by rw [hany]; rfl, hL, fi, hR.tim, ne, Nat.le_refl ne, hR, fun hh => by rw [hany] at hh; cases hh⟩
  | succ d ih =>
    intro e I pk he hany hR hP hL fi
    have KBc := B.fr fi (by omega)
    have hLc : cLi I (s + 52 + 1) L := hL
    have hok := run_ok B.2.2.1 okL (okEv_1 (l' := L) B.2.2.2.2.1 e1) (out := noOut) e (by omega)
    refine w_iln l_165_9 rfl ?_
    refine w_aln l_165_10 rfl ?_
    refine w_gr l_165_11 (oDropSwitch_sh o) (oDropSwitch_r6 o) ?_
    refine w_gi ((ne : Nat) : Int) l_165_14 (oHistory_sh (oDropSwitch_o6 o)) KBc.1.1 ?_
    refine w_cge 58 l_165_17 (by decide) (fun hx => absurd hx (by omega)) (fun _ => ?_)
    refine w_aln l_165_20 rfl ?_
    refine w_gr l_165_21 (oDropSwitch_sh o) (oDropSwitch_r9 o) ?_
    refine w_iln l_165_24 rfl ?_
    refine p_iv [vi ((e : Nat) : Int)] [] l_165_25 rfl rfl (Nat.le_of_ble_eq_true rfl) (by rw [mx_51]; exact Nat.le_of_ble_eq_true rfl) (by rw [mt_51]; exact oRun_sh (oDropSwitch_o9 o)) (by rw [mt_51]; decide) (by rw [rk_51]; decide) (s_51 (oDropSwitch_o9 o) (KBc.CB hLc (by omega) okL e1) hR hP hok.1 (by omega) (by omega) (by omega)) (fun v I1 hv => ?_)
    obtain ⟨rfl, hR1, hP1, f1⟩ := hv
    refine w_pop l_165_28 rfl ?_
    have hR2 : cR I1 (s + 52) h L (runA h L noOut (e + 1)) := by rw [run_s rfl]; exact hR1
    refine w_aln l_165_29 rfl ?_
    refine w_gr l_165_30 (oDropSwitch_sh o) (oDropSwitch_r9 o) ?_
    refine w_gr l_165_33 (oRun_sh (oDropSwitch_o9 o)) (oRun_r2 (oDropSwitch_o9 o)) ?_
    refine w_aln l_165_36 rfl ?_
    refine w_gr l_165_37 (oDropSwitch_sh o) (oDropSwitch_r8 o) ?_
    refine w_gr l_165_40 (oRun_sh (oDropSwitch_o8 o)) (oRun_r2 (oDropSwitch_o8 o)) ?_
    refine w_iln l_165_43 rfl ?_
    refine q_iv [vr (s + 32 + 14), vi ((k : Nat) : Int)] [] l_165_44 rfl rfl (Nat.le_of_ble_eq_true rfl) (by rw [mx_27]; exact Nat.le_of_ble_eq_true rfl) (by rw [mt_27]; exact oLog_sh (oRun_o2 (oDropSwitch_o9 o))) (by rw [mt_27]; decide) (by rw [rk_27]; decide) (s_27 (oRun_o2 (oDropSwitch_o9 o)) (oRun_o2 (oDropSwitch_o8 o)) hR2.2 ((hPr.fr fi (Or.inr (by omega))).fr f1.fr (Or.inr (by omega))) hdr hk) ?_
    refine w_beq 52 l_165_47 (by decide) (fun h1 => ?_) (fun h1 => ?_)
    · skip
      refine w_inc ((e + 1 : Nat) : Int) l_165_52 rfl rfl (by unfold wr; omega) ?_
      refine w_go 9 l_165_55 (by decide) ?_
      exact ih (e + 1) I1 _ (by omega) (by show (anyF h L ((runA h l noOut ne).2.1.getD k dr0) e || hasF (runA h L noOut (e + 1)).2 ((runA h l noOut ne).2.1.getD k dr0).2.1 ((runA h l noOut ne).2.1.getD k dr0).2.2.1) = false; rw [hany, h1]; rfl) hR2 hP1 (hL.fr2 f1) (fi.tr f1.fr)
    · skip
      refine w_ic l_165_50 (by decide) ?_
      refine w_ir l_165_51 (by decide) ?_
      have h8 := anyF_up (h := h) (L := L) (d := ((runA h l noOut ne).2.1.getD k dr0)) (m := e + 1) (by show (anyF h L ((runA h l noOut ne).2.1.getD k dr0) e || hasF (runA h L noOut (e + 1)).2 ((runA h l noOut ne).2.1.getD k dr0).2.1 ((runA h l noOut ne).2.1.getD k dr0).2.2.1) = true; rw [h1]; exact Bool.or_true _) (ne - (e + 1))
      rw [show e + 1 + (ne - (e + 1)) = ne by omega] at h8
      exact ⟨_, _, rfl, rfl, by rw [h8]; rfl, hL.fr2 f1, fi.tr f1.fr, hR1.tim, e + 1, by omega, hR2, fun _ => h1⟩
theorem s_165 (o : oDropSwitch S T s q y) {ne np : Nat} {a : Nat → Nat} (K : KQ I s q h l a ne np) (B : KB I s h l a ne np) (okL : okLi L) (e1 : L.1 = l.1) (hpn : ∀ p, lPorts L ≤ p → lPol L p = none) (hL : cLi I (s + 53) L) (hT : ∀ b, b < 64 → ∃ t : Nat, I (s + 52 + 6 + 7) b = (t : Int) ∧ t ≤ 120) {k : Nat} (hk : k < (runA h l noOut ne).2.1.length) : CL xs 165 [vr s, vi ((k : Nat) : Int)] (S, I, T, cc, zz) (RP S T cc zz (fun v I' => v = some (vi (b2i (anyF h L ((runA h l noOut ne).2.1.getD k dr0) ne))) ∧ cLi I' (s + 53) L ∧ fr I I' (s + 52) (s + 71) ∧ tmR I' s ∧ ∃ m, m ≤ ne ∧ cR I' (s + 52) h L (runA h L noOut m) ∧ (anyF h L ((runA h l noOut ne).2.1.getD k dr0) ne = true → hasF (runA h L noOut m).2 ((runA h l noOut ne).2.1.getD k dr0).2.1 ((runA h l noOut ne).2.1.getD k dr0).2.2.1 = true))) := by
  refine CL_start (r := 5) (ls := [vr s, vi ((k : Nat) : Int), vs 2]) (rk_165 _) rfl ?_
  refine w_aln l_165_0 rfl ?_
  refine w_gr l_165_1 (oDropSwitch_sh o) (oDropSwitch_r9 o) ?_
  refine p_iv [] [] l_165_4 rfl rfl (Nat.le_of_ble_eq_true rfl) (by rw [mx_49]; exact Nat.le_of_ble_eq_true rfl) (by rw [mt_49]; exact oRun_sh (oDropSwitch_o9 o)) (by rw [mt_49]; decide) (by rw [rk_49]; decide) (s_49 (h := h) (oDropSwitch_o9 o) hL okL hpn hT) (fun v I1 hv => ?_)
  obtain ⟨rfl, hR1, hP1, f1⟩ := hv
  refine w_ic l_165_7 (by decide) ?_
  refine w_isn l_165_8 ⟨Nat.le_of_ble_eq_true rfl, rfl⟩ ?_
  exact lp_165 (I0 := I) o K B okL e1 hk ne 0 I1 _ (Nat.zero_add _) rfl hR1 hP1 (hL.fr f1 (Or.inr (by omega))) (f1.mono (by omega) (by omega))

end CTD
