/-! the class: the checkpoints' states -/
def oCk (S : List (Nat × Nat)) (T : Nat → Nat → Nat) (s : Nat) : Prop := ∀ c, c < 8 → T (s + 31) c = s + 99 + 8 * c + 1 ∧ oState S T (s + 99 + 8 * c)
/-- each checkpoint that is kept (those ahead of events that have happened; the first always) holds the state after its events -/
def cCk (I : Ix) (s : Nat) (h : Hi) (l : Li) (ne : Nat) : Prop := ∀ c, c < 8 → c * 16 ≤ ne - 1 → cS I (s + 99 + 8 * c) h l (runA h l noOut (c * 16)).1
theorem cCk.fr {I J : Ix} {s lo hi ne : Nat} {h : Hi} {l : Li} (H : cCk I s h l ne) (f : fr I J lo hi) (d : hi < s + 99 ∨ s + 162 < lo) : cCk J s h l ne := fun c hc hn => (H c hc hn).fr f (by omega)
theorem ltC_16 {e ne : Nat} (he : e ≤ ne) (hn : ne ≤ 120) : ∃ c, ltC e ne = c * 16 ∧ c < 8 ∧ c * 16 ≤ ne - 1 ∧ ltC e ne / 16 = c := by
  refine ⟨ltC e ne / 16, ?_, ?_, ?_, rfl⟩ <;> unfold ltC <;> (repeat split) <;> omega
theorem ok_lo0 {h : Hi} {l : Li} {np u : Nat} {r : Ra} (H : okR h l np u r) : okR h l np u (r.1, lo0) := by
  refine ⟨H.1, H.2.1, Nat.le_trans ?_ H.2.2⟩
  show 0 + qlen r.1 + (0 + 0 + 0 + 0) ≤ r.2.1.length + qlen r.1 + dsum r.2
  omega
/-- what stays true of a replay -/
theorem rep_ok {h : Hi} {l : Li} {ne np : Nat} (ok : okHi h) (okl : okLi l) (hev : okEv h l ne np) {out out' : Nat → Bool} {f : Nat} : ∀ n, f + n ≤ ne → okR h l np (3 * (f + n)) (runF h l out' ((runA h l out f).1, lo0) f n) ∧ okT l (runF h l out' ((runA h l out f).1, lo0) f n).1 ∧ sTime (runF h l out' ((runA h l out f).1, lo0) f n).1 ≤ f + n
  | 0, he => by
    obtain ⟨h1, h2, h3⟩ := run_ok (out := out) ok okl hev f (by omega)
    exact ⟨ok_lo0 h1, h2, h3⟩
  | n + 1, he => by
    obtain ⟨h1, h2, h3⟩ := rep_ok (out := out) (out' := out') (f := f) ok okl hev n (by omega)
    unfold runF
    split
    · exact ⟨ok_le h1 (by omega), h2, by omega⟩
    · have g := step_ok (e := f + n) h1 h2 ok okl hev (by omega)
      exact ⟨ok_le g.1 (by omega), g.2.1, by omega⟩
/-- the trial's times of the table are small -/
def tmR (I : Ix) (s : Nat) : Prop := ∀ b, b < 64 → ∃ t : Nat, I (s + 52 + 6 + 7) b = (t : Int) ∧ t ≤ 120
section CRE
variable {xs : List Int} {S : List (Nat × Nat)} {T : Nat → Nat → Nat} {cc zz s q y : Nat} {h : Hi} {l : Li} {I I' : Ix}

theorem mx_160 : mxl 160 = 4 := by decide +kernel
theorem mt_160 : mtc 160 = 9 := by decide +kernel
theorem rk_160 (as : List AV) : rkA 160 as = 5 := rfl
theorem l_160_0 : look 160 0 = some (.aload_n 0, 1, 0, 0, 0, 0) := by decide +kernel
theorem l_160_1 : look 160 1 = some (.iload_n 1, 1, 0, 0, 0, 0) := by decide +kernel
theorem l_160_2 : look 160 2 = some (.invokevirtual 257, 3, 159, 2, 0, 1322) := by decide +kernel
theorem l_160_5 : look 160 5 = some (.istore_n 2, 1, 0, 0, 0, 0) := by decide +kernel
theorem l_160_6 : look 160 6 = some (.aload_n 0, 1, 0, 0, 0, 0) := by decide +kernel
theorem l_160_7 : look 160 7 = some (.getfield 61, 3, 9, 9, 2, 547) := by decide +kernel
theorem l_160_10 : look 160 10 = some (.getfield 218, 3, 5, 0, 2, 447) := by decide +kernel
theorem l_160_13 : look 160 13 = some (.aload_n 0, 1, 0, 0, 0, 0) := by decide +kernel
theorem l_160_14 : look 160 14 = some (.getfield 35, 3, 9, 5, 2, 543) := by decide +kernel
theorem l_160_17 : look 160 17 = some (.getfield 113, 3, 6, 0, 2, 248) := by decide +kernel
theorem l_160_20 : look 160 20 = some (.invokevirtual 297, 3, 9, 2, 0, 512) := by decide +kernel
theorem l_160_23 : look 160 23 = some (.aload_n 0, 1, 0, 0, 0, 0) := by decide +kernel
theorem l_160_24 : look 160 24 = some (.getfield 61, 3, 9, 9, 2, 547) := by decide +kernel
theorem l_160_27 : look 160 27 = some (.aload_n 0, 1, 0, 0, 0, 0) := by decide +kernel
theorem l_160_28 : look 160 28 = some (.getfield 48, 3, 9, 7, 2, 545) := by decide +kernel
theorem l_160_31 : look 160 31 = some (.iload_n 2, 1, 0, 0, 0, 0) := by decide +kernel
theorem l_160_32 : look 160 32 = some (.bipush 16, 2, 0, 0, 0, 0) := by decide +kernel
theorem l_160_34 : look 160 34 = some (.idiv, 1, 0, 0, 0, 0) := by decide +kernel
theorem l_160_35 : look 160 35 = some (.aaload, 1, 0, 0, 0, 0) := by decide +kernel
theorem l_160_36 : look 160 36 = some (.invokevirtual 356, 3, 50, 2, 0, 1338) := by decide +kernel
theorem l_160_39 : look 160 39 = some (.iload_n 2, 1, 0, 0, 0, 0) := by decide +kernel
theorem l_160_40 : look 160 40 = some (.istore_n 3, 1, 0, 0, 0, 0) := by decide +kernel
theorem l_160_41 : look 160 41 = some (.iload_n 3, 1, 0, 0, 0, 0) := by decide +kernel
theorem l_160_42 : look 160 42 = some (.iload_n 1, 1, 0, 0, 0, 0) := by decide +kernel
theorem l_160_43 : look 160 43 = some (.if_icmp .ge 18, 3, 0, 0, 0, 0) := by decide +kernel
theorem l_160_46 : look 160 46 = some (.aload_n 0, 1, 0, 0, 0, 0) := by decide +kernel
theorem l_160_47 : look 160 47 = some (.getfield 61, 3, 9, 9, 2, 547) := by decide +kernel
theorem l_160_50 : look 160 50 = some (.iload_n 3, 1, 0, 0, 0, 0) := by decide +kernel
theorem l_160_51 : look 160 51 = some (.invokevirtual 186, 3, 51, 2, 0, 650) := by decide +kernel
theorem l_160_54 : look 160 54 = some (.pop, 1, 0, 0, 0, 0) := by decide +kernel
theorem l_160_55 : look 160 55 = some (.iinc 3 1, 3, 0, 0, 0, 0) := by decide +kernel
theorem l_160_58 : look 160 58 = some (.goto (-17), 3, 0, 0, 0, 0) := by decide +kernel
theorem l_160_61 : look 160 61 = some (.return_, 1, 0, 0, 0, 0) := by decide +kernel

theorem lp_160 {I0 : Ix} (o : oDropSwitch S T s q y) {ne np : Nat} {a : Nat → Nat} (K : KB I0 s h l a ne np) {e f m9 : Nat} (he : e ≤ ne) (hm9 : f + m9 = e) : ∀ d n I pk, n + d = m9 → cR I (s + 52) h l (runF h l noOut ((runA h l noOut f).1, lo0) f n) → cP I (s + 66) pk → cLi I (s + 53) l → fr I0 I (s + 52) (s + 71) → WP xs 160 5 41 [vr s, vi ((e : Nat) : Int), vi ((f : Nat) : Int), vi (((f + n) : Nat) : Int)] [] (S, I, T, cc, zz) (RP S T cc zz (fun v I' => v = none ∧ cR I' (s + 52) h l (runF h l noOut ((runA h l noOut f).1, lo0) f m9) ∧ cLi I' (s + 53) l ∧ fr I0 I' (s + 52) (s + 71))) := by
  intro d
  have hne := K.1.2.2.1
  induction d with
  | zero =>
    intro n I pk hn hR hP hL fi
    refine w_iln l_160_41 rfl ?_
    refine w_iln l_160_42 rfl ?_
    refine w_cge 61 l_160_43 (by decide) (fun _ => ?_) (fun hx => absurd hx (by omega))
    refine w_vr l_160_61 ?_
    have e9 : m9 = n := by omega
    rw [e9]
    exact ⟨_, _, rfl, rfl, rfl, hR, hL, fi⟩
  | succ d ih =>
    intro n I pk hn hR hP hL fi
    have KBc := K.fr fi (by omega)
    have hLc : cLi I (s + 52 + 1) l := hL
    have hok := rep_ok K.2.2.1 K.2.2.2.1 K.2.2.2.2.1 (out := noOut) (out' := noOut) (f := f) n (by omega)
    refine w_iln l_160_41 rfl ?_
    refine w_iln l_160_42 rfl ?_
    refine w_cge 61 l_160_43 (by decide) (fun hx => absurd hx (by omega)) (fun _ => ?_)
    refine w_aln l_160_46 rfl ?_
    refine w_gr l_160_47 (oDropSwitch_sh o) (oDropSwitch_r9 o) ?_
    refine w_iln l_160_50 rfl ?_
    refine p_iv [vi (((f + n) : Nat) : Int)] [] l_160_51 rfl rfl (Nat.le_of_ble_eq_true rfl) (by rw [mx_51]; exact Nat.le_of_ble_eq_true rfl) (by rw [mt_51]; exact oRun_sh (oDropSwitch_o9 o)) (by rw [mt_51]; decide) (by rw [rk_51]; decide) (s_51 (oDropSwitch_o9 o) (KBc.CB hLc (by omega) K.2.2.2.1 rfl) hR hP hok.1 (by omega) (by omega) (by omega)) (fun v I1 hv => ?_)
    obtain ⟨rfl, hR1, hP1, f1⟩ := hv
    refine w_pop l_160_54 rfl ?_
    refine w_inc (((f + n) + 1 : Nat) : Int) l_160_55 rfl rfl (by unfold wr; omega) ?_
    refine w_go 41 l_160_58 (by decide) ?_
    have e9 : runF h l noOut ((runA h l noOut f).1, lo0) f (n + 1) = (stepA h l (f + n) (runF h l noOut ((runA h l noOut f).1, lo0) f n)).1 := by
      rw [runF, if_neg (fun h9 : noOut (f + n) = true => absurd (show false = true from h9) (by decide))]
    exact ih (n + 1) I1 _ (by omega) (by rw [e9]; exact hR1) hP1 (hL.fr2 f1) (fi.tr f1.fr)
theorem s_160 (o : oDropSwitch S T s q y) (hq : s < q ∧ q + 8 < s + 21) (ck : oCk S T s) {ne np : Nat} {a : Nat → Nat} (K : KQ I s q h l a ne np) (B : KB I s h l a ne np) (C : cCk I s h l ne) {e : Nat} (he : e ≤ ne) : CL xs 160 [vr s, vi ((e : Nat) : Int)] (S, I, T, cc, zz) (RP S T cc zz (fun v I' => v = none ∧ cR I' (s + 52) h l (runF h l noOut ((runA h l noOut (ltC e ne)).1, lo0) (ltC e ne) (e - ltC e ne)) ∧ cLi I' (s + 53) l ∧ fr I I' (s + 52) (s + 71))) := by
  refine CL_start (r := 5) (ls := [vr s, vi ((e : Nat) : Int), vs 2, vs 2]) (rk_160 _) rfl ?_
  have hne := K.2.2.1.2.2.1
  obtain ⟨c0, hc1, hc2, hc3, hc4⟩ := ltC_16 he hne
  have hc8 : (ltC e ne / 16) < 8 := by rw [hc4]; exact hc2
  have hc9 : (ltC e ne / 16) * 16 ≤ ne - 1 := by rw [hc4]; exact hc3
  have h16 : (ltC e ne / 16) * 16 = ltC e ne := by rw [hc4]; exact hc1.symm
  have hle := ltC_le (e := e) (ne := ne)
  refine w_aln l_160_0 rfl ?_
  refine w_iln l_160_1 rfl ?_
  refine q_iv [vi ((e : Nat) : Int)] [] l_160_2 rfl rfl (Nat.le_of_ble_eq_true rfl) (by rw [mx_159]; exact Nat.le_of_ble_eq_true rfl) (by rw [mt_159]; exact oDropSwitch_sh o) (by rw [mt_159]; decide) (by rw [rk_159]; decide) (s_159 o K he) ?_
  refine w_isn l_160_5 ⟨Nat.le_of_ble_eq_true rfl, rfl⟩ ?_
  refine w_aln l_160_6 rfl ?_
  refine w_gr l_160_7 (oDropSwitch_sh o) (oDropSwitch_r9 o) ?_
  refine w_gr l_160_10 (oRun_sh (oDropSwitch_o9 o)) (oRun_r0 (oDropSwitch_o9 o)) ?_
  refine w_aln l_160_13 rfl ?_
  refine w_gr l_160_14 (oDropSwitch_sh o) (oDropSwitch_r5 o) ?_
  refine w_gr l_160_17 (oSetup_sh (oDropSwitch_o5 o)) (oSetup_r0 (oDropSwitch_o5 o)) ?_
  refine p_iv [vr (q + 1)] [] l_160_20 rfl rfl (Nat.le_of_ble_eq_true rfl) (by rw [mx_9]; exact Nat.le_of_ble_eq_true rfl) (by rw [mt_9]; exact oLimits_sh (oRun_o0 (oDropSwitch_o9 o))) (by rw [mt_9]; decide) (by rw [rk_9]; decide) (t_limits (oRun_o0 (oDropSwitch_o9 o)) (oSetup_o0 (oDropSwitch_o5 o)) (by omega) K.1 B.2.2.2.1.1) (fun v I1 hv => ?_)
  obtain ⟨rfl, hL1, f1⟩ := hv
  refine w_aln l_160_23 rfl ?_
  refine w_gr l_160_24 (oDropSwitch_sh o) (oDropSwitch_r9 o) ?_
  refine w_aln l_160_27 rfl ?_
  refine w_gr l_160_28 (oDropSwitch_sh o) (oDropSwitch_r7 o) ?_
  refine w_iln l_160_31 rfl ?_
  refine w_bp l_160_32 (by decide) ?_
  refine w_div (((ltC e ne / 16) : Nat) : Int) l_160_34 (by decide) (by rw [show ((ltC e ne : Nat) : Int).tdiv 16 = ((ltC e ne / 16 : Nat) : Int) from rfl]; unfold wr; omega) ?_
  refine w_aa (v := (s + 99 + 8 * (ltC e ne / 16))) (ltC e ne / 16) l_160_35 (oDropSwitch_s7 o) rfl (by omega) ((ck (ltC e ne / 16) hc8).1) ?_
  refine p_iv [vr (s + 99 + 8 * (ltC e ne / 16))] [] l_160_36 rfl rfl (Nat.le_of_ble_eq_true rfl) (by rw [mx_50]; exact Nat.le_of_ble_eq_true rfl) (by rw [mt_50]; exact oRun_sh (oDropSwitch_o9 o)) (by rw [mt_50]; decide) (by rw [rk_50]; decide) (s_50 (oDropSwitch_o9 o) (ck (ltC e ne / 16) hc8).2 (by omega) ((C.fr f1 (Or.inl (by omega))) (ltC e ne / 16) hc8 hc9)) (fun v I2 hv => ?_)
  obtain ⟨rfl, hR2, hP2, f2⟩ := hv
  refine w_iln l_160_39 rfl ?_
  refine w_isn l_160_40 ⟨Nat.le_of_ble_eq_true rfl, rfl⟩ ?_
  rw [h16] at hR2
  have e8 := lp_160 (xs := xs) (cc := cc) (zz := zz) (I0 := I) o B (f := ltC e ne) (m9 := e - ltC e ne) he (by omega) (e - ltC e ne) 0 I2 _ (Nat.zero_add _) hR2 hP2 (hL1.fr f2 (Or.inr (by omega))) ((f1.mono (by omega) (by omega)).tr (f2.mono (by omega) (by omega)))
  rw [Nat.add_zero] at e8
  exact e8

end CRE
