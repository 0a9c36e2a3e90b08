/-! the class: a run's doings, 4 -/
theorem wbits_t {way : Nat → Bool} {n : Nat} (hw : way n = true) : wbits way (n + 1) = wbits way n + 2 ^ n := if_pos hw
theorem wbits_f {way : Nat → Bool} {n : Nat} (hw : way n = false) : wbits way (n + 1) = wbits way n := if_neg (by rw [hw]; decide)
theorem push_stop {h : Hi} {cap siz e k p n : Nat} {r : Ra} (hc : fillP h r.1 p + siz ≤ cap) : pushA h cap siz e k p n r = r := by
  cases n with
  | zero => rfl
  | succ n => unfold pushA; rw [if_pos hc]
theorem push_go {h : Hi} {cap siz e k p n : Nat} {r : Ra} (hc : ¬ fillP h r.1 p + siz ≤ cap) : pushA h cap siz e k p (n + 1) r = pushA h cap siz e k p n (outDr e p (loK (rkQ h (sQ r.1 p)) (sQ r.1 p).length) 8 k r) := by
  rw [pushA, if_neg hc]
theorem below_er {h : Hi} {z : Nat} {q : List Cp} {i : Nat} (hi : i < q.length) : belowQ h z (q.eraseIdx i) + (if hRnk h (q.getD i (0, 0)).1 < z then hSiz h (q.getD i (0, 0)).1 else 0) = belowQ h z q := by
  induction q generalizing i with
  | nil => cases hi
  | cons a r ih => cases i with
    | zero =>
      show belowQ h z r + (if hRnk h a.1 < z then hSiz h a.1 else 0) = (if hRnk h a.1 < z then hSiz h a.1 else 0) + belowQ h z r
      omega
    | succ i =>
      have := ih (i := i) (by simpa using hi)
      show (if hRnk h a.1 < z then hSiz h a.1 else 0) + belowQ h z (r.eraseIdx i) + (if hRnk h (r.getD i (0, 0)).1 < z then hSiz h (r.getD i (0, 0)).1 else 0) = (if hRnk h a.1 < z then hSiz h a.1 else 0) + belowQ h z r
      omega
theorem below_0 {h : Hi} {z : Nat} {q : List Cp} (hq : ∀ i, i < q.length → z ≤ rkQ h q i) : belowQ h z q = 0 := by
  induction q with
  | nil => rfl
  | cons a r ih =>
    have h1 := ih fun i hi => hq (i + 1) (by simpa using hi)
    have h2 : z ≤ hRnk h a.1 := hq 0 (by simp)
    show (if hRnk h a.1 < z then hSiz h a.1 else 0) + belowQ h z r = 0
    rw [if_neg (by omega), h1]
theorem push_fit {h : Hi} {cap siz e k p z : Nat} {r : Ra} (hc : ¬ fillP h r.1 p + siz ≤ cap) (hb : fillP h r.1 p + siz ≤ cap + belowQ h z (sQ r.1 p)) (hi : loK (rkQ h (sQ r.1 p)) (sQ r.1 p).length < (sQ r.1 p).length) :
    fillP h (outDr e p (loK (rkQ h (sQ r.1 p)) (sQ r.1 p).length) 8 k r).1 p + siz ≤ cap + belowQ h z (sQ (outDr e p (loK (rkQ h (sQ r.1 p)) (sQ r.1 p).length) 8 k r).1 p) := by
  show fillQ h (sQ (setQ r.1 p _) p) + siz ≤ cap + belowQ h z (sQ (setQ r.1 p _) p)
  rw [sQ_set, if_pos rfl]
  have h1 := fillQ_er (h := h) hi
  have h2 := below_er (h := h) (z := z) hi
  have h3 : rkQ h (sQ r.1 p) (loK (rkQ h (sQ r.1 p)) (sQ r.1 p).length) < z := by
    refine Nat.lt_of_not_le fun h4 => hc ?_
    have h5 : belowQ h z (sQ r.1 p) = 0 := below_0 fun i hi => Nat.le_trans h4 (loK_le _ _ _ hi)
    omega
  have h6 : hRnk h ((sQ r.1 p).getD (loK (rkQ h (sQ r.1 p)) (sQ r.1 p).length) (0, 0)).1 < z := h3
  rw [if_pos h6] at h2
  have h7 : fillP h r.1 p = fillQ h (sQ r.1 p) := rfl
  omega
section DOL
variable {xs : List Int} {S : List (Nat × Nat)} {T : Nat → Nat → Nat} {cc zz s x : Nat} {h : Hi} {l : Li} {r : Ra} {I I' : Ix}

theorem mx_55 : mxl 55 = 6 := by decide +kernel
theorem mt_55 : mtc 55 = 5 := by decide +kernel
theorem rk_55 (as : List AV) : rkA 55 as = 1 := rfl
theorem l_55_0 : look 55 0 = some (.aload_n 0, 1, 0, 0, 0, 0) := by decide +kernel
theorem l_55_1 : look 55 1 = some (.getfield 21, 3, 5, 1, 2, 636) := by decide +kernel
theorem l_55_4 : look 55 4 = some (.aload_n 0, 1, 0, 0, 0, 0) := by decide +kernel
theorem l_55_5 : look 55 5 = some (.getfield 32, 3, 5, 3, 2, 640) := by decide +kernel
theorem l_55_8 : look 55 8 = some (.getfield 133, 3, 0, 7, 2, 523) := by decide +kernel
theorem l_55_11 : look 55 11 = some (.iload_n 1, 1, 0, 0, 0, 0) := by decide +kernel
theorem l_55_12 : look 55 12 = some (.iaload, 1, 0, 0, 0, 0) := by decide +kernel
theorem l_55_13 : look 55 13 = some (.aload_n 0, 1, 0, 0, 0, 0) := by decide +kernel
theorem l_55_14 : look 55 14 = some (.getfield 12, 3, 5, 0, 2, 634) := by decide +kernel
theorem l_55_17 : look 55 17 = some (.getfield 136, 3, 1, 7, 0, 402) := by decide +kernel
theorem l_55_20 : look 55 20 = some (.invokevirtual 139, 3, 90, 3, 0, 1303) := by decide +kernel
theorem l_55_23 : look 55 23 = some (.istore_n 3, 1, 0, 0, 0, 0) := by decide +kernel
theorem l_55_24 : look 55 24 = some (.iload_n 3, 1, 0, 0, 0, 0) := by decide +kernel
theorem l_55_25 : look 55 25 = some (.iconst (-1), 1, 0, 0, 0, 0) := by decide +kernel
theorem l_55_26 : look 55 26 = some (.if_icmp .eq 7, 3, 0, 0, 0, 0) := by decide +kernel
theorem l_55_29 : look 55 29 = some (.iconst 1, 1, 0, 0, 0, 0) := by decide +kernel
theorem l_55_30 : look 55 30 = some (.iload_n 3, 1, 0, 0, 0, 0) := by decide +kernel
theorem l_55_31 : look 55 31 = some (.ishl, 1, 0, 0, 0, 0) := by decide +kernel
theorem l_55_32 : look 55 32 = some (.ireturn, 1, 0, 0, 0, 0) := by decide +kernel
theorem l_55_33 : look 55 33 = some (.iconst 0, 1, 0, 0, 0, 0) := by decide +kernel
theorem l_55_34 : look 55 34 = some (.istore 4, 2, 0, 0, 0, 0) := by decide +kernel
theorem l_55_36 : look 55 36 = some (.iconst 0, 1, 0, 0, 0, 0) := by decide +kernel
theorem l_55_37 : look 55 37 = some (.istore 5, 2, 0, 0, 0, 0) := by decide +kernel
theorem l_55_39 : look 55 39 = some (.iload 5, 2, 0, 0, 0, 0) := by decide +kernel
theorem l_55_41 : look 55 41 = some (.aload_n 0, 1, 0, 0, 0, 0) := by decide +kernel
theorem l_55_42 : look 55 42 = some (.getfield 12, 3, 5, 0, 2, 634) := by decide +kernel
theorem l_55_45 : look 55 45 = some (.getfield 117, 3, 1, 0, 0, 378) := by decide +kernel
theorem l_55_48 : look 55 48 = some (.if_icmp .ge 36, 3, 0, 0, 0, 0) := by decide +kernel
theorem l_55_51 : look 55 51 = some (.iload 5, 2, 0, 0, 0, 0) := by decide +kernel
theorem l_55_53 : look 55 53 = some (.iload_n 2, 1, 0, 0, 0, 0) := by decide +kernel
theorem l_55_54 : look 55 54 = some (.if_icmp .eq 24, 3, 0, 0, 0, 0) := by decide +kernel
theorem l_55_57 : look 55 57 = some (.aload_n 0, 1, 0, 0, 0, 0) := by decide +kernel
theorem l_55_58 : look 55 58 = some (.getfield 21, 3, 5, 1, 2, 636) := by decide +kernel
theorem l_55_61 : look 55 61 = some (.iload 5, 2, 0, 0, 0, 0) := by decide +kernel
theorem l_55_63 : look 55 63 = some (.invokevirtual 83, 3, 80, 2, 0, 1259) := by decide +kernel
theorem l_55_66 : look 55 66 = some (.ifCond .eq 12, 3, 0, 0, 0, 0) := by decide +kernel
theorem l_55_69 : look 55 69 = some (.iload 4, 2, 0, 0, 0, 0) := by decide +kernel
theorem l_55_71 : look 55 71 = some (.iconst 1, 1, 0, 0, 0, 0) := by decide +kernel
theorem l_55_72 : look 55 72 = some (.iload 5, 2, 0, 0, 0, 0) := by decide +kernel
theorem l_55_74 : look 55 74 = some (.ishl, 1, 0, 0, 0, 0) := by decide +kernel
theorem l_55_75 : look 55 75 = some (.ior, 1, 0, 0, 0, 0) := by decide +kernel
theorem l_55_76 : look 55 76 = some (.istore 4, 2, 0, 0, 0, 0) := by decide +kernel
theorem l_55_78 : look 55 78 = some (.iinc 5 1, 3, 0, 0, 0, 0) := by decide +kernel
theorem l_55_81 : look 55 81 = some (.goto (-42), 3, 0, 0, 0, 0) := by decide +kernel
theorem l_55_84 : look 55 84 = some (.iload 4, 2, 0, 0, 0, 0) := by decide +kernel
theorem l_55_86 : look 55 86 = some (.ireturn, 1, 0, 0, 0, 0) := by decide +kernel
theorem lp_55 (o : oRun S T s x) {e ne np : Nat} {a : Nat → Nat} {k p : Nat} (E : CE I s x e h l a ne np) (hR : cR I s h l r) : ∀ d b, b + d = lPorts l → WP xs 55 1 39 [vr s, vi ((k : Nat) : Int), vi ((p : Nat) : Int), vi (-1), vi (((wbits (fun o => o != p && sUp r.1 o) b) : Nat) : Int), vi ((b : Nat) : Int)] [] (S, I, T, cc, zz) (FN (some (vi ((wbits (fun o => o != p && sUp r.1 o) (lPorts l) : Nat) : Int))) (S, I, T, cc, zz)) := by
  intro d
  have hl4 := E.okl.1
  induction d with
  | zero =>
    intro b hb
    refine w_il l_55_39 rfl ?_
    refine w_aln l_55_41 rfl ?_
    refine w_gr l_55_42 (oRun_sh o) (oRun_r0 o) ?_
    refine w_gi (((lPorts l) : Nat) : Int) l_55_45 (oLimits_sh (oRun_o0 o)) E.L.1 ?_
    refine w_cge 84 l_55_48 (by decide) (fun _ => ?_) (fun hx => absurd hx (by omega))
    refine w_il l_55_84 rfl ?_
    refine w_ir l_55_86 (Or.inl rfl) ?_
    have e9 : b = lPorts l := by omega
    rw [e9]
    exact ⟨rfl, rfl⟩
  | succ d ih =>
    intro b hb
    refine w_il l_55_39 rfl ?_
    refine w_aln l_55_41 rfl ?_
    refine w_gr l_55_42 (oRun_sh o) (oRun_r0 o) ?_
    refine w_gi (((lPorts l) : Nat) : Int) l_55_45 (oLimits_sh (oRun_o0 o)) E.L.1 ?_
    refine w_cge 84 l_55_48 (by decide) (fun hx => absurd hx (by omega)) (fun _ => ?_)
    refine w_il l_55_51 rfl ?_
    refine w_iln l_55_53 rfl ?_
    refine w_ceq 78 l_55_54 (by decide) (fun h1 => ?_) (fun h1 => ?_)
    · skip
      refine w_inc ((b + 1 : Nat) : Int) l_55_78 rfl rfl (by unfold wr; omega) ?_
      refine w_go 39 l_55_81 (by decide) ?_
      have hw : (fun o => o != p && sUp r.1 o) b = false := by
        show (b != p && sUp r.1 b) = false
        first
          | (rw [show b = p by omega]; simp)
          | (rw [‹sUp r.1 b = false›]; simp)
      rw [← wbits_f hw]
      exact ih (b + 1) (by omega)
    · skip
      refine w_aln l_55_57 rfl ?_
      refine w_gr l_55_58 (oRun_sh o) (oRun_r1 o) ?_
      refine w_il l_55_61 rfl ?_
      refine q_iv [vi ((b : Nat) : Int)] [] l_55_63 rfl rfl (Nat.le_of_ble_eq_true rfl) (by rw [mx_80]; exact Nat.le_of_ble_eq_true rfl) (by rw [mt_80]; exact oState_sh (oRun_o1 o)) (by rw [mt_80]; decide) (by rw [rk_80]; decide) (c_hasLink o hR (by omega)) ?_
      refine w_beq 78 l_55_66 (by decide) (fun h2 => ?_) (fun h2 => ?_)
      · skip
        refine w_inc ((b + 1 : Nat) : Int) l_55_78 rfl rfl (by unfold wr; omega) ?_
        refine w_go 39 l_55_81 (by decide) ?_
        have hw : (fun o => o != p && sUp r.1 o) b = false := by
          show (b != p && sUp r.1 b) = false
          first
            | (rw [show b = p by omega]; simp)
            | (rw [‹sUp r.1 b = false›]; simp)
        rw [← wbits_f hw]
        exact ih (b + 1) (by omega)
      · skip
        refine w_il l_55_69 rfl ?_
        refine w_ic l_55_71 (by decide) ?_
        refine w_il l_55_72 rfl ?_
        refine w_shl (((2 ^ b) : Nat) : Int) l_55_74 (shl1 b (by omega)) ?_
        refine w_or ((((wbits (fun o => o != p && sUp r.1 o) b) + 2 ^ b) : Nat) : Int) l_55_75 (or4 b (by omega) _ (wbits_lt _ _)) ?_
        refine w_is l_55_76 ⟨Nat.le_of_ble_eq_true rfl, rfl⟩ ?_
        refine w_inc ((b + 1 : Nat) : Int) l_55_78 rfl rfl (by unfold wr; omega) ?_
        refine w_go 39 l_55_81 (by decide) ?_
        have hw : (fun o => o != p && sUp r.1 o) b = true := by
          show (b != p && sUp r.1 b) = true
          rw [‹sUp r.1 b = true›]
          simp
          omega
        rw [← wbits_t hw]
        exact ih (b + 1) (by omega)
theorem valid_lt (o : oRun S T s x) (hR : cR I s h l r) {b w : Nat} (hb : b < 64) (hv : validA l r.1 b = some w) : w < 4 := by
  obtain ⟨t1, t3⟩ := hR.1.2.2.2.2.2 b hb
  unfold validA at hv
  cases hT : sTab r.1 b with
  | none => rw [hT] at hv; cases hv
  | some wt =>
    obtain ⟨w', t'⟩ := wt
    rw [hT] at t3 hv
    simp only at hv
    split at hv
    · injection hv with e
      rw [← e]
      exact t3.2.1
    · cases hv
theorem s_55 (o : oRun S T s x) {e ne np : Nat} {a : Nat → Nat} (E : CE I s x e h l a ne np) (hR : cR I s h l r) {k p : Nat} (hk : k < np) : CL xs 55 [vr s, vi ((k : Nat) : Int), vi ((p : Nat) : Int)] (S, I, T, cc, zz) (FN (some (vi ((wayB h l r.1 k p : Nat) : Int))) (S, I, T, cc, zz)) := by
  have hk120 := E.np hk
  cases hv : validA l r.1 (hTgt h k) with
  | some w =>
    have hw16 : w < 16 := by have := valid_lt o hR (E.ok k).2.2.2.2 hv; omega
    rw [show wayB h l r.1 k p = 2 ^ w by unfold wayB; rw [hv]]
    refine CL_start (r := 1) (ls := [vr s, vi ((k : Nat) : Int), vi ((p : Nat) : Int), vs 2, vs 2, vs 2]) (rk_55 _) rfl ?_
    refine w_aln l_55_0 rfl ?_
    refine w_gr l_55_1 (oRun_sh o) (oRun_r1 o) ?_
    refine w_aln l_55_4 rfl ?_
    refine w_gr l_55_5 (oRun_sh o) (oRun_r3 o) ?_
    refine w_gr l_55_8 (oHistory_sh (oRun_o3 o)) (oHistory_r7 (oRun_o3 o)) ?_
    refine w_iln l_55_11 rfl ?_
    refine w_ia k (((hTgt h k) : Nat) : Int) l_55_12 (oHistory_s7 (oRun_o3 o)) rfl (by omega) ((E.H.2.2.2.2.2 k hk).2.2.2.1) ?_
    refine w_aln l_55_13 rfl ?_
    refine w_gr l_55_14 (oRun_sh o) (oRun_r0 o) ?_
    refine w_gi (((lAge l) : Nat) : Int) l_55_17 (oLimits_sh (oRun_o0 o)) E.L.2.2.2.2.1 ?_
    refine q_iv [vi (((hTgt h k) : Nat) : Int), vi (((lAge l) : Nat) : Int)] [] l_55_20 rfl rfl (Nat.le_of_ble_eq_true rfl) (by rw [mx_90]; exact Nat.le_of_ble_eq_true rfl) (by rw [mt_90]; exact oState_sh (oRun_o1 o)) (by rw [mt_90]; decide) (by rw [rk_90]; decide) (c_wayTo o hR (E.ok k).2.2.2.2 (y := some w) hv) ?_
    refine w_isn l_55_23 ⟨Nat.le_of_ble_eq_true rfl, rfl⟩ ?_
    refine w_iln l_55_24 rfl ?_
    refine w_ic l_55_25 (by decide) ?_
    refine w_ceq 33 l_55_26 (by decide) (fun hx => absurd hx (by have h9 : ((w : Nat) : Int) = -1 := hx; omega)) (fun _ => ?_)
    refine w_ic l_55_29 (by decide) ?_
    refine w_iln l_55_30 rfl ?_
    refine w_shl (((2 ^ w) : Nat) : Int) l_55_31 (shl1 w hw16) ?_
    refine w_ir l_55_32 (Or.inl rfl) ?_
    exact ⟨rfl, rfl⟩
  | none =>
    rw [show wayB h l r.1 k p = wbits (fun o => o != p && sUp r.1 o) (lPorts l) by unfold wayB; rw [hv]]
    refine CL_start (r := 1) (ls := [vr s, vi ((k : Nat) : Int), vi ((p : Nat) : Int), vs 2, vs 2, vs 2]) (rk_55 _) rfl ?_
    refine w_aln l_55_0 rfl ?_
    refine w_gr l_55_1 (oRun_sh o) (oRun_r1 o) ?_
    refine w_aln l_55_4 rfl ?_
    refine w_gr l_55_5 (oRun_sh o) (oRun_r3 o) ?_
    refine w_gr l_55_8 (oHistory_sh (oRun_o3 o)) (oHistory_r7 (oRun_o3 o)) ?_
    refine w_iln l_55_11 rfl ?_
    refine w_ia k (((hTgt h k) : Nat) : Int) l_55_12 (oHistory_s7 (oRun_o3 o)) rfl (by omega) ((E.H.2.2.2.2.2 k hk).2.2.2.1) ?_
    refine w_aln l_55_13 rfl ?_
    refine w_gr l_55_14 (oRun_sh o) (oRun_r0 o) ?_
    refine w_gi (((lAge l) : Nat) : Int) l_55_17 (oLimits_sh (oRun_o0 o)) E.L.2.2.2.2.1 ?_
    refine q_iv [vi (((hTgt h k) : Nat) : Int), vi (((lAge l) : Nat) : Int)] [] l_55_20 rfl rfl (Nat.le_of_ble_eq_true rfl) (by rw [mx_90]; exact Nat.le_of_ble_eq_true rfl) (by rw [mt_90]; exact oState_sh (oRun_o1 o)) (by rw [mt_90]; decide) (by rw [rk_90]; decide) (c_wayTo o hR (E.ok k).2.2.2.2 (y := none) hv) ?_
    refine w_isn l_55_23 ⟨Nat.le_of_ble_eq_true rfl, rfl⟩ ?_
    refine w_iln l_55_24 rfl ?_
    refine w_ic l_55_25 (by decide) ?_
    refine w_ceq 33 l_55_26 (by decide) (fun _ => ?_) (fun hx => absurd hx (by decide))
    refine w_ic l_55_33 (by decide) ?_
    refine w_is l_55_34 ⟨Nat.le_of_ble_eq_true rfl, rfl⟩ ?_
    refine w_ic l_55_36 (by decide) ?_
    refine w_is l_55_37 ⟨Nat.le_of_ble_eq_true rfl, rfl⟩ ?_
    exact lp_55 o E hR _ 0 (Nat.zero_add _)

theorem mx_56 : mxl 56 = 7 := by decide +kernel
theorem mt_56 : mtc 56 = 5 := by decide +kernel
theorem rk_56 (as : List AV) : rkA 56 as = 2 := rfl
theorem l_56_0 : look 56 0 = some (.aload_n 0, 1, 0, 0, 0, 0) := by decide +kernel
theorem l_56_1 : look 56 1 = some (.getfield 32, 3, 5, 3, 2, 640) := by decide +kernel
theorem l_56_4 : look 56 4 = some (.iload_n 1, 1, 0, 0, 0, 0) := by decide +kernel
theorem l_56_5 : look 56 5 = some (.invokevirtual 100, 3, 5, 2, 0, 1287) := by decide +kernel
theorem l_56_8 : look 56 8 = some (.istore_n 3, 1, 0, 0, 0, 0) := by decide +kernel
theorem l_56_9 : look 56 9 = some (.aload_n 0, 1, 0, 0, 0, 0) := by decide +kernel
theorem l_56_10 : look 56 10 = some (.getfield 21, 3, 5, 1, 2, 636) := by decide +kernel
theorem l_56_13 : look 56 13 = some (.invokevirtual 142, 3, 83, 1, 0, 1311) := by decide +kernel
theorem l_56_16 : look 56 16 = some (.iload_n 3, 1, 0, 0, 0, 0) := by decide +kernel
theorem l_56_17 : look 56 17 = some (.iadd, 1, 0, 0, 0, 0) := by decide +kernel
theorem l_56_18 : look 56 18 = some (.aload_n 0, 1, 0, 0, 0, 0) := by decide +kernel
theorem l_56_19 : look 56 19 = some (.getfield 12, 3, 5, 0, 2, 634) := by decide +kernel
theorem l_56_22 : look 56 22 = some (.getfield 145, 3, 1, 5, 0, 396) := by decide +kernel
theorem l_56_25 : look 56 25 = some (.if_icmp .le 21, 3, 0, 0, 0, 0) := by decide +kernel
theorem l_56_28 : look 56 28 = some (.aload_n 0, 1, 0, 0, 0, 0) := by decide +kernel
theorem l_56_29 : look 56 29 = some (.getfield 28, 3, 5, 2, 2, 638) := by decide +kernel
theorem l_56_32 : look 56 32 = some (.aload_n 0, 1, 0, 0, 0, 0) := by decide +kernel
theorem l_56_33 : look 56 33 = some (.getfield 47, 3, 5, 4, 0, 641) := by decide +kernel
theorem l_56_36 : look 56 36 = some (.iload_n 1, 1, 0, 0, 0, 0) := by decide +kernel
theorem l_56_37 : look 56 37 = some (.iload_n 2, 1, 0, 0, 0, 0) := by decide +kernel
theorem l_56_38 : look 56 38 = some (.bipush 6, 2, 0, 0, 0, 0) := by decide +kernel
theorem l_56_40 : look 56 40 = some (.iconst (-1), 1, 0, 0, 0, 0) := by decide +kernel
theorem l_56_41 : look 56 41 = some (.invokevirtual 123, 3, 19, 6, 0, 1267) := by decide +kernel
theorem l_56_44 : look 56 44 = some (.iconst 0, 1, 0, 0, 0, 0) := by decide +kernel
theorem l_56_45 : look 56 45 = some (.ireturn, 1, 0, 0, 0, 0) := by decide +kernel
theorem l_56_46 : look 56 46 = some (.aload_n 0, 1, 0, 0, 0, 0) := by decide +kernel
theorem l_56_47 : look 56 47 = some (.getfield 21, 3, 5, 1, 2, 636) := by decide +kernel
theorem l_56_50 : look 56 50 = some (.getfield 148, 3, 7, 3, 2, 579) := by decide +kernel
theorem l_56_53 : look 56 53 = some (.iload_n 2, 1, 0, 0, 0, 0) := by decide +kernel
theorem l_56_54 : look 56 54 = some (.iaload, 1, 0, 0, 0, 0) := by decide +kernel
theorem l_56_55 : look 56 55 = some (.iload_n 3, 1, 0, 0, 0, 0) := by decide +kernel
theorem l_56_56 : look 56 56 = some (.iadd, 1, 0, 0, 0, 0) := by decide +kernel
theorem l_56_57 : look 56 57 = some (.aload_n 0, 1, 0, 0, 0, 0) := by decide +kernel
theorem l_56_58 : look 56 58 = some (.getfield 12, 3, 5, 0, 2, 634) := by decide +kernel
theorem l_56_61 : look 56 61 = some (.getfield 151, 3, 1, 1, 2, 382) := by decide +kernel
theorem l_56_64 : look 56 64 = some (.iload_n 2, 1, 0, 0, 0, 0) := by decide +kernel
theorem l_56_65 : look 56 65 = some (.iaload, 1, 0, 0, 0, 0) := by decide +kernel
theorem l_56_66 : look 56 66 = some (.isub, 1, 0, 0, 0, 0) := by decide +kernel
theorem l_56_67 : look 56 67 = some (.istore 4, 2, 0, 0, 0, 0) := by decide +kernel
theorem l_56_69 : look 56 69 = some (.iload 4, 2, 0, 0, 0, 0) := by decide +kernel
theorem l_56_71 : look 56 71 = some (.ifCond .le 39, 3, 0, 0, 0, 0) := by decide +kernel
theorem l_56_74 : look 56 74 = some (.aload_n 0, 1, 0, 0, 0, 0) := by decide +kernel
theorem l_56_75 : look 56 75 = some (.aload_n 0, 1, 0, 0, 0, 0) := by decide +kernel
theorem l_56_76 : look 56 76 = some (.getfield 32, 3, 5, 3, 2, 640) := by decide +kernel
theorem l_56_79 : look 56 79 = some (.iload_n 1, 1, 0, 0, 0, 0) := by decide +kernel
theorem l_56_80 : look 56 80 = some (.invokevirtual 154, 3, 6, 2, 0, 1315) := by decide +kernel
theorem l_56_83 : look 56 83 = some (.iload_n 2, 1, 0, 0, 0, 0) := by decide +kernel
theorem l_56_84 : look 56 84 = some (.invokevirtual 157, 3, 57, 3, 0, 1319) := by decide +kernel
theorem l_56_87 : look 56 87 = some (.iload 4, 2, 0, 0, 0, 0) := by decide +kernel
theorem l_56_89 : look 56 89 = some (.if_icmp .ge 21, 3, 0, 0, 0, 0) := by decide +kernel
theorem l_56_92 : look 56 92 = some (.aload_n 0, 1, 0, 0, 0, 0) := by decide +kernel
theorem l_56_93 : look 56 93 = some (.getfield 28, 3, 5, 2, 2, 638) := by decide +kernel
theorem l_56_96 : look 56 96 = some (.aload_n 0, 1, 0, 0, 0, 0) := by decide +kernel
theorem l_56_97 : look 56 97 = some (.getfield 47, 3, 5, 4, 0, 641) := by decide +kernel
theorem l_56_100 : look 56 100 = some (.iload_n 1, 1, 0, 0, 0, 0) := by decide +kernel
theorem l_56_101 : look 56 101 = some (.iload_n 2, 1, 0, 0, 0, 0) := by decide +kernel
theorem l_56_102 : look 56 102 = some (.bipush 7, 2, 0, 0, 0, 0) := by decide +kernel
theorem l_56_104 : look 56 104 = some (.iconst (-1), 1, 0, 0, 0, 0) := by decide +kernel
theorem l_56_105 : look 56 105 = some (.invokevirtual 123, 3, 19, 6, 0, 1267) := by decide +kernel
theorem l_56_108 : look 56 108 = some (.iconst 0, 1, 0, 0, 0, 0) := by decide +kernel
theorem l_56_109 : look 56 109 = some (.ireturn, 1, 0, 0, 0, 0) := by decide +kernel
theorem l_56_110 : look 56 110 = some (.aload_n 0, 1, 0, 0, 0, 0) := by decide +kernel
theorem l_56_111 : look 56 111 = some (.getfield 21, 3, 5, 1, 2, 636) := by decide +kernel
theorem l_56_114 : look 56 114 = some (.getfield 160, 3, 7, 4, 2, 582) := by decide +kernel
theorem l_56_117 : look 56 117 = some (.iload_n 2, 1, 0, 0, 0, 0) := by decide +kernel
theorem l_56_118 : look 56 118 = some (.iaload, 1, 0, 0, 0, 0) := by decide +kernel
theorem l_56_119 : look 56 119 = some (.istore 5, 2, 0, 0, 0, 0) := by decide +kernel
theorem l_56_121 : look 56 121 = some (.iload 5, 2, 0, 0, 0, 0) := by decide +kernel
theorem l_56_123 : look 56 123 = some (.ifCond .le 57, 3, 0, 0, 0, 0) := by decide +kernel
theorem l_56_126 : look 56 126 = some (.iload 4, 2, 0, 0, 0, 0) := by decide +kernel
theorem l_56_128 : look 56 128 = some (.ifCond .le 52, 3, 0, 0, 0, 0) := by decide +kernel
theorem l_56_131 : look 56 131 = some (.aload_n 0, 1, 0, 0, 0, 0) := by decide +kernel
theorem l_56_132 : look 56 132 = some (.iload_n 2, 1, 0, 0, 0, 0) := by decide +kernel
theorem l_56_133 : look 56 133 = some (.aload_n 0, 1, 0, 0, 0, 0) := by decide +kernel
theorem l_56_134 : look 56 134 = some (.iload_n 2, 1, 0, 0, 0, 0) := by decide +kernel
theorem l_56_135 : look 56 135 = some (.invokevirtual 163, 3, 58, 2, 0, 1324) := by decide +kernel
theorem l_56_138 : look 56 138 = some (.invokevirtual 166, 3, 60, 3, 0, 1328) := by decide +kernel
theorem l_56_141 : look 56 141 = some (.istore 6, 2, 0, 0, 0, 0) := by decide +kernel
theorem l_56_143 : look 56 143 = some (.aload_n 0, 1, 0, 0, 0, 0) := by decide +kernel
theorem l_56_144 : look 56 144 = some (.getfield 28, 3, 5, 2, 2, 638) := by decide +kernel
theorem l_56_147 : look 56 147 = some (.aload_n 0, 1, 0, 0, 0, 0) := by decide +kernel
theorem l_56_148 : look 56 148 = some (.getfield 47, 3, 5, 4, 0, 641) := by decide +kernel
theorem l_56_151 : look 56 151 = some (.iload 6, 2, 0, 0, 0, 0) := by decide +kernel
theorem l_56_153 : look 56 153 = some (.iload_n 2, 1, 0, 0, 0, 0) := by decide +kernel
theorem l_56_154 : look 56 154 = some (.bipush 8, 2, 0, 0, 0, 0) := by decide +kernel
theorem l_56_156 : look 56 156 = some (.iload_n 1, 1, 0, 0, 0, 0) := by decide +kernel
theorem l_56_157 : look 56 157 = some (.invokevirtual 123, 3, 19, 6, 0, 1267) := by decide +kernel
theorem l_56_160 : look 56 160 = some (.iload 4, 2, 0, 0, 0, 0) := by decide +kernel
theorem l_56_162 : look 56 162 = some (.aload_n 0, 1, 0, 0, 0, 0) := by decide +kernel
theorem l_56_163 : look 56 163 = some (.getfield 32, 3, 5, 3, 2, 640) := by decide +kernel
theorem l_56_166 : look 56 166 = some (.iload 6, 2, 0, 0, 0, 0) := by decide +kernel
theorem l_56_168 : look 56 168 = some (.invokevirtual 100, 3, 5, 2, 0, 1287) := by decide +kernel
theorem l_56_171 : look 56 171 = some (.isub, 1, 0, 0, 0, 0) := by decide +kernel
theorem l_56_172 : look 56 172 = some (.istore 4, 2, 0, 0, 0, 0) := by decide +kernel
theorem l_56_174 : look 56 174 = some (.iinc 5 (-1), 3, 0, 0, 0, 0) := by decide +kernel
theorem l_56_177 : look 56 177 = some (.goto (-56), 3, 0, 0, 0, 0) := by decide +kernel
theorem l_56_180 : look 56 180 = some (.aload_n 0, 1, 0, 0, 0, 0) := by decide +kernel
theorem l_56_181 : look 56 181 = some (.getfield 21, 3, 5, 1, 2, 636) := by decide +kernel
theorem l_56_184 : look 56 184 = some (.iload_n 2, 1, 0, 0, 0, 0) := by decide +kernel
theorem l_56_185 : look 56 185 = some (.iload_n 1, 1, 0, 0, 0, 0) := by decide +kernel
theorem l_56_186 : look 56 186 = some (.iload_n 3, 1, 0, 0, 0, 0) := by decide +kernel
theorem l_56_187 : look 56 187 = some (.invokevirtual 169, 3, 86, 4, 0, 1336) := by decide +kernel
theorem l_56_190 : look 56 190 = some (.aload_n 0, 1, 0, 0, 0, 0) := by decide +kernel
theorem l_56_191 : look 56 191 = some (.getfield 28, 3, 5, 2, 2, 638) := by decide +kernel
theorem l_56_194 : look 56 194 = some (.iload_n 1, 1, 0, 0, 0, 0) := by decide +kernel
theorem l_56_195 : look 56 195 = some (.iload_n 2, 1, 0, 0, 0, 0) := by decide +kernel
theorem l_56_196 : look 56 196 = some (.iconst 1, 1, 0, 0, 0, 0) := by decide +kernel
theorem l_56_197 : look 56 197 = some (.invokevirtual 173, 3, 21, 4, 0, 1340) := by decide +kernel
theorem l_56_200 : look 56 200 = some (.iconst 1, 1, 0, 0, 0, 0) := by decide +kernel
theorem l_56_201 : look 56 201 = some (.ireturn, 1, 0, 0, 0, 0) := by decide +kernel
theorem lp_56 {I0 : Ix} (o : oRun S T s x) {e ne np : Nat} {a : Nat → Nat} {k p u : Nat} (E : CE I0 s x e h l a ne np) (hkn : k < np) (hp : p < lPorts l) (hu : u ≤ 360) {R : Ra} : ∀ (m n : Nat) (I : Ix) (r : Ra) (ov : Int) (v6 : AV), m = n → (sQ r.1 p).length = n → ov = ((fillP h r.1 p : Nat) : Int) + ((hSiz h k : Nat) : Int) - ((lCap l p : Nat) : Int) → cR I s h l r → okR h l np u r → fr I0 I (s + 6) (s + 17) →
    fillP h r.1 p + hSiz h k ≤ lCap l p + belowQ h (hRnk h k) (sQ r.1 p) → putEnd e k p (pushA h (lCap l p) (hSiz h k) e k p m r) = R →
    WP xs 56 2 121 [vr s, vi ((k : Nat) : Int), vi ((p : Nat) : Int), vi (((hSiz h k) : Nat) : Int), vi ov, vi ((n : Nat) : Int), v6] [] (S, I, T, cc, zz) (RP S T cc zz (fun v I' => v = some (vi 1) ∧ cR I' s h l R ∧ fr I0 I' (s + 6) (s + 17))) := by
  intro m
  induction m with
  | zero =>
    intro n I r ov v6 hm hn hov hR hk f hfit hX
    have hp4 := E.p4 hp
    have hst : fillP h r.1 p + hSiz h k ≤ lCap l p := by
      rw [List.eq_nil_of_length_eq_zero (hn.trans hm.symm)] at hfit
      exact hfit
    refine w_il l_56_121 rfl ?_
    refine w_zle 180 l_56_123 (by decide) (fun _ => ?_) (fun hx => absurd hx (by omega))
    refine w_aln l_56_180 rfl ?_
    refine w_gr l_56_181 (oRun_sh o) (oRun_r1 o) ?_
    refine w_iln l_56_184 rfl ?_
    refine w_iln l_56_185 rfl ?_
    refine w_iln l_56_186 rfl ?_
    refine p_iv [vi ((p : Nat) : Int), vi ((k : Nat) : Int), vi (((hSiz h k) : Nat) : Int)] [] l_56_187 rfl rfl (Nat.le_of_ble_eq_true rfl) (by rw [mx_86]; exact Nat.le_of_ble_eq_true rfl) (by rw [mt_86]; exact oState_sh (oRun_o1 o)) (by rw [mt_86]; decide) (by rw [rk_86]; decide) (c_putLast o (E.fr f) hR hk hp) (fun v I1 hv => ?_)
    obtain ⟨rfl, hR1, f1⟩ := hv
    refine w_aln l_56_190 rfl ?_
    refine w_gr l_56_191 (oRun_sh o) (oRun_r2 o) ?_
    refine w_iln l_56_194 rfl ?_
    refine w_iln l_56_195 rfl ?_
    refine w_ic l_56_196 (by decide) ?_
    refine p_iv [vi ((k : Nat) : Int), vi ((p : Nat) : Int), vi 1] [] l_56_197 rfl rfl (Nat.le_of_ble_eq_true rfl) (by rw [mx_21]; exact Nat.le_of_ble_eq_true rfl) (by rw [mt_21]; exact oLog_sh (oRun_o2 o)) (by rw [mt_21]; decide) (by rw [rk_21]; decide) (c_setFate o hR1 (by omega) (E.np hkn)) (fun v I2 hv => ?_)
    obtain ⟨rfl, hR2, f2⟩ := hv
    refine w_ic l_56_200 (by decide) ?_
    refine w_ir l_56_201 (Or.inl rfl) ?_
    have hR3 : cR I2 s h l R := by
      rw [← hX, push_stop hst]
      exact hR2
    exact ⟨_, _, rfl, rfl, rfl, hR3, (f.tr f1).tr f2⟩
  | succ m ih =>
    intro n I r ov v6 hm hn hov hR hk f hfit hX
    have hp4 := E.p4 hp
    have hi := loK_lt (rkQ h (sQ r.1 p)) (sQ r.1 p).length (by omega)
    have hb1 := hk.2.1 p
    have hb2 := (E.ok k).1
    have hb3 := (E.okl.2.2.1 p hp).1
    have hb4 := (E.ok ((sQ r.1 p).getD (loK (rkQ h (sQ r.1 p)) (sQ r.1 p).length) (0, 0)).1).1
    have hb5 := fillQ_er (h := h) hi
    have hb6 : fillP h r.1 p = fillQ h (sQ r.1 p) := rfl
    have hll := ok_len hk E.ok p
    have h8 : r.2.1.length < 360 := by have h9 := ok_lt hk hp4; omega
    refine w_il l_56_121 rfl ?_
    refine w_zle 180 l_56_123 (by decide) (fun hx => absurd hx (by omega)) (fun _ => ?_)
    refine w_il l_56_126 rfl ?_
    refine w_zle 180 l_56_128 (by decide) (fun h1 => ?_) (fun h1 => ?_)
    · skip
      have hst : fillP h r.1 p + hSiz h k ≤ lCap l p := by omega
      refine w_aln l_56_180 rfl ?_
      refine w_gr l_56_181 (oRun_sh o) (oRun_r1 o) ?_
      refine w_iln l_56_184 rfl ?_
      refine w_iln l_56_185 rfl ?_
      refine w_iln l_56_186 rfl ?_
      refine p_iv [vi ((p : Nat) : Int), vi ((k : Nat) : Int), vi (((hSiz h k) : Nat) : Int)] [] l_56_187 rfl rfl (Nat.le_of_ble_eq_true rfl) (by rw [mx_86]; exact Nat.le_of_ble_eq_true rfl) (by rw [mt_86]; exact oState_sh (oRun_o1 o)) (by rw [mt_86]; decide) (by rw [rk_86]; decide) (c_putLast o (E.fr f) hR hk hp) (fun v I1 hv => ?_)
      obtain ⟨rfl, hR1, f1⟩ := hv
      refine w_aln l_56_190 rfl ?_
      refine w_gr l_56_191 (oRun_sh o) (oRun_r2 o) ?_
      refine w_iln l_56_194 rfl ?_
      refine w_iln l_56_195 rfl ?_
      refine w_ic l_56_196 (by decide) ?_
      refine p_iv [vi ((k : Nat) : Int), vi ((p : Nat) : Int), vi 1] [] l_56_197 rfl rfl (Nat.le_of_ble_eq_true rfl) (by rw [mx_21]; exact Nat.le_of_ble_eq_true rfl) (by rw [mt_21]; exact oLog_sh (oRun_o2 o)) (by rw [mt_21]; decide) (by rw [rk_21]; decide) (c_setFate o hR1 (by omega) (E.np hkn)) (fun v I2 hv => ?_)
      obtain ⟨rfl, hR2, f2⟩ := hv
      refine w_ic l_56_200 (by decide) ?_
      refine w_ir l_56_201 (Or.inl rfl) ?_
      have hR3 : cR I2 s h l R := by
        rw [← hX, push_stop hst]
        exact hR2
      exact ⟨_, _, rfl, rfl, rfl, hR3, (f.tr f1).tr f2⟩
    · skip
      have hst : ¬ fillP h r.1 p + hSiz h k ≤ lCap l p := by omega
      refine w_aln l_56_131 rfl ?_
      refine w_iln l_56_132 rfl ?_
      refine w_aln l_56_133 rfl ?_
      refine w_iln l_56_134 rfl ?_
      refine q_iv [vi ((p : Nat) : Int)] [vi ((p : Nat) : Int), vr s] l_56_135 rfl rfl (Nat.le_of_ble_eq_true rfl) (by rw [mx_58]; exact Nat.le_of_ble_eq_true rfl) (by rw [mt_58]; exact oRun_sh o) (by rw [mt_58]; decide) (by rw [rk_58]; decide) (s_58 o (E.fr f).H E.ok hR.1 hp4 (ok_hq hk)) ?_
      refine p_iv [vi ((p : Nat) : Int), vi (((loK (rkQ h (sQ r.1 p)) (sQ r.1 p).length) : Nat) : Int)] [] l_56_138 rfl rfl (Nat.le_of_ble_eq_true rfl) (by rw [mx_60]; exact Nat.le_of_ble_eq_true rfl) (by rw [mt_60]; exact oRun_sh o) (by rw [mt_60]; decide) (by rw [rk_60]; decide) (c_takeOut o (E.fr f) hR hk hp hi) (fun v I1 hv => ?_)
      obtain ⟨rfl, hR1, f1⟩ := hv
      refine w_is l_56_141 ⟨Nat.le_of_ble_eq_true rfl, rfl⟩ ?_
      refine w_aln l_56_143 rfl ?_
      refine w_gr l_56_144 (oRun_sh o) (oRun_r2 o) ?_
      refine w_aln l_56_147 rfl ?_
      refine w_gi ((e : Nat) : Int) l_56_148 (oRun_sh o) (((E.fr f).fr f1).ev) ?_
      refine w_il l_56_151 rfl ?_
      refine w_iln l_56_153 rfl ?_
      refine w_bp l_56_154 (by decide) ?_
      refine w_iln l_56_156 rfl ?_
      refine p_iv [vi ((e : Nat) : Int), vi ((((sQ r.1 p).getD (loK (rkQ h (sQ r.1 p)) (sQ r.1 p).length) (0, 0)).1 : Nat) : Int), vi ((p : Nat) : Int), vi 8, vi ((k : Nat) : Int)] [] l_56_157 rfl rfl (Nat.le_of_ble_eq_true rfl) (by rw [mx_19]; exact Nat.le_of_ble_eq_true rfl) (by rw [mt_19]; exact oLog_sh (oRun_o2 o)) (by rw [mt_19]; decide) (by rw [rk_19]; decide) (c_addDrop o hR1 (by omega) (E.np (ok_hq hk _ hi)) h8) (fun v I3 hv => ?_)
      obtain ⟨rfl, hR3, f3⟩ := hv
      refine w_il l_56_160 rfl ?_
      refine w_aln l_56_162 rfl ?_
      refine w_gr l_56_163 (oRun_sh o) (oRun_r3 o) ?_
      refine w_il l_56_166 rfl ?_
      refine q_iv [vi ((((sQ r.1 p).getD (loK (rkQ h (sQ r.1 p)) (sQ r.1 p).length) (0, 0)).1 : Nat) : Int)] [vi ov] l_56_168 rfl rfl (Nat.le_of_ble_eq_true rfl) (by rw [mx_5]; exact Nat.le_of_ble_eq_true rfl) (by rw [mt_5]; exact oHistory_sh (oRun_o3 o)) (by rw [mt_5]; decide) (by rw [rk_5]; decide) (s_5r (((E.fr f).fr f1).fr f3).H (oRun_o3 o) (ok_hq hk _ hi)) ?_
      refine w_sub (ov - ((hSiz h ((sQ r.1 p).getD (loK (rkQ h (sQ r.1 p)) (sQ r.1 p).length) (0, 0)).1 : Nat) : Int)) l_56_171 (by unfold wr; omega) ?_
      refine w_is l_56_172 ⟨Nat.le_of_ble_eq_true rfl, rfl⟩ ?_
      refine w_inc (((n - 1) : Nat) : Int) l_56_174 rfl rfl (by unfold wr; omega) ?_
      refine w_go 121 l_56_177 (by decide) ?_
      refine ih (n - 1) I3 (outDr e p (loK (rkQ h (sQ r.1 p)) (sQ r.1 p).length) 8 k r) _ _ (by omega) ?_ ?_ hR3 (ok_out hk hp4 hi) (((f.tr f1).tr f3)) ?_ ?_
      · show (sQ (setQ r.1 p _) p).length = n - 1
        rw [sQ_set, if_pos rfl, len_e hi]
        omega
      · show ov - _ = ((fillQ h (sQ (setQ r.1 p _) p) : Nat) : Int) + _ - _
        rw [sQ_set, if_pos rfl]
        omega
      · exact push_fit hst hfit hi
      · rw [← hX, ← push_go hst]
end DOL
