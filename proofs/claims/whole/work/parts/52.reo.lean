/-! the reference: an event, the beginning -/
section REO
variable {xs : List Int} {S : List (Nat × Nat)} {T : Nat → Nat → Nat} {cc zz s : Nat} {h : Hi} {l : Li} {r : Ra} {I I' : Ix}

theorem s_227 (hm : oModel S T s) {e ne np u : Nat} {a : Nat → Nat} (E : ME I s e h l a ne np) (hR : nR I s l r) (hok : okR h l np u r) (hu : u ≤ 360) (ht : sTime r.1 < 120) : CL xs 227 [vr s] (S, I, T, cc, zz) (RP S T cc zz (fun v I' => v = none ∧ nR I' s l (tickA h l e r).1 ∧ mfc I I' s 0 (((tickA h l e r).2 : Nat) : Int))) := by
  refine CL_start (r := 4) (ls := [vr s, vs 2, vs 2]) (rk_227 _) rfl ?_
  refine w_ic l_227_0 (by decide) ?_
  refine w_isn l_227_1 ⟨Nat.le_of_ble_eq_true rfl, rfl⟩ ?_
  exact lp_227a hm E hok hu ht _ 0 I _ (Nat.zero_add _) hR (mfc.rf _ _)

theorem mx_216 : mxl 216 = 3 := by decide +kernel
theorem mt_216 : mtc 216 = 10 := by decide +kernel
theorem rk_216 (as : List AV) : rkA 216 as = 7 := rfl
theorem l_216_0 : look 216 0 = some (.aload_n 0, 1, 0, 0, 0, 0) := by decide +kernel
theorem l_216_1 : look 216 1 = some (.iload_n 1, 1, 0, 0, 0, 0) := by decide +kernel
theorem l_216_2 : look 216 2 = some (.iconst 1, 1, 0, 0, 0, 0) := by decide +kernel
theorem l_216_3 : look 216 3 = some (.invokevirtual 357, 3, 205, 3, 0, 1917) := by decide +kernel
theorem l_216_6 : look 216 6 = some (.istore_n 2, 1, 0, 0, 0, 0) := by decide +kernel
theorem l_216_7 : look 216 7 = some (.aload_n 0, 1, 0, 0, 0, 0) := by decide +kernel
theorem l_216_8 : look 216 8 = some (.iload_n 1, 1, 0, 0, 0, 0) := by decide +kernel
theorem l_216_9 : look 216 9 = some (.iconst 0, 1, 0, 0, 0, 0) := by decide +kernel
theorem l_216_10 : look 216 10 = some (.invokevirtual 357, 3, 205, 3, 0, 1917) := by decide +kernel
theorem l_216_13 : look 216 13 = some (.tableswitch 59 0 2 #[27, 42, 49], 27, 0, 0, 0, 0) := by decide +kernel
theorem l_216_40 : look 216 40 = some (.aload_n 0, 1, 0, 0, 0, 0) := by decide +kernel
theorem l_216_41 : look 216 41 = some (.iload_n 2, 1, 0, 0, 0, 0) := by decide +kernel
theorem l_216_42 : look 216 42 = some (.aload_n 0, 1, 0, 0, 0, 0) := by decide +kernel
theorem l_216_43 : look 216 43 = some (.iload_n 1, 1, 0, 0, 0, 0) := by decide +kernel
theorem l_216_44 : look 216 44 = some (.bipush 6, 2, 0, 0, 0, 0) := by decide +kernel
theorem l_216_46 : look 216 46 = some (.invokevirtual 357, 3, 205, 3, 0, 1917) := by decide +kernel
theorem l_216_49 : look 216 49 = some (.invokevirtual 393, 3, 222, 3, 0, 1921) := by decide +kernel
theorem l_216_52 : look 216 52 = some (.goto 25, 3, 0, 0, 0, 0) := by decide +kernel
theorem l_216_55 : look 216 55 = some (.aload_n 0, 1, 0, 0, 0, 0) := by decide +kernel
theorem l_216_56 : look 216 56 = some (.invokevirtual 396, 3, 227, 1, 0, 1984) := by decide +kernel
theorem l_216_59 : look 216 59 = some (.goto 18, 3, 0, 0, 0, 0) := by decide +kernel
theorem l_216_62 : look 216 62 = some (.aload_n 0, 1, 0, 0, 0, 0) := by decide +kernel
theorem l_216_63 : look 216 63 = some (.getfield 113, 3, 10, 56, 2, 1557) := by decide +kernel
theorem l_216_66 : look 216 66 = some (.iload_n 2, 1, 0, 0, 0, 0) := by decide +kernel
theorem l_216_67 : look 216 67 = some (.iconst 1, 1, 0, 0, 0, 0) := by decide +kernel
theorem l_216_68 : look 216 68 = some (.bastore, 1, 0, 0, 0, 0) := by decide +kernel
theorem l_216_69 : look 216 69 = some (.goto 8, 3, 0, 0, 0, 0) := by decide +kernel
theorem l_216_72 : look 216 72 = some (.aload_n 0, 1, 0, 0, 0, 0) := by decide +kernel
theorem l_216_73 : look 216 73 = some (.iload_n 2, 1, 0, 0, 0, 0) := by decide +kernel
theorem l_216_74 : look 216 74 = some (.invokevirtual 399, 3, 217, 2, 0, 1992) := by decide +kernel
theorem l_216_77 : look 216 77 = some (.return_, 1, 0, 0, 0, 0) := by decide +kernel

theorem r_of0 (hm : oModel S T s) {e : Nat} {v : Int} (he : e < 120) (hv : I (s + 10) (7 * e) = v) : CL xs 205 [vr s, vi ((e : Nat) : Int), vi 0] (S, I, T, cc, zz) (FN (some (vi v)) (S, I, T, cc, zz)) := by
  have h9 := s_205 (xs := xs) (T := T) (cc := cc) (zz := zz) (I := I) hm (j := 0) he (by decide)
  rw [show 7 * e + 0 = 7 * e from rfl, hv] at h9
  exact h9
theorem r_of1 (hm : oModel S T s) {e : Nat} {v : Int} (he : e < 120) (hv : I (s + 10) (7 * e + 1) = v) : CL xs 205 [vr s, vi ((e : Nat) : Int), vi 1] (S, I, T, cc, zz) (FN (some (vi v)) (S, I, T, cc, zz)) := by
  have h9 := s_205 (xs := xs) (T := T) (cc := cc) (zz := zz) (I := I) hm (j := 1) he (by decide)
  rw [hv] at h9
  exact h9
theorem r_of6 (hm : oModel S T s) {e : Nat} {v : Int} (he : e < 120) (hv : I (s + 10) (7 * e + 6) = v) : CL xs 205 [vr s, vi ((e : Nat) : Int), vi 6] (S, I, T, cc, zz) (FN (some (vi v)) (S, I, T, cc, zz)) := by
  have h9 := s_205 (xs := xs) (T := T) (cc := cc) (zz := zz) (I := I) hm (j := 6) he (by decide)
  rw [hv] at h9
  exact h9

/-- the reference's count of what an event puts, and of what it delivers -/
def cntP (h : Hi) (l : Li) (e : Nat) (r : Ra) : Nat := if hKind h e = 0 then (stepA h l e r).2 else 0
def cntD (h : Hi) (l : Li) (e : Nat) (r : Ra) : Nat := if hKind h e = 1 then (stepA h l e r).2 else 0
theorem s_216 (hm : oModel S T s) {e ne np u : Nat} {a : Nat → Nat} {cd : Nat → Cd} (E : ME I s e h l a ne np) (Cd : nC I s h l a np cd) (hR : nR I s l r) (hok : okR h l np u r) (hT : okT l r.1) (hu : u + 3 ≤ 360) (he : e < ne) (ht : sTime r.1 < 120)
    (hev : ∀ e, e < ne → (hKind h e ≠ 1 → hPort h e < lPorts l) ∧ (hKind h e = 0 → hPk h e < np) ∧ hKind h e ≤ 3) (hz : ∀ k, k < np → I (s + 10) (7 * a k + 1) = ((hPort h (a k) : Nat) : Int)) :
    CL xs 216 [vr s, vi ((e : Nat) : Int)] (S, I, T, cc, zz) (RP S T cc zz (fun v I' => v = none ∧ nR I' s l (stepA h l e r).1 ∧ mfc I I' s ((cntP h l e r : Nat) : Int) ((cntD h l e r : Nat) : Int))) := by
  have he120 : e < 120 := by have := E.H.1; omega
  have hEv := E.H.2.2.1 e he
  have hkd := hEv.1
  rcases (show hKind h e = 0 ∨ hKind h e = 1 ∨ hKind h e = 2 ∨ hKind h e = 3 by have := (hev e he).2.2; omega) with hk0 | hk0 | hk0 | hk0
  · rw [show cntP h l e r = (stepA h l e r).2 from if_pos hk0, show cntD h l e r = 0 from if_neg (by omega), step_0 hk0]
    have hpl := hEv.2.1 (by omega)
    have hpl2 := (hev e he).1 (by omega)
    have hp4 := E.p4 hpl2
    have hpk := hEv.2.2 hk0
    have hpk2 := (hev e he).2.1 hk0
    refine CL_start (r := 7) (ls := [vr s, vi ((e : Nat) : Int), vs 2]) (rk_216 _) rfl ?_
    refine w_aln l_216_0 rfl ?_
    refine w_iln l_216_1 rfl ?_
    refine w_ic l_216_2 (by decide) ?_
    refine q_iv [vi ((e : Nat) : Int), vi 1] [] l_216_3 rfl rfl (Nat.le_of_ble_eq_true rfl) (by rw [mx_205]; exact Nat.le_of_ble_eq_true rfl) (by rw [mt_205]; exact oModel_sh hm) (by rw [mt_205]; decide) (by rw [rk_205]; decide) (r_of1 hm he120 hpl) ?_
    refine w_isn l_216_6 ⟨Nat.le_of_ble_eq_true rfl, rfl⟩ ?_
    refine w_aln l_216_7 rfl ?_
    refine w_iln l_216_8 rfl ?_
    refine w_ic l_216_9 (by decide) ?_
    refine q_iv [vi ((e : Nat) : Int), vi 0] [] l_216_10 rfl rfl (Nat.le_of_ble_eq_true rfl) (by rw [mx_205]; exact Nat.le_of_ble_eq_true rfl) (by rw [mt_205]; exact oModel_sh hm) (by rw [mt_205]; decide) (by rw [rk_205]; decide) (r_of0 hm he120 (hkd.trans (by rw [hk0]))) ?_
    refine w_swi 40 l_216_13 (by decide) rfl (by decide) ?_
    refine w_aln l_216_40 rfl ?_
    refine w_iln l_216_41 rfl ?_
    refine w_aln l_216_42 rfl ?_
    refine w_iln l_216_43 rfl ?_
    refine w_bp l_216_44 (by decide) ?_
    refine q_iv [vi ((e : Nat) : Int), vi 6] [vi (((hPort h e) : Nat) : Int), vr s] l_216_46 rfl rfl (Nat.le_of_ble_eq_true rfl) (by rw [mx_205]; exact Nat.le_of_ble_eq_true rfl) (by rw [mt_205]; exact oModel_sh hm) (by rw [mt_205]; decide) (by rw [rk_205]; decide) (r_of6 hm he120 hpk) ?_
    refine p_iv [vi (((hPort h e) : Nat) : Int), vi (((hPk h e) : Nat) : Int)] [] l_216_49 rfl rfl (Nat.le_of_ble_eq_true rfl) (by rw [mx_222]; exact Nat.le_of_ble_eq_true rfl) (by rw [mt_222]; exact oModel_sh hm) (by rw [mt_222]; decide) (by rw [rk_222]; decide) (s_222 hm E Cd hR hok hT hpk2 hpl2 hu (hz _ hpk2)) (fun v I1 hv => ?_)
    obtain ⟨rfl, hR1, f1⟩ := hv
    refine w_go 77 l_216_52 (by decide) ?_
    refine w_vr l_216_77 ?_
    exact ⟨_, _, rfl, rfl, rfl, hR1, f1⟩
  · rw [show cntP h l e r = 0 from if_neg (by omega), show cntD h l e r = (stepA h l e r).2 from if_pos hk0, step_1 hk0]
    refine CL_start (r := 7) (ls := [vr s, vi ((e : Nat) : Int), vs 2]) (rk_216 _) rfl ?_
    refine w_aln l_216_0 rfl ?_
    refine w_iln l_216_1 rfl ?_
    refine w_ic l_216_2 (by decide) ?_
    refine q_iv [vi ((e : Nat) : Int), vi 1] [] l_216_3 rfl rfl (Nat.le_of_ble_eq_true rfl) (by rw [mx_205]; exact Nat.le_of_ble_eq_true rfl) (by rw [mt_205]; exact oModel_sh hm) (by rw [mt_205]; decide) (by rw [rk_205]; decide) (s_205 hm he120 (by decide)) ?_
    refine w_isn l_216_6 ⟨Nat.le_of_ble_eq_true rfl, rfl⟩ ?_
    refine w_aln l_216_7 rfl ?_
    refine w_iln l_216_8 rfl ?_
    refine w_ic l_216_9 (by decide) ?_
    refine q_iv [vi ((e : Nat) : Int), vi 0] [] l_216_10 rfl rfl (Nat.le_of_ble_eq_true rfl) (by rw [mx_205]; exact Nat.le_of_ble_eq_true rfl) (by rw [mt_205]; exact oModel_sh hm) (by rw [mt_205]; decide) (by rw [rk_205]; decide) (r_of0 hm he120 (hkd.trans (by rw [hk0]))) ?_
    refine w_swi 55 l_216_13 (by decide) rfl (by decide) ?_
    refine w_aln l_216_55 rfl ?_
    refine p_iv [] [] l_216_56 rfl rfl (Nat.le_of_ble_eq_true rfl) (by rw [mx_227]; exact Nat.le_of_ble_eq_true rfl) (by rw [mt_227]; exact oModel_sh hm) (by rw [mt_227]; decide) (by rw [rk_227]; decide) (s_227 hm E hR hok (by omega) ht) (fun v I1 hv => ?_)
    obtain ⟨rfl, hR1, f1⟩ := hv
    refine w_go 77 l_216_59 (by decide) ?_
    refine w_vr l_216_77 ?_
    exact ⟨_, _, rfl, rfl, rfl, hR1, f1⟩
  · rw [show cntP h l e r = 0 from if_neg (by omega), show cntD h l e r = 0 from if_neg (by omega), step_2 hk0]
    have hpl := hEv.2.1 (by omega)
    have hpl2 := (hev e he).1 (by omega)
    have hp4 := E.p4 hpl2
    refine CL_start (r := 7) (ls := [vr s, vi ((e : Nat) : Int), vs 2]) (rk_216 _) rfl ?_
    refine w_aln l_216_0 rfl ?_
    refine w_iln l_216_1 rfl ?_
    refine w_ic l_216_2 (by decide) ?_
    refine q_iv [vi ((e : Nat) : Int), vi 1] [] l_216_3 rfl rfl (Nat.le_of_ble_eq_true rfl) (by rw [mx_205]; exact Nat.le_of_ble_eq_true rfl) (by rw [mt_205]; exact oModel_sh hm) (by rw [mt_205]; decide) (by rw [rk_205]; decide) (r_of1 hm he120 hpl) ?_
    refine w_isn l_216_6 ⟨Nat.le_of_ble_eq_true rfl, rfl⟩ ?_
    refine w_aln l_216_7 rfl ?_
    refine w_iln l_216_8 rfl ?_
    refine w_ic l_216_9 (by decide) ?_
    refine q_iv [vi ((e : Nat) : Int), vi 0] [] l_216_10 rfl rfl (Nat.le_of_ble_eq_true rfl) (by rw [mx_205]; exact Nat.le_of_ble_eq_true rfl) (by rw [mt_205]; exact oModel_sh hm) (by rw [mt_205]; decide) (by rw [rk_205]; decide) (r_of0 hm he120 (hkd.trans (by rw [hk0]))) ?_
    refine w_swi 62 l_216_13 (by decide) rfl (by decide) ?_
    refine w_aln l_216_62 rfl ?_
    refine w_gr l_216_63 (oModel_sh hm) (oModel_r56 hm) ?_
    refine w_iln l_216_66 rfl ?_
    refine w_ic l_216_67 (by decide) ?_
    refine w_zS (hPort h e) 1 l_216_68 (oModel_s56 hm) rfl (by omega) (by decide) ?_
    refine w_go 77 l_216_69 (by decide) ?_
    refine w_vr l_216_77 ?_
    obtain ⟨g1, g2⟩ := nS_up (p := hPort h e) (b := true) hR
    exact ⟨_, _, rfl, rfl, rfl, g1, g2⟩
  · rw [show cntP h l e r = 0 from if_neg (by omega), show cntD h l e r = 0 from if_neg (by omega), step_3 hk0]
    have hpl := hEv.2.1 (by omega)
    have hpl2 := (hev e he).1 (by omega)
    have hp4 := E.p4 hpl2
    refine CL_start (r := 7) (ls := [vr s, vi ((e : Nat) : Int), vs 2]) (rk_216 _) rfl ?_
    refine w_aln l_216_0 rfl ?_
    refine w_iln l_216_1 rfl ?_
    refine w_ic l_216_2 (by decide) ?_
    refine q_iv [vi ((e : Nat) : Int), vi 1] [] l_216_3 rfl rfl (Nat.le_of_ble_eq_true rfl) (by rw [mx_205]; exact Nat.le_of_ble_eq_true rfl) (by rw [mt_205]; exact oModel_sh hm) (by rw [mt_205]; decide) (by rw [rk_205]; decide) (r_of1 hm he120 hpl) ?_
    refine w_isn l_216_6 ⟨Nat.le_of_ble_eq_true rfl, rfl⟩ ?_
    refine w_aln l_216_7 rfl ?_
    refine w_iln l_216_8 rfl ?_
    refine w_ic l_216_9 (by decide) ?_
    refine q_iv [vi ((e : Nat) : Int), vi 0] [] l_216_10 rfl rfl (Nat.le_of_ble_eq_true rfl) (by rw [mx_205]; exact Nat.le_of_ble_eq_true rfl) (by rw [mt_205]; exact oModel_sh hm) (by rw [mt_205]; decide) (by rw [rk_205]; decide) (r_of0 hm he120 (hkd.trans (by rw [hk0]))) ?_
    refine w_swd 72 l_216_13 (by decide) (by decide) ?_
    refine w_aln l_216_72 rfl ?_
    refine w_iln l_216_73 rfl ?_
    refine p_iv [vi (((hPort h e) : Nat) : Int)] [] l_216_74 rfl rfl (Nat.le_of_ble_eq_true rfl) (by rw [mx_217]; exact Nat.le_of_ble_eq_true rfl) (by rw [mt_217]; exact oModel_sh hm) (by rw [mt_217]; decide) (by rw [rk_217]; decide) (s_217 hm E hR hok hpl2 (by omega)) (fun v I1 hv => ?_)
    obtain ⟨rfl, hR1, f1⟩ := hv
    refine w_vr l_216_77 ?_
    exact ⟨_, _, rfl, rfl, rfl, hR1, f1⟩

theorem mx_213 : mxl 213 = 2 := by decide +kernel
theorem mt_213 : mtc 213 = 10 := by decide +kernel
theorem rk_213 (as : List AV) : rkA 213 as = 0 := rfl
theorem l_213_0 : look 213 0 = some (.aload_n 0, 1, 0, 0, 0, 0) := by decide +kernel
theorem l_213_1 : look 213 1 = some (.iconst 0, 1, 0, 0, 0, 0) := by decide +kernel
theorem l_213_2 : look 213 2 = some (.putfield 375, 3, 10, 55, 0, 1556) := by decide +kernel
theorem l_213_5 : look 213 5 = some (.aload_n 0, 1, 0, 0, 0, 0) := by decide +kernel
theorem l_213_6 : look 213 6 = some (.iconst 0, 1, 0, 0, 0, 0) := by decide +kernel
theorem l_213_7 : look 213 7 = some (.putfield 369, 3, 10, 66, 0, 1567) := by decide +kernel
theorem l_213_10 : look 213 10 = some (.iconst 0, 1, 0, 0, 0, 0) := by decide +kernel
theorem l_213_11 : look 213 11 = some (.istore_n 1, 1, 0, 0, 0, 0) := by decide +kernel
theorem l_213_12 : look 213 12 = some (.iload_n 1, 1, 0, 0, 0, 0) := by decide +kernel
theorem l_213_13 : look 213 13 = some (.iconst 4, 1, 0, 0, 0, 0) := by decide +kernel
theorem l_213_14 : look 213 14 = some (.if_icmp .ge 42, 3, 0, 0, 0, 0) := by decide +kernel
theorem l_213_17 : look 213 17 = some (.aload_n 0, 1, 0, 0, 0, 0) := by decide +kernel
theorem l_213_18 : look 213 18 = some (.getfield 113, 3, 10, 56, 2, 1557) := by decide +kernel
theorem l_213_21 : look 213 21 = some (.iload_n 1, 1, 0, 0, 0, 0) := by decide +kernel
theorem l_213_22 : look 213 22 = some (.iconst 1, 1, 0, 0, 0, 0) := by decide +kernel
theorem l_213_23 : look 213 23 = some (.bastore, 1, 0, 0, 0, 0) := by decide +kernel
theorem l_213_24 : look 213 24 = some (.aload_n 0, 1, 0, 0, 0, 0) := by decide +kernel
theorem l_213_25 : look 213 25 = some (.getfield 122, 3, 10, 59, 2, 1560) := by decide +kernel
theorem l_213_28 : look 213 28 = some (.iload_n 1, 1, 0, 0, 0, 0) := by decide +kernel
theorem l_213_29 : look 213 29 = some (.iconst 0, 1, 0, 0, 0, 0) := by decide +kernel
theorem l_213_30 : look 213 30 = some (.iastore, 1, 0, 0, 0, 0) := by decide +kernel
theorem l_213_31 : look 213 31 = some (.aload_n 0, 1, 0, 0, 0, 0) := by decide +kernel
theorem l_213_32 : look 213 32 = some (.getfield 125, 3, 10, 60, 2, 1561) := by decide +kernel
theorem l_213_35 : look 213 35 = some (.iload_n 1, 1, 0, 0, 0, 0) := by decide +kernel
theorem l_213_36 : look 213 36 = some (.aload_n 0, 1, 0, 0, 0, 0) := by decide +kernel
theorem l_213_37 : look 213 37 = some (.getfield 23, 3, 10, 6, 2, 1507) := by decide +kernel
theorem l_213_40 : look 213 40 = some (.iload_n 1, 1, 0, 0, 0, 0) := by decide +kernel
theorem l_213_41 : look 213 41 = some (.iaload, 1, 0, 0, 0, 0) := by decide +kernel
theorem l_213_42 : look 213 42 = some (.iastore, 1, 0, 0, 0, 0) := by decide +kernel
theorem l_213_43 : look 213 43 = some (.aload_n 0, 1, 0, 0, 0, 0) := by decide +kernel
theorem l_213_44 : look 213 44 = some (.getfield 137, 3, 10, 64, 2, 1565) := by decide +kernel
theorem l_213_47 : look 213 47 = some (.iload_n 1, 1, 0, 0, 0, 0) := by decide +kernel
theorem l_213_48 : look 213 48 = some (.iconst 0, 1, 0, 0, 0, 0) := by decide +kernel
theorem l_213_49 : look 213 49 = some (.iastore, 1, 0, 0, 0, 0) := by decide +kernel
theorem l_213_50 : look 213 50 = some (.iinc 1 1, 3, 0, 0, 0, 0) := by decide +kernel
theorem l_213_53 : look 213 53 = some (.goto (-41), 3, 0, 0, 0, 0) := by decide +kernel
theorem l_213_56 : look 213 56 = some (.iconst 0, 1, 0, 0, 0, 0) := by decide +kernel
theorem l_213_57 : look 213 57 = some (.istore_n 1, 1, 0, 0, 0, 0) := by decide +kernel
theorem l_213_58 : look 213 58 = some (.iload_n 1, 1, 0, 0, 0, 0) := by decide +kernel
theorem l_213_59 : look 213 59 = some (.bipush 64, 2, 0, 0, 0, 0) := by decide +kernel
theorem l_213_61 : look 213 61 = some (.if_icmp .ge 16, 3, 0, 0, 0, 0) := by decide +kernel
theorem l_213_64 : look 213 64 = some (.aload_n 0, 1, 0, 0, 0, 0) := by decide +kernel
theorem l_213_65 : look 213 65 = some (.getfield 128, 3, 10, 61, 2, 1562) := by decide +kernel
theorem l_213_68 : look 213 68 = some (.iload_n 1, 1, 0, 0, 0, 0) := by decide +kernel
theorem l_213_69 : look 213 69 = some (.iconst (-1), 1, 0, 0, 0, 0) := by decide +kernel
theorem l_213_70 : look 213 70 = some (.iastore, 1, 0, 0, 0, 0) := by decide +kernel
theorem l_213_71 : look 213 71 = some (.iinc 1 1, 3, 0, 0, 0, 0) := by decide +kernel
theorem l_213_74 : look 213 74 = some (.goto (-16), 3, 0, 0, 0, 0) := by decide +kernel
theorem l_213_77 : look 213 77 = some (.iconst 0, 1, 0, 0, 0, 0) := by decide +kernel
theorem l_213_78 : look 213 78 = some (.istore_n 1, 1, 0, 0, 0, 0) := by decide +kernel
theorem l_213_79 : look 213 79 = some (.iload_n 1, 1, 0, 0, 0, 0) := by decide +kernel
theorem l_213_80 : look 213 80 = some (.sipush 480, 3, 0, 0, 0, 0) := by decide +kernel
theorem l_213_83 : look 213 83 = some (.if_icmp .ge 16, 3, 0, 0, 0, 0) := by decide +kernel
theorem l_213_86 : look 213 86 = some (.aload_n 0, 1, 0, 0, 0, 0) := by decide +kernel
theorem l_213_87 : look 213 87 = some (.getfield 134, 3, 10, 63, 2, 1564) := by decide +kernel
theorem l_213_90 : look 213 90 = some (.iload_n 1, 1, 0, 0, 0, 0) := by decide +kernel
theorem l_213_91 : look 213 91 = some (.iconst 0, 1, 0, 0, 0, 0) := by decide +kernel
theorem l_213_92 : look 213 92 = some (.iastore, 1, 0, 0, 0, 0) := by decide +kernel
theorem l_213_93 : look 213 93 = some (.iinc 1 1, 3, 0, 0, 0, 0) := by decide +kernel
theorem l_213_96 : look 213 96 = some (.goto (-17), 3, 0, 0, 0, 0) := by decide +kernel
theorem l_213_99 : look 213 99 = some (.return_, 1, 0, 0, 0, 0) := by decide +kernel

theorem lp_213b (hm : oModel S T s) {J : Ix} : ∀ d k, k + d = 480 → WP xs 213 0 79 [vr s, vi ((k : Nat) : Int)] [] (S, (fl J (s + 34) k 0), T, cc, zz) (FN none (S, fl J (s + 34) 480 0, T, cc, zz)) := by
  intro d
  induction d with
  | zero =>
    intro k hk
    refine w_iln l_213_79 rfl ?_
    refine w_sp l_213_80 (by decide) ?_
    refine w_cge 99 l_213_83 (by decide) (fun _ => ?_) (fun hx => absurd hx (by omega))
    refine w_vr l_213_99 ?_
    have e9 : k = 480 := by omega
    rw [e9]
    exact ⟨rfl, rfl⟩
  | succ d ih =>
    intro k hk
    refine w_iln l_213_79 rfl ?_
    refine w_sp l_213_80 (by decide) ?_
    refine w_cge 99 l_213_83 (by decide) (fun hx => absurd hx (by omega)) (fun _ => ?_)
    refine w_aln l_213_86 rfl ?_
    refine w_gr l_213_87 (oModel_sh hm) (oModel_r63 hm) ?_
    refine w_iln l_213_90 rfl ?_
    refine w_ic l_213_91 (by decide) ?_
    refine w_iS k l_213_92 (oModel_s63 hm) rfl (by omega) ?_
    refine w_inc ((k + 1 : Nat) : Int) l_213_93 rfl rfl (by unfold wr; omega) ?_
    refine w_go 79 l_213_96 (by decide) ?_
    rw [fl_s]
    exact ih (k + 1) (by omega)
theorem lp_213a (hm : oModel S T s) {J : Ix} : ∀ d k, k + d = 64 → WP xs 213 0 58 [vr s, vi ((k : Nat) : Int)] [] (S, (fl J (s + 32) k (-1)), T, cc, zz) (FN none (S, fl (fl J (s + 32) 64 (-1)) (s + 34) 480 0, T, cc, zz)) := by
  intro d
  induction d with
  | zero =>
    intro k hk
    refine w_iln l_213_58 rfl ?_
    refine w_bp l_213_59 (by decide) ?_
    refine w_cge 77 l_213_61 (by decide) (fun _ => ?_) (fun hx => absurd hx (by omega))
    refine w_ic l_213_77 (by decide) ?_
    refine w_isn l_213_78 ⟨Nat.le_of_ble_eq_true rfl, rfl⟩ ?_
    have e9 : k = 64 := by omega
    rw [e9]
    have e8 := lp_213b (xs := xs) (T := T) (cc := cc) (zz := zz) (J := fl J (s + 32) 64 (-1)) hm 480 0 (by omega)
    rw [fl_0] at e8
    exact e8
  | succ d ih =>
    intro k hk
    refine w_iln l_213_58 rfl ?_
    refine w_bp l_213_59 (by decide) ?_
    refine w_cge 77 l_213_61 (by decide) (fun hx => absurd hx (by omega)) (fun _ => ?_)
    refine w_aln l_213_64 rfl ?_
    refine w_gr l_213_65 (oModel_sh hm) (oModel_r61 hm) ?_
    refine w_iln l_213_68 rfl ?_
    refine w_ic l_213_69 (by decide) ?_
    refine w_iS k l_213_70 (oModel_s61 hm) rfl (by omega) ?_
    refine w_inc ((k + 1 : Nat) : Int) l_213_71 rfl rfl (by unfold wr; omega) ?_
    refine w_go 58 l_213_74 (by decide) ?_
    rw [fl_s]
    exact ih (k + 1) (by omega)
theorem s_213 (hm : oModel S T s) : CL xs 213 [vr s] (S, I, T, cc, zz) (FN none (S, fl (fl (up (up (up (up (up (up (up (up (up (up (up (up (up (up (up (up (up (up I s 55 0) s 66 0) (s + 27) 0 1) (s + 30) 0 0) (s + 31) 0 (I (s + 5) 0)) (s + 35) 0 0) (s + 27) 1 1) (s + 30) 1 0) (s + 31) 1 (I (s + 5) 1)) (s + 35) 1 0) (s + 27) 2 1) (s + 30) 2 0) (s + 31) 2 (I (s + 5) 2)) (s + 35) 2 0) (s + 27) 3 1) (s + 30) 3 0) (s + 31) 3 (I (s + 5) 3)) (s + 35) 3 0) (s + 32) 64 (-1)) (s + 34) 480 0, T, cc, zz)) := by
  refine CL_start (r := 0) (ls := [vr s, vs 2]) (rk_213 _) rfl ?_
  refine w_aln l_213_0 rfl ?_
  refine w_ic l_213_1 (by decide) ?_
  refine w_pi l_213_2 (oModel_sh hm) ?_
  refine w_aln l_213_5 rfl ?_
  refine w_ic l_213_6 (by decide) ?_
  refine w_pi l_213_7 (oModel_sh hm) ?_
  refine w_ic l_213_10 (by decide) ?_
  refine w_isn l_213_11 ⟨Nat.le_of_ble_eq_true rfl, rfl⟩ ?_
  refine w_iln l_213_12 rfl ?_
  refine w_ic l_213_13 (by decide) ?_
  refine w_cge 56 l_213_14 (by decide) (fun hx => absurd hx (by decide)) (fun _ => ?_)
  refine w_aln l_213_17 rfl ?_
  refine w_gr l_213_18 (oModel_sh hm) (oModel_r56 hm) ?_
  refine w_iln l_213_21 rfl ?_
  refine w_ic l_213_22 (by decide) ?_
  refine w_zS 0 1 l_213_23 (oModel_s56 hm) rfl (by omega) (by decide) ?_
  refine w_aln l_213_24 rfl ?_
  refine w_gr l_213_25 (oModel_sh hm) (oModel_r59 hm) ?_
  refine w_iln l_213_28 rfl ?_
  refine w_ic l_213_29 (by decide) ?_
  refine w_iS 0 l_213_30 (oModel_s59 hm) rfl (by omega) ?_
  refine w_aln l_213_31 rfl ?_
  refine w_gr l_213_32 (oModel_sh hm) (oModel_r60 hm) ?_
  refine w_iln l_213_35 rfl ?_
  refine w_aln l_213_36 rfl ?_
  refine w_gr l_213_37 (oModel_sh hm) (oModel_r6 hm) ?_
  refine w_iln l_213_40 rfl ?_
  refine w_ia 0 (I (s + 5) 0) l_213_41 (oModel_s6 hm) rfl (by omega) ((up_no (by omega)).trans ((up_no (by omega)).trans ((up_no (by omega)).trans ((up_no (by omega)).trans (rfl))))) ?_
  refine w_iS 0 l_213_42 (oModel_s60 hm) rfl (by omega) ?_
  refine w_aln l_213_43 rfl ?_
  refine w_gr l_213_44 (oModel_sh hm) (oModel_r64 hm) ?_
  refine w_iln l_213_47 rfl ?_
  refine w_ic l_213_48 (by decide) ?_
  refine w_iS 0 l_213_49 (oModel_s64 hm) rfl (by omega) ?_
  refine w_inc 1 l_213_50 rfl rfl (by unfold wr; omega) ?_
  refine w_go 12 l_213_53 (by decide) ?_
  refine w_iln l_213_12 rfl ?_
  refine w_ic l_213_13 (by decide) ?_
  refine w_cge 56 l_213_14 (by decide) (fun hx => absurd hx (by decide)) (fun _ => ?_)
  refine w_aln l_213_17 rfl ?_
  refine w_gr l_213_18 (oModel_sh hm) (oModel_r56 hm) ?_
  refine w_iln l_213_21 rfl ?_
  refine w_ic l_213_22 (by decide) ?_
  refine w_zS 1 1 l_213_23 (oModel_s56 hm) rfl (by omega) (by decide) ?_
  refine w_aln l_213_24 rfl ?_
  refine w_gr l_213_25 (oModel_sh hm) (oModel_r59 hm) ?_
  refine w_iln l_213_28 rfl ?_
  refine w_ic l_213_29 (by decide) ?_
  refine w_iS 1 l_213_30 (oModel_s59 hm) rfl (by omega) ?_
  refine w_aln l_213_31 rfl ?_
  refine w_gr l_213_32 (oModel_sh hm) (oModel_r60 hm) ?_
  refine w_iln l_213_35 rfl ?_
  refine w_aln l_213_36 rfl ?_
  refine w_gr l_213_37 (oModel_sh hm) (oModel_r6 hm) ?_
  refine w_iln l_213_40 rfl ?_
  refine w_ia 1 (I (s + 5) 1) l_213_41 (oModel_s6 hm) rfl (by omega) ((up_no (by omega)).trans ((up_no (by omega)).trans ((up_no (by omega)).trans ((up_no (by omega)).trans ((up_no (by omega)).trans ((up_no (by omega)).trans ((up_no (by omega)).trans ((up_no (by omega)).trans (rfl))))))))) ?_
  refine w_iS 1 l_213_42 (oModel_s60 hm) rfl (by omega) ?_
  refine w_aln l_213_43 rfl ?_
  refine w_gr l_213_44 (oModel_sh hm) (oModel_r64 hm) ?_
  refine w_iln l_213_47 rfl ?_
  refine w_ic l_213_48 (by decide) ?_
  refine w_iS 1 l_213_49 (oModel_s64 hm) rfl (by omega) ?_
  refine w_inc 2 l_213_50 rfl rfl (by unfold wr; omega) ?_
  refine w_go 12 l_213_53 (by decide) ?_
  refine w_iln l_213_12 rfl ?_
  refine w_ic l_213_13 (by decide) ?_
  refine w_cge 56 l_213_14 (by decide) (fun hx => absurd hx (by decide)) (fun _ => ?_)
  refine w_aln l_213_17 rfl ?_
  refine w_gr l_213_18 (oModel_sh hm) (oModel_r56 hm) ?_
  refine w_iln l_213_21 rfl ?_
  refine w_ic l_213_22 (by decide) ?_
  refine w_zS 2 1 l_213_23 (oModel_s56 hm) rfl (by omega) (by decide) ?_
  refine w_aln l_213_24 rfl ?_
  refine w_gr l_213_25 (oModel_sh hm) (oModel_r59 hm) ?_
  refine w_iln l_213_28 rfl ?_
  refine w_ic l_213_29 (by decide) ?_
  refine w_iS 2 l_213_30 (oModel_s59 hm) rfl (by omega) ?_
  refine w_aln l_213_31 rfl ?_
  refine w_gr l_213_32 (oModel_sh hm) (oModel_r60 hm) ?_
  refine w_iln l_213_35 rfl ?_
  refine w_aln l_213_36 rfl ?_
  refine w_gr l_213_37 (oModel_sh hm) (oModel_r6 hm) ?_
  refine w_iln l_213_40 rfl ?_
  refine w_ia 2 (I (s + 5) 2) l_213_41 (oModel_s6 hm) rfl (by omega) ((up_no (by omega)).trans ((up_no (by omega)).trans ((up_no (by omega)).trans ((up_no (by omega)).trans ((up_no (by omega)).trans ((up_no (by omega)).trans ((up_no (by omega)).trans ((up_no (by omega)).trans ((up_no (by omega)).trans ((up_no (by omega)).trans ((up_no (by omega)).trans ((up_no (by omega)).trans (rfl))))))))))))) ?_
  refine w_iS 2 l_213_42 (oModel_s60 hm) rfl (by omega) ?_
  refine w_aln l_213_43 rfl ?_
  refine w_gr l_213_44 (oModel_sh hm) (oModel_r64 hm) ?_
  refine w_iln l_213_47 rfl ?_
  refine w_ic l_213_48 (by decide) ?_
  refine w_iS 2 l_213_49 (oModel_s64 hm) rfl (by omega) ?_
  refine w_inc 3 l_213_50 rfl rfl (by unfold wr; omega) ?_
  refine w_go 12 l_213_53 (by decide) ?_
  refine w_iln l_213_12 rfl ?_
  refine w_ic l_213_13 (by decide) ?_
  refine w_cge 56 l_213_14 (by decide) (fun hx => absurd hx (by decide)) (fun _ => ?_)
  refine w_aln l_213_17 rfl ?_
  refine w_gr l_213_18 (oModel_sh hm) (oModel_r56 hm) ?_
  refine w_iln l_213_21 rfl ?_
  refine w_ic l_213_22 (by decide) ?_
  refine w_zS 3 1 l_213_23 (oModel_s56 hm) rfl (by omega) (by decide) ?_
  refine w_aln l_213_24 rfl ?_
  refine w_gr l_213_25 (oModel_sh hm) (oModel_r59 hm) ?_
  refine w_iln l_213_28 rfl ?_
  refine w_ic l_213_29 (by decide) ?_
  refine w_iS 3 l_213_30 (oModel_s59 hm) rfl (by omega) ?_
  refine w_aln l_213_31 rfl ?_
  refine w_gr l_213_32 (oModel_sh hm) (oModel_r60 hm) ?_
  refine w_iln l_213_35 rfl ?_
  refine w_aln l_213_36 rfl ?_
  refine w_gr l_213_37 (oModel_sh hm) (oModel_r6 hm) ?_
  refine w_iln l_213_40 rfl ?_
  refine w_ia 3 (I (s + 5) 3) l_213_41 (oModel_s6 hm) rfl (by omega) ((up_no (by omega)).trans ((up_no (by omega)).trans ((up_no (by omega)).trans ((up_no (by omega)).trans ((up_no (by omega)).trans ((up_no (by omega)).trans ((up_no (by omega)).trans ((up_no (by omega)).trans ((up_no (by omega)).trans ((up_no (by omega)).trans ((up_no (by omega)).trans ((up_no (by omega)).trans ((up_no (by omega)).trans ((up_no (by omega)).trans ((up_no (by omega)).trans ((up_no (by omega)).trans (rfl))))))))))))))))) ?_
  refine w_iS 3 l_213_42 (oModel_s60 hm) rfl (by omega) ?_
  refine w_aln l_213_43 rfl ?_
  refine w_gr l_213_44 (oModel_sh hm) (oModel_r64 hm) ?_
  refine w_iln l_213_47 rfl ?_
  refine w_ic l_213_48 (by decide) ?_
  refine w_iS 3 l_213_49 (oModel_s64 hm) rfl (by omega) ?_
  refine w_inc 4 l_213_50 rfl rfl (by unfold wr; omega) ?_
  refine w_go 12 l_213_53 (by decide) ?_
  refine w_iln l_213_12 rfl ?_
  refine w_ic l_213_13 (by decide) ?_
  refine w_cge 56 l_213_14 (by decide) (fun _ => ?_) (fun hx => absurd hx (by decide))
  refine w_ic l_213_56 (by decide) ?_
  refine w_isn l_213_57 ⟨Nat.le_of_ble_eq_true rfl, rfl⟩ ?_
  have e8 := lp_213a (xs := xs) (T := T) (cc := cc) (zz := zz) (J := up (up (up (up (up (up (up (up (up (up (up (up (up (up (up (up (up (up I s 55 0) s 66 0) (s + 27) 0 1) (s + 30) 0 0) (s + 31) 0 (I (s + 5) 0)) (s + 35) 0 0) (s + 27) 1 1) (s + 30) 1 0) (s + 31) 1 (I (s + 5) 1)) (s + 35) 1 0) (s + 27) 2 1) (s + 30) 2 0) (s + 31) 2 (I (s + 5) 2)) (s + 35) 2 0) (s + 27) 3 1) (s + 30) 3 0) (s + 31) 3 (I (s + 5) 3)) (s + 35) 3 0) hm 64 0 (by omega)
  rw [fl_0] at e8
  exact e8

theorem r_begins (hm : oModel S T s) (hL : nLi I s l) (okl : okLi l) : CL xs 213 [vr s] (S, I, T, cc, zz) (RP S T cc zz (fun v I' => v = none ∧ nR I' s l (beginA l) ∧ mfc I I' s 0 0)) := by
  refine CL_mono (s_213 hm) ?_
  rintro q m' ⟨rfl, rfl⟩
  have h4 := okl.1
  have U : ∀ y z, y ≠ s → y ≠ s + 27 → y ≠ s + 30 → y ≠ s + 31 → y ≠ s + 32 → y ≠ s + 34 → y ≠ s + 35 → (fl (fl (up (up (up (up (up (up (up (up (up (up (up (up (up (up (up (up (up (up I s 55 0) s 66 0) (s + 27) 0 1) (s + 30) 0 0) (s + 31) 0 (I (s + 5) 0)) (s + 35) 0 0) (s + 27) 1 1) (s + 30) 1 0) (s + 31) 1 (I (s + 5) 1)) (s + 35) 1 0) (s + 27) 2 1) (s + 30) 2 0) (s + 31) 2 (I (s + 5) 2)) (s + 35) 2 0) (s + 27) 3 1) (s + 30) 3 0) (s + 31) 3 (I (s + 5) 3)) (s + 35) 3 0) (s + 32) 64 (-1)) (s + 34) 480 0) y z = I y z := by
    intro y z h1 h2 h3 h4 h5 h6 h7
    rw [fl_no h6, fl_no h5]
    simp only [up_no h1, up_no h2, up_no h3, up_no h4, up_no h7]
  have U0 : ∀ z, z ≠ 55 → z ≠ 66 → (fl (fl (up (up (up (up (up (up (up (up (up (up (up (up (up (up (up (up (up (up I s 55 0) s 66 0) (s + 27) 0 1) (s + 30) 0 0) (s + 31) 0 (I (s + 5) 0)) (s + 35) 0 0) (s + 27) 1 1) (s + 30) 1 0) (s + 31) 1 (I (s + 5) 1)) (s + 35) 1 0) (s + 27) 2 1) (s + 30) 2 0) (s + 31) 2 (I (s + 5) 2)) (s + 35) 2 0) (s + 27) 3 1) (s + 30) 3 0) (s + 31) 3 (I (s + 5) 3)) (s + 35) 3 0) (s + 32) 64 (-1)) (s + 34) 480 0) s z = I s z := by
    intro z h1 h2
    rw [fl_no (by omega), fl_no (by omega)]
    simp only [up_no (show s ≠ s + 27 by omega), up_no (show s ≠ s + 30 by omega), up_no (show s ≠ s + 31 by omega), up_no (show s ≠ s + 35 by omega), up_nj h1, up_nj h2]
  refine ⟨none, _, rfl, rfl, rfl, ⟨⟨⟨?_, Nat.zero_le _⟩, fun p hp => ?_, fun p hp => ⟨?_, Nat.zero_le _, fun k hk => (by cases hk)⟩, fun p hp => ?_, fun a ha => ?_⟩, ⟨⟨?_, Nat.zero_le _⟩, fun j hj => (by cases hj), fun k hk p hp => ?_, fun p hp => ?_⟩⟩, ⟨fun y z h1 h2 => ?_, ?_, ?_⟩⟩
  · rw [fl_no (by omega), fl_no (by omega)]
    simp only [up_no (show s ≠ s + 27 by omega), up_no (show s ≠ s + 30 by omega), up_no (show s ≠ s + 31 by omega), up_no (show s ≠ s + 35 by omega), up_nj (show 55 ≠ 66 by decide), up_eq]
    rfl
  · rw [fl_no (by omega), fl_no (by omega)]
    rcases four hp with rfl | rfl | rfl | rfl <;> simp [up, beginA, sUp, b2i]
  · rw [fl_no (by omega), fl_no (by omega)]
    rcases four hp with rfl | rfl | rfl | rfl <;> simp [up, beginA, sQ]
  · have e : (fl (fl (up (up (up (up (up (up (up (up (up (up (up (up (up (up (up (up (up (up I s 55 0) s 66 0) (s + 27) 0 1) (s + 30) 0 0) (s + 31) 0 (I (s + 5) 0)) (s + 35) 0 0) (s + 27) 1 1) (s + 30) 1 0) (s + 31) 1 (I (s + 5) 1)) (s + 35) 1 0) (s + 27) 2 1) (s + 30) 2 0) (s + 31) 2 (I (s + 5) 2)) (s + 35) 2 0) (s + 27) 3 1) (s + 30) 3 0) (s + 31) 3 (I (s + 5) 3)) (s + 35) 3 0) (s + 32) 64 (-1)) (s + 34) 480 0) (s + 31) p = I (s + 5) p := by
      rw [fl_no (by omega), fl_no (by omega)]
      rcases four (show p < 4 by omega) with rfl | rfl | rfl | rfl <;> simp [up]
    have g := (hL.2.1 p hp).2.2
    rw [e]
    unfold tokI
    cases hpo : lPol l p with
    | none =>
      rw [hpo] at g
      refine ⟨g.2, ?_⟩
      show (-1 : Int) ≤ 99
      decide
    | some rb =>
      obtain ⟨ra, b⟩ := rb
      rw [hpo] at g
      have hb := (okl.2.2.2.1 p ra b hpo).2
      have e2 : sTok (beginA l).1 p = b := by
        show (match lPol l p with
          | some (_, b) => b
          | none => 0) = b
        rw [hpo]
      refine ⟨?_, ?_⟩
      · show _ = ((sTok (beginA l).1 p : Nat) : Int)
        rw [e2]
        exact g.2
      · show ((sTok (beginA l).1 p : Nat) : Int) ≤ 99
        omega
  · show (fl (fl (up (up (up (up (up (up (up (up (up (up (up (up (up (up (up (up (up (up I s 55 0) s 66 0) (s + 27) 0 1) (s + 30) 0 0) (s + 31) 0 (I (s + 5) 0)) (s + 35) 0 0) (s + 27) 1 1) (s + 30) 1 0) (s + 31) 1 (I (s + 5) 1)) (s + 35) 1 0) (s + 27) 2 1) (s + 30) 2 0) (s + 31) 2 (I (s + 5) 2)) (s + 35) 2 0) (s + 27) 3 1) (s + 30) 3 0) (s + 31) 3 (I (s + 5) 3)) (s + 35) 3 0) (s + 32) 64 (-1)) (s + 34) 480 0) (s + 32) a = -1
    rw [fl_no (by omega), fl_in ha]
  · rw [fl_no (by omega), fl_no (by omega)]
    simp only [up_no (show s ≠ s + 27 by omega), up_no (show s ≠ s + 30 by omega), up_no (show s ≠ s + 31 by omega), up_no (show s ≠ s + 35 by omega), up_eq]
    rfl
  · rw [fl_in (by omega)]
    rfl
  · rw [fl_no (by omega), fl_no (by omega)]
    rcases four hp with rfl | rfl | rfl | rfl <;> simp [up, beginA]
  · by_cases hy : y = s
    · rw [hy]
      have := h1 hy
      exact U0 z this.1 this.2.1
    · exact U y z hy (by intro e; have := h2 (by omega); omega) (by intro e; have := h2 (by omega); omega) (by intro e; have := h2 (by omega); omega) (by intro e; have := h2 (by omega); omega) (by intro e; have := h2 (by omega); omega) (by intro e; have := h2 (by omega); omega)
  · exact cg.of (U0 68 (by decide) (by decide))
  · exact cg.of (U0 69 (by decide) (by decide))

end REO
