/-! the reference's reader: openings, facts -/
theorem strB_same : strB 35 = strB 5 ∧ strB 36 = strB 7 ∧ strB 37 = strB 6 ∧ strB 38 = strB 8 ∧ strB 39 = strB 9 ∧ strB 40 = strB 10 ∧ strB 41 = strB 11 ∧ strB 42 = strB 12 ∧ strB 43 = strB 13 ∧ strB 34 = strB 4 ∧ strB 29 = strB 0 ∧ strB 30 = strB 1 ∧ strB 27 = strB 2 ∧ strB 28 = strB 3 ∧ strB 31 = strB 14 ∧ strB 32 = strB 15 ∧ strB 33 = strB 16 ∧ (strB 5).length = 3 := by decide +kernel
/-- all but the reader's place and error, the pile, the codes -/
def fC (I J : Ix) (s : Nat) : Prop := ∀ z w, (z = s → w ≠ 22 ∧ w ≠ 23 ∧ w ≠ 24 ∧ w ≠ 39 ∧ w ≠ 41 ∧ w ≠ 42) → (z < s + 21 ∨ s + 22 < z) → J z w = I z w
theorem fC.rf (I : Ix) (s : Nat) : fC I I s := fun _ _ _ _ => rfl
theorem fC.tr {I J K : Ix} {s : Nat} (f : fC I J s) (g : fC J K s) : fC I K s := fun z w h h2 => (g z w h h2).trans (f z w h h2)
theorem fT.C {I J : Ix} {s : Nat} (f : fT I J s) : fC I J s := fun z w h _ => f z w (fun e => by have := h e; omega)
theorem fQ.C {I J : Ix} {s : Nat} (f : fQ I J s) : fC I J s := fun z w h h2 => f z w (fun e => by have := h e; omega) (by omega) (by omega)
theorem fC.P {I J : Ix} {s : Nat} (f : fC I J s) : fP I J s := fun z w h h2 => f z w (fun e => by have := h e; omega) (by omega)
theorem fC.up {I J : Ix} {s z w : Nat} {v : Int} (f : fC I J s) (h : (z = s ∧ 22 ≤ w ∧ (w ≤ 24 ∨ w = 39 ∨ w = 41 ∨ w = 42)) ∨ (s + 21 ≤ z ∧ z ≤ s + 22)) : fC I (up J z w v) s := fun z' w' h1 h2 => (up_out (by omega)).trans (f z' w' h1 h2)
theorem mTx.fC {I J : Ix} {s n : Nat} {t : Nat → Int} (H : mTx I s t n) (f : fC I J s) : mTx J s t n := H.fP f.P
/-- what bounds the pile and the codes, ahead of the token at p -/
def phi (tot p : Nat) (K : List Nat) (C : Cd) : Prop := 2 * (tot + C.length + kN K) + kO K + 4 ≤ p ∧ kW K ≤ 5
theorem fT.rP {I J : Ix} {s tot : Nat} {P : Ps} {C : Cd} {K : List Nat} (f : fT I J s) (Z : mPi I s K) (Y : mSU I s P C tot) : mPi J s K ∧ mSU J s P C tot := ⟨Z.fT f, Y.fT f⟩
/-- one more on the pile -/
theorem mPi.push {I J : Ix} {s x : Nat} {K : List Nat} (Z : mPi I s K) (v41 : J s 41 = ((K.length + 1 : Nat) : Int)) (v42 : J s 42 = ((kW (x :: K) : Nat) : Int)) (v : J (s + 22) K.length = ((x : Nat) : Int)) (e : ∀ j, j < K.length → J (s + 22) j = I (s + 22) j) : mPi J s (x :: K) := by
  refine ⟨v41, v42, fun j hj => ?_⟩
  rw [List.length_cons] at hj ⊢
  by_cases hjl : j = K.length
  · rw [hjl, v, show K.length + 1 - 1 - K.length = 0 by omega]
    rfl
  · rw [e j (by omega), Z.2.2 j (by omega), show K.length + 1 - 1 - j = (K.length - 1 - j) + 1 by omega]
    rfl
section RGA
variable {xs : List Int} {S : List (Nat × Nat)} {T : Nat → Nat → Nat} {cc zz s : Nat} {I I' : Ix} {t : Nat → Int} {n : Nat}

theorem mx_189 : mxl 189 = 2 := by decide +kernel
theorem mt_189 : mtc 189 = 10 := by decide +kernel
theorem rk_189 (as : List AV) : rkA 189 as = 0 := rfl
theorem l_189_0 : look 189 0 = some (.iconst 0, 1, 0, 0, 0, 0) := by decide +kernel
theorem l_189_1 : look 189 1 = some (.istore_n 1, 1, 0, 0, 0, 0) := by decide +kernel
theorem l_189_2 : look 189 2 = some (.iload_n 1, 1, 0, 0, 0, 0) := by decide +kernel
theorem l_189_3 : look 189 3 = some (.aload_n 0, 1, 0, 0, 0, 0) := by decide +kernel
theorem l_189_4 : look 189 4 = some (.getfield 227, 3, 10, 41, 0, 1542) := by decide +kernel
theorem l_189_7 : look 189 7 = some (.if_icmp .ge 22, 3, 0, 0, 0, 0) := by decide +kernel
theorem l_189_10 : look 189 10 = some (.aload_n 0, 1, 0, 0, 0, 0) := by decide +kernel
theorem l_189_11 : look 189 11 = some (.getfield 89, 3, 10, 40, 2, 1541) := by decide +kernel
theorem l_189_14 : look 189 14 = some (.iload_n 1, 1, 0, 0, 0, 0) := by decide +kernel
theorem l_189_15 : look 189 15 = some (.iaload, 1, 0, 0, 0, 0) := by decide +kernel
theorem l_189_16 : look 189 16 = some (.bipush 9, 2, 0, 0, 0, 0) := by decide +kernel
theorem l_189_18 : look 189 18 = some (.if_icmp .ne 5, 3, 0, 0, 0, 0) := by decide +kernel
theorem l_189_21 : look 189 21 = some (.iconst 1, 1, 0, 0, 0, 0) := by decide +kernel
theorem l_189_22 : look 189 22 = some (.ireturn, 1, 0, 0, 1, 0) := by decide +kernel
theorem l_189_23 : look 189 23 = some (.iinc 1 1, 3, 0, 0, 0, 0) := by decide +kernel
theorem l_189_26 : look 189 26 = some (.goto (-24), 3, 0, 0, 0, 0) := by decide +kernel
theorem l_189_29 : look 189 29 = some (.iconst 0, 1, 0, 0, 0, 0) := by decide +kernel
theorem l_189_30 : look 189 30 = some (.ireturn, 1, 0, 0, 1, 0) := by decide +kernel

theorem lp_189 (hm : oModel S T s) {K : List Nat} (Z : mPi I s K) (h3 : K.length ≤ 300) : ∀ d i, i + d = K.length → (∀ j, j < i → K.getD (K.length - 1 - j) 0 ≠ 9) → WP xs 189 0 2 [vr s, vi ((i : Nat) : Int)] [] (S, I, T, cc, zz) (FN (some (vi (b2i (decide (0 < kO K))))) (S, I, T, cc, zz)) := by
  intro d
  induction d with
  | zero =>
    intro i hi hN
    refine w_iln l_189_2 rfl ?_
    refine w_aln l_189_3 rfl ?_
    refine w_gi ((K.length : Nat) : Int) l_189_4 (oModel_sh hm) Z.1 ?_
    refine w_cge 29 l_189_7 (by decide) (fun _ => ?_) (fun hx => absurd hx (by omega))
    refine w_ic l_189_29 (by decide) ?_
    refine w_ir l_189_30 (by decide) ?_
    rw [show decide (0 < kO K) = false from decide_eq_false fun q => by
      obtain ⟨j, h1, h2⟩ := (kO_pos K).mp q
      have := hN (K.length - 1 - j) (by omega)
      rw [show K.length - 1 - (K.length - 1 - j) = j by omega] at this
      exact this h2]
    exact ⟨rfl, rfl⟩
  | succ d ih =>
    intro i hi hN
    refine w_iln l_189_2 rfl ?_
    refine w_aln l_189_3 rfl ?_
    refine w_gi ((K.length : Nat) : Int) l_189_4 (oModel_sh hm) Z.1 ?_
    refine w_cge 29 l_189_7 (by decide) (fun hx => absurd hx (by omega)) (fun _ => ?_)
    refine w_aln l_189_10 rfl ?_
    refine w_gr l_189_11 (oModel_sh hm) (oModel_r40 hm) ?_
    refine w_iln l_189_14 rfl ?_
    refine w_ia i (((K.getD (K.length - 1 - i) 0) : Nat) : Int) l_189_15 (oModel_s40 hm) rfl (by omega) (Z.2.2 i (by omega)) ?_
    refine w_bp l_189_16 (by decide) ?_
    refine w_cne 23 l_189_18 (by decide) (fun h1 => ?_) (fun h1 => ?_)
    · skip
      refine w_inc (((i + 1) : Nat) : Int) l_189_23 rfl rfl (by unfold wr; omega) ?_
      refine w_go 2 l_189_26 (by decide) ?_
      refine ih (i + 1) (by omega) (fun j hj => ?_)
      by_cases hji : j = i
      · rw [hji]; omega
      · exact hN j (by omega)
    · skip
      refine w_ic l_189_21 (by decide) ?_
      refine w_ir l_189_22 (by decide) ?_
      rw [show decide (0 < kO K) = true from decide_eq_true ((kO_pos K).mpr ⟨K.length - 1 - i, by omega, by omega⟩)]
      exact ⟨rfl, rfl⟩
theorem s_189 (hm : oModel S T s) {K : List Nat} (Z : mPi I s K) (h3 : K.length ≤ 300) : CL xs 189 [vr s] (S, I, T, cc, zz) (FN (some (vi (b2i (decide (0 < kO K))))) (S, I, T, cc, zz)) := by
  refine CL_start (r := 0) (ls := [vr s, vs 2]) (rk_189 _) rfl ?_
  refine w_ic l_189_0 (by decide) ?_
  refine w_isn l_189_1 ⟨Nat.le_of_ble_eq_true rfl, rfl⟩ ?_
  exact lp_189 hm Z h3 K.length 0 (Nat.zero_add _) (fun j hj => absurd hj (Nat.not_lt_zero j))

theorem mx_190 : mxl 190 = 3 := by decide +kernel
theorem mt_190 : mtc 190 = 10 := by decide +kernel
theorem rk_190 (as : List AV) : rkA 190 as = 5 := rfl
theorem l_190_0 : look 190 0 = some (.iconst 1, 1, 0, 0, 0, 0) := by decide +kernel
theorem l_190_1 : look 190 1 = some (.istore_n 1, 1, 0, 0, 0, 0) := by decide +kernel
theorem l_190_2 : look 190 2 = some (.iload_n 1, 1, 0, 0, 0, 0) := by decide +kernel
theorem l_190_3 : look 190 3 = some (.ifCond .eq 110, 3, 0, 0, 0, 0) := by decide +kernel
theorem l_190_6 : look 190 6 = some (.aload_n 0, 1, 0, 0, 0, 0) := by decide +kernel
theorem l_190_7 : look 190 7 = some (.invokevirtual 182, 3, 175, 1, 0, 1750) := by decide +kernel
theorem l_190_10 : look 190 10 = some (.ifCond .ne 103, 3, 0, 0, 0, 0) := by decide +kernel
theorem l_190_13 : look 190 13 = some (.aload_n 0, 1, 0, 0, 0, 0) := by decide +kernel
theorem l_190_14 : look 190 14 = some (.ldc 237, 2, 35, 0, 0, 1833) := by decide +kernel
theorem l_190_16 : look 190 16 = some (.invokevirtual 194, 3, 178, 2, 0, 1767) := by decide +kernel
theorem l_190_19 : look 190 19 = some (.istore_n 2, 1, 0, 0, 0, 0) := by decide +kernel
theorem l_190_20 : look 190 20 = some (.iload_n 2, 1, 0, 0, 0, 0) := by decide +kernel
theorem l_190_21 : look 190 21 = some (.ifCond .ne 12, 3, 0, 0, 0, 0) := by decide +kernel
theorem l_190_24 : look 190 24 = some (.aload_n 0, 1, 0, 0, 0, 0) := by decide +kernel
theorem l_190_25 : look 190 25 = some (.invokevirtual 171, 3, 174, 1, 0, 1754) := by decide +kernel
theorem l_190_28 : look 190 28 = some (.bipush 40, 2, 0, 0, 0, 0) := by decide +kernel
theorem l_190_30 : look 190 30 = some (.if_icmp .ne 7, 3, 0, 0, 0, 0) := by decide +kernel
theorem l_190_33 : look 190 33 = some (.iconst 1, 1, 0, 0, 0, 0) := by decide +kernel
theorem l_190_34 : look 190 34 = some (.goto 4, 3, 0, 0, 0, 0) := by decide +kernel
theorem l_190_37 : look 190 37 = some (.iconst 0, 1, 0, 0, 0, 0) := by decide +kernel
theorem l_190_38 : look 190 38 = some (.istore_n 1, 1, 0, 0, 0, 0) := by decide +kernel
theorem l_190_39 : look 190 39 = some (.iload_n 1, 1, 0, 0, 0, 0) := by decide +kernel
theorem l_190_40 : look 190 40 = some (.ifCond .eq 23, 3, 0, 0, 0, 0) := by decide +kernel
theorem l_190_43 : look 190 43 = some (.aload_n 0, 1, 0, 0, 0, 0) := by decide +kernel
theorem l_190_44 : look 190 44 = some (.getfield 234, 3, 10, 42, 0, 1543) := by decide +kernel
theorem l_190_47 : look 190 47 = some (.iconst 5, 1, 0, 0, 0, 0) := by decide +kernel
theorem l_190_48 : look 190 48 = some (.if_icmp .ne 15, 3, 0, 0, 0, 0) := by decide +kernel
theorem l_190_51 : look 190 51 = some (.aload_n 0, 1, 0, 0, 0, 0) := by decide +kernel
theorem l_190_52 : look 190 52 = some (.iconst 4, 1, 0, 0, 0, 0) := by decide +kernel
theorem l_190_53 : look 190 53 = some (.aload_n 0, 1, 0, 0, 0, 0) := by decide +kernel
theorem l_190_54 : look 190 54 = some (.getfield 161, 3, 10, 22, 0, 1523) := by decide +kernel
theorem l_190_57 : look 190 57 = some (.invokevirtual 198, 3, 176, 3, 0, 1782) := by decide +kernel
theorem l_190_60 : look 190 60 = some (.goto 50, 3, 0, 0, 0, 0) := by decide +kernel
theorem l_190_63 : look 190 63 = some (.iload_n 1, 1, 0, 0, 0, 0) := by decide +kernel
theorem l_190_64 : look 190 64 = some (.ifCond .eq 46, 3, 0, 0, 0, 0) := by decide +kernel
theorem l_190_67 : look 190 67 = some (.aload_n 0, 1, 0, 0, 0, 0) := by decide +kernel
theorem l_190_68 : look 190 68 = some (.dup, 1, 0, 0, 0, 0) := by decide +kernel
theorem l_190_69 : look 190 69 = some (.getfield 234, 3, 10, 42, 0, 1543) := by decide +kernel
theorem l_190_72 : look 190 72 = some (.iconst 1, 1, 0, 0, 0, 0) := by decide +kernel
theorem l_190_73 : look 190 73 = some (.iadd, 1, 0, 0, 0, 0) := by decide +kernel
theorem l_190_74 : look 190 74 = some (.putfield 234, 3, 10, 42, 0, 1543) := by decide +kernel
theorem l_190_77 : look 190 77 = some (.aload_n 0, 1, 0, 0, 0, 0) := by decide +kernel
theorem l_190_78 : look 190 78 = some (.iload_n 2, 1, 0, 0, 0, 0) := by decide +kernel
theorem l_190_79 : look 190 79 = some (.ifCond .eq 8, 3, 0, 0, 0, 0) := by decide +kernel
theorem l_190_82 : look 190 82 = some (.bipush 6, 2, 0, 0, 0, 0) := by decide +kernel
theorem l_190_84 : look 190 84 = some (.goto 5, 3, 0, 0, 0, 0) := by decide +kernel
theorem l_190_87 : look 190 87 = some (.bipush 9, 2, 0, 0, 0, 0) := by decide +kernel
theorem l_190_89 : look 190 89 = some (.invokevirtual 239, 3, 187, 2, 0, 1834) := by decide +kernel
theorem l_190_92 : look 190 92 = some (.aload_n 0, 1, 0, 0, 0, 0) := by decide +kernel
theorem l_190_93 : look 190 93 = some (.dup, 1, 0, 0, 0, 0) := by decide +kernel
theorem l_190_94 : look 190 94 = some (.getfield 161, 3, 10, 22, 0, 1523) := by decide +kernel
theorem l_190_97 : look 190 97 = some (.iload_n 2, 1, 0, 0, 0, 0) := by decide +kernel
theorem l_190_98 : look 190 98 = some (.ifCond .eq 7, 3, 0, 0, 0, 0) := by decide +kernel
theorem l_190_101 : look 190 101 = some (.iconst 3, 1, 0, 0, 0, 0) := by decide +kernel
theorem l_190_102 : look 190 102 = some (.goto 4, 3, 0, 0, 0, 0) := by decide +kernel
theorem l_190_105 : look 190 105 = some (.iconst 1, 1, 0, 0, 0, 0) := by decide +kernel
theorem l_190_106 : look 190 106 = some (.iadd, 1, 0, 0, 0, 0) := by decide +kernel
theorem l_190_107 : look 190 107 = some (.putfield 161, 3, 10, 22, 0, 1523) := by decide +kernel
theorem l_190_110 : look 190 110 = some (.goto (-108), 3, 0, 0, 0, 0) := by decide +kernel
theorem l_190_113 : look 190 113 = some (.return_, 1, 0, 0, 0, 0) := by decide +kernel

theorem lp_190 {I0 : Ix} (hm : oModel S T s) {P : Ps} {tot : Nat} {C : Cd} : ∀ d p K x2 J, kW K + d = 6 → mTx J s t n → mAt J s t n p → J s 24 = 0 → J s 23 = I0 s 23 → mPi J s K → mSU J s P C tot → phi tot p K C → fC I0 J s → WP xs 190 5 2 [vr s, vi 1, x2] [] (S, J, T, cc, zz) (RP S T cc zz (fun v I' => v = none ∧ fC I0 I' s ∧ mRO I0 s I' (opG t n d p K) (fun a => mAt I' s t n a.1 ∧ mPi I' s a.2 ∧ mSU I' s P C tot ∧ phi tot a.1 a.2 C))) := by
  intro d
  induction d with
  | zero =>
    intro p K x2 J hd H A h24 h23 Z Y hphi f
    exact absurd hphi.2 (by omega)
  | succ d ih =>
    intro p K x2 J hd H A h24 h23 Z Y hphi f
    obtain ⟨hp1, hp2⟩ := id hphi
    have h600 := H.2.1
    have hpn := A.le
    have hkl := kNO K
    have hko := kOD K
    cases hw5 : isWL t n (strB 5) p with
    | true =>
      have hn : isNest t n p = true := by unfold isNest; rw [hw5]; rfl
      have hnx := isWL_nx (by decide) hw5
      have hte : tEnd t n p = p + 3 := by rw [(isWL_1 hw5).2, strB_same.2.2.2.2.2.2.2.2.2.2.2.2.2.2.2.2.2]
      have htl := tEnd_le (t := t) hpn
      by_cases h5 : kW K = 5
      · skip
        refine w_iln l_190_2 rfl ?_
        refine w_zeq 113 l_190_3 (by decide) (fun hx => absurd hx (by decide)) (fun _ => ?_)
        refine w_aln l_190_6 rfl ?_
        refine q_iv [] [] l_190_7 rfl rfl (Nat.le_of_ble_eq_true rfl) (by rw [mx_175]; exact Nat.le_of_ble_eq_true rfl) (by rw [mt_175]; exact oModel_sh hm) (by rw [mt_175]; decide) (by rw [rk_175]; decide) (s_175_0 hm h24) ?_
        refine w_zne 113 l_190_10 (by decide) (fun hx => absurd hx (by decide)) (fun _ => ?_)
        refine w_aln l_190_13 rfl ?_
        refine w_ldc l_190_14 (by decide) ?_
        refine p_iv [vs (2 * 35 + 4)] [] l_190_16 rfl rfl (Nat.le_of_ble_eq_true rfl) (by rw [mx_178]; exact Nat.le_of_ble_eq_true rfl) (by rw [mt_178]; exact oModel_sh hm) (by rw [mt_178]; decide) (by rw [rk_178]; decide) (by have g9 := s_178A (xs := xs) (cc := cc) (zz := zz) hm H A h24 (q := 35) (by decide); rw [strB_same.1, hw5] at g9; exact g9) (fun v J1 hv => ?_)
        obtain ⟨rfl, g221, f1⟩ := hv
        have H1 := H.fT f1.T
        have A1 := mAt.at g221 A.le A.id
        have Z1 := Z.fT f1.T
        have Y1 := Y.fT f1.T
        have k241 : J1 s 24 = 0 := (f1 s 24 (fun _ => by decide)).trans h24
        have k231 := f1 s 23 (fun _ => by decide)
        refine w_isn l_190_19 ⟨Nat.le_of_ble_eq_true rfl, rfl⟩ ?_
        refine w_iln l_190_20 rfl ?_
        refine w_zne 33 l_190_21 (by decide) (fun _ => ?_) (fun hx => absurd hx (by decide))
        refine w_ic l_190_33 (by decide) ?_
        refine w_go 38 l_190_34 (by decide) ?_
        refine w_isn l_190_38 ⟨Nat.le_of_ble_eq_true rfl, rfl⟩ ?_
        refine w_iln l_190_39 rfl ?_
        refine w_zeq 63 l_190_40 (by decide) (fun hx => absurd hx (by decide)) (fun _ => ?_)
        refine w_aln l_190_43 rfl ?_
        refine w_gi (((kW K) : Nat) : Int) l_190_44 (oModel_sh hm) Z1.2.1 ?_
        refine w_ic l_190_47 (by decide) ?_
        refine w_cne 63 l_190_48 (by decide) (fun hx => absurd hx (by omega)) (fun _ => ?_)
        refine w_aln l_190_51 rfl ?_
        refine w_ic l_190_52 (by decide) ?_
        refine w_aln l_190_53 rfl ?_
        refine w_gi ((p : Nat) : Int) l_190_54 (oModel_sh hm) g221 ?_
        refine q_iv [vi 4, vi ((p : Nat) : Int)] [] l_190_57 rfl rfl (Nat.le_of_ble_eq_true rfl) (by rw [mx_176]; exact Nat.le_of_ble_eq_true rfl) (by rw [mt_176]; exact oModel_sh hm) (by rw [mt_176]; decide) (by rw [rk_176]; decide) (s_176 hm (k := 4) k241) ?_
        refine w_go 110 l_190_60 (by decide) ?_
        refine w_go 2 l_190_110 (by decide) ?_
        refine w_iln l_190_2 rfl ?_
        refine w_zeq 113 l_190_3 (by decide) (fun hx => absurd hx (by decide)) (fun _ => ?_)
        refine w_aln l_190_6 rfl ?_
        refine q_iv [] [] l_190_7 rfl rfl (Nat.le_of_ble_eq_true rfl) (by rw [mx_175]; exact Nat.le_of_ble_eq_true rfl) (by rw [mt_175]; exact oModel_sh hm) (by rw [mt_175]; decide) (by rw [rk_175]; decide) (s_175_1 (k := 4) hm (by repeat (first | exact up_eq | rw [up_nj (by decide)])) (by decide)) ?_
        refine w_zne 113 l_190_10 (by decide) (fun _ => ?_) (fun hx => absurd hx (by decide))
        refine w_vr l_190_113 ?_
        have hR : opG t n (d + 1) p K = .inl (4, p) := by
          rw [opG, if_pos hn, if_pos h5]
        exact ⟨_, _, rfl, rfl, rfl, f.tr ((f1.T.C.up (Or.inl ⟨rfl, by decide, by decide⟩)).up (Or.inl ⟨rfl, by decide, by decide⟩)), by rw [hR]; exact ⟨(show (1 : Nat) ≤ 4 by decide), (up_nj (by decide)).trans up_eq, up_eq⟩⟩
      · skip
        refine w_iln l_190_2 rfl ?_
        refine w_zeq 113 l_190_3 (by decide) (fun hx => absurd hx (by decide)) (fun _ => ?_)
        refine w_aln l_190_6 rfl ?_
        refine q_iv [] [] l_190_7 rfl rfl (Nat.le_of_ble_eq_true rfl) (by rw [mx_175]; exact Nat.le_of_ble_eq_true rfl) (by rw [mt_175]; exact oModel_sh hm) (by rw [mt_175]; decide) (by rw [rk_175]; decide) (s_175_0 hm h24) ?_
        refine w_zne 113 l_190_10 (by decide) (fun hx => absurd hx (by decide)) (fun _ => ?_)
        refine w_aln l_190_13 rfl ?_
        refine w_ldc l_190_14 (by decide) ?_
        refine p_iv [vs (2 * 35 + 4)] [] l_190_16 rfl rfl (Nat.le_of_ble_eq_true rfl) (by rw [mx_178]; exact Nat.le_of_ble_eq_true rfl) (by rw [mt_178]; exact oModel_sh hm) (by rw [mt_178]; decide) (by rw [rk_178]; decide) (by have g9 := s_178A (xs := xs) (cc := cc) (zz := zz) hm H A h24 (q := 35) (by decide); rw [strB_same.1, hw5] at g9; exact g9) (fun v J1 hv => ?_)
        obtain ⟨rfl, g221, f1⟩ := hv
        have H1 := H.fT f1.T
        have A1 := mAt.at g221 A.le A.id
        have Z1 := Z.fT f1.T
        have Y1 := Y.fT f1.T
        have k241 : J1 s 24 = 0 := (f1 s 24 (fun _ => by decide)).trans h24
        have k231 := f1 s 23 (fun _ => by decide)
        refine w_isn l_190_19 ⟨Nat.le_of_ble_eq_true rfl, rfl⟩ ?_
        refine w_iln l_190_20 rfl ?_
        refine w_zne 33 l_190_21 (by decide) (fun _ => ?_) (fun hx => absurd hx (by decide))
        refine w_ic l_190_33 (by decide) ?_
        refine w_go 38 l_190_34 (by decide) ?_
        refine w_isn l_190_38 ⟨Nat.le_of_ble_eq_true rfl, rfl⟩ ?_
        refine w_iln l_190_39 rfl ?_
        refine w_zeq 63 l_190_40 (by decide) (fun hx => absurd hx (by decide)) (fun _ => ?_)
        refine w_aln l_190_43 rfl ?_
        refine w_gi (((kW K) : Nat) : Int) l_190_44 (oModel_sh hm) Z1.2.1 ?_
        refine w_ic l_190_47 (by decide) ?_
        refine w_cne 63 l_190_48 (by decide) (fun _ => ?_) (fun hx => absurd hx (by omega))
        refine w_iln l_190_63 rfl ?_
        refine w_zeq 110 l_190_64 (by decide) (fun hx => absurd hx (by decide)) (fun _ => ?_)
        refine w_aln l_190_67 rfl ?_
        refine w_dup l_190_68 rfl ?_
        refine w_gi (((kW K) : Nat) : Int) l_190_69 (oModel_sh hm) Z1.2.1 ?_
        refine w_ic l_190_72 (by decide) ?_
        refine w_add (((kW K + 1) : Nat) : Int) l_190_73 (by unfold wr; omega) ?_
        refine w_pi l_190_74 (oModel_sh hm) ?_
        refine w_aln l_190_77 rfl ?_
        refine w_iln l_190_78 rfl ?_
        refine w_zeq 87 l_190_79 (by decide) (fun hx => absurd hx (by decide)) (fun _ => ?_)
        refine w_bp l_190_82 (by decide) ?_
        refine w_go 89 l_190_84 (by decide) ?_
        refine q_iv [vi 6] [] l_190_89 rfl rfl (Nat.le_of_ble_eq_true rfl) (by rw [mx_187]; exact Nat.le_of_ble_eq_true rfl) (by rw [mt_187]; exact oModel_sh hm) (by rw [mt_187]; decide) (by rw [rk_187]; decide) (s_187 hm ((up_nj (by decide)).trans Z1.1) (by have := kNO K; have := kOD K; omega)) ?_
        refine w_aln l_190_92 rfl ?_
        refine w_dup l_190_93 rfl ?_
        refine w_gi ((p : Nat) : Int) l_190_94 (oModel_sh hm) ((up_nj (by omega)).trans ((up_no (by omega)).trans ((up_nj (by omega)).trans (g221)))) ?_
        refine w_iln l_190_97 rfl ?_
        refine w_zeq 105 l_190_98 (by decide) (fun hx => absurd hx (by decide)) (fun _ => ?_)
        refine w_ic l_190_101 (by decide) ?_
        refine w_go 106 l_190_102 (by decide) ?_
        refine w_add (((p + 3) : Nat) : Int) l_190_106 (by unfold wr; omega) ?_
        refine w_pi l_190_107 (oModel_sh hm) ?_
        refine w_go 2 l_190_110 (by decide) ?_
        have hR : opG t n (d + 1) p K = opG t n d (nxt t n p) (6 :: K) := by
          rw [opG, if_pos hn, if_neg h5, if_pos hw5]
        rw [hR]
        refine ih (nxt t n p) (6 :: K) _ _ (by rw [kW_6]; omega) ?_ ?_ ?_ ?_ ?_ ?_ ?_ ?_
        · exact (H1).fC ((((fC.rf _ s).up (Or.inl ⟨rfl, by decide, by decide⟩)).up (Or.inr ⟨by omega, by omega⟩)).up (Or.inl ⟨rfl, by decide, by decide⟩) |>.up (Or.inl ⟨rfl, by decide, by decide⟩))
        · exact ⟨p + 3, up_eq, by omega, by rw [← hte]; rfl⟩
        · repeat (rw [up_nj (by decide)])
          repeat (rw [up_no (by omega)])
          repeat (rw [up_nj (by decide)])
          exact k241
        · repeat (rw [up_nj (by decide)])
          repeat (rw [up_no (by omega)])
          repeat (rw [up_nj (by decide)])
          exact k231.trans h23
        · refine Z1.push ?_ ?_ ?_ (fun j hj => ?_)
          · rw [up_nj (by decide)]; exact up_eq
          · rw [up_nj (by decide), up_nj (by decide), up_no (by omega), up_eq, kW_6]
          · rw [up_no (by omega), up_no (by omega)]; exact up_eq
          · rw [up_no (by omega), up_no (by omega), up_nj (by omega), up_no (by omega)]
        · exact Y1.eq (fun w h1 h2 => by repeat (rw [up_out (by omega)])) (fun j h1 h2 w => by repeat (rw [up_out (by omega)]))
        · exact ⟨by rw [kN_x (by decide), kO_x (by decide)]; omega, by rw [kW_6]; omega⟩
        · exact f.tr (f1.T.C.tr ((((fC.rf _ s).up (Or.inl ⟨rfl, by decide, by decide⟩)).up (Or.inr ⟨by omega, by omega⟩)).up (Or.inl ⟨rfl, by decide, by decide⟩) |>.up (Or.inl ⟨rfl, by decide, by decide⟩)))
    | false =>
      cases hs : isSg t n 40 p with
      | true =>
        have hn : isNest t n p = true := by unfold isNest; rw [hw5, hs]; rfl
        have hub : ubA t n p = 40 := (ubA_c H (by decide)).mpr (isSg_iff.mp hs)
        have hpl := (isSg_iff.mp hs).1
        have hng := nxt_gt (t := t) hpl
        have hte : tEnd t n p = p + 1 := (isSg_3 (by decide) hs).2
        by_cases h5 : kW K = 5
        · skip
          refine w_iln l_190_2 rfl ?_
          refine w_zeq 113 l_190_3 (by decide) (fun hx => absurd hx (by decide)) (fun _ => ?_)
          refine w_aln l_190_6 rfl ?_
          refine q_iv [] [] l_190_7 rfl rfl (Nat.le_of_ble_eq_true rfl) (by rw [mx_175]; exact Nat.le_of_ble_eq_true rfl) (by rw [mt_175]; exact oModel_sh hm) (by rw [mt_175]; decide) (by rw [rk_175]; decide) (s_175_0 hm h24) ?_
          refine w_zne 113 l_190_10 (by decide) (fun hx => absurd hx (by decide)) (fun _ => ?_)
          refine w_aln l_190_13 rfl ?_
          refine w_ldc l_190_14 (by decide) ?_
          refine p_iv [vs (2 * 35 + 4)] [] l_190_16 rfl rfl (Nat.le_of_ble_eq_true rfl) (by rw [mx_178]; exact Nat.le_of_ble_eq_true rfl) (by rw [mt_178]; exact oModel_sh hm) (by rw [mt_178]; decide) (by rw [rk_178]; decide) (by have g9 := s_178A (xs := xs) (cc := cc) (zz := zz) hm H A h24 (q := 35) (by decide); rw [strB_same.1, hw5] at g9; exact g9) (fun v J1 hv => ?_)
          obtain ⟨rfl, g221, f1⟩ := hv
          have H1 := H.fT f1.T
          have A1 := mAt.at g221 A.le A.id
          have Z1 := Z.fT f1.T
          have Y1 := Y.fT f1.T
          have k241 : J1 s 24 = 0 := (f1 s 24 (fun _ => by decide)).trans h24
          have k231 := f1 s 23 (fun _ => by decide)
          refine w_isn l_190_19 ⟨Nat.le_of_ble_eq_true rfl, rfl⟩ ?_
          refine w_iln l_190_20 rfl ?_
          refine w_zne 33 l_190_21 (by decide) (fun hx => absurd hx (by decide)) (fun _ => ?_)
          refine w_aln l_190_24 rfl ?_
          refine p_iv [] [] l_190_25 rfl rfl (Nat.le_of_ble_eq_true rfl) (by rw [mx_174]; exact Nat.le_of_ble_eq_true rfl) (by rw [mt_174]; exact oModel_sh hm) (by rw [mt_174]; decide) (by rw [rk_174]; decide) (by have g9 := s_174A (xs := xs) (cc := cc) (zz := zz) hm H1 A1; rw [show ubA t n p = 40 from hub] at g9; exact g9) (fun v J2 hv => ?_)
          obtain ⟨rfl, g222, f2⟩ := hv
          have Z2 := Z1.fT f2.T
          have Y2 := Y1.fT f2.T
          have k242 : J2 s 24 = 0 := (f2 s 24 (fun _ => by decide)).trans k241
          have k232 := f2 s 23 (fun _ => by decide)
          refine w_bp l_190_28 (by decide) ?_
          refine w_cne 37 l_190_30 (by decide) (fun hx => absurd hx (by decide)) (fun _ => ?_)
          refine w_ic l_190_33 (by decide) ?_
          refine w_go 38 l_190_34 (by decide) ?_
          refine w_isn l_190_38 ⟨Nat.le_of_ble_eq_true rfl, rfl⟩ ?_
          refine w_iln l_190_39 rfl ?_
          refine w_zeq 63 l_190_40 (by decide) (fun hx => absurd hx (by decide)) (fun _ => ?_)
          refine w_aln l_190_43 rfl ?_
          refine w_gi (((kW K) : Nat) : Int) l_190_44 (oModel_sh hm) Z2.2.1 ?_
          refine w_ic l_190_47 (by decide) ?_
          refine w_cne 63 l_190_48 (by decide) (fun hx => absurd hx (by omega)) (fun _ => ?_)
          refine w_aln l_190_51 rfl ?_
          refine w_ic l_190_52 (by decide) ?_
          refine w_aln l_190_53 rfl ?_
          refine w_gi ((p : Nat) : Int) l_190_54 (oModel_sh hm) g222 ?_
          refine q_iv [vi 4, vi ((p : Nat) : Int)] [] l_190_57 rfl rfl (Nat.le_of_ble_eq_true rfl) (by rw [mx_176]; exact Nat.le_of_ble_eq_true rfl) (by rw [mt_176]; exact oModel_sh hm) (by rw [mt_176]; decide) (by rw [rk_176]; decide) (s_176 hm (k := 4) k242) ?_
          refine w_go 110 l_190_60 (by decide) ?_
          refine w_go 2 l_190_110 (by decide) ?_
          refine w_iln l_190_2 rfl ?_
          refine w_zeq 113 l_190_3 (by decide) (fun hx => absurd hx (by decide)) (fun _ => ?_)
          refine w_aln l_190_6 rfl ?_
          refine q_iv [] [] l_190_7 rfl rfl (Nat.le_of_ble_eq_true rfl) (by rw [mx_175]; exact Nat.le_of_ble_eq_true rfl) (by rw [mt_175]; exact oModel_sh hm) (by rw [mt_175]; decide) (by rw [rk_175]; decide) (s_175_1 (k := 4) hm (by repeat (first | exact up_eq | rw [up_nj (by decide)])) (by decide)) ?_
          refine w_zne 113 l_190_10 (by decide) (fun _ => ?_) (fun hx => absurd hx (by decide))
          refine w_vr l_190_113 ?_
          have hR : opG t n (d + 1) p K = .inl (4, p) := by
            rw [opG, if_pos hn, if_pos h5]
          exact ⟨_, _, rfl, rfl, rfl, f.tr (((f1.tr f2).T.C.up (Or.inl ⟨rfl, by decide, by decide⟩)).up (Or.inl ⟨rfl, by decide, by decide⟩)), by rw [hR]; exact ⟨(show (1 : Nat) ≤ 4 by decide), (up_nj (by decide)).trans up_eq, up_eq⟩⟩
        · skip
          refine w_iln l_190_2 rfl ?_
          refine w_zeq 113 l_190_3 (by decide) (fun hx => absurd hx (by decide)) (fun _ => ?_)
          refine w_aln l_190_6 rfl ?_
          refine q_iv [] [] l_190_7 rfl rfl (Nat.le_of_ble_eq_true rfl) (by rw [mx_175]; exact Nat.le_of_ble_eq_true rfl) (by rw [mt_175]; exact oModel_sh hm) (by rw [mt_175]; decide) (by rw [rk_175]; decide) (s_175_0 hm h24) ?_
          refine w_zne 113 l_190_10 (by decide) (fun hx => absurd hx (by decide)) (fun _ => ?_)
          refine w_aln l_190_13 rfl ?_
          refine w_ldc l_190_14 (by decide) ?_
          refine p_iv [vs (2 * 35 + 4)] [] l_190_16 rfl rfl (Nat.le_of_ble_eq_true rfl) (by rw [mx_178]; exact Nat.le_of_ble_eq_true rfl) (by rw [mt_178]; exact oModel_sh hm) (by rw [mt_178]; decide) (by rw [rk_178]; decide) (by have g9 := s_178A (xs := xs) (cc := cc) (zz := zz) hm H A h24 (q := 35) (by decide); rw [strB_same.1, hw5] at g9; exact g9) (fun v J1 hv => ?_)
          obtain ⟨rfl, g221, f1⟩ := hv
          have H1 := H.fT f1.T
          have A1 := mAt.at g221 A.le A.id
          have Z1 := Z.fT f1.T
          have Y1 := Y.fT f1.T
          have k241 : J1 s 24 = 0 := (f1 s 24 (fun _ => by decide)).trans h24
          have k231 := f1 s 23 (fun _ => by decide)
          refine w_isn l_190_19 ⟨Nat.le_of_ble_eq_true rfl, rfl⟩ ?_
          refine w_iln l_190_20 rfl ?_
          refine w_zne 33 l_190_21 (by decide) (fun hx => absurd hx (by decide)) (fun _ => ?_)
          refine w_aln l_190_24 rfl ?_
          refine p_iv [] [] l_190_25 rfl rfl (Nat.le_of_ble_eq_true rfl) (by rw [mx_174]; exact Nat.le_of_ble_eq_true rfl) (by rw [mt_174]; exact oModel_sh hm) (by rw [mt_174]; decide) (by rw [rk_174]; decide) (by have g9 := s_174A (xs := xs) (cc := cc) (zz := zz) hm H1 A1; rw [show ubA t n p = 40 from hub] at g9; exact g9) (fun v J2 hv => ?_)
          obtain ⟨rfl, g222, f2⟩ := hv
          have Z2 := Z1.fT f2.T
          have Y2 := Y1.fT f2.T
          have k242 : J2 s 24 = 0 := (f2 s 24 (fun _ => by decide)).trans k241
          have k232 := f2 s 23 (fun _ => by decide)
          refine w_bp l_190_28 (by decide) ?_
          refine w_cne 37 l_190_30 (by decide) (fun hx => absurd hx (by decide)) (fun _ => ?_)
          refine w_ic l_190_33 (by decide) ?_
          refine w_go 38 l_190_34 (by decide) ?_
          refine w_isn l_190_38 ⟨Nat.le_of_ble_eq_true rfl, rfl⟩ ?_
          refine w_iln l_190_39 rfl ?_
          refine w_zeq 63 l_190_40 (by decide) (fun hx => absurd hx (by decide)) (fun _ => ?_)
          refine w_aln l_190_43 rfl ?_
          refine w_gi (((kW K) : Nat) : Int) l_190_44 (oModel_sh hm) Z2.2.1 ?_
          refine w_ic l_190_47 (by decide) ?_
          refine w_cne 63 l_190_48 (by decide) (fun _ => ?_) (fun hx => absurd hx (by omega))
          refine w_iln l_190_63 rfl ?_
          refine w_zeq 110 l_190_64 (by decide) (fun hx => absurd hx (by decide)) (fun _ => ?_)
          refine w_aln l_190_67 rfl ?_
          refine w_dup l_190_68 rfl ?_
          refine w_gi (((kW K) : Nat) : Int) l_190_69 (oModel_sh hm) Z2.2.1 ?_
          refine w_ic l_190_72 (by decide) ?_
          refine w_add (((kW K + 1) : Nat) : Int) l_190_73 (by unfold wr; omega) ?_
          refine w_pi l_190_74 (oModel_sh hm) ?_
          refine w_aln l_190_77 rfl ?_
          refine w_iln l_190_78 rfl ?_
          refine w_zeq 87 l_190_79 (by decide) (fun _ => ?_) (fun hx => absurd hx (by decide))
          refine w_bp l_190_87 (by decide) ?_
          refine q_iv [vi 9] [] l_190_89 rfl rfl (Nat.le_of_ble_eq_true rfl) (by rw [mx_187]; exact Nat.le_of_ble_eq_true rfl) (by rw [mt_187]; exact oModel_sh hm) (by rw [mt_187]; decide) (by rw [rk_187]; decide) (s_187 hm ((up_nj (by decide)).trans Z2.1) (by have := kNO K; have := kOD K; omega)) ?_
          refine w_aln l_190_92 rfl ?_
          refine w_dup l_190_93 rfl ?_
          refine w_gi ((p : Nat) : Int) l_190_94 (oModel_sh hm) ((up_nj (by omega)).trans ((up_no (by omega)).trans ((up_nj (by omega)).trans (g222)))) ?_
          refine w_iln l_190_97 rfl ?_
          refine w_zeq 105 l_190_98 (by decide) (fun _ => ?_) (fun hx => absurd hx (by decide))
          refine w_ic l_190_105 (by decide) ?_
          refine w_add (((p + 1) : Nat) : Int) l_190_106 (by unfold wr; omega) ?_
          refine w_pi l_190_107 (oModel_sh hm) ?_
          refine w_go 2 l_190_110 (by decide) ?_
          have hR : opG t n (d + 1) p K = opG t n d (nxt t n p) (9 :: K) := by
            rw [opG, if_pos hn, if_neg h5, if_neg (by rw [hw5]; decide)]
          rw [hR]
          refine ih (nxt t n p) (9 :: K) _ _ (by rw [kW_9]; omega) ?_ ?_ ?_ ?_ ?_ ?_ ?_ ?_
          · exact (H1.fT f2.T).fC ((((fC.rf _ s).up (Or.inl ⟨rfl, by decide, by decide⟩)).up (Or.inr ⟨by omega, by omega⟩)).up (Or.inl ⟨rfl, by decide, by decide⟩) |>.up (Or.inl ⟨rfl, by decide, by decide⟩))
          · exact ⟨p + 1, up_eq, by omega, by rw [← hte]; rfl⟩
          · repeat (rw [up_nj (by decide)])
            repeat (rw [up_no (by omega)])
            repeat (rw [up_nj (by decide)])
            exact k242
          · repeat (rw [up_nj (by decide)])
            repeat (rw [up_no (by omega)])
            repeat (rw [up_nj (by decide)])
            exact k232.trans (k231.trans h23)
          · refine Z2.push ?_ ?_ ?_ (fun j hj => ?_)
            · rw [up_nj (by decide)]; exact up_eq
            · rw [up_nj (by decide), up_nj (by decide), up_no (by omega), up_eq, kW_9]
            · rw [up_no (by omega), up_no (by omega)]; exact up_eq
            · rw [up_no (by omega), up_no (by omega), up_nj (by omega), up_no (by omega)]
          · exact Y2.eq (fun w h1 h2 => by repeat (rw [up_out (by omega)])) (fun j h1 h2 w => by repeat (rw [up_out (by omega)]))
          · exact ⟨by rw [kN_9, kO_9]; omega, by rw [kW_9]; omega⟩
          · exact f.tr ((f1.tr f2).T.C.tr ((((fC.rf _ s).up (Or.inl ⟨rfl, by decide, by decide⟩)).up (Or.inr ⟨by omega, by omega⟩)).up (Or.inl ⟨rfl, by decide, by decide⟩) |>.up (Or.inl ⟨rfl, by decide, by decide⟩)))
      | false =>
        have hn : isNest t n p = false := by unfold isNest; rw [hw5, hs]; rfl
        have hub : ubA t n p ≠ 40 := fun q => by
          have := isSg_iff.mpr ((ubA_c H (by decide)).mp q)
          rw [hs] at this
          cases this
        refine w_iln l_190_2 rfl ?_
        refine w_zeq 113 l_190_3 (by decide) (fun hx => absurd hx (by decide)) (fun _ => ?_)
        refine w_aln l_190_6 rfl ?_
        refine q_iv [] [] l_190_7 rfl rfl (Nat.le_of_ble_eq_true rfl) (by rw [mx_175]; exact Nat.le_of_ble_eq_true rfl) (by rw [mt_175]; exact oModel_sh hm) (by rw [mt_175]; decide) (by rw [rk_175]; decide) (s_175_0 hm h24) ?_
        refine w_zne 113 l_190_10 (by decide) (fun hx => absurd hx (by decide)) (fun _ => ?_)
        refine w_aln l_190_13 rfl ?_
        refine w_ldc l_190_14 (by decide) ?_
        refine p_iv [vs (2 * 35 + 4)] [] l_190_16 rfl rfl (Nat.le_of_ble_eq_true rfl) (by rw [mx_178]; exact Nat.le_of_ble_eq_true rfl) (by rw [mt_178]; exact oModel_sh hm) (by rw [mt_178]; decide) (by rw [rk_178]; decide) (by have g9 := s_178A (xs := xs) (cc := cc) (zz := zz) hm H A h24 (q := 35) (by decide); rw [strB_same.1, hw5] at g9; exact g9) (fun v J1 hv => ?_)
        obtain ⟨rfl, g221, f1⟩ := hv
        have H1 := H.fT f1.T
        have A1 := mAt.at g221 A.le A.id
        have Z1 := Z.fT f1.T
        have Y1 := Y.fT f1.T
        have k241 : J1 s 24 = 0 := (f1 s 24 (fun _ => by decide)).trans h24
        have k231 := f1 s 23 (fun _ => by decide)
        refine w_isn l_190_19 ⟨Nat.le_of_ble_eq_true rfl, rfl⟩ ?_
        refine w_iln l_190_20 rfl ?_
        refine w_zne 33 l_190_21 (by decide) (fun hx => absurd hx (by decide)) (fun _ => ?_)
        refine w_aln l_190_24 rfl ?_
        refine p_iv [] [] l_190_25 rfl rfl (Nat.le_of_ble_eq_true rfl) (by rw [mx_174]; exact Nat.le_of_ble_eq_true rfl) (by rw [mt_174]; exact oModel_sh hm) (by rw [mt_174]; decide) (by rw [rk_174]; decide) (s_174A (xs := xs) (cc := cc) (zz := zz) hm H1 A1) (fun v J2 hv => ?_)
        obtain ⟨rfl, g222, f2⟩ := hv
        have Z2 := Z1.fT f2.T
        have Y2 := Y1.fT f2.T
        have k242 : J2 s 24 = 0 := (f2 s 24 (fun _ => by decide)).trans k241
        have k232 := f2 s 23 (fun _ => by decide)
        refine w_bp l_190_28 (by decide) ?_
        refine w_cne 37 l_190_30 (by decide) (fun _ => ?_) (fun hx => absurd hx (by omega))
        refine w_ic l_190_37 (by decide) ?_
        refine w_isn l_190_38 ⟨Nat.le_of_ble_eq_true rfl, rfl⟩ ?_
        refine w_iln l_190_39 rfl ?_
        refine w_zeq 63 l_190_40 (by decide) (fun _ => ?_) (fun hx => absurd hx (by decide))
        refine w_iln l_190_63 rfl ?_
        refine w_zeq 110 l_190_64 (by decide) (fun _ => ?_) (fun hx => absurd hx (by decide))
        refine w_go 2 l_190_110 (by decide) ?_
        refine w_iln l_190_2 rfl ?_
        refine w_zeq 113 l_190_3 (by decide) (fun _ => ?_) (fun hx => absurd hx (by decide))
        refine w_vr l_190_113 ?_
        have hR : opG t n (d + 1) p K = .inr (p, K) := if_neg (by rw [hn]; decide)
        exact ⟨_, _, rfl, rfl, rfl, f.tr (f1.tr f2).T.C, by rw [hR]; exact ⟨⟨k242, k232.trans (k231.trans h23)⟩, mAt.at g222 A.le A.id, Z2, Y2, hphi⟩⟩

theorem s_190 (hm : oModel S T s) {P : Ps} {tot p : Nat} {C : Cd} {K : List Nat} (H : mTx I s t n) (A : mAt I s t n p) (h24 : I s 24 = 0) (Z : mPi I s K) (Y : mSU I s P C tot) (hphi : phi tot p K C) : CL xs 190 [vr s] (S, I, T, cc, zz) (RP S T cc zz (fun v I' => v = none ∧ fC I I' s ∧ mRO I s I' (opG t n (6 - kW K) p K) (fun a => mAt I' s t n a.1 ∧ mPi I' s a.2 ∧ mSU I' s P C tot ∧ phi tot a.1 a.2 C))) := by
  refine CL_start (r := 5) (ls := [vr s, vs 2, vs 2]) (rk_190 _) rfl ?_
  refine w_ic l_190_0 (by decide) ?_
  refine w_isn l_190_1 ⟨Nat.le_of_ble_eq_true rfl, rfl⟩ ?_
  exact lp_190 (I0 := I) hm (6 - kW K) p K _ I (by have := hphi.2; omega) H A h24 rfl Z Y hphi (fC.rf I s)

end RGA
