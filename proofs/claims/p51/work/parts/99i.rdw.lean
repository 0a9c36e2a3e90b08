/-! the class's reader: words, signs, numbers, names -/
theorem isWL_iff {t : Nat → Int} {n p : Nat} {w : List Nat} : isWL t n w p = true ↔ wEnd t n p = p + w.length ∧ w ≠ [] ∧ ∀ i, i < w.length → t (p + i) = ((w.getD i 0 : Nat) : Int) := by
  unfold isWL
  rw [Bool.and_eq_true, Bool.and_eq_true, decide_eq_true_iff, decide_eq_true_iff, List.all_eq_true]
  constructor
  · rintro ⟨⟨h1, h2⟩, h3⟩
    exact ⟨h1, h2, fun i hi => of_decide_eq_true (h3 i (List.mem_range.mpr hi))⟩
  · rintro ⟨h1, h2, h3⟩
    exact ⟨⟨h1, h2⟩, fun i hi => decide_eq_true (h3 i (List.mem_range.mp hi))⟩
theorem isWL_1 {t : Nat → Int} {n p : Nat} {w : List Nat} (h : isWL t n w p = true) : tkk t n p = 1 ∧ tEnd t n p = p + w.length := by
  obtain ⟨h1, h2, _⟩ := isWL_iff.mp h
  have hl : 0 < w.length := by
    cases w with
    | nil => exact absurd rfl h2
    | cons a r => simp
  have h3 : p < n ∧ 97 ≤ t p ∧ t p ≤ 122 := Classical.byContradiction fun q => by
    have := wEnd_f q
    omega
  refine ⟨tkk_1.mpr h3, ?_⟩
  unfold tEnd
  rw [if_pos h3.1, if_pos (isLo_iff.mpr h3.2), h1]
theorem strB_ne : ∀ q : Nat, q < 27 → strB q ≠ [] := by decide +kernel
theorem isSg_iff {t : Nat → Int} {n p : Nat} {c : Int} : isSg t n c p = true ↔ p < n ∧ t p = c := by
  unfold isSg
  rw [Bool.and_eq_true, decide_eq_true_iff, decide_eq_true_iff]
theorem isSg_3 {t : Nat → Int} {n p : Nat} {c : Int} (hc : ¬ (97 ≤ c ∧ c ≤ 122) ∧ ¬ (48 ≤ c ∧ c ≤ 57)) (h : isSg t n c p = true) : tkk t n p = 3 ∧ tEnd t n p = p + 1 := by
  obtain ⟨h1, h2⟩ := isSg_iff.mp h
  unfold tkk tEnd
  rw [if_pos h1, if_pos h1, if_neg (fun q => hc.1 (by rw [← h2]; exact isLo_iff.mp q)), if_neg (fun q => hc.2 (by rw [← h2]; exact isDg_iff.mp q)), if_neg (fun q => hc.1 (by rw [← h2]; exact isLo_iff.mp q)), if_neg (fun q => hc.2 (by rw [← h2]; exact isDg_iff.mp q))]
  exact ⟨rfl, rfl⟩
theorem tkk_3 {t : Nat → Int} {n p : Nat} (h : tkk t n p = 3) : p < n := by
  refine Classical.byContradiction fun q => ?_
  rw [tkk_0.mpr q] at h
  cases h
theorem numV_lt {t : Nat → Int} {p : Nat} : ∀ k, (∀ j, j < k → 48 ≤ t (p + j) ∧ t (p + j) ≤ 57) → numV t p k < 10 ^ k
  | 0, _ => Nat.zero_lt_one
  | k + 1, H => by
    have h1 := numV_lt k fun j hj => H j (by omega)
    have h2 := H k (by omega)
    show numV t p k * 10 + (t (p + k) - 48).toNat < 10 ^ (k + 1)
    rw [Nat.pow_succ]
    omega
theorem nmL_len {t : Nat → Int} {p : Nat} : ∀ k, (nmL t p k).length = k
  | 0 => rfl
  | k + 1 => by show (nmL t p k).length + 1 = _; rw [nmL_len k]
theorem nmL_ok {t : Nat → Int} {p : Nat} : ∀ k, (∀ j, j < k → 97 ≤ t (p + j) ∧ t (p + j) ≤ 122) → ∀ a, a ∈ nmL t p k → 1 ≤ a ∧ a ≤ 26
  | 0, _, a, ha => by cases ha
  | k + 1, H, a, ha => by
    have h2 := H k (by omega)
    rcases List.mem_cons.mp (show a ∈ (t (p + k) - 96).toNat :: nmL t p k from ha) with h | h
    · omega
    · exact nmL_ok k (fun j hj => H j (by omega)) a h
theorem nvR_inj : ∀ (a b : List Nat), (∀ x, x ∈ a → 1 ≤ x ∧ x ≤ 26) → (∀ x, x ∈ b → 1 ≤ x ∧ x ≤ 26) → nvR a = nvR b → a = b
  | [], [], _, _, _ => rfl
  | [], y :: b, _, hb, h => by
    have h2 := hb y (List.mem_cons_self ..)
    have h3 : 0 = y + 32 * nvR b := h
    omega
  | x :: a, [], ha, _, h => by
    have h2 := ha x (List.mem_cons_self ..)
    have h3 : x + 32 * nvR a = 0 := h
    omega
  | x :: a, y :: b, ha, hb, h => by
    have h1 := ha x (List.mem_cons_self ..)
    have h2 := hb y (List.mem_cons_self ..)
    have h3 : x + 32 * nvR a = y + 32 * nvR b := h
    rw [show x = y by omega, nvR_inj a b (fun z hz => ha z (List.mem_cons_of_mem _ hz)) (fun z hz => hb z (List.mem_cons_of_mem _ hz)) (by omega)]
/-- all but the reader's errors, token, name, port, number -/
def fS (I J : Ix) (s : Nat) : Prop := ∀ z w, (z = s → w = 0 ∨ w = 3 ∨ w = 4) → J z w = I z w
theorem fS.rf (I : Ix) (s : Nat) : fS I I s := fun _ _ _ => rfl
theorem fS.tr {I J K : Ix} {s : Nat} (f : fS I J s) (g : fS J K s) : fS I K s := fun z w h => (g z w h).trans (f z w h)
theorem fN.S {I J : Ix} {s : Nat} (f : fN I J s) : fS I J s := fun z w h => f z w (fun e => by have := h e; omega)
theorem fS.up {I J : Ix} {s j : Nat} {v : Int} (f : fS I J s) (hj : j ≠ 0 ∧ j ≠ 3 ∧ j ≠ 4) : fS I (up J s j v) s := fun z w h => (up_out (by omega)).trans (f z w h)
theorem rTx.fS {I J : Ix} {s x : Nat} {t : Nat → Int} {n : Nat} (H : rTx I s x t n) (hx : x ≠ s) (f : fS I J s) : rTx J s x t n := ⟨(f s 4 (fun _ => by decide)).trans H.1, H.2.1, fun j hj => (f x j (fun e => absurd e hx)).trans (H.2.2 j hj)⟩
/-- what a reading method leaves: an error, or what ok says -/
def RO {α : Type} (I0 : Ix) (s : Nat) (v : Option AV) (I : Ix) (r : PR α) (ok : α → Prop) : Prop := match r with
  | .inl e => v = some (vi 0) ∧ I s 1 = ((e.2 : Nat) : Int) ∧ I s 2 = ((e.1 : Nat) : Int)
  | .inr a => v = some (vi 1) ∧ (I s 1 = I0 s 1 ∧ I s 2 = I0 s 2) ∧ ok a
/-- all but the reader's errors, token, number -/
def fM (I J : Ix) (s : Nat) : Prop := ∀ z w, (z = s → w ≠ 1 ∧ w ≠ 2 ∧ w ≠ 5 ∧ w ≠ 6 ∧ w ≠ 7 ∧ w ≠ 10) → J z w = I z w
theorem fM.S {I J : Ix} {s : Nat} (f : fM I J s) : fS I J s := fun z w h => f z w (fun e => by have := h e; omega)
section RDW
variable {xs : List Int} {S : List (Nat × Nat)} {T : Nat → Nat → Nat} {cc zz s x y : Nat} {I I' : Ix} {t : Nat → Int} {n : Nat}

theorem mx_33 : mxl 33 = 2 := by decide +kernel
theorem mt_33 : mtc 33 = 4 := by decide +kernel
theorem rk_33 (as : List AV) : rkA 33 as = 0 := rfl
theorem l_33_0 : look 33 0 = some (.aload_n 0, 1, 0, 0, 0, 0) := by decide +kernel
theorem l_33_1 : look 33 1 = some (.aload_n 0, 1, 0, 0, 0, 0) := by decide +kernel
theorem l_33_2 : look 33 2 = some (.getfield 79, 3, 4, 6, 0, 470) := by decide +kernel
theorem l_33_5 : look 33 5 = some (.putfield 18, 3, 4, 1, 0, 463) := by decide +kernel
theorem l_33_8 : look 33 8 = some (.aload_n 0, 1, 0, 0, 0, 0) := by decide +kernel
theorem l_33_9 : look 33 9 = some (.iload_n 1, 1, 0, 0, 0, 0) := by decide +kernel
theorem l_33_10 : look 33 10 = some (.putfield 22, 3, 4, 2, 0, 465) := by decide +kernel
theorem l_33_13 : look 33 13 = some (.iconst 0, 1, 0, 0, 0, 0) := by decide +kernel
theorem l_33_14 : look 33 14 = some (.ireturn, 1, 0, 0, 1, 0) := by decide +kernel
theorem s_33 (o : oReader S T s x y) {p k : Nat} (h6 : I s 6 = ((p : Nat) : Int)) : CL xs 33 [vr s, vi ((k : Nat) : Int)] (S, I, T, cc, zz) (FN (some (vi 0)) (S, up (up I s 1 ((p : Nat) : Int)) s 2 ((k : Nat) : Int), T, cc, zz)) := by
  refine CL_start (r := 0) (ls := [vr s, vi ((k : Nat) : Int)]) (rk_33 _) rfl ?_
  refine w_aln l_33_0 rfl ?_
  refine w_aln l_33_1 rfl ?_
  refine w_gi ((p : Nat) : Int) l_33_2 (oReader_sh o) h6 ?_
  refine w_pi l_33_5 (oReader_sh o) ?_
  refine w_aln l_33_8 rfl ?_
  refine w_iln l_33_9 rfl ?_
  refine w_pi l_33_10 (oReader_sh o) ?_
  refine w_ic l_33_13 (by decide) ?_
  refine w_ir l_33_14 (by decide) ?_
  exact ⟨rfl, rfl⟩

theorem mx_34 : mxl 34 = 3 := by decide +kernel
theorem mt_34 : mtc 34 = 4 := by decide +kernel
theorem rk_34 (as : List AV) : rkA 34 as = 4 := rfl
theorem l_34_0 : look 34 0 = some (.aload_n 0, 1, 0, 0, 0, 0) := by decide +kernel
theorem l_34_1 : look 34 1 = some (.getfield 47, 3, 4, 7, 0, 471) := by decide +kernel
theorem l_34_4 : look 34 4 = some (.iconst 1, 1, 0, 0, 0, 0) := by decide +kernel
theorem l_34_5 : look 34 5 = some (.if_icmp .ne 19, 3, 0, 0, 0, 0) := by decide +kernel
theorem l_34_8 : look 34 8 = some (.aload_n 0, 1, 0, 0, 0, 0) := by decide +kernel
theorem l_34_9 : look 34 9 = some (.getfield 38, 3, 4, 5, 0, 469) := by decide +kernel
theorem l_34_12 : look 34 12 = some (.aload_n 0, 1, 0, 0, 0, 0) := by decide +kernel
theorem l_34_13 : look 34 13 = some (.getfield 79, 3, 4, 6, 0, 470) := by decide +kernel
theorem l_34_16 : look 34 16 = some (.isub, 1, 0, 0, 0, 0) := by decide +kernel
theorem l_34_17 : look 34 17 = some (.aload_n 1, 1, 0, 0, 0, 0) := by decide +kernel
theorem l_34_18 : look 34 18 = some (.invokevirtual 82, 3, 299, 1, 0, 1060) := by decide +kernel
theorem l_34_21 : look 34 21 = some (.if_icmp .eq 5, 3, 0, 0, 0, 0) := by decide +kernel
theorem l_34_24 : look 34 24 = some (.iconst 0, 1, 0, 0, 0, 0) := by decide +kernel
theorem l_34_25 : look 34 25 = some (.ireturn, 1, 0, 0, 1, 0) := by decide +kernel
theorem l_34_26 : look 34 26 = some (.iconst 0, 1, 0, 0, 0, 0) := by decide +kernel
theorem l_34_27 : look 34 27 = some (.istore_n 2, 1, 0, 0, 0, 0) := by decide +kernel
theorem l_34_28 : look 34 28 = some (.iload_n 2, 1, 0, 0, 0, 0) := by decide +kernel
theorem l_34_29 : look 34 29 = some (.aload_n 1, 1, 0, 0, 0, 0) := by decide +kernel
theorem l_34_30 : look 34 30 = some (.invokevirtual 82, 3, 299, 1, 0, 1060) := by decide +kernel
theorem l_34_33 : look 34 33 = some (.if_icmp .ge 30, 3, 0, 0, 0, 0) := by decide +kernel
theorem l_34_36 : look 34 36 = some (.aload_n 0, 1, 0, 0, 0, 0) := by decide +kernel
theorem l_34_37 : look 34 37 = some (.getfield 25, 3, 4, 3, 2, 467) := by decide +kernel
theorem l_34_40 : look 34 40 = some (.aload_n 0, 1, 0, 0, 0, 0) := by decide +kernel
theorem l_34_41 : look 34 41 = some (.getfield 79, 3, 4, 6, 0, 470) := by decide +kernel
theorem l_34_44 : look 34 44 = some (.iload_n 2, 1, 0, 0, 0, 0) := by decide +kernel
theorem l_34_45 : look 34 45 = some (.iadd, 1, 0, 0, 0, 0) := by decide +kernel
theorem l_34_46 : look 34 46 = some (.baload, 1, 0, 0, 0, 0) := by decide +kernel
theorem l_34_47 : look 34 47 = some (.aload_n 1, 1, 0, 0, 0, 0) := by decide +kernel
theorem l_34_48 : look 34 48 = some (.iload_n 2, 1, 0, 0, 0, 0) := by decide +kernel
theorem l_34_49 : look 34 49 = some (.invokevirtual 87, 3, 300, 2, 0, 1061) := by decide +kernel
theorem l_34_52 : look 34 52 = some (.if_icmp .eq 5, 3, 0, 0, 0, 0) := by decide +kernel
theorem l_34_55 : look 34 55 = some (.iconst 0, 1, 0, 0, 0, 0) := by decide +kernel
theorem l_34_56 : look 34 56 = some (.ireturn, 1, 0, 0, 1, 0) := by decide +kernel
theorem l_34_57 : look 34 57 = some (.iinc 2 1, 3, 0, 0, 0, 0) := by decide +kernel
theorem l_34_60 : look 34 60 = some (.goto (-32), 3, 0, 0, 0, 0) := by decide +kernel
theorem l_34_63 : look 34 63 = some (.iconst 1, 1, 0, 0, 0, 0) := by decide +kernel
theorem l_34_64 : look 34 64 = some (.ireturn, 1, 0, 0, 1, 0) := by decide +kernel
theorem lp_34 (o : oReader S T s x y) {p : Nat} (H : RT I s x t n p) {q : Nat} (hq27 : q < 27) (hw : wEnd t n p = p + (strB q).length) (hl : tEnd t n p = p + (stb.getD q []).length) : ∀ d i, i + d = (stb.getD q []).length → (∀ k, k < i → t (p + k) = (((strB q).getD k 0 : Nat) : Int)) → WP xs 34 4 28 [vr s, vs (2 * q + 4), vi ((i : Nat) : Int)] [] (S, I, T, cc, zz) (FN (some (vi (b2i (isWL t n (strB q) p)))) (S, I, T, cc, zz)) := by
  have hq53 : q < 53 := by omega
  intro d
  have hpn := H.2.2.2.2
  have h600 := H.1.2.1
  have hte := tEnd_le (t := t) (n := n) (p := p) hpn
  have htg := tEnd_ge (t := t) (n := n) (p := p)
  induction d with
  | zero =>
    intro i hi hall
    refine w_iln l_34_28 rfl ?_
    refine w_asn l_34_29 rfl ?_
    refine q_ivs [] [vi ((i : Nat) : Int)] l_34_30 rfl rfl (Nat.le_of_ble_eq_true rfl) (by rw [mx_299]; exact Nat.le_of_ble_eq_true rfl) (by first | decide | exact hq53) mt_299 (by rw [rk_299]; decide) (s_299 hq53) ?_
    refine w_cge 63 l_34_33 (by decide) (fun _ => ?_) (fun hx => absurd hx (by omega))
    refine w_ic l_34_63 (by decide) ?_
    refine w_ir l_34_64 (by decide) ?_
    rw [show isWL t n (strB q) p = true from isWL_iff.mpr ⟨hw, strB_ne q hq27, fun k hk => hall k (by rw [strB_len] at hk; omega)⟩]
    exact ⟨rfl, rfl⟩
  | succ d ih =>
    intro i hi hall
    refine w_iln l_34_28 rfl ?_
    refine w_asn l_34_29 rfl ?_
    refine q_ivs [] [vi ((i : Nat) : Int)] l_34_30 rfl rfl (Nat.le_of_ble_eq_true rfl) (by rw [mx_299]; exact Nat.le_of_ble_eq_true rfl) (by first | decide | exact hq53) mt_299 (by rw [rk_299]; decide) (s_299 hq53) ?_
    refine w_cge 63 l_34_33 (by decide) (fun hx => absurd hx (by omega)) (fun _ => ?_)
    refine w_aln l_34_36 rfl ?_
    refine w_gr l_34_37 (oReader_sh o) (oReader_r3 o) ?_
    refine w_aln l_34_40 rfl ?_
    refine w_gi ((p : Nat) : Int) l_34_41 (oReader_sh o) H.2.2.1 ?_
    refine w_iln l_34_44 rfl ?_
    refine w_add ((p + i : Nat) : Int) l_34_45 (by unfold wr; omega) ?_
    refine w_ba (p + i) (t (p + i)) l_34_46 (Or.inl (oReader_s3 o)) rfl (by omega) (H.1.2.2 (p + i) (by omega)) ?_
    refine w_asn l_34_47 rfl ?_
    refine w_iln l_34_48 rfl ?_
    refine q_ivs [vi ((i : Nat) : Int)] [vi (t (p + i))] l_34_49 rfl rfl (Nat.le_of_ble_eq_true rfl) (by rw [mx_300]; exact Nat.le_of_ble_eq_true rfl) (by first | decide | exact hq53) mt_300 (by rw [rk_300]; decide) (s_300 hq53 (by omega) (strB_at hq53 (by omega)).1 (strB_at hq53 (by omega)).2) ?_
    refine w_ceq 57 l_34_52 (by decide) (fun h1 => ?_) (fun h1 => ?_)
    · skip
      refine w_inc ((i + 1 : Nat) : Int) l_34_57 rfl rfl (by unfold wr; omega) ?_
      refine w_go 28 l_34_60 (by decide) ?_
      refine ih (i + 1) (by omega) (fun k hk => ?_)
      by_cases hki : k = i
      · rw [hki]; exact h1
      · exact hall k (by omega)
    · skip
      refine w_ic l_34_55 (by decide) ?_
      refine w_ir l_34_56 (by decide) ?_
      rw [show isWL t n (strB q) p = false from Bool.eq_false_iff.mpr fun hh => h1 ((isWL_iff.mp hh).2.2 i (by rw [strB_len]; omega))]
      exact ⟨rfl, rfl⟩
theorem s_34 (o : oReader S T s x y) {p : Nat} (H : RT I s x t n p) {q : Nat} (hq27 : q < 27) : CL xs 34 [vr s, vs (2 * q + 4)] (S, I, T, cc, zz) (FN (some (vi (b2i (isWL t n (strB q) p)))) (S, I, T, cc, zz)) := by
  have hq53 : q < 53 := by omega
  refine CL_start (r := 4) (ls := [vr s, vs (2 * q + 4), vs 2]) (rk_34 _) rfl ?_
  have hpn := H.2.2.2.2
  have h600 := H.1.2.1
  have hte := tEnd_le (t := t) (n := n) (p := p) hpn
  have htg := tEnd_ge (t := t) (n := n) (p := p)
  refine w_aln l_34_0 rfl ?_
  refine w_gi (((tkk t n p) : Nat) : Int) l_34_1 (oReader_sh o) H.2.2.2.1 ?_
  refine w_ic l_34_4 (by decide) ?_
  refine w_cne 24 l_34_5 (by decide) (fun h1 => ?_) (fun h1 => ?_)
  · skip
    refine w_ic l_34_24 (by decide) ?_
    refine w_ir l_34_25 (by decide) ?_
    rw [show isWL t n (strB q) p = false from Bool.eq_false_iff.mpr fun hh => by
      have g1 := isWL_1 hh
      rw [strB_len] at g1
      omega]
    exact ⟨rfl, rfl⟩
  · skip
    refine w_aln l_34_8 rfl ?_
    refine w_gi (((tEnd t n p) : Nat) : Int) l_34_9 (oReader_sh o) H.2.1 ?_
    refine w_aln l_34_12 rfl ?_
    refine w_gi ((p : Nat) : Int) l_34_13 (oReader_sh o) H.2.2.1 ?_
    refine w_sub (((tEnd t n p - p) : Nat) : Int) l_34_16 (by unfold wr; omega) ?_
    refine w_asn l_34_17 rfl ?_
    refine q_ivs [] [vi (((tEnd t n p - p) : Nat) : Int)] l_34_18 rfl rfl (Nat.le_of_ble_eq_true rfl) (by rw [mx_299]; exact Nat.le_of_ble_eq_true rfl) (by first | decide | exact hq53) mt_299 (by rw [rk_299]; decide) (s_299 hq53) ?_
    refine w_ceq 26 l_34_21 (by decide) (fun h2 => ?_) (fun h2 => ?_)
    · skip
      refine w_ic l_34_26 (by decide) ?_
      refine w_isn l_34_27 ⟨Nat.le_of_ble_eq_true rfl, rfl⟩ ?_
      have hk1 := tkk_1.mp (show tkk t n p = 1 by omega)
      have hw9 : tEnd t n p = wEnd t n p := by
        unfold tEnd
        rw [if_pos hk1.1, if_pos (isLo_iff.mpr hk1.2)]
      exact lp_34 o H hq27 (by rw [strB_len]; omega) (by omega) _ 0 (Nat.zero_add _) (fun k hk => absurd hk (Nat.not_lt_zero k))
    · skip
      refine w_ic l_34_24 (by decide) ?_
      refine w_ir l_34_25 (by decide) ?_
      rw [show isWL t n (strB q) p = false from Bool.eq_false_iff.mpr fun hh => by
        have g1 := isWL_1 hh
        rw [strB_len] at g1
        omega]
      exact ⟨rfl, rfl⟩

theorem mx_35 : mxl 35 = 2 := by decide +kernel
theorem mt_35 : mtc 35 = 4 := by decide +kernel
theorem rk_35 (as : List AV) : rkA 35 as = 0 := rfl
theorem l_35_0 : look 35 0 = some (.aload_n 0, 1, 0, 0, 0, 0) := by decide +kernel
theorem l_35_1 : look 35 1 = some (.getfield 47, 3, 4, 7, 0, 471) := by decide +kernel
theorem l_35_4 : look 35 4 = some (.iconst 3, 1, 0, 0, 0, 0) := by decide +kernel
theorem l_35_5 : look 35 5 = some (.if_icmp .ne 20, 3, 0, 0, 0, 0) := by decide +kernel
theorem l_35_8 : look 35 8 = some (.aload_n 0, 1, 0, 0, 0, 0) := by decide +kernel
theorem l_35_9 : look 35 9 = some (.getfield 25, 3, 4, 3, 2, 467) := by decide +kernel
theorem l_35_12 : look 35 12 = some (.aload_n 0, 1, 0, 0, 0, 0) := by decide +kernel
theorem l_35_13 : look 35 13 = some (.getfield 79, 3, 4, 6, 0, 470) := by decide +kernel
theorem l_35_16 : look 35 16 = some (.baload, 1, 0, 0, 0, 0) := by decide +kernel
theorem l_35_17 : look 35 17 = some (.iload_n 1, 1, 0, 0, 0, 0) := by decide +kernel
theorem l_35_18 : look 35 18 = some (.if_icmp .ne 7, 3, 0, 0, 0, 0) := by decide +kernel
theorem l_35_21 : look 35 21 = some (.iconst 1, 1, 0, 0, 0, 0) := by decide +kernel
theorem l_35_22 : look 35 22 = some (.goto 4, 3, 0, 0, 0, 0) := by decide +kernel
theorem l_35_25 : look 35 25 = some (.iconst 0, 1, 0, 0, 0, 0) := by decide +kernel
theorem l_35_26 : look 35 26 = some (.ireturn, 1, 0, 0, 1, 0) := by decide +kernel
theorem s_35 (o : oReader S T s x y) {p : Nat} (H : RT I s x t n p) {c : Nat} (hc : ¬ (97 ≤ ((c : Nat) : Int) ∧ ((c : Nat) : Int) ≤ 122) ∧ ¬ (48 ≤ ((c : Nat) : Int) ∧ ((c : Nat) : Int) ≤ 57)) : CL xs 35 [vr s, vi ((c : Nat) : Int)] (S, I, T, cc, zz) (FN (some (vi (b2i (isSg t n ((c : Nat) : Int) p)))) (S, I, T, cc, zz)) := by
  refine CL_start (r := 0) (ls := [vr s, vi ((c : Nat) : Int)]) (rk_35 _) rfl ?_
  have hpn := H.2.2.2.2
  have h600 := H.1.2.1
  have hte := tEnd_le (t := t) (n := n) (p := p) hpn
  have htg := tEnd_ge (t := t) (n := n) (p := p)
  refine w_aln l_35_0 rfl ?_
  refine w_gi (((tkk t n p) : Nat) : Int) l_35_1 (oReader_sh o) H.2.2.2.1 ?_
  refine w_ic l_35_4 (by decide) ?_
  refine w_cne 25 l_35_5 (by decide) (fun h1 => ?_) (fun h1 => ?_)
  · skip
    refine w_ic l_35_25 (by decide) ?_
    refine w_ir l_35_26 (by decide) ?_
    rw [show isSg t n ((c : Nat) : Int) p = false from Bool.eq_false_iff.mpr fun hh => by
      have g1 := isSg_3 hc hh
      have g2 := isSg_iff.mp hh
      omega]
    exact ⟨rfl, rfl⟩
  · skip
    have hp9 := tkk_3 (t := t) (n := n) (p := p) (by omega)
    refine w_aln l_35_8 rfl ?_
    refine w_gr l_35_9 (oReader_sh o) (oReader_r3 o) ?_
    refine w_aln l_35_12 rfl ?_
    refine w_gi ((p : Nat) : Int) l_35_13 (oReader_sh o) H.2.2.1 ?_
    refine w_ba p (t p) l_35_16 (Or.inl (oReader_s3 o)) rfl (by omega) (H.1.2.2 p (by have := tkk_3 (t := t) (n := n) (p := p) (by omega); omega)) ?_
    refine w_iln l_35_17 rfl ?_
    refine w_cne 25 l_35_18 (by decide) (fun h2 => ?_) (fun h2 => ?_)
    · skip
      refine w_ic l_35_25 (by decide) ?_
      refine w_ir l_35_26 (by decide) ?_
      rw [show isSg t n ((c : Nat) : Int) p = false from Bool.eq_false_iff.mpr fun hh => by
        have g1 := isSg_3 hc hh
        have g2 := isSg_iff.mp hh
        omega]
      exact ⟨rfl, rfl⟩
    · skip
      refine w_ic l_35_21 (by decide) ?_
      refine w_go 26 l_35_22 (by decide) ?_
      refine w_ir l_35_26 (by decide) ?_
      rw [show isSg t n ((c : Nat) : Int) p = true from isSg_iff.mpr ⟨tkk_3 (t := t) (by omega), by omega⟩]
      exact ⟨rfl, rfl⟩

theorem mx_36 : mxl 36 = 2 := by decide +kernel
theorem mt_36 : mtc 36 = 4 := by decide +kernel
theorem rk_36 (as : List AV) : rkA 36 as = 1 := rfl
theorem l_36_0 : look 36 0 = some (.aload_n 0, 1, 0, 0, 0, 0) := by decide +kernel
theorem l_36_1 : look 36 1 = some (.iload_n 1, 1, 0, 0, 0, 0) := by decide +kernel
theorem l_36_2 : look 36 2 = some (.invokevirtual 91, 3, 35, 2, 0, 1111) := by decide +kernel
theorem l_36_5 : look 36 5 = some (.ifCond .ne 9, 3, 0, 0, 0, 0) := by decide +kernel
theorem l_36_8 : look 36 8 = some (.aload_n 0, 1, 0, 0, 0, 0) := by decide +kernel
theorem l_36_9 : look 36 9 = some (.iconst 1, 1, 0, 0, 0, 0) := by decide +kernel
theorem l_36_10 : look 36 10 = some (.invokevirtual 94, 3, 33, 2, 0, 1066) := by decide +kernel
theorem l_36_13 : look 36 13 = some (.ireturn, 1, 0, 0, 1, 0) := by decide +kernel
theorem l_36_14 : look 36 14 = some (.aload_n 0, 1, 0, 0, 0, 0) := by decide +kernel
theorem l_36_15 : look 36 15 = some (.invokevirtual 44, 3, 32, 1, 0, 1051) := by decide +kernel
theorem l_36_18 : look 36 18 = some (.iconst 1, 1, 0, 0, 0, 0) := by decide +kernel
theorem l_36_19 : look 36 19 = some (.ireturn, 1, 0, 0, 1, 0) := by decide +kernel
theorem s_36 (o : oReader S T s x y) {p : Nat} (H : RT I s x t n p) {c : Nat} (hc : ¬ (97 ≤ ((c : Nat) : Int) ∧ ((c : Nat) : Int) ≤ 122) ∧ ¬ (48 ≤ ((c : Nat) : Int) ∧ ((c : Nat) : Int) ≤ 57)) (hs : (isSg t n ((c : Nat) : Int) p) = true) : CL xs 36 [vr s, vi ((c : Nat) : Int)] (S, I, T, cc, zz) (RP S T cc zz (fun v I' => v = some (vi 1) ∧ rTk I' s t n (nxt t n p) ∧ fN I I' s)) := by
  refine CL_start (r := 1) (ls := [vr s, vi ((c : Nat) : Int)]) (rk_36 _) rfl ?_
  have hpn := H.2.2.2.2
  have h600 := H.1.2.1
  have hte := tEnd_le (t := t) (n := n) (p := p) hpn
  have htg := tEnd_ge (t := t) (n := n) (p := p)
  refine w_aln l_36_0 rfl ?_
  refine w_iln l_36_1 rfl ?_
  refine q_iv [vi ((c : Nat) : Int)] [] l_36_2 rfl rfl (Nat.le_of_ble_eq_true rfl) (by rw [mx_35]; exact Nat.le_of_ble_eq_true rfl) (by rw [mt_35]; exact oReader_sh o) (by rw [mt_35]; decide) (by rw [rk_35]; decide) (s_35 o H hc) ?_
  refine w_bne 14 l_36_5 (by decide) (fun _ => ?_) (fun hx => absurd hx (by rw [hs]; decide))
  refine w_aln l_36_14 rfl ?_
  refine p_iv [] [] l_36_15 rfl rfl (Nat.le_of_ble_eq_true rfl) (by rw [mx_32]; exact Nat.le_of_ble_eq_true rfl) (by rw [mt_32]; exact oReader_sh o) (by rw [mt_32]; decide) (by rw [rk_32]; decide) (s_32 o H.1 hte H.2.1) (fun v I1 hv => ?_)
  obtain ⟨rfl, hk, f1⟩ := hv
  refine w_ic l_36_18 (by decide) ?_
  refine w_ir l_36_19 (by decide) ?_
  exact ⟨_, _, rfl, rfl, rfl, hk, f1⟩
theorem s_36n (o : oReader S T s x y) {p : Nat} (H : RT I s x t n p) {c : Nat} (hc : ¬ (97 ≤ ((c : Nat) : Int) ∧ ((c : Nat) : Int) ≤ 122) ∧ ¬ (48 ≤ ((c : Nat) : Int) ∧ ((c : Nat) : Int) ≤ 57)) (hs : (isSg t n ((c : Nat) : Int) p) = false) : CL xs 36 [vr s, vi ((c : Nat) : Int)] (S, I, T, cc, zz) (RP S T cc zz (fun v I' => v = some (vi 0) ∧ I' s 1 = ((p : Nat) : Int) ∧ I' s 2 = 1 ∧ fS I I' s)) := by
  refine CL_start (r := 1) (ls := [vr s, vi ((c : Nat) : Int)]) (rk_36 _) rfl ?_
  have hpn := H.2.2.2.2
  have h600 := H.1.2.1
  have hte := tEnd_le (t := t) (n := n) (p := p) hpn
  have htg := tEnd_ge (t := t) (n := n) (p := p)
  refine w_aln l_36_0 rfl ?_
  refine w_iln l_36_1 rfl ?_
  refine q_iv [vi ((c : Nat) : Int)] [] l_36_2 rfl rfl (Nat.le_of_ble_eq_true rfl) (by rw [mx_35]; exact Nat.le_of_ble_eq_true rfl) (by rw [mt_35]; exact oReader_sh o) (by rw [mt_35]; decide) (by rw [rk_35]; decide) (s_35 o H hc) ?_
  refine w_bne 14 l_36_5 (by decide) (fun hx => absurd hx (by rw [hs]; decide)) (fun _ => ?_)
  refine w_aln l_36_8 rfl ?_
  refine w_ic l_36_9 (by decide) ?_
  refine q_iv [vi 1] [] l_36_10 rfl rfl (Nat.le_of_ble_eq_true rfl) (by rw [mx_33]; exact Nat.le_of_ble_eq_true rfl) (by rw [mt_33]; exact oReader_sh o) (by rw [mt_33]; decide) (by rw [rk_33]; decide) (s_33 (k := 1) o H.2.2.1) ?_
  refine w_ir l_36_13 (by decide) ?_
  exact ⟨_, _, rfl, rfl, rfl, (up_nj (by decide)).trans up_eq, up_eq, ((fS.rf I s).up (by decide)).up (by decide)⟩

theorem mx_37 : mxl 37 = 4 := by decide +kernel
theorem mt_37 : mtc 37 = 4 := by decide +kernel
theorem rk_37 (as : List AV) : rkA 37 as = 1 := rfl
theorem l_37_0 : look 37 0 = some (.aload_n 0, 1, 0, 0, 0, 0) := by decide +kernel
theorem l_37_1 : look 37 1 = some (.getfield 47, 3, 4, 7, 0, 471) := by decide +kernel
theorem l_37_4 : look 37 4 = some (.iconst 2, 1, 0, 0, 0, 0) := by decide +kernel
theorem l_37_5 : look 37 5 = some (.if_icmp .eq 9, 3, 0, 0, 0, 0) := by decide +kernel
theorem l_37_8 : look 37 8 = some (.aload_n 0, 1, 0, 0, 0, 0) := by decide +kernel
theorem l_37_9 : look 37 9 = some (.iconst 1, 1, 0, 0, 0, 0) := by decide +kernel
theorem l_37_10 : look 37 10 = some (.invokevirtual 94, 3, 33, 2, 0, 1066) := by decide +kernel
theorem l_37_13 : look 37 13 = some (.ireturn, 1, 0, 0, 1, 0) := by decide +kernel
theorem l_37_14 : look 37 14 = some (.aload_n 0, 1, 0, 0, 0, 0) := by decide +kernel
theorem l_37_15 : look 37 15 = some (.getfield 38, 3, 4, 5, 0, 469) := by decide +kernel
theorem l_37_18 : look 37 18 = some (.aload_n 0, 1, 0, 0, 0, 0) := by decide +kernel
theorem l_37_19 : look 37 19 = some (.getfield 79, 3, 4, 6, 0, 470) := by decide +kernel
theorem l_37_22 : look 37 22 = some (.isub, 1, 0, 0, 0, 0) := by decide +kernel
theorem l_37_23 : look 37 23 = some (.iconst 3, 1, 0, 0, 0, 0) := by decide +kernel
theorem l_37_24 : look 37 24 = some (.if_icmp .le 9, 3, 0, 0, 0, 0) := by decide +kernel
theorem l_37_27 : look 37 27 = some (.aload_n 0, 1, 0, 0, 0, 0) := by decide +kernel
theorem l_37_28 : look 37 28 = some (.iconst 2, 1, 0, 0, 0, 0) := by decide +kernel
theorem l_37_29 : look 37 29 = some (.invokevirtual 94, 3, 33, 2, 0, 1066) := by decide +kernel
theorem l_37_32 : look 37 32 = some (.ireturn, 1, 0, 0, 1, 0) := by decide +kernel
theorem l_37_33 : look 37 33 = some (.aload_n 0, 1, 0, 0, 0, 0) := by decide +kernel
theorem l_37_34 : look 37 34 = some (.iconst 0, 1, 0, 0, 0, 0) := by decide +kernel
theorem l_37_35 : look 37 35 = some (.putfield 98, 3, 4, 10, 0, 474) := by decide +kernel
theorem l_37_38 : look 37 38 = some (.aload_n 0, 1, 0, 0, 0, 0) := by decide +kernel
theorem l_37_39 : look 37 39 = some (.getfield 79, 3, 4, 6, 0, 470) := by decide +kernel
theorem l_37_42 : look 37 42 = some (.istore_n 3, 1, 0, 0, 0, 0) := by decide +kernel
theorem l_37_43 : look 37 43 = some (.iload_n 3, 1, 0, 0, 0, 0) := by decide +kernel
theorem l_37_44 : look 37 44 = some (.aload_n 0, 1, 0, 0, 0, 0) := by decide +kernel
theorem l_37_45 : look 37 45 = some (.getfield 38, 3, 4, 5, 0, 469) := by decide +kernel
theorem l_37_48 : look 37 48 = some (.if_icmp .ge 30, 3, 0, 0, 0, 0) := by decide +kernel
theorem l_37_51 : look 37 51 = some (.aload_n 0, 1, 0, 0, 0, 0) := by decide +kernel
theorem l_37_52 : look 37 52 = some (.aload_n 0, 1, 0, 0, 0, 0) := by decide +kernel
theorem l_37_53 : look 37 53 = some (.getfield 98, 3, 4, 10, 0, 474) := by decide +kernel
theorem l_37_56 : look 37 56 = some (.bipush 10, 2, 0, 0, 0, 0) := by decide +kernel
theorem l_37_58 : look 37 58 = some (.imul, 1, 0, 0, 0, 0) := by decide +kernel
theorem l_37_59 : look 37 59 = some (.aload_n 0, 1, 0, 0, 0, 0) := by decide +kernel
theorem l_37_60 : look 37 60 = some (.getfield 25, 3, 4, 3, 2, 467) := by decide +kernel
theorem l_37_63 : look 37 63 = some (.iload_n 3, 1, 0, 0, 0, 0) := by decide +kernel
theorem l_37_64 : look 37 64 = some (.baload, 1, 0, 0, 0, 0) := by decide +kernel
theorem l_37_65 : look 37 65 = some (.iadd, 1, 0, 0, 0, 0) := by decide +kernel
theorem l_37_66 : look 37 66 = some (.bipush 48, 2, 0, 0, 0, 0) := by decide +kernel
theorem l_37_68 : look 37 68 = some (.isub, 1, 0, 0, 0, 0) := by decide +kernel
theorem l_37_69 : look 37 69 = some (.putfield 98, 3, 4, 10, 0, 474) := by decide +kernel
theorem l_37_72 : look 37 72 = some (.iinc 3 1, 3, 0, 0, 0, 0) := by decide +kernel
theorem l_37_75 : look 37 75 = some (.goto (-32), 3, 0, 0, 0, 0) := by decide +kernel
theorem l_37_78 : look 37 78 = some (.aload_n 0, 1, 0, 0, 0, 0) := by decide +kernel
theorem l_37_79 : look 37 79 = some (.getfield 98, 3, 4, 10, 0, 474) := by decide +kernel
theorem l_37_82 : look 37 82 = some (.iload_n 1, 1, 0, 0, 0, 0) := by decide +kernel
theorem l_37_83 : look 37 83 = some (.if_icmp .lt 11, 3, 0, 0, 0, 0) := by decide +kernel
theorem l_37_86 : look 37 86 = some (.aload_n 0, 1, 0, 0, 0, 0) := by decide +kernel
theorem l_37_87 : look 37 87 = some (.getfield 98, 3, 4, 10, 0, 474) := by decide +kernel
theorem l_37_90 : look 37 90 = some (.iload_n 2, 1, 0, 0, 0, 0) := by decide +kernel
theorem l_37_91 : look 37 91 = some (.if_icmp .le 9, 3, 0, 0, 0, 0) := by decide +kernel
theorem l_37_94 : look 37 94 = some (.aload_n 0, 1, 0, 0, 0, 0) := by decide +kernel
theorem l_37_95 : look 37 95 = some (.iconst 2, 1, 0, 0, 0, 0) := by decide +kernel
theorem l_37_96 : look 37 96 = some (.invokevirtual 94, 3, 33, 2, 0, 1066) := by decide +kernel
theorem l_37_99 : look 37 99 = some (.ireturn, 1, 0, 0, 1, 0) := by decide +kernel
theorem l_37_100 : look 37 100 = some (.aload_n 0, 1, 0, 0, 0, 0) := by decide +kernel
theorem l_37_101 : look 37 101 = some (.invokevirtual 44, 3, 32, 1, 0, 1051) := by decide +kernel
theorem l_37_104 : look 37 104 = some (.iconst 1, 1, 0, 0, 0, 0) := by decide +kernel
theorem l_37_105 : look 37 105 = some (.ireturn, 1, 0, 0, 1, 0) := by decide +kernel
theorem lp_37 (o : oReader S T s x y) {p : Nat} (H : RT I s x t n p) {lo hi e : Nat} {Q : Res → Mem → Prop} (he3 : e ≤ 3) (hte : tEnd t n p = p + e) (hdg : ∀ j, j < e → 48 ≤ t (p + j) ∧ t (p + j) ≤ 57) (kk : ∀ J l3, J s 10 = ((numV t p e : Nat) : Int) → (∀ z w, (z = s → w ≠ 10) → J z w = I z w) → WP xs 37 1 78 [vr s, vi ((lo : Nat) : Int), vi ((hi : Nat) : Int), vi l3] [] (S, J, T, cc, zz) Q) : ∀ d j J, j + d = e → J s 10 = ((numV t p j : Nat) : Int) → (∀ z w, (z = s → w ≠ 10) → J z w = I z w) → WP xs 37 1 43 [vr s, vi ((lo : Nat) : Int), vi ((hi : Nat) : Int), vi (((p + j) : Nat) : Int)] [] (S, J, T, cc, zz) Q := by
  intro d
  have hpn := H.2.2.2.2
  have h600 := H.1.2.1
  have hten := tEnd_le (t := t) (n := n) (p := p) hpn
  induction d with
  | zero =>
    intro j J hj h10 f
    refine w_iln l_37_43 rfl ?_
    refine w_aln l_37_44 rfl ?_
    refine w_gi (((tEnd t n p) : Nat) : Int) l_37_45 (oReader_sh o) ((f s 5 (fun _ => by decide)).trans H.2.1) ?_
    refine w_cge 78 l_37_48 (by decide) (fun _ => ?_) (fun hx => absurd hx (by omega))
    have e9 : j = e := by omega
    rw [e9] at h10
    exact kk J _ h10 f
  | succ d ih =>
    intro j J hj h10 f
    have hb := numV_lt (t := t) (p := p) j (fun i hi => hdg i (by omega))
    have hb2 : 10 ^ j ≤ 10 ^ 2 := Nat.pow_le_pow_right (by decide) (by omega)
    have hd1 := hdg j (by omega)
    refine w_iln l_37_43 rfl ?_
    refine w_aln l_37_44 rfl ?_
    refine w_gi (((tEnd t n p) : Nat) : Int) l_37_45 (oReader_sh o) ((f s 5 (fun _ => by decide)).trans H.2.1) ?_
    refine w_cge 78 l_37_48 (by decide) (fun hx => absurd hx (by omega)) (fun _ => ?_)
    refine w_aln l_37_51 rfl ?_
    refine w_aln l_37_52 rfl ?_
    refine w_gi (((numV t p j) : Nat) : Int) l_37_53 (oReader_sh o) h10 ?_
    refine w_bp l_37_56 (by decide) ?_
    refine w_mul (((numV t p j * 10) : Nat) : Int) l_37_58 (by unfold wr; omega) ?_
    refine w_aln l_37_59 rfl ?_
    refine w_gr l_37_60 (oReader_sh o) (oReader_r3 o) ?_
    refine w_iln l_37_63 rfl ?_
    refine w_ba (p + j) (t (p + j)) l_37_64 (Or.inl (oReader_s3 o)) rfl (by omega) ((f x _ (fun e => absurd e (oReader_ne o))).trans (H.1.2.2 (p + j) (by omega))) ?_
    refine w_add (((numV t p j * 10 : Nat) : Int) + t (p + j)) l_37_65 (by unfold wr; omega) ?_
    refine w_bp l_37_66 (by decide) ?_
    refine w_sub (((numV t p (j + 1)) : Nat) : Int) l_37_68 (by have e9 : numV t p (j + 1) = numV t p j * 10 + (t (p + j) - 48).toNat := rfl; unfold wr; omega) ?_
    refine w_pi l_37_69 (oReader_sh o) ?_
    refine w_inc (((p + j) + 1 : Nat) : Int) l_37_72 rfl rfl (by unfold wr; omega) ?_
    refine w_go 43 l_37_75 (by decide) ?_
    exact ih (j + 1) _ (by omega) up_eq (fun z w h => (up_out (by have := h; omega)).trans (f z w h))
theorem s_37 (o : oReader S T s x y) {p : Nat} (H : RT I s x t n p) {lo hi : Nat} : CL xs 37 [vr s, vi ((lo : Nat) : Int), vi ((hi : Nat) : Int)] (S, I, T, cc, zz) (RP S T cc zz (fun v I' => fM I I' s ∧ RO I s v I' (numR t n lo hi p) (fun a => rTk I' s t n a.2 ∧ I' s 10 = ((a.1 : Nat) : Int)))) := by
  refine CL_start (r := 1) (ls := [vr s, vi ((lo : Nat) : Int), vi ((hi : Nat) : Int), vs 2]) (rk_37 _) rfl ?_
  have hpn := H.2.2.2.2
  have h600 := H.1.2.1
  have hte := tEnd_le (t := t) (n := n) (p := p) hpn
  have htg := tEnd_ge (t := t) (n := n) (p := p)
  refine w_aln l_37_0 rfl ?_
  refine w_gi (((tkk t n p) : Nat) : Int) l_37_1 (oReader_sh o) H.2.2.2.1 ?_
  refine w_ic l_37_4 (by decide) ?_
  refine w_ceq 14 l_37_5 (by decide) (fun h1 => ?_) (fun h1 => ?_)
  · skip
    have hk2 := tkk_2.mp (show tkk t n p = 2 by omega)
    have hde : dEnd t n p = tEnd t n p := by
      unfold tEnd
      rw [if_pos hk2.1, if_neg (fun q => by have := isLo_iff.mp q; omega), if_pos (isDg_iff.mpr hk2.2)]
    refine w_aln l_37_14 rfl ?_
    refine w_gi (((tEnd t n p) : Nat) : Int) l_37_15 (oReader_sh o) H.2.1 ?_
    refine w_aln l_37_18 rfl ?_
    refine w_gi ((p : Nat) : Int) l_37_19 (oReader_sh o) H.2.2.1 ?_
    refine w_sub (((tEnd t n p - p) : Nat) : Int) l_37_22 (by unfold wr; omega) ?_
    refine w_ic l_37_23 (by decide) ?_
    refine w_cle 33 l_37_24 (by decide) (fun h2 => ?_) (fun h2 => ?_)
    · skip
      refine w_aln l_37_33 rfl ?_
      refine w_ic l_37_34 (by decide) ?_
      refine w_pi l_37_35 (oReader_sh o) ?_
      refine w_aln l_37_38 rfl ?_
      refine w_gi ((p : Nat) : Int) l_37_39 (oReader_sh o) ((up_nj (by omega)).trans (H.2.2.1)) ?_
      refine w_isn l_37_42 ⟨Nat.le_of_ble_eq_true rfl, rfl⟩ ?_
      refine lp_37 (lo := lo) (hi := hi) (e := tEnd t n p - p) (I := I) o H (by omega) (by omega) (fun j hj => isDg_iff.mp (runX_all _ _ _ (by omega) (show p + j < dEnd t n p by omega)).1) (fun J l3 h10 f => ?_) (tEnd t n p - p) 0 _ (Nat.zero_add _) up_eq (fun z w h => up_out (by have := h; omega))
      refine w_aln l_37_78 rfl ?_
      refine w_gi (((numV t p (tEnd t n p - p)) : Nat) : Int) l_37_79 (oReader_sh o) h10 ?_
      refine w_iln l_37_82 rfl ?_
      refine w_clt 94 l_37_83 (by decide) (fun h1 => ?_) (fun h1 => ?_)
      · skip
        refine w_aln l_37_94 rfl ?_
        refine w_ic l_37_95 (by decide) ?_
        refine q_iv [vi 2] [] l_37_96 rfl rfl (Nat.le_of_ble_eq_true rfl) (by rw [mx_33]; exact Nat.le_of_ble_eq_true rfl) (by rw [mt_33]; exact oReader_sh o) (by rw [mt_33]; decide) (by rw [rk_33]; decide) (s_33 (k := 2) o ((f s 6 (fun _ => by decide)).trans H.2.2.1)) ?_
        refine w_ir l_37_99 (by decide) ?_
        have hr : numR t n lo hi p = .inl (2, p) := by
          unfold numR
          rw [if_neg (by omega), if_neg (by omega), if_pos (by rw [hde]; omega)]
        exact ⟨_, _, rfl, rfl, fun z w h => (up_out (by have := h; omega)).trans ((up_out (by have := h; omega)).trans (f z w (fun e => by have := h e; omega))), by rw [hr]; exact ⟨rfl, (up_nj (by decide)).trans up_eq, up_eq⟩⟩
      · skip
        refine w_aln l_37_86 rfl ?_
        refine w_gi (((numV t p (tEnd t n p - p)) : Nat) : Int) l_37_87 (oReader_sh o) h10 ?_
        refine w_iln l_37_90 rfl ?_
        refine w_cle 100 l_37_91 (by decide) (fun h2 => ?_) (fun h2 => ?_)
        · skip
          refine w_aln l_37_100 rfl ?_
          refine p_iv [] [] l_37_101 rfl rfl (Nat.le_of_ble_eq_true rfl) (by rw [mx_32]; exact Nat.le_of_ble_eq_true rfl) (by rw [mt_32]; exact oReader_sh o) (by rw [mt_32]; decide) (by rw [rk_32]; decide) (s_32 o (H.1.fS (oReader_ne o) (fun z w h => f z w (fun e => by have := h e; omega))) hte ((f s 5 (fun _ => by decide)).trans H.2.1)) (fun v I1 hv => ?_)
          obtain ⟨rfl, hk, f1⟩ := hv
          refine w_ic l_37_104 (by decide) ?_
          refine w_ir l_37_105 (by decide) ?_
          have hr : numR t n lo hi p = .inr ((numV t p (tEnd t n p - p)), nxt t n p) := by
            unfold numR
            rw [if_neg (by omega), if_neg (by omega), if_neg (by rw [hde]; omega), hde]
          exact ⟨_, _, rfl, rfl, fun z w h => (f1 z w (fun e => by have := h e; omega)).trans (f z w (fun e => by have := h e; omega)), by rw [hr]; exact ⟨rfl, ⟨(f1 s 1 (fun _ => by decide)).trans (f s 1 (fun _ => by decide)), (f1 s 2 (fun _ => by decide)).trans (f s 2 (fun _ => by decide))⟩, hk, (f1 s 10 (fun _ => by decide)).trans h10⟩⟩
        · skip
          refine w_aln l_37_94 rfl ?_
          refine w_ic l_37_95 (by decide) ?_
          refine q_iv [vi 2] [] l_37_96 rfl rfl (Nat.le_of_ble_eq_true rfl) (by rw [mx_33]; exact Nat.le_of_ble_eq_true rfl) (by rw [mt_33]; exact oReader_sh o) (by rw [mt_33]; decide) (by rw [rk_33]; decide) (s_33 (k := 2) o ((f s 6 (fun _ => by decide)).trans H.2.2.1)) ?_
          refine w_ir l_37_99 (by decide) ?_
          have hr : numR t n lo hi p = .inl (2, p) := by
            unfold numR
            rw [if_neg (by omega), if_neg (by omega), if_pos (by rw [hde]; omega)]
          exact ⟨_, _, rfl, rfl, fun z w h => (up_out (by have := h; omega)).trans ((up_out (by have := h; omega)).trans (f z w (fun e => by have := h e; omega))), by rw [hr]; exact ⟨rfl, (up_nj (by decide)).trans up_eq, up_eq⟩⟩
    · skip
      refine w_aln l_37_27 rfl ?_
      refine w_ic l_37_28 (by decide) ?_
      refine q_iv [vi 2] [] l_37_29 rfl rfl (Nat.le_of_ble_eq_true rfl) (by rw [mx_33]; exact Nat.le_of_ble_eq_true rfl) (by rw [mt_33]; exact oReader_sh o) (by rw [mt_33]; decide) (by rw [rk_33]; decide) (s_33 (k := 2) o H.2.2.1) ?_
      refine w_ir l_37_32 (by decide) ?_
      have hr : numR t n lo hi p = .inl (2, p) := by
        unfold numR
        rw [if_neg (by omega), if_pos (by omega)]
      exact ⟨_, _, rfl, rfl, fun z w h => (up_out (by have := h; omega)).trans (up_out (by have := h; omega)), by rw [hr]; exact ⟨rfl, (up_nj (by decide)).trans up_eq, up_eq⟩⟩
  · skip
    refine w_aln l_37_8 rfl ?_
    refine w_ic l_37_9 (by decide) ?_
    refine q_iv [vi 1] [] l_37_10 rfl rfl (Nat.le_of_ble_eq_true rfl) (by rw [mx_33]; exact Nat.le_of_ble_eq_true rfl) (by rw [mt_33]; exact oReader_sh o) (by rw [mt_33]; decide) (by rw [rk_33]; decide) (s_33 (k := 1) o H.2.2.1) ?_
    refine w_ir l_37_13 (by decide) ?_
    have hr : numR t n lo hi p = .inl (1, p) := by
      unfold numR
      rw [if_pos (by omega)]
    exact ⟨_, _, rfl, rfl, fun z w h => (up_out (by have := h; omega)).trans (up_out (by have := h; omega)), by rw [hr]; exact ⟨rfl, (up_nj (by decide)).trans up_eq, up_eq⟩⟩

end RDW
