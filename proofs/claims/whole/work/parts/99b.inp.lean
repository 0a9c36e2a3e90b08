/-! the input buffers -/
def sby (w : Int) (k : Nat) : Int := wb (a2 (fun x y => x >>> (y &&& 31)) w ((24 - 8 * k : Nat) : Int))
theorem wb_r (x : Int) : -128 ≤ wb x ∧ wb x ≤ 127 := by unfold wb; omega
theorem wb_sby (w : Int) (k : Nat) : wb (sby w k) = sby w k := by
  have h := wb_r (a2 (fun x y => x >>> (y &&& 31)) w ((24 - 8 * k : Nat) : Int))
  show wb (wb _) = wb _
  unfold wb at h ⊢
  omega
def wsel (w0 w1 w2 w3 w4 : Int) (k : Nat) : Int := if k < 4 then w0 else if k < 8 then w1 else if k < 12 then w2 else if k < 16 then w3 else w4
def apB (w0 w1 w2 w3 w4 : Int) (k : Nat) : Int := sby (wsel w0 w1 w2 w3 w4 k) (k % 4)
def bfA (bf : Nat → Int) (n : Nat) (w0 w1 w2 w3 w4 : Int) : Nat → Int := fun j => if j < n then bf j else apB w0 w1 w2 w3 w4 (j - n)
def okBf (bf : Nat → Int) : Prop := ∀ j, -128 ≤ bf j ∧ bf j ≤ 127
theorem bfA_ok {bf : Nat → Int} {n : Nat} {w0 w1 w2 w3 w4 : Int} (H : okBf bf) : okBf (bfA bf n w0 w1 w2 w3 w4) := fun j => by
  unfold bfA
  split
  · exact H j
  · exact wb_r _
/-- the class's input -/
def cIn (I : Ix) (s : Nat) (bf : Nat → Int) (n : Nat) : Prop := I s 1 = (n : Int) ∧ n ≤ 600 ∧ ∀ j, j < n → I (s + 1) j = bf j
/-- the reference's input -/
def mIn (I : Ix) (s : Nat) (bf : Nat → Int) (n : Nat) : Prop := I s 20 = (n : Int) ∧ n ≤ 600 ∧ ∀ j, j < n → I (s + 12) j = bf j
section INP
variable {xs : List Int} {S : List (Nat × Nat)} {T : Nat → Nat → Nat} {cc zz s q y : Nat} {I I' : Ix}

theorem mx_156 : mxl 156 = 3 := by decide +kernel
theorem mt_156 : mtc 156 = 9 := by decide +kernel
theorem rk_156 (as : List AV) : rkA 156 as = 0 := rfl
theorem l_156_0 : look 156 0 = some (.bipush 24, 2, 0, 0, 0, 0) := by decide +kernel
theorem l_156_2 : look 156 2 = some (.istore_n 2, 1, 0, 0, 0, 0) := by decide +kernel
theorem l_156_3 : look 156 3 = some (.iload_n 2, 1, 0, 0, 0, 0) := by decide +kernel
theorem l_156_4 : look 156 4 = some (.ifCond .lt 32, 3, 0, 0, 0, 0) := by decide +kernel
theorem l_156_7 : look 156 7 = some (.aload_n 0, 1, 0, 0, 0, 0) := by decide +kernel
theorem l_156_8 : look 156 8 = some (.getfield 9, 3, 9, 0, 2, 538) := by decide +kernel
theorem l_156_11 : look 156 11 = some (.aload_n 0, 1, 0, 0, 0, 0) := by decide +kernel
theorem l_156_12 : look 156 12 = some (.getfield 13, 3, 9, 1, 0, 539) := by decide +kernel
theorem l_156_15 : look 156 15 = some (.iload_n 1, 1, 0, 0, 0, 0) := by decide +kernel
theorem l_156_16 : look 156 16 = some (.iload_n 2, 1, 0, 0, 0, 0) := by decide +kernel
theorem l_156_17 : look 156 17 = some (.ishr, 1, 0, 0, 0, 0) := by decide +kernel
theorem l_156_18 : look 156 18 = some (.i2b, 1, 0, 0, 0, 0) := by decide +kernel
theorem l_156_19 : look 156 19 = some (.bastore, 1, 0, 0, 0, 0) := by decide +kernel
theorem l_156_20 : look 156 20 = some (.aload_n 0, 1, 0, 0, 0, 0) := by decide +kernel
theorem l_156_21 : look 156 21 = some (.dup, 1, 0, 0, 0, 0) := by decide +kernel
theorem l_156_22 : look 156 22 = some (.getfield 13, 3, 9, 1, 0, 539) := by decide +kernel
theorem l_156_25 : look 156 25 = some (.iconst 1, 1, 0, 0, 0, 0) := by decide +kernel
theorem l_156_26 : look 156 26 = some (.iadd, 1, 0, 0, 0, 0) := by decide +kernel
theorem l_156_27 : look 156 27 = some (.putfield 13, 3, 9, 1, 0, 539) := by decide +kernel
theorem l_156_30 : look 156 30 = some (.iinc 2 (-8), 3, 0, 0, 0, 0) := by decide +kernel
theorem l_156_33 : look 156 33 = some (.goto (-30), 3, 0, 0, 0, 0) := by decide +kernel
theorem l_156_36 : look 156 36 = some (.return_, 1, 0, 0, 0, 0) := by decide +kernel

theorem s_156 (o : oDropSwitch S T s q y) {w : Int} {n : Nat} (hn : I s 1 = (n : Int)) (h600 : n + 4 ≤ 600) : CL xs 156 [vr s, vi w] (S, I, T, cc, zz) (RP S T cc zz (fun v I' => v = none ∧ I' s 1 = ((n + 4 : Nat) : Int) ∧ (∀ k, k < 4 → I' (s + 1) (n + k) = sby w k) ∧ ∀ y z, (y = s → z ≠ 1) → (y = s + 1 → z < n ∨ n + 4 ≤ z) → I' y z = I y z)) := by
  refine CL_start (r := 0) (ls := [vr s, vi w, vs 2]) (rk_156 _) rfl ?_
  refine w_bp l_156_0 (by decide) ?_
  refine w_isn l_156_2 ⟨Nat.le_of_ble_eq_true rfl, rfl⟩ ?_
  refine w_iln l_156_3 rfl ?_
  refine w_zlt 36 l_156_4 (by decide) (fun hx => absurd hx (by decide)) (fun _ => ?_)
  refine w_aln l_156_7 rfl ?_
  refine w_gr l_156_8 (oDropSwitch_sh o) (oDropSwitch_r0 o) ?_
  refine w_aln l_156_11 rfl ?_
  refine w_gi ((n : Nat) : Int) l_156_12 (oDropSwitch_sh o) hn ?_
  refine w_iln l_156_15 rfl ?_
  refine w_iln l_156_16 rfl ?_
  refine w_shr (a2 (fun x y => x >>> (y &&& 31)) w 24) l_156_17 rfl ?_
  refine w_i2b (sby w 0) l_156_18 rfl ?_
  refine w_bS n (sby w 0) l_156_19 (oDropSwitch_s0 o) rfl (by omega) (wb_sby _ _) ?_
  refine w_aln l_156_20 rfl ?_
  refine w_dup l_156_21 rfl ?_
  refine w_gi ((n : Nat) : Int) l_156_22 (oDropSwitch_sh o) ((up_no (by omega)).trans (hn)) ?_
  refine w_ic l_156_25 (by decide) ?_
  refine w_add (((n + 1) : Nat) : Int) l_156_26 (by unfold wr; omega) ?_
  refine w_pi l_156_27 (oDropSwitch_sh o) ?_
  refine w_inc 16 l_156_30 rfl rfl (by unfold wr; omega) ?_
  refine w_go 3 l_156_33 (by decide) ?_
  refine w_iln l_156_3 rfl ?_
  refine w_zlt 36 l_156_4 (by decide) (fun hx => absurd hx (by decide)) (fun _ => ?_)
  refine w_aln l_156_7 rfl ?_
  refine w_gr l_156_8 (oDropSwitch_sh o) (oDropSwitch_r0 o) ?_
  refine w_aln l_156_11 rfl ?_
  refine w_gi (((n + 1) : Nat) : Int) l_156_12 (oDropSwitch_sh o) up_eq ?_
  refine w_iln l_156_15 rfl ?_
  refine w_iln l_156_16 rfl ?_
  refine w_shr (a2 (fun x y => x >>> (y &&& 31)) w 16) l_156_17 rfl ?_
  refine w_i2b (sby w 1) l_156_18 rfl ?_
  refine w_bS (n + 1) (sby w 1) l_156_19 (oDropSwitch_s0 o) rfl (by omega) (wb_sby _ _) ?_
  refine w_aln l_156_20 rfl ?_
  refine w_dup l_156_21 rfl ?_
  refine w_gi (((n + 1) : Nat) : Int) l_156_22 (oDropSwitch_sh o) ((up_no (by omega)).trans (up_eq)) ?_
  refine w_ic l_156_25 (by decide) ?_
  refine w_add (((n + 2) : Nat) : Int) l_156_26 (by unfold wr; omega) ?_
  refine w_pi l_156_27 (oDropSwitch_sh o) ?_
  refine w_inc 8 l_156_30 rfl rfl (by unfold wr; omega) ?_
  refine w_go 3 l_156_33 (by decide) ?_
  refine w_iln l_156_3 rfl ?_
  refine w_zlt 36 l_156_4 (by decide) (fun hx => absurd hx (by decide)) (fun _ => ?_)
  refine w_aln l_156_7 rfl ?_
  refine w_gr l_156_8 (oDropSwitch_sh o) (oDropSwitch_r0 o) ?_
  refine w_aln l_156_11 rfl ?_
  refine w_gi (((n + 2) : Nat) : Int) l_156_12 (oDropSwitch_sh o) up_eq ?_
  refine w_iln l_156_15 rfl ?_
  refine w_iln l_156_16 rfl ?_
  refine w_shr (a2 (fun x y => x >>> (y &&& 31)) w 8) l_156_17 rfl ?_
  refine w_i2b (sby w 2) l_156_18 rfl ?_
  refine w_bS (n + 2) (sby w 2) l_156_19 (oDropSwitch_s0 o) rfl (by omega) (wb_sby _ _) ?_
  refine w_aln l_156_20 rfl ?_
  refine w_dup l_156_21 rfl ?_
  refine w_gi (((n + 2) : Nat) : Int) l_156_22 (oDropSwitch_sh o) ((up_no (by omega)).trans (up_eq)) ?_
  refine w_ic l_156_25 (by decide) ?_
  refine w_add (((n + 3) : Nat) : Int) l_156_26 (by unfold wr; omega) ?_
  refine w_pi l_156_27 (oDropSwitch_sh o) ?_
  refine w_inc 0 l_156_30 rfl rfl (by unfold wr; omega) ?_
  refine w_go 3 l_156_33 (by decide) ?_
  refine w_iln l_156_3 rfl ?_
  refine w_zlt 36 l_156_4 (by decide) (fun hx => absurd hx (by decide)) (fun _ => ?_)
  refine w_aln l_156_7 rfl ?_
  refine w_gr l_156_8 (oDropSwitch_sh o) (oDropSwitch_r0 o) ?_
  refine w_aln l_156_11 rfl ?_
  refine w_gi (((n + 3) : Nat) : Int) l_156_12 (oDropSwitch_sh o) up_eq ?_
  refine w_iln l_156_15 rfl ?_
  refine w_iln l_156_16 rfl ?_
  refine w_shr (a2 (fun x y => x >>> (y &&& 31)) w 0) l_156_17 rfl ?_
  refine w_i2b (sby w 3) l_156_18 rfl ?_
  refine w_bS (n + 3) (sby w 3) l_156_19 (oDropSwitch_s0 o) rfl (by omega) (wb_sby _ _) ?_
  refine w_aln l_156_20 rfl ?_
  refine w_dup l_156_21 rfl ?_
  refine w_gi (((n + 3) : Nat) : Int) l_156_22 (oDropSwitch_sh o) ((up_no (by omega)).trans (up_eq)) ?_
  refine w_ic l_156_25 (by decide) ?_
  refine w_add (((n + 4) : Nat) : Int) l_156_26 (by unfold wr; omega) ?_
  refine w_pi l_156_27 (oDropSwitch_sh o) ?_
  refine w_inc (-8) l_156_30 rfl rfl (by unfold wr; omega) ?_
  refine w_go 3 l_156_33 (by decide) ?_
  refine w_iln l_156_3 rfl ?_
  refine w_zlt 36 l_156_4 (by decide) (fun _ => ?_) (fun hx => absurd hx (by decide))
  refine w_vr l_156_36 ?_
  refine ⟨_, _, rfl, rfl, rfl, up_eq, fun k hk => ?_, fun y z h1 h2 => ?_⟩
  · rcases (show k = 0 ∨ k = 1 ∨ k = 2 ∨ k = 3 by omega) with e | e | e | e <;> subst e
    all_goals (repeat (first | rw [up_no (by omega)] | rw [up_nj (by omega)] | exact up_eq))
  · repeat (rw [up_out (by omega)])

theorem mx_99 : mxl 99 = 6 := by decide +kernel
theorem mt_99 : mtc 99 = 9 := by decide +kernel
theorem rk_99 (as : List AV) : rkA 99 as = 1 := rfl
theorem l_99_0 : look 99 0 = some (.aload_n 0, 1, 0, 0, 0, 0) := by decide +kernel
theorem l_99_1 : look 99 1 = some (.getfield 13, 3, 9, 1, 0, 539) := by decide +kernel
theorem l_99_4 : look 99 4 = some (.bipush 20, 2, 0, 0, 0, 0) := by decide +kernel
theorem l_99_6 : look 99 6 = some (.iadd, 1, 0, 0, 0, 0) := by decide +kernel
theorem l_99_7 : look 99 7 = some (.sipush 600, 3, 0, 0, 0, 0) := by decide +kernel
theorem l_99_10 : look 99 10 = some (.if_icmp .le 5, 3, 0, 0, 0, 0) := by decide +kernel
theorem l_99_13 : look 99 13 = some (.iconst (-1), 1, 0, 0, 0, 0) := by decide +kernel
theorem l_99_14 : look 99 14 = some (.ireturn, 1, 0, 0, 0, 0) := by decide +kernel
theorem l_99_15 : look 99 15 = some (.aload_n 0, 1, 0, 0, 0, 0) := by decide +kernel
theorem l_99_16 : look 99 16 = some (.iload_n 1, 1, 0, 0, 0, 0) := by decide +kernel
theorem l_99_17 : look 99 17 = some (.invokevirtual 99, 3, 156, 2, 0, 594) := by decide +kernel
theorem l_99_20 : look 99 20 = some (.aload_n 0, 1, 0, 0, 0, 0) := by decide +kernel
theorem l_99_21 : look 99 21 = some (.iload_n 2, 1, 0, 0, 0, 0) := by decide +kernel
theorem l_99_22 : look 99 22 = some (.invokevirtual 99, 3, 156, 2, 0, 594) := by decide +kernel
theorem l_99_25 : look 99 25 = some (.aload_n 0, 1, 0, 0, 0, 0) := by decide +kernel
theorem l_99_26 : look 99 26 = some (.iload_n 3, 1, 0, 0, 0, 0) := by decide +kernel
theorem l_99_27 : look 99 27 = some (.invokevirtual 99, 3, 156, 2, 0, 594) := by decide +kernel
theorem l_99_30 : look 99 30 = some (.aload_n 0, 1, 0, 0, 0, 0) := by decide +kernel
theorem l_99_31 : look 99 31 = some (.iload 4, 2, 0, 0, 0, 0) := by decide +kernel
theorem l_99_33 : look 99 33 = some (.invokevirtual 99, 3, 156, 2, 0, 594) := by decide +kernel
theorem l_99_36 : look 99 36 = some (.aload_n 0, 1, 0, 0, 0, 0) := by decide +kernel
theorem l_99_37 : look 99 37 = some (.iload 5, 2, 0, 0, 0, 0) := by decide +kernel
theorem l_99_39 : look 99 39 = some (.invokevirtual 99, 3, 156, 2, 0, 594) := by decide +kernel
theorem l_99_42 : look 99 42 = some (.aload_n 0, 1, 0, 0, 0, 0) := by decide +kernel
theorem l_99_43 : look 99 43 = some (.getfield 13, 3, 9, 1, 0, 539) := by decide +kernel
theorem l_99_46 : look 99 46 = some (.ireturn, 1, 0, 0, 0, 0) := by decide +kernel

theorem s_99 (o : oDropSwitch S T s q y) {w0 w1 w2 w3 w4 : Int} {n : Nat} {bf : Nat → Int} (H : cIn I s bf n) (h600 : n + 20 ≤ 600) : CL xs 99 [vr s, vi w0, vi w1, vi w2, vi w3, vi w4] (S, I, T, cc, zz) (RP S T cc zz (fun v I' => v = some (vi ((n + 20 : Nat) : Int)) ∧ cIn I' s (bfA bf n w0 w1 w2 w3 w4) (n + 20) ∧ ∀ y z, (y = s → z ≠ 1) → y ≠ s + 1 → I' y z = I y z)) := by
  refine CL_start (r := 1) (ls := [vr s, vi w0, vi w1, vi w2, vi w3, vi w4]) (rk_99 _) rfl ?_
  refine w_aln l_99_0 rfl ?_
  refine w_gi ((n : Nat) : Int) l_99_1 (oDropSwitch_sh o) H.1 ?_
  refine w_bp l_99_4 (by decide) ?_
  refine w_add ((n + 20 : Nat) : Int) l_99_6 (by unfold wr; omega) ?_
  refine w_sp l_99_7 (by decide) ?_
  refine w_cle 15 l_99_10 (by decide) (fun _ => ?_) (fun hx => absurd hx (by omega))
  refine w_aln l_99_15 rfl ?_
  refine w_iln l_99_16 rfl ?_
  refine p_iv [vi w0] [] l_99_17 rfl rfl (Nat.le_of_ble_eq_true rfl) (by rw [mx_156]; exact Nat.le_of_ble_eq_true rfl) (by rw [mt_156]; exact oDropSwitch_sh o) (by rw [mt_156]; decide) (by rw [rk_156]; decide) (s_156 o (n := n + 0) H.1 (by omega)) (fun v I1 hv => ?_)
  obtain ⟨rfl, g1, b1, f1⟩ := hv
  refine w_aln l_99_20 rfl ?_
  refine w_iln l_99_21 rfl ?_
  refine p_iv [vi w1] [] l_99_22 rfl rfl (Nat.le_of_ble_eq_true rfl) (by rw [mx_156]; exact Nat.le_of_ble_eq_true rfl) (by rw [mt_156]; exact oDropSwitch_sh o) (by rw [mt_156]; decide) (by rw [rk_156]; decide) (s_156 o (n := n + 4) g1 (by omega)) (fun v I2 hv => ?_)
  obtain ⟨rfl, g2, b2, f2⟩ := hv
  refine w_aln l_99_25 rfl ?_
  refine w_iln l_99_26 rfl ?_
  refine p_iv [vi w2] [] l_99_27 rfl rfl (Nat.le_of_ble_eq_true rfl) (by rw [mx_156]; exact Nat.le_of_ble_eq_true rfl) (by rw [mt_156]; exact oDropSwitch_sh o) (by rw [mt_156]; decide) (by rw [rk_156]; decide) (s_156 o (n := n + 8) g2 (by omega)) (fun v I3 hv => ?_)
  obtain ⟨rfl, g3, b3, f3⟩ := hv
  refine w_aln l_99_30 rfl ?_
  refine w_il l_99_31 rfl ?_
  refine p_iv [vi w3] [] l_99_33 rfl rfl (Nat.le_of_ble_eq_true rfl) (by rw [mx_156]; exact Nat.le_of_ble_eq_true rfl) (by rw [mt_156]; exact oDropSwitch_sh o) (by rw [mt_156]; decide) (by rw [rk_156]; decide) (s_156 o (n := n + 12) g3 (by omega)) (fun v I4 hv => ?_)
  obtain ⟨rfl, g4, b4, f4⟩ := hv
  refine w_aln l_99_36 rfl ?_
  refine w_il l_99_37 rfl ?_
  refine p_iv [vi w4] [] l_99_39 rfl rfl (Nat.le_of_ble_eq_true rfl) (by rw [mx_156]; exact Nat.le_of_ble_eq_true rfl) (by rw [mt_156]; exact oDropSwitch_sh o) (by rw [mt_156]; decide) (by rw [rk_156]; decide) (s_156 o (n := n + 16) g4 (by omega)) (fun v I5 hv => ?_)
  obtain ⟨rfl, g5, b5, f5⟩ := hv
  refine w_aln l_99_42 rfl ?_
  refine w_gi (((n + 20) : Nat) : Int) l_99_43 (oDropSwitch_sh o) g5 ?_
  refine w_ir l_99_46 (Or.inl rfl) ?_
  refine ⟨_, _, rfl, rfl, rfl, ⟨g5, by omega, fun j hj => ?_⟩, fun y z h1 h2 => ?_⟩
  · unfold bfA
    by_cases hjn : j < n
    · rw [if_pos hjn, f5 _ j (by omega) (by omega), f4 _ j (by omega) (by omega), f3 _ j (by omega) (by omega), f2 _ j (by omega) (by omega), f1 _ j (by omega) (by omega)]
      exact H.2.2 j hjn
    · rw [if_neg hjn]
      obtain ⟨k, rfl⟩ : ∃ k, j = n + k := ⟨j - n, by omega⟩
      rw [show n + k - n = k by omega]
      unfold apB wsel
      rcases (show k < 4 ∨ (4 ≤ k ∧ k < 8) ∨ (8 ≤ k ∧ k < 12) ∨ (12 ≤ k ∧ k < 16) ∨ (16 ≤ k ∧ k < 20) by omega) with e | e | e | e | e
      · rw [if_pos e, f5 _ _ (by omega) (by omega), f4 _ _ (by omega) (by omega), f3 _ _ (by omega) (by omega), f2 _ _ (by omega) (by omega), show k % 4 = k by omega]
        exact b1 k e
      · rw [if_neg (by omega), if_pos e.2, f5 _ _ (by omega) (by omega), f4 _ _ (by omega) (by omega), f3 _ _ (by omega) (by omega), show n + k = n + 4 + (k % 4) by omega]
        exact b2 (k % 4) (by omega)
      · rw [if_neg (by omega), if_neg (by omega), if_pos e.2, f5 _ _ (by omega) (by omega), f4 _ _ (by omega) (by omega), show n + k = n + 8 + (k % 4) by omega]
        exact b3 (k % 4) (by omega)
      · rw [if_neg (by omega), if_neg (by omega), if_neg (by omega), if_pos e.2, f5 _ _ (by omega) (by omega), show n + k = n + 12 + (k % 4) by omega]
        exact b4 (k % 4) (by omega)
      · rw [if_neg (by omega), if_neg (by omega), if_neg (by omega), if_neg (by omega), show n + k = n + 16 + (k % 4) by omega]
        exact b5 (k % 4) (by omega)
  · rw [f5 y z h1 (fun e => absurd e h2), f4 y z h1 (fun e => absurd e h2), f3 y z h1 (fun e => absurd e h2), f2 y z h1 (fun e => absurd e h2), f1 y z h1 (fun e => absurd e h2)]

theorem s_99n (o : oDropSwitch S T s q y) {w0 w1 w2 w3 w4 : Int} {n : Nat} {bf : Nat → Int} (H : cIn I s bf n) (h600 : ¬ (n + 20 ≤ 600)) : CL xs 99 [vr s, vi w0, vi w1, vi w2, vi w3, vi w4] (S, I, T, cc, zz) (FN (some (vi (-1))) (S, I, T, cc, zz)) := by
  have hn6 := H.2.1
  refine CL_start (r := 1) (ls := [vr s, vi w0, vi w1, vi w2, vi w3, vi w4]) (rk_99 _) rfl ?_
  refine w_aln l_99_0 rfl ?_
  refine w_gi ((n : Nat) : Int) l_99_1 (oDropSwitch_sh o) H.1 ?_
  refine w_bp l_99_4 (by decide) ?_
  refine w_add ((n + 20 : Nat) : Int) l_99_6 (by unfold wr; omega) ?_
  refine w_sp l_99_7 (by decide) ?_
  refine w_cle 15 l_99_10 (by decide) (fun hx => absurd hx (by have := H.2.1; omega)) (fun _ => ?_)
  refine w_ic l_99_13 (by decide) ?_
  refine w_ir l_99_14 (Or.inl rfl) ?_
  exact ⟨rfl, rfl⟩

theorem mx_100 : mxl 100 = 2 := by decide +kernel
theorem mt_100 : mtc 100 = 9 := by decide +kernel
theorem rk_100 (as : List AV) : rkA 100 as = 0 := rfl
theorem l_100_0 : look 100 0 = some (.iload_n 1, 1, 0, 0, 0, 0) := by decide +kernel
theorem l_100_1 : look 100 1 = some (.ifCond .lt 11, 3, 0, 0, 0, 0) := by decide +kernel
theorem l_100_4 : look 100 4 = some (.iload_n 1, 1, 0, 0, 0, 0) := by decide +kernel
theorem l_100_5 : look 100 5 = some (.aload_n 0, 1, 0, 0, 0, 0) := by decide +kernel
theorem l_100_6 : look 100 6 = some (.getfield 13, 3, 9, 1, 0, 539) := by decide +kernel
theorem l_100_9 : look 100 9 = some (.if_icmp .le 5, 3, 0, 0, 0, 0) := by decide +kernel
theorem l_100_12 : look 100 12 = some (.iconst 0, 1, 0, 0, 0, 0) := by decide +kernel
theorem l_100_13 : look 100 13 = some (.ireturn, 1, 0, 0, 1, 0) := by decide +kernel
theorem l_100_14 : look 100 14 = some (.aload_n 0, 1, 0, 0, 0, 0) := by decide +kernel
theorem l_100_15 : look 100 15 = some (.iload_n 1, 1, 0, 0, 0, 0) := by decide +kernel
theorem l_100_16 : look 100 16 = some (.putfield 13, 3, 9, 1, 0, 539) := by decide +kernel
theorem l_100_19 : look 100 19 = some (.iconst 1, 1, 0, 0, 0, 0) := by decide +kernel
theorem l_100_20 : look 100 20 = some (.ireturn, 1, 0, 0, 1, 0) := by decide +kernel

theorem s_100 (o : oDropSwitch S T s q y) {n k : Nat} {bf : Nat → Int} (H : cIn I s bf n) (hk : k ≤ n) : CL xs 100 [vr s, vi ((k : Nat) : Int)] (S, I, T, cc, zz) (RP S T cc zz (fun v I' => v = some (vi 1) ∧ cIn I' s bf k ∧ ∀ y z, (y = s → z ≠ 1) → y ≠ s + 1 → I' y z = I y z)) := by
  refine CL_start (r := 0) (ls := [vr s, vi ((k : Nat) : Int)]) (rk_100 _) rfl ?_
  refine w_iln l_100_0 rfl ?_
  refine w_zlt 12 l_100_1 (by decide) (fun hx => absurd hx (by omega)) (fun _ => ?_)
  refine w_iln l_100_4 rfl ?_
  refine w_aln l_100_5 rfl ?_
  refine w_gi ((n : Nat) : Int) l_100_6 (oDropSwitch_sh o) H.1 ?_
  refine w_cle 14 l_100_9 (by decide) (fun _ => ?_) (fun hx => absurd hx (by omega))
  refine w_aln l_100_14 rfl ?_
  refine w_iln l_100_15 rfl ?_
  refine w_pi l_100_16 (oDropSwitch_sh o) ?_
  refine w_ic l_100_19 (by decide) ?_
  refine w_ir l_100_20 (by decide) ?_
  refine ⟨_, _, rfl, rfl, rfl, ⟨up_eq, by have := H.2.1; omega, fun j hj => (up_no (by omega)).trans (H.2.2 j (by omega))⟩, fun y z h1 h2 => up_out (by omega)⟩

theorem s_100n (o : oDropSwitch S T s q y) {n : Nat} {k : Int} {bf : Nat → Int} (H : cIn I s bf n) (hk : ¬ (0 ≤ k ∧ k ≤ ((n : Nat) : Int))) : CL xs 100 [vr s, vi k] (S, I, T, cc, zz) (FN (some (vi 0)) (S, I, T, cc, zz)) := by
  refine CL_start (r := 0) (ls := [vr s, vi k]) (rk_100 _) rfl ?_
  refine w_iln l_100_0 rfl ?_
  refine w_zlt 12 l_100_1 (by decide) (fun h1 => ?_) (fun h1 => ?_)
  · skip
    refine w_ic l_100_12 (by decide) ?_
    refine w_ir l_100_13 (by decide) ?_
    exact ⟨rfl, rfl⟩
  · skip
    refine w_iln l_100_4 rfl ?_
    refine w_aln l_100_5 rfl ?_
    refine w_gi ((n : Nat) : Int) l_100_6 (oDropSwitch_sh o) H.1 ?_
    refine w_cle 14 l_100_9 (by decide) (fun h2 => ?_) (fun h2 => ?_)
    · skip
      exfalso
      omega
    · skip
      refine w_ic l_100_12 (by decide) ?_
      refine w_ir l_100_13 (by decide) ?_
      exact ⟨rfl, rfl⟩

theorem mx_102 : mxl 102 = 1 := by decide +kernel
theorem mt_102 : mtc 102 = 9 := by decide +kernel
theorem rk_102 (as : List AV) : rkA 102 as = 0 := rfl
theorem l_102_0 : look 102 0 = some (.aload_n 0, 1, 0, 0, 0, 0) := by decide +kernel
theorem l_102_1 : look 102 1 = some (.getfield 17, 3, 9, 2, 0, 540) := by decide +kernel
theorem l_102_4 : look 102 4 = some (.ireturn, 1, 0, 0, 0, 0) := by decide +kernel

theorem s_102 (o : oDropSwitch S T s q y) : CL xs 102 [vr s] (S, I, T, cc, zz) (FN (some (vi (I s 2))) (S, I, T, cc, zz)) := by
  refine CL_start (r := 0) (ls := [vr s]) (rk_102 _) rfl ?_
  refine w_aln l_102_0 rfl ?_
  refine w_gi (I s 2) l_102_1 (oDropSwitch_sh o) rfl ?_
  refine w_ir l_102_4 (Or.inl rfl) ?_
  exact ⟨rfl, rfl⟩

theorem mx_103 : mxl 103 = 1 := by decide +kernel
theorem mt_103 : mtc 103 = 9 := by decide +kernel
theorem rk_103 (as : List AV) : rkA 103 as = 0 := rfl
theorem l_103_0 : look 103 0 = some (.aload_n 0, 1, 0, 0, 0, 0) := by decide +kernel
theorem l_103_1 : look 103 1 = some (.getfield 20, 3, 9, 3, 0, 541) := by decide +kernel
theorem l_103_4 : look 103 4 = some (.ireturn, 1, 0, 0, 0, 0) := by decide +kernel

theorem s_103 (o : oDropSwitch S T s q y) : CL xs 103 [vr s] (S, I, T, cc, zz) (FN (some (vi (I s 3))) (S, I, T, cc, zz)) := by
  refine CL_start (r := 0) (ls := [vr s]) (rk_103 _) rfl ?_
  refine w_aln l_103_0 rfl ?_
  refine w_gi (I s 3) l_103_1 (oDropSwitch_sh o) rfl ?_
  refine w_ir l_103_4 (Or.inl rfl) ?_
  exact ⟨rfl, rfl⟩

theorem mx_168 : mxl 168 = 1 := by decide +kernel
theorem mt_168 : mtc 168 = 10 := by decide +kernel
theorem rk_168 (as : List AV) : rkA 168 as = 0 := rfl
theorem l_168_0 : look 168 0 = some (.aload_n 0, 1, 0, 0, 0, 0) := by decide +kernel
theorem l_168_1 : look 168 1 = some (.getfield 152, 3, 10, 0, 0, 1501) := by decide +kernel
theorem l_168_4 : look 168 4 = some (.ireturn, 1, 0, 0, 0, 0) := by decide +kernel

theorem s_168 (hm : oModel S T s) : CL xs 168 [vr s] (S, I, T, cc, zz) (FN (some (vi (I s 0))) (S, I, T, cc, zz)) := by
  refine CL_start (r := 0) (ls := [vr s]) (rk_168 _) rfl ?_
  refine w_aln l_168_0 rfl ?_
  refine w_gi (I s 0) l_168_1 (oModel_sh hm) rfl ?_
  refine w_ir l_168_4 (Or.inl rfl) ?_
  exact ⟨rfl, rfl⟩

theorem mx_199 : mxl 199 = 1 := by decide +kernel
theorem mt_199 : mtc 199 = 10 := by decide +kernel
theorem rk_199 (as : List AV) : rkA 199 as = 0 := rfl
theorem l_199_0 : look 199 0 = some (.aload_n 0, 1, 0, 0, 0, 0) := by decide +kernel
theorem l_199_1 : look 199 1 = some (.iconst 0, 1, 0, 0, 0, 0) := by decide +kernel
theorem l_199_2 : look 199 2 = some (.putfield 152, 3, 10, 0, 0, 1501) := by decide +kernel
theorem l_199_5 : look 199 5 = some (.aload_n 0, 1, 0, 0, 0, 0) := by decide +kernel
theorem l_199_6 : look 199 6 = some (.getfield 59, 3, 10, 23, 0, 1524) := by decide +kernel
theorem l_199_9 : look 199 9 = some (.ireturn, 1, 0, 0, 0, 0) := by decide +kernel

theorem s_199 (hm : oModel S T s) : CL xs 199 [vr s] (S, I, T, cc, zz) (FN (some (vi (I s 23))) (S, up I s 0 0, T, cc, zz)) := by
  refine CL_start (r := 0) (ls := [vr s]) (rk_199 _) rfl ?_
  refine w_aln l_199_0 rfl ?_
  refine w_ic l_199_1 (by decide) ?_
  refine w_pi l_199_2 (oModel_sh hm) ?_
  refine w_aln l_199_5 rfl ?_
  refine w_gi (I s 23) l_199_6 (oModel_sh hm) ((up_nj (by omega)).trans (rfl)) ?_
  refine w_ir l_199_9 (Or.inl rfl) ?_
  exact ⟨rfl, rfl⟩

theorem mx_200 : mxl 200 = 1 := by decide +kernel
theorem mt_200 : mtc 200 = 10 := by decide +kernel
theorem rk_200 (as : List AV) : rkA 200 as = 0 := rfl
theorem l_200_0 : look 200 0 = some (.aload_n 0, 1, 0, 0, 0, 0) := by decide +kernel
theorem l_200_1 : look 200 1 = some (.iconst 0, 1, 0, 0, 0, 0) := by decide +kernel
theorem l_200_2 : look 200 2 = some (.putfield 152, 3, 10, 0, 0, 1501) := by decide +kernel
theorem l_200_5 : look 200 5 = some (.aload_n 0, 1, 0, 0, 0, 0) := by decide +kernel
theorem l_200_6 : look 200 6 = some (.getfield 168, 3, 10, 24, 0, 1525) := by decide +kernel
theorem l_200_9 : look 200 9 = some (.ireturn, 1, 0, 0, 0, 0) := by decide +kernel

theorem s_200 (hm : oModel S T s) : CL xs 200 [vr s] (S, I, T, cc, zz) (FN (some (vi (I s 24))) (S, up I s 0 0, T, cc, zz)) := by
  refine CL_start (r := 0) (ls := [vr s]) (rk_200 _) rfl ?_
  refine w_aln l_200_0 rfl ?_
  refine w_ic l_200_1 (by decide) ?_
  refine w_pi l_200_2 (oModel_sh hm) ?_
  refine w_aln l_200_5 rfl ?_
  refine w_gi (I s 24) l_200_6 (oModel_sh hm) ((up_nj (by omega)).trans (rfl)) ?_
  refine w_ir l_200_9 (Or.inl rfl) ?_
  exact ⟨rfl, rfl⟩

theorem mx_172 : mxl 172 = 2 := by decide +kernel
theorem mt_172 : mtc 172 = 10 := by decide +kernel
theorem rk_172 (as : List AV) : rkA 172 as = 0 := rfl
theorem l_172_0 : look 172 0 = some (.aload_n 0, 1, 0, 0, 0, 0) := by decide +kernel
theorem l_172_1 : look 172 1 = some (.iconst 0, 1, 0, 0, 0, 0) := by decide +kernel
theorem l_172_2 : look 172 2 = some (.putfield 152, 3, 10, 0, 0, 1501) := by decide +kernel
theorem l_172_5 : look 172 5 = some (.iload_n 1, 1, 0, 0, 0, 0) := by decide +kernel
theorem l_172_6 : look 172 6 = some (.ifCond .lt 11, 3, 0, 0, 0, 0) := by decide +kernel
theorem l_172_9 : look 172 9 = some (.iload_n 1, 1, 0, 0, 0, 0) := by decide +kernel
theorem l_172_10 : look 172 10 = some (.aload_n 0, 1, 0, 0, 0, 0) := by decide +kernel
theorem l_172_11 : look 172 11 = some (.getfield 155, 3, 10, 20, 0, 1521) := by decide +kernel
theorem l_172_14 : look 172 14 = some (.if_icmp .le 5, 3, 0, 0, 0, 0) := by decide +kernel
theorem l_172_17 : look 172 17 = some (.iconst 0, 1, 0, 0, 0, 0) := by decide +kernel
theorem l_172_18 : look 172 18 = some (.ireturn, 1, 0, 0, 1, 0) := by decide +kernel
theorem l_172_19 : look 172 19 = some (.aload_n 0, 1, 0, 0, 0, 0) := by decide +kernel
theorem l_172_20 : look 172 20 = some (.iload_n 1, 1, 0, 0, 0, 0) := by decide +kernel
theorem l_172_21 : look 172 21 = some (.putfield 155, 3, 10, 20, 0, 1521) := by decide +kernel
theorem l_172_24 : look 172 24 = some (.iconst 1, 1, 0, 0, 0, 0) := by decide +kernel
theorem l_172_25 : look 172 25 = some (.ireturn, 1, 0, 0, 1, 0) := by decide +kernel

theorem s_172 (hm : oModel S T s) {n k : Nat} {bf : Nat → Int} (H : mIn I s bf n) (hk : k ≤ n) : CL xs 172 [vr s, vi ((k : Nat) : Int)] (S, I, T, cc, zz) (RP S T cc zz (fun v I' => v = some (vi 1) ∧ I' s 0 = 0 ∧ mIn I' s bf k ∧ ∀ y z, (y = s → z ≠ 0 ∧ z ≠ 20) → y ≠ s + 12 → I' y z = I y z)) := by
  refine CL_start (r := 0) (ls := [vr s, vi ((k : Nat) : Int)]) (rk_172 _) rfl ?_
  refine w_aln l_172_0 rfl ?_
  refine w_ic l_172_1 (by decide) ?_
  refine w_pi l_172_2 (oModel_sh hm) ?_
  refine w_iln l_172_5 rfl ?_
  refine w_zlt 17 l_172_6 (by decide) (fun hx => absurd hx (by omega)) (fun _ => ?_)
  refine w_iln l_172_9 rfl ?_
  refine w_aln l_172_10 rfl ?_
  refine w_gi ((n : Nat) : Int) l_172_11 (oModel_sh hm) ((up_nj (by omega)).trans (H.1)) ?_
  refine w_cle 19 l_172_14 (by decide) (fun _ => ?_) (fun hx => absurd hx (by omega))
  refine w_aln l_172_19 rfl ?_
  refine w_iln l_172_20 rfl ?_
  refine w_pi l_172_21 (oModel_sh hm) ?_
  refine w_ic l_172_24 (by decide) ?_
  refine w_ir l_172_25 (by decide) ?_
  refine ⟨_, _, rfl, rfl, rfl, (up_nj (by decide)).trans up_eq, ⟨up_eq, by have := H.2.1; omega, fun j hj => (up_no (by omega)).trans ((up_no (by omega)).trans (H.2.2 j (by omega)))⟩, fun y z h1 h2 => (up_out (by omega)).trans (up_out (by omega))⟩

theorem s_172n (hm : oModel S T s) {n : Nat} {k : Int} {bf : Nat → Int} (H : mIn I s bf n) (hk : ¬ (0 ≤ k ∧ k ≤ ((n : Nat) : Int))) : CL xs 172 [vr s, vi k] (S, I, T, cc, zz) (FN (some (vi 0)) (S, up I s 0 0, T, cc, zz)) := by
  refine CL_start (r := 0) (ls := [vr s, vi k]) (rk_172 _) rfl ?_
  refine w_aln l_172_0 rfl ?_
  refine w_ic l_172_1 (by decide) ?_
  refine w_pi l_172_2 (oModel_sh hm) ?_
  refine w_iln l_172_5 rfl ?_
  refine w_zlt 17 l_172_6 (by decide) (fun h1 => ?_) (fun h1 => ?_)
  · skip
    refine w_ic l_172_17 (by decide) ?_
    refine w_ir l_172_18 (by decide) ?_
    exact ⟨rfl, rfl⟩
  · skip
    refine w_iln l_172_9 rfl ?_
    refine w_aln l_172_10 rfl ?_
    refine w_gi ((n : Nat) : Int) l_172_11 (oModel_sh hm) ((up_nj (by omega)).trans (H.1)) ?_
    refine w_cle 19 l_172_14 (by decide) (fun h2 => ?_) (fun h2 => ?_)
    · skip
      exfalso
      omega
    · skip
      refine w_ic l_172_17 (by decide) ?_
      refine w_ir l_172_18 (by decide) ?_
      exact ⟨rfl, rfl⟩

theorem mx_171 : mxl 171 = 8 := by decide +kernel
theorem mt_171 : mtc 171 = 10 := by decide +kernel
theorem rk_171 (as : List AV) : rkA 171 as = 0 := rfl
theorem l_171_0 : look 171 0 = some (.aload_n 0, 1, 0, 0, 0, 0) := by decide +kernel
theorem l_171_1 : look 171 1 = some (.iconst 0, 1, 0, 0, 0, 0) := by decide +kernel
theorem l_171_2 : look 171 2 = some (.putfield 152, 3, 10, 0, 0, 1501) := by decide +kernel
theorem l_171_5 : look 171 5 = some (.aload_n 0, 1, 0, 0, 0, 0) := by decide +kernel
theorem l_171_6 : look 171 6 = some (.getfield 155, 3, 10, 20, 0, 1521) := by decide +kernel
theorem l_171_9 : look 171 9 = some (.bipush 20, 2, 0, 0, 0, 0) := by decide +kernel
theorem l_171_11 : look 171 11 = some (.iadd, 1, 0, 0, 0, 0) := by decide +kernel
theorem l_171_12 : look 171 12 = some (.sipush 600, 3, 0, 0, 0, 0) := by decide +kernel
theorem l_171_15 : look 171 15 = some (.if_icmp .le 5, 3, 0, 0, 0, 0) := by decide +kernel
theorem l_171_18 : look 171 18 = some (.iconst (-1), 1, 0, 0, 0, 0) := by decide +kernel
theorem l_171_19 : look 171 19 = some (.ireturn, 1, 0, 0, 0, 0) := by decide +kernel
theorem l_171_20 : look 171 20 = some (.iconst 0, 1, 0, 0, 0, 0) := by decide +kernel
theorem l_171_21 : look 171 21 = some (.istore 6, 2, 0, 0, 0, 0) := by decide +kernel
theorem l_171_23 : look 171 23 = some (.iload 6, 2, 0, 0, 0, 0) := by decide +kernel
theorem l_171_25 : look 171 25 = some (.bipush 20, 2, 0, 0, 0, 0) := by decide +kernel
theorem l_171_27 : look 171 27 = some (.if_icmp .ge 90, 3, 0, 0, 0, 0) := by decide +kernel
theorem l_171_30 : look 171 30 = some (.iload 6, 2, 0, 0, 0, 0) := by decide +kernel
theorem l_171_32 : look 171 32 = some (.iconst 4, 1, 0, 0, 0, 0) := by decide +kernel
theorem l_171_33 : look 171 33 = some (.if_icmp .ge 7, 3, 0, 0, 0, 0) := by decide +kernel
theorem l_171_36 : look 171 36 = some (.iload_n 1, 1, 0, 0, 0, 0) := by decide +kernel
theorem l_171_37 : look 171 37 = some (.goto 39, 3, 0, 0, 0, 0) := by decide +kernel
theorem l_171_40 : look 171 40 = some (.iload 6, 2, 0, 0, 0, 0) := by decide +kernel
theorem l_171_42 : look 171 42 = some (.bipush 8, 2, 0, 0, 0, 0) := by decide +kernel
theorem l_171_44 : look 171 44 = some (.if_icmp .ge 7, 3, 0, 0, 0, 0) := by decide +kernel
theorem l_171_47 : look 171 47 = some (.iload_n 2, 1, 0, 0, 0, 0) := by decide +kernel
theorem l_171_48 : look 171 48 = some (.goto 28, 3, 0, 0, 0, 0) := by decide +kernel
theorem l_171_51 : look 171 51 = some (.iload 6, 2, 0, 0, 0, 0) := by decide +kernel
theorem l_171_53 : look 171 53 = some (.bipush 12, 2, 0, 0, 0, 0) := by decide +kernel
theorem l_171_55 : look 171 55 = some (.if_icmp .ge 7, 3, 0, 0, 0, 0) := by decide +kernel
theorem l_171_58 : look 171 58 = some (.iload_n 3, 1, 0, 0, 0, 0) := by decide +kernel
theorem l_171_59 : look 171 59 = some (.goto 17, 3, 0, 0, 0, 0) := by decide +kernel
theorem l_171_62 : look 171 62 = some (.iload 6, 2, 0, 0, 0, 0) := by decide +kernel
theorem l_171_64 : look 171 64 = some (.bipush 16, 2, 0, 0, 0, 0) := by decide +kernel
theorem l_171_66 : look 171 66 = some (.if_icmp .ge 8, 3, 0, 0, 0, 0) := by decide +kernel
theorem l_171_69 : look 171 69 = some (.iload 4, 2, 0, 0, 0, 0) := by decide +kernel
theorem l_171_71 : look 171 71 = some (.goto 5, 3, 0, 0, 0, 0) := by decide +kernel
theorem l_171_74 : look 171 74 = some (.iload 5, 2, 0, 0, 0, 0) := by decide +kernel
theorem l_171_76 : look 171 76 = some (.istore 7, 2, 0, 0, 0, 0) := by decide +kernel
theorem l_171_78 : look 171 78 = some (.aload_n 0, 1, 0, 0, 0, 0) := by decide +kernel
theorem l_171_79 : look 171 79 = some (.getfield 55, 3, 10, 19, 2, 1520) := by decide +kernel
theorem l_171_82 : look 171 82 = some (.aload_n 0, 1, 0, 0, 0, 0) := by decide +kernel
theorem l_171_83 : look 171 83 = some (.getfield 155, 3, 10, 20, 0, 1521) := by decide +kernel
theorem l_171_86 : look 171 86 = some (.iload 7, 2, 0, 0, 0, 0) := by decide +kernel
theorem l_171_88 : look 171 88 = some (.bipush 24, 2, 0, 0, 0, 0) := by decide +kernel
theorem l_171_90 : look 171 90 = some (.bipush 8, 2, 0, 0, 0, 0) := by decide +kernel
theorem l_171_92 : look 171 92 = some (.iload 6, 2, 0, 0, 0, 0) := by decide +kernel
theorem l_171_94 : look 171 94 = some (.iconst 4, 1, 0, 0, 0, 0) := by decide +kernel
theorem l_171_95 : look 171 95 = some (.irem, 1, 0, 0, 0, 0) := by decide +kernel
theorem l_171_96 : look 171 96 = some (.imul, 1, 0, 0, 0, 0) := by decide +kernel
theorem l_171_97 : look 171 97 = some (.isub, 1, 0, 0, 0, 0) := by decide +kernel
theorem l_171_98 : look 171 98 = some (.ishr, 1, 0, 0, 0, 0) := by decide +kernel
theorem l_171_99 : look 171 99 = some (.i2b, 1, 0, 0, 0, 0) := by decide +kernel
theorem l_171_100 : look 171 100 = some (.bastore, 1, 0, 0, 0, 0) := by decide +kernel
theorem l_171_101 : look 171 101 = some (.aload_n 0, 1, 0, 0, 0, 0) := by decide +kernel
theorem l_171_102 : look 171 102 = some (.dup, 1, 0, 0, 0, 0) := by decide +kernel
theorem l_171_103 : look 171 103 = some (.getfield 155, 3, 10, 20, 0, 1521) := by decide +kernel
theorem l_171_106 : look 171 106 = some (.iconst 1, 1, 0, 0, 0, 0) := by decide +kernel
theorem l_171_107 : look 171 107 = some (.iadd, 1, 0, 0, 0, 0) := by decide +kernel
theorem l_171_108 : look 171 108 = some (.putfield 155, 3, 10, 20, 0, 1521) := by decide +kernel
theorem l_171_111 : look 171 111 = some (.iinc 6 1, 3, 0, 0, 0, 0) := by decide +kernel
theorem l_171_114 : look 171 114 = some (.goto (-91), 3, 0, 0, 0, 0) := by decide +kernel
theorem l_171_117 : look 171 117 = some (.aload_n 0, 1, 0, 0, 0, 0) := by decide +kernel
theorem l_171_118 : look 171 118 = some (.getfield 155, 3, 10, 20, 0, 1521) := by decide +kernel
theorem l_171_121 : look 171 121 = some (.ireturn, 1, 0, 0, 0, 0) := by decide +kernel

theorem lp_171 {I0 : Ix} (hm : oModel S T s) {w0 w1 w2 w3 w4 : Int} {n : Nat} (h600 : n + 20 ≤ 600) : ∀ d k (I : Ix) (v7 : AV), k + d = 20 → I s 20 = ((n + k : Nat) : Int) → (∀ y z, (y = s → z ≠ 20) → (y = s + 12 → z < n) → I y z = I0 y z) → (∀ j, j < k → I (s + 12) (n + j) = apB w0 w1 w2 w3 w4 j) → WP xs 171 0 23 [vr s, vi w0, vi w1, vi w2, vi w3, vi w4, vi ((k : Nat) : Int), v7] [] (S, I, T, cc, zz) (RP S T cc zz (fun v I' => v = some (vi ((n + 20 : Nat) : Int)) ∧ I' s 20 = ((n + 20 : Nat) : Int) ∧ (∀ j, j < 20 → I' (s + 12) (n + j) = apB w0 w1 w2 w3 w4 j) ∧ (∀ y z, (y = s → z ≠ 20) → (y = s + 12 → z < n) → I' y z = I0 y z))) := by
  intro d
  induction d with
  | zero =>
    intro k I v7 hk h20 hf hb
    refine w_il l_171_23 rfl ?_
    refine w_bp l_171_25 (by decide) ?_
    refine w_cge 117 l_171_27 (by decide) (fun _ => ?_) (fun hx => absurd hx (by omega))
    refine w_aln l_171_117 rfl ?_
    refine w_gi (((n + k) : Nat) : Int) l_171_118 (oModel_sh hm) h20 ?_
    refine w_ir l_171_121 (Or.inl rfl) ?_
    have e9 : k = 20 := by omega
    subst e9
    exact ⟨_, _, rfl, rfl, rfl, h20, hb, hf⟩
  | succ d ih =>
    intro k I v7 hk h20 hf hb
    refine w_il l_171_23 rfl ?_
    refine w_bp l_171_25 (by decide) ?_
    refine w_cge 117 l_171_27 (by decide) (fun hx => absurd hx (by omega)) (fun _ => ?_)
    refine w_il l_171_30 rfl ?_
    refine w_ic l_171_32 (by decide) ?_
    refine w_cge 40 l_171_33 (by decide) (fun h1 => ?_) (fun h1 => ?_)
    · skip
      refine w_il l_171_40 rfl ?_
      refine w_bp l_171_42 (by decide) ?_
      refine w_cge 51 l_171_44 (by decide) (fun h2 => ?_) (fun h2 => ?_)
      · skip
        refine w_il l_171_51 rfl ?_
        refine w_bp l_171_53 (by decide) ?_
        refine w_cge 62 l_171_55 (by decide) (fun h3 => ?_) (fun h3 => ?_)
        · skip
          refine w_il l_171_62 rfl ?_
          refine w_bp l_171_64 (by decide) ?_
          refine w_cge 74 l_171_66 (by decide) (fun h4 => ?_) (fun h4 => ?_)
          · skip
            have hws : w4 = wsel w0 w1 w2 w3 w4 k := by
              unfold wsel
              rw [if_neg (by omega), if_neg (by omega), if_neg (by omega), if_neg (by omega)]
            refine w_il l_171_74 rfl ?_
            refine w_is l_171_76 ⟨Nat.le_of_ble_eq_true rfl, rfl⟩ ?_
            refine w_aln l_171_78 rfl ?_
            refine w_gr l_171_79 (oModel_sh hm) (oModel_r19 hm) ?_
            refine w_aln l_171_82 rfl ?_
            refine w_gi (((n + k) : Nat) : Int) l_171_83 (oModel_sh hm) h20 ?_
            refine w_il l_171_86 rfl ?_
            refine w_bp l_171_88 (by decide) ?_
            refine w_bp l_171_90 (by decide) ?_
            refine w_il l_171_92 rfl ?_
            refine w_ic l_171_94 (by decide) ?_
            refine w_rem (((k % 4) : Nat) : Int) l_171_95 (by decide) rfl ?_
            refine w_mul (((8 * (k % 4)) : Nat) : Int) l_171_96 (by unfold wr; omega) ?_
            refine w_sub (((24 - 8 * (k % 4)) : Nat) : Int) l_171_97 (by unfold wr; omega) ?_
            refine w_shr (a2 (fun x y => x >>> (y &&& 31)) w4 ((24 - 8 * (k % 4) : Nat) : Int)) l_171_98 rfl ?_
            refine w_i2b (sby (wsel w0 w1 w2 w3 w4 k) (k % 4)) l_171_99 (congrArg (fun w9 => sby w9 (k % 4)) hws) ?_
            refine w_bS (n + k) (sby (wsel w0 w1 w2 w3 w4 k) (k % 4)) l_171_100 (oModel_s19 hm) rfl (by omega) (wb_sby _ _) ?_
            refine w_aln l_171_101 rfl ?_
            refine w_dup l_171_102 rfl ?_
            refine w_gi (((n + k) : Nat) : Int) l_171_103 (oModel_sh hm) ((up_no (by omega)).trans (h20)) ?_
            refine w_ic l_171_106 (by decide) ?_
            refine w_add (((n + k + 1) : Nat) : Int) l_171_107 (by unfold wr; omega) ?_
            refine w_pi l_171_108 (oModel_sh hm) ?_
            refine w_inc ((k + 1 : Nat) : Int) l_171_111 rfl rfl (by unfold wr; omega) ?_
            refine w_go 23 l_171_114 (by decide) ?_
            refine ih (k + 1) _ _ (by omega) up_eq (fun y z h1 h2 => (up_out (by omega)).trans ((up_out (by omega)).trans (hf y z h1 h2))) (fun j hj => ?_)
            rw [up_no (by omega)]
            by_cases hjk : j = k
            · rw [hjk]; exact up_eq
            · exact (up_nj (by omega)).trans (hb j (by omega))
          · skip
            have hws : w3 = wsel w0 w1 w2 w3 w4 k := by
              unfold wsel
              rw [if_neg (by omega), if_neg (by omega), if_neg (by omega), if_pos (by omega)]
            refine w_il l_171_69 rfl ?_
            refine w_go 76 l_171_71 (by decide) ?_
            refine w_is l_171_76 ⟨Nat.le_of_ble_eq_true rfl, rfl⟩ ?_
            refine w_aln l_171_78 rfl ?_
            refine w_gr l_171_79 (oModel_sh hm) (oModel_r19 hm) ?_
            refine w_aln l_171_82 rfl ?_
            refine w_gi (((n + k) : Nat) : Int) l_171_83 (oModel_sh hm) h20 ?_
            refine w_il l_171_86 rfl ?_
            refine w_bp l_171_88 (by decide) ?_
            refine w_bp l_171_90 (by decide) ?_
            refine w_il l_171_92 rfl ?_
            refine w_ic l_171_94 (by decide) ?_
            refine w_rem (((k % 4) : Nat) : Int) l_171_95 (by decide) rfl ?_
            refine w_mul (((8 * (k % 4)) : Nat) : Int) l_171_96 (by unfold wr; omega) ?_
            refine w_sub (((24 - 8 * (k % 4)) : Nat) : Int) l_171_97 (by unfold wr; omega) ?_
            refine w_shr (a2 (fun x y => x >>> (y &&& 31)) w3 ((24 - 8 * (k % 4) : Nat) : Int)) l_171_98 rfl ?_
            refine w_i2b (sby (wsel w0 w1 w2 w3 w4 k) (k % 4)) l_171_99 (congrArg (fun w9 => sby w9 (k % 4)) hws) ?_
            refine w_bS (n + k) (sby (wsel w0 w1 w2 w3 w4 k) (k % 4)) l_171_100 (oModel_s19 hm) rfl (by omega) (wb_sby _ _) ?_
            refine w_aln l_171_101 rfl ?_
            refine w_dup l_171_102 rfl ?_
            refine w_gi (((n + k) : Nat) : Int) l_171_103 (oModel_sh hm) ((up_no (by omega)).trans (h20)) ?_
            refine w_ic l_171_106 (by decide) ?_
            refine w_add (((n + k + 1) : Nat) : Int) l_171_107 (by unfold wr; omega) ?_
            refine w_pi l_171_108 (oModel_sh hm) ?_
            refine w_inc ((k + 1 : Nat) : Int) l_171_111 rfl rfl (by unfold wr; omega) ?_
            refine w_go 23 l_171_114 (by decide) ?_
            refine ih (k + 1) _ _ (by omega) up_eq (fun y z h1 h2 => (up_out (by omega)).trans ((up_out (by omega)).trans (hf y z h1 h2))) (fun j hj => ?_)
            rw [up_no (by omega)]
            by_cases hjk : j = k
            · rw [hjk]; exact up_eq
            · exact (up_nj (by omega)).trans (hb j (by omega))
        · skip
          have hws : w2 = wsel w0 w1 w2 w3 w4 k := by
            unfold wsel
            rw [if_neg (by omega), if_neg (by omega), if_pos (by omega)]
          refine w_iln l_171_58 rfl ?_
          refine w_go 76 l_171_59 (by decide) ?_
          refine w_is l_171_76 ⟨Nat.le_of_ble_eq_true rfl, rfl⟩ ?_
          refine w_aln l_171_78 rfl ?_
          refine w_gr l_171_79 (oModel_sh hm) (oModel_r19 hm) ?_
          refine w_aln l_171_82 rfl ?_
          refine w_gi (((n + k) : Nat) : Int) l_171_83 (oModel_sh hm) h20 ?_
          refine w_il l_171_86 rfl ?_
          refine w_bp l_171_88 (by decide) ?_
          refine w_bp l_171_90 (by decide) ?_
          refine w_il l_171_92 rfl ?_
          refine w_ic l_171_94 (by decide) ?_
          refine w_rem (((k % 4) : Nat) : Int) l_171_95 (by decide) rfl ?_
          refine w_mul (((8 * (k % 4)) : Nat) : Int) l_171_96 (by unfold wr; omega) ?_
          refine w_sub (((24 - 8 * (k % 4)) : Nat) : Int) l_171_97 (by unfold wr; omega) ?_
          refine w_shr (a2 (fun x y => x >>> (y &&& 31)) w2 ((24 - 8 * (k % 4) : Nat) : Int)) l_171_98 rfl ?_
          refine w_i2b (sby (wsel w0 w1 w2 w3 w4 k) (k % 4)) l_171_99 (congrArg (fun w9 => sby w9 (k % 4)) hws) ?_
          refine w_bS (n + k) (sby (wsel w0 w1 w2 w3 w4 k) (k % 4)) l_171_100 (oModel_s19 hm) rfl (by omega) (wb_sby _ _) ?_
          refine w_aln l_171_101 rfl ?_
          refine w_dup l_171_102 rfl ?_
          refine w_gi (((n + k) : Nat) : Int) l_171_103 (oModel_sh hm) ((up_no (by omega)).trans (h20)) ?_
          refine w_ic l_171_106 (by decide) ?_
          refine w_add (((n + k + 1) : Nat) : Int) l_171_107 (by unfold wr; omega) ?_
          refine w_pi l_171_108 (oModel_sh hm) ?_
          refine w_inc ((k + 1 : Nat) : Int) l_171_111 rfl rfl (by unfold wr; omega) ?_
          refine w_go 23 l_171_114 (by decide) ?_
          refine ih (k + 1) _ _ (by omega) up_eq (fun y z h1 h2 => (up_out (by omega)).trans ((up_out (by omega)).trans (hf y z h1 h2))) (fun j hj => ?_)
          rw [up_no (by omega)]
          by_cases hjk : j = k
          · rw [hjk]; exact up_eq
          · exact (up_nj (by omega)).trans (hb j (by omega))
      · skip
        have hws : w1 = wsel w0 w1 w2 w3 w4 k := by
          unfold wsel
          rw [if_neg (by omega), if_pos (by omega)]
        refine w_iln l_171_47 rfl ?_
        refine w_go 76 l_171_48 (by decide) ?_
        refine w_is l_171_76 ⟨Nat.le_of_ble_eq_true rfl, rfl⟩ ?_
        refine w_aln l_171_78 rfl ?_
        refine w_gr l_171_79 (oModel_sh hm) (oModel_r19 hm) ?_
        refine w_aln l_171_82 rfl ?_
        refine w_gi (((n + k) : Nat) : Int) l_171_83 (oModel_sh hm) h20 ?_
        refine w_il l_171_86 rfl ?_
        refine w_bp l_171_88 (by decide) ?_
        refine w_bp l_171_90 (by decide) ?_
        refine w_il l_171_92 rfl ?_
        refine w_ic l_171_94 (by decide) ?_
        refine w_rem (((k % 4) : Nat) : Int) l_171_95 (by decide) rfl ?_
        refine w_mul (((8 * (k % 4)) : Nat) : Int) l_171_96 (by unfold wr; omega) ?_
        refine w_sub (((24 - 8 * (k % 4)) : Nat) : Int) l_171_97 (by unfold wr; omega) ?_
        refine w_shr (a2 (fun x y => x >>> (y &&& 31)) w1 ((24 - 8 * (k % 4) : Nat) : Int)) l_171_98 rfl ?_
        refine w_i2b (sby (wsel w0 w1 w2 w3 w4 k) (k % 4)) l_171_99 (congrArg (fun w9 => sby w9 (k % 4)) hws) ?_
        refine w_bS (n + k) (sby (wsel w0 w1 w2 w3 w4 k) (k % 4)) l_171_100 (oModel_s19 hm) rfl (by omega) (wb_sby _ _) ?_
        refine w_aln l_171_101 rfl ?_
        refine w_dup l_171_102 rfl ?_
        refine w_gi (((n + k) : Nat) : Int) l_171_103 (oModel_sh hm) ((up_no (by omega)).trans (h20)) ?_
        refine w_ic l_171_106 (by decide) ?_
        refine w_add (((n + k + 1) : Nat) : Int) l_171_107 (by unfold wr; omega) ?_
        refine w_pi l_171_108 (oModel_sh hm) ?_
        refine w_inc ((k + 1 : Nat) : Int) l_171_111 rfl rfl (by unfold wr; omega) ?_
        refine w_go 23 l_171_114 (by decide) ?_
        refine ih (k + 1) _ _ (by omega) up_eq (fun y z h1 h2 => (up_out (by omega)).trans ((up_out (by omega)).trans (hf y z h1 h2))) (fun j hj => ?_)
        rw [up_no (by omega)]
        by_cases hjk : j = k
        · rw [hjk]; exact up_eq
        · exact (up_nj (by omega)).trans (hb j (by omega))
    · skip
      have hws : w0 = wsel w0 w1 w2 w3 w4 k := by
        unfold wsel
        rw [if_pos (by omega)]
      refine w_iln l_171_36 rfl ?_
      refine w_go 76 l_171_37 (by decide) ?_
      refine w_is l_171_76 ⟨Nat.le_of_ble_eq_true rfl, rfl⟩ ?_
      refine w_aln l_171_78 rfl ?_
      refine w_gr l_171_79 (oModel_sh hm) (oModel_r19 hm) ?_
      refine w_aln l_171_82 rfl ?_
      refine w_gi (((n + k) : Nat) : Int) l_171_83 (oModel_sh hm) h20 ?_
      refine w_il l_171_86 rfl ?_
      refine w_bp l_171_88 (by decide) ?_
      refine w_bp l_171_90 (by decide) ?_
      refine w_il l_171_92 rfl ?_
      refine w_ic l_171_94 (by decide) ?_
      refine w_rem (((k % 4) : Nat) : Int) l_171_95 (by decide) rfl ?_
      refine w_mul (((8 * (k % 4)) : Nat) : Int) l_171_96 (by unfold wr; omega) ?_
      refine w_sub (((24 - 8 * (k % 4)) : Nat) : Int) l_171_97 (by unfold wr; omega) ?_
      refine w_shr (a2 (fun x y => x >>> (y &&& 31)) w0 ((24 - 8 * (k % 4) : Nat) : Int)) l_171_98 rfl ?_
      refine w_i2b (sby (wsel w0 w1 w2 w3 w4 k) (k % 4)) l_171_99 (congrArg (fun w9 => sby w9 (k % 4)) hws) ?_
      refine w_bS (n + k) (sby (wsel w0 w1 w2 w3 w4 k) (k % 4)) l_171_100 (oModel_s19 hm) rfl (by omega) (wb_sby _ _) ?_
      refine w_aln l_171_101 rfl ?_
      refine w_dup l_171_102 rfl ?_
      refine w_gi (((n + k) : Nat) : Int) l_171_103 (oModel_sh hm) ((up_no (by omega)).trans (h20)) ?_
      refine w_ic l_171_106 (by decide) ?_
      refine w_add (((n + k + 1) : Nat) : Int) l_171_107 (by unfold wr; omega) ?_
      refine w_pi l_171_108 (oModel_sh hm) ?_
      refine w_inc ((k + 1 : Nat) : Int) l_171_111 rfl rfl (by unfold wr; omega) ?_
      refine w_go 23 l_171_114 (by decide) ?_
      refine ih (k + 1) _ _ (by omega) up_eq (fun y z h1 h2 => (up_out (by omega)).trans ((up_out (by omega)).trans (hf y z h1 h2))) (fun j hj => ?_)
      rw [up_no (by omega)]
      by_cases hjk : j = k
      · rw [hjk]; exact up_eq
      · exact (up_nj (by omega)).trans (hb j (by omega))
theorem s_171 (hm : oModel S T s) {w0 w1 w2 w3 w4 : Int} {n : Nat} {bf : Nat → Int} (H : mIn I s bf n) (h600 : n + 20 ≤ 600) : CL xs 171 [vr s, vi w0, vi w1, vi w2, vi w3, vi w4] (S, I, T, cc, zz) (RP S T cc zz (fun v I' => v = some (vi ((n + 20 : Nat) : Int)) ∧ I' s 0 = 0 ∧ mIn I' s (bfA bf n w0 w1 w2 w3 w4) (n + 20) ∧ ∀ y z, (y = s → z ≠ 0 ∧ z ≠ 20) → y ≠ s + 12 → I' y z = I y z)) := by
  refine CL_start (r := 0) (ls := [vr s, vi w0, vi w1, vi w2, vi w3, vi w4, vs 2, vs 2]) (rk_171 _) rfl ?_
  refine w_aln l_171_0 rfl ?_
  refine w_ic l_171_1 (by decide) ?_
  refine w_pi l_171_2 (oModel_sh hm) ?_
  refine w_aln l_171_5 rfl ?_
  refine w_gi ((n : Nat) : Int) l_171_6 (oModel_sh hm) ((up_nj (by omega)).trans (H.1)) ?_
  refine w_bp l_171_9 (by decide) ?_
  refine w_add ((n + 20 : Nat) : Int) l_171_11 (by unfold wr; omega) ?_
  refine w_sp l_171_12 (by decide) ?_
  refine w_cle 20 l_171_15 (by decide) (fun _ => ?_) (fun hx => absurd hx (by omega))
  refine w_ic l_171_20 (by decide) ?_
  refine w_is l_171_21 ⟨Nat.le_of_ble_eq_true rfl, rfl⟩ ?_
  refine WP_mono (lp_171 (I0 := up I s 0 0) hm h600 20 0 _ _ rfl ((up_nj (by decide)).trans H.1) (fun _ _ _ _ => rfl) (fun j hj => absurd hj (Nat.not_lt_zero j))) ?_
  rintro _ _ ⟨v, I1, rfl, rfl, rfl, g1, g2, g3⟩
  refine ⟨_, _, rfl, rfl, rfl, (g3 s 0 (fun _ => by decide) (by omega)).trans up_eq, ⟨g1, by omega, fun j hj => ?_⟩, fun y z h1 h2 => (g3 y z (by omega) (fun e => absurd e h2)).trans (up_out (by omega))⟩
  unfold bfA
  by_cases hjn : j < n
  · rw [if_pos hjn, g3 _ _ (by omega) (fun _ => hjn), up_no (by omega)]
    exact H.2.2 j hjn
  · rw [if_neg hjn]
    obtain ⟨k, rfl⟩ : ∃ k, j = n + k := ⟨j - n, by omega⟩
    rw [show n + k - n = k by omega]
    exact g2 k (by omega)

theorem s_171n (hm : oModel S T s) {w0 w1 w2 w3 w4 : Int} {n : Nat} {bf : Nat → Int} (H : mIn I s bf n) (h600 : ¬ (n + 20 ≤ 600)) : CL xs 171 [vr s, vi w0, vi w1, vi w2, vi w3, vi w4] (S, I, T, cc, zz) (FN (some (vi (-1))) (S, up I s 0 0, T, cc, zz)) := by
  have hn6 := H.2.1
  refine CL_start (r := 0) (ls := [vr s, vi w0, vi w1, vi w2, vi w3, vi w4, vs 2, vs 2]) (rk_171 _) rfl ?_
  refine w_aln l_171_0 rfl ?_
  refine w_ic l_171_1 (by decide) ?_
  refine w_pi l_171_2 (oModel_sh hm) ?_
  refine w_aln l_171_5 rfl ?_
  refine w_gi ((n : Nat) : Int) l_171_6 (oModel_sh hm) ((up_nj (by omega)).trans (H.1)) ?_
  refine w_bp l_171_9 (by decide) ?_
  refine w_add ((n + 20 : Nat) : Int) l_171_11 (by unfold wr; omega) ?_
  refine w_sp l_171_12 (by decide) ?_
  refine w_cle 20 l_171_15 (by decide) (fun hx => absurd hx (by omega)) (fun _ => ?_)
  refine w_ic l_171_18 (by decide) ?_
  refine w_ir l_171_19 (Or.inl rfl) ?_
  exact ⟨rfl, rfl⟩

end INP
