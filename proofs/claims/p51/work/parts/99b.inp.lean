/-! the input buffers -/
def sby (w : Int) (k : Nat) : Int := wb (a2 (fun x y => x >>> (y &&& 31)) w ((24 - 8 * k : Nat) : Int))
theorem wb_r (x : Int) : -128 ≤ wb x ∧ wb x ≤ 127 := by unfold wb; omega
theorem wb_sby (w : Int) (k : Nat) : wb (sby w k) = sby w k := by
  have h := wb_r (a2 (fun x y => x >>> (y &&& 31)) w ((24 - 8 * k : Nat) : Int))
  show wb (wb _) = wb _
  unfold wb at h ⊢
  omega
def wsel (w0 w1 w2 w3 w4 : Int) (k : Nat) : Int := if k < 4 then w0 else if k < 8 then w1 else if k < 12 then w2 else if k < 16 then w3 else w4
def apB (w0 w1 w2 w3 w4 : Int) (k : Nat) : Int := sby (wsel w0 w1 w2 w3 w4 k) (k % 4)
def bfA (bf : Nat → Int) (n : Nat) (w0 w1 w2 w3 w4 : Int) : Nat → Int := fun j => if j < n then bf j else apB w0 w1 w2 w3 w4 (j - n)
def okBf (bf : Nat → Int) : Prop := ∀ j, -128 ≤ bf j ∧ bf j ≤ 127
theorem bfA_ok {bf : Nat → Int} {n : Nat} {w0 w1 w2 w3 w4 : Int} (H : okBf bf) : okBf (bfA bf n w0 w1 w2 w3 w4) := fun j => by
  unfold bfA
  split
  · exact H j
  · exact wb_r _
/-- the class's input -/
def cIn (I : Ix) (s : Nat) (bf : Nat → Int) (n : Nat) : Prop := I s 1 = (n : Int) ∧ n ≤ 600 ∧ ∀ j, j < n → I (s + 1) j = bf j
/-- the reference's input -/
def mIn (I : Ix) (s : Nat) (bf : Nat → Int) (n : Nat) : Prop := I s 20 = (n : Int) ∧ n ≤ 600 ∧ ∀ j, j < n → I (s + 12) j = bf j
section INP
variable {xs : List Int} {S : List (Nat × Nat)} {T : Nat → Nat → Nat} {cc zz s q y : Nat} {I I' : Ix}

theorem mx_156 : mxl 156 = 3 := by decide +kernel
theorem mt_156 : mtc 156 = 9 := by decide +kernel
theorem rk_156 (as : List AV) : rkA 156 as = 0 := rfl
theorem l_156_0 : look 156 0 = some (.bipush 24, 2, 0, 0, 0, 0) := by decide +kernel
theorem l_156_2 : look 156 2 = some (.istore_n 2, 1, 0, 0, 0, 0) := by decide +kernel
theorem l_156_3 : look 156 3 = some (.iload_n 2, 1, 0, 0, 0, 0) := by decide +kernel
theorem l_156_4 : look 156 4 = some (.ifCond .lt 32, 3, 0, 0, 0, 0) := by decide +kernel
theorem l_156_7 : look 156 7 = some (.aload_n 0, 1, 0, 0, 0, 0) := by decide +kernel
theorem l_156_8 : look 156 8 = some (.getfield 9, 3, 9, 0, 2, 724) := by decide +kernel
theorem l_156_11 : look 156 11 = some (.aload_n 0, 1, 0, 0, 0, 0) := by decide +kernel
theorem l_156_12 : look 156 12 = some (.getfield 13, 3, 9, 1, 0, 725) := by decide +kernel
theorem l_156_15 : look 156 15 = some (.iload_n 1, 1, 0, 0, 0, 0) := by decide +kernel
theorem l_156_16 : look 156 16 = some (.iload_n 2, 1, 0, 0, 0, 0) := by decide +kernel
theorem l_156_17 : look 156 17 = some (.ishr, 1, 0, 0, 0, 0) := by decide +kernel
theorem l_156_18 : look 156 18 = some (.i2b, 1, 0, 0, 0, 0) := by decide +kernel
theorem l_156_19 : look 156 19 = some (.bastore, 1, 0, 0, 0, 0) := by decide +kernel
theorem l_156_20 : look 156 20 = some (.aload_n 0, 1, 0, 0, 0, 0) := by decide +kernel
theorem l_156_21 : look 156 21 = some (.dup, 1, 0, 0, 0, 0) := by decide +kernel
theorem l_156_22 : look 156 22 = some (.getfield 13, 3, 9, 1, 0, 725) := by decide +kernel
theorem l_156_25 : look 156 25 = some (.iconst 1, 1, 0, 0, 0, 0) := by decide +kernel
theorem l_156_26 : look 156 26 = some (.iadd, 1, 0, 0, 0, 0) := by decide +kernel
theorem l_156_27 : look 156 27 = some (.putfield 13, 3, 9, 1, 0, 725) := by decide +kernel
theorem l_156_30 : look 156 30 = some (.iinc 2 (-8), 3, 0, 0, 0, 0) := by decide +kernel
theorem l_156_33 : look 156 33 = some (.goto (-30), 3, 0, 0, 0, 0) := by decide +kernel
theorem l_156_36 : look 156 36 = some (.return_, 1, 0, 0, 0, 0) := by decide +kernel
theorem s_156 (o : oDropSwitch S T s q y) {w : Int} {n : Nat} (hn : I s 1 = (n : Int)) (h600 : n + 4 ≤ 600) : CL xs 156 [vr s, vi w] (S, I, T, cc, zz) (RP S T cc zz (fun v I' => v = none ∧ I' s 1 = ((n + 4 : Nat) : Int) ∧ (∀ k, k < 4 → I' (s + 1) (n + k) = sby w k) ∧ ∀ y z, (y = s → z ≠ 1) → (y = s + 1 → z < n ∨ n + 4 ≤ z) → I' y z = I y z)) := by
  refine CL_start (r := 0) (ls := [vr s, vi w, vs 2]) (rk_156 _) rfl ?_
  refine w_bp l_156_0 (by decide) ?_
  refine w_isn l_156_2 ⟨Nat.le_of_ble_eq_true rfl, rfl⟩ ?_
  refine w_iln l_156_3 rfl ?_
  refine w_zlt 36 l_156_4 (by decide) (fun hx => absurd hx (by decide)) (fun _ => ?_)
  refine w_aln l_156_7 rfl ?_
  refine w_gr l_156_8 (oDropSwitch_sh o) (oDropSwitch_r0 o) ?_
  refine w_aln l_156_11 rfl ?_
  refine w_gi ((n : Nat) : Int) l_156_12 (oDropSwitch_sh o) hn ?_
  refine w_iln l_156_15 rfl ?_
  refine w_iln l_156_16 rfl ?_
  refine w_shr (a2 (fun x y => x >>> (y &&& 31)) w 24) l_156_17 rfl ?_
  refine w_i2b (sby w 0) l_156_18 rfl ?_
  refine w_bS n (sby w 0) l_156_19 (oDropSwitch_s0 o) rfl (by omega) (wb_sby _ _) ?_
  refine w_aln l_156_20 rfl ?_
  refine w_dup l_156_21 rfl ?_
  refine w_gi ((n : Nat) : Int) l_156_22 (oDropSwitch_sh o) ((up_no (by omega)).trans (hn)) ?_
  refine w_ic l_156_25 (by decide) ?_
  refine w_add (((n + 1) : Nat) : Int) l_156_26 (by unfold wr; omega) ?_
  refine w_pi l_156_27 (oDropSwitch_sh o) ?_
  refine w_inc 16 l_156_30 rfl rfl (by unfold wr; omega) ?_
  refine w_go 3 l_156_33 (by decide) ?_
  refine w_iln l_156_3 rfl ?_
  refine w_zlt 36 l_156_4 (by decide) (fun hx => absurd hx (by decide)) (fun _ => ?_)
  refine w_aln l_156_7 rfl ?_
  refine w_gr l_156_8 (oDropSwitch_sh o) (oDropSwitch_r0 o) ?_
  refine w_aln l_156_11 rfl ?_
  refine w_gi (((n + 1) : Nat) : Int) l_156_12 (oDropSwitch_sh o) up_eq ?_
  refine w_iln l_156_15 rfl ?_
  refine w_iln l_156_16 rfl ?_
  refine w_shr (a2 (fun x y => x >>> (y &&& 31)) w 16) l_156_17 rfl ?_
  refine w_i2b (sby w 1) l_156_18 rfl ?_
  refine w_bS (n + 1) (sby w 1) l_156_19 (oDropSwitch_s0 o) rfl (by omega) (wb_sby _ _) ?_
  refine w_aln l_156_20 rfl ?_
  refine w_dup l_156_21 rfl ?_
  refine w_gi (((n + 1) : Nat) : Int) l_156_22 (oDropSwitch_sh o) ((up_no (by omega)).trans (up_eq)) ?_
  refine w_ic l_156_25 (by decide) ?_
  refine w_add (((n + 2) : Nat) : Int) l_156_26 (by unfold wr; omega) ?_
  refine w_pi l_156_27 (oDropSwitch_sh o) ?_
  refine w_inc 8 l_156_30 rfl rfl (by unfold wr; omega) ?_
  refine w_go 3 l_156_33 (by decide) ?_
  refine w_iln l_156_3 rfl ?_
  refine w_zlt 36 l_156_4 (by decide) (fun hx => absurd hx (by decide)) (fun _ => ?_)
  refine w_aln l_156_7 rfl ?_
  refine w_gr l_156_8 (oDropSwitch_sh o) (oDropSwitch_r0 o) ?_
  refine w_aln l_156_11 rfl ?_
  refine w_gi (((n + 2) : Nat) : Int) l_156_12 (oDropSwitch_sh o) up_eq ?_
  refine w_iln l_156_15 rfl ?_
  refine w_iln l_156_16 rfl ?_
  refine w_shr (a2 (fun x y => x >>> (y &&& 31)) w 8) l_156_17 rfl ?_
  refine w_i2b (sby w 2) l_156_18 rfl ?_
  refine w_bS (n + 2) (sby w 2) l_156_19 (oDropSwitch_s0 o) rfl (by omega) (wb_sby _ _) ?_
  refine w_aln l_156_20 rfl ?_
  refine w_dup l_156_21 rfl ?_
  refine w_gi (((n + 2) : Nat) : Int) l_156_22 (oDropSwitch_sh o) ((up_no (by omega)).trans (up_eq)) ?_
  refine w_ic l_156_25 (by decide) ?_
  refine w_add (((n + 3) : Nat) : Int) l_156_26 (by unfold wr; omega) ?_
  refine w_pi l_156_27 (oDropSwitch_sh o) ?_
  refine w_inc 0 l_156_30 rfl rfl (by unfold wr; omega) ?_
  refine w_go 3 l_156_33 (by decide) ?_
  refine w_iln l_156_3 rfl ?_
  refine w_zlt 36 l_156_4 (by decide) (fun hx => absurd hx (by decide)) (fun _ => ?_)
  refine w_aln l_156_7 rfl ?_
  refine w_gr l_156_8 (oDropSwitch_sh o) (oDropSwitch_r0 o) ?_
  refine w_aln l_156_11 rfl ?_
  refine w_gi (((n + 3) : Nat) : Int) l_156_12 (oDropSwitch_sh o) up_eq ?_
  refine w_iln l_156_15 rfl ?_
  refine w_iln l_156_16 rfl ?_
  refine w_shr (a2 (fun x y => x >>> (y &&& 31)) w 0) l_156_17 rfl ?_
  refine w_i2b (sby w 3) l_156_18 rfl ?_
  refine w_bS (n + 3) (sby w 3) l_156_19 (oDropSwitch_s0 o) rfl (by omega) (wb_sby _ _) ?_
  refine w_aln l_156_20 rfl ?_
  refine w_dup l_156_21 rfl ?_
  refine w_gi (((n + 3) : Nat) : Int) l_156_22 (oDropSwitch_sh o) ((up_no (by omega)).trans (up_eq)) ?_
  refine w_ic l_156_25 (by decide) ?_
  refine w_add (((n + 4) : Nat) : Int) l_156_26 (by unfold wr; omega) ?_
  refine w_pi l_156_27 (oDropSwitch_sh o) ?_
  refine w_inc (-8) l_156_30 rfl rfl (by unfold wr; omega) ?_
  refine w_go 3 l_156_33 (by decide) ?_
  refine w_iln l_156_3 rfl ?_
  refine w_zlt 36 l_156_4 (by decide) (fun _ => ?_) (fun hx => absurd hx (by decide))
  refine w_vr l_156_36 ?_
  refine ⟨_, _, rfl, rfl, rfl, up_eq, fun k hk => ?_, fun y z h1 h2 => ?_⟩
  · rcases (show k = 0 ∨ k = 1 ∨ k = 2 ∨ k = 3 by omega) with e | e | e | e <;> subst e
    all_goals (repeat (first | rw [up_no (by omega)] | rw [up_nj (by omega)] | exact up_eq))
  · repeat (rw [up_out (by omega)])

theorem mx_99 : mxl 99 = 6 := by decide +kernel
theorem mt_99 : mtc 99 = 9 := by decide +kernel
theorem rk_99 (as : List AV) : rkA 99 as = 1 := rfl
theorem l_99_0 : look 99 0 = some (.aload_n 0, 1, 0, 0, 0, 0) := by decide +kernel
theorem l_99_1 : look 99 1 = some (.getfield 13, 3, 9, 1, 0, 725) := by decide +kernel
theorem l_99_4 : look 99 4 = some (.bipush 20, 2, 0, 0, 0, 0) := by decide +kernel
theorem l_99_6 : look 99 6 = some (.iadd, 1, 0, 0, 0, 0) := by decide +kernel
theorem l_99_7 : look 99 7 = some (.sipush 600, 3, 0, 0, 0, 0) := by decide +kernel
theorem l_99_10 : look 99 10 = some (.if_icmp .le 5, 3, 0, 0, 0, 0) := by decide +kernel
theorem l_99_13 : look 99 13 = some (.iconst (-1), 1, 0, 0, 0, 0) := by decide +kernel
theorem l_99_14 : look 99 14 = some (.ireturn, 1, 0, 0, 0, 0) := by decide +kernel
theorem l_99_15 : look 99 15 = some (.aload_n 0, 1, 0, 0, 0, 0) := by decide +kernel
theorem l_99_16 : look 99 16 = some (.iload_n 1, 1, 0, 0, 0, 0) := by decide +kernel
theorem l_99_17 : look 99 17 = some (.invokevirtual 99, 3, 156, 2, 0, 1033) := by decide +kernel
theorem l_99_20 : look 99 20 = some (.aload_n 0, 1, 0, 0, 0, 0) := by decide +kernel
theorem l_99_21 : look 99 21 = some (.iload_n 2, 1, 0, 0, 0, 0) := by decide +kernel
theorem l_99_22 : look 99 22 = some (.invokevirtual 99, 3, 156, 2, 0, 1033) := by decide +kernel
theorem l_99_25 : look 99 25 = some (.aload_n 0, 1, 0, 0, 0, 0) := by decide +kernel
theorem l_99_26 : look 99 26 = some (.iload_n 3, 1, 0, 0, 0, 0) := by decide +kernel
theorem l_99_27 : look 99 27 = some (.invokevirtual 99, 3, 156, 2, 0, 1033) := by decide +kernel
theorem l_99_30 : look 99 30 = some (.aload_n 0, 1, 0, 0, 0, 0) := by decide +kernel
theorem l_99_31 : look 99 31 = some (.iload 4, 2, 0, 0, 0, 0) := by decide +kernel
theorem l_99_33 : look 99 33 = some (.invokevirtual 99, 3, 156, 2, 0, 1033) := by decide +kernel
theorem l_99_36 : look 99 36 = some (.aload_n 0, 1, 0, 0, 0, 0) := by decide +kernel
theorem l_99_37 : look 99 37 = some (.iload 5, 2, 0, 0, 0, 0) := by decide +kernel
theorem l_99_39 : look 99 39 = some (.invokevirtual 99, 3, 156, 2, 0, 1033) := by decide +kernel
theorem l_99_42 : look 99 42 = some (.aload_n 0, 1, 0, 0, 0, 0) := by decide +kernel
theorem l_99_43 : look 99 43 = some (.getfield 13, 3, 9, 1, 0, 725) := by decide +kernel
theorem l_99_46 : look 99 46 = some (.ireturn, 1, 0, 0, 0, 0) := by decide +kernel
theorem s_99 (o : oDropSwitch S T s q y) {w0 w1 w2 w3 w4 : Int} {n : Nat} {bf : Nat → Int} (H : cIn I s bf n) (h600 : n + 20 ≤ 600) : CL xs 99 [vr s, vi w0, vi w1, vi w2, vi w3, vi w4] (S, I, T, cc, zz) (RP S T cc zz (fun v I' => v = some (vi ((n + 20 : Nat) : Int)) ∧ cIn I' s (bfA bf n w0 w1 w2 w3 w4) (n + 20) ∧ ∀ y z, (y = s → z ≠ 1) → y ≠ s + 1 → I' y z = I y z)) := by
  refine CL_start (r := 1) (ls := [vr s, vi w0, vi w1, vi w2, vi w3, vi w4]) (rk_99 _) rfl ?_
  refine w_aln l_99_0 rfl ?_
  refine w_gi ((n : Nat) : Int) l_99_1 (oDropSwitch_sh o) H.1 ?_
  refine w_bp l_99_4 (by decide) ?_
  refine w_add ((n + 20 : Nat) : Int) l_99_6 (by unfold wr; omega) ?_
  refine w_sp l_99_7 (by decide) ?_
  refine w_cle 15 l_99_10 (by decide) (fun _ => ?_) (fun hx => absurd hx (by omega))
  refine w_aln l_99_15 rfl ?_
  refine w_iln l_99_16 rfl ?_
  refine p_iv [vi w0] [] l_99_17 rfl rfl (Nat.le_of_ble_eq_true rfl) (by rw [mx_156]; exact Nat.le_of_ble_eq_true rfl) (by rw [mt_156]; exact oDropSwitch_sh o) (by rw [mt_156]; decide) (by rw [rk_156]; decide) (s_156 o (n := n + 0) H.1 (by omega)) (fun v I1 hv => ?_)
  obtain ⟨rfl, g1, b1, f1⟩ := hv
  refine w_aln l_99_20 rfl ?_
  refine w_iln l_99_21 rfl ?_
  refine p_iv [vi w1] [] l_99_22 rfl rfl (Nat.le_of_ble_eq_true rfl) (by rw [mx_156]; exact Nat.le_of_ble_eq_true rfl) (by rw [mt_156]; exact oDropSwitch_sh o) (by rw [mt_156]; decide) (by rw [rk_156]; decide) (s_156 o (n := n + 4) g1 (by omega)) (fun v I2 hv => ?_)
  obtain ⟨rfl, g2, b2, f2⟩ := hv
  refine w_aln l_99_25 rfl ?_
  refine w_iln l_99_26 rfl ?_
  refine p_iv [vi w2] [] l_99_27 rfl rfl (Nat.le_of_ble_eq_true rfl) (by rw [mx_156]; exact Nat.le_of_ble_eq_true rfl) (by rw [mt_156]; exact oDropSwitch_sh o) (by rw [mt_156]; decide) (by rw [rk_156]; decide) (s_156 o (n := n + 8) g2 (by omega)) (fun v I3 hv => ?_)
  obtain ⟨rfl, g3, b3, f3⟩ := hv
  refine w_aln l_99_30 rfl ?_
  refine w_il l_99_31 rfl ?_
  refine p_iv [vi w3] [] l_99_33 rfl rfl (Nat.le_of_ble_eq_true rfl) (by rw [mx_156]; exact Nat.le_of_ble_eq_true rfl) (by rw [mt_156]; exact oDropSwitch_sh o) (by rw [mt_156]; decide) (by rw [rk_156]; decide) (s_156 o (n := n + 12) g3 (by omega)) (fun v I4 hv => ?_)
  obtain ⟨rfl, g4, b4, f4⟩ := hv
  refine w_aln l_99_36 rfl ?_
  refine w_il l_99_37 rfl ?_
  refine p_iv [vi w4] [] l_99_39 rfl rfl (Nat.le_of_ble_eq_true rfl) (by rw [mx_156]; exact Nat.le_of_ble_eq_true rfl) (by rw [mt_156]; exact oDropSwitch_sh o) (by rw [mt_156]; decide) (by rw [rk_156]; decide) (s_156 o (n := n + 16) g4 (by omega)) (fun v I5 hv => ?_)
  obtain ⟨rfl, g5, b5, f5⟩ := hv
  refine w_aln l_99_42 rfl ?_
  refine w_gi (((n + 20) : Nat) : Int) l_99_43 (oDropSwitch_sh o) g5 ?_
  refine w_ir l_99_46 (Or.inl rfl) ?_
  refine ⟨_, _, rfl, rfl, rfl, ⟨g5, by omega, fun j hj => ?_⟩, fun y z h1 h2 => ?_⟩
  · unfold bfA
    by_cases hjn : j < n
    · rw [if_pos hjn, f5 _ j (by omega) (by omega), f4 _ j (by omega) (by omega), f3 _ j (by omega) (by omega), f2 _ j (by omega) (by omega), f1 _ j (by omega) (by omega)]
      exact H.2.2 j hjn
    · rw [if_neg hjn]
      obtain ⟨k, rfl⟩ : ∃ k, j = n + k := ⟨j - n, by omega⟩
      rw [show n + k - n = k by omega]
      unfold apB wsel
      rcases (show k < 4 ∨ (4 ≤ k ∧ k < 8) ∨ (8 ≤ k ∧ k < 12) ∨ (12 ≤ k ∧ k < 16) ∨ (16 ≤ k ∧ k < 20) by omega) with e | e | e | e | e
      · rw [if_pos e, f5 _ _ (by omega) (by omega), f4 _ _ (by omega) (by omega), f3 _ _ (by omega) (by omega), f2 _ _ (by omega) (by omega), show k % 4 = k by omega]
        exact b1 k e
      · rw [if_neg (by omega), if_pos e.2, f5 _ _ (by omega) (by omega), f4 _ _ (by omega) (by omega), f3 _ _ (by omega) (by omega), show n + k = n + 4 + (k % 4) by omega]
        exact b2 (k % 4) (by omega)
      · rw [if_neg (by omega), if_neg (by omega), if_pos e.2, f5 _ _ (by omega) (by omega), f4 _ _ (by omega) (by omega), show n + k = n + 8 + (k % 4) by omega]
        exact b3 (k % 4) (by omega)
      · rw [if_neg (by omega), if_neg (by omega), if_neg (by omega), if_pos e.2, f5 _ _ (by omega) (by omega), show n + k = n + 12 + (k % 4) by omega]
        exact b4 (k % 4) (by omega)
      · rw [if_neg (by omega), if_neg (by omega), if_neg (by omega), if_neg (by omega), show n + k = n + 16 + (k % 4) by omega]
        exact b5 (k % 4) (by omega)
  · rw [f5 y z h1 (fun e => absurd e h2), f4 y z h1 (fun e => absurd e h2), f3 y z h1 (fun e => absurd e h2), f2 y z h1 (fun e => absurd e h2), f1 y z h1 (fun e => absurd e h2)]

theorem s_99n (o : oDropSwitch S T s q y) {w0 w1 w2 w3 w4 : Int} {n : Nat} {bf : Nat → Int} (H : cIn I s bf n) (h600 : ¬ (n + 20 ≤ 600)) : CL xs 99 [vr s, vi w0, vi w1, vi w2, vi w3, vi w4] (S, I, T, cc, zz) (FN (some (vi (-1))) (S, I, T, cc, zz)) := by
  have hn6 := H.2.1
  refine CL_start (r := 1) (ls := [vr s, vi w0, vi w1, vi w2, vi w3, vi w4]) (rk_99 _) rfl ?_
  refine w_aln l_99_0 rfl ?_
  refine w_gi ((n : Nat) : Int) l_99_1 (oDropSwitch_sh o) H.1 ?_
  refine w_bp l_99_4 (by decide) ?_
  refine w_add ((n + 20 : Nat) : Int) l_99_6 (by unfold wr; omega) ?_
  refine w_sp l_99_7 (by decide) ?_
  refine w_cle 15 l_99_10 (by decide) (fun hx => absurd hx (by have := H.2.1; omega)) (fun _ => ?_)
  refine w_ic l_99_13 (by decide) ?_
  refine w_ir l_99_14 (Or.inl rfl) ?_
  exact ⟨rfl, rfl⟩

theorem mx_100 : mxl 100 = 2 := by decide +kernel
theorem mt_100 : mtc 100 = 9 := by decide +kernel
theorem rk_100 (as : List AV) : rkA 100 as = 0 := rfl
theorem l_100_0 : look 100 0 = some (.iload_n 1, 1, 0, 0, 0, 0) := by decide +kernel
theorem l_100_1 : look 100 1 = some (.ifCond .lt 11, 3, 0, 0, 0, 0) := by decide +kernel
theorem l_100_4 : look 100 4 = some (.iload_n 1, 1, 0, 0, 0, 0) := by decide +kernel
theorem l_100_5 : look 100 5 = some (.aload_n 0, 1, 0, 0, 0, 0) := by decide +kernel
theorem l_100_6 : look 100 6 = some (.getfield 13, 3, 9, 1, 0, 725) := by decide +kernel
theorem l_100_9 : look 100 9 = some (.if_icmp .le 5, 3, 0, 0, 0, 0) := by decide +kernel
theorem l_100_12 : look 100 12 = some (.iconst 0, 1, 0, 0, 0, 0) := by decide +kernel
theorem l_100_13 : look 100 13 = some (.ireturn, 1, 0, 0, 1, 0) := by decide +kernel
theorem l_100_14 : look 100 14 = some (.aload_n 0, 1, 0, 0, 0, 0) := by decide +kernel
theorem l_100_15 : look 100 15 = some (.iload_n 1, 1, 0, 0, 0, 0) := by decide +kernel
theorem l_100_16 : look 100 16 = some (.putfield 13, 3, 9, 1, 0, 725) := by decide +kernel
theorem l_100_19 : look 100 19 = some (.iconst 1, 1, 0, 0, 0, 0) := by decide +kernel
theorem l_100_20 : look 100 20 = some (.ireturn, 1, 0, 0, 1, 0) := by decide +kernel
theorem s_100 (o : oDropSwitch S T s q y) {n k : Nat} {bf : Nat → Int} (H : cIn I s bf n) (hk : k ≤ n) : CL xs 100 [vr s, vi ((k : Nat) : Int)] (S, I, T, cc, zz) (RP S T cc zz (fun v I' => v = some (vi 1) ∧ cIn I' s bf k ∧ ∀ y z, (y = s → z ≠ 1) → y ≠ s + 1 → I' y z = I y z)) := by
  refine CL_start (r := 0) (ls := [vr s, vi ((k : Nat) : Int)]) (rk_100 _) rfl ?_
  refine w_iln l_100_0 rfl ?_
  refine w_zlt 12 l_100_1 (by decide) (fun hx => absurd hx (by omega)) (fun _ => ?_)
  refine w_iln l_100_4 rfl ?_
  refine w_aln l_100_5 rfl ?_
  refine w_gi ((n : Nat) : Int) l_100_6 (oDropSwitch_sh o) H.1 ?_
  refine w_cle 14 l_100_9 (by decide) (fun _ => ?_) (fun hx => absurd hx (by omega))
  refine w_aln l_100_14 rfl ?_
  refine w_iln l_100_15 rfl ?_
  refine w_pi l_100_16 (oDropSwitch_sh o) ?_
  refine w_ic l_100_19 (by decide) ?_
  refine w_ir l_100_20 (by decide) ?_
  refine ⟨_, _, rfl, rfl, rfl, ⟨up_eq, by have := H.2.1; omega, fun j hj => (up_no (by omega)).trans (H.2.2 j (by omega))⟩, fun y z h1 h2 => up_out (by omega)⟩

theorem s_100n (o : oDropSwitch S T s q y) {n : Nat} {k : Int} {bf : Nat → Int} (H : cIn I s bf n) (hk : ¬ (0 ≤ k ∧ k ≤ ((n : Nat) : Int))) : CL xs 100 [vr s, vi k] (S, I, T, cc, zz) (FN (some (vi 0)) (S, I, T, cc, zz)) := by
  refine CL_start (r := 0) (ls := [vr s, vi k]) (rk_100 _) rfl ?_
  refine w_iln l_100_0 rfl ?_
  refine w_zlt 12 l_100_1 (by decide) (fun h1 => ?_) (fun h1 => ?_)
  · skip
    refine w_ic l_100_12 (by decide) ?_
    refine w_ir l_100_13 (by decide) ?_
    exact ⟨rfl, rfl⟩
  · skip
    refine w_iln l_100_4 rfl ?_
    refine w_aln l_100_5 rfl ?_
    refine w_gi ((n : Nat) : Int) l_100_6 (oDropSwitch_sh o) H.1 ?_
    refine w_cle 14 l_100_9 (by decide) (fun h2 => ?_) (fun h2 => ?_)
    · skip
      exfalso
      omega
    · skip
      refine w_ic l_100_12 (by decide) ?_
      refine w_ir l_100_13 (by decide) ?_
      exact ⟨rfl, rfl⟩

theorem mx_102 : mxl 102 = 1 := by decide +kernel
theorem mt_102 : mtc 102 = 9 := by decide +kernel
theorem rk_102 (as : List AV) : rkA 102 as = 0 := rfl
theorem l_102_0 : look 102 0 = some (.aload_n 0, 1, 0, 0, 0, 0) := by decide +kernel
theorem l_102_1 : look 102 1 = some (.getfield 17, 3, 9, 2, 0, 726) := by decide +kernel
theorem l_102_4 : look 102 4 = some (.ireturn, 1, 0, 0, 0, 0) := by decide +kernel
theorem s_102 (o : oDropSwitch S T s q y) : CL xs 102 [vr s] (S, I, T, cc, zz) (FN (some (vi (I s 2))) (S, I, T, cc, zz)) := by
  refine CL_start (r := 0) (ls := [vr s]) (rk_102 _) rfl ?_
  refine w_aln l_102_0 rfl ?_
  refine w_gi (I s 2) l_102_1 (oDropSwitch_sh o) rfl ?_
  refine w_ir l_102_4 (Or.inl rfl) ?_
  exact ⟨rfl, rfl⟩

theorem mx_103 : mxl 103 = 1 := by decide +kernel
theorem mt_103 : mtc 103 = 9 := by decide +kernel
theorem rk_103 (as : List AV) : rkA 103 as = 0 := rfl
theorem l_103_0 : look 103 0 = some (.aload_n 0, 1, 0, 0, 0, 0) := by decide +kernel
theorem l_103_1 : look 103 1 = some (.getfield 20, 3, 9, 3, 0, 727) := by decide +kernel
theorem l_103_4 : look 103 4 = some (.ireturn, 1, 0, 0, 0, 0) := by decide +kernel
theorem s_103 (o : oDropSwitch S T s q y) : CL xs 103 [vr s] (S, I, T, cc, zz) (FN (some (vi (I s 3))) (S, I, T, cc, zz)) := by
  refine CL_start (r := 0) (ls := [vr s]) (rk_103 _) rfl ?_
  refine w_aln l_103_0 rfl ?_
  refine w_gi (I s 3) l_103_1 (oDropSwitch_sh o) rfl ?_
  refine w_ir l_103_4 (Or.inl rfl) ?_
  exact ⟨rfl, rfl⟩

end INP
