/-! the reference: formatted texts -/
theorem n64 (m : Nat) : (Int64.ofInt (m : Int)).toBitVec = BitVec.ofNat 64 m := by rw [Int64.toBitVec_ofInt, BitVec.ofInt_natCast]
theorem t64 {x : Int64} {m : Nat} (h : x.toBitVec = BitVec.ofNat 64 m) (hm : m < 9223372036854775808) : x.toInt = (m : Int) := by
  show x.toBitVec.toInt = _
  have e : (BitVec.ofNat 64 m).toNat = m := by rw [BitVec.toNat_ofNat]; exact Nat.mod_eq_of_lt (by omega)
  rw [h, BitVec.toInt_eq_toNat_of_lt (by rw [e]; omega), e]
theorem sm64 : ∀ k : Nat, k < 64 → (BitVec.smod ((Int32.ofInt (k : Int)).toInt64 &&& 63).toBitVec 64).toNat = k := by decide +kernel
theorem lshr_n {m k : Nat} (hk : k < 64) (hm : m < 9223372036854775808) : l1 (fun x y => x >>> (y.toInt64 &&& 63)) (m : Int) (k : Int) = ((m / 2 ^ k : Nat) : Int) := by
  show (Int64.ofInt (m : Int) >>> ((Int32.ofInt (k : Int)).toInt64 &&& 63)).toBitVec.toInt = _
  have e : (BitVec.ofNat 64 m).toNat = m := by rw [BitVec.toNat_ofNat]; exact Nat.mod_eq_of_lt (by omega)
  rw [Int64.toBitVec_shiftRight, n64, BitVec.sshiftRight_eq', sm64 k hk, BitVec.toInt_sshiftRight, BitVec.toInt_eq_toNat_of_lt (by rw [e]; omega), e, Int.shiftRight_eq_div_pow]
  exact (Int.natCast_ediv m (2 ^ k)).symm.trans rfl
theorem land_31 {m : Nat} (hm : m < 9223372036854775808) : l2 (fun x y => x &&& y) (m : Int) 31 = ((m % 32 : Nat) : Int) := by
  refine (t64 ?_ (Nat.lt_of_le_of_lt (Nat.mod_le m 32) hm))
  show (Int64.ofInt (m : Int) &&& Int64.ofInt ((31 : Nat) : Int)).toBitVec = _
  rw [Int64.toBitVec_and, n64, n64, ← BitVec.ofNat_and, Nat.and_two_pow_sub_one_eq_mod m 5]
theorem cmpL_pos {x : Int} (h : 0 < x) : cmpL x 0 = 1 := by unfold cmpL; rw [if_neg (by omega), if_neg (by omega)]
theorem nv_pos {n : List Nat} {k : Nat} (hn : okNm n) (hk : k < n.length) : 0 < nvR n / 32 ^ k := by
  have h1 := nvR_at n k hn.2
  have hm : n.getD k 0 ∈ n := by
    rw [List.getD_eq_getElem?_getD, List.getElem?_eq_getElem hk]
    exact List.getElem_mem _
  have h2 := (hn.2 _ hm).1
  have h3 := Nat.mod_le (nvR n / 32 ^ k) 32
  omega
theorem nv_end {n : List Nat} (hn : okNm n) : nvR n / 32 ^ n.length = 0 := Nat.div_eq_of_lt (nvR_lt n hn.2)
/-- the reference's line -/
def mlS (I : Ix) (s : Nat) (L : List Nat) : Prop := I s 75 = (L.length : Int) ∧ L.length ≤ 600 ∧ ∀ i, i < L.length → I (s + 39) i = ((L.getD i 0 : Nat) : Int)
def mff (I J : Ix) (s : Nat) : Prop := ∀ y z, (y = s → z ≠ 75) → y ≠ s + 39 → J y z = I y z
theorem mff.rf (I : Ix) (s : Nat) : mff I I s := fun _ _ _ _ => rfl
theorem mff.tr {I J K : Ix} {s : Nat} (f : mff I J s) (g : mff J K s) : mff I K s := fun y z a b => (g y z a b).trans (f y z a b)
theorem nL.mff {I J : Ix} {s : Nat} {g : Lo} (H : nL I s g) (f : mff I J s) : nL J s g := H.fr (f s 66 (fun _ => by decide) (by omega)) fun y h1 h2 z => f y z (fun e => by omega) (by omega)
def mNm (I : Ix) (s : Nat) (l : Li) (nm : Nat → List Nat) : Prop := ∀ p, p < lPorts l → okNm (nm p) ∧ I (s + 1) p = ((nvR (nm p) : Nat) : Int)
/-- what a formatting call changes -/
def mfF (I J : Ix) (s : Nat) : Prop := ∀ y z, (y = s → z ≠ 0 ∧ z ≠ 75 ∧ (z < 50 ∨ z = 54 ∨ (56 ≤ z ∧ z ≤ 65) ∨ (70 ≤ z ∧ z ≠ 72 ∧ z ≠ 73))) → (s < y → y < s + 25 ∨ s + 39 < y) → J y z = I y z
def rcS (c : Nat) : Nat := [0, 44, 45, 46, 47, 48, 31, 49, 50, 51, 52].getD c 0
theorem rcS_ok : ∀ c : Nat, c < 11 → 1 ≤ c → rcS c < 53 ∧ strB (rcS c) = strB (16 + c) := by decide +kernel
section RFM
variable {xs : List Int} {S : List (Nat × Nat)} {T : Nat → Nat → Nat} {cc zz s : Nat} {h : Hi} {l : Li} {I I' : Ix} {L : List Nat}

theorem mx_289 : mxl 289 = 2 := by decide +kernel
theorem mt_289 : mtc 289 = 10 := by decide +kernel
theorem rk_289 (as : List AV) : rkA 289 as = 0 := rfl
theorem l_289_0 : look 289 0 = some (.aload_n 0, 1, 0, 0, 0, 0) := by decide +kernel
theorem l_289_1 : look 289 1 = some (.getfield 149, 3, 10, 74, 2, 1575) := by decide +kernel
theorem l_289_4 : look 289 4 = some (.aload_n 0, 1, 0, 0, 0, 0) := by decide +kernel
theorem l_289_5 : look 289 5 = some (.getfield 523, 3, 10, 75, 0, 1576) := by decide +kernel
theorem l_289_8 : look 289 8 = some (.iload_n 1, 1, 0, 0, 0, 0) := by decide +kernel
theorem l_289_9 : look 289 9 = some (.iastore, 1, 0, 0, 0, 0) := by decide +kernel
theorem l_289_10 : look 289 10 = some (.aload_n 0, 1, 0, 0, 0, 0) := by decide +kernel
theorem l_289_11 : look 289 11 = some (.dup, 1, 0, 0, 0, 0) := by decide +kernel
theorem l_289_12 : look 289 12 = some (.getfield 523, 3, 10, 75, 0, 1576) := by decide +kernel
theorem l_289_15 : look 289 15 = some (.iconst 1, 1, 0, 0, 0, 0) := by decide +kernel
theorem l_289_16 : look 289 16 = some (.iadd, 1, 0, 0, 0, 0) := by decide +kernel
theorem l_289_17 : look 289 17 = some (.putfield 523, 3, 10, 75, 0, 1576) := by decide +kernel
theorem l_289_20 : look 289 20 = some (.return_, 1, 0, 0, 0, 0) := by decide +kernel

theorem r_put (hm : oModel S T s) (H : mlS I s L) {c : Nat} (hL : L.length < 600) : CL xs 289 [vr s, vi ((c : Nat) : Int)] (S, I, T, cc, zz) (RP S T cc zz (fun v I' => v = none ∧ mlS I' s (L ++ [c]) ∧ mff I I' s)) := by
  refine CL_start (r := 0) (ls := [vr s, vi ((c : Nat) : Int)]) (rk_289 _) rfl ?_
  refine w_aln l_289_0 rfl ?_
  refine w_gr l_289_1 (oModel_sh hm) (oModel_r74 hm) ?_
  refine w_aln l_289_4 rfl ?_
  refine w_gi ((L.length : Nat) : Int) l_289_5 (oModel_sh hm) H.1 ?_
  refine w_iln l_289_8 rfl ?_
  refine w_iS L.length l_289_9 (oModel_s74 hm) rfl (by omega) ?_
  refine w_aln l_289_10 rfl ?_
  refine w_dup l_289_11 rfl ?_
  refine w_gi ((L.length : Nat) : Int) l_289_12 (oModel_sh hm) ((up_no (by omega)).trans (H.1)) ?_
  refine w_ic l_289_15 (by decide) ?_
  refine w_add (((L.length + 1) : Nat) : Int) l_289_16 (by unfold wr; omega) ?_
  refine w_pi l_289_17 (oModel_sh hm) ?_
  refine w_vr l_289_20 ?_
  have hl : (L ++ [c]).length = L.length + 1 := by simp
  refine ⟨_, _, rfl, rfl, rfl, ⟨by rw [hl]; exact up_eq, by omega, fun i hi => ?_⟩, fun y z h1 h2 => (up_out (by omega)).trans (up_out (by omega))⟩
  rw [up_no (by omega)]
  by_cases hi2 : i < L.length
  · rw [up_nj (by omega), getD_l hi2]
    exact H.2.2 i hi2
  · have e : i = L.length := by omega
    subst e
    rw [up_eq, getD_r]

theorem mx_290 : mxl 290 = 2 := by decide +kernel
theorem mt_290 : mtc 290 = 10 := by decide +kernel
theorem rk_290 (as : List AV) : rkA 290 as = 1 := rfl
theorem l_290_0 : look 290 0 = some (.iload_n 1, 1, 0, 0, 0, 0) := by decide +kernel
theorem l_290_1 : look 290 1 = some (.bipush 99, 2, 0, 0, 0, 0) := by decide +kernel
theorem l_290_3 : look 290 3 = some (.if_icmp .le 14, 3, 0, 0, 0, 0) := by decide +kernel
theorem l_290_6 : look 290 6 = some (.aload_n 0, 1, 0, 0, 0, 0) := by decide +kernel
theorem l_290_7 : look 290 7 = some (.bipush 48, 2, 0, 0, 0, 0) := by decide +kernel
theorem l_290_9 : look 290 9 = some (.iload_n 1, 1, 0, 0, 0, 0) := by decide +kernel
theorem l_290_10 : look 290 10 = some (.bipush 100, 2, 0, 0, 0, 0) := by decide +kernel
theorem l_290_12 : look 290 12 = some (.idiv, 1, 0, 0, 0, 0) := by decide +kernel
theorem l_290_13 : look 290 13 = some (.iadd, 1, 0, 0, 0, 0) := by decide +kernel
theorem l_290_14 : look 290 14 = some (.invokevirtual 526, 3, 289, 2, 0, 2236) := by decide +kernel
theorem l_290_17 : look 290 17 = some (.iload_n 1, 1, 0, 0, 0, 0) := by decide +kernel
theorem l_290_18 : look 290 18 = some (.bipush 9, 2, 0, 0, 0, 0) := by decide +kernel
theorem l_290_20 : look 290 20 = some (.if_icmp .le 17, 3, 0, 0, 0, 0) := by decide +kernel
theorem l_290_23 : look 290 23 = some (.aload_n 0, 1, 0, 0, 0, 0) := by decide +kernel
theorem l_290_24 : look 290 24 = some (.bipush 48, 2, 0, 0, 0, 0) := by decide +kernel
theorem l_290_26 : look 290 26 = some (.iload_n 1, 1, 0, 0, 0, 0) := by decide +kernel
theorem l_290_27 : look 290 27 = some (.bipush 10, 2, 0, 0, 0, 0) := by decide +kernel
theorem l_290_29 : look 290 29 = some (.idiv, 1, 0, 0, 0, 0) := by decide +kernel
theorem l_290_30 : look 290 30 = some (.bipush 10, 2, 0, 0, 0, 0) := by decide +kernel
theorem l_290_32 : look 290 32 = some (.irem, 1, 0, 0, 0, 0) := by decide +kernel
theorem l_290_33 : look 290 33 = some (.iadd, 1, 0, 0, 0, 0) := by decide +kernel
theorem l_290_34 : look 290 34 = some (.invokevirtual 526, 3, 289, 2, 0, 2236) := by decide +kernel
theorem l_290_37 : look 290 37 = some (.aload_n 0, 1, 0, 0, 0, 0) := by decide +kernel
theorem l_290_38 : look 290 38 = some (.bipush 48, 2, 0, 0, 0, 0) := by decide +kernel
theorem l_290_40 : look 290 40 = some (.iload_n 1, 1, 0, 0, 0, 0) := by decide +kernel
theorem l_290_41 : look 290 41 = some (.bipush 10, 2, 0, 0, 0, 0) := by decide +kernel
theorem l_290_43 : look 290 43 = some (.irem, 1, 0, 0, 0, 0) := by decide +kernel
theorem l_290_44 : look 290 44 = some (.iadd, 1, 0, 0, 0, 0) := by decide +kernel
theorem l_290_45 : look 290 45 = some (.invokevirtual 526, 3, 289, 2, 0, 2236) := by decide +kernel
theorem l_290_48 : look 290 48 = some (.return_, 1, 0, 0, 0, 0) := by decide +kernel

theorem s_290 (hm : oModel S T s) (H : mlS I s L) {v : Nat} (hv : v < 1000) (hL : L.length + (numB v).length ≤ 600) : CL xs 290 [vr s, vi ((v : Nat) : Int)] (S, I, T, cc, zz) (RP S T cc zz (fun v9 I' => v9 = none ∧ mlS I' s (L ++ numB v) ∧ mff I I' s)) := by
  by_cases h1 : 100 ≤ v
  · skip
    refine CL_start (r := 1) (ls := [vr s, vi ((v : Nat) : Int)]) (rk_290 _) rfl ?_
    have e9 : numB v = [48 + v / 100 % 10] ++ [48 + v / 10 % 10] ++ [48 + v % 10] := by
      unfold numB
      rw [if_pos (by omega), if_pos (by omega)]
      try rfl
    have hlen : (numB v).length = 3 := by rw [e9]; rfl
    refine w_iln l_290_0 rfl ?_
    refine w_bp l_290_1 (by decide) ?_
    refine w_cle 17 l_290_3 (by decide) (fun hx => absurd hx (by omega)) (fun _ => ?_)
    refine w_aln l_290_6 rfl ?_
    refine w_bp l_290_7 (by decide) ?_
    refine w_iln l_290_9 rfl ?_
    refine w_bp l_290_10 (by decide) ?_
    refine w_div (((v / 100) : Nat) : Int) l_290_12 (by decide) (by rw [show ((v : Nat) : Int).tdiv 100 = ((v / 100 : Nat) : Int) from rfl]; unfold wr; omega) ?_
    refine w_add (((48 + v / 100 % 10) : Nat) : Int) l_290_13 (by unfold wr; omega) ?_
    refine p_iv [vi (((48 + v / 100 % 10) : Nat) : Int)] [] l_290_14 rfl rfl (Nat.le_of_ble_eq_true rfl) (by rw [mx_289]; exact Nat.le_of_ble_eq_true rfl) (by rw [mt_289]; exact oModel_sh hm) (by rw [mt_289]; decide) (by rw [rk_289]; decide) (r_put hm H (by first | omega | (simp only [List.length_append, List.length_cons, List.length_nil]; omega))) (fun v I1 hv => ?_)
    obtain ⟨rfl, H1, f1⟩ := hv
    refine w_iln l_290_17 rfl ?_
    refine w_bp l_290_18 (by decide) ?_
    refine w_cle 37 l_290_20 (by decide) (fun hx => absurd hx (by omega)) (fun _ => ?_)
    refine w_aln l_290_23 rfl ?_
    refine w_bp l_290_24 (by decide) ?_
    refine w_iln l_290_26 rfl ?_
    refine w_bp l_290_27 (by decide) ?_
    refine w_div (((v / 10) : Nat) : Int) l_290_29 (by decide) (by rw [show ((v : Nat) : Int).tdiv 10 = ((v / 10 : Nat) : Int) from rfl]; unfold wr; omega) ?_
    refine w_bp l_290_30 (by decide) ?_
    refine w_rem (((v / 10 % 10) : Nat) : Int) l_290_32 (by decide) rfl ?_
    refine w_add (((48 + v / 10 % 10) : Nat) : Int) l_290_33 (by unfold wr; omega) ?_
    refine p_iv [vi (((48 + v / 10 % 10) : Nat) : Int)] [] l_290_34 rfl rfl (Nat.le_of_ble_eq_true rfl) (by rw [mx_289]; exact Nat.le_of_ble_eq_true rfl) (by rw [mt_289]; exact oModel_sh hm) (by rw [mt_289]; decide) (by rw [rk_289]; decide) (r_put hm H1 (by first | omega | (simp only [List.length_append, List.length_cons, List.length_nil]; omega))) (fun v I2 hv => ?_)
    obtain ⟨rfl, H2, f2⟩ := hv
    refine w_aln l_290_37 rfl ?_
    refine w_bp l_290_38 (by decide) ?_
    refine w_iln l_290_40 rfl ?_
    refine w_bp l_290_41 (by decide) ?_
    refine w_rem (((v % 10) : Nat) : Int) l_290_43 (by decide) rfl ?_
    refine w_add (((48 + v % 10) : Nat) : Int) l_290_44 (by unfold wr; omega) ?_
    refine p_iv [vi (((48 + v % 10) : Nat) : Int)] [] l_290_45 rfl rfl (Nat.le_of_ble_eq_true rfl) (by rw [mx_289]; exact Nat.le_of_ble_eq_true rfl) (by rw [mt_289]; exact oModel_sh hm) (by rw [mt_289]; decide) (by rw [rk_289]; decide) (r_put hm H2 (by first | omega | (simp only [List.length_append, List.length_cons, List.length_nil]; omega))) (fun v I3 hv => ?_)
    obtain ⟨rfl, H3, f3⟩ := hv
    refine w_vr l_290_48 ?_
    refine ⟨_, _, rfl, rfl, rfl, ?_, ((f1.tr f2).tr f3)⟩
    rw [e9]
    simpa only [List.append_assoc, List.cons_append, List.nil_append] using H3
  · by_cases h2 : 10 ≤ v
    · skip
      refine CL_start (r := 1) (ls := [vr s, vi ((v : Nat) : Int)]) (rk_290 _) rfl ?_
      have e9 : numB v = [48 + v / 10 % 10] ++ [48 + v % 10] := by
        unfold numB
        rw [if_neg (by omega), if_pos (by omega)]
        try rfl
      have hlen : (numB v).length = 2 := by rw [e9]; rfl
      refine w_iln l_290_0 rfl ?_
      refine w_bp l_290_1 (by decide) ?_
      refine w_cle 17 l_290_3 (by decide) (fun _ => ?_) (fun hx => absurd hx (by omega))
      refine w_iln l_290_17 rfl ?_
      refine w_bp l_290_18 (by decide) ?_
      refine w_cle 37 l_290_20 (by decide) (fun hx => absurd hx (by omega)) (fun _ => ?_)
      refine w_aln l_290_23 rfl ?_
      refine w_bp l_290_24 (by decide) ?_
      refine w_iln l_290_26 rfl ?_
      refine w_bp l_290_27 (by decide) ?_
      refine w_div (((v / 10) : Nat) : Int) l_290_29 (by decide) (by rw [show ((v : Nat) : Int).tdiv 10 = ((v / 10 : Nat) : Int) from rfl]; unfold wr; omega) ?_
      refine w_bp l_290_30 (by decide) ?_
      refine w_rem (((v / 10 % 10) : Nat) : Int) l_290_32 (by decide) rfl ?_
      refine w_add (((48 + v / 10 % 10) : Nat) : Int) l_290_33 (by unfold wr; omega) ?_
      refine p_iv [vi (((48 + v / 10 % 10) : Nat) : Int)] [] l_290_34 rfl rfl (Nat.le_of_ble_eq_true rfl) (by rw [mx_289]; exact Nat.le_of_ble_eq_true rfl) (by rw [mt_289]; exact oModel_sh hm) (by rw [mt_289]; decide) (by rw [rk_289]; decide) (r_put hm H (by first | omega | (simp only [List.length_append, List.length_cons, List.length_nil]; omega))) (fun v I1 hv => ?_)
      obtain ⟨rfl, H1, f1⟩ := hv
      refine w_aln l_290_37 rfl ?_
      refine w_bp l_290_38 (by decide) ?_
      refine w_iln l_290_40 rfl ?_
      refine w_bp l_290_41 (by decide) ?_
      refine w_rem (((v % 10) : Nat) : Int) l_290_43 (by decide) rfl ?_
      refine w_add (((48 + v % 10) : Nat) : Int) l_290_44 (by unfold wr; omega) ?_
      refine p_iv [vi (((48 + v % 10) : Nat) : Int)] [] l_290_45 rfl rfl (Nat.le_of_ble_eq_true rfl) (by rw [mx_289]; exact Nat.le_of_ble_eq_true rfl) (by rw [mt_289]; exact oModel_sh hm) (by rw [mt_289]; decide) (by rw [rk_289]; decide) (r_put hm H1 (by first | omega | (simp only [List.length_append, List.length_cons, List.length_nil]; omega))) (fun v I2 hv => ?_)
      obtain ⟨rfl, H2, f2⟩ := hv
      refine w_vr l_290_48 ?_
      refine ⟨_, _, rfl, rfl, rfl, ?_, (f1.tr f2)⟩
      rw [e9]
      simpa only [List.append_assoc, List.cons_append, List.nil_append] using H2
    · skip
      refine CL_start (r := 1) (ls := [vr s, vi ((v : Nat) : Int)]) (rk_290 _) rfl ?_
      have e9 : numB v = [48 + v % 10] := by
        unfold numB
        rw [if_neg (by omega), if_neg (by omega)]
        try rfl
      have hlen : (numB v).length = 1 := by rw [e9]; rfl
      refine w_iln l_290_0 rfl ?_
      refine w_bp l_290_1 (by decide) ?_
      refine w_cle 17 l_290_3 (by decide) (fun _ => ?_) (fun hx => absurd hx (by omega))
      refine w_iln l_290_17 rfl ?_
      refine w_bp l_290_18 (by decide) ?_
      refine w_cle 37 l_290_20 (by decide) (fun _ => ?_) (fun hx => absurd hx (by omega))
      refine w_aln l_290_37 rfl ?_
      refine w_bp l_290_38 (by decide) ?_
      refine w_iln l_290_40 rfl ?_
      refine w_bp l_290_41 (by decide) ?_
      refine w_rem (((v % 10) : Nat) : Int) l_290_43 (by decide) rfl ?_
      refine w_add (((48 + v % 10) : Nat) : Int) l_290_44 (by unfold wr; omega) ?_
      refine p_iv [vi (((48 + v % 10) : Nat) : Int)] [] l_290_45 rfl rfl (Nat.le_of_ble_eq_true rfl) (by rw [mx_289]; exact Nat.le_of_ble_eq_true rfl) (by rw [mt_289]; exact oModel_sh hm) (by rw [mt_289]; decide) (by rw [rk_289]; decide) (r_put hm H (by first | omega | (simp only [List.length_append, List.length_cons, List.length_nil]; omega))) (fun v I1 hv => ?_)
      obtain ⟨rfl, H1, f1⟩ := hv
      refine w_vr l_290_48 ?_
      refine ⟨_, _, rfl, rfl, rfl, ?_, f1⟩
      rw [e9]
      simpa only [List.append_assoc, List.cons_append, List.nil_append] using H1

theorem mx_291 : mxl 291 = 3 := by decide +kernel
theorem mt_291 : mtc 291 = 10 := by decide +kernel
theorem rk_291 (as : List AV) : rkA 291 as = 4 := rfl
theorem l_291_0 : look 291 0 = some (.iconst 0, 1, 0, 0, 0, 0) := by decide +kernel
theorem l_291_1 : look 291 1 = some (.istore_n 2, 1, 0, 0, 0, 0) := by decide +kernel
theorem l_291_2 : look 291 2 = some (.iload_n 2, 1, 0, 0, 0, 0) := by decide +kernel
theorem l_291_3 : look 291 3 = some (.aload_n 1, 1, 0, 0, 0, 0) := by decide +kernel
theorem l_291_4 : look 291 4 = some (.invokevirtual 186, 3, 299, 1, 0, 1778) := by decide +kernel
theorem l_291_7 : look 291 7 = some (.if_icmp .ge 18, 3, 0, 0, 0, 0) := by decide +kernel
theorem l_291_10 : look 291 10 = some (.aload_n 0, 1, 0, 0, 0, 0) := by decide +kernel
theorem l_291_11 : look 291 11 = some (.aload_n 1, 1, 0, 0, 0, 0) := by decide +kernel
theorem l_291_12 : look 291 12 = some (.iload_n 2, 1, 0, 0, 0, 0) := by decide +kernel
theorem l_291_13 : look 291 13 = some (.invokevirtual 190, 3, 300, 2, 0, 1779) := by decide +kernel
theorem l_291_16 : look 291 16 = some (.invokevirtual 526, 3, 289, 2, 0, 2236) := by decide +kernel
theorem l_291_19 : look 291 19 = some (.iinc 2 1, 3, 0, 0, 0, 0) := by decide +kernel
theorem l_291_22 : look 291 22 = some (.goto (-20), 3, 0, 0, 0, 0) := by decide +kernel
theorem l_291_25 : look 291 25 = some (.return_, 1, 0, 0, 0, 0) := by decide +kernel

theorem lp_291 {I0 : Ix} (hm : oModel S T s) {w : Nat} (hq53 : w < 53) (hL : L.length + 7 ≤ 600) : ∀ d i I, i + d = (stb.getD w []).length → mlS I s (L ++ (strB w).take i) → mff I0 I s → WP xs 291 4 2 [vr s, vs (2 * w + 4), vi ((i : Nat) : Int)] [] (S, I, T, cc, zz) (RP S T cc zz (fun v I' => v = none ∧ mlS I' s (L ++ strB w) ∧ mff I0 I' s)) := by
  intro d
  have h7 := stb_len w hq53
  induction d with
  | zero =>
    intro i I hi0 H fi
    refine w_iln l_291_2 rfl ?_
    refine w_asn l_291_3 rfl ?_
    refine q_ivs [] [vi ((i : Nat) : Int)] l_291_4 rfl rfl (Nat.le_of_ble_eq_true rfl) (by rw [mx_299]; exact Nat.le_of_ble_eq_true rfl) (by first | decide | exact hq53) mt_299 (by rw [rk_299]; decide) (s_299 hq53) ?_
    refine w_cge 25 l_291_7 (by decide) (fun _ => ?_) (fun hx => absurd hx (by omega))
    refine w_vr l_291_25 ?_
    rw [List.take_of_length_le (by rw [strB_len]; omega)] at H
    exact ⟨_, _, rfl, rfl, rfl, H, fi⟩
  | succ d ih =>
    intro i I hi0 H fi
    have hi : i < (stb.getD w []).length := by omega
    refine w_iln l_291_2 rfl ?_
    refine w_asn l_291_3 rfl ?_
    refine q_ivs [] [vi ((i : Nat) : Int)] l_291_4 rfl rfl (Nat.le_of_ble_eq_true rfl) (by rw [mx_299]; exact Nat.le_of_ble_eq_true rfl) (by first | decide | exact hq53) mt_299 (by rw [rk_299]; decide) (s_299 hq53) ?_
    refine w_cge 25 l_291_7 (by decide) (fun hx => absurd hx (by omega)) (fun _ => ?_)
    refine w_aln l_291_10 rfl ?_
    refine w_asn l_291_11 rfl ?_
    refine w_iln l_291_12 rfl ?_
    refine q_ivs [vi ((i : Nat) : Int)] [vr s] l_291_13 rfl rfl (Nat.le_of_ble_eq_true rfl) (by rw [mx_300]; exact Nat.le_of_ble_eq_true rfl) (by first | decide | exact hq53) mt_300 (by rw [rk_300]; decide) (s_300 hq53 hi (strB_at hq53 hi).1 (strB_at hq53 hi).2) ?_
    refine p_iv [vi ((((strB w).getD i 0) : Nat) : Int)] [] l_291_16 rfl rfl (Nat.le_of_ble_eq_true rfl) (by rw [mx_289]; exact Nat.le_of_ble_eq_true rfl) (by rw [mt_289]; exact oModel_sh hm) (by rw [mt_289]; decide) (by rw [rk_289]; decide) (r_put hm H (by simp only [List.length_append, List.length_take]; omega)) (fun v I1 hv => ?_)
    obtain ⟨rfl, H1, f1⟩ := hv
    refine w_inc ((i + 1 : Nat) : Int) l_291_19 rfl rfl (by unfold wr; omega) ?_
    refine w_go 2 l_291_22 (by decide) ?_
    rw [List.append_assoc, ← take_sn (by rw [strB_len]; exact hi)] at H1
    exact ih (i + 1) I1 (by omega) H1 (fi.tr f1)
theorem s_291 (hm : oModel S T s) (H : mlS I s L) {w : Nat} (hq53 : w < 53) (hL : L.length + 7 ≤ 600) : CL xs 291 [vr s, vs (2 * w + 4)] (S, I, T, cc, zz) (RP S T cc zz (fun v I' => v = none ∧ mlS I' s (L ++ strB w) ∧ mff I I' s)) := by
  refine CL_start (r := 4) (ls := [vr s, vs (2 * w + 4), vs 2]) (rk_291 _) rfl ?_
  refine w_ic l_291_0 (by decide) ?_
  refine w_isn l_291_1 ⟨Nat.le_of_ble_eq_true rfl, rfl⟩ ?_
  exact lp_291 hm hq53 hL _ 0 I (Nat.zero_add _) (by rw [List.take_zero, List.append_nil]; exact H) (mff.rf _ _)

theorem mx_292 : mxl 292 = 5 := by decide +kernel
theorem mt_292 : mtc 292 = 10 := by decide +kernel
theorem rk_292 (as : List AV) : rkA 292 as = 1 := rfl
theorem l_292_0 : look 292 0 = some (.iconst 0, 1, 0, 0, 0, 0) := by decide +kernel
theorem l_292_1 : look 292 1 = some (.istore_n 2, 1, 0, 0, 0, 0) := by decide +kernel
theorem l_292_2 : look 292 2 = some (.aload_n 0, 1, 0, 0, 0, 0) := by decide +kernel
theorem l_292_3 : look 292 3 = some (.getfield 7, 3, 10, 2, 2, 1503) := by decide +kernel
theorem l_292_6 : look 292 6 = some (.iload_n 1, 1, 0, 0, 0, 0) := by decide +kernel
theorem l_292_7 : look 292 7 = some (.laload, 1, 0, 0, 0, 0) := by decide +kernel
theorem l_292_8 : look 292 8 = some (.lstore_n 3, 1, 0, 0, 0, 0) := by decide +kernel
theorem l_292_9 : look 292 9 = some (.lload_n 3, 1, 0, 0, 0, 0) := by decide +kernel
theorem l_292_10 : look 292 10 = some (.lconst 0, 1, 0, 0, 0, 0) := by decide +kernel
theorem l_292_11 : look 292 11 = some (.lcmp, 1, 0, 0, 0, 0) := by decide +kernel
theorem l_292_12 : look 292 12 = some (.ifCond .le 15, 3, 0, 0, 0, 0) := by decide +kernel
theorem l_292_15 : look 292 15 = some (.iinc 2 1, 3, 0, 0, 0, 0) := by decide +kernel
theorem l_292_18 : look 292 18 = some (.lload_n 3, 1, 0, 0, 0, 0) := by decide +kernel
theorem l_292_19 : look 292 19 = some (.ldc2_w 202, 3, 32, 0, 0, 1798) := by decide +kernel
theorem l_292_22 : look 292 22 = some (.ldiv, 1, 0, 0, 0, 0) := by decide +kernel
theorem l_292_23 : look 292 23 = some (.lstore_n 3, 1, 0, 0, 0, 0) := by decide +kernel
theorem l_292_24 : look 292 24 = some (.goto (-15), 3, 0, 0, 0, 0) := by decide +kernel
theorem l_292_27 : look 292 27 = some (.iload_n 2, 1, 0, 0, 0, 0) := by decide +kernel
theorem l_292_28 : look 292 28 = some (.iconst 1, 1, 0, 0, 0, 0) := by decide +kernel
theorem l_292_29 : look 292 29 = some (.isub, 1, 0, 0, 0, 0) := by decide +kernel
theorem l_292_30 : look 292 30 = some (.istore_n 3, 1, 0, 0, 0, 0) := by decide +kernel
theorem l_292_31 : look 292 31 = some (.iload_n 3, 1, 0, 0, 0, 0) := by decide +kernel
theorem l_292_32 : look 292 32 = some (.ifCond .lt 31, 3, 0, 0, 0, 0) := by decide +kernel
theorem l_292_35 : look 292 35 = some (.aload_n 0, 1, 0, 0, 0, 0) := by decide +kernel
theorem l_292_36 : look 292 36 = some (.aload_n 0, 1, 0, 0, 0, 0) := by decide +kernel
theorem l_292_37 : look 292 37 = some (.getfield 7, 3, 10, 2, 2, 1503) := by decide +kernel
theorem l_292_40 : look 292 40 = some (.iload_n 1, 1, 0, 0, 0, 0) := by decide +kernel
theorem l_292_41 : look 292 41 = some (.laload, 1, 0, 0, 0, 0) := by decide +kernel
theorem l_292_42 : look 292 42 = some (.iconst 5, 1, 0, 0, 0, 0) := by decide +kernel
theorem l_292_43 : look 292 43 = some (.iload_n 3, 1, 0, 0, 0, 0) := by decide +kernel
theorem l_292_44 : look 292 44 = some (.imul, 1, 0, 0, 0, 0) := by decide +kernel
theorem l_292_45 : look 292 45 = some (.lshr, 1, 0, 0, 0, 0) := by decide +kernel
theorem l_292_46 : look 292 46 = some (.ldc2_w 529, 3, 31, 0, 0, 2260) := by decide +kernel
theorem l_292_49 : look 292 49 = some (.land, 1, 0, 0, 0, 0) := by decide +kernel
theorem l_292_50 : look 292 50 = some (.l2i, 1, 0, 0, 0, 0) := by decide +kernel
theorem l_292_51 : look 292 51 = some (.bipush 96, 2, 0, 0, 0, 0) := by decide +kernel
theorem l_292_53 : look 292 53 = some (.iadd, 1, 0, 0, 0, 0) := by decide +kernel
theorem l_292_54 : look 292 54 = some (.invokevirtual 526, 3, 289, 2, 0, 2236) := by decide +kernel
theorem l_292_57 : look 292 57 = some (.iinc 3 (-1), 3, 0, 0, 0, 0) := by decide +kernel
theorem l_292_60 : look 292 60 = some (.goto (-29), 3, 0, 0, 0, 0) := by decide +kernel
theorem l_292_63 : look 292 63 = some (.return_, 1, 0, 0, 0, 0) := by decide +kernel

theorem lp_292 (hm : oModel S T s) {n : List Nat} {p : Nat} {Q : Res → Mem → Prop} (hn : okNm n) (kk : WP xs 292 1 27 [vr s, vi ((p : Nat) : Int), vi ((n.length : Nat) : Int), vl 0, vs 2] [] (S, I, T, cc, zz) Q) : ∀ d k, k + d = n.length → WP xs 292 1 9 [vr s, vi ((p : Nat) : Int), vi ((k : Nat) : Int), vl (((nvR n / 32 ^ k) : Nat) : Int), vs 2] [] (S, I, T, cc, zz) Q := by
  intro d
  have h30 := nvR_30 hn
  have hn6 := hn.1
  induction d with
  | zero =>
    intro k hk0
    have e9 : k = n.length := by omega
    rw [e9, nv_end hn]
    refine w_lln l_292_9 rfl ?_
    refine w_lc l_292_10 ?_
    refine w_lcmp l_292_11 ?_
    refine w_zle 27 l_292_12 (by decide) (fun _ => ?_) (fun hx => absurd hx (by decide))
    exact kk
  | succ d ih =>
    intro k hk0
    have hk : k < n.length := by omega
    refine w_lln l_292_9 rfl ?_
    refine w_lc l_292_10 ?_
    refine w_lcmp l_292_11 ?_
    refine w_zle 27 l_292_12 (by decide) (fun hx => absurd hx (by show ¬ (cmpL _ 0 ≤ 0); rw [cmpL_pos (by have := nv_pos hn hk; omega)]; decide)) (fun _ => ?_)
    refine w_inc ((k + 1 : Nat) : Int) l_292_15 rfl rfl (by unfold wr; omega) ?_
    refine w_lln l_292_18 rfl ?_
    refine w_ldc2 l_292_19 (by decide) ?_
    refine w_ldiv (((nvR n / 32 ^ (k + 1)) : Nat) : Int) l_292_22 (by decide) (by show wl ((nvR n / 32 ^ k / 32 : Nat) : Int) = _; rw [Nat.div_div_eq_div_mul, ← Nat.pow_succ, show k.succ = k + 1 from rfl]; have h9 := Nat.div_le_self (nvR n) (32 ^ (k + 1)); generalize nvR n / 32 ^ (k + 1) = z9 at h9 ⊢; unfold wl; omega) ?_
    refine w_lsn l_292_23 ⟨Nat.le_of_ble_eq_true rfl, rfl⟩ ?_
    refine w_go 9 l_292_24 (by decide) ?_
    exact ih (k + 1) (by omega)
theorem lp_292b (hm : oModel S T s) {n : List Nat} {p : Nat} (hp : p < 4) (hn : okNm n) (hv : I (s + 1) p = ((nvR n : Nat) : Int)) : ∀ d (L : List Nat) J, d ≤ n.length ∧ L.length + (n.take d).length ≤ 600 → mlS J s L → mff I J s → WP xs 292 1 31 [vr s, vi ((p : Nat) : Int), vi ((n.length : Nat) : Int), vi (((d : Nat) : Int) - 1), vs 2] [] (S, J, T, cc, zz) (RP S T cc zz (fun v I' => v = none ∧ mlS I' s (L ++ nameB (n.take d)) ∧ mff I I' s)) := by
  intro d
  have h30 := nvR_30 hn
  have hn6 := hn.1
  induction d with
  | zero =>
    intro L J hL H F0
    refine w_iln l_292_31 rfl ?_
    refine w_zlt 63 l_292_32 (by decide) (fun _ => ?_) (fun hx => absurd hx (by decide))
    refine w_vr l_292_63 ?_
    rw [List.take_zero, show nameB [] = [] from rfl, List.append_nil]
    exact ⟨_, _, rfl, rfl, rfl, H, F0⟩
  | succ d ih =>
    intro L J hL H F0
    have hd : d < n.length := by omega
    have hgl : n.getD d 0 ≤ 26 := by
      have hm9 : n.getD d 0 ∈ n := by
        rw [List.getD_eq_getElem?_getD, List.getElem?_eq_getElem hd]
        exact List.getElem_mem _
      exact (hn.2 _ hm9).2
    refine w_iln l_292_31 rfl ?_
    refine w_zlt 63 l_292_32 (by decide) (fun hx => absurd hx (by omega)) (fun _ => ?_)
    refine w_aln l_292_35 rfl ?_
    refine w_aln l_292_36 rfl ?_
    refine w_gr l_292_37 (oModel_sh hm) (oModel_r2 hm) ?_
    refine w_iln l_292_40 rfl ?_
    refine w_la p (((nvR n) : Nat) : Int) l_292_41 (oModel_s2 hm) rfl (by omega) ((F0 _ _ (by omega) (by omega)).trans hv) ?_
    refine w_ic l_292_42 (by decide) ?_
    refine w_iln l_292_43 rfl ?_
    refine w_mul (((5 * d) : Nat) : Int) l_292_44 (by unfold wr; omega) ?_
    refine w_lshr (((nvR n / 2 ^ (5 * d)) : Nat) : Int) l_292_45 (lshr_n (by omega) (by omega)) ?_
    refine w_ldc2 l_292_46 (by decide) ?_
    refine w_land (((n.getD d 0) : Nat) : Int) l_292_49 ((land_31 (Nat.lt_of_le_of_lt (Nat.div_le_self _ _) (by omega))).trans (congrArg (fun z : Nat => (z : Int)) ((by rw [Nat.pow_mul] : nvR n / 2 ^ (5 * d) % 32 = nvR n / 32 ^ d % 32).trans (nvR_at n d hn.2)))) ?_
    refine w_l2i (((n.getD d 0) : Nat) : Int) l_292_50 (by unfold wr; omega) ?_
    refine w_bp l_292_51 (by decide) ?_
    refine w_add (((n.getD d 0 + 96) : Nat) : Int) l_292_53 (by unfold wr; omega) ?_
    refine p_iv [vi (((n.getD d 0 + 96) : Nat) : Int)] [] l_292_54 rfl rfl (Nat.le_of_ble_eq_true rfl) (by rw [mx_289]; exact Nat.le_of_ble_eq_true rfl) (by rw [mt_289]; exact oModel_sh hm) (by rw [mt_289]; decide) (by rw [rk_289]; decide) (r_put hm H (by rw [List.length_take] at hL; omega)) (fun v I1 hv => ?_)
    obtain ⟨rfl, H1, f1⟩ := hv
    refine w_inc (((((d + 1) : Nat) : Int) - 1) - 1) l_292_57 rfl rfl (by unfold wr; omega) ?_
    refine w_go 31 l_292_60 (by decide) ?_
    have g := ih (L ++ [n.getD d 0 + 96]) I1 (by simp only [List.length_append, List.length_cons, List.length_nil, List.length_take] at *; omega) H1 (F0.tr f1)
    rw [List.append_assoc, List.singleton_append, ← take_rev hd] at g
    rw [show (((d + 1 : Nat) : Int) - 1) - 1 = ((d : Nat) : Int) - 1 by omega]
    exact g
theorem s_292 (hm : oModel S T s) (H : mlS I s L) {n : List Nat} {p : Nat} (hp : p < 4) (hn : okNm n) (hv : I (s + 1) p = ((nvR n : Nat) : Int)) (hL : L.length + 6 ≤ 600) : CL xs 292 [vr s, vi ((p : Nat) : Int)] (S, I, T, cc, zz) (RP S T cc zz (fun v I' => v = none ∧ mlS I' s (L ++ nameB n) ∧ mff I I' s)) := by
  refine CL_start (r := 1) (ls := [vr s, vi ((p : Nat) : Int), vs 2, vs 2, vs 2]) (rk_292 _) rfl ?_
  refine w_ic l_292_0 (by decide) ?_
  refine w_isn l_292_1 ⟨Nat.le_of_ble_eq_true rfl, rfl⟩ ?_
  refine w_aln l_292_2 rfl ?_
  refine w_gr l_292_3 (oModel_sh hm) (oModel_r2 hm) ?_
  refine w_iln l_292_6 rfl ?_
  refine w_la p (((nvR n) : Nat) : Int) l_292_7 (oModel_s2 hm) rfl (by omega) hv ?_
  refine w_lsn l_292_8 ⟨Nat.le_of_ble_eq_true rfl, rfl⟩ ?_
  have e8 : nvR n = nvR n / 32 ^ 0 := (Nat.div_one _).symm
  have hn6 := hn.1
  rw [show (vl ((nvR n : Nat) : Int)) = vl ((nvR n / 32 ^ 0 : Nat) : Int) by rw [← e8]]
  refine lp_292 hm hn ?_ n.length 0 (Nat.zero_add _)
  refine w_iln l_292_27 rfl ?_
  refine w_ic l_292_28 (by decide) ?_
  refine w_sub (((n.length : Nat) : Int) - 1) l_292_29 (by unfold wr; omega) ?_
  refine w_isn l_292_30 ⟨Nat.le_of_ble_eq_true rfl, rfl⟩ ?_
  have g := lp_292b (I := I) (xs := xs) (cc := cc) (zz := zz) hm hp hn hv n.length L I ⟨Nat.le_refl _, by rw [take_all (Nat.le_refl _)]; have := hn.1; omega⟩ H (mff.rf _ _)
  rw [take_all (Nat.le_refl _)] at g
  exact g

theorem mx_293 : mxl 293 = 1 := by decide +kernel
theorem mt_293 : mtc 293 = 10 := by decide +kernel
theorem rk_293 (as : List AV) : rkA 293 as = 0 := rfl
theorem l_293_0 : look 293 0 = some (.iload_n 0, 1, 0, 0, 0, 0) := by decide +kernel
theorem l_293_1 : look 293 1 = some (.tableswitch 87 1 9 #[51, 55, 59, 63, 67, 71, 75, 79, 83], 51, 0, 0, 0, 0) := by decide +kernel
theorem l_293_52 : look 293 52 = some (.ldc_w 531, 3, 44, 0, 0, 2243) := by decide +kernel
theorem l_293_55 : look 293 55 = some (.areturn, 1, 0, 0, 0, 0) := by decide +kernel
theorem l_293_56 : look 293 56 = some (.ldc_w 533, 3, 45, 0, 0, 2244) := by decide +kernel
theorem l_293_59 : look 293 59 = some (.areturn, 1, 0, 0, 0, 0) := by decide +kernel
theorem l_293_60 : look 293 60 = some (.ldc_w 535, 3, 46, 0, 0, 2245) := by decide +kernel
theorem l_293_63 : look 293 63 = some (.areturn, 1, 0, 0, 0, 0) := by decide +kernel
theorem l_293_64 : look 293 64 = some (.ldc_w 537, 3, 47, 0, 0, 2246) := by decide +kernel
theorem l_293_67 : look 293 67 = some (.areturn, 1, 0, 0, 0, 0) := by decide +kernel
theorem l_293_68 : look 293 68 = some (.ldc_w 539, 3, 48, 0, 0, 2247) := by decide +kernel
theorem l_293_71 : look 293 71 = some (.areturn, 1, 0, 0, 0, 0) := by decide +kernel
theorem l_293_72 : look 293 72 = some (.ldc_w 300, 3, 31, 0, 0, 1817) := by decide +kernel
theorem l_293_75 : look 293 75 = some (.areturn, 1, 0, 0, 0, 0) := by decide +kernel
theorem l_293_76 : look 293 76 = some (.ldc_w 541, 3, 49, 0, 0, 2248) := by decide +kernel
theorem l_293_79 : look 293 79 = some (.areturn, 1, 0, 0, 0, 0) := by decide +kernel
theorem l_293_80 : look 293 80 = some (.ldc_w 543, 3, 50, 0, 0, 2249) := by decide +kernel
theorem l_293_83 : look 293 83 = some (.areturn, 1, 0, 0, 0, 0) := by decide +kernel
theorem l_293_84 : look 293 84 = some (.ldc_w 545, 3, 51, 0, 0, 2250) := by decide +kernel
theorem l_293_87 : look 293 87 = some (.areturn, 1, 0, 0, 0, 0) := by decide +kernel
theorem l_293_88 : look 293 88 = some (.ldc_w 547, 3, 52, 0, 0, 2251) := by decide +kernel
theorem l_293_91 : look 293 91 = some (.areturn, 1, 0, 0, 0, 0) := by decide +kernel

theorem s_293 {c : Nat} (hc : 1 ≤ c ∧ c ≤ 10) : CL xs 293 [vi ((c : Nat) : Int)] (S, I, T, cc, zz) (FN (some (vs (2 * (rcS c) + 4))) (S, I, T, cc, zz)) := by
  rcases (show c = 1 ∨ c = 2 ∨ c = 3 ∨ c = 4 ∨ c = 5 ∨ c = 6 ∨ c = 7 ∨ c = 8 ∨ c = 9 ∨ c = 10 by omega) with e | e | e | e | e | e | e | e | e | e <;> subst e
  · skip
    refine CL_start (r := 0) (ls := [vi 1]) (rk_293 _) rfl ?_
    refine w_iln l_293_0 rfl ?_
    refine w_swi 52 l_293_1 (by decide) rfl (by decide) ?_
    refine w_ldcw l_293_52 (by decide) ?_
    refine w_ars l_293_55 ?_
    exact ⟨rfl, rfl⟩
  · skip
    refine CL_start (r := 0) (ls := [vi 2]) (rk_293 _) rfl ?_
    refine w_iln l_293_0 rfl ?_
    refine w_swi 56 l_293_1 (by decide) rfl (by decide) ?_
    refine w_ldcw l_293_56 (by decide) ?_
    refine w_ars l_293_59 ?_
    exact ⟨rfl, rfl⟩
  · skip
    refine CL_start (r := 0) (ls := [vi 3]) (rk_293 _) rfl ?_
    refine w_iln l_293_0 rfl ?_
    refine w_swi 60 l_293_1 (by decide) rfl (by decide) ?_
    refine w_ldcw l_293_60 (by decide) ?_
    refine w_ars l_293_63 ?_
    exact ⟨rfl, rfl⟩
  · skip
    refine CL_start (r := 0) (ls := [vi 4]) (rk_293 _) rfl ?_
    refine w_iln l_293_0 rfl ?_
    refine w_swi 64 l_293_1 (by decide) rfl (by decide) ?_
    refine w_ldcw l_293_64 (by decide) ?_
    refine w_ars l_293_67 ?_
    exact ⟨rfl, rfl⟩
  · skip
    refine CL_start (r := 0) (ls := [vi 5]) (rk_293 _) rfl ?_
    refine w_iln l_293_0 rfl ?_
    refine w_swi 68 l_293_1 (by decide) rfl (by decide) ?_
    refine w_ldcw l_293_68 (by decide) ?_
    refine w_ars l_293_71 ?_
    exact ⟨rfl, rfl⟩
  · skip
    refine CL_start (r := 0) (ls := [vi 6]) (rk_293 _) rfl ?_
    refine w_iln l_293_0 rfl ?_
    refine w_swi 72 l_293_1 (by decide) rfl (by decide) ?_
    refine w_ldcw l_293_72 (by decide) ?_
    refine w_ars l_293_75 ?_
    exact ⟨rfl, rfl⟩
  · skip
    refine CL_start (r := 0) (ls := [vi 7]) (rk_293 _) rfl ?_
    refine w_iln l_293_0 rfl ?_
    refine w_swi 76 l_293_1 (by decide) rfl (by decide) ?_
    refine w_ldcw l_293_76 (by decide) ?_
    refine w_ars l_293_79 ?_
    exact ⟨rfl, rfl⟩
  · skip
    refine CL_start (r := 0) (ls := [vi 8]) (rk_293 _) rfl ?_
    refine w_iln l_293_0 rfl ?_
    refine w_swi 80 l_293_1 (by decide) rfl (by decide) ?_
    refine w_ldcw l_293_80 (by decide) ?_
    refine w_ars l_293_83 ?_
    exact ⟨rfl, rfl⟩
  · skip
    refine CL_start (r := 0) (ls := [vi 9]) (rk_293 _) rfl ?_
    refine w_iln l_293_0 rfl ?_
    refine w_swi 84 l_293_1 (by decide) rfl (by decide) ?_
    refine w_ldcw l_293_84 (by decide) ?_
    refine w_ars l_293_87 ?_
    exact ⟨rfl, rfl⟩
  · skip
    refine CL_start (r := 0) (ls := [vi 10]) (rk_293 _) rfl ?_
    refine w_iln l_293_0 rfl ?_
    refine w_swd 88 l_293_1 (by decide) (by decide) ?_
    refine w_ldcw l_293_88 (by decide) ?_
    refine w_ars l_293_91 ?_
    exact ⟨rfl, rfl⟩

end RFM
