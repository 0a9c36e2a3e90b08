/-! numbers of the machine and integers -/
def inI (x : Int) : Prop := -2147483648 ≤ x ∧ x < 2147483648
def inL (x : Int) : Prop := -9223372036854775808 ≤ x ∧ x < 9223372036854775808
abbrev i32 (x : Int) : Int32 := Int32.ofInt x
abbrev i64 (x : Int) : Int64 := Int64.ofInt x
theorem bm32 (z : Int) : z.bmod (2 ^ 32) = wr z := by
  rw [Int.bmod_eq_emod]; unfold wr; split <;> omega
theorem bm64 (z : Int) : z.bmod (2 ^ 64) = wl z := by
  rw [Int.bmod_eq_emod]; unfold wl; split <;> omega
theorem bm8 (z : Int) : z.bmod (2 ^ 8) = wb z := by
  rw [Int.bmod_eq_emod]; unfold wb; split <;> omega
theorem wr_in (x : Int) : inI (wr x) := by unfold inI wr; omega
theorem wl_in (x : Int) : inL (wl x) := by unfold inL wl; omega
theorem wr_id {x : Int} (h : inI x) : wr x = x := by unfold inI at h; unfold wr; omega
theorem wl_id {x : Int} (h : inL x) : wl x = x := by unfold inL at h; unfold wl; omega
theorem i32_toInt' (x : Int) : (i32 x).toInt = wr x := by rw [← bm32]; exact Int32.toInt_ofInt
theorem i64_toInt' (x : Int) : (i64 x).toInt = wl x := by rw [← bm64]; exact Int64.toInt_ofInt
theorem i32_toInt {x : Int} (h : inI x) : (i32 x).toInt = x := by rw [i32_toInt', wr_id h]
theorem i64_toInt {x : Int} (h : inL x) : (i64 x).toInt = x := by rw [i64_toInt', wl_id h]
theorem toInt_in (v : Int32) : inI v.toInt := ⟨Int32.le_toInt v, Int32.toInt_lt v⟩
theorem toIntL_in (v : Int64) : inL v.toInt := ⟨Int64.le_toInt v, Int64.toInt_lt v⟩
theorem i32_ext {a b : Int32} (h : a.toInt = b.toInt) : a = b := Int32.toInt_inj.mp h
theorem i64_ext {a b : Int64} (h : a.toInt = b.toInt) : a = b := Int64.toInt_inj.mp h
theorem i32_of (v : Int32) : i32 v.toInt = v := i32_ext (i32_toInt (toInt_in v))
theorem i64_of (v : Int64) : i64 v.toInt = v := i64_ext (i64_toInt (toIntL_in v))
theorem i32_wr (x : Int) : i32 (wr x) = i32 x := i32_ext (by rw [i32_toInt', i32_toInt', wr_id (wr_in x)])
theorem i64_wl (x : Int) : i64 (wl x) = i64 x := i64_ext (by rw [i64_toInt', i64_toInt', wl_id (wl_in x)])
theorem i32_add (x y : Int) : i32 x + i32 y = i32 (wr (x + y)) := by rw [i32_wr]; exact (Int32.ofInt_add x y).symm
theorem i32_sub (x y : Int) : i32 x - i32 y = i32 (wr (x - y)) := by rw [i32_wr]; exact (Int32.ofInt_sub x y).symm
theorem i32_mul (x y : Int) : i32 x * i32 y = i32 (wr (x * y)) := by rw [i32_wr]; exact (Int32.ofInt_mul x y).symm
theorem i64_add (x y : Int) : i64 x + i64 y = i64 (wl (x + y)) := by rw [i64_wl]; exact (Int64.ofInt_add x y).symm
theorem i64_sub (x y : Int) : i64 x - i64 y = i64 (wl (x - y)) := by rw [i64_wl]; exact (Int64.ofInt_sub x y).symm
theorem i64_mul (x y : Int) : i64 x * i64 y = i64 (wl (x * y)) := by rw [i64_wl]; exact (Int64.ofInt_mul x y).symm
theorem i32_div {x y : Int} (hx : inI x) (hy : inI y) : i32 x / i32 y = i32 (wr (x.tdiv y)) := i32_ext (by
  rw [Int32.toInt_div, i32_toInt hx, i32_toInt hy, bm32, i32_toInt', wr_id (wr_in _)])
theorem i64_div {x y : Int} (hx : inL x) (hy : inL y) : i64 x / i64 y = i64 (wl (x.tdiv y)) := i64_ext (by
  rw [Int64.toInt_div, i64_toInt hx, i64_toInt hy, bm64, i64_toInt', wl_id (wl_in _)])
theorem i32_rem {x y : Int} (hx : inI x) (hy : inI y) : i32 x - i32 x / i32 y * i32 y = i32 (x.tmod y) := by
  rw [i32_div hx hy, i32_mul, i32_sub]
  apply i32_ext
  rw [i32_toInt', i32_toInt', wr_id (wr_in _)]
  have h1 := Int.mul_tdiv_add_tmod x y
  unfold wr
  generalize x.tdiv y = d at *
  have e : ∀ a : Int, ((a + 2147483648) % 4294967296 - 2147483648) = a + 4294967296 * (-((a + 2147483648) / 4294967296)) := fun a => by omega
  have e1 : ((d + 2147483648) % 4294967296 - 2147483648) * y = d * y + 4294967296 * (-((d + 2147483648) / 4294967296) * y) := by
    rw [e, Int.add_mul, Int.mul_assoc]
  rw [e1]
  have e2 : d * y = y * d := Int.mul_comm d y
  generalize -((d + 2147483648) / 4294967296) * y = g at *
  generalize d * y = dy at *
  omega
theorem a2_ok (f : Int32 → Int32 → Int32) (x y : Int) : f (i32 x) (i32 y) = i32 (a2 f x y) := (i32_of _).symm
theorem l2_ok (f : Int64 → Int64 → Int64) (x y : Int) : f (i64 x) (i64 y) = i64 (l2 f x y) := (i64_of _).symm
theorem l1_ok (f : Int64 → Int32 → Int64) (x y : Int) : f (i64 x) (i32 y) = i64 (l1 f x y) := (i64_of _).symm
theorem i32_lt {x y : Int} (hx : inI x) (hy : inI y) : i32 x < i32 y ↔ x < y := by rw [Int32.lt_iff_toInt_lt, i32_toInt hx, i32_toInt hy]
theorem i32_le {x y : Int} (hx : inI x) (hy : inI y) : i32 x ≤ i32 y ↔ x ≤ y := by rw [Int32.le_iff_toInt_le, i32_toInt hx, i32_toInt hy]
theorem i32_eq {x y : Int} (hx : inI x) (hy : inI y) : i32 x = i32 y ↔ x = y := by rw [← Int32.toInt_inj, i32_toInt hx, i32_toInt hy]
theorem i64_lt {x y : Int} (hx : inL x) (hy : inL y) : i64 x < i64 y ↔ x < y := by rw [Int64.lt_iff_toInt_lt, i64_toInt hx, i64_toInt hy]
theorem i64_eq {x y : Int} (hx : inL x) (hy : inL y) : i64 x = i64 y ↔ x = y := by rw [← Int64.toInt_inj, i64_toInt hx, i64_toInt hy]
theorem i32_i64 {x : Int} (hx : inI x) : (i32 x).toInt64 = i64 x := i64_ext (by
  rw [Int32.toInt_toInt64, i32_toInt hx, i64_toInt]; unfold inI at hx; unfold inL; omega)
theorem i64_i32 {x : Int} (hx : inL x) : (i64 x).toInt32 = i32 (wr x) := i32_ext (by
  rw [Int64.toInt_toInt32, i64_toInt hx, bm32, i32_toInt', wr_id (wr_in _)])
theorem wb_in (x : Int) : -128 ≤ wb x ∧ wb x < 128 := by unfold wb; omega
theorem wb_inI (x : Int) : inI (wb x) := by unfold inI wb; omega
theorem i32_i8 {x : Int} (hx : inI x) : (i32 x).toInt8.toInt32 = i32 (wb x) := i32_ext (by
  rw [Int8.toInt_toInt32, Int32.toInt_toInt8, i32_toInt hx, bm8, i32_toInt (wb_inI x)])
theorem i32_tn (x : Int) : ((i32 x).toBitVec.toNat : Int) = x % 4294967296 := by
  have h : (i32 x).toInt = wr x := i32_toInt' x
  have h2 : (i32 x).toInt = (i32 x).toBitVec.toInt := rfl
  rw [h2, BitVec.toInt_eq_toNat_cond] at h
  have h3 := (i32 x).toBitVec.isLt
  unfold wr at h
  split at h <;> omega
theorem i32_nI {x : Int} (hx : inI x) (h0 : 0 ≤ x) : i32 x = nI x.toNat := i32_ext (by
  rw [i32_toInt hx, nI_toInt (by unfold inI at hx; omega)]; omega)
theorem i32_char (x : Int) : ((i32 x).toUInt32 % 65536).toInt32 = i32 (x % 65536) := by
  rw [pk_char, i32_nI (x := x % 65536) (by unfold inI; omega) (by omega)]
  congr 1
  have := i32_tn x
  omega
theorem i32_clamp {x : Int} (hx : inI x) : (i32 x).toNatClampNeg = x.toNat := by
  show (i32 x).toInt.toNat = _
  rw [i32_toInt hx]
theorem i32_in {x : Int} {n : Nat} (hx : inI x) (h : inR x n = true) : vp_in (i32 x) n := by
  rw [vp_in_iff, i32_toInt hx]
  unfold inR at h
  simpa using h
theorem i32_nneg {x : Int} (hx : inI x) (h : 0 ≤ x) : ¬ i32 x < 0 := by
  have : (0 : Int32) = i32 0 := rfl
  rw [this, i32_lt hx (by unfold inI; omega)]
  omega
theorem i64_cmp {x y : Int} (hx : inL x) (hy : inL y) : lg_cmp (i64 x) (i64 y) = i32 (cmpL x y) := by
  unfold lg_cmp cmpL
  by_cases h1 : x < y
  · rw [if_neg (by show ¬ i64 y < i64 x; rw [i64_lt hy hx]; omega), if_neg (by rw [i64_eq hx hy]; omega), if_pos h1]; rfl
  · rw [if_neg h1]
    by_cases h2 : x = y
    · rw [if_neg (by show ¬ i64 y < i64 x; rw [i64_lt hy hx]; omega), if_pos (by rw [h2]), if_pos h2]; rfl
    · rw [if_pos (by show i64 y < i64 x; rw [i64_lt hy hx]; omega), if_neg h2]; rfl
theorem nar_byte {x : Int} (hx : inI x) : vp_nar .byte (i32 x) = i32 (wb x) := by rw [vp_nar_byte, i32_i8 hx]
theorem nar_bool (x : Int) : vp_nar .boolean (i32 x) = i32 (x % 2) := by
  have h1 : vp_nar .boolean (i32 x) = i32 x &&& 1 := rfl
  rw [h1]
  have h2 := pk_and (i32 x) (m := 1) 1 (by decide)
  rw [h2, i32_nI (x := x % 2) (by unfold inI; omega) (by omega)]
  congr 1
  have := i32_tn x
  omega
theorem i32_nat {n : Nat} (h : n < 2147483648) : Int32.ofNat n = i32 (n : Int) := by
  rw [i32_nI (by unfold inI; omega) (by omega)]; rfl
theorem i8_i32 {n : Int} (h : -128 ≤ n ∧ n < 128) : (Int8.ofInt n).toInt32 = i32 n := i32_ext (by
  rw [Int8.toInt_toInt32, Int8.toInt_ofInt, i32_toInt (by unfold inI; omega)]
  have : n.bmod (2 ^ 8) = wb n := bm8 n
  have h2 : Int8.size = 2 ^ 8 := rfl
  rw [h2, this]; unfold wb; omega)
theorem i16_i32 {n : Int} (h : -32768 ≤ n ∧ n < 32768) : (Int16.ofInt n).toInt32 = i32 n := i32_ext (by
  rw [Int16.toInt_toInt32, Int16.toInt_ofInt, i32_toInt (by unfold inI; omega)]
  have h2 : Int16.size = 2 ^ 16 := rfl
  rw [h2, Int.bmod_eq_emod]; split <;> omega)
theorem icmp_ok {x y : Int} (hx : inI x) (hy : inI y) (f : ICnd) : icmpF f x y = (match f with
  | .eq => decide (i32 x = i32 y)
  | .ne => decide (¬ i32 x = i32 y)
  | .lt => decide (i32 x < i32 y)
  | .ge => decide (i32 y ≤ i32 x)
  | .gt => decide (i32 y < i32 x)
  | .le => decide (i32 x ≤ i32 y)) := by
  cases f <;> simp only [icmpF, i32_eq hx hy, i32_lt hx hy, i32_lt hy hx, i32_le hx hy, i32_le hy hx]
