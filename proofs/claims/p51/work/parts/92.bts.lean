/-! bits of naturals below 2^31, as the machine has them -/
theorem n32 (m : Nat) : (Int32.ofInt (m : Int)).toBitVec = BitVec.ofNat 32 m := by rw [Int32.toBitVec_ofInt, BitVec.ofInt_natCast]
theorem t32 {x : Int32} {m : Nat} (h : x.toBitVec = BitVec.ofNat 32 m) (hm : m < 2147483648) : x.toInt = (m : Int) := by
  show x.toBitVec.toInt = _
  have e : (BitVec.ofNat 32 m).toNat = m := by rw [BitVec.toNat_ofNat]; exact Nat.mod_eq_of_lt (by omega)
  rw [h, BitVec.toInt_eq_toNat_of_lt (by rw [e]; omega), e]
theorem or_nn {m n : Nat} (hm : m < 2147483648) (hn : n < 2147483648) : a2 (fun x y => x ||| y) (m : Int) (n : Int) = ((m ||| n : Nat) : Int) :=
  t32 (by show (Int32.ofInt (m : Int) ||| Int32.ofInt (n : Int)).toBitVec = _; rw [Int32.toBitVec_or, n32, n32, BitVec.ofNat_or]) (Nat.or_lt_two_pow (n := 31) hm hn)
theorem and_nn {m n : Nat} (hm : m < 2147483648) : a2 (fun x y => x &&& y) (m : Int) (n : Int) = ((m &&& n : Nat) : Int) :=
  t32 (by show (Int32.ofInt (m : Int) &&& Int32.ofInt (n : Int)).toBitVec = _; rw [Int32.toBitVec_and, n32, n32, BitVec.ofNat_and]) (Nat.lt_of_le_of_lt Nat.and_le_left hm)
theorem xor_nn {m n : Nat} (hm : m < 2147483648) (hn : n < 2147483648) : a2 (fun x y => x ^^^ y) (m : Int) (n : Int) = ((m ^^^ n : Nat) : Int) :=
  t32 (by show (Int32.ofInt (m : Int) ^^^ Int32.ofInt (n : Int)).toBitVec = _; rw [Int32.toBitVec_xor, n32, n32, BitVec.ofNat_xor]) (Nat.xor_lt_two_pow (n := 31) hm hn)
theorem sm32 : ∀ k : Nat, k < 32 → (BitVec.smod (Int32.ofInt (k : Int) &&& 31).toBitVec 32).toNat = k := by decide +kernel
theorem su32 : ∀ k : Nat, k < 32 → (((Int32.ofInt (k : Int)).toUInt32 &&& Int32.toUInt32 31).toBitVec % 32).toNat = k := by decide +kernel
theorem shl_n {m k : Nat} (hk : k < 32) (hm : m * 2 ^ k < 2147483648) : a2 (fun x y => x <<< (y &&& 31)) (m : Int) (k : Int) = ((m * 2 ^ k : Nat) : Int) := by
  refine t32 ?_ hm
  show (Int32.ofInt (m : Int) <<< (Int32.ofInt (k : Int) &&& 31)).toBitVec = _
  rw [Int32.toBitVec_shiftLeft, n32, BitVec.shiftLeft_eq', sm32 k hk]
  refine BitVec.eq_of_toNat_eq ?_
  rw [BitVec.toNat_shiftLeft, BitVec.toNat_ofNat, BitVec.toNat_ofNat, Nat.shiftLeft_eq, Nat.mod_mul_mod]
theorem ushr_n {m k : Nat} (hk : k < 32) (hm : m < 2147483648) : a2 (fun x y => (x.toUInt32 >>> (y.toUInt32 &&& Int32.toUInt32 31)).toInt32) (m : Int) (k : Int) = ((m / 2 ^ k : Nat) : Int) := by
  refine t32 ?_ (Nat.lt_of_le_of_lt (Nat.div_le_self _ _) hm)
  show ((Int32.ofInt (m : Int)).toUInt32 >>> ((Int32.ofInt (k : Int)).toUInt32 &&& Int32.toUInt32 31)).toBitVec = _
  rw [UInt32.toBitVec_shiftRight, BitVec.ushiftRight_eq', su32 k hk]
  show (Int32.ofInt (m : Int)).toBitVec >>> k = _
  rw [n32]
  refine BitVec.eq_of_toNat_eq ?_
  rw [BitVec.toNat_ushiftRight, BitVec.toNat_ofNat, BitVec.toNat_ofNat, Nat.shiftRight_eq_div_pow, Nat.mod_eq_of_lt (by omega)]
  exact (Nat.mod_eq_of_lt (Nat.lt_of_le_of_lt (Nat.div_le_self _ _) (by omega))).symm
theorem shr_n {m k : Nat} (hk : k < 32) (hm : m < 2147483648) : a2 (fun x y => x >>> (y &&& 31)) (m : Int) (k : Int) = ((m / 2 ^ k : Nat) : Int) := by
  show (Int32.ofInt (m : Int) >>> (Int32.ofInt (k : Int) &&& 31)).toBitVec.toInt = _
  have e : (BitVec.ofNat 32 m).toNat = m := by rw [BitVec.toNat_ofNat]; exact Nat.mod_eq_of_lt (by omega)
  rw [Int32.toBitVec_shiftRight, n32, BitVec.sshiftRight_eq', sm32 k hk, BitVec.toInt_sshiftRight, BitVec.toInt_eq_toNat_of_lt (by rw [e]; omega), e, Int.shiftRight_eq_div_pow]
  exact (Int.natCast_ediv m (2 ^ k)).symm.trans rfl
theorem and_15 {m : Nat} (hm : m < 2147483648) : a2 (fun x y => x &&& y) (m : Int) 15 = ((m % 16 : Nat) : Int) := (and_nn (n := 15) hm).trans (congrArg (fun n : Nat => (n : Int)) (Nat.and_two_pow_sub_one_eq_mod m 4))
theorem and_3 {m : Nat} (hm : m < 2147483648) : a2 (fun x y => x &&& y) (m : Int) 3 = ((m % 4 : Nat) : Int) := (and_nn (n := 3) hm).trans (congrArg (fun n : Nat => (n : Int)) (Nat.and_two_pow_sub_one_eq_mod m 2))
theorem xor_1 {m : Nat} (hm : m < 2147483648) : a2 (fun x y => x ^^^ y) (m : Int) 1 = ((if m % 2 = 0 then m + 1 else m - 1 : Nat) : Int) := by
  rw [show ((1 : Int)) = ((1 : Nat) : Int) from rfl, xor_nn (by omega) (by decide)]
  congr 1
  have h1 := Nat.xor_div_two (a := m) (b := 1)
  have h2 := Nat.xor_mod_two_eq_one (a := m) (b := 1)
  rw [show 1 / 2 = 0 from rfl, Nat.xor_zero] at h1
  split <;> omega
theorem or_1 {m : Nat} (hm : m < 2147483647) : a2 (fun x y => x ||| y) (m : Int) 1 = ((m / 2 * 2 + 1 : Nat) : Int) := by
  rw [show ((1 : Int)) = ((1 : Nat) : Int) from rfl, or_nn (by omega) (by decide)]
  congr 1
  have h1 := Nat.or_div_two (a := m) (b := 1)
  have h2 := Nat.or_mod_two_eq_one (a := m) (b := 1)
  rw [show 1 / 2 = 0 from rfl, Nat.or_zero] at h1
  omega
theorem or_0 {m : Nat} (hm : m < 2147483648) : a2 (fun x y => x ||| y) (m : Int) 0 = (m : Int) := by
  rw [show ((0 : Int)) = ((0 : Nat) : Int) from rfl, or_nn hm (by decide), Nat.or_zero]
theorem m2_bits : ∀ i : Nat, i < 32 → (BitVec.getLsbD 4294967294#32 i = decide (i ≠ 0)) ∧ BitVec.getLsbD 4294967295#32 i = true := by decide +kernel
theorem or_m2 (m : Nat) : a2 (fun x y => x ||| y) (m : Int) (-2) = if m % 2 = 0 then -2 else -1 := by
  show (Int32.ofInt (m : Int) ||| Int32.ofInt (-2)).toBitVec.toInt = _
  rw [Int32.toBitVec_or, n32, show (Int32.ofInt (-2)).toBitVec = 4294967294#32 from by decide]
  by_cases h : m % 2 = 0
  · rw [if_pos h, show BitVec.ofNat 32 m ||| 4294967294#32 = 4294967294#32 from BitVec.eq_of_getLsbD_eq fun i hi => ?_]
    · decide
    · rw [BitVec.getLsbD_or, (m2_bits i hi).1, BitVec.getLsbD_ofNat]
      by_cases hi0 : i = 0
      · rw [hi0, Nat.testBit_zero]
        simp [h]
      · simp [hi0]
  · rw [if_neg h, show BitVec.ofNat 32 m ||| 4294967294#32 = 4294967295#32 from BitVec.eq_of_getLsbD_eq fun i hi => ?_]
    · decide
    · rw [BitVec.getLsbD_or, (m2_bits i hi).1, (m2_bits i hi).2, BitVec.getLsbD_ofNat]
      by_cases hi0 : i = 0
      · rw [hi0, Nat.testBit_zero]
        simp
        omega
      · simp [hi0]
theorem and_m1 {m : Nat} (hm : m < 2147483648) : a2 (fun x y => x &&& y) (m : Int) (-1) = (m : Int) := by
  refine t32 ?_ hm
  show (Int32.ofInt (m : Int) &&& Int32.ofInt (-1)).toBitVec = _
  rw [Int32.toBitVec_and, n32, show (Int32.ofInt (-1)).toBitVec = 4294967295#32 from by decide]
  refine BitVec.eq_of_getLsbD_eq fun i hi => ?_
  rw [BitVec.getLsbD_and, (m2_bits i hi).2, Bool.and_true]
theorem and_m2 {m : Nat} (hm : m < 2147483648) : a2 (fun x y => x &&& y) (m : Int) (-2) = ((m / 2 * 2 : Nat) : Int) := by
  refine t32 ?_ (by omega)
  show (Int32.ofInt (m : Int) &&& Int32.ofInt (-2)).toBitVec = _
  rw [Int32.toBitVec_and, n32, show (Int32.ofInt (-2)).toBitVec = 4294967294#32 from by decide]
  refine BitVec.eq_of_getLsbD_eq fun i hi => ?_
  rw [BitVec.getLsbD_and, (m2_bits i hi).1, BitVec.getLsbD_ofNat, BitVec.getLsbD_ofNat]
  cases i with
  | zero =>
    rw [Nat.testBit_zero, Nat.testBit_zero]
    simp
  | succ i =>
    rw [Nat.testBit_succ, Nat.testBit_succ, Nat.mul_div_cancel _ (by decide)]
    simp
