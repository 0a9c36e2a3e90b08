/-! THE ABSTRACT MACHINE: numbers are integers, an object is a number, its places are rows; it runs the tables of the part before -/
abbrev AV : Type := Int ⊕ (Int ⊕ (Nat ⊕ Nat))
abbrev vi (x : Int) : AV := Sum.inl x
abbrev vl (x : Int) : AV := Sum.inr (Sum.inl x)
abbrev vr (a : Nat) : AV := Sum.inr (Sum.inr (Sum.inl a))
abbrev vs (k : Nat) : AV := Sum.inr (Sum.inr (Sum.inr k))
/-- shapes (kind or 0, length or class), numbers, references (0 none, k + 1 the object k), cells left, places left -/
abbrev Mem : Type := List (Nat × Nat) × (Nat → Nat → Int) × (Nat → Nat → Nat) × Nat × Nat
abbrev Res : Type := Option AV ⊕ Nat
abbrev Out : Type := (Nat × List AV × List AV × Mem) ⊕ ((Nat × List AV × List AV) ⊕ (Res × Mem))
def wr (x : Int) : Int := (x + 2147483648) % 4294967296 - 2147483648
def wl (x : Int) : Int := (x + 9223372036854775808) % 18446744073709551616 - 9223372036854775808
def wb (x : Int) : Int := (x + 128) % 256 - 128
def mT (m : Mem) (a : Nat) : Option (Nat × Nat) := m.1[a]?
def mI (m : Mem) (a j : Nat) : Int := m.2.1 a j
def mR (m : Mem) (a j : Nat) : Nat := m.2.2.1 a j
def mC (m : Mem) : Nat := m.2.2.2.1
def mS (m : Mem) : Nat := m.2.2.2.2
def sI (m : Mem) (a j : Nat) (v : Int) : Mem := (m.1, (fun x y => if x = a ∧ y = j then v else m.2.1 x y), m.2.2)
def sR (m : Mem) (a j : Nat) (v : Nat) : Mem := (m.1, m.2.1, (fun x y => if x = a ∧ y = j then v else m.2.2.1 x y), m.2.2.2)
def mB (m : Mem) (c s : Nat) : Mem := (m.1, m.2.1, m.2.2.1, m.2.2.2.1 - c, m.2.2.2.2 - s)
def mN (m : Mem) (k n z : Nat) : Mem := (m.1 ++ [(k, n)], (fun x y => if x = m.1.length then 0 else m.2.1 x y), (fun x y => if x = m.1.length then 0 else m.2.2.1 x y), m.2.2.2.1 - 1, m.2.2.2.2 - z)
/-- n places of the row a from sp on, copied to the row b from dp on -/
def mCp (m : Mem) (a sp b dp n : Nat) : Mem := (m.1, (fun x y => if x = b ∧ dp ≤ y ∧ y < dp + n then m.2.1 a (sp + (y - dp)) else m.2.1 x y), m.2.2)
def a2 (f : Int32 → Int32 → Int32) (x y : Int) : Int := (f (Int32.ofInt x) (Int32.ofInt y)).toInt
def l2 (f : Int64 → Int64 → Int64) (x y : Int) : Int := (f (Int64.ofInt x) (Int64.ofInt y)).toInt
def l1 (f : Int64 → Int32 → Int64) (x y : Int) : Int := (f (Int64.ofInt x) (Int32.ofInt y)).toInt
def lgS : AV → Bool
  | .inr (.inl _) => true
  | _ => false
def prevOk (ls : List AV) : Nat → Bool
  | 0 => true
  | i + 1 => !((ls[i]?).any lgS)
def go (pc : Nat) (ls st : List AV) (m : Mem) : Option Out := some (.inl (pc, ls, st, m))
def fin (r : Res) (m : Mem) : Option Out := some (.inr (.inr (r, m)))
def jmp (c : Bool) (pc : Nat) (off : Int) (n : Nat) (ls st : List AV) (m : Mem) : Option Out :=
  if 0 ≤ (pc : Int) + off then go (if c then ((pc : Int) + off).toNat else pc + n) ls st m else none
def o_ld (i : Nat) (pc : Nat) (ls st : List AV) (m : Mem) : Option Out := match ls[i]? with
  | some (.inl x) => go pc ls (vi x :: st) m
  | _ => none
def o_ll (i : Nat) (pc : Nat) (ls st : List AV) (m : Mem) : Option Out := match ls[i]? with
  | some (.inr (.inl x)) => go pc ls (vl x :: st) m
  | _ => none
def o_al (i : Nat) (pc : Nat) (ls st : List AV) (m : Mem) : Option Out := match ls[i]? with
  | some (.inr (.inr (.inl x))) => go pc ls (vr x :: st) m
  | some (.inr (.inr (.inr (k + 3)))) => go pc ls (vs (k + 3) :: st) m
  | _ => none
def o_is (i : Nat) (pc : Nat) (ls st : List AV) (m : Mem) : Option Out := match st with
  | .inl x :: r => if i < ls.length ∧ prevOk ls i = true then go pc (ls.set i (vi x)) r m else none
  | _ => none
def o_ls (i : Nat) (pc : Nat) (ls st : List AV) (m : Mem) : Option Out := match st with
  | .inr (.inl x) :: r => if i + 1 < ls.length ∧ prevOk ls i = true then go pc ((ls.set i (vl x)).set (i + 1) (vs 2)) r m else none
  | _ => none
def o_as (i : Nat) (pc : Nat) (ls st : List AV) (m : Mem) : Option Out := match st with
  | .inr (.inr (.inl x)) :: r => if i < ls.length ∧ prevOk ls i = true then go pc (ls.set i (vr x)) r m else none
  | .inr (.inr (.inr (k + 3))) :: r => if i < ls.length ∧ prevOk ls i = true then go pc (ls.set i (vs (k + 3))) r m else none
  | _ => none
def o_b (f : Int → Int → Int) (pc : Nat) (ls st : List AV) (m : Mem) : Option Out := match st with
  | .inl y :: .inl x :: r => go pc ls (vi (f x y) :: r) m
  | _ => none
def o_d (f : Int → Int → Int) (pc : Nat) (ls st : List AV) (m : Mem) : Option Out := match st with
  | .inl y :: .inl x :: r => if y = 0 then none else go pc ls (vi (f x y) :: r) m
  | _ => none
def o_u (f : Int → Int) (pc : Nat) (ls st : List AV) (m : Mem) : Option Out := match st with
  | .inl x :: r => go pc ls (vi (f x) :: r) m
  | _ => none
def o_bl (f : Int → Int → Int) (pc : Nat) (ls st : List AV) (m : Mem) : Option Out := match st with
  | .inr (.inl y) :: .inr (.inl x) :: r => go pc ls (vl (f x y) :: r) m
  | _ => none
def o_dl (f : Int → Int → Int) (pc : Nat) (ls st : List AV) (m : Mem) : Option Out := match st with
  | .inr (.inl y) :: .inr (.inl x) :: r => if y = 0 then none else go pc ls (vl (f x y) :: r) m
  | _ => none
def o_sl (f : Int → Int → Int) (pc : Nat) (ls st : List AV) (m : Mem) : Option Out := match st with
  | .inl y :: .inr (.inl x) :: r => go pc ls (vl (f x y) :: r) m
  | _ => none
def o_if (f : Int → Bool) (pc : Nat) (off : Int) (ls st : List AV) (m : Mem) : Option Out := match st with
  | .inl x :: r => jmp (f x) pc off 3 ls r m
  | _ => none
def o_ic (f : Int → Int → Bool) (pc : Nat) (off : Int) (ls st : List AV) (m : Mem) : Option Out := match st with
  | .inl y :: .inl x :: r => jmp (f x y) pc off 3 ls r m
  | _ => none
def inR (i : Int) (n : Nat) : Bool := decide (0 ≤ i) && decide (i < n)
/-- a number out of an array -/
def o_ia (xs : List Int) (pc : Nat) (ls st : List AV) (m : Mem) : Option Out := match st with
  | .inl i :: .inr (.inr (.inl o)) :: r => (match mT m o with
    | some (1, n) => if inR i n then go pc ls (vi (mI m o i.toNat) :: r) m else none
    | _ => none)
  | .inl i :: .inr (.inr (.inr 3)) :: r => if inR i xs.length then go pc ls (vi (xs.getD i.toNat 0) :: r) m else none
  | _ => none
def o_ba (pc : Nat) (ls st : List AV) (m : Mem) : Option Out := match st with
  | .inl i :: .inr (.inr (.inl o)) :: r => (match mT m o with
    | some (3, n) => if inR i n then go pc ls (vi (mI m o i.toNat) :: r) m else none
    | some (4, n) => if inR i n then go pc ls (vi (mI m o i.toNat) :: r) m else none
    | _ => none)
  | .inl i :: .inr (.inr (.inr (k + 4))) :: r => if k % 2 = 1 ∧ k / 2 < 55 ∧ inR i (stb.getD (k / 2) []).length = true then go pc ls (vi ((stb.getD (k / 2) []).getD i.toNat 0) :: r) m else none
  | _ => none
def o_la (pc : Nat) (ls st : List AV) (m : Mem) : Option Out := match st with
  | .inl i :: .inr (.inr (.inl o)) :: r => (match mT m o with
    | some (2, n) => if inR i n then go pc ls (vl (mI m o i.toNat) :: r) m else none
    | _ => none)
  | _ => none
def o_aa (pc : Nat) (ls st : List AV) (m : Mem) : Option Out := match st with
  | .inl i :: .inr (.inr (.inl o)) :: r => (match mT m o with
    | some (5, n) => if inR i n then (match mR m o i.toNat with
      | v + 1 => go pc ls (vr v :: r) m
      | 0 => none) else none
    | some (6, n) => if inR i n then (match mR m o i.toNat with
      | v + 1 => go pc ls (vr v :: r) m
      | 0 => none) else none
    | _ => none)
  | _ => none
def o_iS (pc : Nat) (ls st : List AV) (m : Mem) : Option Out := match st with
  | .inl x :: .inl i :: .inr (.inr (.inl o)) :: r => (match mT m o with
    | some (1, n) => if inR i n then go pc ls r (sI m o i.toNat x) else none
    | _ => none)
  | _ => none
def o_bS (pc : Nat) (ls st : List AV) (m : Mem) : Option Out := match st with
  | .inl x :: .inl i :: .inr (.inr (.inl o)) :: r => (match mT m o with
    | some (3, n) => if inR i n then go pc ls r (sI m o i.toNat (wb x)) else none
    | some (4, n) => if inR i n then go pc ls r (sI m o i.toNat (x % 2)) else none
    | _ => none)
  | _ => none
def o_lS (pc : Nat) (ls st : List AV) (m : Mem) : Option Out := match st with
  | .inr (.inl x) :: .inl i :: .inr (.inr (.inl o)) :: r => (match mT m o with
    | some (2, n) => if inR i n then go pc ls r (sI m o i.toNat x) else none
    | _ => none)
  | _ => none
def o_aS (pc : Nat) (ls st : List AV) (m : Mem) : Option Out := match st with
  | .inr (.inr (.inl v)) :: .inl i :: .inr (.inr (.inl o)) :: r => (match mT m o with
    | some (5, n) => if inR i n ∧ mT m v = some (0, 7) then go pc ls r (sR m o i.toNat (v + 1)) else none
    | _ => none)
  | _ => none
def o_len (xs : List Int) (pc : Nat) (ls st : List AV) (m : Mem) : Option Out := match st with
  | .inr (.inr (.inl o)) :: r => (match mT m o with
    | some (k + 1, n) => go pc ls (vi n :: r) m
    | _ => none)
  | .inr (.inr (.inr 3)) :: r => go pc ls (vi xs.length :: r) m
  | .inr (.inr (.inr (k + 4))) :: r => if k % 2 = 1 ∧ k / 2 < 55 then go pc ls (vi (stb.getD (k / 2) []).length :: r) m else none
  | _ => none
def o_gf (a b c : Nat) (pc : Nat) (ls st : List AV) (m : Mem) : Option Out := match st with
  | .inr (.inr (.inl o)) :: r => if mT m o = some (0, a) then
      (if c = 0 ∨ c = 4 ∨ c = 20 then go pc ls (vi (mI m o b) :: r) m else if c = 2 ∨ c = 3 ∨ c = 22 then (match mR m o b with
        | v + 1 => go pc ls (vr v :: r) m
        | 0 => none) else none) else none
  | .inr (.inr (.inr (k + 4))) :: r => if k % 2 = 0 ∧ k / 2 < 53 then (if c = 3 then go pc ls (vs (k + 5) :: r) m else if c = 4 then go pc ls (vi 0 :: r) m else none) else none
  | _ => none
def o_pf (a b c : Nat) (pc : Nat) (ls st : List AV) (m : Mem) : Option Out := match st with
  | .inl x :: .inr (.inr (.inl o)) :: r => if mT m o = some (0, a) then (if c = 0 ∨ c = 10 then go pc ls r (sI m o b x) else if (c = 5 ∨ c = 15) ∧ -128 ≤ x ∧ x < 128 then go pc ls r (sI m o b x) else if (c = 6 ∨ c = 16) ∧ 0 ≤ x ∧ x ≤ 1 then go pc ls r (sI m o b x) else none) else none
  | .inr (.inr (.inl v)) :: .inr (.inr (.inl o)) :: r => if mT m o = some (0, a) ∧ (c = 2 ∨ c = 12) then go pc ls r (sR m o b (v + 1)) else none
  | _ => none
def o_na (k len : Nat) (pc : Nat) (ls st : List AV) (m : Mem) : Option Out := match st with
  | .inl n :: r => if 0 ≤ n ∧ 1 ≤ mC m ∧ n.toNat ≤ mS m ∧ n ≤ 8000000 then go (pc + len) ls (vr m.1.length :: r) (mN m k n.toNat n.toNat) else none
  | _ => none
def cls1 : AV → Bool
  | .inr (.inl _) => false
  | _ => true
def lex : List AV → List AV
  | [] => []
  | v :: r => if lgS v then v :: vs 2 :: lex r else v :: lex r
noncomputable def mxl (j : Nat) : Nat := match mtb[j]? with
  | some q => q.2.2.1
  | none => 0
noncomputable def o_iv (b : Nat) (j : Nat) (st : List AV) : Option Out := if b ≤ st.length ∧ ((st.drop b).length ≤ 4 ∨ ((st.drop b).length ≤ 8 ∧ (st.drop b).all cls1 = true)) ∧ (lex (st.take b).reverse).length ≤ mxl j then some (.inr (.inl (j, (st.take b).reverse, st.drop b))) else none
/-- out of a row that was there before the run -/
def mCo (m : Mem) (f : Nat → Int) (sp b dp n : Nat) : Mem := (m.1, (fun x y => if x = b ∧ dp ≤ y ∧ y < dp + n then f (sp + (y - dp)) else m.2.1 x y), m.2.2)
def o_cp (pc : Nat) (ls st : List AV) (m : Mem) : Option Out := match st with
  | .inl n :: .inl dp :: .inr (.inr (.inl b)) :: .inl sp :: .inr (.inr (.inl a)) :: r => (match mT m a, mT m b with
    | some (k, na), some (k', nb) => if k = k' ∧ 1 ≤ k ∧ k ≤ 4 ∧ 0 ≤ sp ∧ 0 ≤ dp ∧ 0 ≤ n ∧ sp + n ≤ na ∧ dp + n ≤ nb ∧ r.length ≤ 4 then go pc ls r (mCp m a sp.toNat b dp.toNat n.toNat) else none
    | _, _ => none)
  | .inl n :: .inl dp :: .inr (.inr (.inl b)) :: .inl sp :: .inr (.inr (.inr (k + 4))) :: r => (match mT m b with
    | some (3, nb) => if k % 2 = 1 ∧ k / 2 < 53 ∧ 0 ≤ sp ∧ 0 ≤ dp ∧ 0 ≤ n ∧ sp + n ≤ (stb.getD (k / 2) []).length ∧ dp + n ≤ nb ∧ r.length ≤ 4 then go pc ls r (mCo m (fun j => (stb.getD (k / 2) []).getD j 0) sp.toNat b dp.toNat n.toNat) else none
    | _ => none)
  | _ => none
/-- a copy of the row o of bytes -/
def mCl (m : Mem) (o n : Nat) : Mem := (m.1 ++ [(3, n)], (fun x y => if x = m.1.length then m.2.1 o y else m.2.1 x y), (fun x y => if x = m.1.length then 0 else m.2.2.1 x y), m.2.2.2.1 - 1, m.2.2.2.2 - n)
def o_cl (pc : Nat) (ls st : List AV) (m : Mem) : Option Out := match st with
  | .inr (.inr (.inl o)) :: r => (match mT m o with
    | some (3, n) => if 1 ≤ mC m ∧ n ≤ mS m ∧ r.length ≤ 4 then go pc ls (vr m.1.length :: r) (mCl m o n) else none
    | _ => none)
  | _ => none
def o_cc (pc : Nat) (ls st : List AV) (m : Mem) : Option Out := match st with
  | .inr (.inr (.inl o)) :: r => (match mT m o with
    | some (3, _) => go pc ls (vr o :: r) m
    | _ => none)
  | _ => none
/-- k rows of w numbers, the row o's places from 0 on -/
def mnA (m : Mem) (o w : Nat) : Nat → Mem
  | 0 => m
  | k + 1 => sR (mN (mnA m o w k) 1 w w) o k ((mnA m o w k).1.length + 1)
def o_ma (pc : Nat) (ls st : List AV) (m : Mem) : Option Out := match st with
  | .inl w :: .inl n :: r => if 0 ≤ n ∧ 0 ≤ w ∧ n ≤ 1000 ∧ w ≤ 1000 ∧ n.toNat + 1 ≤ mC m ∧ n.toNat + n.toNat * w.toNat ≤ mS m then go pc ls (vr m.1.length :: r) (mnA (mN m 6 n.toNat n.toNat) m.1.length w.toNat n.toNat) else none
  | _ => none
def o_mx (pc : Nat) (ls st : List AV) (m : Mem) : Option Out := match st with
  | .inl y :: .inl x :: r => if r.length ≤ 4 then go pc ls (vi (if x < y then y else x) :: r) m else none
  | _ => none
def o_dx1 (pc : Nat) (ls st : List AV) (m : Mem) : Option Out := match st with
  | v :: w :: r => if cls1 v && cls1 w then go pc ls (v :: w :: v :: r) m else none
  | _ => none
def o_nn (pc : Nat) (off : Int) (ls st : List AV) (m : Mem) : Option Out := match st with
  | .inr (.inr (.inl _)) :: r => jmp true pc off 3 ls r m
  | .inr (.inr (.inr (_ + 4))) :: r => jmp true pc off 3 ls r m
  | _ => none
def o_lk (a c : Nat) (pc : Nat) (ls st : List AV) (m : Mem) : Option Out :=
  if c = 0 then (if a < 53 then go pc ls (vs (2 * a + 4) :: st) m else none) else if c = 1 ∧ a < 2147483648 then go pc ls (vi (a : Int) :: st) m else none
def o_mn (pc : Nat) (ls st : List AV) (m : Mem) : Option Out := match st with
  | .inl y :: .inl x :: r => if r.length ≤ 4 then go pc ls (vi (if y < x then y else x) :: r) m else none
  | _ => none
noncomputable def mtc (j : Nat) : Nat := match mtb[j]? with
  | some q => q.2.2.2.2.2.2.1
  | none => 99
/-- the receiver is an object of the callee's own class, or a constant string -/
noncomputable def recvOk (j b : Nat) (st : List AV) (m : Mem) : Bool := match (st.take b).reverse with
  | .inr (.inr (.inl o)) :: _ => decide (mT m o = some (0, mtc j)) && decide (mtc j < 14)
  | .inr (.inr (.inr (k + 4))) :: _ => decide (k % 2 = 0 ∧ k / 2 < 53 ∧ mtc j = 12)
  | _ => false
def recvO (b : Nat) (st : List AV) : Bool := match (st.take b).reverse with
  | .inr (.inr (.inl _)) :: _ => true
  | _ => false
abbrev ICnd : Type := Jvm.ClassFile.Cond
def icmpF (c : ICnd) (x y : Int) : Bool := match c with
  | .eq => decide (x = y)
  | .ne => decide (x ≠ y)
  | .lt => decide (x < y)
  | .ge => decide (y ≤ x)
  | .gt => decide (y < x)
  | .le => decide (x ≤ y)
def o_sw (d lo hi : Int) (offs : Array Int) (pc : Nat) (ls st : List AV) (m : Mem) : Option Out := match st with
  | .inl x :: r => if x < lo ∨ hi < x then jmp true pc d 0 ls r m else (match offs[(x - lo).toNat]? with
    | some off => jmp true pc off 0 ls r m
    | none => none)
  | _ => none
def o_ir (c : Nat) (st : List AV) (m : Mem) : Option Out := match st with
  | [.inl x] => if (c = 0) ∨ (c = 1 ∧ 0 ≤ x ∧ x ≤ 1) ∨ (c = 2 ∧ 0 ≤ x ∧ x < 65536) ∨ (c = 3 ∧ -128 ≤ x ∧ x < 128) then fin (.inl (some (vi x))) m else none
  | _ => none
def o_ar (st : List AV) (m : Mem) : Option Out := match st with
  | [.inr (.inr (.inl x))] => fin (.inl (some (vr x))) m
  | [.inr (.inr (.inr (k + 3)))] => fin (.inl (some (vs (k + 3)))) m
  | _ => none
def o_lr (st : List AV) (m : Mem) : Option Out := match st with
  | [.inr (.inl x)] => fin (.inl (some (vl x))) m
  | _ => none
def o_rt (st : List AV) (m : Mem) : Option Out := match st with
  | [] => fin (.inl none) m
  | _ => none
def o_nw (a b c : Nat) (pc : Nat) (ls st : List AV) (m : Mem) : Option Out :=
  if c = 0 then (if 1 ≤ mC m ∧ b ≤ mS m then go pc ls (vr m.1.length :: st) (mN m 0 a b) else none)
  else if c = 1 then (if 1 ≤ mC m ∧ 6 ≤ mS m ∧ st.length ≤ 4 then fin (.inr a) (mB m 1 6) else none) else none
def o_dup (pc : Nat) (ls st : List AV) (m : Mem) : Option Out := match st with
  | v :: r => if cls1 v then go pc ls (v :: v :: r) m else none
  | _ => none
def o_dup2 (pc : Nat) (ls st : List AV) (m : Mem) : Option Out := match st with
  | v :: w :: r => if cls1 v && cls1 w then go pc ls (v :: w :: v :: w :: r) m else none
  | _ => none
def o_pop (pc : Nat) (ls st : List AV) (m : Mem) : Option Out := match st with
  | v :: r => if cls1 v then go pc ls r m else none
  | _ => none
def o_inc (i : Nat) (n : Int) (pc : Nat) (ls st : List AV) (m : Mem) : Option Out := match ls[i]? with
  | some (.inl x) => if prevOk ls i = true then go pc (ls.set i (vi (wr (x + n)))) st m else none
  | _ => none
noncomputable def o_ivv (a b c : Nat) (pc : Nat) (ls st : List AV) (m : Mem) : Option Out := if c = 8 then o_cl pc ls st m else if (c = 0 ∨ c = 9) ∧ recvOk a b st m = true then o_iv b a st else none
noncomputable def o_ivs (a b c : Nat) (pc : Nat) (ls st : List AV) (m : Mem) : Option Out :=
  if c = 1 ∨ c = 12 then o_iv b a st else if c = 5 then o_mn pc ls st m else if c = 11 then o_mx pc ls st m else if c = 6 then o_cp pc ls st m else none
def o_oi (pc : Nat) (ls st : List AV) (m : Mem) : Option Out := match st with
  | .inr (.inr (.inl _)) :: r => if r.length ≤ 4 then go pc ls r m else none
  | _ => none
noncomputable def o_ivp (a b c : Nat) (pc : Nat) (ls st : List AV) (m : Mem) : Option Out :=
  if (c = 2 ∨ c = 3 ∨ (c = 10 ∧ recvOk a b st m = true)) ∧ recvO b st = true then o_iv b a st else if c = 4 then o_oi pc ls st m else none
def o_gs (c : Nat) (pc : Nat) (ls st : List AV) (m : Mem) : Option Out :=
  if c = 0 then go pc ls (vi 1 :: st) m else if c = 1 then go pc ls (vs 1 :: st) m else if c = 2 then go pc ls (vs 111 :: st) m else if c = 3 then go pc ls (vs 113 :: st) m else none
def o_l2i (pc : Nat) (ls st : List AV) (m : Mem) : Option Out := match st with
  | .inr (.inl x) :: r => go pc ls (vi (wr x) :: r) m
  | _ => none
def o_i2l (pc : Nat) (ls st : List AV) (m : Mem) : Option Out := match st with
  | .inl x :: r => go pc ls (vl x :: r) m
  | _ => none
def cmpL (x y : Int) : Int := if x < y then -1 else if x = y then 0 else 1
def o_lc (pc : Nat) (ls st : List AV) (m : Mem) : Option Out := match st with
  | .inr (.inl y) :: .inr (.inl x) :: r => go pc ls (vi (cmpL x y) :: r) m
  | _ => none
/-- one instruction -/
noncomputable def am_ins (xs : List Int) (e : Ent) (pc : Nat) (ls st : List AV) (m : Mem) : Option Out := match e with
  | (.iconst n, k, _) => if -128 ≤ n ∧ n < 128 then go (pc + k) ls (vi n :: st) m else none
  | (.bipush n, k, _) => if -128 ≤ n ∧ n < 128 then go (pc + k) ls (vi n :: st) m else none
  | (.sipush n, k, _) => if -32768 ≤ n ∧ n < 32768 then go (pc + k) ls (vi n :: st) m else none
  | (.lconst n, k, _) => go (pc + k) ls (vl (n.val : Int) :: st) m
  | (.iload_n i, k, _) => o_ld i.val (pc + k) ls st m
  | (.iload i, k, _) => o_ld i (pc + k) ls st m
  | (.lload_n i, k, _) => o_ll i.val (pc + k) ls st m
  | (.aload_n i, k, _) => o_al i.val (pc + k) ls st m
  | (.aload i, k, _) => o_al i (pc + k) ls st m
  | (.istore_n i, k, _) => o_is i.val (pc + k) ls st m
  | (.istore i, k, _) => o_is i (pc + k) ls st m
  | (.lstore_n i, k, _) => o_ls i.val (pc + k) ls st m
  | (.astore_n i, k, _) => o_as i.val (pc + k) ls st m
  | (.astore i, k, _) => o_as i (pc + k) ls st m
  | (.iinc i n, k, _) => o_inc i n (pc + k) ls st m
  | (.iadd, k, _) => o_b (fun x y => wr (x + y)) (pc + k) ls st m
  | (.isub, k, _) => o_b (fun x y => wr (x - y)) (pc + k) ls st m
  | (.imul, k, _) => o_b (fun x y => wr (x * y)) (pc + k) ls st m
  | (.idiv, k, _) => o_d (fun x y => wr (x.tdiv y)) (pc + k) ls st m
  | (.irem, k, _) => o_d (fun x y => x.tmod y) (pc + k) ls st m
  | (.iand, k, _) => o_b (a2 (fun x y => x &&& y)) (pc + k) ls st m
  | (.ior, k, _) => o_b (a2 (fun x y => x ||| y)) (pc + k) ls st m
  | (.ixor, k, _) => o_b (a2 (fun x y => x ^^^ y)) (pc + k) ls st m
  | (.ishl, k, _) => o_b (a2 (fun x y => x <<< (y &&& 31))) (pc + k) ls st m
  | (.ishr, k, _) => o_b (a2 (fun x y => x >>> (y &&& 31))) (pc + k) ls st m
  | (.iushr, k, _) => o_b (a2 (fun x y => (x.toUInt32 >>> (y.toUInt32 &&& Int32.toUInt32 31)).toInt32)) (pc + k) ls st m
  | (.ladd, k, _) => o_bl (fun x y => wl (x + y)) (pc + k) ls st m
  | (.lsub, k, _) => o_bl (fun x y => wl (x - y)) (pc + k) ls st m
  | (.lmul, k, _) => o_bl (fun x y => wl (x * y)) (pc + k) ls st m
  | (.ldiv, k, _) => o_dl (fun x y => wl (x.tdiv y)) (pc + k) ls st m
  | (.land, k, _) => o_bl (l2 (fun x y => x &&& y)) (pc + k) ls st m
  | (.lor, k, _) => o_bl (l2 (fun x y => x ||| y)) (pc + k) ls st m
  | (.lshl, k, _) => o_sl (l1 (fun x y => x <<< (y.toInt64 &&& 63))) (pc + k) ls st m
  | (.lshr, k, _) => o_sl (l1 (fun x y => x >>> (y.toInt64 &&& 63))) (pc + k) ls st m
  | (.lushr, k, _) => o_sl (l1 (fun x y => (x.toUInt64 >>> (y.toInt64.toUInt64 &&& Int64.toUInt64 63)).toInt64)) (pc + k) ls st m
  | (.lcmp, k, _) => o_lc (pc + k) ls st m
  | (.i2l, k, _) => o_i2l (pc + k) ls st m
  | (.l2i, k, _) => o_l2i (pc + k) ls st m
  | (.i2b, k, _) => o_u wb (pc + k) ls st m
  | (.i2c, k, _) => o_u (fun x => x % 65536) (pc + k) ls st m
  | (.ifCond f off, _) => o_if (fun x => icmpF f x 0) pc off ls st m
  | (.if_icmp f off, _) => o_ic (icmpF f) pc off ls st m
  | (.goto off, _) => jmp true pc off 3 ls st m
  | (.tableswitch d lo hi offs, _) => o_sw d lo hi offs pc ls st m
  | (.dup, k, _) => o_dup (pc + k) ls st m
  | (.ineg, k, _) => o_u (fun x => wr (-x)) (pc + k) ls st m
  | (.aconst_null, k, _) => go (pc + k) ls (vs 0 :: st) m
  | (.dup_x1, k, _) => o_dx1 (pc + k) ls st m
  | (.ifnonnull off, _) => o_nn pc off ls st m
  | (.checkcast _, k, _) => o_cc (pc + k) ls st m
  | (.multianewarray _ _, k, _) => o_ma (pc + k) ls st m
  | (.dup2, k, _) => o_dup2 (pc + k) ls st m
  | (.pop, k, _) => o_pop (pc + k) ls st m
  | (.getfield _, k, a, b, c, _) => o_gf a b c (pc + k) ls st m
  | (.putfield _, k, a, b, c, _) => o_pf a b c (pc + k) ls st m
  | (.getstatic _, k, _, _, c, _) => o_gs c (pc + k) ls st m
  | (.iaload, k, _) => o_ia xs (pc + k) ls st m
  | (.baload, k, _) => o_ba (pc + k) ls st m
  | (.laload, k, _) => o_la (pc + k) ls st m
  | (.aaload, k, _) => o_aa (pc + k) ls st m
  | (.iastore, k, _) => o_iS (pc + k) ls st m
  | (.bastore, k, _) => o_bS (pc + k) ls st m
  | (.lastore, k, _) => o_lS (pc + k) ls st m
  | (.aastore, k, _) => o_aS (pc + k) ls st m
  | (.arraylength, k, _) => o_len xs (pc + k) ls st m
  | (.newarray _, k, a, _) => o_na a 0 (pc + k) ls st m
  | (.anewarray _, k, _) => o_na 5 0 (pc + k) ls st m
  | (.new _, k, a, b, c, _) => o_nw a b c (pc + k) ls st m
  | (.ldc _, k, a, _, c, _) => o_lk a c (pc + k) ls st m
  | (.ldc_w _, k, a, _, c, _) => o_lk a c (pc + k) ls st m
  | (.ldc2_w _, k, a, _) => if a < 1000000 then go (pc + k) ls (vl (a : Int) :: st) m else none
  | (.invokevirtual _, k, a, b, c, _) => o_ivv a b c (pc + k) ls st m
  | (.invokestatic _, k, a, b, c, _) => o_ivs a b c (pc + k) ls st m
  | (.invokespecial _, k, a, b, c, _) => o_ivp a b c (pc + k) ls st m
  | (.ireturn, _, _, _, c, _) => o_ir c st m
  | (.areturn, _) => o_ar st m
  | (.lreturn, _) => o_lr st m
  | (.return_, _) => o_rt st m
  | _ => none
noncomputable def look (M pc : Nat) : Option Ent := ((cdt_a[M]?).getD []).lookup pc
def rkA (j : Nat) (as : List AV) : Nat := match rec_ids.lookup j with
  | none => rkt.getD j 0
  | some o => rkt.getD j 0 + o + (match as[(1 : Nat)]? with
    | some (.inl d) => 4 * (5 - d).toNat
    | _ => 0)
noncomputable def entryL (j : Nat) (as : List AV) : List AV := lex as ++ List.replicate (mxl j - (lex as).length) (vs 2)
/-- which exception a catch of the law's class names -/
def ctx (k : Nat) : Nat := if k = 25 then 0 else if k = 13 then 1 else if k = 27 then 2 else if k = 19 then 3 else 99
noncomputable def hTab (M : Nat) : List (Nat × Nat × Nat × Nat) := match mtb[M]? with
  | some q => q.2.2.2.2.1
  | none => []
noncomputable def hfind (M pc x : Nat) : Option (Nat × Nat × Nat × Nat) := (hTab M).find? (fun h => decide (h.1 ≤ pc) && decide (pc < h.2.1) && decide (ctx h.2.2.2 = x))
noncomputable def hst (M h : Nat) : Option (Nat × Nat) := match look M h with
  | some (.astore k, n, _) => some (k, h + n)
  | some (.astore_n k, n, _) => some (k.val, h + n)
  | _ => none
noncomputable def am_run (xs : List Int) : Nat → Nat → Nat → Nat → List AV → List AV → Mem → Option (Res × Mem)
  | 0, _, _, _, _, _, _ => none
  | n + 1, M, r, pc, ls, st, m => match look M pc with
    | none => none
    | some e => match am_ins xs e pc ls st m with
      | none => none
      | some (.inl (pc', ls', st', m')) => am_run xs n M r pc' ls' st' m'
      | some (.inr (.inr o)) => some o
      | some (.inr (.inl (j, as, rest))) => if rkA j as < r then (match am_run xs n j (rkA j as) 0 (entryL j as) [] m with
        | none => none
        | some (.inl v, m1) => am_run xs n M r (pc + 3) ls (v.toList ++ rest) m1
        | some (.inr x, m1) => match hfind M pc x with
          | none => some (.inr x, m1)
          | some h => match hst M h.2.2.1 with
            | none => none
            | some (k, h') => if k < ls.length ∧ prevOk ls k = true then am_run xs n M r h' (ls.set k (vs 2)) [] m1 else none) else none
theorem am_mono {xs : List Int} {o : Res × Mem} : ∀ (n k M r pc : Nat) (ls st : List AV) (m : Mem), am_run xs n M r pc ls st m = some o → am_run xs (n + k) M r pc ls st m = some o
  | 0, _, _, _, _, _, _, _, h => by cases h
  | n + 1, k, M, r, pc, ls, st, m, h => by
    have e1 : n + 1 + k = (n + k) + 1 := by omega
    rw [e1]
    rw [am_run] at h ⊢
    cases hl : look M pc with
    | none => rw [hl] at h; cases h
    | some e =>
      rw [hl] at h
      simp only at h ⊢
      cases hi : am_ins xs e pc ls st m with
      | none => rw [hi] at h; cases h
      | some q =>
        rw [hi] at h
        rcases q with ⟨pc', ls', st', m'⟩ | ⟨j, as, rest⟩ | q
        · exact am_mono n k M r pc' ls' st' m' h
        · simp only at h ⊢
          split at h
          · rename_i hr
            rw [if_pos hr]
            cases hc : am_run xs n j (rkA j as) 0 (entryL j as) [] m with
            | none => rw [hc] at h; cases h
            | some w =>
              rw [am_mono n k _ _ _ _ _ _ hc]
              rw [hc] at h
              obtain ⟨w1, m1⟩ := w
              rcases w1 with v | x
              · exact am_mono n k M r _ _ _ _ h
              · simp only at h ⊢
                cases hf : hfind M pc x with
                | none => rw [hf] at h; exact h
                | some hh =>
                  rw [hf] at h
                  simp only at h ⊢
                  cases hs : hst M hh.2.2.1 with
                  | none => rw [hs] at h; cases h
                  | some w =>
                    rw [hs] at h
                    obtain ⟨k1, h1⟩ := w
                    simp only at h ⊢
                    split at h
                    · rename_i hk
                      rw [if_pos hk]
                      exact am_mono n k M r _ _ _ _ h
                    · cases h
          · cases h
        · exact h
theorem am_le {xs : List Int} {o : Res × Mem} {n n' M r pc : Nat} {ls st : List AV} {m : Mem} (h : am_run xs n M r pc ls st m = some o) (hn : n ≤ n') : am_run xs n' M r pc ls st m = some o := by
  have := am_mono n (n' - n) M r pc ls st m h
  rwa [Nat.add_sub_cancel' hn] at this
/-- from here the method comes to an end of which Q holds -/
def WP (xs : List Int) (M r pc : Nat) (ls st : List AV) (m : Mem) (Q : Res → Mem → Prop) : Prop := ∃ (n : Nat) (o : Res × Mem), am_run xs n M r pc ls st m = some o ∧ Q o.1 o.2
def CL (xs : List Int) (j : Nat) (as : List AV) (m : Mem) (Q : Res → Mem → Prop) : Prop := WP xs j (rkA j as) 0 (entryL j as) [] m Q
/-- behind a call that has thrown x -/
def WX (xs : List Int) (M r pc : Nat) (ls : List AV) (x : Nat) (m : Mem) (Q : Res → Mem → Prop) : Prop := match hfind M pc x with
  | none => Q (.inr x) m
  | some h => match hst M h.2.2.1 with
    | none => False
    | some (k, h') => (k < ls.length ∧ prevOk ls k = true) ∧ WP xs M r h' (ls.set k (vs 2)) [] m Q
def WPo (xs : List Int) (M r pc : Nat) (ls : List AV) (m : Mem) (Q : Res → Mem → Prop) (o : Option Out) : Prop := match o with
  | none => False
  | some (.inl (pc', ls', st', m')) => WP xs M r pc' ls' st' m' Q
  | some (.inr (.inr o)) => Q o.1 o.2
  | some (.inr (.inl (j, as, rest))) => rkA j as < r ∧ CL xs j as m (fun o m1 => match o with
    | .inl v => WP xs M r (pc + 3) ls (v.toList ++ rest) m1 Q
    | .inr x => WX xs M r pc ls x m1 Q)
theorem WP_at {xs : List Int} {M r pc : Nat} {ls st : List AV} {m : Mem} {Q : Res → Mem → Prop} {e : Ent} (h : look M pc = some e) (k : WPo xs M r pc ls m Q (am_ins xs e pc ls st m)) : WP xs M r pc ls st m Q := by
  cases hi : am_ins xs e pc ls st m with
  | none => rw [hi] at k; exact k.elim
  | some q =>
    rw [hi] at k
    rcases q with ⟨pc', ls', st', m'⟩ | ⟨j, as, rest⟩ | q
    · obtain ⟨n, o, h1, h2⟩ := k
      refine ⟨n + 1, o, ?_, h2⟩
      rw [am_run, h]
      simp only [hi]
      exact h1
    · obtain ⟨hr, n, o, h1, h2⟩ := k
      obtain ⟨w, m1⟩ := o
      rcases w with v | x
      · obtain ⟨n2, o2, h3, h4⟩ := h2
        refine ⟨n + n2 + 1, o2, ?_, h4⟩
        rw [am_run, h]
        simp only [hi]
        rw [if_pos hr, am_le h1 (by omega : n ≤ n + n2)]
        exact am_le h3 (by omega)
      · simp only [WX] at h2
        cases hf : hfind M pc x with
        | none =>
          rw [hf] at h2
          refine ⟨n + 1, (.inr x, m1), ?_, h2⟩
          rw [am_run, h]
          simp only [hi]
          rw [if_pos hr, h1]
          simp only [hf]
        | some hh =>
          rw [hf] at h2
          simp only at h2
          cases hs : hst M hh.2.2.1 with
          | none => rw [hs] at h2; exact h2.elim
          | some w =>
            rw [hs] at h2
            obtain ⟨k1, h'⟩ := w
            obtain ⟨hk, n2, o2, h3, h4⟩ := h2
            refine ⟨n + n2 + 1, o2, ?_, h4⟩
            rw [am_run, h]
            simp only [hi]
            rw [if_pos hr, am_le h1 (by omega : n ≤ n + n2)]
            simp only [hf, hs]
            rw [if_pos hk]
            exact am_le h3 (by omega)
    · refine ⟨1, q, ?_, k⟩
      rw [am_run, h]
      simp only [hi]
theorem WP_mono {xs : List Int} {M r pc : Nat} {ls st : List AV} {m : Mem} {Q Q' : Res → Mem → Prop} (h : WP xs M r pc ls st m Q) (hq : ∀ o m', Q o m' → Q' o m') : WP xs M r pc ls st m Q' := by
  obtain ⟨n, o, h1, h2⟩ := h
  exact ⟨n, o, h1, hq _ _ h2⟩
theorem CL_mono {xs : List Int} {j : Nat} {as : List AV} {m : Mem} {Q Q' : Res → Mem → Prop} (h : CL xs j as m Q) (hq : ∀ o m', Q o m' → Q' o m') : CL xs j as m Q' := WP_mono h hq
