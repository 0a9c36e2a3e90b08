/-! one instruction of the abstract machine at a time, for proofs that walk a method: the memory as shapes S, numbers I, references T, cells, places -/
abbrev Ix : Type := Nat → Nat → Int
def up (I : Ix) (a j : Nat) (v : Int) : Ix := fun x y => if x = a ∧ y = j then v else I x y
def cpy (I : Ix) (a sp b dp n : Nat) : Ix := fun x y => if x = b ∧ dp ≤ y ∧ y < dp + n then I a (sp + (y - dp)) else I x y
def b2i (b : Bool) : Int := if b then 1 else 0
theorem up_eq {I : Ix} {a j : Nat} {v : Int} : up I a j v a j = v := if_pos ⟨rfl, rfl⟩
theorem up_no {I : Ix} {a j x y : Nat} {v : Int} (h : x ≠ a) : up I a j v x y = I x y := if_neg (fun q => h q.1)
theorem up_nj {I : Ix} {a j x y : Nat} {v : Int} (h : y ≠ j) : up I a j v x y = I x y := if_neg (fun q => h q.2)
theorem wr_i {x : Int} (h1 : -2147483648 ≤ x) (h2 : x < 2147483648) : wr x = x := wr_id ⟨h1, h2⟩
section WPS
variable {xs : List Int} {M r pc : Nat} {ls st : List AV} {S : List (Nat × Nat)} {I : Ix} {T : Nat → Nat → Nat} {cc zz : Nat} {Q : Res → Mem → Prop}
theorem w_ic {n : Int} {k : Nat} {tl : Nat × Nat × Nat × Nat} (h : look M pc = some (.iconst n, k, tl)) (hn : -128 ≤ n ∧ n < 128) (kk : WP xs M r (pc + k) ls (vi n :: st) (S, I, T, cc, zz) Q) : WP xs M r pc ls st (S, I, T, cc, zz) Q :=
  WP_at h (by show WPo xs M r pc ls _ Q (if _ then _ else _); rw [if_pos hn]; exact kk)
theorem w_bp {n : Int} {k : Nat} {tl : Nat × Nat × Nat × Nat} (h : look M pc = some (.bipush n, k, tl)) (hn : -128 ≤ n ∧ n < 128) (kk : WP xs M r (pc + k) ls (vi n :: st) (S, I, T, cc, zz) Q) : WP xs M r pc ls st (S, I, T, cc, zz) Q :=
  WP_at h (by show WPo xs M r pc ls _ Q (if _ then _ else _); rw [if_pos hn]; exact kk)
theorem w_sp {n : Int} {k : Nat} {tl : Nat × Nat × Nat × Nat} (h : look M pc = some (.sipush n, k, tl)) (hn : -32768 ≤ n ∧ n < 32768) (kk : WP xs M r (pc + k) ls (vi n :: st) (S, I, T, cc, zz) Q) : WP xs M r pc ls st (S, I, T, cc, zz) Q :=
  WP_at h (by show WPo xs M r pc ls _ Q (if _ then _ else _); rw [if_pos hn]; exact kk)
theorem w_lc {n : Fin 2} {k : Nat} {tl : Nat × Nat × Nat × Nat} (h : look M pc = some (.lconst n, k, tl)) (kk : WP xs M r (pc + k) ls (vl (n.val : Int) :: st) (S, I, T, cc, zz) Q) : WP xs M r pc ls st (S, I, T, cc, zz) Q := WP_at h kk
theorem w_iln {i : Fin 4} {k : Nat} {tl : Nat × Nat × Nat × Nat} {x : Int} (h : look M pc = some (.iload_n i, k, tl)) (hx : ls[i.val]? = some (vi x)) (kk : WP xs M r (pc + k) ls (vi x :: st) (S, I, T, cc, zz) Q) : WP xs M r pc ls st (S, I, T, cc, zz) Q :=
  WP_at h (by show WPo xs M r pc ls _ Q (o_ld i.val (pc + k) ls st (S, I, T, cc, zz)); unfold o_ld; rw [hx]; exact kk)
theorem w_il {i k : Nat} {tl : Nat × Nat × Nat × Nat} {x : Int} (h : look M pc = some (.iload i, k, tl)) (hx : ls[i]? = some (vi x)) (kk : WP xs M r (pc + k) ls (vi x :: st) (S, I, T, cc, zz) Q) : WP xs M r pc ls st (S, I, T, cc, zz) Q :=
  WP_at h (by show WPo xs M r pc ls _ Q (o_ld i (pc + k) ls st (S, I, T, cc, zz)); unfold o_ld; rw [hx]; exact kk)
theorem w_lln {i : Fin 4} {k : Nat} {tl : Nat × Nat × Nat × Nat} {x : Int} (h : look M pc = some (.lload_n i, k, tl)) (hx : ls[i.val]? = some (vl x)) (kk : WP xs M r (pc + k) ls (vl x :: st) (S, I, T, cc, zz) Q) : WP xs M r pc ls st (S, I, T, cc, zz) Q :=
  WP_at h (by show WPo xs M r pc ls _ Q (o_ll i.val (pc + k) ls st (S, I, T, cc, zz)); unfold o_ll; rw [hx]; exact kk)
theorem w_aln {i : Fin 4} {k : Nat} {tl : Nat × Nat × Nat × Nat} {x : Nat} (h : look M pc = some (.aload_n i, k, tl)) (hx : ls[i.val]? = some (vr x)) (kk : WP xs M r (pc + k) ls (vr x :: st) (S, I, T, cc, zz) Q) : WP xs M r pc ls st (S, I, T, cc, zz) Q :=
  WP_at h (by show WPo xs M r pc ls _ Q (o_al i.val (pc + k) ls st (S, I, T, cc, zz)); unfold o_al; rw [hx]; exact kk)
theorem w_al {i k : Nat} {tl : Nat × Nat × Nat × Nat} {x : Nat} (h : look M pc = some (.aload i, k, tl)) (hx : ls[i]? = some (vr x)) (kk : WP xs M r (pc + k) ls (vr x :: st) (S, I, T, cc, zz) Q) : WP xs M r pc ls st (S, I, T, cc, zz) Q :=
  WP_at h (by show WPo xs M r pc ls _ Q (o_al i (pc + k) ls st (S, I, T, cc, zz)); unfold o_al; rw [hx]; exact kk)
theorem w_asn {i : Fin 4} {k x : Nat} {tl : Nat × Nat × Nat × Nat} (h : look M pc = some (.aload_n i, k, tl)) (hx : ls[i.val]? = some (vs (x + 3))) (kk : WP xs M r (pc + k) ls (vs (x + 3) :: st) (S, I, T, cc, zz) Q) : WP xs M r pc ls st (S, I, T, cc, zz) Q :=
  WP_at h (by show WPo xs M r pc ls _ Q (o_al i.val (pc + k) ls st (S, I, T, cc, zz)); unfold o_al; rw [hx]; exact kk)
theorem w_isn {i : Fin 4} {k : Nat} {tl : Nat × Nat × Nat × Nat} {x : Int} (h : look M pc = some (.istore_n i, k, tl)) (hx : i.val < ls.length ∧ prevOk ls i.val = true) (kk : WP xs M r (pc + k) (ls.set i.val (vi x)) st (S, I, T, cc, zz) Q) : WP xs M r pc ls (vi x :: st) (S, I, T, cc, zz) Q :=
  WP_at h (by show WPo xs M r pc ls _ Q (o_is i.val (pc + k) ls (vi x :: st) (S, I, T, cc, zz)); unfold o_is; simp only []; rw [if_pos hx]; exact kk)
theorem w_is {i k : Nat} {tl : Nat × Nat × Nat × Nat} {x : Int} (h : look M pc = some (.istore i, k, tl)) (hx : i < ls.length ∧ prevOk ls i = true) (kk : WP xs M r (pc + k) (ls.set i (vi x)) st (S, I, T, cc, zz) Q) : WP xs M r pc ls (vi x :: st) (S, I, T, cc, zz) Q :=
  WP_at h (by show WPo xs M r pc ls _ Q (o_is i (pc + k) ls (vi x :: st) (S, I, T, cc, zz)); unfold o_is; simp only []; rw [if_pos hx]; exact kk)
theorem w_lsn {i : Fin 4} {k : Nat} {tl : Nat × Nat × Nat × Nat} {x : Int} (h : look M pc = some (.lstore_n i, k, tl)) (hx : i.val + 1 < ls.length ∧ prevOk ls i.val = true) (kk : WP xs M r (pc + k) ((ls.set i.val (vl x)).set (i.val + 1) (vs 2)) st (S, I, T, cc, zz) Q) : WP xs M r pc ls (vl x :: st) (S, I, T, cc, zz) Q :=
  WP_at h (by show WPo xs M r pc ls _ Q (o_ls i.val (pc + k) ls (vl x :: st) (S, I, T, cc, zz)); unfold o_ls; simp only []; rw [if_pos hx]; exact kk)
theorem w_ran {i : Fin 4} {k x : Nat} {tl : Nat × Nat × Nat × Nat} (h : look M pc = some (.astore_n i, k, tl)) (hx : i.val < ls.length ∧ prevOk ls i.val = true) (kk : WP xs M r (pc + k) (ls.set i.val (vr x)) st (S, I, T, cc, zz) Q) : WP xs M r pc ls (vr x :: st) (S, I, T, cc, zz) Q :=
  WP_at h (by show WPo xs M r pc ls _ Q (o_as i.val (pc + k) ls (vr x :: st) (S, I, T, cc, zz)); unfold o_as; simp only []; rw [if_pos hx]; exact kk)
theorem w_ra {i k x : Nat} {tl : Nat × Nat × Nat × Nat} (h : look M pc = some (.astore i, k, tl)) (hx : i < ls.length ∧ prevOk ls i = true) (kk : WP xs M r (pc + k) (ls.set i (vr x)) st (S, I, T, cc, zz) Q) : WP xs M r pc ls (vr x :: st) (S, I, T, cc, zz) Q :=
  WP_at h (by show WPo xs M r pc ls _ Q (o_as i (pc + k) ls (vr x :: st) (S, I, T, cc, zz)); unfold o_as; simp only []; rw [if_pos hx]; exact kk)
theorem w_inc {i : Nat} {n : Int} {k : Nat} {tl : Nat × Nat × Nat × Nat} {x : Int} (v : Int) (h : look M pc = some (.iinc i n, k, tl)) (hx : ls[i]? = some (vi x)) (hp : prevOk ls i = true) (hv : wr (x + n) = v) (kk : WP xs M r (pc + k) (ls.set i (vi v)) st (S, I, T, cc, zz) Q) : WP xs M r pc ls st (S, I, T, cc, zz) Q :=
  WP_at h (by show WPo xs M r pc ls _ Q (o_inc i n (pc + k) ls st (S, I, T, cc, zz)); unfold o_inc; rw [hx]; simp only []; rw [if_pos hp, hv]; exact kk)
theorem w_add {k : Nat} {tl : Nat × Nat × Nat × Nat} {x y : Int} (v : Int) (h : look M pc = some (.iadd, k, tl)) (hv : wr (x + y) = v) (kk : WP xs M r (pc + k) ls (vi v :: st) (S, I, T, cc, zz) Q) : WP xs M r pc ls (vi y :: vi x :: st) (S, I, T, cc, zz) Q :=
  WP_at h (by subst hv; exact kk)
theorem w_sub {k : Nat} {tl : Nat × Nat × Nat × Nat} {x y : Int} (v : Int) (h : look M pc = some (.isub, k, tl)) (hv : wr (x - y) = v) (kk : WP xs M r (pc + k) ls (vi v :: st) (S, I, T, cc, zz) Q) : WP xs M r pc ls (vi y :: vi x :: st) (S, I, T, cc, zz) Q :=
  WP_at h (by subst hv; exact kk)
theorem w_mul {k : Nat} {tl : Nat × Nat × Nat × Nat} {x y : Int} (v : Int) (h : look M pc = some (.imul, k, tl)) (hv : wr (x * y) = v) (kk : WP xs M r (pc + k) ls (vi v :: st) (S, I, T, cc, zz) Q) : WP xs M r pc ls (vi y :: vi x :: st) (S, I, T, cc, zz) Q :=
  WP_at h (by subst hv; exact kk)
theorem w_div {k : Nat} {tl : Nat × Nat × Nat × Nat} {x y : Int} (v : Int) (h : look M pc = some (.idiv, k, tl)) (h0 : y ≠ 0) (hv : wr (x.tdiv y) = v) (kk : WP xs M r (pc + k) ls (vi v :: st) (S, I, T, cc, zz) Q) : WP xs M r pc ls (vi y :: vi x :: st) (S, I, T, cc, zz) Q :=
  WP_at h (by show WPo xs M r pc ls _ Q (if _ then _ else _); rw [if_neg h0]; subst hv; exact kk)
theorem w_rem {k : Nat} {tl : Nat × Nat × Nat × Nat} {x y : Int} (v : Int) (h : look M pc = some (.irem, k, tl)) (h0 : y ≠ 0) (hv : x.tmod y = v) (kk : WP xs M r (pc + k) ls (vi v :: st) (S, I, T, cc, zz) Q) : WP xs M r pc ls (vi y :: vi x :: st) (S, I, T, cc, zz) Q :=
  WP_at h (by show WPo xs M r pc ls _ Q (if _ then _ else _); rw [if_neg h0]; subst hv; exact kk)
theorem w_and {k : Nat} {tl : Nat × Nat × Nat × Nat} {x y : Int} (v : Int) (h : look M pc = some (.iand, k, tl)) (hv : a2 (fun x y => x &&& y) x y = v) (kk : WP xs M r (pc + k) ls (vi v :: st) (S, I, T, cc, zz) Q) : WP xs M r pc ls (vi y :: vi x :: st) (S, I, T, cc, zz) Q :=
  WP_at h (by subst hv; exact kk)
theorem w_or {k : Nat} {tl : Nat × Nat × Nat × Nat} {x y : Int} (v : Int) (h : look M pc = some (.ior, k, tl)) (hv : a2 (fun x y => x ||| y) x y = v) (kk : WP xs M r (pc + k) ls (vi v :: st) (S, I, T, cc, zz) Q) : WP xs M r pc ls (vi y :: vi x :: st) (S, I, T, cc, zz) Q :=
  WP_at h (by subst hv; exact kk)
theorem w_xor {k : Nat} {tl : Nat × Nat × Nat × Nat} {x y : Int} (v : Int) (h : look M pc = some (.ixor, k, tl)) (hv : a2 (fun x y => x ^^^ y) x y = v) (kk : WP xs M r (pc + k) ls (vi v :: st) (S, I, T, cc, zz) Q) : WP xs M r pc ls (vi y :: vi x :: st) (S, I, T, cc, zz) Q :=
  WP_at h (by subst hv; exact kk)
theorem w_shl {k : Nat} {tl : Nat × Nat × Nat × Nat} {x y : Int} (v : Int) (h : look M pc = some (.ishl, k, tl)) (hv : a2 (fun x y => x <<< (y &&& 31)) x y = v) (kk : WP xs M r (pc + k) ls (vi v :: st) (S, I, T, cc, zz) Q) : WP xs M r pc ls (vi y :: vi x :: st) (S, I, T, cc, zz) Q :=
  WP_at h (by subst hv; exact kk)
theorem w_shr {k : Nat} {tl : Nat × Nat × Nat × Nat} {x y : Int} (v : Int) (h : look M pc = some (.ishr, k, tl)) (hv : a2 (fun x y => x >>> (y &&& 31)) x y = v) (kk : WP xs M r (pc + k) ls (vi v :: st) (S, I, T, cc, zz) Q) : WP xs M r pc ls (vi y :: vi x :: st) (S, I, T, cc, zz) Q :=
  WP_at h (by subst hv; exact kk)
theorem w_ushr {k : Nat} {tl : Nat × Nat × Nat × Nat} {x y : Int} (v : Int) (h : look M pc = some (.iushr, k, tl)) (hv : a2 (fun x y => (x.toUInt32 >>> (y.toUInt32 &&& Int32.toUInt32 31)).toInt32) x y = v) (kk : WP xs M r (pc + k) ls (vi v :: st) (S, I, T, cc, zz) Q) : WP xs M r pc ls (vi y :: vi x :: st) (S, I, T, cc, zz) Q :=
  WP_at h (by subst hv; exact kk)
theorem w_i2b {k : Nat} {tl : Nat × Nat × Nat × Nat} {x : Int} (v : Int) (h : look M pc = some (.i2b, k, tl)) (hv : wb x = v) (kk : WP xs M r (pc + k) ls (vi v :: st) (S, I, T, cc, zz) Q) : WP xs M r pc ls (vi x :: st) (S, I, T, cc, zz) Q :=
  WP_at h (by subst hv; exact kk)
theorem w_i2c {k : Nat} {tl : Nat × Nat × Nat × Nat} {x : Int} (v : Int) (h : look M pc = some (.i2c, k, tl)) (hv : x % 65536 = v) (kk : WP xs M r (pc + k) ls (vi v :: st) (S, I, T, cc, zz) Q) : WP xs M r pc ls (vi x :: st) (S, I, T, cc, zz) Q :=
  WP_at h (by subst hv; exact kk)
theorem w_i2l {k : Nat} {tl : Nat × Nat × Nat × Nat} {x : Int} (h : look M pc = some (.i2l, k, tl)) (kk : WP xs M r (pc + k) ls (vl x :: st) (S, I, T, cc, zz) Q) : WP xs M r pc ls (vi x :: st) (S, I, T, cc, zz) Q := WP_at h kk
theorem w_l2i {k : Nat} {tl : Nat × Nat × Nat × Nat} {x : Int} (v : Int) (h : look M pc = some (.l2i, k, tl)) (hv : wr x = v) (kk : WP xs M r (pc + k) ls (vi v :: st) (S, I, T, cc, zz) Q) : WP xs M r pc ls (vl x :: st) (S, I, T, cc, zz) Q :=
  WP_at h (by subst hv; exact kk)
theorem w_lcmp {k : Nat} {tl : Nat × Nat × Nat × Nat} {x y : Int} (h : look M pc = some (.lcmp, k, tl)) (kk : WP xs M r (pc + k) ls (vi (cmpL x y) :: st) (S, I, T, cc, zz) Q) : WP xs M r pc ls (vl y :: vl x :: st) (S, I, T, cc, zz) Q := WP_at h kk
theorem w_ladd {k : Nat} {tl : Nat × Nat × Nat × Nat} {x y : Int} (v : Int) (h : look M pc = some (.ladd, k, tl)) (hv : wl (x + y) = v) (kk : WP xs M r (pc + k) ls (vl v :: st) (S, I, T, cc, zz) Q) : WP xs M r pc ls (vl y :: vl x :: st) (S, I, T, cc, zz) Q :=
  WP_at h (by subst hv; exact kk)
theorem w_lsub {k : Nat} {tl : Nat × Nat × Nat × Nat} {x y : Int} (v : Int) (h : look M pc = some (.lsub, k, tl)) (hv : wl (x - y) = v) (kk : WP xs M r (pc + k) ls (vl v :: st) (S, I, T, cc, zz) Q) : WP xs M r pc ls (vl y :: vl x :: st) (S, I, T, cc, zz) Q :=
  WP_at h (by subst hv; exact kk)
theorem w_lmul {k : Nat} {tl : Nat × Nat × Nat × Nat} {x y : Int} (v : Int) (h : look M pc = some (.lmul, k, tl)) (hv : wl (x * y) = v) (kk : WP xs M r (pc + k) ls (vl v :: st) (S, I, T, cc, zz) Q) : WP xs M r pc ls (vl y :: vl x :: st) (S, I, T, cc, zz) Q :=
  WP_at h (by subst hv; exact kk)
theorem w_ldiv {k : Nat} {tl : Nat × Nat × Nat × Nat} {x y : Int} (v : Int) (h : look M pc = some (.ldiv, k, tl)) (h0 : y ≠ 0) (hv : wl (x.tdiv y) = v) (kk : WP xs M r (pc + k) ls (vl v :: st) (S, I, T, cc, zz) Q) : WP xs M r pc ls (vl y :: vl x :: st) (S, I, T, cc, zz) Q :=
  WP_at h (by show WPo xs M r pc ls _ Q (if _ then _ else _); rw [if_neg h0]; subst hv; exact kk)
theorem w_land {k : Nat} {tl : Nat × Nat × Nat × Nat} {x y : Int} (v : Int) (h : look M pc = some (.land, k, tl)) (hv : l2 (fun x y => x &&& y) x y = v) (kk : WP xs M r (pc + k) ls (vl v :: st) (S, I, T, cc, zz) Q) : WP xs M r pc ls (vl y :: vl x :: st) (S, I, T, cc, zz) Q :=
  WP_at h (by subst hv; exact kk)
theorem w_lor {k : Nat} {tl : Nat × Nat × Nat × Nat} {x y : Int} (v : Int) (h : look M pc = some (.lor, k, tl)) (hv : l2 (fun x y => x ||| y) x y = v) (kk : WP xs M r (pc + k) ls (vl v :: st) (S, I, T, cc, zz) Q) : WP xs M r pc ls (vl y :: vl x :: st) (S, I, T, cc, zz) Q :=
  WP_at h (by subst hv; exact kk)
theorem w_lshl {k : Nat} {tl : Nat × Nat × Nat × Nat} {x y : Int} (v : Int) (h : look M pc = some (.lshl, k, tl)) (hv : l1 (fun x y => x <<< (y.toInt64 &&& 63)) x y = v) (kk : WP xs M r (pc + k) ls (vl v :: st) (S, I, T, cc, zz) Q) : WP xs M r pc ls (vi y :: vl x :: st) (S, I, T, cc, zz) Q :=
  WP_at h (by subst hv; exact kk)
theorem w_lshr {k : Nat} {tl : Nat × Nat × Nat × Nat} {x y : Int} (v : Int) (h : look M pc = some (.lshr, k, tl)) (hv : l1 (fun x y => x >>> (y.toInt64 &&& 63)) x y = v) (kk : WP xs M r (pc + k) ls (vl v :: st) (S, I, T, cc, zz) Q) : WP xs M r pc ls (vi y :: vl x :: st) (S, I, T, cc, zz) Q :=
  WP_at h (by subst hv; exact kk)
theorem w_lushr {k : Nat} {tl : Nat × Nat × Nat × Nat} {x y : Int} (v : Int) (h : look M pc = some (.lushr, k, tl)) (hv : l1 (fun x y => (x.toUInt64 >>> (y.toInt64.toUInt64 &&& Int64.toUInt64 63)).toInt64) x y = v) (kk : WP xs M r (pc + k) ls (vl v :: st) (S, I, T, cc, zz) Q) : WP xs M r pc ls (vi y :: vl x :: st) (S, I, T, cc, zz) Q :=
  WP_at h (by subst hv; exact kk)
/-- branches: to the target where the test holds -/
theorem w_if {f : ICnd} {off : Int} {tl : Nat × Nat × Nat × Nat × Nat} {x : Int} (tg : Nat) (h : look M pc = some (.ifCond f off, tl)) (ht : (pc : Int) + off = tg) (k1 : icmpF f x 0 = true → WP xs M r tg ls st (S, I, T, cc, zz) Q) (k2 : icmpF f x 0 = false → WP xs M r (pc + 3) ls st (S, I, T, cc, zz) Q) : WP xs M r pc ls (vi x :: st) (S, I, T, cc, zz) Q :=
  WP_at h (by
    show WPo xs M r pc ls _ Q (jmp _ _ _ _ _ _ _)
    unfold jmp
    rw [if_pos (by omega), ht]
    have e : (if (fun x => icmpF f x 0) x = true then ((tg : Int)).toNat else pc + 3) = (if icmpF f x 0 = true then tg else pc + 3) := rfl
    rw [e]
    by_cases hb : icmpF f x 0 = true
    · rw [if_pos hb]; exact k1 hb
    · rw [if_neg hb]; exact k2 (by simpa using hb))
theorem w_ifc {f : ICnd} {off : Int} {tl : Nat × Nat × Nat × Nat × Nat} {x y : Int} (tg : Nat) (h : look M pc = some (.if_icmp f off, tl)) (ht : (pc : Int) + off = tg) (k1 : icmpF f x y = true → WP xs M r tg ls st (S, I, T, cc, zz) Q) (k2 : icmpF f x y = false → WP xs M r (pc + 3) ls st (S, I, T, cc, zz) Q) : WP xs M r pc ls (vi y :: vi x :: st) (S, I, T, cc, zz) Q :=
  WP_at h (by
    show WPo xs M r pc ls _ Q (jmp _ _ _ _ _ _ _)
    unfold jmp
    rw [if_pos (by omega), ht]
    have e : (if icmpF f x y = true then ((tg : Int)).toNat else pc + 3) = (if icmpF f x y = true then tg else pc + 3) := rfl
    rw [e]
    by_cases hb : icmpF f x y = true
    · rw [if_pos hb]; exact k1 hb
    · rw [if_neg hb]; exact k2 (by simpa using hb))
theorem w_go {off : Int} {tl : Nat × Nat × Nat × Nat × Nat} (tg : Nat) (h : look M pc = some (.goto off, tl)) (ht : (pc : Int) + off = tg) (kk : WP xs M r tg ls st (S, I, T, cc, zz) Q) : WP xs M r pc ls st (S, I, T, cc, zz) Q :=
  WP_at h (by show WPo xs M r pc ls _ Q (jmp _ _ _ _ _ _ _); unfold jmp; rw [if_pos (by omega), ht]; exact kk)
theorem w_swi {d lo hi : Int} {offs : Array Int} {tl : Nat × Nat × Nat × Nat × Nat} {x off : Int} (tg : Nat) (h : look M pc = some (.tableswitch d lo hi offs, tl)) (h1 : ¬ (x < lo ∨ hi < x)) (h2 : offs[(x - lo).toNat]? = some off) (ht : (pc : Int) + off = tg) (kk : WP xs M r tg ls st (S, I, T, cc, zz) Q) : WP xs M r pc ls (vi x :: st) (S, I, T, cc, zz) Q :=
  WP_at h (by show WPo xs M r pc ls _ Q (o_sw d lo hi offs pc ls (vi x :: st) (S, I, T, cc, zz)); unfold o_sw; simp only []; rw [if_neg h1, h2]; show WPo xs M r pc ls _ Q (jmp _ _ _ _ _ _ _); unfold jmp; rw [if_pos (by omega), ht]; exact kk)
theorem w_swd {d lo hi : Int} {offs : Array Int} {tl : Nat × Nat × Nat × Nat × Nat} {x : Int} (tg : Nat) (h : look M pc = some (.tableswitch d lo hi offs, tl)) (h1 : x < lo ∨ hi < x) (ht : (pc : Int) + d = tg) (kk : WP xs M r tg ls st (S, I, T, cc, zz) Q) : WP xs M r pc ls (vi x :: st) (S, I, T, cc, zz) Q :=
  WP_at h (by show WPo xs M r pc ls _ Q (o_sw d lo hi offs pc ls (vi x :: st) (S, I, T, cc, zz)); unfold o_sw; simp only []; rw [if_pos h1]; show WPo xs M r pc ls _ Q (jmp _ _ _ _ _ _ _); unfold jmp; rw [if_pos (by omega), ht]; exact kk)
theorem w_dup {k : Nat} {tl : Nat × Nat × Nat × Nat} {v : AV} (h : look M pc = some (.dup, k, tl)) (hv : cls1 v = true) (kk : WP xs M r (pc + k) ls (v :: v :: st) (S, I, T, cc, zz) Q) : WP xs M r pc ls (v :: st) (S, I, T, cc, zz) Q :=
  WP_at h (by show WPo xs M r pc ls _ Q (if _ then _ else _); rw [if_pos hv]; exact kk)
theorem w_dup2 {k : Nat} {tl : Nat × Nat × Nat × Nat} {v w : AV} (h : look M pc = some (.dup2, k, tl)) (hv : (cls1 v && cls1 w) = true) (kk : WP xs M r (pc + k) ls (v :: w :: v :: w :: st) (S, I, T, cc, zz) Q) : WP xs M r pc ls (v :: w :: st) (S, I, T, cc, zz) Q :=
  WP_at h (by show WPo xs M r pc ls _ Q (if _ then _ else _); rw [if_pos hv]; exact kk)
theorem w_pop {k : Nat} {tl : Nat × Nat × Nat × Nat} {v : AV} (h : look M pc = some (.pop, k, tl)) (hv : cls1 v = true) (kk : WP xs M r (pc + k) ls st (S, I, T, cc, zz) Q) : WP xs M r pc ls (v :: st) (S, I, T, cc, zz) Q :=
  WP_at h (by show WPo xs M r pc ls _ Q (if _ then _ else _); rw [if_pos hv]; exact kk)
/-- a number's field -/
theorem w_gi {idx k a b d o : Nat} (v : Int) (h : look M pc = some (.getfield idx, k, a, b, 0, d)) (hs : S[o]? = some (0, a)) (hv : I o b = v) (kk : WP xs M r (pc + k) ls (vi v :: st) (S, I, T, cc, zz) Q) : WP xs M r pc ls (vr o :: st) (S, I, T, cc, zz) Q :=
  WP_at h (by
    show WPo xs M r pc ls _ Q (if _ then (if _ then _ else _) else _)
    rw [if_pos (show mT (S, I, T, cc, zz) o = some (0, a) from hs), if_pos (Or.inl rfl)]
    subst hv
    exact kk)
/-- a reference's field -/
theorem w_gr {idx k a b d o v : Nat} (h : look M pc = some (.getfield idx, k, a, b, 2, d)) (hs : S[o]? = some (0, a)) (hv : T o b = v + 1) (kk : WP xs M r (pc + k) ls (vr v :: st) (S, I, T, cc, zz) Q) : WP xs M r pc ls (vr o :: st) (S, I, T, cc, zz) Q :=
  WP_at h (by
    show WPo xs M r pc ls _ Q (if _ then (if _ then _ else (if _ then _ else _)) else _)
    rw [if_pos (show mT (S, I, T, cc, zz) o = some (0, a) from hs), if_neg (by decide), if_pos (Or.inl rfl)]
    have : mR (S, I, T, cc, zz) o b = v + 1 := hv
    rw [this]
    exact kk)
theorem w_pi {idx k a b d o : Nat} {x : Int} (h : look M pc = some (.putfield idx, k, a, b, 0, d)) (hs : S[o]? = some (0, a)) (kk : WP xs M r (pc + k) ls st (S, up I o b x, T, cc, zz) Q) : WP xs M r pc ls (vi x :: vr o :: st) (S, I, T, cc, zz) Q :=
  WP_at h (by
    show WPo xs M r pc ls _ Q (if _ then (if _ then _ else _) else _)
    rw [if_pos (show mT (S, I, T, cc, zz) o = some (0, a) from hs), if_pos (Or.inl rfl)]
    exact kk)
/-- a number's field, by the ways that the class's own code does not take -/
theorem w_gin {idx k a b c0 d o : Nat} (v : Int) (h : look M pc = some (.getfield idx, k, a, b, c0, d)) (hc : c0 = 0 ∨ c0 = 4 ∨ c0 = 20) (hs : S[o]? = some (0, a)) (hv : I o b = v) (kk : WP xs M r (pc + k) ls (vi v :: st) (S, I, T, cc, zz) Q) : WP xs M r pc ls (vr o :: st) (S, I, T, cc, zz) Q :=
  WP_at h (by
    show WPo xs M r pc ls _ Q (if _ then (if _ then _ else _) else _)
    rw [if_pos (show mT (S, I, T, cc, zz) o = some (0, a) from hs), if_pos hc]
    subst hv
    exact kk)
theorem w_grn {idx k a b c0 d o v : Nat} (h : look M pc = some (.getfield idx, k, a, b, c0, d)) (hc : c0 = 2 ∨ c0 = 3 ∨ c0 = 22) (hs : S[o]? = some (0, a)) (hv : T o b = v + 1) (kk : WP xs M r (pc + k) ls (vr v :: st) (S, I, T, cc, zz) Q) : WP xs M r pc ls (vr o :: st) (S, I, T, cc, zz) Q :=
  WP_at h (by
    show WPo xs M r pc ls _ Q (if _ then (if _ then _ else (if _ then _ else _)) else _)
    rw [if_pos (show mT (S, I, T, cc, zz) o = some (0, a) from hs), if_neg (by omega), if_pos hc]
    have : mR (S, I, T, cc, zz) o b = v + 1 := hv
    rw [this]
    exact kk)
/-- a constant string's row and coder -/
theorem w_gvs {idx k a b d q : Nat} (h : look M pc = some (.getfield idx, k, a, b, 3, d)) (hq : q < 53) (kk : WP xs M r (pc + k) ls (vs (2 * q + 1 + 4) :: st) (S, I, T, cc, zz) Q) : WP xs M r pc ls (vs (2 * q + 4) :: st) (S, I, T, cc, zz) Q :=
  WP_at h (by
    show WPo xs M r pc ls _ Q (if _ then (if _ then _ else _) else _)
    rw [if_pos ⟨by omega, by omega⟩, if_pos rfl]
    exact kk)
theorem w_gcs {idx k a b d q : Nat} (h : look M pc = some (.getfield idx, k, a, b, 4, d)) (hq : q < 53) (kk : WP xs M r (pc + k) ls (vi 0 :: st) (S, I, T, cc, zz) Q) : WP xs M r pc ls (vs (2 * q + 4) :: st) (S, I, T, cc, zz) Q :=
  WP_at h (by
    show WPo xs M r pc ls _ Q (if _ then (if _ then _ else (if _ then _ else _)) else _)
    rw [if_pos ⟨by omega, by omega⟩, if_neg (by decide), if_pos rfl]
    exact kk)
theorem w_pif {idx k a b d o : Nat} {x : Int} (h : look M pc = some (.putfield idx, k, a, b, 10, d)) (hs : S[o]? = some (0, a)) (kk : WP xs M r (pc + k) ls st (S, up I o b x, T, cc, zz) Q) : WP xs M r pc ls (vi x :: vr o :: st) (S, I, T, cc, zz) Q :=
  WP_at h (by
    show WPo xs M r pc ls _ Q (if _ then (if _ then _ else _) else _)
    rw [if_pos (show mT (S, I, T, cc, zz) o = some (0, a) from hs), if_pos (Or.inr rfl)]
    exact kk)
theorem w_pib {idx k a b c0 d o : Nat} {x : Int} (h : look M pc = some (.putfield idx, k, a, b, c0, d)) (hc : c0 = 5 ∨ c0 = 15) (hs : S[o]? = some (0, a)) (hx : -128 ≤ x ∧ x < 128) (kk : WP xs M r (pc + k) ls st (S, up I o b x, T, cc, zz) Q) : WP xs M r pc ls (vi x :: vr o :: st) (S, I, T, cc, zz) Q :=
  WP_at h (by
    show WPo xs M r pc ls _ Q (if _ then (if _ then _ else (if _ then _ else _)) else _)
    rw [if_pos (show mT (S, I, T, cc, zz) o = some (0, a) from hs), if_neg (by omega), if_pos ⟨hc, hx⟩]
    exact kk)
theorem w_piz {idx k a b c0 d o : Nat} {x : Int} (h : look M pc = some (.putfield idx, k, a, b, c0, d)) (hc : c0 = 6 ∨ c0 = 16) (hs : S[o]? = some (0, a)) (hx : 0 ≤ x ∧ x ≤ 1) (kk : WP xs M r (pc + k) ls st (S, up I o b x, T, cc, zz) Q) : WP xs M r pc ls (vi x :: vr o :: st) (S, I, T, cc, zz) Q :=
  WP_at h (by
    show WPo xs M r pc ls _ Q (if _ then (if _ then _ else (if _ then _ else (if _ then _ else _))) else _)
    rw [if_pos (show mT (S, I, T, cc, zz) o = some (0, a) from hs), if_neg (by omega), if_neg (by omega), if_pos ⟨hc, hx⟩]
    exact kk)
theorem w_pr {idx k a b d o v : Nat} {c0 : Nat} (h : look M pc = some (.putfield idx, k, a, b, c0, d)) (hs : S[o]? = some (0, a)) (hc : c0 = 2 ∨ c0 = 12) (kk : WP xs M r (pc + k) ls st (S, I, (fun x y => if x = o ∧ y = b then v + 1 else T x y), cc, zz) Q) : WP xs M r pc ls (vr v :: vr o :: st) (S, I, T, cc, zz) Q :=
  WP_at h (by
    show WPo xs M r pc ls _ Q (if _ then _ else _)
    rw [if_pos (show mT (S, I, T, cc, zz) o = some (0, a) ∧ (c0 = 2 ∨ c0 = 12) from ⟨hs, hc⟩)]
    exact kk)
theorem inR_of {i : Int} {n : Nat} (j : Nat) (h : i = j) (hj : j < n) : inR i n = true := by
  unfold inR; subst h; simp; omega
theorem w_ia {k o n : Nat} {tl : Nat × Nat × Nat × Nat} {i : Int} (j : Nat) (v : Int) (h : look M pc = some (.iaload, k, tl)) (hs : S[o]? = some (1, n)) (hi : i = j) (hj : j < n) (hv : I o j = v) (kk : WP xs M r (pc + k) ls (vi v :: st) (S, I, T, cc, zz) Q) : WP xs M r pc ls (vi i :: vr o :: st) (S, I, T, cc, zz) Q :=
  WP_at h (by
    show WPo xs M r pc ls _ Q (o_ia xs (pc + k) ls (vi i :: vr o :: st) (S, I, T, cc, zz))
    unfold o_ia
    simp only []
    rw [show mT (S, I, T, cc, zz) o = some (1, n) from hs]
    simp only []
    rw [if_pos (inR_of j hi hj)]
    subst hi hv
    exact kk)
theorem w_xs {k : Nat} {tl : Nat × Nat × Nat × Nat} {i : Int} (j : Nat) (v : Int) (h : look M pc = some (.iaload, k, tl)) (hi : i = j) (hj : j < xs.length) (hv : xs.getD j 0 = v) (kk : WP xs M r (pc + k) ls (vi v :: st) (S, I, T, cc, zz) Q) : WP xs M r pc ls (vi i :: vs 3 :: st) (S, I, T, cc, zz) Q :=
  WP_at h (by
    show WPo xs M r pc ls _ Q (if _ then _ else _)
    rw [if_pos (inR_of j hi hj)]
    subst hi hv
    exact kk)
theorem w_ba {k o n : Nat} {tl : Nat × Nat × Nat × Nat} {i : Int} (j : Nat) (v : Int) (h : look M pc = some (.baload, k, tl)) (hs : S[o]? = some (3, n) ∨ S[o]? = some (4, n)) (hi : i = j) (hj : j < n) (hv : I o j = v) (kk : WP xs M r (pc + k) ls (vi v :: st) (S, I, T, cc, zz) Q) : WP xs M r pc ls (vi i :: vr o :: st) (S, I, T, cc, zz) Q :=
  WP_at h (by
    show WPo xs M r pc ls _ Q (o_ba (pc + k) ls (vi i :: vr o :: st) (S, I, T, cc, zz))
    unfold o_ba
    simp only []
    rcases hs with hs | hs
    · rw [show mT (S, I, T, cc, zz) o = some (3, n) from hs]
      simp only []
      rw [if_pos (inR_of j hi hj)]
      subst hi hv
      exact kk
    · rw [show mT (S, I, T, cc, zz) o = some (4, n) from hs]
      simp only []
      rw [if_pos (inR_of j hi hj)]
      subst hi hv
      exact kk)
theorem w_bs {k q : Nat} {tl : Nat × Nat × Nat × Nat} {i : Int} (j : Nat) (v : Int) (h : look M pc = some (.baload, k, tl)) (hq : q < 55) (hi : i = j) (hj : j < (stb.getD q []).length) (hv : (stb.getD q []).getD j 0 = v) (kk : WP xs M r (pc + k) ls (vi v :: st) (S, I, T, cc, zz) Q) : WP xs M r pc ls (vi i :: vs (2 * q + 1 + 4) :: st) (S, I, T, cc, zz) Q :=
  WP_at h (by
    show WPo xs M r pc ls _ Q (if _ then _ else _)
    have e : (2 * q + 1) / 2 = q := by omega
    rw [if_pos ⟨by omega, by omega, by rw [e]; exact inR_of j hi hj⟩, e]
    subst hi hv
    exact kk)
theorem w_la {k o n : Nat} {tl : Nat × Nat × Nat × Nat} {i : Int} (j : Nat) (v : Int) (h : look M pc = some (.laload, k, tl)) (hs : S[o]? = some (2, n)) (hi : i = j) (hj : j < n) (hv : I o j = v) (kk : WP xs M r (pc + k) ls (vl v :: st) (S, I, T, cc, zz) Q) : WP xs M r pc ls (vi i :: vr o :: st) (S, I, T, cc, zz) Q :=
  WP_at h (by
    show WPo xs M r pc ls _ Q (o_la (pc + k) ls (vi i :: vr o :: st) (S, I, T, cc, zz))
    unfold o_la
    simp only []
    rw [show mT (S, I, T, cc, zz) o = some (2, n) from hs]
    simp only []
    rw [if_pos (inR_of j hi hj)]
    subst hi hv
    exact kk)
theorem w_aa {k o n v : Nat} {tl : Nat × Nat × Nat × Nat} {i : Int} (j : Nat) (h : look M pc = some (.aaload, k, tl)) (hs : S[o]? = some (5, n)) (hi : i = j) (hj : j < n) (hv : T o j = v + 1) (kk : WP xs M r (pc + k) ls (vr v :: st) (S, I, T, cc, zz) Q) : WP xs M r pc ls (vi i :: vr o :: st) (S, I, T, cc, zz) Q :=
  WP_at h (by
    show WPo xs M r pc ls _ Q (o_aa (pc + k) ls (vi i :: vr o :: st) (S, I, T, cc, zz))
    unfold o_aa
    simp only []
    rw [show mT (S, I, T, cc, zz) o = some (5, n) from hs]
    simp only []
    rw [if_pos (inR_of j hi hj)]
    subst hi
    have : mR (S, I, T, cc, zz) o ((j : Int).toNat) = v + 1 := hv
    rw [this]
    exact kk)
theorem w_iS {k o n : Nat} {tl : Nat × Nat × Nat × Nat} {i x : Int} (j : Nat) (h : look M pc = some (.iastore, k, tl)) (hs : S[o]? = some (1, n)) (hi : i = j) (hj : j < n) (kk : WP xs M r (pc + k) ls st (S, up I o j x, T, cc, zz) Q) : WP xs M r pc ls (vi x :: vi i :: vr o :: st) (S, I, T, cc, zz) Q :=
  WP_at h (by
    show WPo xs M r pc ls _ Q (o_iS (pc + k) ls (vi x :: vi i :: vr o :: st) (S, I, T, cc, zz))
    unfold o_iS
    simp only []
    rw [show mT (S, I, T, cc, zz) o = some (1, n) from hs]
    simp only []
    rw [if_pos (inR_of j hi hj)]
    subst hi
    exact kk)
theorem w_bS {k o n : Nat} {tl : Nat × Nat × Nat × Nat} {i x : Int} (j : Nat) (v : Int) (h : look M pc = some (.bastore, k, tl)) (hs : S[o]? = some (3, n)) (hi : i = j) (hj : j < n) (hv : wb x = v) (kk : WP xs M r (pc + k) ls st (S, up I o j v, T, cc, zz) Q) : WP xs M r pc ls (vi x :: vi i :: vr o :: st) (S, I, T, cc, zz) Q :=
  WP_at h (by
    show WPo xs M r pc ls _ Q (o_bS (pc + k) ls (vi x :: vi i :: vr o :: st) (S, I, T, cc, zz))
    unfold o_bS
    simp only []
    rw [show mT (S, I, T, cc, zz) o = some (3, n) from hs]
    simp only []
    rw [if_pos (inR_of j hi hj)]
    subst hi hv
    exact kk)
theorem w_zS {k o n : Nat} {tl : Nat × Nat × Nat × Nat} {i x : Int} (j : Nat) (v : Int) (h : look M pc = some (.bastore, k, tl)) (hs : S[o]? = some (4, n)) (hi : i = j) (hj : j < n) (hv : x % 2 = v) (kk : WP xs M r (pc + k) ls st (S, up I o j v, T, cc, zz) Q) : WP xs M r pc ls (vi x :: vi i :: vr o :: st) (S, I, T, cc, zz) Q :=
  WP_at h (by
    show WPo xs M r pc ls _ Q (o_bS (pc + k) ls (vi x :: vi i :: vr o :: st) (S, I, T, cc, zz))
    unfold o_bS
    simp only []
    rw [show mT (S, I, T, cc, zz) o = some (4, n) from hs]
    simp only []
    rw [if_pos (inR_of j hi hj)]
    subst hi hv
    exact kk)
theorem w_lS {k o n : Nat} {tl : Nat × Nat × Nat × Nat} {i x : Int} (j : Nat) (h : look M pc = some (.lastore, k, tl)) (hs : S[o]? = some (2, n)) (hi : i = j) (hj : j < n) (kk : WP xs M r (pc + k) ls st (S, up I o j x, T, cc, zz) Q) : WP xs M r pc ls (vl x :: vi i :: vr o :: st) (S, I, T, cc, zz) Q :=
  WP_at h (by
    show WPo xs M r pc ls _ Q (o_lS (pc + k) ls (vl x :: vi i :: vr o :: st) (S, I, T, cc, zz))
    unfold o_lS
    simp only []
    rw [show mT (S, I, T, cc, zz) o = some (2, n) from hs]
    simp only []
    rw [if_pos (inR_of j hi hj)]
    subst hi
    exact kk)
theorem w_len {k o t n : Nat} {tl : Nat × Nat × Nat × Nat} (h : look M pc = some (.arraylength, k, tl)) (hs : S[o]? = some (t + 1, n)) (kk : WP xs M r (pc + k) ls (vi n :: st) (S, I, T, cc, zz) Q) : WP xs M r pc ls (vr o :: st) (S, I, T, cc, zz) Q :=
  WP_at h (by
    show WPo xs M r pc ls _ Q (o_len xs (pc + k) ls (vr o :: st) (S, I, T, cc, zz))
    unfold o_len
    simp only []
    rw [show mT (S, I, T, cc, zz) o = some (t + 1, n) from hs]
    exact kk)
theorem w_lxs {k : Nat} {tl : Nat × Nat × Nat × Nat} (h : look M pc = some (.arraylength, k, tl)) (kk : WP xs M r (pc + k) ls (vi xs.length :: st) (S, I, T, cc, zz) Q) : WP xs M r pc ls (vs 3 :: st) (S, I, T, cc, zz) Q := WP_at h kk
theorem w_ldc {idx k a b d : Nat} (h : look M pc = some (.ldc idx, k, a, b, 0, d)) (ha : a < 53) (kk : WP xs M r (pc + k) ls (vs (2 * a + 4) :: st) (S, I, T, cc, zz) Q) : WP xs M r pc ls st (S, I, T, cc, zz) Q :=
  WP_at h (by show WPo xs M r pc ls _ Q (o_lk a 0 (pc + k) ls st (S, I, T, cc, zz)); unfold o_lk; rw [if_pos rfl, if_pos ha]; exact kk)
theorem w_ldi {idx k a b d : Nat} (h : look M pc = some (.ldc idx, k, a, b, 1, d) ∨ look M pc = some (.ldc_w idx, k, a, b, 1, d)) (ha : a < 2147483648) (kk : WP xs M r (pc + k) ls (vi (a : Int) :: st) (S, I, T, cc, zz) Q) : WP xs M r pc ls st (S, I, T, cc, zz) Q := by
  rcases h with h | h
  · exact WP_at h (by show WPo xs M r pc ls _ Q (o_lk a 1 (pc + k) ls st (S, I, T, cc, zz)); unfold o_lk; rw [if_neg (by decide), if_pos ⟨rfl, ha⟩]; exact kk)
  · exact WP_at h (by show WPo xs M r pc ls _ Q (o_lk a 1 (pc + k) ls st (S, I, T, cc, zz)); unfold o_lk; rw [if_neg (by decide), if_pos ⟨rfl, ha⟩]; exact kk)
theorem w_ldcw {idx k a b d : Nat} (h : look M pc = some (.ldc_w idx, k, a, b, 0, d)) (ha : a < 53) (kk : WP xs M r (pc + k) ls (vs (2 * a + 4) :: st) (S, I, T, cc, zz) Q) : WP xs M r pc ls st (S, I, T, cc, zz) Q :=
  WP_at h (by show WPo xs M r pc ls _ Q (o_lk a 0 (pc + k) ls st (S, I, T, cc, zz)); unfold o_lk; rw [if_pos rfl, if_pos ha]; exact kk)
theorem w_ldc2 {idx k a : Nat} {tl : Nat × Nat × Nat} (h : look M pc = some (.ldc2_w idx, k, a, tl)) (ha : a < 1000000) (kk : WP xs M r (pc + k) ls (vl (a : Int) :: st) (S, I, T, cc, zz) Q) : WP xs M r pc ls st (S, I, T, cc, zz) Q :=
  WP_at h (by show WPo xs M r pc ls _ Q (if _ then _ else _); rw [if_pos ha]; exact kk)
theorem w_ir {k a b c0 d : Nat} {x : Int} (h : look M pc = some (.ireturn, k, a, b, c0, d)) (hc : (c0 = 0) ∨ (c0 = 1 ∧ 0 ≤ x ∧ x ≤ 1) ∨ (c0 = 2 ∧ 0 ≤ x ∧ x < 65536) ∨ (c0 = 3 ∧ -128 ≤ x ∧ x < 128)) (kk : Q (.inl (some (vi x))) (S, I, T, cc, zz)) : WP xs M r pc ls [vi x] (S, I, T, cc, zz) Q :=
  WP_at h (by show WPo xs M r pc ls _ Q (if _ then _ else _); rw [if_pos hc]; exact kk)
theorem w_vr {tl : Nat × Nat × Nat × Nat × Nat} (h : look M pc = some (.return_, tl)) (kk : Q (.inl none) (S, I, T, cc, zz)) : WP xs M r pc ls [] (S, I, T, cc, zz) Q := WP_at h kk
theorem w_lr {tl : Nat × Nat × Nat × Nat × Nat} {x : Int} (h : look M pc = some (.lreturn, tl)) (kk : Q (.inl (some (vl x))) (S, I, T, cc, zz)) : WP xs M r pc ls [vl x] (S, I, T, cc, zz) Q := WP_at h kk
theorem w_ars {tl : Nat × Nat × Nat × Nat × Nat} {x : Nat} (h : look M pc = some (.areturn, tl)) (kk : Q (.inl (some (vs (x + 3)))) (S, I, T, cc, zz)) : WP xs M r pc ls [vs (x + 3)] (S, I, T, cc, zz) Q := WP_at h kk
theorem w_th {idx k a b d : Nat} (h : look M pc = some (.new idx, k, a, b, 1, d)) (h1 : 1 ≤ cc ∧ 6 ≤ zz ∧ st.length ≤ 4) (kk : Q (.inr a) (S, I, T, cc - 1, zz - 6)) : WP xs M r pc ls st (S, I, T, cc, zz) Q :=
  WP_at h (by show WPo xs M r pc ls _ Q (if _ then _ else _); rw [if_pos (show 1 ≤ mC (S, I, T, cc, zz) ∧ 6 ≤ mS (S, I, T, cc, zz) ∧ st.length ≤ 4 from h1)]; exact kk)
/-- the arguments off the stack -/
theorem iv_ok {b j : Nat} {st : List AV} (as rest : List AV) (h1 : st = as.reverse ++ rest) (h2 : as.length = b) (h3 : rest.length ≤ 4 ∨ (rest.length ≤ 8 ∧ rest.all cls1 = true)) (h4 : (lex as).length ≤ mxl j) : o_iv b j st = some (.inr (.inl (j, as, rest))) := by
  subst h1 h2
  unfold o_iv
  have e1 : (as.reverse ++ rest).take as.length = as.reverse := by rw [List.take_append_of_le_length (by simp), List.take_of_length_le (by simp)]
  have e2 : (as.reverse ++ rest).drop as.length = rest := by rw [List.drop_append_of_le_length (by simp), List.drop_of_length_le (by simp)]; rfl
  rw [if_pos ⟨by simp, by rw [e2]; exact h3, by rw [e1, List.reverse_reverse]; exact h4⟩, e1, e2, List.reverse_reverse]
theorem w_ivn {idx k j b c0 d o : Nat} (as rest : List AV) (h : look M pc = some (.invokevirtual idx, k, j, b, c0, d)) (hc : c0 = 0 ∨ c0 = 9) (h1 : vr o :: as = vr o :: as) (hst : st = as.reverse ++ vr o :: rest) (h2 : as.length + 1 = b) (h3 : rest.length ≤ 4) (h4 : (lex (vr o :: as)).length ≤ mxl j) (hs : S[o]? = some (0, mtc j)) (hj : mtc j < 14) (hr : rkA j (vr o :: as) < r)
    (kk : CL xs j (vr o :: as) (S, I, T, cc, zz) (fun q m1 => match q with
      | .inl v => WP xs M r (pc + 3) ls (v.toList ++ rest) m1 Q
      | .inr x => WX xs M r pc ls x m1 Q)) : WP xs M r pc ls st (S, I, T, cc, zz) Q :=
  WP_at h (by
    have hst' : st = (vr o :: as).reverse ++ rest := by rw [hst]; simp
    have htk : (st.take b).reverse = vr o :: as := by
      rw [hst', List.take_append_of_le_length (by simp; omega), List.take_of_length_le (by simp; omega), List.reverse_reverse]
    show WPo xs M r pc ls _ Q (o_ivv j b c0 (pc + k) ls st (S, I, T, cc, zz))
    unfold o_ivv
    rw [if_neg (by omega), if_pos ⟨hc, by unfold recvOk; rw [htk]; simp only [Bool.and_eq_true, decide_eq_true_eq]; exact ⟨hs, hj⟩⟩, iv_ok (vr o :: as) rest hst' (by simpa using h2) (Or.inl h3) h4]
    exact ⟨hr, kk⟩)
theorem w_iv {idx k j b d o : Nat} (as rest : List AV) (h : look M pc = some (.invokevirtual idx, k, j, b, 0, d)) (h1 : vr o :: as = vr o :: as) (hst : st = as.reverse ++ vr o :: rest) (h2 : as.length + 1 = b) (h3 : rest.length ≤ 4) (h4 : (lex (vr o :: as)).length ≤ mxl j) (hs : S[o]? = some (0, mtc j)) (hj : mtc j < 14) (hr : rkA j (vr o :: as) < r)
    (kk : CL xs j (vr o :: as) (S, I, T, cc, zz) (fun q m1 => match q with
      | .inl v => WP xs M r (pc + 3) ls (v.toList ++ rest) m1 Q
      | .inr x => WX xs M r pc ls x m1 Q)) : WP xs M r pc ls st (S, I, T, cc, zz) Q := w_ivn as rest h (Or.inl rfl) h1 hst h2 h3 h4 hs hj hr kk
theorem w_ivs {idx k j b d q : Nat} (as rest : List AV) (h : look M pc = some (.invokevirtual idx, k, j, b, 0, d)) (hst : st = as.reverse ++ vs (2 * q + 4) :: rest) (h2 : as.length + 1 = b) (h3 : rest.length ≤ 4) (h4 : (lex (vs (2 * q + 4) :: as)).length ≤ mxl j) (hq : q < 53) (hj : mtc j = 12) (hr : rkA j (vs (2 * q + 4) :: as) < r)
    (kk : CL xs j (vs (2 * q + 4) :: as) (S, I, T, cc, zz) (fun q m1 => match q with
      | .inl v => WP xs M r (pc + 3) ls (v.toList ++ rest) m1 Q
      | .inr x => WX xs M r pc ls x m1 Q)) : WP xs M r pc ls st (S, I, T, cc, zz) Q :=
  WP_at h (by
    have hst' : st = (vs (2 * q + 4) :: as).reverse ++ rest := by rw [hst]; simp
    have htk : (st.take b).reverse = vs (2 * q + 4) :: as := by
      rw [hst', List.take_append_of_le_length (by simp; omega), List.take_of_length_le (by simp; omega), List.reverse_reverse]
    show WPo xs M r pc ls _ Q (o_ivv j b 0 (pc + k) ls st (S, I, T, cc, zz))
    unfold o_ivv
    rw [if_neg (by decide), if_pos ⟨Or.inl rfl, by unfold recvOk; rw [htk]; simp only [decide_eq_true_eq]; exact ⟨by omega, by omega, hj⟩⟩, iv_ok (vs (2 * q + 4) :: as) rest hst' (by simpa using h2) (Or.inl h3) h4]
    exact ⟨hr, kk⟩)
theorem w_st {idx k j b d c0 : Nat} (as rest : List AV) (h : look M pc = some (.invokestatic idx, k, j, b, c0, d)) (hc : c0 = 1 ∨ c0 = 12) (hst : st = as.reverse ++ rest) (h2 : as.length = b) (h3 : rest.length ≤ 4) (h4 : (lex as).length ≤ mxl j) (hr : rkA j as < r)
    (kk : CL xs j as (S, I, T, cc, zz) (fun q m1 => match q with
      | .inl v => WP xs M r (pc + 3) ls (v.toList ++ rest) m1 Q
      | .inr x => WX xs M r pc ls x m1 Q)) : WP xs M r pc ls st (S, I, T, cc, zz) Q :=
  WP_at h (by
    show WPo xs M r pc ls _ Q (if _ then _ else _)
    rw [if_pos hc, iv_ok as rest hst h2 (Or.inl h3) h4]
    exact ⟨hr, kk⟩)
theorem w_mn {idx k a b d : Nat} {x y : Int} (v : Int) (h : look M pc = some (.invokestatic idx, k, a, b, 5, d)) (h1 : st.length ≤ 4) (hv : (if y < x then y else x) = v) (kk : WP xs M r (pc + k) ls (vi v :: st) (S, I, T, cc, zz) Q) : WP xs M r pc ls (vi y :: vi x :: st) (S, I, T, cc, zz) Q :=
  WP_at h (by
    show WPo xs M r pc ls _ Q (if _ then _ else _)
    rw [if_pos h1, hv]
    exact kk)
theorem w_cp {idx k a b d t o1 o2 n1 n2 : Nat} {sp dp n : Int} (sn dn nn : Nat) (h : look M pc = some (.invokestatic idx, k, a, b, 6, d)) (hs1 : S[o1]? = some (t, n1)) (hs2 : S[o2]? = some (t, n2)) (ht : 1 ≤ t ∧ t ≤ 4) (e1 : sp = sn) (e2 : dp = dn) (e3 : n = nn) (b1 : sn + nn ≤ n1) (b2 : dn + nn ≤ n2) (h1 : st.length ≤ 4)
    (kk : WP xs M r (pc + k) ls st (S, cpy I o1 sn o2 dn nn, T, cc, zz) Q) : WP xs M r pc ls (vi n :: vi dp :: vr o2 :: vi sp :: vr o1 :: st) (S, I, T, cc, zz) Q :=
  WP_at h (by
    show WPo xs M r pc ls _ Q (o_cp (pc + k) ls (vi n :: vi dp :: vr o2 :: vi sp :: vr o1 :: st) (S, I, T, cc, zz))
    unfold o_cp
    simp only []
    rw [show mT (S, I, T, cc, zz) o1 = some (t, n1) from hs1, show mT (S, I, T, cc, zz) o2 = some (t, n2) from hs2]
    simp only []
    subst e1 e2 e3
    rw [if_pos ⟨trivial, ht.1, ht.2, by omega, by omega, by omega, by omega, by omega, h1⟩]
    exact kk)
end WPS
