/-! more rows for walks: tests by kind, calls by contract -/
section WQS
variable {xs : List Int} {M r pc : Nat} {ls st : List AV} {S : List (Nat × Nat)} {I : Ix} {T : Nat → Nat → Nat} {cc zz : Nat} {Q : Res → Mem → Prop}
theorem b2i_0 {b : Bool} : b2i b = 0 ↔ b = false := by cases b <;> simp [b2i]
theorem b2i_r (b : Bool) : 0 ≤ b2i b ∧ b2i b ≤ 1 := by cases b <;> simp [b2i]
theorem w_zeq {off : Int} {tl : Nat × Nat × Nat × Nat × Nat} {x : Int} (tg : Nat) (h : look M pc = some (.ifCond .eq off, tl)) (ht : (pc : Int) + off = tg) (k1 : x = 0 → WP xs M r tg ls st (S, I, T, cc, zz) Q) (k2 : x ≠ 0 → WP xs M r (pc + 3) ls st (S, I, T, cc, zz) Q) : WP xs M r pc ls (vi x :: st) (S, I, T, cc, zz) Q :=
  w_if tg h ht (fun hb => k1 (of_decide_eq_true hb)) (fun hb => k2 (of_decide_eq_false hb))
theorem w_zne {off : Int} {tl : Nat × Nat × Nat × Nat × Nat} {x : Int} (tg : Nat) (h : look M pc = some (.ifCond .ne off, tl)) (ht : (pc : Int) + off = tg) (k1 : x ≠ 0 → WP xs M r tg ls st (S, I, T, cc, zz) Q) (k2 : x = 0 → WP xs M r (pc + 3) ls st (S, I, T, cc, zz) Q) : WP xs M r pc ls (vi x :: st) (S, I, T, cc, zz) Q :=
  w_if tg h ht (fun hb => k1 (of_decide_eq_true hb)) (fun hb => k2 (Classical.not_not.mp (of_decide_eq_false hb)))
theorem w_zlt {off : Int} {tl : Nat × Nat × Nat × Nat × Nat} {x : Int} (tg : Nat) (h : look M pc = some (.ifCond .lt off, tl)) (ht : (pc : Int) + off = tg) (k1 : x < 0 → WP xs M r tg ls st (S, I, T, cc, zz) Q) (k2 : 0 ≤ x → WP xs M r (pc + 3) ls st (S, I, T, cc, zz) Q) : WP xs M r pc ls (vi x :: st) (S, I, T, cc, zz) Q :=
  w_if tg h ht (fun hb => k1 (of_decide_eq_true hb)) (fun hb => k2 (Int.not_lt.mp (of_decide_eq_false hb)))
theorem w_zge {off : Int} {tl : Nat × Nat × Nat × Nat × Nat} {x : Int} (tg : Nat) (h : look M pc = some (.ifCond .ge off, tl)) (ht : (pc : Int) + off = tg) (k1 : 0 ≤ x → WP xs M r tg ls st (S, I, T, cc, zz) Q) (k2 : x < 0 → WP xs M r (pc + 3) ls st (S, I, T, cc, zz) Q) : WP xs M r pc ls (vi x :: st) (S, I, T, cc, zz) Q :=
  w_if tg h ht (fun hb => k1 (of_decide_eq_true hb)) (fun hb => k2 (Int.not_le.mp (of_decide_eq_false hb)))
theorem w_zgt {off : Int} {tl : Nat × Nat × Nat × Nat × Nat} {x : Int} (tg : Nat) (h : look M pc = some (.ifCond .gt off, tl)) (ht : (pc : Int) + off = tg) (k1 : 0 < x → WP xs M r tg ls st (S, I, T, cc, zz) Q) (k2 : x ≤ 0 → WP xs M r (pc + 3) ls st (S, I, T, cc, zz) Q) : WP xs M r pc ls (vi x :: st) (S, I, T, cc, zz) Q :=
  w_if tg h ht (fun hb => k1 (of_decide_eq_true hb)) (fun hb => k2 (Int.not_lt.mp (of_decide_eq_false hb)))
theorem w_zle {off : Int} {tl : Nat × Nat × Nat × Nat × Nat} {x : Int} (tg : Nat) (h : look M pc = some (.ifCond .le off, tl)) (ht : (pc : Int) + off = tg) (k1 : x ≤ 0 → WP xs M r tg ls st (S, I, T, cc, zz) Q) (k2 : 0 < x → WP xs M r (pc + 3) ls st (S, I, T, cc, zz) Q) : WP xs M r pc ls (vi x :: st) (S, I, T, cc, zz) Q :=
  w_if tg h ht (fun hb => k1 (of_decide_eq_true hb)) (fun hb => k2 (Int.not_le.mp (of_decide_eq_false hb)))
/-- of a truth -/
theorem w_beq {off : Int} {tl : Nat × Nat × Nat × Nat × Nat} {b : Bool} (tg : Nat) (h : look M pc = some (.ifCond .eq off, tl)) (ht : (pc : Int) + off = tg) (k1 : b = false → WP xs M r tg ls st (S, I, T, cc, zz) Q) (k2 : b = true → WP xs M r (pc + 3) ls st (S, I, T, cc, zz) Q) : WP xs M r pc ls (vi (b2i b) :: st) (S, I, T, cc, zz) Q :=
  w_zeq tg h ht (fun hb => k1 (b2i_0.mp hb)) (fun hb => k2 (by cases b; exact absurd rfl hb; rfl))
theorem w_bne {off : Int} {tl : Nat × Nat × Nat × Nat × Nat} {b : Bool} (tg : Nat) (h : look M pc = some (.ifCond .ne off, tl)) (ht : (pc : Int) + off = tg) (k1 : b = true → WP xs M r tg ls st (S, I, T, cc, zz) Q) (k2 : b = false → WP xs M r (pc + 3) ls st (S, I, T, cc, zz) Q) : WP xs M r pc ls (vi (b2i b) :: st) (S, I, T, cc, zz) Q :=
  w_zne tg h ht (fun hb => k1 (by cases b; exact absurd rfl hb; rfl)) (fun hb => k2 (b2i_0.mp hb))
theorem w_ceq {off : Int} {tl : Nat × Nat × Nat × Nat × Nat} {x y : Int} (tg : Nat) (h : look M pc = some (.if_icmp .eq off, tl)) (ht : (pc : Int) + off = tg) (k1 : x = y → WP xs M r tg ls st (S, I, T, cc, zz) Q) (k2 : x ≠ y → WP xs M r (pc + 3) ls st (S, I, T, cc, zz) Q) : WP xs M r pc ls (vi y :: vi x :: st) (S, I, T, cc, zz) Q :=
  w_ifc tg h ht (fun hb => k1 (of_decide_eq_true hb)) (fun hb => k2 (of_decide_eq_false hb))
theorem w_cne {off : Int} {tl : Nat × Nat × Nat × Nat × Nat} {x y : Int} (tg : Nat) (h : look M pc = some (.if_icmp .ne off, tl)) (ht : (pc : Int) + off = tg) (k1 : x ≠ y → WP xs M r tg ls st (S, I, T, cc, zz) Q) (k2 : x = y → WP xs M r (pc + 3) ls st (S, I, T, cc, zz) Q) : WP xs M r pc ls (vi y :: vi x :: st) (S, I, T, cc, zz) Q :=
  w_ifc tg h ht (fun hb => k1 (of_decide_eq_true hb)) (fun hb => k2 (Classical.not_not.mp (of_decide_eq_false hb)))
theorem w_clt {off : Int} {tl : Nat × Nat × Nat × Nat × Nat} {x y : Int} (tg : Nat) (h : look M pc = some (.if_icmp .lt off, tl)) (ht : (pc : Int) + off = tg) (k1 : x < y → WP xs M r tg ls st (S, I, T, cc, zz) Q) (k2 : y ≤ x → WP xs M r (pc + 3) ls st (S, I, T, cc, zz) Q) : WP xs M r pc ls (vi y :: vi x :: st) (S, I, T, cc, zz) Q :=
  w_ifc tg h ht (fun hb => k1 (of_decide_eq_true hb)) (fun hb => k2 (Int.not_lt.mp (of_decide_eq_false hb)))
theorem w_cge {off : Int} {tl : Nat × Nat × Nat × Nat × Nat} {x y : Int} (tg : Nat) (h : look M pc = some (.if_icmp .ge off, tl)) (ht : (pc : Int) + off = tg) (k1 : y ≤ x → WP xs M r tg ls st (S, I, T, cc, zz) Q) (k2 : x < y → WP xs M r (pc + 3) ls st (S, I, T, cc, zz) Q) : WP xs M r pc ls (vi y :: vi x :: st) (S, I, T, cc, zz) Q :=
  w_ifc tg h ht (fun hb => k1 (of_decide_eq_true hb)) (fun hb => k2 (Int.not_le.mp (of_decide_eq_false hb)))
theorem w_cgt {off : Int} {tl : Nat × Nat × Nat × Nat × Nat} {x y : Int} (tg : Nat) (h : look M pc = some (.if_icmp .gt off, tl)) (ht : (pc : Int) + off = tg) (k1 : y < x → WP xs M r tg ls st (S, I, T, cc, zz) Q) (k2 : x ≤ y → WP xs M r (pc + 3) ls st (S, I, T, cc, zz) Q) : WP xs M r pc ls (vi y :: vi x :: st) (S, I, T, cc, zz) Q :=
  w_ifc tg h ht (fun hb => k1 (of_decide_eq_true hb)) (fun hb => k2 (Int.not_lt.mp (of_decide_eq_false hb)))
theorem w_cle {off : Int} {tl : Nat × Nat × Nat × Nat × Nat} {x y : Int} (tg : Nat) (h : look M pc = some (.if_icmp .le off, tl)) (ht : (pc : Int) + off = tg) (k1 : x ≤ y → WP xs M r tg ls st (S, I, T, cc, zz) Q) (k2 : y < x → WP xs M r (pc + 3) ls st (S, I, T, cc, zz) Q) : WP xs M r pc ls (vi y :: vi x :: st) (S, I, T, cc, zz) Q :=
  w_ifc tg h ht (fun hb => k1 (of_decide_eq_true hb)) (fun hb => k2 (Int.not_le.mp (of_decide_eq_false hb)))
/-- what a method does that answers v and leaves the numbers I' -/
def FN (v : Option AV) (m : Mem) : Res → Mem → Prop := fun q m1 => q = .inl v ∧ m1 = m
/-- what a method does whose answer and numbers are of P -/
def RP (S : List (Nat × Nat)) (T : Nat → Nat → Nat) (cc zz : Nat) (P : Option AV → Ix → Prop) : Res → Mem → Prop := fun q m1 => ∃ v I', q = .inl v ∧ m1 = (S, I', T, cc, zz) ∧ P v I'
theorem FN.up {v : Option AV} {m : Mem} {Q : Res → Mem → Prop} (h : Q (.inl v) m) : ∀ o m', FN v m o m' → Q o m' := fun o m' ⟨a, b⟩ => by rw [a, b]; exact h
theorem CL_FN {j : Nat} {as : List AV} {m m' : Mem} {v : Option AV} (h : CL xs j as m (FN v m')) {P : Res → Mem → Prop} (hp : P (.inl v) m') : CL xs j as m P := CL_mono h (FN.up hp)
theorem q_iv {idx k j b d o : Nat} {v : Option AV} {I' : Ix} {c' z' : Nat} (as rest : List AV) (h : look M pc = some (.invokevirtual idx, k, j, b, 0, d)) (hst : st = as.reverse ++ vr o :: rest) (h2 : as.length + 1 = b) (h3 : rest.length ≤ 4) (h4 : (lex (vr o :: as)).length ≤ mxl j) (hs : S[o]? = some (0, mtc j)) (hj : mtc j < 14) (hr : rkA j (vr o :: as) < r)
    (sp : CL xs j (vr o :: as) (S, I, T, cc, zz) (FN v (S, I', T, c', z'))) (kk : WP xs M r (pc + 3) ls (v.toList ++ rest) (S, I', T, c', z') Q) : WP xs M r pc ls st (S, I, T, cc, zz) Q :=
  w_iv as rest h rfl hst h2 h3 h4 hs hj hr (CL_FN sp kk)
theorem q_ivs {idx k j b d q : Nat} {v : Option AV} {I' : Ix} {c' z' : Nat} (as rest : List AV) (h : look M pc = some (.invokevirtual idx, k, j, b, 0, d)) (hst : st = as.reverse ++ vs (2 * q + 4) :: rest) (h2 : as.length + 1 = b) (h3 : rest.length ≤ 4) (h4 : (lex (vs (2 * q + 4) :: as)).length ≤ mxl j) (hq : q < 53) (hj : mtc j = 12) (hr : rkA j (vs (2 * q + 4) :: as) < r)
    (sp : CL xs j (vs (2 * q + 4) :: as) (S, I, T, cc, zz) (FN v (S, I', T, c', z'))) (kk : WP xs M r (pc + 3) ls (v.toList ++ rest) (S, I', T, c', z') Q) : WP xs M r pc ls st (S, I, T, cc, zz) Q :=
  w_ivs as rest h hst h2 h3 h4 hq hj hr (CL_FN sp kk)
theorem q_st {idx k j b d c0 : Nat} {v : Option AV} {I' : Ix} {c' z' : Nat} (as rest : List AV) (h : look M pc = some (.invokestatic idx, k, j, b, c0, d)) (hc : c0 = 1 ∨ c0 = 12) (hst : st = as.reverse ++ rest) (h2 : as.length = b) (h3 : rest.length ≤ 4) (h4 : (lex as).length ≤ mxl j) (hr : rkA j as < r)
    (sp : CL xs j as (S, I, T, cc, zz) (FN v (S, I', T, c', z'))) (kk : WP xs M r (pc + 3) ls (v.toList ++ rest) (S, I', T, c', z') Q) : WP xs M r pc ls st (S, I, T, cc, zz) Q :=
  w_st as rest h hc hst h2 h3 h4 hr (CL_FN sp kk)
theorem p_iv {idx k j b d o : Nat} {P : Option AV → Ix → Prop} {c' z' : Nat} (as rest : List AV) (h : look M pc = some (.invokevirtual idx, k, j, b, 0, d)) (hst : st = as.reverse ++ vr o :: rest) (h2 : as.length + 1 = b) (h3 : rest.length ≤ 4) (h4 : (lex (vr o :: as)).length ≤ mxl j) (hs : S[o]? = some (0, mtc j)) (hj : mtc j < 14) (hr : rkA j (vr o :: as) < r)
    (sp : CL xs j (vr o :: as) (S, I, T, cc, zz) (RP S T c' z' P)) (kk : ∀ v I', P v I' → WP xs M r (pc + 3) ls (v.toList ++ rest) (S, I', T, c', z') Q) : WP xs M r pc ls st (S, I, T, cc, zz) Q :=
  w_iv as rest h rfl hst h2 h3 h4 hs hj hr (CL_mono sp (fun o m' ⟨v, I', h1, h2, h3⟩ => by rw [h1, h2]; exact kk v I' h3))
theorem p_st {idx k j b d c0 : Nat} {P : Option AV → Ix → Prop} {c' z' : Nat} (as rest : List AV) (h : look M pc = some (.invokestatic idx, k, j, b, c0, d)) (hc : c0 = 1 ∨ c0 = 12) (hst : st = as.reverse ++ rest) (h2 : as.length = b) (h3 : rest.length ≤ 4) (h4 : (lex as).length ≤ mxl j) (hr : rkA j as < r)
    (sp : CL xs j as (S, I, T, cc, zz) (RP S T c' z' P)) (kk : ∀ v I', P v I' → WP xs M r (pc + 3) ls (v.toList ++ rest) (S, I', T, c', z') Q) : WP xs M r pc ls st (S, I, T, cc, zz) Q :=
  w_st as rest h hc hst h2 h3 h4 hr (CL_mono sp (fun o m' ⟨v, I', h1, h2, h3⟩ => by rw [h1, h2]; exact kk v I' h3))
end WQS
