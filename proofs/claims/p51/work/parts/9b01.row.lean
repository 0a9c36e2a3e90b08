/-! more rows: answers, copies, calls by what they leave -/
def cpo (f : Nat → Int) (sp b dp n : Nat) (I : Ix) : Ix := fun x y => if x = b ∧ dp ≤ y ∧ y < dp + n then f (sp + (y - dp)) else I x y
def clr (b o : Nat) (I : Ix) : Ix := fun x y => if x = b then I o y else I x y
/-- a method that answers, and of whose answer and memory P holds -/
def RX (P : Option AV → Mem → Prop) : Res → Mem → Prop := fun q m1 => ∃ v, q = .inl v ∧ P v m1
section RWB
variable {xs : List Int} {M r pc : Nat} {ls st : List AV} {S : List (Nat × Nat)} {I : Ix} {T : Nat → Nat → Nat} {cc zz : Nat} {Q : Res → Mem → Prop}
theorem w_rr {tl : Nat × Nat × Nat × Nat × Nat} {x : Nat} (h : look M pc = some (.areturn, tl)) (kk : Q (.inl (some (vr x))) (S, I, T, cc, zz)) : WP xs M r pc ls [vr x] (S, I, T, cc, zz) Q := WP_at h kk
theorem w_neg {k : Nat} {tl : Nat × Nat × Nat × Nat} {x : Int} (v : Int) (h : look M pc = some (.ineg, k, tl)) (hv : wr (-x) = v) (kk : WP xs M r (pc + k) ls (vi v :: st) (S, I, T, cc, zz) Q) : WP xs M r pc ls (vi x :: st) (S, I, T, cc, zz) Q :=
  WP_at h (by subst hv; exact kk)
theorem w_dx1 {k : Nat} {tl : Nat × Nat × Nat × Nat} {v w : AV} (h : look M pc = some (.dup_x1, k, tl)) (hv : (cls1 v && cls1 w) = true) (kk : WP xs M r (pc + k) ls (v :: w :: v :: st) (S, I, T, cc, zz) Q) : WP xs M r pc ls (v :: w :: st) (S, I, T, cc, zz) Q :=
  WP_at h (by
    show WPo xs M r pc ls _ Q (if (cls1 v && cls1 w) = true then _ else _)
    rw [if_pos hv]; exact kk)
theorem w_nul {k : Nat} {tl : Nat × Nat × Nat × Nat} (h : look M pc = some (.aconst_null, k, tl)) (kk : WP xs M r (pc + k) ls (vs 0 :: st) (S, I, T, cc, zz) Q) : WP xs M r pc ls st (S, I, T, cc, zz) Q := WP_at h kk
theorem w_ccr {idx k o n : Nat} {tl : Nat × Nat × Nat × Nat} (h : look M pc = some (.checkcast idx, k, tl)) (hs : S[o]? = some (3, n)) (kk : WP xs M r (pc + k) ls (vr o :: st) (S, I, T, cc, zz) Q) : WP xs M r pc ls (vr o :: st) (S, I, T, cc, zz) Q :=
  WP_at h (by
    show WPo xs M r pc ls _ Q (o_cc (pc + k) ls (vr o :: st) (S, I, T, cc, zz))
    have e1 : mT (S, I, T, cc, zz) o = some (3, n) := hs
    unfold o_cc
    simp only [e1]
    exact kk)
theorem w_cln {idx k a b d o n : Nat} (h : look M pc = some (.invokevirtual idx, k, a, b, 8, d)) (hs : S[o]? = some (3, n)) (h1 : 1 ≤ cc) (h2 : n ≤ zz) (h3 : st.length ≤ 4) (kk : WP xs M r (pc + k) ls (vr S.length :: st) (S ++ [(3, n)], clr S.length o I, zt S.length T, cc - 1, zz - n) Q) : WP xs M r pc ls (vr o :: st) (S, I, T, cc, zz) Q :=
  WP_at h (by
    show WPo xs M r pc ls _ Q (o_ivv a b 8 (pc + k) ls (vr o :: st) (S, I, T, cc, zz))
    have e1 : mT (S, I, T, cc, zz) o = some (3, n) := hs
    unfold o_ivv
    rw [if_pos rfl]
    unfold o_cl
    simp only [e1]
    rw [if_pos (show 1 ≤ mC (S, I, T, cc, zz) ∧ n ≤ mS (S, I, T, cc, zz) ∧ st.length ≤ 4 from ⟨h1, h2, h3⟩)]
    exact kk)
theorem w_mx {idx k a b d : Nat} {x y : Int} (v : Int) (h : look M pc = some (.invokestatic idx, k, a, b, 11, d)) (h1 : st.length ≤ 4) (hv : (if x < y then y else x) = v) (kk : WP xs M r (pc + k) ls (vi v :: st) (S, I, T, cc, zz) Q) : WP xs M r pc ls (vi y :: vi x :: st) (S, I, T, cc, zz) Q :=
  WP_at h (by
    show WPo xs M r pc ls _ Q (o_ivs a b 11 (pc + k) ls (vi y :: vi x :: st) (S, I, T, cc, zz))
    unfold o_ivs
    rw [if_neg (by omega), if_neg (by decide), if_pos rfl]
    show WPo xs M r pc ls _ Q (if st.length ≤ 4 then _ else _)
    rw [if_pos h1]
    subst hv
    exact kk)
theorem w_nnr {off : Int} {tl : Nat × Nat × Nat × Nat × Nat} {o : Nat} (tg : Nat) (h : look M pc = some (.ifnonnull off, tl)) (ht : (pc : Int) + off = tg) (kk : WP xs M r tg ls st (S, I, T, cc, zz) Q) : WP xs M r pc ls (vr o :: st) (S, I, T, cc, zz) Q :=
  WP_at h (by
    show WPo xs M r pc ls _ Q (jmp true pc off 3 ls st (S, I, T, cc, zz))
    unfold jmp
    rw [if_pos (by omega), if_pos rfl, ht]
    exact kk)
theorem w_nns {off : Int} {tl : Nat × Nat × Nat × Nat × Nat} {o : Nat} (tg : Nat) (h : look M pc = some (.ifnonnull off, tl)) (ht : (pc : Int) + off = tg) (kk : WP xs M r tg ls st (S, I, T, cc, zz) Q) : WP xs M r pc ls (vs (o + 4) :: st) (S, I, T, cc, zz) Q :=
  WP_at h (by
    show WPo xs M r pc ls _ Q (jmp true pc off 3 ls st (S, I, T, cc, zz))
    unfold jmp
    rw [if_pos (by omega), if_pos rfl, ht]
    exact kk)
theorem w_cpS {idx k a b d q o2 n2 : Nat} {sp dp n : Int} (sn dn nn : Nat) (h : look M pc = some (.invokestatic idx, k, a, b, 6, d)) (hq : q < 53) (hs2 : S[o2]? = some (3, n2)) (e1 : sp = sn) (e2 : dp = dn) (e3 : n = nn) (b1 : sn + nn ≤ (stb.getD q []).length) (b2 : dn + nn ≤ n2) (h1 : st.length ≤ 4)
    (kk : WP xs M r (pc + k) ls st (S, cpo (fun j => (stb.getD q []).getD j 0) sn o2 dn nn I, T, cc, zz) Q) : WP xs M r pc ls (vi n :: vi dp :: vr o2 :: vi sp :: vs (2 * q + 1 + 4) :: st) (S, I, T, cc, zz) Q :=
  WP_at h (by
    show WPo xs M r pc ls _ Q (o_ivs a b 6 (pc + k) ls (vi n :: vi dp :: vr o2 :: vi sp :: vs (2 * q + 1 + 4) :: st) (S, I, T, cc, zz))
    have e4 : mT (S, I, T, cc, zz) o2 = some (3, n2) := hs2
    have h9 : (2 * q + 1) / 2 = q := by omega
    unfold o_ivs
    rw [if_neg (by omega), if_neg (by decide), if_neg (by decide), if_pos rfl]
    unfold o_cp
    simp only [e4, h9]
    subst e1 e2 e3
    rw [if_pos ⟨by omega, hq, by omega, by omega, by omega, by omega, by omega, h1⟩]
    exact kk)
theorem w_gs2 {idx k a b d : Nat} (h : look M pc = some (.getstatic idx, k, a, b, 2, d)) (kk : WP xs M r (pc + k) ls (vs (2 * 53 + 1 + 4) :: st) (S, I, T, cc, zz) Q) : WP xs M r pc ls st (S, I, T, cc, zz) Q := WP_at h kk
theorem w_gs3 {idx k a b d : Nat} (h : look M pc = some (.getstatic idx, k, a, b, 3, d)) (kk : WP xs M r (pc + k) ls (vs (2 * 54 + 1 + 4) :: st) (S, I, T, cc, zz) Q) : WP xs M r pc ls st (S, I, T, cc, zz) Q := WP_at h kk
theorem x_iv {idx k j b c0 d o : Nat} {P : Option AV → Mem → Prop} (as rest : List AV) (h : look M pc = some (.invokevirtual idx, k, j, b, c0, d)) (hc : c0 = 0 ∨ c0 = 9) (hst : st = as.reverse ++ vr o :: rest) (h2 : as.length + 1 = b) (h3 : rest.length ≤ 8 ∧ rest.all cls1 = true) (h4 : (lex (vr o :: as)).length ≤ mxl j) (hs : S[o]? = some (0, mtc j)) (hj : mtc j < 14) (hr : rkA j (vr o :: as) < r)
    (sp : CL xs j (vr o :: as) (S, I, T, cc, zz) (RX P)) (kk : ∀ v m1, P v m1 → WP xs M r (pc + 3) ls (v.toList ++ rest) m1 Q) : WP xs M r pc ls st (S, I, T, cc, zz) Q :=
  WP_at h (by
    have hst' : st = (vr o :: as).reverse ++ rest := by rw [hst]; simp
    have htk : (st.take b).reverse = vr o :: as := by
      rw [hst', List.take_append_of_le_length (by simp; omega), List.take_of_length_le (by simp; omega), List.reverse_reverse]
    show WPo xs M r pc ls _ Q (o_ivv j b c0 (pc + k) ls st (S, I, T, cc, zz))
    unfold o_ivv
    rw [if_neg (by omega), if_pos ⟨hc, by unfold recvOk; rw [htk]; simp only [Bool.and_eq_true, decide_eq_true_eq]; exact ⟨hs, hj⟩⟩, iv_ok (vr o :: as) rest hst' (by simpa using h2) (Or.inr h3) h4]
    exact ⟨hr, CL_mono sp (fun o m' ⟨v, h1, h2⟩ => by rw [h1]; exact kk v m' h2)⟩)
theorem x_ivs {idx k j b d q : Nat} {P : Option AV → Mem → Prop} (as rest : List AV) (h : look M pc = some (.invokevirtual idx, k, j, b, 0, d)) (hst : st = as.reverse ++ vs (2 * q + 4) :: rest) (h2 : as.length + 1 = b) (h3 : rest.length ≤ 4) (h4 : (lex (vs (2 * q + 4) :: as)).length ≤ mxl j) (hq : q < 53) (hj : mtc j = 12) (hr : rkA j (vs (2 * q + 4) :: as) < r)
    (sp : CL xs j (vs (2 * q + 4) :: as) (S, I, T, cc, zz) (RX P)) (kk : ∀ v m1, P v m1 → WP xs M r (pc + 3) ls (v.toList ++ rest) m1 Q) : WP xs M r pc ls st (S, I, T, cc, zz) Q :=
  w_ivs as rest h hst h2 h3 h4 hq hj hr (CL_mono sp (fun o m' ⟨v, h1, h2⟩ => by rw [h1]; exact kk v m' h2))
theorem x_st {idx k j b d c0 : Nat} {P : Option AV → Mem → Prop} (as rest : List AV) (h : look M pc = some (.invokestatic idx, k, j, b, c0, d)) (hc : c0 = 1 ∨ c0 = 12) (hst : st = as.reverse ++ rest) (h2 : as.length = b) (h3 : rest.length ≤ 4) (h4 : (lex as).length ≤ mxl j) (hr : rkA j as < r)
    (sp : CL xs j as (S, I, T, cc, zz) (RX P)) (kk : ∀ v m1, P v m1 → WP xs M r (pc + 3) ls (v.toList ++ rest) m1 Q) : WP xs M r pc ls st (S, I, T, cc, zz) Q :=
  w_st as rest h hc hst h2 h3 h4 hr (CL_mono sp (fun o m' ⟨v, h1, h2⟩ => by rw [h1]; exact kk v m' h2))
theorem x_cs {idx k j b d o c0 : Nat} {P : Option AV → Mem → Prop} (as rest : List AV) (h : look M pc = some (.invokespecial idx, k, j, b, c0, d)) (hc : c0 = 2 ∨ c0 = 3) (hst : st = as.reverse ++ vr o :: rest) (h2 : as.length + 1 = b) (h3 : rest.length ≤ 4) (h4 : (lex (vr o :: as)).length ≤ mxl j) (hr : rkA j (vr o :: as) < r)
    (sp : CL xs j (vr o :: as) (S, I, T, cc, zz) (RX P)) (kk : ∀ v m1, P v m1 → WP xs M r (pc + 3) ls (v.toList ++ rest) m1 Q) : WP xs M r pc ls st (S, I, T, cc, zz) Q :=
  w_cs as rest h hc hst h2 h3 h4 hr (CL_mono sp (fun o m' ⟨v, h1, h2⟩ => by rw [h1]; exact kk v m' h2))
theorem x_su {idx k j b d o : Nat} {P : Option AV → Mem → Prop} (as rest : List AV) (h : look M pc = some (.invokespecial idx, k, j, b, 10, d)) (hst : st = as.reverse ++ vr o :: rest) (h2 : as.length + 1 = b) (h3 : rest.length ≤ 4) (h4 : (lex (vr o :: as)).length ≤ mxl j) (hs : S[o]? = some (0, mtc j)) (hj : mtc j < 14) (hr : rkA j (vr o :: as) < r)
    (sp : CL xs j (vr o :: as) (S, I, T, cc, zz) (RX P)) (kk : ∀ v m1, P v m1 → WP xs M r (pc + 3) ls (v.toList ++ rest) m1 Q) : WP xs M r pc ls st (S, I, T, cc, zz) Q :=
  WP_at h (by
    have hst' : st = (vr o :: as).reverse ++ rest := by rw [hst]; simp
    have htk : (st.take b).reverse = vr o :: as := by
      rw [hst', List.take_append_of_le_length (by simp; omega), List.take_of_length_le (by simp; omega), List.reverse_reverse]
    show WPo xs M r pc ls _ Q (if _ then _ else _)
    rw [if_pos ⟨Or.inr (Or.inr ⟨rfl, by unfold recvOk; rw [htk]; simp only [Bool.and_eq_true, decide_eq_true_eq]; exact ⟨hs, hj⟩⟩), by unfold recvO; rw [htk]⟩, iv_ok (vr o :: as) rest hst' (by simpa using h2) (Or.inl h3) h4]
    exact ⟨hr, CL_mono sp (fun o m' ⟨v, h1, h2⟩ => by rw [h1]; exact kk v m' h2)⟩)
/-- a contract of the older kind -/
theorem RX.f {j : Nat} {as : List AV} {m m' : Mem} {v : Option AV} (h : CL xs j as m (FN v m')) : CL xs j as m (RX (fun w m1 => w = v ∧ m1 = m')) := CL_mono h fun q m1 ⟨h1, h2⟩ => ⟨v, h1, rfl, h2⟩
end RWB
