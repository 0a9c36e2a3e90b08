/-! rows of the instructions that make objects -/
def zr (b : Nat) (I : Ix) : Ix := fun x y => if x = b then 0 else I x y
def zt (b : Nat) (T : Nat → Nat → Nat) : Nat → Nat → Nat := fun x y => if x = b then 0 else T x y
def ut (T : Nat → Nat → Nat) (a j v : Nat) : Nat → Nat → Nat := fun x y => if x = a ∧ y = j then v else T x y
theorem zr_e {b y : Nat} {I : Ix} : zr b I b y = 0 := if_pos rfl
theorem zr_o {b x y : Nat} {I : Ix} (h : x ≠ b) : zr b I x y = I x y := if_neg h
theorem zt_e {b y : Nat} {T : Nat → Nat → Nat} : zt b T b y = 0 := if_pos rfl
theorem zt_o {b x y : Nat} {T : Nat → Nat → Nat} (h : x ≠ b) : zt b T x y = T x y := if_neg h
theorem ut_e {T : Nat → Nat → Nat} {a j v : Nat} : ut T a j v a j = v := if_pos ⟨rfl, rfl⟩
theorem ut_o {T : Nat → Nat → Nat} {a j v x y : Nat} (h : ¬ (x = a ∧ y = j)) : ut T a j v x y = T x y := if_neg h
theorem ap_l {S L : List (Nat × Nat)} {o : Nat} {x : Nat × Nat} (h : S[o]? = some x) : (S ++ L)[o]? = some x := by
  have h1 : o < S.length := by
    refine Classical.byContradiction fun q => ?_
    rw [List.getElem?_eq_none (by omega)] at h
    cases h
  rw [List.getElem?_append_left h1]
  exact h
theorem ap_r {S L : List (Nat × Nat)} {o j : Nat} (h : o = S.length + j) : (S ++ L)[o]? = L[j]? := by
  rw [h, List.getElem?_append_right (by omega), Nat.add_sub_cancel_left]
theorem ap_e {S : List (Nat × Nat)} {o : Nat} {x : Nat × Nat} (h : o = S.length) : (S ++ [x])[o]? = some x := by
  rw [ap_r (j := 0) (by omega)]
  rfl
section RWN
variable {xs : List Int} {M r pc : Nat} {ls st : List AV} {S : List (Nat × Nat)} {I : Ix} {T : Nat → Nat → Nat} {cc zz : Nat} {Q : Res → Mem → Prop}
theorem w_na {ty k a : Nat} {tl : Nat × Nat × Nat} {i : Jvm.ClassFile.Instr} {n : Nat} (h : look M pc = some (i, k, a, tl)) (hi : ∀ pc ls st m, am_ins xs (i, k, a, tl) pc ls st m = o_na ty 0 (pc + k) ls st m) (h1 : 1 ≤ cc) (h2 : n ≤ zz) (h3 : n ≤ 8000000) (kk : WP xs M r (pc + k) ls (vr S.length :: st) (S ++ [(ty, n)], zr S.length I, zt S.length T, cc - 1, zz - n) Q) : WP xs M r pc ls (vi ((n : Nat) : Int) :: st) (S, I, T, cc, zz) Q :=
  WP_at h (by
    rw [hi]
    show WPo xs M r pc ls _ Q (if _ then _ else _)
    rw [if_pos (show (0 : Int) ≤ (n : Int) ∧ 1 ≤ mC (S, I, T, cc, zz) ∧ ((n : Nat) : Int).toNat ≤ mS (S, I, T, cc, zz) ∧ ((n : Nat) : Int) ≤ 8000000 from ⟨by omega, h1, by show ((n : Nat) : Int).toNat ≤ zz; omega, by omega⟩)]
    exact kk)
theorem w_nw {idx k a b d : Nat} (h : look M pc = some (.new idx, k, a, b, 0, d)) (h1 : 1 ≤ cc) (h2 : b ≤ zz) (kk : WP xs M r (pc + k) ls (vr S.length :: st) (S ++ [(0, a)], zr S.length I, zt S.length T, cc - 1, zz - b) Q) : WP xs M r pc ls st (S, I, T, cc, zz) Q :=
  WP_at h (by
    show WPo xs M r pc ls _ Q (o_nw a b 0 (pc + k) ls st (S, I, T, cc, zz))
    unfold o_nw
    rw [if_pos rfl, if_pos (show 1 ≤ mC (S, I, T, cc, zz) ∧ b ≤ mS (S, I, T, cc, zz) from ⟨h1, h2⟩)]
    exact kk)
theorem w_oi {idx k a b d o : Nat} (h : look M pc = some (.invokespecial idx, k, a, b, 4, d)) (h3 : st.length ≤ 4) (kk : WP xs M r (pc + k) ls st (S, I, T, cc, zz) Q) : WP xs M r pc ls (vr o :: st) (S, I, T, cc, zz) Q :=
  WP_at h (by
    show WPo xs M r pc ls _ Q (o_ivp a b 4 (pc + k) ls (vr o :: st) (S, I, T, cc, zz))
    unfold o_ivp
    rw [if_neg (fun q => by rcases q.1 with e | e | ⟨e, _⟩ <;> cases e), if_pos rfl]
    show WPo xs M r pc ls _ Q (if _ then _ else _)
    rw [if_pos h3]
    exact kk)
theorem w_pR {idx k a b d o v : Nat} {c0 : Nat} (h : look M pc = some (.putfield idx, k, a, b, c0, d)) (hs : S[o]? = some (0, a)) (hc : c0 = 2 ∨ c0 = 12) (kk : WP xs M r (pc + k) ls st (S, I, ut T o b (v + 1), cc, zz) Q) : WP xs M r pc ls (vr v :: vr o :: st) (S, I, T, cc, zz) Q := w_pr h hs hc kk
theorem w_cs {idx k j b d o c0 : Nat} (as rest : List AV) (h : look M pc = some (.invokespecial idx, k, j, b, c0, d)) (hc : c0 = 2 ∨ c0 = 3) (hst : st = as.reverse ++ vr o :: rest) (h2 : as.length + 1 = b) (h3 : rest.length ≤ 4) (h4 : (lex (vr o :: as)).length ≤ mxl j) (hr : rkA j (vr o :: as) < r)
    (kk : CL xs j (vr o :: as) (S, I, T, cc, zz) (fun q m1 => match q with
      | .inl v => WP xs M r (pc + 3) ls (v.toList ++ rest) m1 Q
      | .inr x => WX xs M r pc ls x m1 Q)) : WP xs M r pc ls st (S, I, T, cc, zz) Q :=
  WP_at h (by
    have hst' : st = (vr o :: as).reverse ++ rest := by rw [hst]; simp
    have htk : (st.take b).reverse = vr o :: as := by
      rw [hst', List.take_append_of_le_length (by simp; omega), List.take_of_length_le (by simp; omega), List.reverse_reverse]
    show WPo xs M r pc ls _ Q (if _ then _ else _)
    rw [if_pos ⟨hc.elim Or.inl (fun e => Or.inr (Or.inl e)), by unfold recvO; rw [htk]⟩, iv_ok (vr o :: as) rest hst' (by simpa using h2) (Or.inl h3) h4]
    exact ⟨hr, kk⟩)
theorem w_aS {k o n v : Nat} {tl : Nat × Nat × Nat × Nat} {i : Int} (j : Nat) (h : look M pc = some (.aastore, k, tl)) (hs : S[o]? = some (5, n)) (hv : S[v]? = some (0, 7)) (hi : i = j) (hj : j < n) (kk : WP xs M r (pc + k) ls st (S, I, ut T o j (v + 1), cc, zz) Q) : WP xs M r pc ls (vr v :: vi i :: vr o :: st) (S, I, T, cc, zz) Q :=
  WP_at h (by
    show WPo xs M r pc ls _ Q (o_aS (pc + k) ls (vr v :: vi i :: vr o :: st) (S, I, T, cc, zz))
    have e1 : mT (S, I, T, cc, zz) o = some (5, n) := hs
    have e2 : mT (S, I, T, cc, zz) v = some (0, 7) := hv
    unfold o_aS
    simp only [e1]
    rw [if_pos ⟨inR_of j hi hj, e2⟩]
    subst hi
    exact kk)
end RWN
