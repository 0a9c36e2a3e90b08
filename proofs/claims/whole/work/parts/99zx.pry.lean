/-! pairs of calls without a cover -/
section PYS
variable {xs : List Int} {I : Ix} {s q y : Nat} {h : Hi} {l : Li} {a : Nat → Nat} {ne np c : Nat} {su : Su} {cd : Nat → Cd} {nm : Nat → List Nat} {L : List Nat} {bf : Nat → Int} {n : Nat} {eo ek : Int} {S : List (Nat × Nat)} {T : Nat → Nat → Nat} {cc zz jw jr j : Nat} {AW A as : List AV} {V0 V1 : Int}
theorem PYQ (W : CW S T I s q y h l a ne np su cd c nm L bf n eo ek) (hm : oModel S T (s + 163)) (h203 : S[s + 203]? = some (2, 1)) (R : RW I (s + 163) h l a ne np su cd nm L bf n eo ek)
    (h1 : CL xs jw AW (S, I, T, cc, zz) (RP S T cc zz (fun v I1 => v = some (vi V0) ∧ CW S T I1 s q y h l a ne np su cd c nm L bf n eo ek ∧ ∀ b z, s + 163 ≤ b → I1 b z = I b z)))
    (h2 : ∀ J, RW J (s + 163) h l a ne np su cd nm L bf n eo ek → CL xs jr (vr (s + 163) :: A) (S, J, T, cc, zz) (RP S T cc zz (fun v J' => v = some (vi V1) ∧ J' (s + 163) 0 = 0 ∧ mfk J J' (s + 163)))) (hv : V1 = V0) :
    CL xs jw AW (S, I, T, cc, zz) (PY xs S T s cc zz c jr A) :=
  PBG h203 hm R h1 (fun J R => CL_mono (h2 J R) fun r m1 ⟨v, J1, e1, e2, e3, _, f⟩ => ⟨v, J1, e1, e2, by rw [e3, hv], R.k f, fun b z hb => f b z (by omega) (by omega)⟩) (Nat.le_succ c)
theorem b_fn (W : CW S T I s q y h l a ne np su cd c nm L bf n eo ek) (sp : CL xs j as (S, I, T, cc, zz) (FN (some (vi V0)) (S, I, T, cc, zz))) : CL xs j as (S, I, T, cc, zz) (RP S T cc zz (fun v I1 => v = some (vi V0) ∧ CW S T I1 s q y h l a ne np su cd c nm L bf n eo ek ∧ ∀ b z, s + 163 ≤ b → I1 b z = I b z)) :=
  CL_mono sp fun r m1 ⟨e1, e2⟩ => ⟨_, I, e1, e2, rfl, W, fun _ _ _ => rfl⟩
theorem b_rp {Q : Ix → Prop} {h' : Hi} {l' : Li} {a' : Nat → Nat} {ne' np' c' : Nat} {su' : Su} {cd' : Nat → Cd} {nm' : Nat → List Nat} {L' : List Nat} {bf' : Nat → Int} {n' : Nat} {eo' ek' : Int} {q' y' : Nat} (sp : CL xs j as (S, I, T, cc, zz) (RP S T cc zz (fun v I1 => v = some (vi V0) ∧ Q I1))) (kk : ∀ I1, Q I1 → CW S T I1 s q' y' h' l' a' ne' np' su' cd' c' nm' L' bf' n' eo' ek' ∧ ∀ b z, s + 163 ≤ b → I1 b z = I b z) : CL xs j as (S, I, T, cc, zz) (RP S T cc zz (fun v I1 => v = some (vi V0) ∧ CW S T I1 s q' y' h' l' a' ne' np' su' cd' c' nm' L' bf' n' eo' ek' ∧ ∀ b z, s + 163 ≤ b → I1 b z = I b z)) :=
  CL_mono sp fun r m1 ⟨v, I1, e1, e2, e3, hq⟩ => ⟨v, I1, e1, e2, e3, kk I1 hq⟩
/-- a reference's answer that throws nothing and changes nothing -/
theorem f_u0 {J : Ix} {m : Nat} (sp : CL xs j as (S, J, T, cc, zz) (FN (some (vi V0)) (S, up J m 0 0, T, cc, zz))) : CL xs j as (S, J, T, cc, zz) (RP S T cc zz (fun v J' => v = some (vi V0) ∧ J' m 0 = 0 ∧ mfk J J' m)) :=
  CL_mono sp fun r m1 ⟨e1, e2⟩ => ⟨_, _, e1, e2, rfl, up_eq, mfk.u (Or.inl rfl)⟩
theorem r_yc {h' : Hi} {l' : Li} {a' : Nat → Nat} {ne' np' : Nat} {su' : Su} {cd' : Nat → Cd} {nm' : Nat → List Nat} {L' : List Nat} {bf' : Nat → Int} {n' : Nat} {eo' ek' : Int} {J : Ix} {Q : Ix → Prop} (sp : CL xs jr as (S, J, T, cc, zz) (RP S T cc zz (fun v J' => v = some (vi V1) ∧ J' (s + 163) 0 = 0 ∧ Q J'))) (hv : V1 = V0) (kk : ∀ J', Q J' → RW J' (s + 163) h' l' a' ne' np' su' cd' nm' L' bf' n' eo' ek' ∧ ∀ b z, (b < s + 163 ∨ b = s + 203) → J' b z = J b z) : CL xs jr as (S, J, T, cc, zz) (RP S T cc zz (fun v J' => v = some (vi V0) ∧ RW J' (s + 163) h' l' a' ne' np' su' cd' nm' L' bf' n' eo' ek' ∧ ∀ b z, (b < s + 163 ∨ b = s + 203) → J' b z = J b z)) :=
  CL_mono sp fun r m1 ⟨v, I1, e1, e2, e3, _, hq⟩ => ⟨v, I1, e1, e2, by rw [e3, hv], kk I1 hq⟩
end PYS
section PRY
variable {xs : List Int} {S : List (Nat × Nat)} {T : Nat → Nat → Nat} {I : Ix} {cc zz s c : Nat}

theorem py_99 (IV : INV S T I s c) (hc : c + 1 < 100000) {w0 w1 w2 w3 w4 : Int} : CL xs 99 [vr s, vi w0, vi w1, vi w2, vi w3, vi w4] (S, I, T, cc, zz) (PY xs S T s cc zz c 171 [vi w0, vi w1, vi w2, vi w3, vi w4]) := by
  obtain ⟨hm, h203, q, y, h, l, a, ne, np, su, cd, nm, L, bf, n, eo, ek, W, R⟩ := IV
  have o := W.o
  have X := W.X
  have K := X.K
  by_cases h6 : n + 20 ≤ 600
  · exact PBG h203 hm R (b_rp (s_99 o W.inp h6) (fun I1 hq => ⟨W.txt hq.1 hq.2, fun b z h1 => hq.2 b z (by omega) (by omega)⟩)) (fun J R => r_yc (s_171 hm R.inp h6) rfl (fun J1 hq => ⟨R.txt hq.1 (R.ob.A w0 w1 w2 w3 w4) hq.2, fun b z h1 => hq.2 b z (by omega) (by omega)⟩)) (Nat.le_succ c)
  · exact PYQ W hm h203 R (b_fn W (s_99n o W.inp h6)) (fun J R => f_u0 (s_171n hm R.inp h6)) rfl


theorem py_100 (IV : INV S T I s c) (hc : c + 1 < 100000) {k : Int} : CL xs 100 [vr s, vi k] (S, I, T, cc, zz) (PY xs S T s cc zz c 172 [vi k]) := by
  obtain ⟨hm, h203, q, y, h, l, a, ne, np, su, cd, nm, L, bf, n, eo, ek, W, R⟩ := IV
  have o := W.o
  have X := W.X
  have K := X.K
  by_cases hk : 0 ≤ k ∧ k ≤ ((n : Nat) : Int)
  · obtain ⟨k, rfl⟩ := nn hk.1
    exact PBG h203 hm R (b_rp (s_100 o W.inp (by omega)) (fun I1 hq => ⟨W.txt hq.1 hq.2, fun b z h1 => hq.2 b z (by omega) (by omega)⟩)) (fun J R => r_yc (s_172 hm R.inp (by omega)) rfl (fun J1 hq => ⟨R.txt hq.1 (R.ob.t (by omega)) hq.2, fun b z h1 => hq.2 b z (by omega) (by omega)⟩)) (Nat.le_succ c)
  · exact PYQ W hm h203 R (b_fn W (s_100n o W.inp hk)) (fun J R => f_u0 (s_172n hm R.inp hk)) rfl


theorem py_102 (IV : INV S T I s c) (hc : c + 1 < 100000) : CL xs 102 [vr s] (S, I, T, cc, zz) (PY xs S T s cc zz c 199 []) := by
  obtain ⟨hm, h203, q, y, h, l, a, ne, np, su, cd, nm, L, bf, n, eo, ek, W, R⟩ := IV
  have o := W.o
  have X := W.X
  have K := X.K
  have e : I s 2 = eo := W.er.1
  refine PYQ (V1 := eo) (V0 := eo) W hm h203 R (b_fn W ?_) (fun J R => f_u0 ?_) rfl
  · rw [← W.er.1]; exact s_102 o
  · rw [← R.er.1]; exact s_199 hm


theorem py_103 (IV : INV S T I s c) (hc : c + 1 < 100000) : CL xs 103 [vr s] (S, I, T, cc, zz) (PY xs S T s cc zz c 200 []) := by
  obtain ⟨hm, h203, q, y, h, l, a, ne, np, su, cd, nm, L, bf, n, eo, ek, W, R⟩ := IV
  have o := W.o
  have X := W.X
  have K := X.K
  refine PYQ (V1 := ek) (V0 := ek) W hm h203 R (b_fn W ?_) (fun J R => f_u0 ?_) rfl
  · rw [← W.er.2]; exact s_103 o
  · rw [← R.er.2]; exact s_200 hm


theorem py_118 (IV : INV S T I s c) (hc : c + 1 < 100000) : CL xs 118 [vr s] (S, I, T, cc, zz) (PY xs S T s cc zz c 249 []) := by
  obtain ⟨hm, h203, q, y, h, l, a, ne, np, su, cd, nm, L, bf, n, eo, ek, W, R⟩ := IV
  have o := W.o
  have X := W.X
  have K := X.K
  exact PYQ W hm h203 R (b_fn W (s_118 o K)) (fun J R => s_249 hm R.P) rfl


theorem py_126 (IV : INV S T I s c) (hc : c + 1 < 100000) : CL xs 126 [vr s] (S, I, T, cc, zz) (PY xs S T s cc zz c 260 []) := by
  obtain ⟨hm, h203, q, y, h, l, a, ne, np, su, cd, nm, L, bf, n, eo, ek, W, R⟩ := IV
  have o := W.o
  have X := W.X
  have K := X.K
  exact PYQ W hm h203 R (b_fn W (s_126 o K)) (fun J R => s_260 hm R.P) rfl


theorem py_133 (IV : INV S T I s c) (hc : c + 1 < 100000) : CL xs 133 [vr s] (S, I, T, cc, zz) (PY xs S T s cc zz c 271 []) := by
  obtain ⟨hm, h203, q, y, h, l, a, ne, np, su, cd, nm, L, bf, n, eo, ek, W, R⟩ := IV
  have o := W.o
  have X := W.X
  have K := X.K
  exact PBG h203 hm R (b_rp (s_133 o K X.Z.2.2.1) (fun I1 hq => ⟨W.sp hq.1 ⟨fun p v e => (by cases e), fun v e => (by cases e), fun v e => (by cases e), fun v e => (by cases e)⟩ hq.2.1 hq.2.2, fun b z h1 => hq.2.2 b z (by omega) (by omega)⟩)) (fun J R => r_yc (s_271 hm R.P R.sup) rfl (fun J1 hq => ⟨R.o hq.1 hq.2, fun b z h1 => hq.2 b z (by omega) (by omega)⟩)) (Nat.le_succ c)


theorem py_134 (IV : INV S T I s c) (hc : c + 1 < 100000) : CL xs 134 [vr s] (S, I, T, cc, zz) (PY xs S T s cc zz c 273 []) := by
  obtain ⟨hm, h203, q, y, h, l, a, ne, np, su, cd, nm, L, bf, n, eo, ek, W, R⟩ := IV
  have o := W.o
  have X := W.X
  have K := X.K
  exact PYQ W hm h203 R (b_rp (s_134 o K X.Z) (fun I1 hq => ⟨W.g hq.1 hq.2.1 hq.2.2, fun b z h1 => hq.2.2 b z (by omega) (by omega)⟩)) (fun J R => s_273 hm R.P R.sup X.Z.2.2.2.1) rfl


theorem py_138 (IV : INV S T I s c) (hc : c + 1 < 100000) : CL xs 138 [vr s] (S, I, T, cc, zz) (PY xs S T s cc zz c 280 []) := by
  obtain ⟨hm, h203, q, y, h, l, a, ne, np, su, cd, nm, L, bf, n, eo, ek, W, R⟩ := IV
  have o := W.o
  have X := W.X
  have K := X.K
  have hpk : okPk h ne := K.2.2.2.2.2.2.2.2.2
  have U1 := uq_run (l := l) hpk (out := noOut) ne (Nat.le_refl ne)
  have U2 := uq_run (l := supL l su) hpk (out := su.2.2.2) ne (Nat.le_refl ne)
  exact PYQ W hm h203 R (b_rp (s_138 o K X.Z) (fun I1 hq => ⟨W.g hq.1 hq.2.1 hq.2.2, fun b z h1 => hq.2.2 b z (by omega) (by omega)⟩)) (fun J R => s_280 hm R.P R.sup X.Z.2.2.2.1 hpk) (by rw [lacks_notIn U2 (fun d hd => (U1.2.2.1 d hd).2.1)])


theorem py_139 (IV : INV S T I s c) (hc : c + 1 < 100000) : CL xs 139 [vr s] (S, I, T, cc, zz) (PY xs S T s cc zz c 281 []) := by
  obtain ⟨hm, h203, q, y, h, l, a, ne, np, su, cd, nm, L, bf, n, eo, ek, W, R⟩ := IV
  have o := W.o
  have X := W.X
  have K := X.K
  have hpk : okPk h ne := K.2.2.2.2.2.2.2.2.2
  have U1 := uq_run (l := l) hpk (out := noOut) ne (Nat.le_refl ne)
  have U2 := uq_run (l := supL l su) hpk (out := su.2.2.2) ne (Nat.le_refl ne)
  exact PYQ W hm h203 R (b_rp (s_139 o K X.Z) (fun I1 hq => ⟨W.g hq.1 hq.2.1 hq.2.2, fun b z h1 => hq.2.2 b z (by omega) (by omega)⟩)) (fun J R => s_281 hm R.P R.sup X.Z.2.2.2.1 hpk) (by rw [lacks_notIn U1 (fun d hd => (U2.2.2.1 d hd).2.1)])


theorem py_146 (IV : INV S T I s c) (hc : c + 1 < 100000) {k : Int} : CL xs 146 [vr s, vi k] (S, I, T, cc, zz) (PY xs S T s cc zz c 296 [vi k]) := by
  obtain ⟨hm, h203, q, y, h, l, a, ne, np, su, cd, nm, L, bf, n, eo, ek, W, R⟩ := IV
  have o := W.o
  have X := W.X
  have K := X.K
  by_cases hk : 0 ≤ k ∧ k < ((L.length : Nat) : Int)
  · obtain ⟨k, rfl⟩ := nn hk.1
    exact PYQ W hm h203 R (b_fn W (s_146 o W.ln (by omega))) (fun J R => f_u0 (s_296 hm R.ln (by omega))) rfl
  · exact PYQ W hm h203 R (b_fn W (s_146n o W.ln hk)) (fun J R => f_u0 (s_296n hm R.ln hk)) rfl


end PRY
