/-! what the class's answers and the reference's have in common -/
theorem cntK_cg {f f' : Dr → Bool} {g : List Dr} : ∀ n, n ≤ g.length → (∀ d, d ∈ g → f d = f' d) → cntK f g n = cntK f' g n
  | 0, _, _ => rfl
  | n + 1, hn, H => by
    unfold cntK
    rw [cntK_cg n (by omega) H, H _ (mem_gd (by omega))]
theorem by_R {c : Int} {g : List Dr} : cntK (isByR c (-1)) g g.length = cntK (isBy c) g g.length := cntK_cg _ (Nat.le_refl _) fun d _ => by
  unfold isByR isBy
  rw [decide_eq_true (show (-1 : Int) = -1 from rfl), Bool.true_or, Bool.and_true]
theorem byD_R {c x : Int} {g : List Dr} (hx : 0 ≤ x) : cntK (isByR c x) g g.length = cntK (isByD c x) g g.length := cntK_cg _ (Nat.le_refl _) fun d _ => by
  unfold isByR isByD
  rw [decide_eq_false (show ¬ x = -1 by omega), Bool.false_or]
theorem lacks_notIn {m : Nat} {r : Ra} {G : List Dr} (U : uq m r) (hG : ∀ d, d ∈ G → -1 ≤ d.2.2.1) : cntK (notIn (fun k t => decide (cntK (isKT k t) r.2.1 r.2.1.length ≠ 0))) G G.length = cntK (lacks r.2) G G.length := cntK_cg _ (Nat.le_refl _) fun d hd => by
  have h1 := hG d hd
  have h4 := U.2.2.2.1 d.2.1 d.2.2.1 h1
  unfold notIn lacks hasF
  congr 1
  by_cases hf : r.2.2.1 d.2.1 (d.2.2.1 + 1).toNat = 3
  · rw [decide_eq_true hf]
    obtain ⟨d', d1, d2, d3⟩ := h4.mp hf
    refine decide_eq_true fun q => ?_
    have := cntK_0.mp q d' d1
    unfold isKT at this
    rw [d2, d3, decide_eq_true rfl, decide_eq_true rfl] at this
    cases this
  · rw [decide_eq_false hf]
    refine decide_eq_false fun q => q ?_
    refine cntK_0.mpr fun d' d1 => ?_
    unfold isKT
    by_cases e1 : d'.2.1 = d.2.1
    · have h5 := (U.2.2.1 d' d1).2.1
      have e2 : ¬ ((d'.2.2.1 + 1).toNat = (d.2.2.1 + 1).toNat) := fun e2 => hf (h4.mpr ⟨d', d1, e1, by omega⟩)
      rw [decide_eq_false e2, Bool.and_false]
    · rw [decide_eq_false e1, Bool.false_and]
theorem foldl_n {f : Lo → Cp → Lo} (hf : ∀ g c, (f g c).1.length = g.1.length + 1) : ∀ (q : List Cp) (g : Lo), (q.foldl f g).1.length = g.1.length + q.length
  | [], g => rfl
  | c :: q, g => by
    rw [List.foldl_cons, foldl_n hf q, hf, List.length_cons]
    omega
theorem link_3 {h h' : Hi} {l : Li} {a' : Nat → Nat} {ne np np' p : Nat} (D : AddH h h' l a' ne np np') (ok : okHi h) (okl : okLi l) (hev : okEv h l ne np) (hk : hKind h' ne = 3) : (((runA h' l noOut (ne + 1)).2.1.length : Nat) : Int) - (((runA h l noOut ne).2.1.length : Nat) : Int) = (((stepA h' l ne (runA h' l noOut ne)).2 : Nat) : Int) := by
  rw [run_s (out := noOut) (e := ne) rfl, D.run ok okl hev (out := noOut) (Nat.le_refl ne)]
  have e3 : ∀ r, stepA h' l ne r = loseA ne (hPort h' ne) r := fun r => by unfold stepA; rw [hk]; rfl
  rw [e3]
  have := foldl_n (f := fun g c => addDr g ne c.1 (hPort h' ne) 10 (-1)) (fun g c => by unfold addDr; rw [List.length_append]; rfl) (sQ (runA h l noOut ne).1 (hPort h' ne)) (runA h l noOut ne).2
  unfold loseA
  simp only
  omega
theorem link_2 {h h' : Hi} {l : Li} {a' : Nat → Nat} {ne np np' p : Nat} (D : AddH h h' l a' ne np np') (ok : okHi h) (okl : okLi l) (hev : okEv h l ne np) (hk : hKind h' ne = 2) : (((runA h' l noOut (ne + 1)).2.1.length : Nat) : Int) - (((runA h l noOut ne).2.1.length : Nat) : Int) = (((stepA h' l ne (runA h' l noOut ne)).2 : Nat) : Int) := by
  rw [run_s (out := noOut) (e := ne) rfl, D.run ok okl hev (out := noOut) (Nat.le_refl ne)]
  have e3 : ∀ r, stepA h' l ne r = ((setUp r.1 (hPort h' ne) true, r.2), 0) := fun r => by unfold stepA; rw [hk]; rfl
  rw [e3]
  simp only
  omega
section QUE
variable {xs : List Int} {I : Ix} {s q y : Nat} {h : Hi} {l : Li} {a : Nat → Nat} {ne np c : Nat} {su : Su} {cd : Nat → Cd} {nm : Nat → List Nat} {L : List Nat} {bf : Nat → Int} {n : Nat} {eo ek : Int} {S : List (Nat × Nat)} {T : Nat → Nat → Nat} {cc zz jw jr j x : Nat} {AW A as : List AV} {V0 V1 k : Int} {B : Int → Prop}
/-- a question: both change nothing but what is their own -/
theorem PQ (W : CW S T I s q y h l a ne np su cd c nm L bf n eo ek) (hm : oModel S T (s + 163)) (h203 : S[s + 203]? = some (2, 1)) (R : RW I (s + 163) h l a ne np su cd nm L bf n eo ek)
    (h1 : CL xs jw AW (S, I, T, cc, zz) (WV S (s + 203) cc zz (fun V I1 T1 => V = V0 ∧ T1 = T ∧ CW S T I1 s q y h l a ne np su cd c nm L bf n eo ek ∧ ∀ b z, s + 163 ≤ b → I1 b z = I b z)))
    (h2 : ∀ J, RW J (s + 163) h l a ne np su cd nm L bf n eo ek → CL xs jr (vr (s + 163) :: A) (S, J, T, cc, zz) (RP S T cc zz (fun v J' => v = some (vi V1) ∧ J' (s + 163) 0 = 0 ∧ mfk J J' (s + 163)))) (hv : V1 = V0) (hB : B V0) :
    CL xs jw AW (S, I, T, cc, zz) (PP xs S s cc zz c jr A B) := by
  subst hv
  refine CL_mono h1 fun r m1 hr => ?_
  obtain ⟨V, I1, T1, rfl, rfl, rfl, rfl, W1, f⟩ := hr
  refine ⟨0, _, T1, cc, zz, rfl, rfl, by omega, by omega, ?_⟩
  have R1 : RW (up I1 (s + 203) 0 V) (s + 163) h l a ne np su cd nm L bf n eo ek := R.al fun b z b1 b2 => (up_no (by omega)).trans (f b z b1)
  refine CL_mono (h2 _ R1) fun r2 m2 hr2 => ?_
  obtain ⟨v, J', rfl, rfl, rfl, e0, g⟩ := hr2
  exact ⟨V, J', c, rfl, rfl, ⟨hm, h203, q, y, h, l, a, ne, np, su, cd, nm, L, bf, n, eo, ek, W1.al fun b z hb => (g b z (by omega) (by omega)).trans (up_no (by omega)), R1.k g⟩, by omega, e0, fun _ => (g _ _ (by omega) (by omega)).trans up_eq, hB⟩
/-- a refused question -/
theorem PQX (W : CW S T I s q y h l a ne np su cd c nm L bf n eo ek) (hm : oModel S T (s + 163)) (h203 : S[s + 203]? = some (2, 1)) (R : RW I (s + 163) h l a ne np su cd nm L bf n eo ek)
    (h1 : CL xs jw AW (S, I, T, cc, zz) (WXP S T cc zz k (fun I1 => I1 = I)))
    (h2 : ∀ cc zz, CL xs jr (vr (s + 163) :: A) (S, I, T, cc, zz) (RP S T cc zz (fun v J' => v = some (vi 0) ∧ J' (s + 163) 0 = k ∧ mfk I J' (s + 163)))) (hk : k ≠ 0) (hB : B 0) :
    CL xs jw AW (S, I, T, cc, zz) (PP xs S s cc zz c jr A B) := by
  refine CL_mono h1 fun r m1 hr => ?_
  obtain ⟨I1, rfl, rfl, rfl⟩ := hr
  refine ⟨k, _, T, cc - 1, zz - 6, rfl, rfl, by omega, by omega, ?_⟩
  refine CL_mono (h2 _ _) fun r2 m2 hr2 => ?_
  obtain ⟨v, J', rfl, rfl, rfl, e0, g⟩ := hr2
  exact ⟨0, J', c, rfl, rfl, ⟨hm, h203, q, y, h, l, a, ne, np, su, cd, nm, L, bf, n, eo, ek, W.al fun b z hb => g b z (by omega) (by omega), R.k g⟩, by omega, e0, fun e => absurd e hk, hB⟩
/-- the class's answer without a change -/
theorem v_fn (W : CW S T I s q y h l a ne np su cd c nm L bf n eo ek) (sp : CL xs j as (S, I, T, cc, zz) (FN (some (vi V0)) (S, I, T, cc, zz))) : CL xs j as (S, I, T, cc, zz) (VP S cc zz (fun V I1 T1 => V = V0 ∧ T1 = T ∧ CW S T I1 s q y h l a ne np su cd c nm L bf n eo ek ∧ ∀ b z, s + 163 ≤ b → I1 b z = I b z)) :=
  CL_mono sp fun r m1 ⟨e1, e2⟩ => ⟨V0, I, T, e1, e2, rfl, rfl, W, fun _ _ _ => rfl⟩
theorem v_rp {Q : Ix → Prop} (sp : CL xs j as (S, I, T, cc, zz) (RP S T cc zz (fun v I1 => v = some (vi V0) ∧ Q I1))) (kk : ∀ I1, Q I1 → CW S T I1 s q y h l a ne np su cd c nm L bf n eo ek ∧ ∀ b z, s + 163 ≤ b → I1 b z = I b z) : CL xs j as (S, I, T, cc, zz) (VP S cc zz (fun V I1 T1 => V = V0 ∧ T1 = T ∧ CW S T I1 s q y h l a ne np su cd c nm L bf n eo ek ∧ ∀ b z, s + 163 ≤ b → I1 b z = I b z)) :=
  CL_mono sp fun r m1 ⟨v, I1, e1, e2, e3, hq⟩ => ⟨V0, I1, T, by rw [e1, e3], e2, rfl, rfl, kk I1 hq⟩
theorem x_th (sp : CL xs j as (S, I, T, cc, zz) (TH x (S, I, T, cc - 1, zz - 6))) : CL xs j as (S, I, T, cc, zz) (XP S T cc zz x (fun I1 => I1 = I)) :=
  CL_mono sp fun r m1 ⟨e1, e2⟩ => ⟨I, e1, e2, rfl⟩
/-- a change of the state: what the class tells, for PG -/
theorem v_ch {h' : Hi} {l' : Li} {a' : Nat → Nat} {ne' np' c' : Nat} {su' : Su} {cd' : Nat → Cd} {nm' : Nat → List Nat} {L' : List Nat} {bf' : Nat → Int} {n' : Nat} {eo' ek' : Int} {q' y' : Nat} {Q : Ix → Prop} (hm : oModel S T (s + 163)) (sp : CL xs j as (S, I, T, cc, zz) (RP S T cc zz (fun v I1 => v = some (vi V0) ∧ Q I1))) (kk : ∀ I1, Q I1 → CW S T I1 s q' y' h' l' a' ne' np' su' cd' c' nm' L' bf' n' eo' ek' ∧ ∀ b z, s + 163 ≤ b → I1 b z = I b z) : CL xs j as (S, I, T, cc, zz) (VP S cc zz (fun V I1 T1 => V = V0 ∧ CW S T1 I1 s q' y' h' l' a' ne' np' su' cd' c' nm' L' bf' n' eo' ek' ∧ oModel S T1 (s + 163) ∧ ∀ b z, s + 163 ≤ b → I1 b z = I b z)) :=
  CL_mono sp fun r m1 ⟨v, I1, e1, e2, e3, hq⟩ => ⟨V0, I1, T, by rw [e1, e3], e2, rfl, (kk I1 hq).1, hm, (kk I1 hq).2⟩
/-- and what the reference tells -/
theorem r_ch {h' : Hi} {l' : Li} {a' : Nat → Nat} {ne' np' : Nat} {su' : Su} {cd' : Nat → Cd} {nm' : Nat → List Nat} {L' : List Nat} {bf' : Nat → Int} {n' : Nat} {eo' ek' : Int} {J : Ix} {Q : Ix → Prop} (sp : CL xs jr as (S, J, T, cc, zz) (RP S T cc zz (fun v J' => v = some (vi V1) ∧ J' (s + 163) 0 = 0 ∧ Q J'))) (hv : V1 = V0) (kk : ∀ J', Q J' → RW J' (s + 163) h' l' a' ne' np' su' cd' nm' L' bf' n' eo' ek' ∧ ∀ b z, (b < s + 163 ∨ b = s + 203) → J' b z = J b z) : CL xs jr as (S, J, T, cc, zz) (RP S T cc zz (fun v J' => v = some (vi V0) ∧ J' (s + 163) 0 = 0 ∧ RW J' (s + 163) h' l' a' ne' np' su' cd' nm' L' bf' n' eo' ek' ∧ ∀ b z, (b < s + 163 ∨ b = s + 203) → J' b z = J b z)) :=
  CL_mono sp fun r m1 ⟨v, I1, e1, e2, e3, e4, hq⟩ => ⟨v, I1, e1, e2, by rw [e3, hv], e4, (kk I1 hq).1, (kk I1 hq).2⟩
theorem nn {p : Int} (h : 0 ≤ p) : ∃ k : Nat, p = ((k : Nat) : Int) := ⟨p.toNat, (Int.toNat_of_nonneg h).symm⟩
end QUE
