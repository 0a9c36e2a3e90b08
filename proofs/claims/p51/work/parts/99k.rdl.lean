/-! the class's reader: lines of ports and limits -/
theorem SU.port {I J : Ix} {y tot : Nat} {P : Ps} {w : List Nat} {c sp : Nat} (Z : SU I y P [] tot) (h4 : lPorts P.1 < 4) (hw : okNm w) (hc : c ≤ 99) (hsp : sp ≤ 99) (e0 : ∀ z, J y z = I y z) (e7 : ∀ j, j = 7 ∨ j = 8 → ∀ z, J (y + j) z = I (y + j) z) (e1 : J (y + 1) 0 = ((lPorts P.1 + 1 : Nat) : Int)) (e1' : ∀ z, z ≠ 0 → J (y + 1) z = I (y + 1) z) (e : ∀ j, 2 ≤ j ∧ j ≤ 6 → ∀ z, z ≠ lPorts P.1 → J (y + j) z = I (y + j) z)
    (v2 : J (y + 2) (lPorts P.1) = (c : Int)) (v3 : J (y + 3) (lPorts P.1) = (sp : Int)) (v4 : J (y + 4) (lPorts P.1) = -1) (v6 : J (y + 6) (lPorts P.1) = ((nvR w : Nat) : Int)) : SU J y (psPort P w c sp) [] tot := by
  obtain ⟨z1, z2, z3, z4, z5, z6, z7, z8⟩ := Z
  obtain ⟨a1, a2, a3⟩ := z1
  obtain ⟨o1, o2, o3, o4, o5⟩ := z4
  have hP : lPorts (psPort P w c sp).1 = lPorts P.1 + 1 := rfl
  have hR : lRules (psPort P w c sp).1 = lRules P.1 := rfl
  have hq : ∀ p, p ≠ lPorts P.1 → lCap (psPort P w c sp).1 p = lCap P.1 p ∧ lSpeed (psPort P w c sp).1 p = lSpeed P.1 p ∧ lPol (psPort P w c sp).1 p = lPol P.1 p ∧ (psPort P w c sp).2.1 p = P.2.1 p := fun p hp => by
    unfold lCap lSpeed lPol psPort fu
    simp only [if_neg hp, and_self]
  have hn : lCap (psPort P w c sp).1 (lPorts P.1) = c ∧ lSpeed (psPort P w c sp).1 (lPorts P.1) = sp ∧ lPol (psPort P w c sp).1 (lPorts P.1) = none ∧ (psPort P w c sp).2.1 (lPorts P.1) = w := by
    unfold lCap lSpeed lPol psPort fu
    simp only [if_true, and_self]
  refine ⟨⟨?_, fun p hp => ?_, ?_⟩, ?_, fun p hp => ?_, ⟨⟨?_, o1.2.1, fun p hp => ?_, fun p r b hp => ?_, o1.2.2.2.2⟩, fun p hp => ?_, o3, o4, fun p hp => ?_⟩, fun r hr => ?_, ?_, ?_, fun j hj => absurd hj (Nat.not_lt_zero j), fun r hr => by rw [e7 7 (Or.inl rfl)]; exact z8.2 r hr⟩
  · rw [hP]; exact e1
  · rw [hP] at hp
    rw [show y + 1 + 1 = y + 2 from rfl, show y + 1 + 2 = y + 3 from rfl, show y + 1 + 3 = y + 4 from rfl, show y + 1 + 4 = y + 5 from rfl]
    by_cases hpn : p = lPorts P.1
    · rw [hpn, hn.1, hn.2.1, hn.2.2.1]
      exact ⟨v2, v3, v4⟩
    · obtain ⟨q1, q2, q3, _⟩ := hq p hpn
      rw [q1, q2, q3, e 2 (by decide) p hpn, e 3 (by decide) p hpn, e 4 (by decide) p hpn, e 5 (by decide) p hpn]
      exact a2 p (by omega)
  · rw [e1' 5 (by decide), e1' 6 (by decide), e1' 7 (by decide), e1' 8 (by decide), e1' 9 (by decide)]
    exact a3
  · rw [e0, hR]; exact z2
  · rw [hP] at hp
    by_cases hpn : p = lPorts P.1
    · rw [hpn, hn.2.2.2]; exact v6
    · rw [(hq p hpn).2.2.2, e 6 (by decide) p hpn]
      exact z3 p (by omega)
  · rw [hP]; omega
  · rw [hP] at hp
    by_cases hpn : p = lPorts P.1
    · rw [hpn, hn.1, hn.2.1]; omega
    · rw [(hq p hpn).1, (hq p hpn).2.1]; exact o1.2.2.1 p (by omega)
  · by_cases hpn : p = lPorts P.1
    · rw [hpn, hn.2.2.1] at hp; cases hp
    · rw [(hq p hpn).2.2.1] at hp; exact o1.2.2.2.1 p r b hp
  · rw [hP] at hp
    rw [(hq p (by omega)).2.2.1]
    exact o2 p (by omega)
  · rw [hP] at hp
    by_cases hpn : p = lPorts P.1
    · rw [hpn, hn.2.2.2]; exact hw
    · rw [(hq p hpn).2.2.2]; exact o5 p (by omega)
  · obtain ⟨g1, o', g2, g3, g4, g5⟩ := z5 r hr
    exact ⟨g1, o', (e7 7 (Or.inl rfl) _).trans g2, (e7 7 (Or.inl rfl) _).trans g3, g4, fun j hj => ⟨(e7 8 (Or.inr rfl) _).trans (g5 j hj).1, (g5 j hj).2⟩⟩
  · rw [e7 7 (Or.inl rfl)]; exact z6
  · rw [e0]; exact z7
theorem SU.pol {I J : Ix} {y tot i r b : Nat} {P : Ps} (Z : SU I y P [] tot) (hi : i < lPorts P.1) (hr : r ≤ 99) (hb : b ≤ 99) (e : ∀ j, j ≤ 8 → ∀ z, (j = 4 ∨ j = 5 → z ≠ i) → J (y + j) z = I (y + j) z) (v4 : J (y + 4) i = (r : Int)) (v5 : J (y + 5) i = (b : Int)) : SU J y (psPol P i r b) [] tot := by
  obtain ⟨z1, z2, z3, z4, z5, z6, z7, z8⟩ := Z
  obtain ⟨a1, a2, a3⟩ := z1
  obtain ⟨o1, o2, o3, o4, o5⟩ := z4
  have e0 : ∀ j, j ≤ 8 → j ≠ 4 ∧ j ≠ 5 → ∀ z, J (y + j) z = I (y + j) z := fun j h1 h2 z => e j h1 z (fun q => by omega)
  have hq : ∀ p, p ≠ i → lPol (psPol P i r b).1 p = lPol P.1 p := fun p hp => by
    unfold lPol psPol fu
    simp only [if_neg hp]
  have hn : lPol (psPol P i r b).1 i = some (r, b) := by
    unfold lPol psPol fu
    simp only [if_true]
  refine ⟨⟨(e0 1 (by decide) (by decide) 0).trans a1, fun p hp => ?_, ?_⟩, (e0 0 (by decide) (by decide) 2).trans z2, fun p hp => (e0 6 (by decide) (by decide) p).trans (z3 p hp), ⟨⟨o1.1, o1.2.1, o1.2.2.1, fun p r' b' hp => ?_, o1.2.2.2.2⟩, fun p hp => ?_, o3, o4, o5⟩, fun r' hr' => ?_, (e0 7 (by decide) (by decide) _).trans z6, (e0 0 (by decide) (by decide) 5).trans z7, fun j hj => absurd hj (Nat.not_lt_zero j), fun r hr => by rw [e0 7 (by decide) (by decide)]; exact z8.2 r hr⟩
  · have hp : p < lPorts P.1 := hp
    rw [show y + 1 + 1 = y + 2 from rfl, show y + 1 + 2 = y + 3 from rfl, show y + 1 + 3 = y + 4 from rfl, show y + 1 + 4 = y + 5 from rfl]
    obtain ⟨c1, c2, c3⟩ := a2 p hp
    refine ⟨(e0 2 (by decide) (by decide) p).trans c1, (e0 3 (by decide) (by decide) p).trans c2, ?_⟩
    by_cases hpi : p = i
    · rw [hpi, hn]
      exact ⟨v4, v5⟩
    · rw [hq p hpi, e 4 (by decide) p (fun _ => hpi), e 5 (by decide) p (fun _ => hpi)]
      exact c3
  · have e1 := e0 1 (by decide) (by decide)
    rw [e1, e1, e1, e1, e1]
    exact a3
  · by_cases hpi : p = i
    · rw [hpi, hn] at hp
      cases hp
      exact ⟨hr, hb⟩
    · rw [hq p hpi] at hp
      exact o1.2.2.2.1 p r' b' hp
  · have hp : lPorts P.1 ≤ p := hp
    rw [hq p (by omega)]
    exact o2 p hp
  · obtain ⟨g1, o', g2, g3, g4, g5⟩ := z5 r' hr'
    exact ⟨g1, o', (e0 7 (by decide) (by decide) _).trans g2, (e0 7 (by decide) (by decide) _).trans g3, g4, fun j hj => ⟨(e0 8 (by decide) (by decide) _).trans (g5 j hj).1, (g5 j hj).2⟩⟩
theorem SU.lim {I : Ix} {y tot v : Nat} {P : Ps} {f : Nat} {g : Ps → Nat → Ps} (Z : SU I y P [] tot) (hf : (f = 5 ∧ g = psBuf ∧ v ≤ 400) ∨ (f = 6 ∧ g = psWait ∧ v ≤ 99) ∨ (f = 7 ∧ g = psAge ∧ v ≤ 999)) : SU (up I (y + 1) f (v : Int)) y (g P v) [] tot := by
  obtain ⟨z1, z2, z3, z4, z5, z6, z7, z8⟩ := Z
  obtain ⟨a1, a2, a3, a4, a5, a6⟩ := z1
  obtain ⟨o1, o2, o3, o4, o5⟩ := z4
  have e1 : ∀ z, z ≠ f → up I (y + 1) f (v : Int) (y + 1) z = I (y + 1) z := fun z hz => up_nj hz
  have e : ∀ j, j ≠ 1 → ∀ z, up I (y + 1) f (v : Int) (y + j) z = I (y + j) z := fun j hj z => up_no (by omega)
  have u1 : ∀ j, 0 < j → ∀ z, up I (y + 1) f (v : Int) (y + 1 + j) z = I (y + 1 + j) z := fun j hj z => up_no (by omega)
  have a2 : ∀ p, p < lPorts P.1 → up I (y + 1) f (v : Int) (y + 1 + 1) p = ((lCap P.1 p : Nat) : Int) ∧ up I (y + 1) f (v : Int) (y + 1 + 2) p = ((lSpeed P.1 p : Nat) : Int) ∧ (match lPol P.1 p with
    | none => up I (y + 1) f (v : Int) (y + 1 + 3) p = -1
    | some (r, b) => up I (y + 1) f (v : Int) (y + 1 + 3) p = (r : Int) ∧ up I (y + 1) f (v : Int) (y + 1 + 4) p = (b : Int)) := fun p hp => by
    rw [u1 1 (by decide), u1 2 (by decide), u1 3 (by decide), u1 4 (by decide)]
    exact a2 p hp
  have hC : cC (up I (y + 1) f (v : Int)) y P.1 P.2.2 := fun r hr => by
    obtain ⟨g1, o', g2, g3, g4, g5⟩ := z5 r hr
    exact ⟨g1, o', (e 7 (by decide) _).trans g2, (e 7 (by decide) _).trans g3, g4, fun j hj => ⟨(e 8 (by decide) _).trans (g5 j hj).1, (g5 j hj).2⟩⟩
  rcases hf with ⟨rfl, rfl, hv⟩ | ⟨rfl, rfl, hv⟩ | ⟨rfl, rfl, hv⟩
  · exact ⟨⟨(e1 0 (by decide)).trans a1, a2, up_eq, (e1 6 (by decide)).trans a4, (e1 7 (by decide)).trans a5, by rw [e1 8 (by decide), e1 9 (by decide)]; exact a6⟩, (e 0 (by decide) 2).trans z2, fun p hp => (e 6 (by decide) p).trans (z3 p hp), ⟨⟨o1.1, o1.2.1, o1.2.2.1, o1.2.2.2.1, hv, o1.2.2.2.2.2⟩, o2, o3, o4, o5⟩, hC, (e 7 (by decide) _).trans z6, (e 0 (by decide) 5).trans z7, fun j hj => absurd hj (Nat.not_lt_zero j), fun r hr => by rw [e 7 (by decide)]; exact z8.2 r hr⟩
  · exact ⟨⟨(e1 0 (by decide)).trans a1, a2, (e1 5 (by decide)).trans a3, up_eq, (e1 7 (by decide)).trans a5, by rw [e1 8 (by decide), e1 9 (by decide)]; exact a6⟩, (e 0 (by decide) 2).trans z2, fun p hp => (e 6 (by decide) p).trans (z3 p hp), ⟨⟨o1.1, o1.2.1, o1.2.2.1, o1.2.2.2.1, o1.2.2.2.2.1, hv, o1.2.2.2.2.2.2⟩, o2, o3, o4, o5⟩, hC, (e 7 (by decide) _).trans z6, (e 0 (by decide) 5).trans z7, fun j hj => absurd hj (Nat.not_lt_zero j), fun r hr => by rw [e 7 (by decide)]; exact z8.2 r hr⟩
  · exact ⟨⟨(e1 0 (by decide)).trans a1, a2, (e1 5 (by decide)).trans a3, (e1 6 (by decide)).trans a4, up_eq, by rw [e1 8 (by decide), e1 9 (by decide)]; exact a6⟩, (e 0 (by decide) 2).trans z2, fun p hp => (e 6 (by decide) p).trans (z3 p hp), ⟨⟨o1.1, o1.2.1, o1.2.2.1, o1.2.2.2.1, o1.2.2.2.2.1, o1.2.2.2.2.2.1, hv⟩, o2, o3, o4, o5⟩, hC, (e 7 (by decide) _).trans z6, (e 0 (by decide) 5).trans z7, fun j hj => absurd hj (Nat.not_lt_zero j), fun r hr => by rw [e 7 (by decide)]; exact z8.2 r hr⟩
def limL (t : Nat → Int) (n : Nat) (P : Ps) (p : Nat) : PR (Ps × Nat) := if isWL t n (strB 14) p then setL t n P psBuf 1 400 p else if isWL t n (strB 15) p then setL t n P psAge 0 999 p else if isWL t n (strB 16) p then setL t n P psWait 1 99 p else .inl (1, p)
theorem numR_ok {t : Nat → Int} {n lo hi p : Nat} {a : Nat × Nat} (h : numR t n lo hi p = .inr a) : lo ≤ a.1 ∧ a.1 ≤ hi ∧ a.2 = nxt t n p ∧ tkk t n p = 2 := by
  unfold numR at h
  split at h
  · cases h
  · rename_i h1
    split at h
    · cases h
    · split at h
      · cases h
      · rename_i h3
        cases h
        exact ⟨by omega, by omega, rfl, Classical.not_not.mp h1⟩
section RDL
variable {xs : List Int} {S : List (Nat × Nat)} {T : Nat → Nat → Nat} {cc zz s x y : Nat} {I I' : Ix} {t : Nat → Int} {n : Nat}

theorem mx_67 : mxl 67 = 5 := by decide +kernel
theorem mt_67 : mtc 67 = 6 := by decide +kernel
theorem rk_67 (as : List AV) : rkA 67 as = 0 := rfl
theorem l_67_0 : look 67 0 = some (.aload_n 0, 1, 0, 0, 0, 0) := by decide +kernel
theorem l_67_1 : look 67 1 = some (.getfield 12, 3, 6, 0, 2, 438) := by decide +kernel
theorem l_67_4 : look 67 4 = some (.getfield 39, 3, 1, 0, 0, 376) := by decide +kernel
theorem l_67_7 : look 67 7 = some (.istore 4, 2, 0, 0, 0, 0) := by decide +kernel
theorem l_67_9 : look 67 9 = some (.iload 4, 2, 0, 0, 0, 0) := by decide +kernel
theorem l_67_11 : look 67 11 = some (.iconst 4, 1, 0, 0, 0, 0) := by decide +kernel
theorem l_67_12 : look 67 12 = some (.if_icmp .lt 4, 3, 0, 0, 0, 0) := by decide +kernel
theorem l_67_15 : look 67 15 = some (.return_, 1, 0, 0, 0, 0) := by decide +kernel
theorem l_67_16 : look 67 16 = some (.aload_n 0, 1, 0, 0, 0, 0) := by decide +kernel
theorem l_67_17 : look 67 17 = some (.getfield 18, 3, 6, 1, 2, 441) := by decide +kernel
theorem l_67_20 : look 67 20 = some (.iload 4, 2, 0, 0, 0, 0) := by decide +kernel
theorem l_67_22 : look 67 22 = some (.iload_n 1, 1, 0, 0, 0, 0) := by decide +kernel
theorem l_67_23 : look 67 23 = some (.iastore, 1, 0, 0, 0, 0) := by decide +kernel
theorem l_67_24 : look 67 24 = some (.aload_n 0, 1, 0, 0, 0, 0) := by decide +kernel
theorem l_67_25 : look 67 25 = some (.getfield 12, 3, 6, 0, 2, 438) := by decide +kernel
theorem l_67_28 : look 67 28 = some (.getfield 42, 3, 1, 1, 2, 381) := by decide +kernel
theorem l_67_31 : look 67 31 = some (.iload 4, 2, 0, 0, 0, 0) := by decide +kernel
theorem l_67_33 : look 67 33 = some (.iload_n 2, 1, 0, 0, 0, 0) := by decide +kernel
theorem l_67_34 : look 67 34 = some (.iastore, 1, 0, 0, 0, 0) := by decide +kernel
theorem l_67_35 : look 67 35 = some (.aload_n 0, 1, 0, 0, 0, 0) := by decide +kernel
theorem l_67_36 : look 67 36 = some (.getfield 12, 3, 6, 0, 2, 438) := by decide +kernel
theorem l_67_39 : look 67 39 = some (.getfield 45, 3, 1, 2, 2, 384) := by decide +kernel
theorem l_67_42 : look 67 42 = some (.iload 4, 2, 0, 0, 0, 0) := by decide +kernel
theorem l_67_44 : look 67 44 = some (.iload_n 3, 1, 0, 0, 0, 0) := by decide +kernel
theorem l_67_45 : look 67 45 = some (.iastore, 1, 0, 0, 0, 0) := by decide +kernel
theorem l_67_46 : look 67 46 = some (.aload_n 0, 1, 0, 0, 0, 0) := by decide +kernel
theorem l_67_47 : look 67 47 = some (.getfield 12, 3, 6, 0, 2, 438) := by decide +kernel
theorem l_67_50 : look 67 50 = some (.getfield 48, 3, 1, 3, 2, 387) := by decide +kernel
theorem l_67_53 : look 67 53 = some (.iload 4, 2, 0, 0, 0, 0) := by decide +kernel
theorem l_67_55 : look 67 55 = some (.iconst (-1), 1, 0, 0, 0, 0) := by decide +kernel
theorem l_67_56 : look 67 56 = some (.iastore, 1, 0, 0, 0, 0) := by decide +kernel
theorem l_67_57 : look 67 57 = some (.aload_n 0, 1, 0, 0, 0, 0) := by decide +kernel
theorem l_67_58 : look 67 58 = some (.getfield 12, 3, 6, 0, 2, 438) := by decide +kernel
theorem l_67_61 : look 67 61 = some (.getfield 51, 3, 1, 4, 2, 392) := by decide +kernel
theorem l_67_64 : look 67 64 = some (.iload 4, 2, 0, 0, 0, 0) := by decide +kernel
theorem l_67_66 : look 67 66 = some (.iconst 0, 1, 0, 0, 0, 0) := by decide +kernel
theorem l_67_67 : look 67 67 = some (.iastore, 1, 0, 0, 0, 0) := by decide +kernel
theorem l_67_68 : look 67 68 = some (.aload_n 0, 1, 0, 0, 0, 0) := by decide +kernel
theorem l_67_69 : look 67 69 = some (.getfield 12, 3, 6, 0, 2, 438) := by decide +kernel
theorem l_67_72 : look 67 72 = some (.dup, 1, 0, 0, 0, 0) := by decide +kernel
theorem l_67_73 : look 67 73 = some (.getfield 39, 3, 1, 0, 0, 376) := by decide +kernel
theorem l_67_76 : look 67 76 = some (.iconst 1, 1, 0, 0, 0, 0) := by decide +kernel
theorem l_67_77 : look 67 77 = some (.iadd, 1, 0, 0, 0, 0) := by decide +kernel
theorem l_67_78 : look 67 78 = some (.putfield 39, 3, 1, 0, 0, 376) := by decide +kernel
theorem l_67_81 : look 67 81 = some (.return_, 1, 0, 0, 0, 0) := by decide +kernel
theorem s_67 (os : oSetup S T y) {P : Ps} {tot : Nat} (Z : SU I y P [] tot) {w : List Nat} {c sp : Nat} (h4 : lPorts P.1 < 4) (hw : okNm w) (hc : c ≤ 99) (hsp : sp ≤ 99) : CL xs 67 [vr y, vi (((nvR w) : Nat) : Int), vi ((c : Nat) : Int), vi ((sp : Nat) : Int)] (S, I, T, cc, zz) (RP S T cc zz (fun v I' => v = none ∧ SU I' y (psPort P w c sp) [] tot ∧ ∀ z w, (z < y + 1 ∨ y + 6 < z) → I' z w = I z w)) := by
  refine CL_start (r := 0) (ls := [vr y, vi (((nvR w) : Nat) : Int), vi ((c : Nat) : Int), vi ((sp : Nat) : Int), vs 2]) (rk_67 _) rfl ?_
  refine w_aln l_67_0 rfl ?_
  refine w_gr l_67_1 (oSetup_sh os) (oSetup_r0 os) ?_
  refine w_gi (((lPorts P.1) : Nat) : Int) l_67_4 (oLimits_sh (oSetup_o0 os)) Z.1.1 ?_
  refine w_is l_67_7 ⟨Nat.le_of_ble_eq_true rfl, rfl⟩ ?_
  refine w_il l_67_9 rfl ?_
  refine w_ic l_67_11 (by decide) ?_
  refine w_clt 16 l_67_12 (by decide) (fun _ => ?_) (fun hx => absurd hx (by omega))
  refine w_aln l_67_16 rfl ?_
  refine w_gr l_67_17 (oSetup_sh os) (oSetup_r1 os) ?_
  refine w_il l_67_20 rfl ?_
  refine w_iln l_67_22 rfl ?_
  refine w_iS (lPorts P.1) l_67_23 (oSetup_s1 os) rfl (by omega) ?_
  refine w_aln l_67_24 rfl ?_
  refine w_gr l_67_25 (oSetup_sh os) (oSetup_r0 os) ?_
  refine w_gr l_67_28 (oLimits_sh (oSetup_o0 os)) (oLimits_r1 (oSetup_o0 os)) ?_
  refine w_il l_67_31 rfl ?_
  refine w_iln l_67_33 rfl ?_
  refine w_iS (lPorts P.1) l_67_34 (oLimits_s1 (oSetup_o0 os)) rfl (by omega) ?_
  refine w_aln l_67_35 rfl ?_
  refine w_gr l_67_36 (oSetup_sh os) (oSetup_r0 os) ?_
  refine w_gr l_67_39 (oLimits_sh (oSetup_o0 os)) (oLimits_r2 (oSetup_o0 os)) ?_
  refine w_il l_67_42 rfl ?_
  refine w_iln l_67_44 rfl ?_
  refine w_iS (lPorts P.1) l_67_45 (oLimits_s2 (oSetup_o0 os)) rfl (by omega) ?_
  refine w_aln l_67_46 rfl ?_
  refine w_gr l_67_47 (oSetup_sh os) (oSetup_r0 os) ?_
  refine w_gr l_67_50 (oLimits_sh (oSetup_o0 os)) (oLimits_r3 (oSetup_o0 os)) ?_
  refine w_il l_67_53 rfl ?_
  refine w_ic l_67_55 (by decide) ?_
  refine w_iS (lPorts P.1) l_67_56 (oLimits_s3 (oSetup_o0 os)) rfl (by omega) ?_
  refine w_aln l_67_57 rfl ?_
  refine w_gr l_67_58 (oSetup_sh os) (oSetup_r0 os) ?_
  refine w_gr l_67_61 (oLimits_sh (oSetup_o0 os)) (oLimits_r4 (oSetup_o0 os)) ?_
  refine w_il l_67_64 rfl ?_
  refine w_ic l_67_66 (by decide) ?_
  refine w_iS (lPorts P.1) l_67_67 (oLimits_s4 (oSetup_o0 os)) rfl (by omega) ?_
  refine w_aln l_67_68 rfl ?_
  refine w_gr l_67_69 (oSetup_sh os) (oSetup_r0 os) ?_
  refine w_dup l_67_72 rfl ?_
  refine w_gi (((lPorts P.1) : Nat) : Int) l_67_73 (oLimits_sh (oSetup_o0 os)) ((up_no (by omega)).trans ((up_no (by omega)).trans ((up_no (by omega)).trans ((up_no (by omega)).trans ((up_no (by omega)).trans (Z.1.1)))))) ?_
  refine w_ic l_67_76 (by decide) ?_
  refine w_add (((lPorts P.1 + 1) : Nat) : Int) l_67_77 (by unfold wr; omega) ?_
  refine w_pi l_67_78 (oLimits_sh (oSetup_o0 os)) ?_
  refine w_vr l_67_81 ?_
  refine ⟨_, _, rfl, rfl, rfl, Z.port h4 hw hc hsp (fun z => ?_) (fun j hj z => ?_) up_eq (fun z hz => ?_) (fun j hj z hz => ?_) ?_ ?_ ?_ ?_, fun z w h => ?_⟩
  all_goals (repeat (first | rw [up_eq] | rw [up_no (by omega)] | rw [up_nj (by omega)]))

theorem mx_40 : mxl 40 = 2 := by decide +kernel
theorem mt_40 : mtc 40 = 4 := by decide +kernel
theorem rk_40 (as : List AV) : rkA 40 as = 2 := rfl
theorem l_40_0 : look 40 0 = some (.aload_n 0, 1, 0, 0, 0, 0) := by decide +kernel
theorem l_40_1 : look 40 1 = some (.getfield 12, 3, 4, 0, 2, 461) := by decide +kernel
theorem l_40_4 : look 40 4 = some (.getfield 118, 3, 6, 0, 2, 440) := by decide +kernel
theorem l_40_7 : look 40 7 = some (.getfield 134, 3, 1, 0, 0, 379) := by decide +kernel
theorem l_40_10 : look 40 10 = some (.iconst 4, 1, 0, 0, 0, 0) := by decide +kernel
theorem l_40_11 : look 40 11 = some (.if_icmp .lt 9, 3, 0, 0, 0, 0) := by decide +kernel
theorem l_40_14 : look 40 14 = some (.aload_n 0, 1, 0, 0, 0, 0) := by decide +kernel
theorem l_40_15 : look 40 15 = some (.iconst 4, 1, 0, 0, 0, 0) := by decide +kernel
theorem l_40_16 : look 40 16 = some (.invokevirtual 94, 3, 33, 2, 0, 1066) := by decide +kernel
theorem l_40_19 : look 40 19 = some (.ireturn, 1, 0, 0, 1, 0) := by decide +kernel
theorem l_40_20 : look 40 20 = some (.aload_n 0, 1, 0, 0, 0, 0) := by decide +kernel
theorem l_40_21 : look 40 21 = some (.invokevirtual 44, 3, 32, 1, 0, 1051) := by decide +kernel
theorem l_40_24 : look 40 24 = some (.aload_n 0, 1, 0, 0, 0, 0) := by decide +kernel
theorem l_40_25 : look 40 25 = some (.iconst 1, 1, 0, 0, 0, 0) := by decide +kernel
theorem l_40_26 : look 40 26 = some (.invokevirtual 137, 3, 38, 2, 0, 1070) := by decide +kernel
theorem l_40_29 : look 40 29 = some (.ifCond .eq 13, 3, 0, 0, 0, 0) := by decide +kernel
theorem l_40_32 : look 40 32 = some (.aload_n 0, 1, 0, 0, 0, 0) := by decide +kernel
theorem l_40_33 : look 40 33 = some (.iconst 1, 1, 0, 0, 0, 0) := by decide +kernel
theorem l_40_34 : look 40 34 = some (.bipush 99, 2, 0, 0, 0, 0) := by decide +kernel
theorem l_40_36 : look 40 36 = some (.invokevirtual 114, 3, 37, 3, 0, 1078) := by decide +kernel
theorem l_40_39 : look 40 39 = some (.ifCond .ne 5, 3, 0, 0, 0, 0) := by decide +kernel
theorem l_40_42 : look 40 42 = some (.iconst 0, 1, 0, 0, 0, 0) := by decide +kernel
theorem l_40_43 : look 40 43 = some (.ireturn, 1, 0, 0, 1, 0) := by decide +kernel
theorem l_40_44 : look 40 44 = some (.aload_n 0, 1, 0, 0, 0, 0) := by decide +kernel
theorem l_40_45 : look 40 45 = some (.getfield 98, 3, 4, 10, 0, 474) := by decide +kernel
theorem l_40_48 : look 40 48 = some (.istore_n 1, 1, 0, 0, 0, 0) := by decide +kernel
theorem l_40_49 : look 40 49 = some (.aload_n 0, 1, 0, 0, 0, 0) := by decide +kernel
theorem l_40_50 : look 40 50 = some (.iconst 0, 1, 0, 0, 0, 0) := by decide +kernel
theorem l_40_51 : look 40 51 = some (.bipush 9, 2, 0, 0, 0, 0) := by decide +kernel
theorem l_40_53 : look 40 53 = some (.invokevirtual 114, 3, 37, 3, 0, 1078) := by decide +kernel
theorem l_40_56 : look 40 56 = some (.ifCond .ne 5, 3, 0, 0, 0, 0) := by decide +kernel
theorem l_40_59 : look 40 59 = some (.iconst 0, 1, 0, 0, 0, 0) := by decide +kernel
theorem l_40_60 : look 40 60 = some (.ireturn, 1, 0, 0, 1, 0) := by decide +kernel
theorem l_40_61 : look 40 61 = some (.aload_n 0, 1, 0, 0, 0, 0) := by decide +kernel
theorem l_40_62 : look 40 62 = some (.getfield 12, 3, 4, 0, 2, 461) := by decide +kernel
theorem l_40_65 : look 40 65 = some (.aload_n 0, 1, 0, 0, 0, 0) := by decide +kernel
theorem l_40_66 : look 40 66 = some (.getfield 103, 3, 4, 8, 0, 472) := by decide +kernel
theorem l_40_69 : look 40 69 = some (.iload_n 1, 1, 0, 0, 0, 0) := by decide +kernel
theorem l_40_70 : look 40 70 = some (.aload_n 0, 1, 0, 0, 0, 0) := by decide +kernel
theorem l_40_71 : look 40 71 = some (.getfield 98, 3, 4, 10, 0, 474) := by decide +kernel
theorem l_40_74 : look 40 74 = some (.invokevirtual 141, 3, 67, 4, 0, 1082) := by decide +kernel
theorem l_40_77 : look 40 77 = some (.iconst 1, 1, 0, 0, 0, 0) := by decide +kernel
theorem l_40_78 : look 40 78 = some (.ireturn, 1, 0, 0, 1, 0) := by decide +kernel
theorem s_40 (o : oReader S T s x y) {p : Nat} (H : RT I s x t n p) (hsy : s < y) (hxy : x < y) {P : Ps} {tot : Nat} (Z : SU I y P [] tot) : CL xs 40 [vr s] (S, I, T, cc, zz) (RP S T cc zz (fun v I' => fR I I' s y ∧ RO I s v I' (portL t n P p) (fun a => rTk I' s t n a.2 ∧ SU I' y a.1 [] tot))) := by
  by_cases h4 : 4 ≤ lPorts P.1
  · skip
    refine CL_start (r := 2) (ls := [vr s, vs 2]) (rk_40 _) rfl ?_
    refine w_aln l_40_0 rfl ?_
    refine w_gr l_40_1 (oReader_sh o) (oReader_r0 o) ?_
    refine w_gr l_40_4 (oSetup_sh (oReader_o0 o)) (oSetup_r0 (oReader_o0 o)) ?_
    refine w_gi (((lPorts P.1) : Nat) : Int) l_40_7 (oLimits_sh (oSetup_o0 (oReader_o0 o))) Z.1.1 ?_
    refine w_ic l_40_10 (by decide) ?_
    refine w_clt 20 l_40_11 (by decide) (fun hx => absurd hx (by omega)) (fun _ => ?_)
    refine w_aln l_40_14 rfl ?_
    refine w_ic l_40_15 (by decide) ?_
    refine q_iv [vi 4] [] l_40_16 rfl rfl (Nat.le_of_ble_eq_true rfl) (by rw [mx_33]; exact Nat.le_of_ble_eq_true rfl) (by rw [mt_33]; exact oReader_sh o) (by rw [mt_33]; decide) (by rw [rk_33]; decide) (s_33 (k := 4) o H.2.2.1) ?_
    refine w_ir l_40_19 (by decide) ?_
    have hr : portL t n P p = .inl (4, p) := by
      unfold portL
      rw [if_pos h4]
    exact ⟨_, _, rfl, rfl, (((fS.rf I s).up (by decide)).up (by decide)).R y, by rw [hr]; exact ⟨rfl, (up_nj (by decide)).trans up_eq, up_eq⟩⟩
  cases hq1 : newR t n P (nxt t n p) with
  | inl e9 =>
    have hr : portL t n P p = .inl e9 := by
      simp only [portL_new h4, hq1]
    refine CL_start (r := 2) (ls := [vr s, vs 2]) (rk_40 _) rfl ?_
    refine w_aln l_40_0 rfl ?_
    refine w_gr l_40_1 (oReader_sh o) (oReader_r0 o) ?_
    refine w_gr l_40_4 (oSetup_sh (oReader_o0 o)) (oSetup_r0 (oReader_o0 o)) ?_
    refine w_gi (((lPorts P.1) : Nat) : Int) l_40_7 (oLimits_sh (oSetup_o0 (oReader_o0 o))) Z.1.1 ?_
    refine w_ic l_40_10 (by decide) ?_
    refine w_clt 20 l_40_11 (by decide) (fun _ => ?_) (fun hx => absurd hx (by omega))
    refine w_aln l_40_20 rfl ?_
    refine p_iv [] [] l_40_21 rfl rfl (Nat.le_of_ble_eq_true rfl) (by rw [mx_32]; exact Nat.le_of_ble_eq_true rfl) (by rw [mt_32]; exact oReader_sh o) (by rw [mt_32]; decide) (by rw [rk_32]; decide) (s_32 o H.1 (tEnd_le H.2.2.2.2) H.2.1) (fun v I1 hv => ?_)
    obtain ⟨rfl, hk1, f1⟩ := hv
    have F1 := (fR.rf I s y).tr ((f1.S).R y)
    have Z1 := Z.fS hsy (f1.S)
    have B1 : I1 s 1 = I s 1 ∧ I1 s 2 = I s 2 := ⟨(f1 s 1 (fun _ => by decide)).trans (⟨rfl, rfl⟩ : I s 1 = I s 1 ∧ I s 2 = I s 2).1, (f1 s 2 (fun _ => by decide)).trans (⟨rfl, rfl⟩ : I s 1 = I s 1 ∧ I s 2 = I s 2).2⟩
    have H1 : RT I1 s x t n (nxt t n p) := ⟨H.1.fS (oReader_ne o) (f1.S), hk1⟩
    refine w_aln l_40_24 rfl ?_
    refine w_ic l_40_25 (by decide) ?_
    refine p_iv [vi 1] [] l_40_26 rfl rfl (Nat.le_of_ble_eq_true rfl) (by rw [mx_38]; exact Nat.le_of_ble_eq_true rfl) (by rw [mt_38]; exact oReader_sh o) (by rw [mt_38]; decide) (by rw [rk_38]; decide) (by have g9 := s_38_1 (xs := xs) (cc := cc) (zz := zz) o H1 hsy Z1; rw [hq1] at g9; exact g9) (fun v I2 hv => ?_)
    obtain ⟨f2, rfl, e1, e2⟩ := hv
    have F2 := F1.tr ((f2).R y)
    have Z2 := Z1.fS hsy (f2)
    refine w_zeq 42 l_40_29 (by decide) (fun _ => ?_) (fun hx => absurd hx (by decide))
    refine w_ic l_40_42 (by decide) ?_
    refine w_ir l_40_43 (by decide) ?_
    exact ⟨_, _, rfl, rfl, F2, by rw [hr]; exact ⟨rfl, e1, e2⟩⟩
  | inr a1 =>
    obtain ⟨w, p2⟩ := a1
    cases hq2 : numR t n 1 99 p2 with
    | inl e9 =>
      have hr : portL t n P p = .inl e9 := by
        simp only [portL_new h4, hq1, hq2]
      refine CL_start (r := 2) (ls := [vr s, vs 2]) (rk_40 _) rfl ?_
      refine w_aln l_40_0 rfl ?_
      refine w_gr l_40_1 (oReader_sh o) (oReader_r0 o) ?_
      refine w_gr l_40_4 (oSetup_sh (oReader_o0 o)) (oSetup_r0 (oReader_o0 o)) ?_
      refine w_gi (((lPorts P.1) : Nat) : Int) l_40_7 (oLimits_sh (oSetup_o0 (oReader_o0 o))) Z.1.1 ?_
      refine w_ic l_40_10 (by decide) ?_
      refine w_clt 20 l_40_11 (by decide) (fun _ => ?_) (fun hx => absurd hx (by omega))
      refine w_aln l_40_20 rfl ?_
      refine p_iv [] [] l_40_21 rfl rfl (Nat.le_of_ble_eq_true rfl) (by rw [mx_32]; exact Nat.le_of_ble_eq_true rfl) (by rw [mt_32]; exact oReader_sh o) (by rw [mt_32]; decide) (by rw [rk_32]; decide) (s_32 o H.1 (tEnd_le H.2.2.2.2) H.2.1) (fun v I1 hv => ?_)
      obtain ⟨rfl, hk1, f1⟩ := hv
      have F1 := (fR.rf I s y).tr ((f1.S).R y)
      have Z1 := Z.fS hsy (f1.S)
      have B1 : I1 s 1 = I s 1 ∧ I1 s 2 = I s 2 := ⟨(f1 s 1 (fun _ => by decide)).trans (⟨rfl, rfl⟩ : I s 1 = I s 1 ∧ I s 2 = I s 2).1, (f1 s 2 (fun _ => by decide)).trans (⟨rfl, rfl⟩ : I s 1 = I s 1 ∧ I s 2 = I s 2).2⟩
      have H1 : RT I1 s x t n (nxt t n p) := ⟨H.1.fS (oReader_ne o) (f1.S), hk1⟩
      refine w_aln l_40_24 rfl ?_
      refine w_ic l_40_25 (by decide) ?_
      refine p_iv [vi 1] [] l_40_26 rfl rfl (Nat.le_of_ble_eq_true rfl) (by rw [mx_38]; exact Nat.le_of_ble_eq_true rfl) (by rw [mt_38]; exact oReader_sh o) (by rw [mt_38]; decide) (by rw [rk_38]; decide) (by have g9 := s_38_1 (xs := xs) (cc := cc) (zz := zz) o H1 hsy Z1; rw [hq1] at g9; exact g9) (fun v I2 hv => ?_)
      obtain ⟨f2, rfl, b2, hk2, h8, hok⟩ := hv
      have F2 := F1.tr ((f2).R y)
      have Z2 := Z1.fS hsy (f2)
      have B2 : I2 s 1 = I s 1 ∧ I2 s 2 = I s 2 := ⟨b2.1.trans B1.1, b2.2.trans B1.2⟩
      have H2 : RT I2 s x t n p2 := ⟨H1.1.fS (oReader_ne o) (f2), hk2⟩
      refine w_zeq 42 l_40_29 (by decide) (fun hx => absurd hx (by decide)) (fun _ => ?_)
      refine w_aln l_40_32 rfl ?_
      refine w_ic l_40_33 (by decide) ?_
      refine w_bp l_40_34 (by decide) ?_
      refine p_iv [vi 1, vi 99] [] l_40_36 rfl rfl (Nat.le_of_ble_eq_true rfl) (by rw [mx_37]; exact Nat.le_of_ble_eq_true rfl) (by rw [mt_37]; exact oReader_sh o) (by rw [mt_37]; decide) (by rw [rk_37]; decide) (by have g9 := s_37 (xs := xs) (cc := cc) (zz := zz) o H2 (lo := 1) (hi := 99); rw [hq2] at g9; exact g9) (fun v I3 hv => ?_)
      obtain ⟨f3, rfl, e1, e2⟩ := hv
      have F3 := F2.tr ((f3.S).R y)
      have Z3 := Z2.fS hsy (f3.S)
      refine w_zne 44 l_40_39 (by decide) (fun hx => absurd hx (by decide)) (fun _ => ?_)
      refine w_ic l_40_42 (by decide) ?_
      refine w_ir l_40_43 (by decide) ?_
      exact ⟨_, _, rfl, rfl, F3, by rw [hr]; exact ⟨rfl, e1, e2⟩⟩
    | inr a2 =>
      obtain ⟨c, p3⟩ := a2
      cases hq3 : numR t n 0 9 p3 with
      | inl e9 =>
        have hr : portL t n P p = .inl e9 := by
          simp only [portL_new h4, hq1, hq2, hq3]
        refine CL_start (r := 2) (ls := [vr s, vs 2]) (rk_40 _) rfl ?_
        refine w_aln l_40_0 rfl ?_
        refine w_gr l_40_1 (oReader_sh o) (oReader_r0 o) ?_
        refine w_gr l_40_4 (oSetup_sh (oReader_o0 o)) (oSetup_r0 (oReader_o0 o)) ?_
        refine w_gi (((lPorts P.1) : Nat) : Int) l_40_7 (oLimits_sh (oSetup_o0 (oReader_o0 o))) Z.1.1 ?_
        refine w_ic l_40_10 (by decide) ?_
        refine w_clt 20 l_40_11 (by decide) (fun _ => ?_) (fun hx => absurd hx (by omega))
        refine w_aln l_40_20 rfl ?_
        refine p_iv [] [] l_40_21 rfl rfl (Nat.le_of_ble_eq_true rfl) (by rw [mx_32]; exact Nat.le_of_ble_eq_true rfl) (by rw [mt_32]; exact oReader_sh o) (by rw [mt_32]; decide) (by rw [rk_32]; decide) (s_32 o H.1 (tEnd_le H.2.2.2.2) H.2.1) (fun v I1 hv => ?_)
        obtain ⟨rfl, hk1, f1⟩ := hv
        have F1 := (fR.rf I s y).tr ((f1.S).R y)
        have Z1 := Z.fS hsy (f1.S)
        have B1 : I1 s 1 = I s 1 ∧ I1 s 2 = I s 2 := ⟨(f1 s 1 (fun _ => by decide)).trans (⟨rfl, rfl⟩ : I s 1 = I s 1 ∧ I s 2 = I s 2).1, (f1 s 2 (fun _ => by decide)).trans (⟨rfl, rfl⟩ : I s 1 = I s 1 ∧ I s 2 = I s 2).2⟩
        have H1 : RT I1 s x t n (nxt t n p) := ⟨H.1.fS (oReader_ne o) (f1.S), hk1⟩
        refine w_aln l_40_24 rfl ?_
        refine w_ic l_40_25 (by decide) ?_
        refine p_iv [vi 1] [] l_40_26 rfl rfl (Nat.le_of_ble_eq_true rfl) (by rw [mx_38]; exact Nat.le_of_ble_eq_true rfl) (by rw [mt_38]; exact oReader_sh o) (by rw [mt_38]; decide) (by rw [rk_38]; decide) (by have g9 := s_38_1 (xs := xs) (cc := cc) (zz := zz) o H1 hsy Z1; rw [hq1] at g9; exact g9) (fun v I2 hv => ?_)
        obtain ⟨f2, rfl, b2, hk2, h8, hok⟩ := hv
        have F2 := F1.tr ((f2).R y)
        have Z2 := Z1.fS hsy (f2)
        have B2 : I2 s 1 = I s 1 ∧ I2 s 2 = I s 2 := ⟨b2.1.trans B1.1, b2.2.trans B1.2⟩
        have H2 : RT I2 s x t n p2 := ⟨H1.1.fS (oReader_ne o) (f2), hk2⟩
        refine w_zeq 42 l_40_29 (by decide) (fun hx => absurd hx (by decide)) (fun _ => ?_)
        refine w_aln l_40_32 rfl ?_
        refine w_ic l_40_33 (by decide) ?_
        refine w_bp l_40_34 (by decide) ?_
        refine p_iv [vi 1, vi 99] [] l_40_36 rfl rfl (Nat.le_of_ble_eq_true rfl) (by rw [mx_37]; exact Nat.le_of_ble_eq_true rfl) (by rw [mt_37]; exact oReader_sh o) (by rw [mt_37]; decide) (by rw [rk_37]; decide) (by have g9 := s_37 (xs := xs) (cc := cc) (zz := zz) o H2 (lo := 1) (hi := 99); rw [hq2] at g9; exact g9) (fun v I3 hv => ?_)
        obtain ⟨f3, rfl, b3, hk3, h10_3⟩ := hv
        have F3 := F2.tr ((f3.S).R y)
        have Z3 := Z2.fS hsy (f3.S)
        have B3 : I3 s 1 = I s 1 ∧ I3 s 2 = I s 2 := ⟨b3.1.trans B2.1, b3.2.trans B2.2⟩
        have H3 : RT I3 s x t n p3 := ⟨H2.1.fS (oReader_ne o) (f3.S), hk3⟩
        refine w_zne 44 l_40_39 (by decide) (fun _ => ?_) (fun hx => absurd hx (by decide))
        refine w_aln l_40_44 rfl ?_
        refine w_gi ((c : Nat) : Int) l_40_45 (oReader_sh o) h10_3 ?_
        refine w_isn l_40_48 ⟨Nat.le_of_ble_eq_true rfl, rfl⟩ ?_
        refine w_aln l_40_49 rfl ?_
        refine w_ic l_40_50 (by decide) ?_
        refine w_bp l_40_51 (by decide) ?_
        refine p_iv [vi 0, vi 9] [] l_40_53 rfl rfl (Nat.le_of_ble_eq_true rfl) (by rw [mx_37]; exact Nat.le_of_ble_eq_true rfl) (by rw [mt_37]; exact oReader_sh o) (by rw [mt_37]; decide) (by rw [rk_37]; decide) (by have g9 := s_37 (xs := xs) (cc := cc) (zz := zz) o H3 (lo := 0) (hi := 9); rw [hq3] at g9; exact g9) (fun v I4 hv => ?_)
        obtain ⟨f4, rfl, e1, e2⟩ := hv
        have F4 := F3.tr ((f4.S).R y)
        have Z4 := Z3.fS hsy (f4.S)
        refine w_zne 61 l_40_56 (by decide) (fun hx => absurd hx (by decide)) (fun _ => ?_)
        refine w_ic l_40_59 (by decide) ?_
        refine w_ir l_40_60 (by decide) ?_
        exact ⟨_, _, rfl, rfl, F4, by rw [hr]; exact ⟨rfl, e1, e2⟩⟩
      | inr a3 =>
        obtain ⟨sp, p4⟩ := a3
        have hr : portL t n P p = .inr (psPort P w c sp, p4) := by
          simp only [portL_new h4, hq1, hq2, hq3]
        refine CL_start (r := 2) (ls := [vr s, vs 2]) (rk_40 _) rfl ?_
        refine w_aln l_40_0 rfl ?_
        refine w_gr l_40_1 (oReader_sh o) (oReader_r0 o) ?_
        refine w_gr l_40_4 (oSetup_sh (oReader_o0 o)) (oSetup_r0 (oReader_o0 o)) ?_
        refine w_gi (((lPorts P.1) : Nat) : Int) l_40_7 (oLimits_sh (oSetup_o0 (oReader_o0 o))) Z.1.1 ?_
        refine w_ic l_40_10 (by decide) ?_
        refine w_clt 20 l_40_11 (by decide) (fun _ => ?_) (fun hx => absurd hx (by omega))
        refine w_aln l_40_20 rfl ?_
        refine p_iv [] [] l_40_21 rfl rfl (Nat.le_of_ble_eq_true rfl) (by rw [mx_32]; exact Nat.le_of_ble_eq_true rfl) (by rw [mt_32]; exact oReader_sh o) (by rw [mt_32]; decide) (by rw [rk_32]; decide) (s_32 o H.1 (tEnd_le H.2.2.2.2) H.2.1) (fun v I1 hv => ?_)
        obtain ⟨rfl, hk1, f1⟩ := hv
        have F1 := (fR.rf I s y).tr ((f1.S).R y)
        have Z1 := Z.fS hsy (f1.S)
        have B1 : I1 s 1 = I s 1 ∧ I1 s 2 = I s 2 := ⟨(f1 s 1 (fun _ => by decide)).trans (⟨rfl, rfl⟩ : I s 1 = I s 1 ∧ I s 2 = I s 2).1, (f1 s 2 (fun _ => by decide)).trans (⟨rfl, rfl⟩ : I s 1 = I s 1 ∧ I s 2 = I s 2).2⟩
        have H1 : RT I1 s x t n (nxt t n p) := ⟨H.1.fS (oReader_ne o) (f1.S), hk1⟩
        refine w_aln l_40_24 rfl ?_
        refine w_ic l_40_25 (by decide) ?_
        refine p_iv [vi 1] [] l_40_26 rfl rfl (Nat.le_of_ble_eq_true rfl) (by rw [mx_38]; exact Nat.le_of_ble_eq_true rfl) (by rw [mt_38]; exact oReader_sh o) (by rw [mt_38]; decide) (by rw [rk_38]; decide) (by have g9 := s_38_1 (xs := xs) (cc := cc) (zz := zz) o H1 hsy Z1; rw [hq1] at g9; exact g9) (fun v I2 hv => ?_)
        obtain ⟨f2, rfl, b2, hk2, h8, hok⟩ := hv
        have F2 := F1.tr ((f2).R y)
        have Z2 := Z1.fS hsy (f2)
        have B2 : I2 s 1 = I s 1 ∧ I2 s 2 = I s 2 := ⟨b2.1.trans B1.1, b2.2.trans B1.2⟩
        have H2 : RT I2 s x t n p2 := ⟨H1.1.fS (oReader_ne o) (f2), hk2⟩
        refine w_zeq 42 l_40_29 (by decide) (fun hx => absurd hx (by decide)) (fun _ => ?_)
        refine w_aln l_40_32 rfl ?_
        refine w_ic l_40_33 (by decide) ?_
        refine w_bp l_40_34 (by decide) ?_
        refine p_iv [vi 1, vi 99] [] l_40_36 rfl rfl (Nat.le_of_ble_eq_true rfl) (by rw [mx_37]; exact Nat.le_of_ble_eq_true rfl) (by rw [mt_37]; exact oReader_sh o) (by rw [mt_37]; decide) (by rw [rk_37]; decide) (by have g9 := s_37 (xs := xs) (cc := cc) (zz := zz) o H2 (lo := 1) (hi := 99); rw [hq2] at g9; exact g9) (fun v I3 hv => ?_)
        obtain ⟨f3, rfl, b3, hk3, h10_3⟩ := hv
        have F3 := F2.tr ((f3.S).R y)
        have Z3 := Z2.fS hsy (f3.S)
        have B3 : I3 s 1 = I s 1 ∧ I3 s 2 = I s 2 := ⟨b3.1.trans B2.1, b3.2.trans B2.2⟩
        have H3 : RT I3 s x t n p3 := ⟨H2.1.fS (oReader_ne o) (f3.S), hk3⟩
        refine w_zne 44 l_40_39 (by decide) (fun _ => ?_) (fun hx => absurd hx (by decide))
        refine w_aln l_40_44 rfl ?_
        refine w_gi ((c : Nat) : Int) l_40_45 (oReader_sh o) h10_3 ?_
        refine w_isn l_40_48 ⟨Nat.le_of_ble_eq_true rfl, rfl⟩ ?_
        refine w_aln l_40_49 rfl ?_
        refine w_ic l_40_50 (by decide) ?_
        refine w_bp l_40_51 (by decide) ?_
        refine p_iv [vi 0, vi 9] [] l_40_53 rfl rfl (Nat.le_of_ble_eq_true rfl) (by rw [mx_37]; exact Nat.le_of_ble_eq_true rfl) (by rw [mt_37]; exact oReader_sh o) (by rw [mt_37]; decide) (by rw [rk_37]; decide) (by have g9 := s_37 (xs := xs) (cc := cc) (zz := zz) o H3 (lo := 0) (hi := 9); rw [hq3] at g9; exact g9) (fun v I4 hv => ?_)
        obtain ⟨f4, rfl, b4, hk4, h10_4⟩ := hv
        have F4 := F3.tr ((f4.S).R y)
        have Z4 := Z3.fS hsy (f4.S)
        have B4 : I4 s 1 = I s 1 ∧ I4 s 2 = I s 2 := ⟨b4.1.trans B3.1, b4.2.trans B3.2⟩
        have H4 : RT I4 s x t n p4 := ⟨H3.1.fS (oReader_ne o) (f4.S), hk4⟩
        refine w_zne 61 l_40_56 (by decide) (fun _ => ?_) (fun hx => absurd hx (by decide))
        refine w_aln l_40_61 rfl ?_
        refine w_gr l_40_62 (oReader_sh o) (oReader_r0 o) ?_
        refine w_aln l_40_65 rfl ?_
        refine w_gi (((nvR w) : Nat) : Int) l_40_66 (oReader_sh o) ((f4 s 8 (fun _ => by decide)).trans ((f3 s 8 (fun _ => by decide)).trans h8)) ?_
        refine w_iln l_40_69 rfl ?_
        refine w_aln l_40_70 rfl ?_
        refine w_gi ((sp : Nat) : Int) l_40_71 (oReader_sh o) h10_4 ?_
        refine p_iv [vi (((nvR w) : Nat) : Int), vi ((c : Nat) : Int), vi ((sp : Nat) : Int)] [] l_40_74 rfl rfl (Nat.le_of_ble_eq_true rfl) (by rw [mx_67]; exact Nat.le_of_ble_eq_true rfl) (by rw [mt_67]; exact oSetup_sh (oReader_o0 o)) (by rw [mt_67]; decide) (by rw [rk_67]; decide) (s_67 (oReader_o0 o) Z4 (w := w) (c := c) (sp := sp) (by omega) hok (numR_ok hq2).2.1 (by have := (numR_ok hq3).2.1; have h9 : sp ≤ 9 := this; omega)) (fun v I9 hv => ?_)
        obtain ⟨rfl, ZZ, fz⟩ := hv
        refine w_ic l_40_77 (by decide) ?_
        refine w_ir l_40_78 (by decide) ?_
        exact ⟨_, _, rfl, rfl, F4.tr (fun z w h1 h2 => fz z w (by omega)), by rw [hr]; exact ⟨rfl, ⟨(fz s 1 (by omega)).trans B4.1, (fz s 2 (by omega)).trans B4.2⟩, ⟨(fz s 5 (by omega)).trans hk4.1, (fz s 6 (by omega)).trans hk4.2.1, (fz s 7 (by omega)).trans hk4.2.2.1, hk4.2.2.2⟩, ZZ⟩⟩

theorem mx_41 : mxl 41 = 2 := by decide +kernel
theorem mt_41 : mtc 41 = 4 := by decide +kernel
theorem rk_41 (as : List AV) : rkA 41 as = 2 := rfl
theorem l_41_0 : look 41 0 = some (.aload_n 0, 1, 0, 0, 0, 0) := by decide +kernel
theorem l_41_1 : look 41 1 = some (.invokevirtual 44, 3, 32, 1, 0, 1051) := by decide +kernel
theorem l_41_4 : look 41 4 = some (.aload_n 0, 1, 0, 0, 0, 0) := by decide +kernel
theorem l_41_5 : look 41 5 = some (.iconst 0, 1, 0, 0, 0, 0) := by decide +kernel
theorem l_41_6 : look 41 6 = some (.invokevirtual 137, 3, 38, 2, 0, 1070) := by decide +kernel
theorem l_41_9 : look 41 9 = some (.ifCond .eq 13, 3, 0, 0, 0, 0) := by decide +kernel
theorem l_41_12 : look 41 12 = some (.aload_n 0, 1, 0, 0, 0, 0) := by decide +kernel
theorem l_41_13 : look 41 13 = some (.iconst 0, 1, 0, 0, 0, 0) := by decide +kernel
theorem l_41_14 : look 41 14 = some (.bipush 99, 2, 0, 0, 0, 0) := by decide +kernel
theorem l_41_16 : look 41 16 = some (.invokevirtual 114, 3, 37, 3, 0, 1078) := by decide +kernel
theorem l_41_19 : look 41 19 = some (.ifCond .ne 5, 3, 0, 0, 0, 0) := by decide +kernel
theorem l_41_22 : look 41 22 = some (.iconst 0, 1, 0, 0, 0, 0) := by decide +kernel
theorem l_41_23 : look 41 23 = some (.ireturn, 1, 0, 0, 1, 0) := by decide +kernel
theorem l_41_24 : look 41 24 = some (.aload_n 0, 1, 0, 0, 0, 0) := by decide +kernel
theorem l_41_25 : look 41 25 = some (.getfield 98, 3, 4, 10, 0, 474) := by decide +kernel
theorem l_41_28 : look 41 28 = some (.istore_n 1, 1, 0, 0, 0, 0) := by decide +kernel
theorem l_41_29 : look 41 29 = some (.aload_n 0, 1, 0, 0, 0, 0) := by decide +kernel
theorem l_41_30 : look 41 30 = some (.iconst 0, 1, 0, 0, 0, 0) := by decide +kernel
theorem l_41_31 : look 41 31 = some (.bipush 99, 2, 0, 0, 0, 0) := by decide +kernel
theorem l_41_33 : look 41 33 = some (.invokevirtual 114, 3, 37, 3, 0, 1078) := by decide +kernel
theorem l_41_36 : look 41 36 = some (.ifCond .ne 5, 3, 0, 0, 0, 0) := by decide +kernel
theorem l_41_39 : look 41 39 = some (.iconst 0, 1, 0, 0, 0, 0) := by decide +kernel
theorem l_41_40 : look 41 40 = some (.ireturn, 1, 0, 0, 1, 0) := by decide +kernel
theorem l_41_41 : look 41 41 = some (.aload_n 0, 1, 0, 0, 0, 0) := by decide +kernel
theorem l_41_42 : look 41 42 = some (.getfield 12, 3, 4, 0, 2, 461) := by decide +kernel
theorem l_41_45 : look 41 45 = some (.getfield 118, 3, 6, 0, 2, 440) := by decide +kernel
theorem l_41_48 : look 41 48 = some (.getfield 145, 3, 1, 3, 2, 388) := by decide +kernel
theorem l_41_51 : look 41 51 = some (.aload_n 0, 1, 0, 0, 0, 0) := by decide +kernel
theorem l_41_52 : look 41 52 = some (.getfield 110, 3, 4, 9, 0, 473) := by decide +kernel
theorem l_41_55 : look 41 55 = some (.iload_n 1, 1, 0, 0, 0, 0) := by decide +kernel
theorem l_41_56 : look 41 56 = some (.iastore, 1, 0, 0, 0, 0) := by decide +kernel
theorem l_41_57 : look 41 57 = some (.aload_n 0, 1, 0, 0, 0, 0) := by decide +kernel
theorem l_41_58 : look 41 58 = some (.getfield 12, 3, 4, 0, 2, 461) := by decide +kernel
theorem l_41_61 : look 41 61 = some (.getfield 118, 3, 6, 0, 2, 440) := by decide +kernel
theorem l_41_64 : look 41 64 = some (.getfield 149, 3, 1, 4, 2, 393) := by decide +kernel
theorem l_41_67 : look 41 67 = some (.aload_n 0, 1, 0, 0, 0, 0) := by decide +kernel
theorem l_41_68 : look 41 68 = some (.getfield 110, 3, 4, 9, 0, 473) := by decide +kernel
theorem l_41_71 : look 41 71 = some (.aload_n 0, 1, 0, 0, 0, 0) := by decide +kernel
theorem l_41_72 : look 41 72 = some (.getfield 98, 3, 4, 10, 0, 474) := by decide +kernel
theorem l_41_75 : look 41 75 = some (.iastore, 1, 0, 0, 0, 0) := by decide +kernel
theorem l_41_76 : look 41 76 = some (.iconst 1, 1, 0, 0, 0, 0) := by decide +kernel
theorem l_41_77 : look 41 77 = some (.ireturn, 1, 0, 0, 1, 0) := by decide +kernel
theorem s_41 (o : oReader S T s x y) {p : Nat} (H : RT I s x t n p) (hsy : s < y) (hxy : x < y) {P : Ps} {tot : Nat} (Z : SU I y P [] tot) : CL xs 41 [vr s] (S, I, T, cc, zz) (RP S T cc zz (fun v I' => fR I I' s y ∧ RO I s v I' (polL t n P p) (fun a => rTk I' s t n a.2 ∧ SU I' y a.1 [] tot))) := by
  cases hq1 : portR t n P (nxt t n p) with
  | inl e9 =>
    have hr : polL t n P p = .inl e9 := by
      simp only [polL, hq1]
    refine CL_start (r := 2) (ls := [vr s, vs 2]) (rk_41 _) rfl ?_
    refine w_aln l_41_0 rfl ?_
    refine p_iv [] [] l_41_1 rfl rfl (Nat.le_of_ble_eq_true rfl) (by rw [mx_32]; exact Nat.le_of_ble_eq_true rfl) (by rw [mt_32]; exact oReader_sh o) (by rw [mt_32]; decide) (by rw [rk_32]; decide) (s_32 o H.1 (tEnd_le H.2.2.2.2) H.2.1) (fun v I1 hv => ?_)
    obtain ⟨rfl, hk1, f1⟩ := hv
    have F1 := (fR.rf I s y).tr ((f1.S).R y)
    have Z1 := Z.fS hsy (f1.S)
    have B1 : I1 s 1 = I s 1 ∧ I1 s 2 = I s 2 := ⟨(f1 s 1 (fun _ => by decide)).trans (⟨rfl, rfl⟩ : I s 1 = I s 1 ∧ I s 2 = I s 2).1, (f1 s 2 (fun _ => by decide)).trans (⟨rfl, rfl⟩ : I s 1 = I s 1 ∧ I s 2 = I s 2).2⟩
    have H1 : RT I1 s x t n (nxt t n p) := ⟨H.1.fS (oReader_ne o) (f1.S), hk1⟩
    refine w_aln l_41_4 rfl ?_
    refine w_ic l_41_5 (by decide) ?_
    refine p_iv [vi 0] [] l_41_6 rfl rfl (Nat.le_of_ble_eq_true rfl) (by rw [mx_38]; exact Nat.le_of_ble_eq_true rfl) (by rw [mt_38]; exact oReader_sh o) (by rw [mt_38]; decide) (by rw [rk_38]; decide) (by have g9 := s_38_0 (xs := xs) (cc := cc) (zz := zz) o H1 hsy Z1; rw [hq1] at g9; exact g9) (fun v I2 hv => ?_)
    obtain ⟨f2, rfl, e1, e2⟩ := hv
    have F2 := F1.tr ((f2).R y)
    have Z2 := Z1.fS hsy (f2)
    refine w_zeq 22 l_41_9 (by decide) (fun _ => ?_) (fun hx => absurd hx (by decide))
    refine w_ic l_41_22 (by decide) ?_
    refine w_ir l_41_23 (by decide) ?_
    exact ⟨_, _, rfl, rfl, F2, by rw [hr]; exact ⟨rfl, e1, e2⟩⟩
  | inr a1 =>
    obtain ⟨i, p2⟩ := a1
    cases hq2 : numR t n 0 99 p2 with
    | inl e9 =>
      have hr : polL t n P p = .inl e9 := by
        simp only [polL, hq1, hq2]
      refine CL_start (r := 2) (ls := [vr s, vs 2]) (rk_41 _) rfl ?_
      refine w_aln l_41_0 rfl ?_
      refine p_iv [] [] l_41_1 rfl rfl (Nat.le_of_ble_eq_true rfl) (by rw [mx_32]; exact Nat.le_of_ble_eq_true rfl) (by rw [mt_32]; exact oReader_sh o) (by rw [mt_32]; decide) (by rw [rk_32]; decide) (s_32 o H.1 (tEnd_le H.2.2.2.2) H.2.1) (fun v I1 hv => ?_)
      obtain ⟨rfl, hk1, f1⟩ := hv
      have F1 := (fR.rf I s y).tr ((f1.S).R y)
      have Z1 := Z.fS hsy (f1.S)
      have B1 : I1 s 1 = I s 1 ∧ I1 s 2 = I s 2 := ⟨(f1 s 1 (fun _ => by decide)).trans (⟨rfl, rfl⟩ : I s 1 = I s 1 ∧ I s 2 = I s 2).1, (f1 s 2 (fun _ => by decide)).trans (⟨rfl, rfl⟩ : I s 1 = I s 1 ∧ I s 2 = I s 2).2⟩
      have H1 : RT I1 s x t n (nxt t n p) := ⟨H.1.fS (oReader_ne o) (f1.S), hk1⟩
      refine w_aln l_41_4 rfl ?_
      refine w_ic l_41_5 (by decide) ?_
      refine p_iv [vi 0] [] l_41_6 rfl rfl (Nat.le_of_ble_eq_true rfl) (by rw [mx_38]; exact Nat.le_of_ble_eq_true rfl) (by rw [mt_38]; exact oReader_sh o) (by rw [mt_38]; decide) (by rw [rk_38]; decide) (by have g9 := s_38_0 (xs := xs) (cc := cc) (zz := zz) o H1 hsy Z1; rw [hq1] at g9; exact g9) (fun v I2 hv => ?_)
      obtain ⟨f2, rfl, b2, hk2, h8, hok⟩ := hv
      have F2 := F1.tr ((f2).R y)
      have Z2 := Z1.fS hsy (f2)
      have B2 : I2 s 1 = I s 1 ∧ I2 s 2 = I s 2 := ⟨b2.1.trans B1.1, b2.2.trans B1.2⟩
      have H2 : RT I2 s x t n p2 := ⟨H1.1.fS (oReader_ne o) (f2), hk2⟩
      refine w_zeq 22 l_41_9 (by decide) (fun hx => absurd hx (by decide)) (fun _ => ?_)
      refine w_aln l_41_12 rfl ?_
      refine w_ic l_41_13 (by decide) ?_
      refine w_bp l_41_14 (by decide) ?_
      refine p_iv [vi 0, vi 99] [] l_41_16 rfl rfl (Nat.le_of_ble_eq_true rfl) (by rw [mx_37]; exact Nat.le_of_ble_eq_true rfl) (by rw [mt_37]; exact oReader_sh o) (by rw [mt_37]; decide) (by rw [rk_37]; decide) (by have g9 := s_37 (xs := xs) (cc := cc) (zz := zz) o H2 (lo := 0) (hi := 99); rw [hq2] at g9; exact g9) (fun v I3 hv => ?_)
      obtain ⟨f3, rfl, e1, e2⟩ := hv
      have F3 := F2.tr ((f3.S).R y)
      have Z3 := Z2.fS hsy (f3.S)
      refine w_zne 24 l_41_19 (by decide) (fun hx => absurd hx (by decide)) (fun _ => ?_)
      refine w_ic l_41_22 (by decide) ?_
      refine w_ir l_41_23 (by decide) ?_
      exact ⟨_, _, rfl, rfl, F3, by rw [hr]; exact ⟨rfl, e1, e2⟩⟩
    | inr a2 =>
      obtain ⟨r, p3⟩ := a2
      cases hq3 : numR t n 0 99 p3 with
      | inl e9 =>
        have hr : polL t n P p = .inl e9 := by
          simp only [polL, hq1, hq2, hq3]
        refine CL_start (r := 2) (ls := [vr s, vs 2]) (rk_41 _) rfl ?_
        refine w_aln l_41_0 rfl ?_
        refine p_iv [] [] l_41_1 rfl rfl (Nat.le_of_ble_eq_true rfl) (by rw [mx_32]; exact Nat.le_of_ble_eq_true rfl) (by rw [mt_32]; exact oReader_sh o) (by rw [mt_32]; decide) (by rw [rk_32]; decide) (s_32 o H.1 (tEnd_le H.2.2.2.2) H.2.1) (fun v I1 hv => ?_)
        obtain ⟨rfl, hk1, f1⟩ := hv
        have F1 := (fR.rf I s y).tr ((f1.S).R y)
        have Z1 := Z.fS hsy (f1.S)
        have B1 : I1 s 1 = I s 1 ∧ I1 s 2 = I s 2 := ⟨(f1 s 1 (fun _ => by decide)).trans (⟨rfl, rfl⟩ : I s 1 = I s 1 ∧ I s 2 = I s 2).1, (f1 s 2 (fun _ => by decide)).trans (⟨rfl, rfl⟩ : I s 1 = I s 1 ∧ I s 2 = I s 2).2⟩
        have H1 : RT I1 s x t n (nxt t n p) := ⟨H.1.fS (oReader_ne o) (f1.S), hk1⟩
        refine w_aln l_41_4 rfl ?_
        refine w_ic l_41_5 (by decide) ?_
        refine p_iv [vi 0] [] l_41_6 rfl rfl (Nat.le_of_ble_eq_true rfl) (by rw [mx_38]; exact Nat.le_of_ble_eq_true rfl) (by rw [mt_38]; exact oReader_sh o) (by rw [mt_38]; decide) (by rw [rk_38]; decide) (by have g9 := s_38_0 (xs := xs) (cc := cc) (zz := zz) o H1 hsy Z1; rw [hq1] at g9; exact g9) (fun v I2 hv => ?_)
        obtain ⟨f2, rfl, b2, hk2, h8, hok⟩ := hv
        have F2 := F1.tr ((f2).R y)
        have Z2 := Z1.fS hsy (f2)
        have B2 : I2 s 1 = I s 1 ∧ I2 s 2 = I s 2 := ⟨b2.1.trans B1.1, b2.2.trans B1.2⟩
        have H2 : RT I2 s x t n p2 := ⟨H1.1.fS (oReader_ne o) (f2), hk2⟩
        refine w_zeq 22 l_41_9 (by decide) (fun hx => absurd hx (by decide)) (fun _ => ?_)
        refine w_aln l_41_12 rfl ?_
        refine w_ic l_41_13 (by decide) ?_
        refine w_bp l_41_14 (by decide) ?_
        refine p_iv [vi 0, vi 99] [] l_41_16 rfl rfl (Nat.le_of_ble_eq_true rfl) (by rw [mx_37]; exact Nat.le_of_ble_eq_true rfl) (by rw [mt_37]; exact oReader_sh o) (by rw [mt_37]; decide) (by rw [rk_37]; decide) (by have g9 := s_37 (xs := xs) (cc := cc) (zz := zz) o H2 (lo := 0) (hi := 99); rw [hq2] at g9; exact g9) (fun v I3 hv => ?_)
        obtain ⟨f3, rfl, b3, hk3, h10_3⟩ := hv
        have F3 := F2.tr ((f3.S).R y)
        have Z3 := Z2.fS hsy (f3.S)
        have B3 : I3 s 1 = I s 1 ∧ I3 s 2 = I s 2 := ⟨b3.1.trans B2.1, b3.2.trans B2.2⟩
        have H3 : RT I3 s x t n p3 := ⟨H2.1.fS (oReader_ne o) (f3.S), hk3⟩
        refine w_zne 24 l_41_19 (by decide) (fun _ => ?_) (fun hx => absurd hx (by decide))
        refine w_aln l_41_24 rfl ?_
        refine w_gi ((r : Nat) : Int) l_41_25 (oReader_sh o) h10_3 ?_
        refine w_isn l_41_28 ⟨Nat.le_of_ble_eq_true rfl, rfl⟩ ?_
        refine w_aln l_41_29 rfl ?_
        refine w_ic l_41_30 (by decide) ?_
        refine w_bp l_41_31 (by decide) ?_
        refine p_iv [vi 0, vi 99] [] l_41_33 rfl rfl (Nat.le_of_ble_eq_true rfl) (by rw [mx_37]; exact Nat.le_of_ble_eq_true rfl) (by rw [mt_37]; exact oReader_sh o) (by rw [mt_37]; decide) (by rw [rk_37]; decide) (by have g9 := s_37 (xs := xs) (cc := cc) (zz := zz) o H3 (lo := 0) (hi := 99); rw [hq3] at g9; exact g9) (fun v I4 hv => ?_)
        obtain ⟨f4, rfl, e1, e2⟩ := hv
        have F4 := F3.tr ((f4.S).R y)
        have Z4 := Z3.fS hsy (f4.S)
        refine w_zne 41 l_41_36 (by decide) (fun hx => absurd hx (by decide)) (fun _ => ?_)
        refine w_ic l_41_39 (by decide) ?_
        refine w_ir l_41_40 (by decide) ?_
        exact ⟨_, _, rfl, rfl, F4, by rw [hr]; exact ⟨rfl, e1, e2⟩⟩
      | inr a3 =>
        obtain ⟨b, p4⟩ := a3
        have hr : polL t n P p = .inr (psPol P i r b, p4) := by
          simp only [polL, hq1, hq2, hq3]
        refine CL_start (r := 2) (ls := [vr s, vs 2]) (rk_41 _) rfl ?_
        refine w_aln l_41_0 rfl ?_
        refine p_iv [] [] l_41_1 rfl rfl (Nat.le_of_ble_eq_true rfl) (by rw [mx_32]; exact Nat.le_of_ble_eq_true rfl) (by rw [mt_32]; exact oReader_sh o) (by rw [mt_32]; decide) (by rw [rk_32]; decide) (s_32 o H.1 (tEnd_le H.2.2.2.2) H.2.1) (fun v I1 hv => ?_)
        obtain ⟨rfl, hk1, f1⟩ := hv
        have F1 := (fR.rf I s y).tr ((f1.S).R y)
        have Z1 := Z.fS hsy (f1.S)
        have B1 : I1 s 1 = I s 1 ∧ I1 s 2 = I s 2 := ⟨(f1 s 1 (fun _ => by decide)).trans (⟨rfl, rfl⟩ : I s 1 = I s 1 ∧ I s 2 = I s 2).1, (f1 s 2 (fun _ => by decide)).trans (⟨rfl, rfl⟩ : I s 1 = I s 1 ∧ I s 2 = I s 2).2⟩
        have H1 : RT I1 s x t n (nxt t n p) := ⟨H.1.fS (oReader_ne o) (f1.S), hk1⟩
        refine w_aln l_41_4 rfl ?_
        refine w_ic l_41_5 (by decide) ?_
        refine p_iv [vi 0] [] l_41_6 rfl rfl (Nat.le_of_ble_eq_true rfl) (by rw [mx_38]; exact Nat.le_of_ble_eq_true rfl) (by rw [mt_38]; exact oReader_sh o) (by rw [mt_38]; decide) (by rw [rk_38]; decide) (by have g9 := s_38_0 (xs := xs) (cc := cc) (zz := zz) o H1 hsy Z1; rw [hq1] at g9; exact g9) (fun v I2 hv => ?_)
        obtain ⟨f2, rfl, b2, hk2, h8, hok⟩ := hv
        have F2 := F1.tr ((f2).R y)
        have Z2 := Z1.fS hsy (f2)
        have B2 : I2 s 1 = I s 1 ∧ I2 s 2 = I s 2 := ⟨b2.1.trans B1.1, b2.2.trans B1.2⟩
        have H2 : RT I2 s x t n p2 := ⟨H1.1.fS (oReader_ne o) (f2), hk2⟩
        refine w_zeq 22 l_41_9 (by decide) (fun hx => absurd hx (by decide)) (fun _ => ?_)
        refine w_aln l_41_12 rfl ?_
        refine w_ic l_41_13 (by decide) ?_
        refine w_bp l_41_14 (by decide) ?_
        refine p_iv [vi 0, vi 99] [] l_41_16 rfl rfl (Nat.le_of_ble_eq_true rfl) (by rw [mx_37]; exact Nat.le_of_ble_eq_true rfl) (by rw [mt_37]; exact oReader_sh o) (by rw [mt_37]; decide) (by rw [rk_37]; decide) (by have g9 := s_37 (xs := xs) (cc := cc) (zz := zz) o H2 (lo := 0) (hi := 99); rw [hq2] at g9; exact g9) (fun v I3 hv => ?_)
        obtain ⟨f3, rfl, b3, hk3, h10_3⟩ := hv
        have F3 := F2.tr ((f3.S).R y)
        have Z3 := Z2.fS hsy (f3.S)
        have B3 : I3 s 1 = I s 1 ∧ I3 s 2 = I s 2 := ⟨b3.1.trans B2.1, b3.2.trans B2.2⟩
        have H3 : RT I3 s x t n p3 := ⟨H2.1.fS (oReader_ne o) (f3.S), hk3⟩
        refine w_zne 24 l_41_19 (by decide) (fun _ => ?_) (fun hx => absurd hx (by decide))
        refine w_aln l_41_24 rfl ?_
        refine w_gi ((r : Nat) : Int) l_41_25 (oReader_sh o) h10_3 ?_
        refine w_isn l_41_28 ⟨Nat.le_of_ble_eq_true rfl, rfl⟩ ?_
        refine w_aln l_41_29 rfl ?_
        refine w_ic l_41_30 (by decide) ?_
        refine w_bp l_41_31 (by decide) ?_
        refine p_iv [vi 0, vi 99] [] l_41_33 rfl rfl (Nat.le_of_ble_eq_true rfl) (by rw [mx_37]; exact Nat.le_of_ble_eq_true rfl) (by rw [mt_37]; exact oReader_sh o) (by rw [mt_37]; decide) (by rw [rk_37]; decide) (by have g9 := s_37 (xs := xs) (cc := cc) (zz := zz) o H3 (lo := 0) (hi := 99); rw [hq3] at g9; exact g9) (fun v I4 hv => ?_)
        obtain ⟨f4, rfl, b4, hk4, h10_4⟩ := hv
        have F4 := F3.tr ((f4.S).R y)
        have Z4 := Z3.fS hsy (f4.S)
        have B4 : I4 s 1 = I s 1 ∧ I4 s 2 = I s 2 := ⟨b4.1.trans B3.1, b4.2.trans B3.2⟩
        have H4 : RT I4 s x t n p4 := ⟨H3.1.fS (oReader_ne o) (f4.S), hk4⟩
        refine w_zne 41 l_41_36 (by decide) (fun _ => ?_) (fun hx => absurd hx (by decide))
        have hi4 := Z4.2.2.2.1.1.1
        have hil : i < lPorts P.1 := hok
        refine w_aln l_41_41 rfl ?_
        refine w_gr l_41_42 (oReader_sh o) (oReader_r0 o) ?_
        refine w_gr l_41_45 (oSetup_sh (oReader_o0 o)) (oSetup_r0 (oReader_o0 o)) ?_
        refine w_gr l_41_48 (oLimits_sh (oSetup_o0 (oReader_o0 o))) (oLimits_r3 (oSetup_o0 (oReader_o0 o))) ?_
        refine w_aln l_41_51 rfl ?_
        refine w_gi ((i : Nat) : Int) l_41_52 (oReader_sh o) ((f4 s 9 (fun _ => by decide)).trans ((f3 s 9 (fun _ => by decide)).trans h8)) ?_
        refine w_iln l_41_55 rfl ?_
        refine w_iS i l_41_56 (oLimits_s3 (oSetup_o0 (oReader_o0 o))) rfl (by omega) ?_
        refine w_aln l_41_57 rfl ?_
        refine w_gr l_41_58 (oReader_sh o) (oReader_r0 o) ?_
        refine w_gr l_41_61 (oSetup_sh (oReader_o0 o)) (oSetup_r0 (oReader_o0 o)) ?_
        refine w_gr l_41_64 (oLimits_sh (oSetup_o0 (oReader_o0 o))) (oLimits_r4 (oSetup_o0 (oReader_o0 o))) ?_
        refine w_aln l_41_67 rfl ?_
        refine w_gi ((i : Nat) : Int) l_41_68 (oReader_sh o) ((up_no (by omega)).trans (((f4 s 9 (fun _ => by decide)).trans ((f3 s 9 (fun _ => by decide)).trans h8)))) ?_
        refine w_aln l_41_71 rfl ?_
        refine w_gi ((b : Nat) : Int) l_41_72 (oReader_sh o) ((up_no (by omega)).trans (h10_4)) ?_
        refine w_iS i l_41_75 (oLimits_s4 (oSetup_o0 (oReader_o0 o))) rfl (by omega) ?_
        refine w_ic l_41_76 (by decide) ?_
        refine w_ir l_41_77 (by decide) ?_
        have b3 := (numR_ok hq2).2.1
        have b4 := (numR_ok hq3).2.1
        have ey : ∀ z w, z ≠ y + 4 → z ≠ y + 5 → (up (up I4 (y + 1 + 3) i ((r : Nat) : Int)) (y + 1 + 4) i ((b : Nat) : Int)) z w = I4 z w := fun z w h1 h2 => (up_no (by omega)).trans (up_no (by omega))
        exact ⟨_, _, rfl, rfl, F4.tr (fun z w h1 h2 => ey z w (by omega) (by omega)), by rw [hr]; exact ⟨rfl, ⟨(ey s 1 (by omega) (by omega)).trans B4.1, (ey s 2 (by omega) (by omega)).trans B4.2⟩, ⟨(ey s 5 (by omega) (by omega)).trans hk4.1, (ey s 6 (by omega) (by omega)).trans hk4.2.1, (ey s 7 (by omega) (by omega)).trans hk4.2.2.1, hk4.2.2.2⟩, Z4.pol hil b3 b4 (fun j hj z hz => (up_out (by omega)).trans (up_out (by omega))) ((up_no (by omega)).trans up_eq) up_eq⟩⟩

theorem mx_39 : mxl 39 = 1 := by decide +kernel
theorem mt_39 : mtc 39 = 4 := by decide +kernel
theorem rk_39 (as : List AV) : rkA 39 as = 5 := rfl
theorem l_39_0 : look 39 0 = some (.aload_n 0, 1, 0, 0, 0, 0) := by decide +kernel
theorem l_39_1 : look 39 1 = some (.ldc 112, 2, 14, 0, 0, 1146) := by decide +kernel
theorem l_39_3 : look 39 3 = some (.invokevirtual 52, 3, 34, 2, 0, 1056) := by decide +kernel
theorem l_39_6 : look 39 6 = some (.ifCond .eq 36, 3, 0, 0, 0, 0) := by decide +kernel
theorem l_39_9 : look 39 9 = some (.aload_n 0, 1, 0, 0, 0, 0) := by decide +kernel
theorem l_39_10 : look 39 10 = some (.invokevirtual 44, 3, 32, 1, 0, 1051) := by decide +kernel
theorem l_39_13 : look 39 13 = some (.aload_n 0, 1, 0, 0, 0, 0) := by decide +kernel
theorem l_39_14 : look 39 14 = some (.iconst 1, 1, 0, 0, 0, 0) := by decide +kernel
theorem l_39_15 : look 39 15 = some (.sipush 400, 3, 0, 0, 0, 0) := by decide +kernel
theorem l_39_18 : look 39 18 = some (.invokevirtual 114, 3, 37, 3, 0, 1078) := by decide +kernel
theorem l_39_21 : look 39 21 = some (.ifCond .ne 5, 3, 0, 0, 0, 0) := by decide +kernel
theorem l_39_24 : look 39 24 = some (.iconst 0, 1, 0, 0, 0, 0) := by decide +kernel
theorem l_39_25 : look 39 25 = some (.ireturn, 1, 0, 0, 1, 0) := by decide +kernel
theorem l_39_26 : look 39 26 = some (.aload_n 0, 1, 0, 0, 0, 0) := by decide +kernel
theorem l_39_27 : look 39 27 = some (.getfield 12, 3, 4, 0, 2, 461) := by decide +kernel
theorem l_39_30 : look 39 30 = some (.getfield 118, 3, 6, 0, 2, 440) := by decide +kernel
theorem l_39_33 : look 39 33 = some (.aload_n 0, 1, 0, 0, 0, 0) := by decide +kernel
theorem l_39_34 : look 39 34 = some (.getfield 98, 3, 4, 10, 0, 474) := by decide +kernel
theorem l_39_37 : look 39 37 = some (.putfield 122, 3, 1, 5, 0, 397) := by decide +kernel
theorem l_39_40 : look 39 40 = some (.iconst 1, 1, 0, 0, 0, 0) := by decide +kernel
theorem l_39_41 : look 39 41 = some (.ireturn, 1, 0, 0, 1, 0) := by decide +kernel
theorem l_39_42 : look 39 42 = some (.aload_n 0, 1, 0, 0, 0, 0) := by decide +kernel
theorem l_39_43 : look 39 43 = some (.ldc 126, 2, 15, 0, 0, 1147) := by decide +kernel
theorem l_39_45 : look 39 45 = some (.invokevirtual 52, 3, 34, 2, 0, 1056) := by decide +kernel
theorem l_39_48 : look 39 48 = some (.ifCond .eq 36, 3, 0, 0, 0, 0) := by decide +kernel
theorem l_39_51 : look 39 51 = some (.aload_n 0, 1, 0, 0, 0, 0) := by decide +kernel
theorem l_39_52 : look 39 52 = some (.invokevirtual 44, 3, 32, 1, 0, 1051) := by decide +kernel
theorem l_39_55 : look 39 55 = some (.aload_n 0, 1, 0, 0, 0, 0) := by decide +kernel
theorem l_39_56 : look 39 56 = some (.iconst 0, 1, 0, 0, 0, 0) := by decide +kernel
theorem l_39_57 : look 39 57 = some (.sipush 999, 3, 0, 0, 0, 0) := by decide +kernel
theorem l_39_60 : look 39 60 = some (.invokevirtual 114, 3, 37, 3, 0, 1078) := by decide +kernel
theorem l_39_63 : look 39 63 = some (.ifCond .ne 5, 3, 0, 0, 0, 0) := by decide +kernel
theorem l_39_66 : look 39 66 = some (.iconst 0, 1, 0, 0, 0, 0) := by decide +kernel
theorem l_39_67 : look 39 67 = some (.ireturn, 1, 0, 0, 1, 0) := by decide +kernel
theorem l_39_68 : look 39 68 = some (.aload_n 0, 1, 0, 0, 0, 0) := by decide +kernel
theorem l_39_69 : look 39 69 = some (.getfield 12, 3, 4, 0, 2, 461) := by decide +kernel
theorem l_39_72 : look 39 72 = some (.getfield 118, 3, 6, 0, 2, 440) := by decide +kernel
theorem l_39_75 : look 39 75 = some (.aload_n 0, 1, 0, 0, 0, 0) := by decide +kernel
theorem l_39_76 : look 39 76 = some (.getfield 98, 3, 4, 10, 0, 474) := by decide +kernel
theorem l_39_79 : look 39 79 = some (.putfield 128, 3, 1, 7, 0, 403) := by decide +kernel
theorem l_39_82 : look 39 82 = some (.iconst 1, 1, 0, 0, 0, 0) := by decide +kernel
theorem l_39_83 : look 39 83 = some (.ireturn, 1, 0, 0, 1, 0) := by decide +kernel
theorem l_39_84 : look 39 84 = some (.aload_n 0, 1, 0, 0, 0, 0) := by decide +kernel
theorem l_39_85 : look 39 85 = some (.ldc 130, 2, 16, 0, 0, 1148) := by decide +kernel
theorem l_39_87 : look 39 87 = some (.invokevirtual 52, 3, 34, 2, 0, 1056) := by decide +kernel
theorem l_39_90 : look 39 90 = some (.ifCond .eq 35, 3, 0, 0, 0, 0) := by decide +kernel
theorem l_39_93 : look 39 93 = some (.aload_n 0, 1, 0, 0, 0, 0) := by decide +kernel
theorem l_39_94 : look 39 94 = some (.invokevirtual 44, 3, 32, 1, 0, 1051) := by decide +kernel
theorem l_39_97 : look 39 97 = some (.aload_n 0, 1, 0, 0, 0, 0) := by decide +kernel
theorem l_39_98 : look 39 98 = some (.iconst 1, 1, 0, 0, 0, 0) := by decide +kernel
theorem l_39_99 : look 39 99 = some (.bipush 99, 2, 0, 0, 0, 0) := by decide +kernel
theorem l_39_101 : look 39 101 = some (.invokevirtual 114, 3, 37, 3, 0, 1078) := by decide +kernel
theorem l_39_104 : look 39 104 = some (.ifCond .ne 5, 3, 0, 0, 0, 0) := by decide +kernel
theorem l_39_107 : look 39 107 = some (.iconst 0, 1, 0, 0, 0, 0) := by decide +kernel
theorem l_39_108 : look 39 108 = some (.ireturn, 1, 0, 0, 1, 0) := by decide +kernel
theorem l_39_109 : look 39 109 = some (.aload_n 0, 1, 0, 0, 0, 0) := by decide +kernel
theorem l_39_110 : look 39 110 = some (.getfield 12, 3, 4, 0, 2, 461) := by decide +kernel
theorem l_39_113 : look 39 113 = some (.getfield 118, 3, 6, 0, 2, 440) := by decide +kernel
theorem l_39_116 : look 39 116 = some (.aload_n 0, 1, 0, 0, 0, 0) := by decide +kernel
theorem l_39_117 : look 39 117 = some (.getfield 98, 3, 4, 10, 0, 474) := by decide +kernel
theorem l_39_120 : look 39 120 = some (.putfield 132, 3, 1, 6, 0, 399) := by decide +kernel
theorem l_39_123 : look 39 123 = some (.iconst 1, 1, 0, 0, 0, 0) := by decide +kernel
theorem l_39_124 : look 39 124 = some (.ireturn, 1, 0, 0, 1, 0) := by decide +kernel
theorem l_39_125 : look 39 125 = some (.aload_n 0, 1, 0, 0, 0, 0) := by decide +kernel
theorem l_39_126 : look 39 126 = some (.iconst 1, 1, 0, 0, 0, 0) := by decide +kernel
theorem l_39_127 : look 39 127 = some (.invokevirtual 94, 3, 33, 2, 0, 1066) := by decide +kernel
theorem l_39_130 : look 39 130 = some (.ireturn, 1, 0, 0, 1, 0) := by decide +kernel
theorem s_39 (o : oReader S T s x y) {p : Nat} (H : RT I s x t n p) (hsy : s < y) (hxy : x < y) {P : Ps} {tot : Nat} (Z : SU I y P [] tot) : CL xs 39 [vr s] (S, I, T, cc, zz) (RP S T cc zz (fun v I' => fR I I' s y ∧ RO I s v I' (limL t n P p) (fun a => rTk I' s t n a.2 ∧ SU I' y a.1 [] tot))) := by
  cases hw14 : isWL t n (strB 14) p with
  | true =>
    cases hq1 : numR t n 1 400 (nxt t n p) with
    | inl e9 =>
      have hr : (limL t n P p : PR (Ps × Nat)) = .inl e9 := by
        unfold limL
        rw [if_pos hw14]
        simp only [setL, hq1]
      refine CL_start (r := 5) (ls := [vr s]) (rk_39 _) rfl ?_
      refine w_aln l_39_0 rfl ?_
      refine w_ldc l_39_1 (by decide) ?_
      refine q_iv [vs (2 * 14 + 4)] [] l_39_3 rfl rfl (Nat.le_of_ble_eq_true rfl) (by rw [mx_34]; exact Nat.le_of_ble_eq_true rfl) (by rw [mt_34]; exact oReader_sh o) (by rw [mt_34]; decide) (by rw [rk_34]; decide) (s_34 o H (q := 14) (by decide)) ?_
      refine w_beq 42 l_39_6 (by decide) (fun hx => absurd hx (by rw [hw14]; decide)) (fun _ => ?_)
      refine w_aln l_39_9 rfl ?_
      refine p_iv [] [] l_39_10 rfl rfl (Nat.le_of_ble_eq_true rfl) (by rw [mx_32]; exact Nat.le_of_ble_eq_true rfl) (by rw [mt_32]; exact oReader_sh o) (by rw [mt_32]; decide) (by rw [rk_32]; decide) (s_32 o H.1 (tEnd_le H.2.2.2.2) H.2.1) (fun v I1 hv => ?_)
      obtain ⟨rfl, hk1, f1⟩ := hv
      have F1 := (fR.rf I s y).tr ((f1.S).R y)
      have Z1 := Z.fS hsy (f1.S)
      have B1 : I1 s 1 = I s 1 ∧ I1 s 2 = I s 2 := ⟨(f1 s 1 (fun _ => by decide)).trans (⟨rfl, rfl⟩ : I s 1 = I s 1 ∧ I s 2 = I s 2).1, (f1 s 2 (fun _ => by decide)).trans (⟨rfl, rfl⟩ : I s 1 = I s 1 ∧ I s 2 = I s 2).2⟩
      have H1 : RT I1 s x t n (nxt t n p) := ⟨H.1.fS (oReader_ne o) (f1.S), hk1⟩
      refine w_aln l_39_13 rfl ?_
      refine w_ic l_39_14 (by decide) ?_
      refine w_sp l_39_15 (by decide) ?_
      refine p_iv [vi 1, vi 400] [] l_39_18 rfl rfl (Nat.le_of_ble_eq_true rfl) (by rw [mx_37]; exact Nat.le_of_ble_eq_true rfl) (by rw [mt_37]; exact oReader_sh o) (by rw [mt_37]; decide) (by rw [rk_37]; decide) (by have g9 := s_37 (xs := xs) (cc := cc) (zz := zz) o H1 (lo := 1) (hi := 400); rw [hq1] at g9; exact g9) (fun v I2 hv => ?_)
      obtain ⟨f2, rfl, e1, e2⟩ := hv
      have F2 := F1.tr ((f2.S).R y)
      have Z2 := Z1.fS hsy (f2.S)
      refine w_zne 26 l_39_21 (by decide) (fun hx => absurd hx (by decide)) (fun _ => ?_)
      refine w_ic l_39_24 (by decide) ?_
      refine w_ir l_39_25 (by decide) ?_
      exact ⟨_, _, rfl, rfl, F2, by rw [hr]; exact ⟨rfl, e1, e2⟩⟩
    | inr a1 =>
      obtain ⟨v, p2⟩ := a1
      have hr : (limL t n P p : PR (Ps × Nat)) = .inr (psBuf P v, p2) := by
        unfold limL
        rw [if_pos hw14]
        simp only [setL, hq1]
      refine CL_start (r := 5) (ls := [vr s]) (rk_39 _) rfl ?_
      refine w_aln l_39_0 rfl ?_
      refine w_ldc l_39_1 (by decide) ?_
      refine q_iv [vs (2 * 14 + 4)] [] l_39_3 rfl rfl (Nat.le_of_ble_eq_true rfl) (by rw [mx_34]; exact Nat.le_of_ble_eq_true rfl) (by rw [mt_34]; exact oReader_sh o) (by rw [mt_34]; decide) (by rw [rk_34]; decide) (s_34 o H (q := 14) (by decide)) ?_
      refine w_beq 42 l_39_6 (by decide) (fun hx => absurd hx (by rw [hw14]; decide)) (fun _ => ?_)
      refine w_aln l_39_9 rfl ?_
      refine p_iv [] [] l_39_10 rfl rfl (Nat.le_of_ble_eq_true rfl) (by rw [mx_32]; exact Nat.le_of_ble_eq_true rfl) (by rw [mt_32]; exact oReader_sh o) (by rw [mt_32]; decide) (by rw [rk_32]; decide) (s_32 o H.1 (tEnd_le H.2.2.2.2) H.2.1) (fun v I1 hv => ?_)
      obtain ⟨rfl, hk1, f1⟩ := hv
      have F1 := (fR.rf I s y).tr ((f1.S).R y)
      have Z1 := Z.fS hsy (f1.S)
      have B1 : I1 s 1 = I s 1 ∧ I1 s 2 = I s 2 := ⟨(f1 s 1 (fun _ => by decide)).trans (⟨rfl, rfl⟩ : I s 1 = I s 1 ∧ I s 2 = I s 2).1, (f1 s 2 (fun _ => by decide)).trans (⟨rfl, rfl⟩ : I s 1 = I s 1 ∧ I s 2 = I s 2).2⟩
      have H1 : RT I1 s x t n (nxt t n p) := ⟨H.1.fS (oReader_ne o) (f1.S), hk1⟩
      refine w_aln l_39_13 rfl ?_
      refine w_ic l_39_14 (by decide) ?_
      refine w_sp l_39_15 (by decide) ?_
      refine p_iv [vi 1, vi 400] [] l_39_18 rfl rfl (Nat.le_of_ble_eq_true rfl) (by rw [mx_37]; exact Nat.le_of_ble_eq_true rfl) (by rw [mt_37]; exact oReader_sh o) (by rw [mt_37]; decide) (by rw [rk_37]; decide) (by have g9 := s_37 (xs := xs) (cc := cc) (zz := zz) o H1 (lo := 1) (hi := 400); rw [hq1] at g9; exact g9) (fun v I2 hv => ?_)
      obtain ⟨f2, rfl, b2, hk2, h10_2⟩ := hv
      have F2 := F1.tr ((f2.S).R y)
      have Z2 := Z1.fS hsy (f2.S)
      have B2 : I2 s 1 = I s 1 ∧ I2 s 2 = I s 2 := ⟨b2.1.trans B1.1, b2.2.trans B1.2⟩
      have H2 : RT I2 s x t n p2 := ⟨H1.1.fS (oReader_ne o) (f2.S), hk2⟩
      refine w_zne 26 l_39_21 (by decide) (fun _ => ?_) (fun hx => absurd hx (by decide))
      refine w_aln l_39_26 rfl ?_
      refine w_gr l_39_27 (oReader_sh o) (oReader_r0 o) ?_
      refine w_gr l_39_30 (oSetup_sh (oReader_o0 o)) (oSetup_r0 (oReader_o0 o)) ?_
      refine w_aln l_39_33 rfl ?_
      refine w_gi ((v : Nat) : Int) l_39_34 (oReader_sh o) h10_2 ?_
      refine w_pi l_39_37 (oLimits_sh (oSetup_o0 (oReader_o0 o))) ?_
      refine w_ic l_39_40 (by decide) ?_
      refine w_ir l_39_41 (by decide) ?_
      have b2 := (numR_ok hq1).2.1
      have ey : ∀ z w, z ≠ y + 1 → (up I2 (y + 1) 5 ((v : Nat) : Int)) z w = I2 z w := fun z w h1 => up_no h1
      exact ⟨_, _, rfl, rfl, F2.tr (fun z w h1 h2 => ey z w (by omega)), by rw [hr]; exact ⟨rfl, ⟨(ey s 1 (by omega)).trans B2.1, (ey s 2 (by omega)).trans B2.2⟩, ⟨(ey s 5 (by omega)).trans hk2.1, (ey s 6 (by omega)).trans hk2.2.1, (ey s 7 (by omega)).trans hk2.2.2.1, hk2.2.2.2⟩, Z2.lim (g := psBuf) (by first | exact Or.inl ⟨rfl, rfl, b2⟩ | exact Or.inr (Or.inl ⟨rfl, rfl, b2⟩) | exact Or.inr (Or.inr ⟨rfl, rfl, b2⟩))⟩⟩

  | false =>
    cases hw15 : isWL t n (strB 15) p with
    | true =>
      cases hq1 : numR t n 0 999 (nxt t n p) with
      | inl e9 =>
        have hr : (limL t n P p : PR (Ps × Nat)) = .inl e9 := by
          unfold limL
          rw [if_neg (by rw [hw14]; decide), if_pos hw15]
          simp only [setL, hq1]
        refine CL_start (r := 5) (ls := [vr s]) (rk_39 _) rfl ?_
        refine w_aln l_39_0 rfl ?_
        refine w_ldc l_39_1 (by decide) ?_
        refine q_iv [vs (2 * 14 + 4)] [] l_39_3 rfl rfl (Nat.le_of_ble_eq_true rfl) (by rw [mx_34]; exact Nat.le_of_ble_eq_true rfl) (by rw [mt_34]; exact oReader_sh o) (by rw [mt_34]; decide) (by rw [rk_34]; decide) (s_34 o H (q := 14) (by decide)) ?_
        refine w_beq 42 l_39_6 (by decide) (fun _ => ?_) (fun hx => absurd hx (by rw [hw14]; decide))
        refine w_aln l_39_42 rfl ?_
        refine w_ldc l_39_43 (by decide) ?_
        refine q_iv [vs (2 * 15 + 4)] [] l_39_45 rfl rfl (Nat.le_of_ble_eq_true rfl) (by rw [mx_34]; exact Nat.le_of_ble_eq_true rfl) (by rw [mt_34]; exact oReader_sh o) (by rw [mt_34]; decide) (by rw [rk_34]; decide) (s_34 o H (q := 15) (by decide)) ?_
        refine w_beq 84 l_39_48 (by decide) (fun hx => absurd hx (by rw [hw15]; decide)) (fun _ => ?_)
        refine w_aln l_39_51 rfl ?_
        refine p_iv [] [] l_39_52 rfl rfl (Nat.le_of_ble_eq_true rfl) (by rw [mx_32]; exact Nat.le_of_ble_eq_true rfl) (by rw [mt_32]; exact oReader_sh o) (by rw [mt_32]; decide) (by rw [rk_32]; decide) (s_32 o H.1 (tEnd_le H.2.2.2.2) H.2.1) (fun v I1 hv => ?_)
        obtain ⟨rfl, hk1, f1⟩ := hv
        have F1 := (fR.rf I s y).tr ((f1.S).R y)
        have Z1 := Z.fS hsy (f1.S)
        have B1 : I1 s 1 = I s 1 ∧ I1 s 2 = I s 2 := ⟨(f1 s 1 (fun _ => by decide)).trans (⟨rfl, rfl⟩ : I s 1 = I s 1 ∧ I s 2 = I s 2).1, (f1 s 2 (fun _ => by decide)).trans (⟨rfl, rfl⟩ : I s 1 = I s 1 ∧ I s 2 = I s 2).2⟩
        have H1 : RT I1 s x t n (nxt t n p) := ⟨H.1.fS (oReader_ne o) (f1.S), hk1⟩
        refine w_aln l_39_55 rfl ?_
        refine w_ic l_39_56 (by decide) ?_
        refine w_sp l_39_57 (by decide) ?_
        refine p_iv [vi 0, vi 999] [] l_39_60 rfl rfl (Nat.le_of_ble_eq_true rfl) (by rw [mx_37]; exact Nat.le_of_ble_eq_true rfl) (by rw [mt_37]; exact oReader_sh o) (by rw [mt_37]; decide) (by rw [rk_37]; decide) (by have g9 := s_37 (xs := xs) (cc := cc) (zz := zz) o H1 (lo := 0) (hi := 999); rw [hq1] at g9; exact g9) (fun v I2 hv => ?_)
        obtain ⟨f2, rfl, e1, e2⟩ := hv
        have F2 := F1.tr ((f2.S).R y)
        have Z2 := Z1.fS hsy (f2.S)
        refine w_zne 68 l_39_63 (by decide) (fun hx => absurd hx (by decide)) (fun _ => ?_)
        refine w_ic l_39_66 (by decide) ?_
        refine w_ir l_39_67 (by decide) ?_
        exact ⟨_, _, rfl, rfl, F2, by rw [hr]; exact ⟨rfl, e1, e2⟩⟩
      | inr a1 =>
        obtain ⟨v, p2⟩ := a1
        have hr : (limL t n P p : PR (Ps × Nat)) = .inr (psAge P v, p2) := by
          unfold limL
          rw [if_neg (by rw [hw14]; decide), if_pos hw15]
          simp only [setL, hq1]
        refine CL_start (r := 5) (ls := [vr s]) (rk_39 _) rfl ?_
        refine w_aln l_39_0 rfl ?_
        refine w_ldc l_39_1 (by decide) ?_
        refine q_iv [vs (2 * 14 + 4)] [] l_39_3 rfl rfl (Nat.le_of_ble_eq_true rfl) (by rw [mx_34]; exact Nat.le_of_ble_eq_true rfl) (by rw [mt_34]; exact oReader_sh o) (by rw [mt_34]; decide) (by rw [rk_34]; decide) (s_34 o H (q := 14) (by decide)) ?_
        refine w_beq 42 l_39_6 (by decide) (fun _ => ?_) (fun hx => absurd hx (by rw [hw14]; decide))
        refine w_aln l_39_42 rfl ?_
        refine w_ldc l_39_43 (by decide) ?_
        refine q_iv [vs (2 * 15 + 4)] [] l_39_45 rfl rfl (Nat.le_of_ble_eq_true rfl) (by rw [mx_34]; exact Nat.le_of_ble_eq_true rfl) (by rw [mt_34]; exact oReader_sh o) (by rw [mt_34]; decide) (by rw [rk_34]; decide) (s_34 o H (q := 15) (by decide)) ?_
        refine w_beq 84 l_39_48 (by decide) (fun hx => absurd hx (by rw [hw15]; decide)) (fun _ => ?_)
        refine w_aln l_39_51 rfl ?_
        refine p_iv [] [] l_39_52 rfl rfl (Nat.le_of_ble_eq_true rfl) (by rw [mx_32]; exact Nat.le_of_ble_eq_true rfl) (by rw [mt_32]; exact oReader_sh o) (by rw [mt_32]; decide) (by rw [rk_32]; decide) (s_32 o H.1 (tEnd_le H.2.2.2.2) H.2.1) (fun v I1 hv => ?_)
        obtain ⟨rfl, hk1, f1⟩ := hv
        have F1 := (fR.rf I s y).tr ((f1.S).R y)
        have Z1 := Z.fS hsy (f1.S)
        have B1 : I1 s 1 = I s 1 ∧ I1 s 2 = I s 2 := ⟨(f1 s 1 (fun _ => by decide)).trans (⟨rfl, rfl⟩ : I s 1 = I s 1 ∧ I s 2 = I s 2).1, (f1 s 2 (fun _ => by decide)).trans (⟨rfl, rfl⟩ : I s 1 = I s 1 ∧ I s 2 = I s 2).2⟩
        have H1 : RT I1 s x t n (nxt t n p) := ⟨H.1.fS (oReader_ne o) (f1.S), hk1⟩
        refine w_aln l_39_55 rfl ?_
        refine w_ic l_39_56 (by decide) ?_
        refine w_sp l_39_57 (by decide) ?_
        refine p_iv [vi 0, vi 999] [] l_39_60 rfl rfl (Nat.le_of_ble_eq_true rfl) (by rw [mx_37]; exact Nat.le_of_ble_eq_true rfl) (by rw [mt_37]; exact oReader_sh o) (by rw [mt_37]; decide) (by rw [rk_37]; decide) (by have g9 := s_37 (xs := xs) (cc := cc) (zz := zz) o H1 (lo := 0) (hi := 999); rw [hq1] at g9; exact g9) (fun v I2 hv => ?_)
        obtain ⟨f2, rfl, b2, hk2, h10_2⟩ := hv
        have F2 := F1.tr ((f2.S).R y)
        have Z2 := Z1.fS hsy (f2.S)
        have B2 : I2 s 1 = I s 1 ∧ I2 s 2 = I s 2 := ⟨b2.1.trans B1.1, b2.2.trans B1.2⟩
        have H2 : RT I2 s x t n p2 := ⟨H1.1.fS (oReader_ne o) (f2.S), hk2⟩
        refine w_zne 68 l_39_63 (by decide) (fun _ => ?_) (fun hx => absurd hx (by decide))
        refine w_aln l_39_68 rfl ?_
        refine w_gr l_39_69 (oReader_sh o) (oReader_r0 o) ?_
        refine w_gr l_39_72 (oSetup_sh (oReader_o0 o)) (oSetup_r0 (oReader_o0 o)) ?_
        refine w_aln l_39_75 rfl ?_
        refine w_gi ((v : Nat) : Int) l_39_76 (oReader_sh o) h10_2 ?_
        refine w_pi l_39_79 (oLimits_sh (oSetup_o0 (oReader_o0 o))) ?_
        refine w_ic l_39_82 (by decide) ?_
        refine w_ir l_39_83 (by decide) ?_
        have b2 := (numR_ok hq1).2.1
        have ey : ∀ z w, z ≠ y + 1 → (up I2 (y + 1) 7 ((v : Nat) : Int)) z w = I2 z w := fun z w h1 => up_no h1
        exact ⟨_, _, rfl, rfl, F2.tr (fun z w h1 h2 => ey z w (by omega)), by rw [hr]; exact ⟨rfl, ⟨(ey s 1 (by omega)).trans B2.1, (ey s 2 (by omega)).trans B2.2⟩, ⟨(ey s 5 (by omega)).trans hk2.1, (ey s 6 (by omega)).trans hk2.2.1, (ey s 7 (by omega)).trans hk2.2.2.1, hk2.2.2.2⟩, Z2.lim (g := psAge) (by first | exact Or.inl ⟨rfl, rfl, b2⟩ | exact Or.inr (Or.inl ⟨rfl, rfl, b2⟩) | exact Or.inr (Or.inr ⟨rfl, rfl, b2⟩))⟩⟩

    | false =>
      cases hw16 : isWL t n (strB 16) p with
      | true =>
        cases hq1 : numR t n 1 99 (nxt t n p) with
        | inl e9 =>
          have hr : (limL t n P p : PR (Ps × Nat)) = .inl e9 := by
            unfold limL
            rw [if_neg (by rw [hw14]; decide), if_neg (by rw [hw15]; decide), if_pos hw16]
            simp only [setL, hq1]
          refine CL_start (r := 5) (ls := [vr s]) (rk_39 _) rfl ?_
          refine w_aln l_39_0 rfl ?_
          refine w_ldc l_39_1 (by decide) ?_
          refine q_iv [vs (2 * 14 + 4)] [] l_39_3 rfl rfl (Nat.le_of_ble_eq_true rfl) (by rw [mx_34]; exact Nat.le_of_ble_eq_true rfl) (by rw [mt_34]; exact oReader_sh o) (by rw [mt_34]; decide) (by rw [rk_34]; decide) (s_34 o H (q := 14) (by decide)) ?_
          refine w_beq 42 l_39_6 (by decide) (fun _ => ?_) (fun hx => absurd hx (by rw [hw14]; decide))
          refine w_aln l_39_42 rfl ?_
          refine w_ldc l_39_43 (by decide) ?_
          refine q_iv [vs (2 * 15 + 4)] [] l_39_45 rfl rfl (Nat.le_of_ble_eq_true rfl) (by rw [mx_34]; exact Nat.le_of_ble_eq_true rfl) (by rw [mt_34]; exact oReader_sh o) (by rw [mt_34]; decide) (by rw [rk_34]; decide) (s_34 o H (q := 15) (by decide)) ?_
          refine w_beq 84 l_39_48 (by decide) (fun _ => ?_) (fun hx => absurd hx (by rw [hw15]; decide))
          refine w_aln l_39_84 rfl ?_
          refine w_ldc l_39_85 (by decide) ?_
          refine q_iv [vs (2 * 16 + 4)] [] l_39_87 rfl rfl (Nat.le_of_ble_eq_true rfl) (by rw [mx_34]; exact Nat.le_of_ble_eq_true rfl) (by rw [mt_34]; exact oReader_sh o) (by rw [mt_34]; decide) (by rw [rk_34]; decide) (s_34 o H (q := 16) (by decide)) ?_
          refine w_beq 125 l_39_90 (by decide) (fun hx => absurd hx (by rw [hw16]; decide)) (fun _ => ?_)
          refine w_aln l_39_93 rfl ?_
          refine p_iv [] [] l_39_94 rfl rfl (Nat.le_of_ble_eq_true rfl) (by rw [mx_32]; exact Nat.le_of_ble_eq_true rfl) (by rw [mt_32]; exact oReader_sh o) (by rw [mt_32]; decide) (by rw [rk_32]; decide) (s_32 o H.1 (tEnd_le H.2.2.2.2) H.2.1) (fun v I1 hv => ?_)
          obtain ⟨rfl, hk1, f1⟩ := hv
          have F1 := (fR.rf I s y).tr ((f1.S).R y)
          have Z1 := Z.fS hsy (f1.S)
          have B1 : I1 s 1 = I s 1 ∧ I1 s 2 = I s 2 := ⟨(f1 s 1 (fun _ => by decide)).trans (⟨rfl, rfl⟩ : I s 1 = I s 1 ∧ I s 2 = I s 2).1, (f1 s 2 (fun _ => by decide)).trans (⟨rfl, rfl⟩ : I s 1 = I s 1 ∧ I s 2 = I s 2).2⟩
          have H1 : RT I1 s x t n (nxt t n p) := ⟨H.1.fS (oReader_ne o) (f1.S), hk1⟩
          refine w_aln l_39_97 rfl ?_
          refine w_ic l_39_98 (by decide) ?_
          refine w_bp l_39_99 (by decide) ?_
          refine p_iv [vi 1, vi 99] [] l_39_101 rfl rfl (Nat.le_of_ble_eq_true rfl) (by rw [mx_37]; exact Nat.le_of_ble_eq_true rfl) (by rw [mt_37]; exact oReader_sh o) (by rw [mt_37]; decide) (by rw [rk_37]; decide) (by have g9 := s_37 (xs := xs) (cc := cc) (zz := zz) o H1 (lo := 1) (hi := 99); rw [hq1] at g9; exact g9) (fun v I2 hv => ?_)
          obtain ⟨f2, rfl, e1, e2⟩ := hv
          have F2 := F1.tr ((f2.S).R y)
          have Z2 := Z1.fS hsy (f2.S)
          refine w_zne 109 l_39_104 (by decide) (fun hx => absurd hx (by decide)) (fun _ => ?_)
          refine w_ic l_39_107 (by decide) ?_
          refine w_ir l_39_108 (by decide) ?_
          exact ⟨_, _, rfl, rfl, F2, by rw [hr]; exact ⟨rfl, e1, e2⟩⟩
        | inr a1 =>
          obtain ⟨v, p2⟩ := a1
          have hr : (limL t n P p : PR (Ps × Nat)) = .inr (psWait P v, p2) := by
            unfold limL
            rw [if_neg (by rw [hw14]; decide), if_neg (by rw [hw15]; decide), if_pos hw16]
            simp only [setL, hq1]
          refine CL_start (r := 5) (ls := [vr s]) (rk_39 _) rfl ?_
          refine w_aln l_39_0 rfl ?_
          refine w_ldc l_39_1 (by decide) ?_
          refine q_iv [vs (2 * 14 + 4)] [] l_39_3 rfl rfl (Nat.le_of_ble_eq_true rfl) (by rw [mx_34]; exact Nat.le_of_ble_eq_true rfl) (by rw [mt_34]; exact oReader_sh o) (by rw [mt_34]; decide) (by rw [rk_34]; decide) (s_34 o H (q := 14) (by decide)) ?_
          refine w_beq 42 l_39_6 (by decide) (fun _ => ?_) (fun hx => absurd hx (by rw [hw14]; decide))
          refine w_aln l_39_42 rfl ?_
          refine w_ldc l_39_43 (by decide) ?_
          refine q_iv [vs (2 * 15 + 4)] [] l_39_45 rfl rfl (Nat.le_of_ble_eq_true rfl) (by rw [mx_34]; exact Nat.le_of_ble_eq_true rfl) (by rw [mt_34]; exact oReader_sh o) (by rw [mt_34]; decide) (by rw [rk_34]; decide) (s_34 o H (q := 15) (by decide)) ?_
          refine w_beq 84 l_39_48 (by decide) (fun _ => ?_) (fun hx => absurd hx (by rw [hw15]; decide))
          refine w_aln l_39_84 rfl ?_
          refine w_ldc l_39_85 (by decide) ?_
          refine q_iv [vs (2 * 16 + 4)] [] l_39_87 rfl rfl (Nat.le_of_ble_eq_true rfl) (by rw [mx_34]; exact Nat.le_of_ble_eq_true rfl) (by rw [mt_34]; exact oReader_sh o) (by rw [mt_34]; decide) (by rw [rk_34]; decide) (s_34 o H (q := 16) (by decide)) ?_
          refine w_beq 125 l_39_90 (by decide) (fun hx => absurd hx (by rw [hw16]; decide)) (fun _ => ?_)
          refine w_aln l_39_93 rfl ?_
          refine p_iv [] [] l_39_94 rfl rfl (Nat.le_of_ble_eq_true rfl) (by rw [mx_32]; exact Nat.le_of_ble_eq_true rfl) (by rw [mt_32]; exact oReader_sh o) (by rw [mt_32]; decide) (by rw [rk_32]; decide) (s_32 o H.1 (tEnd_le H.2.2.2.2) H.2.1) (fun v I1 hv => ?_)
          obtain ⟨rfl, hk1, f1⟩ := hv
          have F1 := (fR.rf I s y).tr ((f1.S).R y)
          have Z1 := Z.fS hsy (f1.S)
          have B1 : I1 s 1 = I s 1 ∧ I1 s 2 = I s 2 := ⟨(f1 s 1 (fun _ => by decide)).trans (⟨rfl, rfl⟩ : I s 1 = I s 1 ∧ I s 2 = I s 2).1, (f1 s 2 (fun _ => by decide)).trans (⟨rfl, rfl⟩ : I s 1 = I s 1 ∧ I s 2 = I s 2).2⟩
          have H1 : RT I1 s x t n (nxt t n p) := ⟨H.1.fS (oReader_ne o) (f1.S), hk1⟩
          refine w_aln l_39_97 rfl ?_
          refine w_ic l_39_98 (by decide) ?_
          refine w_bp l_39_99 (by decide) ?_
          refine p_iv [vi 1, vi 99] [] l_39_101 rfl rfl (Nat.le_of_ble_eq_true rfl) (by rw [mx_37]; exact Nat.le_of_ble_eq_true rfl) (by rw [mt_37]; exact oReader_sh o) (by rw [mt_37]; decide) (by rw [rk_37]; decide) (by have g9 := s_37 (xs := xs) (cc := cc) (zz := zz) o H1 (lo := 1) (hi := 99); rw [hq1] at g9; exact g9) (fun v I2 hv => ?_)
          obtain ⟨f2, rfl, b2, hk2, h10_2⟩ := hv
          have F2 := F1.tr ((f2.S).R y)
          have Z2 := Z1.fS hsy (f2.S)
          have B2 : I2 s 1 = I s 1 ∧ I2 s 2 = I s 2 := ⟨b2.1.trans B1.1, b2.2.trans B1.2⟩
          have H2 : RT I2 s x t n p2 := ⟨H1.1.fS (oReader_ne o) (f2.S), hk2⟩
          refine w_zne 109 l_39_104 (by decide) (fun _ => ?_) (fun hx => absurd hx (by decide))
          refine w_aln l_39_109 rfl ?_
          refine w_gr l_39_110 (oReader_sh o) (oReader_r0 o) ?_
          refine w_gr l_39_113 (oSetup_sh (oReader_o0 o)) (oSetup_r0 (oReader_o0 o)) ?_
          refine w_aln l_39_116 rfl ?_
          refine w_gi ((v : Nat) : Int) l_39_117 (oReader_sh o) h10_2 ?_
          refine w_pi l_39_120 (oLimits_sh (oSetup_o0 (oReader_o0 o))) ?_
          refine w_ic l_39_123 (by decide) ?_
          refine w_ir l_39_124 (by decide) ?_
          have b2 := (numR_ok hq1).2.1
          have ey : ∀ z w, z ≠ y + 1 → (up I2 (y + 1) 6 ((v : Nat) : Int)) z w = I2 z w := fun z w h1 => up_no h1
          exact ⟨_, _, rfl, rfl, F2.tr (fun z w h1 h2 => ey z w (by omega)), by rw [hr]; exact ⟨rfl, ⟨(ey s 1 (by omega)).trans B2.1, (ey s 2 (by omega)).trans B2.2⟩, ⟨(ey s 5 (by omega)).trans hk2.1, (ey s 6 (by omega)).trans hk2.2.1, (ey s 7 (by omega)).trans hk2.2.2.1, hk2.2.2.2⟩, Z2.lim (g := psWait) (by first | exact Or.inl ⟨rfl, rfl, b2⟩ | exact Or.inr (Or.inl ⟨rfl, rfl, b2⟩) | exact Or.inr (Or.inr ⟨rfl, rfl, b2⟩))⟩⟩

      | false =>
        have hr : (limL t n P p : PR (Ps × Nat)) = .inl (1, p) := by
          unfold limL
          rw [if_neg (by rw [hw14]; decide), if_neg (by rw [hw15]; decide), if_neg (by rw [hw16]; decide)]
        refine CL_start (r := 5) (ls := [vr s]) (rk_39 _) rfl ?_
        refine w_aln l_39_0 rfl ?_
        refine w_ldc l_39_1 (by decide) ?_
        refine q_iv [vs (2 * 14 + 4)] [] l_39_3 rfl rfl (Nat.le_of_ble_eq_true rfl) (by rw [mx_34]; exact Nat.le_of_ble_eq_true rfl) (by rw [mt_34]; exact oReader_sh o) (by rw [mt_34]; decide) (by rw [rk_34]; decide) (s_34 o H (q := 14) (by decide)) ?_
        refine w_beq 42 l_39_6 (by decide) (fun _ => ?_) (fun hx => absurd hx (by rw [hw14]; decide))
        refine w_aln l_39_42 rfl ?_
        refine w_ldc l_39_43 (by decide) ?_
        refine q_iv [vs (2 * 15 + 4)] [] l_39_45 rfl rfl (Nat.le_of_ble_eq_true rfl) (by rw [mx_34]; exact Nat.le_of_ble_eq_true rfl) (by rw [mt_34]; exact oReader_sh o) (by rw [mt_34]; decide) (by rw [rk_34]; decide) (s_34 o H (q := 15) (by decide)) ?_
        refine w_beq 84 l_39_48 (by decide) (fun _ => ?_) (fun hx => absurd hx (by rw [hw15]; decide))
        refine w_aln l_39_84 rfl ?_
        refine w_ldc l_39_85 (by decide) ?_
        refine q_iv [vs (2 * 16 + 4)] [] l_39_87 rfl rfl (Nat.le_of_ble_eq_true rfl) (by rw [mx_34]; exact Nat.le_of_ble_eq_true rfl) (by rw [mt_34]; exact oReader_sh o) (by rw [mt_34]; decide) (by rw [rk_34]; decide) (s_34 o H (q := 16) (by decide)) ?_
        refine w_beq 125 l_39_90 (by decide) (fun _ => ?_) (fun hx => absurd hx (by rw [hw16]; decide))
        refine w_aln l_39_125 rfl ?_
        refine w_ic l_39_126 (by decide) ?_
        refine q_iv [vi 1] [] l_39_127 rfl rfl (Nat.le_of_ble_eq_true rfl) (by rw [mx_33]; exact Nat.le_of_ble_eq_true rfl) (by rw [mt_33]; exact oReader_sh o) (by rw [mt_33]; decide) (by rw [rk_33]; decide) (s_33 (k := 1) o H.2.2.1) ?_
        refine w_ir l_39_130 (by decide) ?_
        exact ⟨_, _, rfl, rfl, (((fS.rf I s).up (by decide)).up (by decide)).R y, by rw [hr]; exact ⟨rfl, (up_nj (by decide)).trans up_eq, up_eq⟩⟩

theorem s_66 (os : oSetup S T y) (h70 : I (y + 7) 0 = 0) : CL xs 66 [vr y] (S, I, T, cc, zz) (RP S T cc zz (fun v I' => v = none ∧ SU I' y ps0 [] 0 ∧ ∀ z w, (z < y ∨ y + 1 < z) → I' z w = I z w)) := by
  refine CL_start (r := 1) (ls := [vr y]) (rk_66 _) rfl ?_
  refine w_aln l_66_0 rfl ?_
  refine w_gr l_66_1 (oSetup_sh os) (oSetup_r0 os) ?_
  refine q_iv [] [] l_66_4 rfl rfl (Nat.le_of_ble_eq_true rfl) (by rw [mx_8]; exact Nat.le_of_ble_eq_true rfl) (by rw [mt_8]; exact oLimits_sh (oSetup_o0 os)) (by rw [mt_8]; decide) (by rw [rk_8]; decide) (s_8 (oSetup_o0 os)) ?_
  refine w_aln l_66_7 rfl ?_
  refine w_ic l_66_8 (by decide) ?_
  refine w_pi l_66_9 (oSetup_sh os) ?_
  refine w_aln l_66_12 rfl ?_
  refine w_ic l_66_13 (by decide) ?_
  refine w_pi l_66_14 (oSetup_sh os) ?_
  refine w_vr l_66_17 ?_
  have RPA : ∀ z w, z ≠ y → z ≠ y + 1 → up (up (up (up (up (up (up (up I (y + 1) 0 0) (y + 1) 5 400) (y + 1) 6 99) (y + 1) 7 100) (y + 1) 8 0) (y + 1) 9 0) y 2 0) y 5 0 z w = I z w := fun z w h1 h2 => by
    repeat rw [up_no (by omega)]
  refine ⟨_, _, rfl, rfl, rfl, ⟨⟨?_, fun p hp => absurd hp (Nat.not_lt_zero p), ?_, ?_, ?_, ⟨0, ?_, by decide, fun r hr => ?_⟩, ⟨0, ?_, by decide, fun r hr => ?_⟩⟩, ?_, fun p hp => absurd hp (Nat.not_lt_zero p), ⟨⟨by decide, by decide, fun p hp => absurd hp (Nat.not_lt_zero p), fun p r b hp => (by cases hp), by decide, by decide, by decide⟩, fun p hp => rfl, fun r => rfl, fun r hr => rfl, fun p hp => absurd hp (Nat.not_lt_zero p)⟩, fun r hr => absurd hr (Nat.not_lt_zero r), (RPA _ _ (by omega) (by omega)).trans h70, up_eq, fun j hj => absurd hj (Nat.not_lt_zero j), fun r hr => by rw [show r = 0 from Nat.le_zero.mp hr, RPA _ _ (by omega) (by omega), h70]; exact Int.le_refl _⟩, fun z w h1 => RPA z w (by omega) (by omega)⟩
  all_goals first
  | exact ⟨fun q => absurd (bt_hi (Nat.two_pow_pos r)) q, fun q => absurd (show false = true from q) (by decide)⟩
  | (repeat (first | exact up_eq | rw [up_no (by omega)] | rw [up_nj (by decide)]))

end RDL
