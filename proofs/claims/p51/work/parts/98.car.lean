/-! the class: a packet arrives; refused events; the history is cut, begun anew -/
section CAR
variable {xs : List Int} {S : List (Nat × Nat)} {T : Nat → Nat → Nat} {cc zz s q y x : Nat} {h : Hi} {l : Li} {I I' : Ix}
theorem rul_bits {h' : Hi} {np : Nat} {a' : Nat → Nat} {cd : Nat → Cd} (hr8 : lRules l ≤ 8) (hC : ∀ r, r < lRules l → hHol h' np r = hHold h' a' np (cd r)) : wbits (fun r => hHold h' a' np (cd r)) (lRules l) < 256 ∧ ∀ r, r < 8 → (bt (wbits (fun r => hHold h' a' np (cd r)) (lRules l)) r ≠ 0 ↔ (r < lRules l ∧ hHol h' np r = true)) := by
  refine ⟨Nat.lt_of_lt_of_le (wbits_lt _ _) (Nat.pow_le_pow_right (n := 2) (by decide) hr8 : 2 ^ lRules l ≤ 2 ^ 8), fun r hr => ?_⟩
  by_cases h1 : r < lRules l
  · rw [bt_w _ _ h1, hC r h1]
    exact ⟨fun h2 => ⟨h1, h2⟩, fun h2 => h2.2⟩
  · have h2 : bt (wbits (fun r => hHold h' a' np (cd r)) (lRules l)) r = 0 := bt_hi (Nat.lt_of_lt_of_le (wbits_lt _ _) (Nat.pow_le_pow_right (n := 2) (by decide) (by omega)))
    exact ⟨fun h3 => absurd h2 h3, fun h3 => absurd h3.1 h1⟩

theorem s_105 (o : oDropSwitch S T s q y) (ck : oCk S T s) {ne np c : Nat} {a : Nat → Nat} {su : Su} {cd : Nat → Cd} (X : XC I s q h l a ne np su cd c) {p sr tg sz rn : Nat} (hne : ne < 120) (hc1 : c + 1 < 100000) (hp : p < lPorts l) (hs : sr < 64) (ht : tg < 64) (hz : 1 ≤ sz ∧ sz ≤ 9) (hr : rn ≤ 3) : CL xs 105 [vr s, vi ((p : Nat) : Int), vi ((sr : Nat) : Int), vi ((tg : Nat) : Int), vi ((sz : Nat) : Int), vi ((rn : Nat) : Int)] (S, I, T, cc, zz) (RP S T cc zz (fun v I' => v = some (vi (((stepA (addP h a np ne p (sr, tg, sz, rn) cd) l ne (runA (addP h a np ne p (sr, tg, sz, rn) cd) l noOut ne)).2 : Nat) : Int)) ∧ XC I' s q (addP h a np ne p (sr, tg, sz, rn) cd) l (fu a np ne) (ne + 1) (np + 1) su cd (c + 1) ∧ mfK I I' s)) := by
  refine CL_start (r := 6) (ls := [vr s, vi ((p : Nat) : Int), vi ((sr : Nat) : Int), vi ((tg : Nat) : Int), vi ((sz : Nat) : Int), vi ((rn : Nat) : Int), vs 2]) (rk_105 _) rfl ?_
  have K := X.K
  have hne9 := K.2.2.1.2.2.1
  have hnp9 := K.2.2.1.2.2.2.1
  have hl4 := K.2.2.2.2.2.2.2.1.1
  have D := addP_H (p := p) (sr := sr) (tg := tg) (sz := sz) (rn := rn) (cd := cd) K.2.2.2.2.2.2.1 K.2.2.2.2.2.2.2.2.1 X.W hp hs ht hz hr
  have DC := HC_P (ne := ne) (p := p) (f := (sr, tg, sz, rn)) X.W X.D
  have eM : ∀ y z, (y < s + 21 ∨ s + 30 < y) → (up (up (up (up (up (up (up (up (up (up (up (up I (s + 21 + 4) np ((ne : Nat) : Int)) (s + 21 + 5) np ((sr : Nat) : Int)) (s + 21 + 6) np ((tg : Nat) : Int)) (s + 21 + 7) np ((sz : Nat) : Int)) (s + 21 + 8) np ((rn : Nat) : Int)) (s + 21 + 1) ne ((0 : Nat) : Int)) (s + 21 + 2) ne ((p : Nat) : Int)) (s + 21 + 3) ne (-1)) (s + 21) 0 ((ne + 1 : Nat) : Int)) (s + 21 + 3) ne ((np : Nat) : Int)) (s + 21) 1 ((np + 1 : Nat) : Int)) (s + 21 + 9) np (((wbits (fun r => hHold (addP h a np ne p (sr, tg, sz, rn) cd) (fu a np ne) np (cd r)) (lRules l)) : Nat) : Int)) y z = I y z := fun y z hy => by
    repeat rw [up_no (by omega)]
  have eF : mfh I (up (up (up (up (up (up (up (up (up (up (up I (s + 21 + 4) np ((ne : Nat) : Int)) (s + 21 + 5) np ((sr : Nat) : Int)) (s + 21 + 6) np ((tg : Nat) : Int)) (s + 21 + 7) np ((sz : Nat) : Int)) (s + 21 + 8) np ((rn : Nat) : Int)) (s + 21 + 1) ne ((0 : Nat) : Int)) (s + 21 + 2) ne ((p : Nat) : Int)) (s + 21 + 3) ne (-1)) (s + 21) 0 ((ne + 1 : Nat) : Int)) (s + 21 + 3) ne ((np : Nat) : Int)) (s + 21) 1 ((np + 1 : Nat) : Int)) (s + 21) ne np := fun y z h1 h2 h3 => by
    repeat (first | rw [up_no (by omega)] | (rw [up_out (by omega)]))
  have v0 : (up (up (up (up (up (up (up (up (up (up (up I (s + 21 + 4) np ((ne : Nat) : Int)) (s + 21 + 5) np ((sr : Nat) : Int)) (s + 21 + 6) np ((tg : Nat) : Int)) (s + 21 + 7) np ((sz : Nat) : Int)) (s + 21 + 8) np ((rn : Nat) : Int)) (s + 21 + 1) ne ((0 : Nat) : Int)) (s + 21 + 2) ne ((p : Nat) : Int)) (s + 21 + 3) ne (-1)) (s + 21) 0 ((ne + 1 : Nat) : Int)) (s + 21 + 3) ne ((np : Nat) : Int)) (s + 21) 1 ((np + 1 : Nat) : Int)) (s + 21) 0 = ((ne + 1 : Nat) : Int) := by
    repeat (first | rw [up_eq] | rw [up_no (by omega)] | rw [up_nj (by omega)])
    try rfl
  have v1 : (up (up (up (up (up (up (up (up (up (up (up I (s + 21 + 4) np ((ne : Nat) : Int)) (s + 21 + 5) np ((sr : Nat) : Int)) (s + 21 + 6) np ((tg : Nat) : Int)) (s + 21 + 7) np ((sz : Nat) : Int)) (s + 21 + 8) np ((rn : Nat) : Int)) (s + 21 + 1) ne ((0 : Nat) : Int)) (s + 21 + 2) ne ((p : Nat) : Int)) (s + 21 + 3) ne (-1)) (s + 21) 0 ((ne + 1 : Nat) : Int)) (s + 21 + 3) ne ((np : Nat) : Int)) (s + 21) 1 ((np + 1 : Nat) : Int)) (s + 21) 1 = ((np + 1 : Nat) : Int) := by
    repeat (first | rw [up_eq] | rw [up_no (by omega)] | rw [up_nj (by omega)])
    try rfl
  have k1 : (up (up (up (up (up (up (up (up (up (up (up I (s + 21 + 4) np ((ne : Nat) : Int)) (s + 21 + 5) np ((sr : Nat) : Int)) (s + 21 + 6) np ((tg : Nat) : Int)) (s + 21 + 7) np ((sz : Nat) : Int)) (s + 21 + 8) np ((rn : Nat) : Int)) (s + 21 + 1) ne ((0 : Nat) : Int)) (s + 21 + 2) ne ((p : Nat) : Int)) (s + 21 + 3) ne (-1)) (s + 21) 0 ((ne + 1 : Nat) : Int)) (s + 21 + 3) ne ((np : Nat) : Int)) (s + 21) 1 ((np + 1 : Nat) : Int)) (s + 21 + 1) ne = 0 := by
    repeat (first | rw [up_eq] | rw [up_no (by omega)] | rw [up_nj (by omega)])
    try rfl
  have k2 : (up (up (up (up (up (up (up (up (up (up (up I (s + 21 + 4) np ((ne : Nat) : Int)) (s + 21 + 5) np ((sr : Nat) : Int)) (s + 21 + 6) np ((tg : Nat) : Int)) (s + 21 + 7) np ((sz : Nat) : Int)) (s + 21 + 8) np ((rn : Nat) : Int)) (s + 21 + 1) ne ((0 : Nat) : Int)) (s + 21 + 2) ne ((p : Nat) : Int)) (s + 21 + 3) ne (-1)) (s + 21) 0 ((ne + 1 : Nat) : Int)) (s + 21 + 3) ne ((np : Nat) : Int)) (s + 21) 1 ((np + 1 : Nat) : Int)) (s + 21 + 2) ne = ((p : Nat) : Int) := by
    repeat (first | rw [up_eq] | rw [up_no (by omega)] | rw [up_nj (by omega)])
    try rfl
  have k3 : (up (up (up (up (up (up (up (up (up (up (up I (s + 21 + 4) np ((ne : Nat) : Int)) (s + 21 + 5) np ((sr : Nat) : Int)) (s + 21 + 6) np ((tg : Nat) : Int)) (s + 21 + 7) np ((sz : Nat) : Int)) (s + 21 + 8) np ((rn : Nat) : Int)) (s + 21 + 1) ne ((0 : Nat) : Int)) (s + 21 + 2) ne ((p : Nat) : Int)) (s + 21 + 3) ne (-1)) (s + 21) 0 ((ne + 1 : Nat) : Int)) (s + 21 + 3) ne ((np : Nat) : Int)) (s + 21) 1 ((np + 1 : Nat) : Int)) (s + 21 + 3) ne = ((np : Nat) : Int) := by
    repeat (first | rw [up_eq] | rw [up_no (by omega)] | rw [up_nj (by omega)])
    try rfl
  have k4 : (up (up (up (up (up (up (up (up (up (up (up I (s + 21 + 4) np ((ne : Nat) : Int)) (s + 21 + 5) np ((sr : Nat) : Int)) (s + 21 + 6) np ((tg : Nat) : Int)) (s + 21 + 7) np ((sz : Nat) : Int)) (s + 21 + 8) np ((rn : Nat) : Int)) (s + 21 + 1) ne ((0 : Nat) : Int)) (s + 21 + 2) ne ((p : Nat) : Int)) (s + 21 + 3) ne (-1)) (s + 21) 0 ((ne + 1 : Nat) : Int)) (s + 21 + 3) ne ((np : Nat) : Int)) (s + 21) 1 ((np + 1 : Nat) : Int)) (s + 21 + 4) np = ((ne : Nat) : Int) := by
    repeat (first | rw [up_eq] | rw [up_no (by omega)] | rw [up_nj (by omega)])
    try rfl
  have k5 : (up (up (up (up (up (up (up (up (up (up (up I (s + 21 + 4) np ((ne : Nat) : Int)) (s + 21 + 5) np ((sr : Nat) : Int)) (s + 21 + 6) np ((tg : Nat) : Int)) (s + 21 + 7) np ((sz : Nat) : Int)) (s + 21 + 8) np ((rn : Nat) : Int)) (s + 21 + 1) ne ((0 : Nat) : Int)) (s + 21 + 2) ne ((p : Nat) : Int)) (s + 21 + 3) ne (-1)) (s + 21) 0 ((ne + 1 : Nat) : Int)) (s + 21 + 3) ne ((np : Nat) : Int)) (s + 21) 1 ((np + 1 : Nat) : Int)) (s + 21 + 5) np = ((sr : Nat) : Int) := by
    repeat (first | rw [up_eq] | rw [up_no (by omega)] | rw [up_nj (by omega)])
    try rfl
  have k6 : (up (up (up (up (up (up (up (up (up (up (up I (s + 21 + 4) np ((ne : Nat) : Int)) (s + 21 + 5) np ((sr : Nat) : Int)) (s + 21 + 6) np ((tg : Nat) : Int)) (s + 21 + 7) np ((sz : Nat) : Int)) (s + 21 + 8) np ((rn : Nat) : Int)) (s + 21 + 1) ne ((0 : Nat) : Int)) (s + 21 + 2) ne ((p : Nat) : Int)) (s + 21 + 3) ne (-1)) (s + 21) 0 ((ne + 1 : Nat) : Int)) (s + 21 + 3) ne ((np : Nat) : Int)) (s + 21) 1 ((np + 1 : Nat) : Int)) (s + 21 + 6) np = ((tg : Nat) : Int) := by
    repeat (first | rw [up_eq] | rw [up_no (by omega)] | rw [up_nj (by omega)])
    try rfl
  have k7 : (up (up (up (up (up (up (up (up (up (up (up I (s + 21 + 4) np ((ne : Nat) : Int)) (s + 21 + 5) np ((sr : Nat) : Int)) (s + 21 + 6) np ((tg : Nat) : Int)) (s + 21 + 7) np ((sz : Nat) : Int)) (s + 21 + 8) np ((rn : Nat) : Int)) (s + 21 + 1) ne ((0 : Nat) : Int)) (s + 21 + 2) ne ((p : Nat) : Int)) (s + 21 + 3) ne (-1)) (s + 21) 0 ((ne + 1 : Nat) : Int)) (s + 21 + 3) ne ((np : Nat) : Int)) (s + 21) 1 ((np + 1 : Nat) : Int)) (s + 21 + 7) np = ((sz : Nat) : Int) := by
    repeat (first | rw [up_eq] | rw [up_no (by omega)] | rw [up_nj (by omega)])
    try rfl
  have k8 : (up (up (up (up (up (up (up (up (up (up (up I (s + 21 + 4) np ((ne : Nat) : Int)) (s + 21 + 5) np ((sr : Nat) : Int)) (s + 21 + 6) np ((tg : Nat) : Int)) (s + 21 + 7) np ((sz : Nat) : Int)) (s + 21 + 8) np ((rn : Nat) : Int)) (s + 21 + 1) ne ((0 : Nat) : Int)) (s + 21 + 2) ne ((p : Nat) : Int)) (s + 21 + 3) ne (-1)) (s + 21) 0 ((ne + 1 : Nat) : Int)) (s + 21 + 3) ne ((np : Nat) : Int)) (s + 21) 1 ((np + 1 : Nat) : Int)) (s + 21 + 8) np = ((rn : Nat) : Int) := by
    repeat (first | rw [up_eq] | rw [up_no (by omega)] | rw [up_nj (by omega)])
    try rfl
  have hH := cH_P (cd := cd) K.2.2.1 hne (by omega) eF v0 v1 k1 k2 k3 k4 k5 k6 k7 k8
  have hn5 := addP_new (h := h) (a := a) (np := np) (ne := ne) (p := p) (f := (sr, tg, sz, rn)) (cd := cd)
  have hq5 := addP_eq (h := h) (a := a) (np := np) (ne := ne) (p := p) (f := (sr, tg, sz, rn)) (cd := cd)
  have hpp : hKind (addP h a np ne p (sr, tg, sz, rn) cd) ((fu a np ne) np) = 0 ∧ (up (up (up (up (up (up (up (up (up (up (up I (s + 21 + 4) np ((ne : Nat) : Int)) (s + 21 + 5) np ((sr : Nat) : Int)) (s + 21 + 6) np ((tg : Nat) : Int)) (s + 21 + 7) np ((sz : Nat) : Int)) (s + 21 + 8) np ((rn : Nat) : Int)) (s + 21 + 1) ne ((0 : Nat) : Int)) (s + 21 + 2) ne ((p : Nat) : Int)) (s + 21 + 3) ne (-1)) (s + 21) 0 ((ne + 1 : Nat) : Int)) (s + 21 + 3) ne ((np : Nat) : Int)) (s + 21) 1 ((np + 1 : Nat) : Int)) (s + 21 + 2) ((fu a np ne) np) = ((hPort (addP h a np ne p (sr, tg, sz, rn) cd) ((fu a np ne) np) : Nat) : Int) := by
    rw [hn5.2.2.2.2, hq5.1, hq5.2.1]
    exact ⟨rfl, k2⟩
  have hRM : cC (up (up (up (up (up (up (up (up (up (up (up I (s + 21 + 4) np ((ne : Nat) : Int)) (s + 21 + 5) np ((sr : Nat) : Int)) (s + 21 + 6) np ((tg : Nat) : Int)) (s + 21 + 7) np ((sz : Nat) : Int)) (s + 21 + 8) np ((rn : Nat) : Int)) (s + 21 + 1) ne ((0 : Nat) : Int)) (s + 21 + 2) ne ((p : Nat) : Int)) (s + 21 + 3) ne (-1)) (s + 21) 0 ((ne + 1 : Nat) : Int)) (s + 21 + 3) ne ((np : Nat) : Int)) (s + 21) 1 ((np + 1 : Nat) : Int)) q l cd := X.R.eq fun j hj z => by
    have hq := X.hq
    repeat rw [up_no (by omega)]
  have h2M : (up (up (up (up (up (up (up (up (up (up (up I (s + 21 + 4) np ((ne : Nat) : Int)) (s + 21 + 5) np ((sr : Nat) : Int)) (s + 21 + 6) np ((tg : Nat) : Int)) (s + 21 + 7) np ((sz : Nat) : Int)) (s + 21 + 8) np ((rn : Nat) : Int)) (s + 21 + 1) ne ((0 : Nat) : Int)) (s + 21 + 2) ne ((p : Nat) : Int)) (s + 21 + 3) ne (-1)) (s + 21) 0 ((ne + 1 : Nat) : Int)) (s + 21 + 3) ne ((np : Nat) : Int)) (s + 21) 1 ((np + 1 : Nat) : Int)) q 2 = ((lRules l : Nat) : Int) := by
    have hq := X.hq
    repeat rw [up_no (by omega)]
    exact K.2.1
  have hr8 := K.2.2.2.2.2.2.2.1.2.1
  have hH2 : cH (up (up (up (up (up (up (up (up (up (up (up (up I (s + 21 + 4) np ((ne : Nat) : Int)) (s + 21 + 5) np ((sr : Nat) : Int)) (s + 21 + 6) np ((tg : Nat) : Int)) (s + 21 + 7) np ((sz : Nat) : Int)) (s + 21 + 8) np ((rn : Nat) : Int)) (s + 21 + 1) ne ((0 : Nat) : Int)) (s + 21 + 2) ne ((p : Nat) : Int)) (s + 21 + 3) ne (-1)) (s + 21) 0 ((ne + 1 : Nat) : Int)) (s + 21 + 3) ne ((np : Nat) : Int)) (s + 21) 1 ((np + 1 : Nat) : Int)) (s + 21 + 9) np (((wbits (fun r => hHold (addP h a np ne p (sr, tg, sz, rn) cd) (fu a np ne) np (cd r)) (lRules l)) : Nat) : Int)) (s + 21) (addP h a np ne p (sr, tg, sz, rn) cd) (fu a np ne) (ne + 1) (np + 1) := cH_eq hH fun j hj z => up_no (by omega)
  have A9 := X.ae D eM hH2 (fun k hk => by
    by_cases hkn : k = np
    · rw [hkn]
      exact ⟨_, up_eq, rul_bits hr8 fun r hr => DC r hr np (by omega)⟩
    · obtain ⟨d, d1, d2, d3⟩ := X.B.2.1 k (by omega)
      have e9 : (up (up (up (up (up (up (up (up (up (up (up (up I (s + 21 + 4) np ((ne : Nat) : Int)) (s + 21 + 5) np ((sr : Nat) : Int)) (s + 21 + 6) np ((tg : Nat) : Int)) (s + 21 + 7) np ((sz : Nat) : Int)) (s + 21 + 8) np ((rn : Nat) : Int)) (s + 21 + 1) ne ((0 : Nat) : Int)) (s + 21 + 2) ne ((p : Nat) : Int)) (s + 21 + 3) ne (-1)) (s + 21) 0 ((ne + 1 : Nat) : Int)) (s + 21 + 3) ne ((np : Nat) : Int)) (s + 21) 1 ((np + 1 : Nat) : Int)) (s + 21 + 9) np (((wbits (fun r => hHold (addP h a np ne p (sr, tg, sz, rn) cd) (fu a np ne) np (cd r)) (lRules l)) : Nat) : Int)) (s + 30) k = I (s + 30) k := by
        repeat (first | rw [up_no (by omega)] | rw [up_nj (by omega)])
      refine ⟨d, e9.trans d1, d2, fun r hr => ?_⟩
      rw [(addP_old hkn).2.2.2.2.2 r]
      exact d3 r hr)
  have hpk : ∀ e, e < ne + 1 → (up (up (up (up (up (up (up (up (up (up (up (up I (s + 21 + 4) np ((ne : Nat) : Int)) (s + 21 + 5) np ((sr : Nat) : Int)) (s + 21 + 6) np ((tg : Nat) : Int)) (s + 21 + 7) np ((sz : Nat) : Int)) (s + 21 + 8) np ((rn : Nat) : Int)) (s + 21 + 1) ne ((0 : Nat) : Int)) (s + 21 + 2) ne ((p : Nat) : Int)) (s + 21 + 3) ne (-1)) (s + 21) 0 ((ne + 1 : Nat) : Int)) (s + 21 + 3) ne ((np : Nat) : Int)) (s + 21) 1 ((np + 1 : Nat) : Int)) (s + 21 + 9) np (((wbits (fun r => hHold (addP h a np ne p (sr, tg, sz, rn) cd) (fu a np ne) np (cd r)) (lRules l)) : Nat) : Int)) (s + 24) e = pkO (addP h a np ne p (sr, tg, sz, rn) cd) e := fun e he => by
    by_cases hee : e = ne
    · rw [hee]
      unfold pkO
      rw [hq5.1, if_pos rfl, hq5.2.2]
      repeat (first | rw [up_eq] | rw [up_no (by omega)] | rw [up_nj (by omega)])
    · unfold pkO
      rw [(addP_ne hee).1, (addP_ne hee).2.2]
      refine Eq.trans ?_ (X.pk e (by omega))
      repeat (first | rw [up_no (by omega)] | rw [up_out (by omega)])
  refine w_aln l_105_0 rfl ?_
  refine w_iln l_105_1 rfl ?_
  refine q_iv [vi ((p : Nat) : Int)] [] l_105_2 rfl rfl (Nat.le_of_ble_eq_true rfl) (by rw [mx_147]; exact Nat.le_of_ble_eq_true rfl) (by rw [mt_147]; exact oDropSwitch_sh o) (by rw [mt_147]; decide) (by rw [rk_147]; decide) (s_147 o X.K hp) ?_
  refine w_aln l_105_5 rfl ?_
  refine w_iln l_105_6 rfl ?_
  refine q_iv [vi ((sr : Nat) : Int)] [] l_105_7 rfl rfl (Nat.le_of_ble_eq_true rfl) (by rw [mx_153]; exact Nat.le_of_ble_eq_true rfl) (by rw [mt_153]; exact oDropSwitch_sh o) (by rw [mt_153]; decide) (by rw [rk_153]; decide) (s_153 o X.K hs) ?_
  refine w_aln l_105_10 rfl ?_
  refine w_iln l_105_11 rfl ?_
  refine q_iv [vi ((tg : Nat) : Int)] [] l_105_12 rfl rfl (Nat.le_of_ble_eq_true rfl) (by rw [mx_153]; exact Nat.le_of_ble_eq_true rfl) (by rw [mt_153]; exact oDropSwitch_sh o) (by rw [mt_153]; decide) (by rw [rk_153]; decide) (s_153 o X.K ht) ?_
  refine w_il l_105_15 rfl ?_
  refine w_ic l_105_17 (by decide) ?_
  refine w_clt 39 l_105_18 (by decide) (fun hx => absurd hx (by omega)) (fun _ => ?_)
  refine w_il l_105_21 rfl ?_
  refine w_bp l_105_23 (by decide) ?_
  refine w_cgt 39 l_105_25 (by decide) (fun hx => absurd hx (by omega)) (fun _ => ?_)
  refine w_il l_105_28 rfl ?_
  refine w_zlt 39 l_105_30 (by decide) (fun hx => absurd hx (by omega)) (fun _ => ?_)
  refine w_il l_105_33 rfl ?_
  refine w_ic l_105_35 (by decide) ?_
  refine w_cle 47 l_105_36 (by decide) (fun _ => ?_) (fun hx => absurd hx (by omega))
  refine w_aln l_105_47 rfl ?_
  refine q_iv [] [] l_105_48 rfl rfl (Nat.le_of_ble_eq_true rfl) (by rw [mx_155]; exact Nat.le_of_ble_eq_true rfl) (by rw [mt_155]; exact oDropSwitch_sh o) (by rw [mt_155]; decide) (by rw [rk_155]; decide) (s_155 o X.K hne) ?_
  refine w_aln l_105_51 rfl ?_
  refine w_gr l_105_52 (oDropSwitch_sh o) (oDropSwitch_r6 o) ?_
  refine w_gi ((np : Nat) : Int) l_105_55 (oHistory_sh (oDropSwitch_o6 o)) X.K.2.2.1.2.1 ?_
  refine w_is l_105_58 ⟨Nat.le_of_ble_eq_true rfl, rfl⟩ ?_
  refine w_aln l_105_60 rfl ?_
  refine w_gr l_105_61 (oDropSwitch_sh o) (oDropSwitch_r6 o) ?_
  refine w_iln l_105_64 rfl ?_
  refine w_iln l_105_65 rfl ?_
  refine w_iln l_105_66 rfl ?_
  refine w_il l_105_67 rfl ?_
  refine w_il l_105_69 rfl ?_
  refine q_iv [vi ((p : Nat) : Int), vi ((sr : Nat) : Int), vi ((tg : Nat) : Int), vi ((sz : Nat) : Int), vi ((rn : Nat) : Int)] [] l_105_71 rfl rfl (Nat.le_of_ble_eq_true rfl) (by rw [mx_2]; exact Nat.le_of_ble_eq_true rfl) (by rw [mt_2]; exact oHistory_sh (oDropSwitch_o6 o)) (by rw [mt_2]; decide) (by rw [rk_2]; decide) (s_2 (oDropSwitch_o6 o) K.2.2.1.1 hne K.2.2.1.2.1 hnp9) ?_
  refine w_aln l_105_74 rfl ?_
  refine w_gr l_105_75 (oDropSwitch_sh o) (oDropSwitch_r6 o) ?_
  refine w_gr l_105_78 (oHistory_sh (oDropSwitch_o6 o)) (oHistory_r10 (oDropSwitch_o6 o)) ?_
  refine w_il l_105_81 rfl ?_
  refine w_aln l_105_83 rfl ?_
  refine w_gr l_105_84 (oDropSwitch_sh o) (oDropSwitch_r5 o) ?_
  refine w_aln l_105_87 rfl ?_
  refine w_gr l_105_88 (oDropSwitch_sh o) (oDropSwitch_r6 o) ?_
  refine w_il l_105_91 rfl ?_
  refine q_iv [vr (s + 21), vi ((np : Nat) : Int)] [vi ((np : Nat) : Int), vr (s + 21 + 9)] l_105_93 rfl rfl (Nat.le_of_ble_eq_true rfl) (by rw [mx_72]; exact Nat.le_of_ble_eq_true rfl) (by rw [mt_72]; exact oSetup_sh (oDropSwitch_o5 o)) (by rw [mt_72]; decide) (by rw [rk_72]; decide) (s_72 (oDropSwitch_o5 o) (oDropSwitch_o6 o) hH (Nat.lt_succ_self np) hpp h2M hr8 hRM) ?_
  refine w_iS np l_105_96 (oHistory_s10 (oDropSwitch_o6 o)) rfl (by omega) ?_
  refine w_aln l_105_97 rfl ?_
  refine p_iv [] [] l_105_98 rfl rfl (Nat.le_of_ble_eq_true rfl) (by rw [mx_158]; exact Nat.le_of_ble_eq_true rfl) (by rw [mt_158]; exact oDropSwitch_sh o) (by rw [mt_158]; decide) (by rw [rk_158]; decide) (s_158 o ck A9 hc1) (fun v I1 hv => ?_)
  obtain ⟨rfl, hR, hP, hC, h12, fq⟩ := hv
  refine w_ir l_105_101 (Or.inl rfl) ?_
  exact ⟨_, _, rfl, rfl, rfl, X.done D DC eM A9 hpk hc1 hR hP hC h12 fq, fq.K eM⟩

theorem s_106n (o : oDropSwitch S T s q y) {ne np : Nat} {a : Nat → Nat} (K : KQ I s q h l a ne np) (hne : ne = 120) (hc : 1 ≤ cc ∧ 6 ≤ zz) : CL xs 106 [vr s] (S, I, T, cc, zz) (TH 2 (S, I, T, cc - 1, zz - 6)) := by
  refine CL_start (r := 6) (ls := [vr s]) (rk_106 _) rfl ?_
  refine w_aln l_106_0 rfl ?_
  refine t_iv [] [] l_106_1 rfl rfl (Nat.le_of_ble_eq_true rfl) (by rw [mx_155]; exact Nat.le_of_ble_eq_true rfl) (by rw [mt_155]; exact oDropSwitch_sh o) (by rw [mt_155]; decide) (by rw [rk_155]; decide) (s_155n o K hne hc) (by decide +kernel) ?_
  exact ⟨rfl, rfl⟩

theorem s_107n0 (o : oDropSwitch S T s q y) {ne np : Nat} {a : Nat → Nat} (K : KQ I s q h l a ne np) {p : Int} (hp : ¬ (0 ≤ p ∧ p < ((lPorts l : Nat) : Int))) (hc : 1 ≤ cc ∧ 6 ≤ zz) : CL xs 107 [vr s, vi p, vi 0] (S, I, T, cc, zz) (TH 0 (S, I, T, cc - 1, zz - 6)) := by
  refine CL_start (r := 6) (ls := [vr s, vi p, vi 0]) (rk_107 _) rfl ?_
  refine w_aln l_107_0 rfl ?_
  refine w_iln l_107_1 rfl ?_
  refine t_iv [vi p] [] l_107_2 rfl rfl (Nat.le_of_ble_eq_true rfl) (by rw [mx_147]; exact Nat.le_of_ble_eq_true rfl) (by rw [mt_147]; exact oDropSwitch_sh o) (by rw [mt_147]; decide) (by rw [rk_147]; decide) (s_147n o K hp hc) (by decide +kernel) ?_
  exact ⟨rfl, rfl⟩

theorem s_107f0 (o : oDropSwitch S T s q y) {ne np : Nat} {a : Nat → Nat} (K : KQ I s q h l a ne np) {p : Nat} (hp : p < lPorts l) (hne : ne = 120) (hc : 1 ≤ cc ∧ 6 ≤ zz) : CL xs 107 [vr s, vi ((p : Nat) : Int), vi 0] (S, I, T, cc, zz) (TH 2 (S, I, T, cc - 1, zz - 6)) := by
  refine CL_start (r := 6) (ls := [vr s, vi ((p : Nat) : Int), vi 0]) (rk_107 _) rfl ?_
  refine w_aln l_107_0 rfl ?_
  refine w_iln l_107_1 rfl ?_
  refine q_iv [vi ((p : Nat) : Int)] [] l_107_2 rfl rfl (Nat.le_of_ble_eq_true rfl) (by rw [mx_147]; exact Nat.le_of_ble_eq_true rfl) (by rw [mt_147]; exact oDropSwitch_sh o) (by rw [mt_147]; decide) (by rw [rk_147]; decide) (s_147 o K hp) ?_
  refine w_aln l_107_5 rfl ?_
  refine t_iv [] [] l_107_6 rfl rfl (Nat.le_of_ble_eq_true rfl) (by rw [mx_155]; exact Nat.le_of_ble_eq_true rfl) (by rw [mt_155]; exact oDropSwitch_sh o) (by rw [mt_155]; decide) (by rw [rk_155]; decide) (s_155n o K hne hc) (by decide +kernel) ?_
  exact ⟨rfl, rfl⟩

theorem s_107n1 (o : oDropSwitch S T s q y) {ne np : Nat} {a : Nat → Nat} (K : KQ I s q h l a ne np) {p : Int} (hp : ¬ (0 ≤ p ∧ p < ((lPorts l : Nat) : Int))) (hc : 1 ≤ cc ∧ 6 ≤ zz) : CL xs 107 [vr s, vi p, vi 1] (S, I, T, cc, zz) (TH 0 (S, I, T, cc - 1, zz - 6)) := by
  refine CL_start (r := 6) (ls := [vr s, vi p, vi 1]) (rk_107 _) rfl ?_
  refine w_aln l_107_0 rfl ?_
  refine w_iln l_107_1 rfl ?_
  refine t_iv [vi p] [] l_107_2 rfl rfl (Nat.le_of_ble_eq_true rfl) (by rw [mx_147]; exact Nat.le_of_ble_eq_true rfl) (by rw [mt_147]; exact oDropSwitch_sh o) (by rw [mt_147]; decide) (by rw [rk_147]; decide) (s_147n o K hp hc) (by decide +kernel) ?_
  exact ⟨rfl, rfl⟩

theorem s_107f1 (o : oDropSwitch S T s q y) {ne np : Nat} {a : Nat → Nat} (K : KQ I s q h l a ne np) {p : Nat} (hp : p < lPorts l) (hne : ne = 120) (hc : 1 ≤ cc ∧ 6 ≤ zz) : CL xs 107 [vr s, vi ((p : Nat) : Int), vi 1] (S, I, T, cc, zz) (TH 2 (S, I, T, cc - 1, zz - 6)) := by
  refine CL_start (r := 6) (ls := [vr s, vi ((p : Nat) : Int), vi 1]) (rk_107 _) rfl ?_
  refine w_aln l_107_0 rfl ?_
  refine w_iln l_107_1 rfl ?_
  refine q_iv [vi ((p : Nat) : Int)] [] l_107_2 rfl rfl (Nat.le_of_ble_eq_true rfl) (by rw [mx_147]; exact Nat.le_of_ble_eq_true rfl) (by rw [mt_147]; exact oDropSwitch_sh o) (by rw [mt_147]; decide) (by rw [rk_147]; decide) (s_147 o K hp) ?_
  refine w_aln l_107_5 rfl ?_
  refine t_iv [] [] l_107_6 rfl rfl (Nat.le_of_ble_eq_true rfl) (by rw [mx_155]; exact Nat.le_of_ble_eq_true rfl) (by rw [mt_155]; exact oDropSwitch_sh o) (by rw [mt_155]; decide) (by rw [rk_155]; decide) (s_155n o K hne hc) (by decide +kernel) ?_
  exact ⟨rfl, rfl⟩

theorem s_105n (o : oDropSwitch S T s q y) {ne np : Nat} {a : Nat → Nat} (K : KQ I s q h l a ne np) {p sr tg sz rn : Int} (hp : ¬ (0 ≤ p ∧ p < ((lPorts l : Nat) : Int))) (hc : 1 ≤ cc ∧ 6 ≤ zz) : CL xs 105 [vr s, vi p, vi sr, vi tg, vi sz, vi rn] (S, I, T, cc, zz) (TH 0 (S, I, T, cc - 1, zz - 6)) := by
  refine CL_start (r := 6) (ls := [vr s, vi p, vi sr, vi tg, vi sz, vi rn, vs 2]) (rk_105 _) rfl ?_
  refine w_aln l_105_0 rfl ?_
  refine w_iln l_105_1 rfl ?_
  refine t_iv [vi p] [] l_105_2 rfl rfl (Nat.le_of_ble_eq_true rfl) (by rw [mx_147]; exact Nat.le_of_ble_eq_true rfl) (by rw [mt_147]; exact oDropSwitch_sh o) (by rw [mt_147]; decide) (by rw [rk_147]; decide) (s_147n o K hp hc) (by decide +kernel) ?_
  exact ⟨rfl, rfl⟩

theorem s_105a (o : oDropSwitch S T s q y) {ne np : Nat} {a : Nat → Nat} (K : KQ I s q h l a ne np) {p : Nat} {sr tg sz rn : Int} (hp : p < lPorts l) (hs : ¬ (0 ≤ sr ∧ sr ≤ 63)) (hc : 1 ≤ cc ∧ 6 ≤ zz) : CL xs 105 [vr s, vi ((p : Nat) : Int), vi sr, vi tg, vi sz, vi rn] (S, I, T, cc, zz) (TH 1 (S, I, T, cc - 1, zz - 6)) := by
  refine CL_start (r := 6) (ls := [vr s, vi ((p : Nat) : Int), vi sr, vi tg, vi sz, vi rn, vs 2]) (rk_105 _) rfl ?_
  refine w_aln l_105_0 rfl ?_
  refine w_iln l_105_1 rfl ?_
  refine q_iv [vi ((p : Nat) : Int)] [] l_105_2 rfl rfl (Nat.le_of_ble_eq_true rfl) (by rw [mx_147]; exact Nat.le_of_ble_eq_true rfl) (by rw [mt_147]; exact oDropSwitch_sh o) (by rw [mt_147]; decide) (by rw [rk_147]; decide) (s_147 o K hp) ?_
  refine w_aln l_105_5 rfl ?_
  refine w_iln l_105_6 rfl ?_
  refine t_iv [vi sr] [] l_105_7 rfl rfl (Nat.le_of_ble_eq_true rfl) (by rw [mx_153]; exact Nat.le_of_ble_eq_true rfl) (by rw [mt_153]; exact oDropSwitch_sh o) (by rw [mt_153]; decide) (by rw [rk_153]; decide) (s_153n o K hs hc) (by decide +kernel) ?_
  exact ⟨rfl, rfl⟩

theorem s_105b (o : oDropSwitch S T s q y) {ne np : Nat} {a : Nat → Nat} (K : KQ I s q h l a ne np) {p sr : Nat} {tg sz rn : Int} (hp : p < lPorts l) (hs : sr < 64) (ht : ¬ (0 ≤ tg ∧ tg ≤ 63)) (hc : 1 ≤ cc ∧ 6 ≤ zz) : CL xs 105 [vr s, vi ((p : Nat) : Int), vi ((sr : Nat) : Int), vi tg, vi sz, vi rn] (S, I, T, cc, zz) (TH 1 (S, I, T, cc - 1, zz - 6)) := by
  refine CL_start (r := 6) (ls := [vr s, vi ((p : Nat) : Int), vi ((sr : Nat) : Int), vi tg, vi sz, vi rn, vs 2]) (rk_105 _) rfl ?_
  refine w_aln l_105_0 rfl ?_
  refine w_iln l_105_1 rfl ?_
  refine q_iv [vi ((p : Nat) : Int)] [] l_105_2 rfl rfl (Nat.le_of_ble_eq_true rfl) (by rw [mx_147]; exact Nat.le_of_ble_eq_true rfl) (by rw [mt_147]; exact oDropSwitch_sh o) (by rw [mt_147]; decide) (by rw [rk_147]; decide) (s_147 o K hp) ?_
  refine w_aln l_105_5 rfl ?_
  refine w_iln l_105_6 rfl ?_
  refine q_iv [vi ((sr : Nat) : Int)] [] l_105_7 rfl rfl (Nat.le_of_ble_eq_true rfl) (by rw [mx_153]; exact Nat.le_of_ble_eq_true rfl) (by rw [mt_153]; exact oDropSwitch_sh o) (by rw [mt_153]; decide) (by rw [rk_153]; decide) (s_153 o K hs) ?_
  refine w_aln l_105_10 rfl ?_
  refine w_iln l_105_11 rfl ?_
  refine t_iv [vi tg] [] l_105_12 rfl rfl (Nat.le_of_ble_eq_true rfl) (by rw [mx_153]; exact Nat.le_of_ble_eq_true rfl) (by rw [mt_153]; exact oDropSwitch_sh o) (by rw [mt_153]; decide) (by rw [rk_153]; decide) (s_153n o K ht hc) (by decide +kernel) ?_
  exact ⟨rfl, rfl⟩

theorem s_105c (o : oDropSwitch S T s q y) {ne np : Nat} {a : Nat → Nat} (K : KQ I s q h l a ne np) {p sr tg : Nat} {sz rn : Int} (hp : p < lPorts l) (hs : sr < 64) (ht : tg < 64) (hb : ¬ ((1 ≤ sz ∧ sz ≤ 9) ∧ (0 ≤ rn ∧ rn ≤ 3))) (hc : 1 ≤ cc ∧ 6 ≤ zz) : CL xs 105 [vr s, vi ((p : Nat) : Int), vi ((sr : Nat) : Int), vi ((tg : Nat) : Int), vi sz, vi rn] (S, I, T, cc, zz) (TH 1 (S, I, T, cc - 1, zz - 6)) := by
  refine CL_start (r := 6) (ls := [vr s, vi ((p : Nat) : Int), vi ((sr : Nat) : Int), vi ((tg : Nat) : Int), vi sz, vi rn, vs 2]) (rk_105 _) rfl ?_
  refine w_aln l_105_0 rfl ?_
  refine w_iln l_105_1 rfl ?_
  refine q_iv [vi ((p : Nat) : Int)] [] l_105_2 rfl rfl (Nat.le_of_ble_eq_true rfl) (by rw [mx_147]; exact Nat.le_of_ble_eq_true rfl) (by rw [mt_147]; exact oDropSwitch_sh o) (by rw [mt_147]; decide) (by rw [rk_147]; decide) (s_147 o K hp) ?_
  refine w_aln l_105_5 rfl ?_
  refine w_iln l_105_6 rfl ?_
  refine q_iv [vi ((sr : Nat) : Int)] [] l_105_7 rfl rfl (Nat.le_of_ble_eq_true rfl) (by rw [mx_153]; exact Nat.le_of_ble_eq_true rfl) (by rw [mt_153]; exact oDropSwitch_sh o) (by rw [mt_153]; decide) (by rw [rk_153]; decide) (s_153 o K hs) ?_
  refine w_aln l_105_10 rfl ?_
  refine w_iln l_105_11 rfl ?_
  refine q_iv [vi ((tg : Nat) : Int)] [] l_105_12 rfl rfl (Nat.le_of_ble_eq_true rfl) (by rw [mx_153]; exact Nat.le_of_ble_eq_true rfl) (by rw [mt_153]; exact oDropSwitch_sh o) (by rw [mt_153]; decide) (by rw [rk_153]; decide) (s_153 o K ht) ?_
  refine w_il l_105_15 rfl ?_
  refine w_ic l_105_17 (by decide) ?_
  refine w_clt 39 l_105_18 (by decide) (fun h1 => ?_) (fun h1 => ?_)
  · skip
    refine w_th l_105_39 ⟨hc.1, hc.2, Nat.le_of_ble_eq_true rfl⟩ ?_
    exact ⟨rfl, rfl⟩
  · skip
    refine w_il l_105_21 rfl ?_
    refine w_bp l_105_23 (by decide) ?_
    refine w_cgt 39 l_105_25 (by decide) (fun h2 => ?_) (fun h2 => ?_)
    · skip
      refine w_th l_105_39 ⟨hc.1, hc.2, Nat.le_of_ble_eq_true rfl⟩ ?_
      exact ⟨rfl, rfl⟩
    · skip
      refine w_il l_105_28 rfl ?_
      refine w_zlt 39 l_105_30 (by decide) (fun h3 => ?_) (fun h3 => ?_)
      · skip
        refine w_th l_105_39 ⟨hc.1, hc.2, Nat.le_of_ble_eq_true rfl⟩ ?_
        exact ⟨rfl, rfl⟩
      · skip
        refine w_il l_105_33 rfl ?_
        refine w_ic l_105_35 (by decide) ?_
        refine w_cle 47 l_105_36 (by decide) (fun h4 => ?_) (fun h4 => ?_)
        · skip
          exfalso
          omega
        · skip
          refine w_th l_105_39 ⟨hc.1, hc.2, Nat.le_of_ble_eq_true rfl⟩ ?_
          exact ⟨rfl, rfl⟩

theorem s_105f (o : oDropSwitch S T s q y) {ne np : Nat} {a : Nat → Nat} (K : KQ I s q h l a ne np) {p sr tg sz rn : Nat} (hp : p < lPorts l) (hs : sr < 64) (ht : tg < 64) (hz : 1 ≤ sz ∧ sz ≤ 9) (hr : rn ≤ 3) (hne : ne = 120) (hc : 1 ≤ cc ∧ 6 ≤ zz) : CL xs 105 [vr s, vi ((p : Nat) : Int), vi ((sr : Nat) : Int), vi ((tg : Nat) : Int), vi ((sz : Nat) : Int), vi ((rn : Nat) : Int)] (S, I, T, cc, zz) (TH 2 (S, I, T, cc - 1, zz - 6)) := by
  refine CL_start (r := 6) (ls := [vr s, vi ((p : Nat) : Int), vi ((sr : Nat) : Int), vi ((tg : Nat) : Int), vi ((sz : Nat) : Int), vi ((rn : Nat) : Int), vs 2]) (rk_105 _) rfl ?_
  refine w_aln l_105_0 rfl ?_
  refine w_iln l_105_1 rfl ?_
  refine q_iv [vi ((p : Nat) : Int)] [] l_105_2 rfl rfl (Nat.le_of_ble_eq_true rfl) (by rw [mx_147]; exact Nat.le_of_ble_eq_true rfl) (by rw [mt_147]; exact oDropSwitch_sh o) (by rw [mt_147]; decide) (by rw [rk_147]; decide) (s_147 o K hp) ?_
  refine w_aln l_105_5 rfl ?_
  refine w_iln l_105_6 rfl ?_
  refine q_iv [vi ((sr : Nat) : Int)] [] l_105_7 rfl rfl (Nat.le_of_ble_eq_true rfl) (by rw [mx_153]; exact Nat.le_of_ble_eq_true rfl) (by rw [mt_153]; exact oDropSwitch_sh o) (by rw [mt_153]; decide) (by rw [rk_153]; decide) (s_153 o K hs) ?_
  refine w_aln l_105_10 rfl ?_
  refine w_iln l_105_11 rfl ?_
  refine q_iv [vi ((tg : Nat) : Int)] [] l_105_12 rfl rfl (Nat.le_of_ble_eq_true rfl) (by rw [mx_153]; exact Nat.le_of_ble_eq_true rfl) (by rw [mt_153]; exact oDropSwitch_sh o) (by rw [mt_153]; decide) (by rw [rk_153]; decide) (s_153 o K ht) ?_
  refine w_il l_105_15 rfl ?_
  refine w_ic l_105_17 (by decide) ?_
  refine w_clt 39 l_105_18 (by decide) (fun hx => absurd hx (by omega)) (fun _ => ?_)
  refine w_il l_105_21 rfl ?_
  refine w_bp l_105_23 (by decide) ?_
  refine w_cgt 39 l_105_25 (by decide) (fun hx => absurd hx (by omega)) (fun _ => ?_)
  refine w_il l_105_28 rfl ?_
  refine w_zlt 39 l_105_30 (by decide) (fun hx => absurd hx (by omega)) (fun _ => ?_)
  refine w_il l_105_33 rfl ?_
  refine w_ic l_105_35 (by decide) ?_
  refine w_cle 47 l_105_36 (by decide) (fun _ => ?_) (fun hx => absurd hx (by omega))
  refine w_aln l_105_47 rfl ?_
  refine t_iv [] [] l_105_48 rfl rfl (Nat.le_of_ble_eq_true rfl) (by rw [mx_155]; exact Nat.le_of_ble_eq_true rfl) (by rw [mt_155]; exact oDropSwitch_sh o) (by rw [mt_155]; decide) (by rw [rk_155]; decide) (s_155n o K hne hc) (by decide +kernel) ?_
  exact ⟨rfl, rfl⟩

theorem mx_3 : mxl 3 = 3 := by decide +kernel
theorem mt_3 : mtc 3 = 0 := by decide +kernel
theorem rk_3 (as : List AV) : rkA 3 as = 0 := rfl
theorem l_3_0 : look 3 0 = some (.aload_n 0, 1, 0, 0, 0, 0) := by decide +kernel
theorem l_3_1 : look 3 1 = some (.iload_n 1, 1, 0, 0, 0, 0) := by decide +kernel
theorem l_3_2 : look 3 2 = some (.putfield 39, 3, 0, 0, 0, 506) := by decide +kernel
theorem l_3_5 : look 3 5 = some (.aload_n 0, 1, 0, 0, 0, 0) := by decide +kernel
theorem l_3_6 : look 3 6 = some (.iconst 0, 1, 0, 0, 0, 0) := by decide +kernel
theorem l_3_7 : look 3 7 = some (.putfield 43, 3, 0, 1, 0, 508) := by decide +kernel
theorem l_3_10 : look 3 10 = some (.iconst 0, 1, 0, 0, 0, 0) := by decide +kernel
theorem l_3_11 : look 3 11 = some (.istore_n 2, 1, 0, 0, 0, 0) := by decide +kernel
theorem l_3_12 : look 3 12 = some (.iload_n 2, 1, 0, 0, 0, 0) := by decide +kernel
theorem l_3_13 : look 3 13 = some (.iload_n 1, 1, 0, 0, 0, 0) := by decide +kernel
theorem l_3_14 : look 3 14 = some (.if_icmp .ge 28, 3, 0, 0, 0, 0) := by decide +kernel
theorem l_3_17 : look 3 17 = some (.aload_n 0, 1, 0, 0, 0, 0) := by decide +kernel
theorem l_3_18 : look 3 18 = some (.getfield 9, 3, 0, 2, 2, 510) := by decide +kernel
theorem l_3_21 : look 3 21 = some (.iload_n 2, 1, 0, 0, 0, 0) := by decide +kernel
theorem l_3_22 : look 3 22 = some (.iaload, 1, 0, 0, 0, 0) := by decide +kernel
theorem l_3_23 : look 3 23 = some (.ifCond .ne 13, 3, 0, 0, 0, 0) := by decide +kernel
theorem l_3_26 : look 3 26 = some (.aload_n 0, 1, 0, 0, 0, 0) := by decide +kernel
theorem l_3_27 : look 3 27 = some (.dup, 1, 0, 0, 0, 0) := by decide +kernel
theorem l_3_28 : look 3 28 = some (.getfield 43, 3, 0, 1, 0, 508) := by decide +kernel
theorem l_3_31 : look 3 31 = some (.iconst 1, 1, 0, 0, 0, 0) := by decide +kernel
theorem l_3_32 : look 3 32 = some (.iadd, 1, 0, 0, 0, 0) := by decide +kernel
theorem l_3_33 : look 3 33 = some (.putfield 43, 3, 0, 1, 0, 508) := by decide +kernel
theorem l_3_36 : look 3 36 = some (.iinc 2 1, 3, 0, 0, 0, 0) := by decide +kernel
theorem l_3_39 : look 3 39 = some (.goto (-27), 3, 0, 0, 0, 0) := by decide +kernel
theorem l_3_42 : look 3 42 = some (.return_, 1, 0, 0, 0, 0) := by decide +kernel
theorem lp_3 (oh : oHistory S T x) {a : Nat → Nat} {ne np m : Nat} (H : cH I x h a ne np) (hm : m ≤ ne) : ∀ d k, k + d = m → WP xs 3 0 12 [vr x, vi ((m : Nat) : Int), vi ((k : Nat) : Int)] [] (S, (up (up I x 0 ((m : Nat) : Int)) x 1 ((arr h k : Nat) : Int)), T, cc, zz) (FN none (S, (up (up I x 0 ((m : Nat) : Int)) x 1 ((arr h m : Nat) : Int)), T, cc, zz)) := by
  intro d
  have h120 := H.2.2.1
  induction d with
  | zero =>
    intro k hk
    refine w_iln l_3_12 rfl ?_
    refine w_iln l_3_13 rfl ?_
    refine w_cge 42 l_3_14 (by decide) (fun _ => ?_) (fun hx => absurd hx (by omega))
    refine w_vr l_3_42 ?_
    have e9 : k = m := by omega
    rw [e9]
    exact ⟨rfl, rfl⟩
  | succ d ih =>
    intro k hk
    have hak := arr_e (h := h) k
    refine w_iln l_3_12 rfl ?_
    refine w_iln l_3_13 rfl ?_
    refine w_cge 42 l_3_14 (by decide) (fun hx => absurd hx (by omega)) (fun _ => ?_)
    refine w_aln l_3_17 rfl ?_
    refine w_gr l_3_18 (oHistory_sh oh) (oHistory_r2 oh) ?_
    refine w_iln l_3_21 rfl ?_
    refine w_ia k (((hKind h k) : Nat) : Int) l_3_22 (oHistory_s2 oh) rfl (by omega) ((up_no (by omega)).trans ((up_no (by omega)).trans (H.2.2.2.2.1 k (by omega)).1)) ?_
    refine w_zne 36 l_3_23 (by decide) (fun h1 => ?_) (fun h1 => ?_)
    · skip
      refine w_inc ((k + 1 : Nat) : Int) l_3_36 rfl rfl (by unfold wr; omega) ?_
      refine w_go 12 l_3_39 (by decide) ?_
      have e9 : arr h (k + 1) = arr h k := if_neg (by omega)
      have g := ih (k + 1) (by omega)
      rw [e9] at g
      exact g
    · skip
      refine w_aln l_3_26 rfl ?_
      refine w_dup l_3_27 rfl ?_
      refine w_gi (((arr h k) : Nat) : Int) l_3_28 (oHistory_sh oh) up_eq ?_
      refine w_ic l_3_31 (by decide) ?_
      refine w_add (((arr h k + 1) : Nat) : Int) l_3_32 (by unfold wr; omega) ?_
      refine w_pi l_3_33 (oHistory_sh oh) ?_
      refine w_inc ((k + 1 : Nat) : Int) l_3_36 rfl rfl (by unfold wr; omega) ?_
      refine w_go 12 l_3_39 (by decide) ?_
      rw [up_up]
      have e9 : arr h (k + 1) = arr h k + 1 := if_pos (by omega)
      have g := ih (k + 1) (by omega)
      rw [e9] at g
      exact g
theorem s_3 (oh : oHistory S T x) {a : Nat → Nat} {ne np m : Nat} (H : cH I x h a ne np) (hm : m ≤ ne) : CL xs 3 [vr x, vi ((m : Nat) : Int)] (S, I, T, cc, zz) (FN none (S, (up (up I x 0 ((m : Nat) : Int)) x 1 ((arr h m : Nat) : Int)), T, cc, zz)) := by
  refine CL_start (r := 0) (ls := [vr x, vi ((m : Nat) : Int), vs 2]) (rk_3 _) rfl ?_
  refine w_aln l_3_0 rfl ?_
  refine w_iln l_3_1 rfl ?_
  refine w_pi l_3_2 (oHistory_sh oh) ?_
  refine w_aln l_3_5 rfl ?_
  refine w_ic l_3_6 (by decide) ?_
  refine w_pi l_3_7 (oHistory_sh oh) ?_
  refine w_ic l_3_10 (by decide) ?_
  refine w_isn l_3_11 ⟨Nat.le_of_ble_eq_true rfl, rfl⟩ ?_
  exact lp_3 oh H hm m 0 (Nat.zero_add _)

end CAR
