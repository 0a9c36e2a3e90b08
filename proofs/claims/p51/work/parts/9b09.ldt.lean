/-! contract: a text is handed to the class, and loaded (on) -/
/-- while the text is handed over: k bytes are in -/
def LO (S0 : List (Nat × Nat)) (I0 : Ix) (T0 : Nat → Nat → Nat) (cc0 zz0 s o b : Nat) (t : List Int) (F : List (Nat × Nat) → Ix → (Nat → Nat → Nat) → (Nat → Int) → Nat → Prop) (k : Nat) (S : List (Nat × Nat)) (I : Ix) (T : Nat → Nat → Nat) (cc zz : Nat) : Prop :=
  (∃ L1, S = S0 ++ L1) ∧ (∃ bf : Nat → Int, F S I T bf k ∧ ∀ m, m < k → m < t.length → bf m = t.getD m 0) ∧ TXT S I T o b t ∧ (∀ z w, z < S0.length → (z < s ∨ s + 163 ≤ z) → I z w = I0 z w ∧ T z w = T0 z w) ∧ cc0 ≤ cc + k ∧ zz0 ≤ zz + k ∧ k ≤ 320
section LDO
variable {xs : List Int} {S S0 : List (Nat × Nat)} {I I0 : Ix} {T T0 : Nat → Nat → Nat} {cc zz cc0 zz0 : Nat} {Q : Res → Mem → Prop} {s q y o b k r : Nat} {t : List Int} {pv : Int} {h : Hi} {l : Li} {a : Nat → Nat} {ne np c : Nat} {su : Su} {cd : Nat → Cd} {nm : Nat → List Nat} {L : List Nat} {eo ek : Int}
theorem out_212 (ht : ∀ x ∈ t, 0 ≤ x ∧ x < 128) (hl : t.length ≤ 300) (hs : s + 163 ≤ S0.length) (ho : s + 163 ≤ o ∧ s + 163 ≤ b) (hb0 : b < S0.length ∧ o < S0.length) (hr : 4 ≤ r) (hcc : 400 ≤ cc0) (hzz : 400 ≤ zz0)
    (KK : ∀ S I T cc zz k v4 v5, LO S0 I0 T0 cc0 zz0 s o b t (fun S I T bf n => CW S T I s q y h l a ne np su cd c nm L bf n eo ek) k S I T cc zz → t.length ≤ k → WP xs 212 r 103 [vr s, vr o, vi pv, vi ((k : Nat) : Int), v4, v5] [] (S, I, T, cc, zz) Q) :
    ∀ (d k : Nat) {S : List (Nat × Nat)} {I : Ix} {T : Nat → Nat → Nat} {cc zz : Nat} {v4 v5 : AV}, t.length ≤ k + d → lgS v4 = false → LO S0 I0 T0 cc0 zz0 s o b t (fun S I T bf n => CW S T I s q y h l a ne np su cd c nm L bf n eo ek) k S I T cc zz → WP xs 212 r 2 [vr s, vr o, vi pv, vi ((k : Nat) : Int), v4, v5] [] (S, I, T, cc, zz) Q := by
  intro d
  induction d with
  | zero =>
    intro k S I T cc zz v4 v5 hd hv H
    have hX := H.2.2.1
    refine w_iln l_212_2 rfl ?_
    refine w_aln l_212_3 rfl ?_
    refine q_iv [] [vi ((k : Nat) : Int)] l_212_4 rfl rfl (Nat.le_of_ble_eq_true rfl) (by rw [mx_299]; exact Nat.le_of_ble_eq_true rfl) (by rw [mt_299]; exact hX.1) (by rw [mt_299]; decide) (by rw [rk_299]; omega) (o_299 ⟨hX.1, hX.2.2.2.1⟩ hX.2.1 hX.2.2.1 (by omega)) ?_
    exact w_cge 103 l_212_7 (by decide) (fun _ => KK _ _ _ _ _ _ _ _ H (by omega)) (fun hx => absurd hx (by omega))
  | succ d ih =>
    intro k S I T cc zz v4 v5 hd hv H
    have H0 := H
    obtain ⟨⟨L1, rfl⟩, ⟨bf, W, hbf⟩, hX, fr, hc, hz, hk⟩ := H
    refine w_iln l_212_2 rfl ?_
    refine w_aln l_212_3 rfl ?_
    refine q_iv [] [vi ((k : Nat) : Int)] l_212_4 rfl rfl (Nat.le_of_ble_eq_true rfl) (by rw [mx_299]; exact Nat.le_of_ble_eq_true rfl) (by rw [mt_299]; exact hX.1) (by rw [mt_299]; decide) (by rw [rk_299]; omega) (o_299 ⟨hX.1, hX.2.2.2.1⟩ hX.2.1 hX.2.2.1 (by omega)) ?_
    by_cases hkl : t.length ≤ k
    · exact w_cge 103 l_212_7 (by decide) (fun _ => KK _ _ _ _ _ _ _ _ H0 hkl) (fun hx => absurd hx (by omega))
    refine w_cge 103 l_212_7 (by decide) (fun hx => absurd hx (by omega)) (fun _ => ?_)
    refine w_ic l_212_10 (by decide) ?_
    refine w_na (n := 5) l_212_11 (fun _ _ _ _ => rfl) (by omega) (by omega) (by decide) ?_
    refine w_ra l_212_13 ⟨Nat.le_of_ble_eq_true rfl, rfl⟩ ?_
    refine w_ic l_212_15 (by decide) ?_
    have hp5 : prevOk [vr s, vr o, vi pv, vi ((k : Nat) : Int), vr (S0 ++ L1).length, v5] 5 = true := rfl
    refine w_is l_212_16 ⟨Nat.le_of_ble_eq_true rfl, hp5⟩ ?_
    have hSl : S0.length ≤ (S0 ++ L1).length := by rw [List.length_append]; omega
    have ne1 : (S0 ++ L1).length ≠ o ∧ (S0 ++ L1).length ≠ b := by omega
    have hX2 : TXT (S0 ++ L1 ++ [(1, 5)]) (zr (S0 ++ L1).length I) (zt (S0 ++ L1).length T) o b t := hX.mv (fun _ _ h => ap_l h) (fun w => ⟨zr_o (by omega), zt_o (by omega)⟩) (fun w => zr_o (by omega))
    refine in_212 (I0 := zr (S0 ++ L1).length I) ht hl (ap_e rfl) ne1 hr (by omega) (fun I1 i1 h1 h2 h3 h4 h5 => ?_) 20 0 (by omega) (by omega) (by omega) hX2 (fun c hc => ?_) (fun _ _ _ => rfl)
    · have W1 : CW (S0 ++ L1 ++ [(1, 5)]) (zt (S0 ++ L1).length T) I1 s q y h l a ne np su cd c nm L bf k eo ek := W.mv (fun _ _ h => ap_l h) (fun z w a1 a2 => ⟨(h5 z w (by omega)).trans (zr_o (by omega)), zt_o (by omega)⟩)
      refine w_aln l_212_71 rfl ?_
      refine w_al l_212_72 rfl ?_
      refine w_ic l_212_74 (by decide) ?_
      refine w_ia 0 _ l_212_75 (ap_e rfl) rfl (by decide) (h4 0 (by decide)) ?_
      refine w_al l_212_76 rfl ?_
      refine w_ic l_212_78 (by decide) ?_
      refine w_ia 1 _ l_212_79 (ap_e rfl) rfl (by decide) (h4 1 (by decide)) ?_
      refine w_al l_212_80 rfl ?_
      refine w_ic l_212_82 (by decide) ?_
      refine w_ia 2 _ l_212_83 (ap_e rfl) rfl (by decide) (h4 2 (by decide)) ?_
      refine w_al l_212_84 rfl ?_
      refine w_ic l_212_86 (by decide) ?_
      refine w_ia 3 _ l_212_87 (ap_e rfl) rfl (by decide) (h4 3 (by decide)) ?_
      refine w_al l_212_88 rfl ?_
      refine w_ic l_212_90 (by decide) ?_
      refine w_ia 4 _ l_212_91 (ap_e rfl) rfl (by decide) (h4 4 (by decide)) ?_
      refine p_iv [vi _, vi _, vi _, vi _, vi _] [] l_212_92 rfl rfl (Nat.le_of_ble_eq_true rfl) (by rw [mx_99]; exact Nat.le_of_ble_eq_true rfl) (by rw [mt_99]; exact oDropSwitch_sh W1.o) (by rw [mt_99]; decide) (by rw [rk_99]; omega) (s_99 W1.o W1.inp (by omega)) (fun v I2 hv2 => ?_)
      obtain ⟨rfl, e1, e2⟩ := hv2
      refine w_is l_212_95 ⟨Nat.le_of_ble_eq_true rfl, rfl⟩ ?_
      refine w_inc ((k + 20 : Nat) : Int) l_212_97 rfl rfl (by unfold wr; omega) ?_
      refine w_go 2 l_212_100 (by decide) ?_
      refine ih (k + 20) (by omega) rfl ⟨⟨L1 ++ [(1, 5)], by rw [List.append_assoc]⟩, ⟨_, W1.txt e1 e2, fun m m1 m2 => ?_⟩, hX2.mv ex.r (fun w => ⟨(e2 o w (by omega) (by omega)).trans (h5 o w (by omega)), rfl⟩) (fun w => (e2 b w (by omega) (by omega)).trans (h5 b w (by omega))), fun z w z1 z2 => ⟨?_, ?_⟩, by omega, by omega, by omega⟩
      · unfold bfA
        by_cases hm : m < k
        · rw [if_pos hm]; exact hbf m hm m2
        · rw [if_neg hm, apB_w (ctN_l ht k i1) (by omega), bt8_i ht m]
          unfold ctN
          rw [if_pos (by omega), show k + (m - k) = m by omega]
      · rw [e2 z w (by omega) (by omega), h5 z w (by omega), zr_o (by omega)]; exact (fr z w z1 z2).1
      · rw [zt_o (by omega)]; exact (fr z w z1 z2).2
    · rw [zr_e]
      have : wdN (ctN t k 0) c = 0 := by unfold wdN; rw [ctN_0 (by omega), ctN_0 (by omega), ctN_0 (by omega), ctN_0 (by omega)]
      rw [this]; rfl
theorem s_101x {I : Ix} (o : oDropSwitch S T s q y) (D : dQ s q y) {bf : Nat → Int} {n : Nat} (H : cIn I s bf n) (h70 : I (y + 7) 0 = 0) (ck : oCk S T s) {P : Ps} (hR : textR bf n = .inr P) {h2 : Hi} {a2 : Nat → Nat} (X : XC I s q h l a ne np su cd c) (hcc : c + 1 < 100000) (ok2 : okHi h2) : CL xs 101 [vr s] (S, I, T, cc, zz) (RX (fun v m1 => ∃ T2 J, v = some (vi ((lPorts P.1 : Nat) : Int)) ∧ m1 = (S, J, T2, cc, zz) ∧ oDropSwitch S T2 s y q ∧ oCk S T2 s ∧ (∀ z w, z ≠ s → z ≠ s + 2 → T2 z w = T z w) ∧ XC J s y h2 P.1 a2 0 (arr h2 0) su0 P.2.2 (c + 1) ∧ okPs P ∧ cNm J y P.1 P.2.1 ∧ J s 1 = 0 ∧ J s 2 = -1 ∧ J s 3 = 0 ∧ fE I J s y)) :=
  CL_mono (s_101 (h2 := h2) (a2 := a2) o D H h70 ck hR X hcc ok2) (fun r m1 ⟨T2, J, g1, g2⟩ => ⟨_, g1, T2, J, rfl, g2⟩)
theorem c_212 (W : CW S T I s q y h l a ne np su cd c nm L (fun _ => 0) 0 eo ek) (hs : s + 163 ≤ S.length) (hX : TXT S I T o b t) (ho : s + 163 ≤ o ∧ s + 163 ≤ b) (ht : ∀ x ∈ t, 0 ≤ x ∧ x < 128) (hl : t.length ≤ 300) {P : Ps} (hP : textR (fun j => t.getD j 0) t.length = .inr P) (hc : c + 1 < 100000) (hcc : 400 ≤ cc) (hzz : 400 ≤ zz) :
    CL xs 212 [vr s, vr o, vi ((lPorts P.1 : Nat) : Int)] (S, I, T, cc, zz) (RX (fun r m1 => r = some (vi 1) ∧ ∃ S1 I1 T1 c1 z1, m1 = (S1, I1, T1, c1, z1) ∧ (∃ L1, S1 = S ++ L1) ∧ (∃ bf2, CW S1 T1 I1 s y q h P.1 a 0 (arr h 0) su0 P.2.2 (c + 1) P.2.1 L bf2 0 (-1) 0) ∧ okPs P ∧ (∀ z w, z < S.length → (z < s ∨ s + 163 ≤ z) → I1 z w = I z w ∧ T1 z w = T z w) ∧ cc ≤ c1 + 320 ∧ zz ≤ z1 + 320)) := by
  refine CL_start (r := 34) (ls := [vr s, vr o, vi ((lPorts P.1 : Nat) : Int), vs 2, vs 2, vs 2]) (rk_212 _) rfl ?_
  refine w_ic l_212_0 (by decide) ?_
  refine w_isn l_212_1 ⟨Nat.le_of_ble_eq_true rfl, rfl⟩ ?_
  refine out_212 (S0 := S) (I0 := I) (T0 := T) (cc0 := cc) (zz0 := zz) (q := q) (y := y) (h := h) (l := l) (a := a) (ne := ne) (np := np) (c := c) (su := su) (cd := cd) (nm := nm) (L := L) (eo := eo) (ek := ek) ht hl hs ho ⟨len_of hX.2.2.1, len_of hX.1⟩ (by decide) hcc hzz (fun S I T cc zz k v4 v5 H hk => ?_) t.length 0 (by omega) rfl ⟨⟨[], by simp⟩, ⟨_, W, fun m hm => absurd hm (Nat.not_lt_zero _)⟩, hX, fun _ _ _ _ => ⟨rfl, rfl⟩, by omega, by omega, by omega⟩
  obtain ⟨hL1, ⟨bf, W1, hbf⟩, hX1, fr, k1, k2, k3⟩ := H
  refine w_aln l_212_103 rfl ?_
  refine w_aln l_212_104 rfl ?_
  refine q_iv [] [vr s] l_212_105 rfl rfl (Nat.le_of_ble_eq_true rfl) (by rw [mx_299]; exact Nat.le_of_ble_eq_true rfl) (by rw [mt_299]; exact hX1.1) (by rw [mt_299]; decide) (by rw [rk_299]; decide) (o_299 ⟨hX1.1, hX1.2.2.2.1⟩ hX1.2.1 hX1.2.2.1 (by omega)) ?_
  refine p_iv [vi ((t.length : Nat) : Int)] [] l_212_108 rfl rfl (Nat.le_of_ble_eq_true rfl) (by rw [mx_100]; exact Nat.le_of_ble_eq_true rfl) (by rw [mt_100]; exact oDropSwitch_sh W1.o) (by rw [mt_100]; decide) (by rw [rk_100]; decide) (s_100 W1.o W1.inp hk) (fun v I2 hv2 => ?_)
  obtain ⟨rfl, e1, e2⟩ := hv2
  have W2 := W1.txt e1 e2
  have hI : cIn I2 s (fun j => t.getD j 0) t.length := ⟨e1.1, e1.2.1, fun j hj => (e1.2.2 j hj).trans (hbf j (by omega) hj)⟩
  refine w_isn l_212_111 ⟨Nat.le_of_ble_eq_true rfl, rfl⟩ ?_
  refine w_aln l_212_112 rfl ?_
  refine x_iv [] [] l_212_113 (Or.inl rfl) rfl rfl ⟨Nat.le_of_ble_eq_true rfl, rfl⟩ (by rw [mx_101]; exact Nat.le_of_ble_eq_true rfl) (by rw [mt_101]; exact oDropSwitch_sh W2.o) (by rw [mt_101]; decide) (by rw [rk_101]; decide) (s_101x (h2 := h) (a2 := a) W2.o W2.dq hI W2.y7 W2.ck hP W2.X hc W2.X.K.2.2.2.2.2.2.1) (fun v m1 hp => ?_)
  obtain ⟨T2, J, rfl, rfl, o2, ck2, fT, X2, okP, nm2, j1, j2, j3, fJ⟩ := hp
  have hq := W2.dq
  obtain ⟨d1, d2, d3, d4, d5⟩ := hq
  refine w_iln l_212_116 rfl ?_
  refine w_cne 139 l_212_117 (by decide) (fun hx => absurd rfl hx) (fun _ => ?_)
  refine w_aln l_212_120 rfl ?_
  refine q_iv [] [] l_212_121 rfl rfl (Nat.le_of_ble_eq_true rfl) (by rw [mx_102]; exact Nat.le_of_ble_eq_true rfl) (by rw [mt_102]; exact oDropSwitch_sh o2) (by rw [mt_102]; decide) (by rw [rk_102]; decide) (s_102 o2) ?_
  refine w_ic l_212_124 (by decide) ?_
  refine w_cne 139 l_212_125 (by decide) (fun hx => absurd j2 hx) (fun _ => ?_)
  refine w_aln l_212_128 rfl ?_
  refine q_iv [] [] l_212_129 rfl rfl (Nat.le_of_ble_eq_true rfl) (by rw [mx_103]; exact Nat.le_of_ble_eq_true rfl) (by rw [mt_103]; exact oDropSwitch_sh o2) (by rw [mt_103]; decide) (by rw [rk_103]; decide) (s_103 o2) ?_
  refine w_zne 139 l_212_132 (by decide) (fun hx => absurd j3 hx) (fun _ => ?_)
  refine w_ic l_212_135 (by decide) ?_
  refine w_go 140 l_212_136 (by decide) ?_
  refine w_ir l_212_140 (by decide) ?_
  have f9 : ∀ z w, (z < s ∨ s + 163 ≤ z ∨ z = s + 97 ∨ z = s + 98 ∨ (z = q + 7 ∧ w = 0) ∨ (z = y + 7 ∧ w = 0)) → J z w = I2 z w := fun z w hz => fJ z w (by omega) (by omega) (by omega) (by omega) (by omega)
  refine ⟨_, rfl, rfl, _, _, _, _, _, rfl, hL1, ⟨fun j => t.getD j 0, ⟨o2, ck2, d2, d1, d4, d3, by omega⟩, X2, nm2, ⟨j1, by omega, fun j hj => absurd hj (Nat.not_lt_zero _)⟩, ?_, ⟨j2, j3⟩, (f9 _ _ (by omega)).trans W2.y7, (f9 _ _ (by omega)).trans W2.q7⟩, okP, fun z w z1 z2 => ⟨?_, ?_⟩, by omega, by omega⟩
  · obtain ⟨i1, i2, i3⟩ := W2.ln
    exact ⟨(f9 _ 1 (by omega)).trans i1, i2, fun j hj => (f9 _ j (by omega)).trans (i3 j hj)⟩
  · rw [f9 z w (by omega), e2 z w (by omega) (by omega)]; exact (fr z w z1 z2).1
  · rw [fT z w (by omega) (by omega)]; exact (fr z w z1 z2).2
end LDO
