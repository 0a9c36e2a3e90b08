/-! the law, as a whole -/
section LWF
variable {xs : List Int} {Q : Res → Mem → Prop} {S : List (Nat × Nat)} {T : Nat → Nat → Nat} {cc zz ports rules space ne np c w1 w2 w3 iv : Nat} {l : Li} {h : Hi} {a : Nat → Nat} {cd : Nat → Cd} {q y : Nat} {nm : Nat → List Nat} {bf : Nat → Int}
variable {I : Ix} {v9 v10 v11 v12 v13 v14 : AV}

theorem ck_344 {i : Nat} (H : LST ports rules space l ne c S I T) (hne : ne ≤ 29) (hc : 500000 ≤ cc) (hz : 7000000 ≤ zz) : WP xs 344 36 96 [vs 3, vr 0, vr 1, vr 2, vi ((i : Nat) : Int), vs 2, vs 2, vs 2, vs 2, vs 2, vs 2, vs 2, vs 2, vs 2, vs 2] [] (S, I, T, cc, zz) (fun o _ => o = .inl (some (vi 1))) := by
  obtain ⟨hm, q, y, h, a, np, cd, nm, L, bf, W⟩ := H
  have hlp := hm.lp
  have hA := AC_run (ar := a) W.X.K.2.2.2.2.2.2.1 W.X.K.2.2.2.2.2.2.2.1 W.X.K.2.2.2.2.2.2.2.2.1 W.X.W.1 (HW_ar W.X.W W.X.W.1) ne (Nat.le_refl _)
  rw [← W.X.W.2.1] at hA
  have R : RUN l h a ne np := ⟨hA.1, hA.2, FIL_run W.X.K.2.2.2.2.2.2.1 W.X.K.2.2.2.2.2.2.2.1 W.X.K.2.2.2.2.2.2.2.2.1 ne (Nat.le_refl _)⟩
  have h360 := W.X.K.2.2.2.1.2.1.2
  have hnp9 := W.X.K.2.2.1.2.2.2.1
  have hSl := hm.2.2.2.2.2.2.2.2.2.2.2.2.2.2.2.2
  have hnw : np * ports ≤ 40 * 4 := Nat.mul_le_mul (by omega) hlp.2.2
  have l1 : (S ++ [(1, np)]).length = S.length + 1 := by simp
  have l2 : (S ++ [(1, np)] ++ [(6, np)] ++ List.replicate np (1, ports)).length = S.length + 2 + np := by simp; omega
  refine w_aln l_344_96 rfl ?_
  refine w_ic l_344_97 (by decide) ?_
  refine q_iv [vi 3] [] l_344_98 rfl rfl (Nat.le_of_ble_eq_true rfl) (by rw [mx_104]; exact Nat.le_of_ble_eq_true rfl) (by rw [mt_104]; exact oDropSwitch_sh W.o) (by rw [mt_104]; decide) (by rw [rk_104]; decide) (s_104_3 W.o W.X.K) ?_
  refine w_is l_344_101 ⟨Nat.le_of_ble_eq_true rfl, rfl⟩ ?_
  refine w_aln l_344_103 rfl ?_
  refine w_ic l_344_104 (by decide) ?_
  refine q_iv [vi 4] [] l_344_105 rfl rfl (Nat.le_of_ble_eq_true rfl) (by rw [mx_104]; exact Nat.le_of_ble_eq_true rfl) (by rw [mt_104]; exact oDropSwitch_sh W.o) (by rw [mt_104]; decide) (by rw [rk_104]; decide) (s_104_4 W.o W.X.K) ?_
  refine w_is l_344_108 ⟨Nat.le_of_ble_eq_true rfl, rfl⟩ ?_
  refine w_il l_344_110 rfl ?_
  refine w_na (n := np) l_344_112 (fun _ _ _ _ => rfl) (by omega) (by omega) (by omega) ?_
  refine w_ra l_344_114 ⟨Nat.le_of_ble_eq_true rfl, rfl⟩ ?_
  refine w_il l_344_116 rfl ?_
  refine w_aln l_344_118 rfl ?_
  refine w_gin ((ports : Nat) : Int) l_344_119 (by decide) (ap_l hm.s1) ((zr_o (by omega)).trans hm.pt) ?_
  refine w_ma (n := np) (w := ports) l_344_122 (by omega) (by omega) (by omega) (by omega) (fun I1 T1 f1 f2 f3 => ?_)
  refine w_ra l_344_126 ⟨Nat.le_of_ble_eq_true rfl, rfl⟩ ?_
  refine w_bp l_344_128 (by decide) ?_
  refine w_na (n := 11) l_344_130 (fun _ _ _ _ => rfl) (by omega) (by omega) (by decide) ?_
  refine w_ra l_344_132 ⟨Nat.le_of_ble_eq_true rfl, rfl⟩ ?_
  refine w_ic l_344_134 (by decide) ?_
  refine w_is l_344_135 ⟨Nat.le_of_ble_eq_true rfl, rfl⟩ ?_
  refine w_ic l_344_137 (by decide) ?_
  refine w_is l_344_138 ⟨Nat.le_of_ble_eq_true rfl, rfl⟩ ?_
  rw [l1] at f1 f2 f3
  have fz : ∀ z w, z < S.length → zr (S ++ [(1, np)] ++ [(6, np)] ++ List.replicate np (1, ports)).length I1 z w = I z w ∧ zt (S ++ [(1, np)] ++ [(6, np)] ++ List.replicate np (1, ports)).length T1 z w = T z w := fun z w hz => by
    rw [l2, zr_o (by omega), zt_o (by omega), (f1 z w (by omega)).1, (f1 z w (by omega)).2, zr_o (by omega), zt_o (by omega)]
    exact ⟨rfl, rfl⟩
  have e9 : ex S (S ++ [(1, np)] ++ [(6, np)] ++ List.replicate np (1, ports) ++ [(1, 11)]) := fun _ _ hx => ap_l (ap_l (ap_l (ap_l hx)))
  have hS : SHP np ports S.length (S ++ [(1, np)]).length (S ++ [(1, np)] ++ [(6, np)] ++ List.replicate np (1, ports)).length (S ++ [(1, np)] ++ [(6, np)] ++ List.replicate np (1, ports) ++ [(1, 11)]) (zt (S ++ [(1, np)] ++ [(6, np)] ++ List.replicate np (1, ports)).length T1) := by
    refine ⟨ap_l (ap_l (ap_l (ap_e rfl))), ap_l (ap_l (ap_e rfl)), fun j hj => ⟨ap_l ?_, ?_⟩, ap_e rfl, hSl, by omega, by omega⟩
    · rw [ap_r (j := j) (by simp), List.getElem?_replicate, if_pos hj]
    · rw [l1, zt_o (by omega)]; exact f3 j hj
  have H9 : LOK2 ports rules space l h a ne np c cd q y nm bf (S ++ [(1, np)] ++ [(6, np)] ++ List.replicate np (1, ports) ++ [(1, 11)]) (zr (S ++ [(1, np)] ++ [(6, np)] ++ List.replicate np (1, ports)).length I1) (zt (S ++ [(1, np)] ++ [(6, np)] ++ List.replicate np (1, ports)).length T1) := ⟨hm.mv e9 (by rw [List.length_append, l2]; omega) fz, L, W.mv e9 fun z w z1 z2 => fz z w (by omega)⟩
  have C0 : CTD l h ne np ports S.length (S ++ [(1, np)]).length (S ++ [(1, np)] ++ [(6, np)] ++ List.replicate np (1, ports)).length 0 (zr (S ++ [(1, np)] ++ [(6, np)] ++ List.replicate np (1, ports)).length I1) := by
    refine ⟨fun k hk => ?_, fun k hk p hp => ?_, fun x hx => ?_⟩
    · rw [l2, zr_o (by omega), (f1 _ k (by omega)).1, zr_e]; rfl
    · rw [l2, l1, zr_o (by omega), f2 k p hk]; rfl
    · rw [zr_e]; rfl
  refine d1_344 (by omega) hlp hS R h360 (fun I bv v11 v12 v13 v14 H C => ?_) _ 0 (Nat.zero_add _) _ 0 _ _ _ _ H9 C0 (fun j hj => by omega) (fun _ => rfl)
  refine w_ic l_344_351 (by decide) ?_
  refine w_is l_344_352 ⟨Nat.le_of_ble_eq_true rfl, rfl⟩ ?_
  refine d3_344 hS H C ?_ 10 1 rfl (Nat.le_refl 1)
  refine w_ic l_344_383 (by decide) ?_
  refine w_is l_344_384 ⟨Nat.le_of_ble_eq_true rfl, rfl⟩ ?_
  refine w_ic l_344_386 (by decide) ?_
  refine w_is l_344_387 ⟨Nat.le_of_ble_eq_true rfl, rfl⟩ ?_
  refine d6_344 hlp H R (by omega) (fun v12 v13 v14 => ?_) ports 0 (Nat.zero_add _) _ _ _
  have hm9 := H.1
  have hfa := R.2.2.2
  rw [hlp.1] at hfa
  have hbu : lBuf l = space := hm9.2.2.2.2.2.2.2.2.2.2.2.2.1
  refine w_il l_344_556 rfl ?_
  refine w_aln l_344_558 rfl ?_
  refine w_gin ((space : Nat) : Int) l_344_559 (by decide) hm9.s1 hm9.2.2.2.2.2.2.2.1 ?_
  refine w_cle 567 l_344_562 (by decide) (fun _ => ?_) (fun hx => absurd hx (by omega))
  refine w_ic l_344_567 (by decide) ?_
  refine w_is l_344_568 ⟨Nat.le_of_ble_eq_true rfl, rfl⟩ ?_
  refine d9_344 hlp hS H R h360 (by omega) C (fun v12 v13 v14 => ?_) np 0 (Nat.zero_add _) _ _ _
  refine w_ic l_344_756 (by decide) ?_
  refine w_ir l_344_757 (by decide) ?_
  rfl

theorem law_AM (xs : List Int) : CL xs 344 [vs 3] ([], (fun _ _ => 0), (fun _ _ => 0), 600086, 7301442) (fun o _ => o = .inl (some (vi 1))) :=
  CL_start (r := 36) (ls := [vs 3, vs 2, vs 2, vs 2, vs 2, vs 2, vs 2, vs 2, vs 2, vs 2, vs 2, vs 2, vs 2, vs 2, vs 2]) (rk_344 _) rfl (st_344 (fun ports rules space l S I T cc zz i h1 h2 H hc hz => ck_344 H (by omega) hc hz))
end LWF
