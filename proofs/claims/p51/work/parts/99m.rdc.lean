/-! the class's reader: conditions -/
theorem SU.item {I J : Ix} {y tot : Nat} {P : Ps} {cs : Cd} {c : Nat × Nat × Nat} (Z : SU I y P cs tot) (h1 : 1 ≤ c.1) (e : ∀ j z, j ≤ 8 → (j = 0 → z ≠ 5) → (j = 8 → z ≠ tot + cs.length) → J (y + j) z = I (y + j) z) (v5 : J y 5 = ((tot + cs.length + 1 : Nat) : Int)) (v8 : J (y + 8) (tot + cs.length) = ((itemOf c : Nat) : Int)) : SU J y P (cs ++ [c]) tot := by
  obtain ⟨z1, z2, z3, z4, z5, z6, z7, z8, z9⟩ := Z
  have e0 : ∀ j, j ≤ 7 → 0 < j → ∀ z, J (y + j) z = I (y + j) z := fun j h2 h3 z => e j z (by omega) (fun q => by omega) (fun q => by omega)
  have hl : (cs ++ [c]).length = cs.length + 1 := by simp
  refine ⟨cLi_eq z1 fun j hj w => by rw [Nat.add_assoc]; exact e0 (1 + j) (by omega) (by omega) w, (e 0 2 (by decide) (fun _ => by decide) (fun q => by omega)).trans z2, fun p hp => (e0 6 (by decide) (by decide) p).trans (z3 p hp), z4, fun r hr => ?_, (e0 7 (by decide) (by decide) _).trans z6, by rw [hl]; exact v5, fun j hj => ?_, fun r hr => by rw [e0 7 (by decide) (by decide)]; exact z9 r hr⟩
  · obtain ⟨g1, o', g2, g3, g4, g5⟩ := z5 r hr
    have g6 := z9 (r + 1) hr
    exact ⟨g1, o', (e0 7 (by decide) (by decide) _).trans g2, (e0 7 (by decide) (by decide) _).trans g3, g4, fun j hj => ⟨(e 8 _ (by decide) (fun q => by omega) (fun _ => by omega)).trans (g5 j hj).1, (g5 j hj).2⟩⟩
  · rw [hl] at hj
    have g : ∀ j, (cs ++ [c]).getD j (0, 0, 0) = if j < cs.length then cs.getD j (0, 0, 0) else if j = cs.length then c else (0, 0, 0) := fun j => by
      rw [List.getD_eq_getElem?_getD, List.getD_eq_getElem?_getD]
      by_cases h2 : j < cs.length
      · rw [if_pos h2, List.getElem?_append_left h2]
      · rw [if_neg h2, List.getElem?_append_right (by omega)]
        by_cases h3 : j = cs.length
        · rw [if_pos h3, h3, Nat.sub_self]
          rfl
        · rw [if_neg h3, List.getElem?_eq_none (by simp; omega)]
          rfl
    rw [g]
    by_cases h2 : j < cs.length
    · rw [if_pos h2]
      exact ⟨(e 8 _ (by decide) (fun q => by omega) (fun _ => by omega)).trans (z8 j h2).1, (z8 j h2).2⟩
    · have h3 : j = cs.length := by omega
      rw [if_neg h2, if_pos h3, h3]
      exact ⟨v8, h1⟩
theorem or_16 {w k : Nat} (hk : k < 16) (hw : w < 100000000) : a2 (fun x y => x ||| y) ((w * 2 ^ 4 : Nat) : Int) (k : Int) = ((w * 16 + k : Nat) : Int) := by
  rw [or_nn (by omega) (by omega)]
  congr 1
  have e8 := Nat.shiftLeft_add_eq_or_of_lt (i := 4) (show k < 2 ^ 4 by omega) w
  rw [Nat.shiftLeft_eq] at e8
  rw [← e8]
theorem or_4 {w k : Nat} (hk : k < 4) (hw : w < 100000000) : a2 (fun x y => x ||| y) ((w * 2 ^ 2 : Nat) : Int) (k : Int) = ((w * 4 + k : Nat) : Int) := by
  rw [or_nn (by omega) (by omega)]
  congr 1
  have e8 := Nat.shiftLeft_add_eq_or_of_lt (i := 2) (show k < 2 ^ 2 by omega) w
  rw [Nat.shiftLeft_eq] at e8
  rw [← e8]
/-- a reading method of conditions, at the depth e, reads what f reads -/
def CS (xs : List Int) (S : List (Nat × Nat)) (T : Nat → Nat → Nat) (cc zz s x y : Nat) (t : Nat → Int) (n : Nat) (P : Ps) (tot j e : Nat) (f : Nat → PR (Nat × Cd)) : Prop := ∀ (I : Ix) (p : Nat) (cs : Cd), RT I s x t n p → SU I y P cs tot → 2 * tot + 2 * cs.length ≤ p → CL xs j [vr s, vi ((e : Nat) : Int)] (S, I, T, cc, zz) (RP S T cc zz (fun v I' => fR I I' s y ∧ RO I s v I' (f p) (fun a => rTk I' s t n a.1 ∧ SU I' y P (cs ++ a.2) tot)))
theorem rk_43 {s e : Nat} (he : e ≤ 5) : rkA 43 [vr s, vi ((e : Nat) : Int)] = 9 + 4 * (5 - e) := by
  show 6 + 3 + 4 * (5 - ((e : Nat) : Int)).toNat = _
  omega
theorem rk_44 {s e : Nat} (he : e ≤ 5) : rkA 44 [vr s, vi ((e : Nat) : Int)] = 8 + 4 * (5 - e) := by
  show 6 + 2 + 4 * (5 - ((e : Nat) : Int)).toNat = _
  omega
theorem rk_45 {s e : Nat} (he : e ≤ 5) : rkA 45 [vr s, vi ((e : Nat) : Int)] = 7 + 4 * (5 - e) := by
  show 6 + 1 + 4 * (5 - ((e : Nat) : Int)).toNat = _
  omega
theorem rk_47 {s e : Nat} (he : e ≤ 5) : rkA 47 [vr s, vi ((e : Nat) : Int)] = 6 + 4 * (5 - e) := by
  show 6 + 0 + 4 * (5 - ((e : Nat) : Int)).toNat = _
  omega
section RDC
variable {xs : List Int} {S : List (Nat × Nat)} {T : Nat → Nat → Nat} {cc zz s x y : Nat} {I I' : Ix} {t : Nat → Int} {n : Nat}

theorem mx_70 : mxl 70 = 3 := by decide +kernel
theorem mt_70 : mtc 70 = 6 := by decide +kernel
theorem rk_70 (as : List AV) : rkA 70 as = 0 := rfl
theorem l_70_0 : look 70 0 = some (.aload_n 0, 1, 0, 0, 0, 0) := by decide +kernel
theorem l_70_1 : look 70 1 = some (.getfield 36, 3, 6, 5, 0, 447) := by decide +kernel
theorem l_70_4 : look 70 4 = some (.aload_n 0, 1, 0, 0, 0, 0) := by decide +kernel
theorem l_70_5 : look 70 5 = some (.getfield 25, 3, 6, 4, 2, 446) := by decide +kernel
theorem l_70_8 : look 70 8 = some (.arraylength, 1, 0, 0, 0, 0) := by decide +kernel
theorem l_70_9 : look 70 9 = some (.if_icmp .ge 27, 3, 0, 0, 0, 0) := by decide +kernel
theorem l_70_12 : look 70 12 = some (.aload_n 0, 1, 0, 0, 0, 0) := by decide +kernel
theorem l_70_13 : look 70 13 = some (.getfield 25, 3, 6, 4, 2, 446) := by decide +kernel
theorem l_70_16 : look 70 16 = some (.aload_n 0, 1, 0, 0, 0, 0) := by decide +kernel
theorem l_70_17 : look 70 17 = some (.getfield 36, 3, 6, 5, 0, 447) := by decide +kernel
theorem l_70_20 : look 70 20 = some (.iload_n 2, 1, 0, 0, 0, 0) := by decide +kernel
theorem l_70_21 : look 70 21 = some (.iconst 4, 1, 0, 0, 0, 0) := by decide +kernel
theorem l_70_22 : look 70 22 = some (.ishl, 1, 0, 0, 0, 0) := by decide +kernel
theorem l_70_23 : look 70 23 = some (.iload_n 1, 1, 0, 0, 0, 0) := by decide +kernel
theorem l_70_24 : look 70 24 = some (.ior, 1, 0, 0, 0, 0) := by decide +kernel
theorem l_70_25 : look 70 25 = some (.iastore, 1, 0, 0, 0, 0) := by decide +kernel
theorem l_70_26 : look 70 26 = some (.aload_n 0, 1, 0, 0, 0, 0) := by decide +kernel
theorem l_70_27 : look 70 27 = some (.dup, 1, 0, 0, 0, 0) := by decide +kernel
theorem l_70_28 : look 70 28 = some (.getfield 36, 3, 6, 5, 0, 447) := by decide +kernel
theorem l_70_31 : look 70 31 = some (.iconst 1, 1, 0, 0, 0, 0) := by decide +kernel
theorem l_70_32 : look 70 32 = some (.iadd, 1, 0, 0, 0, 0) := by decide +kernel
theorem l_70_33 : look 70 33 = some (.putfield 36, 3, 6, 5, 0, 447) := by decide +kernel
theorem l_70_36 : look 70 36 = some (.return_, 1, 0, 0, 0, 0) := by decide +kernel
theorem s_70 (os : oSetup S T y) {P : Ps} {cs : Cd} {tot : Nat} (Z : SU I y P cs tot) {c : Nat × Nat × Nat} {kd wh : Nat} (hc : itemOf c = wh * 16 + kd) (h1 : 1 ≤ c.1) (hkd : kd < 16) (hwh : wh < 10000) (hlen : tot + cs.length < 600) : CL xs 70 [vr y, vi ((kd : Nat) : Int), vi ((wh : Nat) : Int)] (S, I, T, cc, zz) (RP S T cc zz (fun v I' => v = none ∧ SU I' y P (cs ++ [c]) tot ∧ ∀ z w, z ≠ y → z ≠ y + 8 → I' z w = I z w)) := by
  refine CL_start (r := 0) (ls := [vr y, vi ((kd : Nat) : Int), vi ((wh : Nat) : Int)]) (rk_70 _) rfl ?_
  refine w_aln l_70_0 rfl ?_
  refine w_gi (((tot + cs.length) : Nat) : Int) l_70_1 (oSetup_sh os) Z.2.2.2.2.2.2.1 ?_
  refine w_aln l_70_4 rfl ?_
  refine w_gr l_70_5 (oSetup_sh os) (oSetup_r4 os) ?_
  refine w_len l_70_8 (oSetup_s4 os) ?_
  refine w_cge 36 l_70_9 (by decide) (fun hx => absurd hx (by omega)) (fun _ => ?_)
  refine w_aln l_70_12 rfl ?_
  refine w_gr l_70_13 (oSetup_sh os) (oSetup_r4 os) ?_
  refine w_aln l_70_16 rfl ?_
  refine w_gi (((tot + cs.length) : Nat) : Int) l_70_17 (oSetup_sh os) Z.2.2.2.2.2.2.1 ?_
  refine w_iln l_70_20 rfl ?_
  refine w_ic l_70_21 (by decide) ?_
  refine w_shl (((wh * 2 ^ 4) : Nat) : Int) l_70_22 (shl_n (k := 4) (by decide) (by omega)) ?_
  refine w_iln l_70_23 rfl ?_
  refine w_or (((wh * 16 + kd) : Nat) : Int) l_70_24 (or_16 hkd (by omega)) ?_
  refine w_iS (tot + cs.length) l_70_25 (oSetup_s4 os) rfl (by omega) ?_
  refine w_aln l_70_26 rfl ?_
  refine w_dup l_70_27 rfl ?_
  refine w_gi (((tot + cs.length) : Nat) : Int) l_70_28 (oSetup_sh os) ((up_no (by omega)).trans (Z.2.2.2.2.2.2.1)) ?_
  refine w_ic l_70_31 (by decide) ?_
  refine w_add (((tot + cs.length + 1) : Nat) : Int) l_70_32 (by unfold wr; omega) ?_
  refine w_pi l_70_33 (oSetup_sh os) ?_
  refine w_vr l_70_36 ?_
  refine ⟨_, _, rfl, rfl, rfl, Z.item h1 (fun j z hj h2 h3 => (up_out (by omega)).trans (up_out (by omega))) up_eq ((up_no (by omega)).trans (by rw [hc]; exact up_eq)), fun z w h2 h3 => (up_no h2).trans (up_no h3)⟩

theorem mx_75 : mxl 75 = 2 := by decide +kernel
theorem mt_75 : mtc 75 = 6 := by decide +kernel
theorem rk_75 (as : List AV) : rkA 75 as = 0 := rfl
theorem l_75_0 : look 75 0 = some (.iload_n 1, 1, 0, 0, 0, 0) := by decide +kernel
theorem l_75_1 : look 75 1 = some (.iconst 2, 1, 0, 0, 0, 0) := by decide +kernel
theorem l_75_2 : look 75 2 = some (.ishl, 1, 0, 0, 0, 0) := by decide +kernel
theorem l_75_3 : look 75 3 = some (.iload_n 0, 1, 0, 0, 0, 0) := by decide +kernel
theorem l_75_4 : look 75 4 = some (.iconst 1, 1, 0, 0, 0, 0) := by decide +kernel
theorem l_75_5 : look 75 5 = some (.iadd, 1, 0, 0, 0, 0) := by decide +kernel
theorem l_75_6 : look 75 6 = some (.ior, 1, 0, 0, 0, 0) := by decide +kernel
theorem l_75_7 : look 75 7 = some (.ireturn, 1, 0, 0, 0, 0) := by decide +kernel
theorem s_75l {v : Nat} (hv : v ≤ 999) : CL xs 75 [vi (-1), vi ((v : Nat) : Int)] (S, I, T, cc, zz) (FN (some (vi ((v * 4 + 0 : Nat) : Int))) (S, I, T, cc, zz)) := by
  refine CL_start (r := 0) (ls := [vi (-1), vi ((v : Nat) : Int)]) (rk_75 _) rfl ?_
  refine w_iln l_75_0 rfl ?_
  refine w_ic l_75_1 (by decide) ?_
  refine w_shl (((v * 2 ^ 2) : Nat) : Int) l_75_2 (shl_n (k := 2) (by decide) (by omega)) ?_
  refine w_iln l_75_3 rfl ?_
  refine w_ic l_75_4 (by decide) ?_
  refine w_add 0 l_75_5 (by decide) ?_
  refine w_or (((v * 4 + 0) : Nat) : Int) l_75_6 (or_4 (k := 0) (by decide) (by omega)) ?_
  refine w_ir l_75_7 (Or.inl rfl) ?_
  exact ⟨rfl, rfl⟩

theorem s_75e {v : Nat} (hv : v ≤ 999) : CL xs 75 [vi 0, vi ((v : Nat) : Int)] (S, I, T, cc, zz) (FN (some (vi ((v * 4 + 1 : Nat) : Int))) (S, I, T, cc, zz)) := by
  refine CL_start (r := 0) (ls := [vi 0, vi ((v : Nat) : Int)]) (rk_75 _) rfl ?_
  refine w_iln l_75_0 rfl ?_
  refine w_ic l_75_1 (by decide) ?_
  refine w_shl (((v * 2 ^ 2) : Nat) : Int) l_75_2 (shl_n (k := 2) (by decide) (by omega)) ?_
  refine w_iln l_75_3 rfl ?_
  refine w_ic l_75_4 (by decide) ?_
  refine w_add 1 l_75_5 (by decide) ?_
  refine w_or (((v * 4 + 1) : Nat) : Int) l_75_6 (or_4 (k := 1) (by decide) (by omega)) ?_
  refine w_ir l_75_7 (Or.inl rfl) ?_
  exact ⟨rfl, rfl⟩

theorem s_75g {v : Nat} (hv : v ≤ 999) : CL xs 75 [vi 1, vi ((v : Nat) : Int)] (S, I, T, cc, zz) (FN (some (vi ((v * 4 + 2 : Nat) : Int))) (S, I, T, cc, zz)) := by
  refine CL_start (r := 0) (ls := [vi 1, vi ((v : Nat) : Int)]) (rk_75 _) rfl ?_
  refine w_iln l_75_0 rfl ?_
  refine w_ic l_75_1 (by decide) ?_
  refine w_shl (((v * 2 ^ 2) : Nat) : Int) l_75_2 (shl_n (k := 2) (by decide) (by omega)) ?_
  refine w_iln l_75_3 rfl ?_
  refine w_ic l_75_4 (by decide) ?_
  refine w_add 2 l_75_5 (by decide) ?_
  refine w_or (((v * 4 + 2) : Nat) : Int) l_75_6 (or_4 (k := 2) (by decide) (by omega)) ?_
  refine w_ir l_75_7 (Or.inl rfl) ?_
  exact ⟨rfl, rfl⟩

theorem mx_46 : mxl 46 = 1 := by decide +kernel
theorem mt_46 : mtc 46 = 4 := by decide +kernel
theorem rk_46 (as : List AV) : rkA 46 as = 5 := rfl
theorem l_46_0 : look 46 0 = some (.aload_n 0, 1, 0, 0, 0, 0) := by decide +kernel
theorem l_46_1 : look 46 1 = some (.ldc 189, 2, 6, 0, 0, 1127) := by decide +kernel
theorem l_46_3 : look 46 3 = some (.invokevirtual 52, 3, 34, 2, 0, 1056) := by decide +kernel
theorem l_46_6 : look 46 6 = some (.ifCond .eq 7, 3, 0, 0, 0, 0) := by decide +kernel
theorem l_46_9 : look 46 9 = some (.iconst 3, 1, 0, 0, 0, 0) := by decide +kernel
theorem l_46_10 : look 46 10 = some (.goto 72, 3, 0, 0, 0, 0) := by decide +kernel
theorem l_46_13 : look 46 13 = some (.aload_n 0, 1, 0, 0, 0, 0) := by decide +kernel
theorem l_46_14 : look 46 14 = some (.ldc 191, 2, 7, 0, 0, 1128) := by decide +kernel
theorem l_46_16 : look 46 16 = some (.invokevirtual 52, 3, 34, 2, 0, 1056) := by decide +kernel
theorem l_46_19 : look 46 19 = some (.ifCond .eq 7, 3, 0, 0, 0, 0) := by decide +kernel
theorem l_46_22 : look 46 22 = some (.iconst 4, 1, 0, 0, 0, 0) := by decide +kernel
theorem l_46_23 : look 46 23 = some (.goto 59, 3, 0, 0, 0, 0) := by decide +kernel
theorem l_46_26 : look 46 26 = some (.aload_n 0, 1, 0, 0, 0, 0) := by decide +kernel
theorem l_46_27 : look 46 27 = some (.ldc 192, 2, 8, 0, 0, 1129) := by decide +kernel
theorem l_46_29 : look 46 29 = some (.invokevirtual 52, 3, 34, 2, 0, 1056) := by decide +kernel
theorem l_46_32 : look 46 32 = some (.ifCond .eq 7, 3, 0, 0, 0, 0) := by decide +kernel
theorem l_46_35 : look 46 35 = some (.iconst 5, 1, 0, 0, 0, 0) := by decide +kernel
theorem l_46_36 : look 46 36 = some (.goto 46, 3, 0, 0, 0, 0) := by decide +kernel
theorem l_46_39 : look 46 39 = some (.aload_n 0, 1, 0, 0, 0, 0) := by decide +kernel
theorem l_46_40 : look 46 40 = some (.ldc 194, 2, 9, 0, 0, 1130) := by decide +kernel
theorem l_46_42 : look 46 42 = some (.invokevirtual 52, 3, 34, 2, 0, 1056) := by decide +kernel
theorem l_46_45 : look 46 45 = some (.ifCond .eq 8, 3, 0, 0, 0, 0) := by decide +kernel
theorem l_46_48 : look 46 48 = some (.bipush 6, 2, 0, 0, 0, 0) := by decide +kernel
theorem l_46_50 : look 46 50 = some (.goto 32, 3, 0, 0, 0, 0) := by decide +kernel
theorem l_46_53 : look 46 53 = some (.aload_n 0, 1, 0, 0, 0, 0) := by decide +kernel
theorem l_46_54 : look 46 54 = some (.ldc 196, 2, 10, 0, 0, 1131) := by decide +kernel
theorem l_46_56 : look 46 56 = some (.invokevirtual 52, 3, 34, 2, 0, 1056) := by decide +kernel
theorem l_46_59 : look 46 59 = some (.ifCond .eq 8, 3, 0, 0, 0, 0) := by decide +kernel
theorem l_46_62 : look 46 62 = some (.bipush 7, 2, 0, 0, 0, 0) := by decide +kernel
theorem l_46_64 : look 46 64 = some (.goto 18, 3, 0, 0, 0, 0) := by decide +kernel
theorem l_46_67 : look 46 67 = some (.aload_n 0, 1, 0, 0, 0, 0) := by decide +kernel
theorem l_46_68 : look 46 68 = some (.ldc 198, 2, 11, 0, 0, 1132) := by decide +kernel
theorem l_46_70 : look 46 70 = some (.invokevirtual 52, 3, 34, 2, 0, 1056) := by decide +kernel
theorem l_46_73 : look 46 73 = some (.ifCond .eq 8, 3, 0, 0, 0, 0) := by decide +kernel
theorem l_46_76 : look 46 76 = some (.bipush 8, 2, 0, 0, 0, 0) := by decide +kernel
theorem l_46_78 : look 46 78 = some (.goto 4, 3, 0, 0, 0, 0) := by decide +kernel
theorem l_46_81 : look 46 81 = some (.iconst (-1), 1, 0, 0, 0, 0) := by decide +kernel
theorem l_46_82 : look 46 82 = some (.ireturn, 1, 0, 0, 0, 0) := by decide +kernel
theorem s_46_6 (o : oReader S T s x y) {p : Nat} (H : RT I s x t n p) (hw6 : isWL t n (strB 6) p = true) : CL xs 46 [vr s] (S, I, T, cc, zz) (FN (some (vi 3)) (S, I, T, cc, zz)) := by
  refine CL_start (r := 5) (ls := [vr s]) (rk_46 _) rfl ?_
  refine w_aln l_46_0 rfl ?_
  refine w_ldc l_46_1 (by decide) ?_
  refine q_iv [vs (2 * 6 + 4)] [] l_46_3 rfl rfl (Nat.le_of_ble_eq_true rfl) (by rw [mx_34]; exact Nat.le_of_ble_eq_true rfl) (by rw [mt_34]; exact oReader_sh o) (by rw [mt_34]; decide) (by rw [rk_34]; decide) (s_34 o H (q := 6) (by decide)) ?_
  refine w_beq 13 l_46_6 (by decide) (fun hx => absurd hx (by rw [hw6]; decide)) (fun _ => ?_)
  refine w_ic l_46_9 (by decide) ?_
  refine w_go 82 l_46_10 (by decide) ?_
  refine w_ir l_46_82 (Or.inl rfl) ?_
  exact ⟨rfl, rfl⟩

theorem s_46_7 (o : oReader S T s x y) {p : Nat} (H : RT I s x t n p) (hw6 : isWL t n (strB 6) p = false) (hw7 : isWL t n (strB 7) p = true) : CL xs 46 [vr s] (S, I, T, cc, zz) (FN (some (vi 4)) (S, I, T, cc, zz)) := by
  refine CL_start (r := 5) (ls := [vr s]) (rk_46 _) rfl ?_
  refine w_aln l_46_0 rfl ?_
  refine w_ldc l_46_1 (by decide) ?_
  refine q_iv [vs (2 * 6 + 4)] [] l_46_3 rfl rfl (Nat.le_of_ble_eq_true rfl) (by rw [mx_34]; exact Nat.le_of_ble_eq_true rfl) (by rw [mt_34]; exact oReader_sh o) (by rw [mt_34]; decide) (by rw [rk_34]; decide) (s_34 o H (q := 6) (by decide)) ?_
  refine w_beq 13 l_46_6 (by decide) (fun _ => ?_) (fun hx => absurd hx (by rw [hw6]; decide))
  refine w_aln l_46_13 rfl ?_
  refine w_ldc l_46_14 (by decide) ?_
  refine q_iv [vs (2 * 7 + 4)] [] l_46_16 rfl rfl (Nat.le_of_ble_eq_true rfl) (by rw [mx_34]; exact Nat.le_of_ble_eq_true rfl) (by rw [mt_34]; exact oReader_sh o) (by rw [mt_34]; decide) (by rw [rk_34]; decide) (s_34 o H (q := 7) (by decide)) ?_
  refine w_beq 26 l_46_19 (by decide) (fun hx => absurd hx (by rw [hw7]; decide)) (fun _ => ?_)
  refine w_ic l_46_22 (by decide) ?_
  refine w_go 82 l_46_23 (by decide) ?_
  refine w_ir l_46_82 (Or.inl rfl) ?_
  exact ⟨rfl, rfl⟩

theorem s_46_8 (o : oReader S T s x y) {p : Nat} (H : RT I s x t n p) (hw6 : isWL t n (strB 6) p = false) (hw7 : isWL t n (strB 7) p = false) (hw8 : isWL t n (strB 8) p = true) : CL xs 46 [vr s] (S, I, T, cc, zz) (FN (some (vi 5)) (S, I, T, cc, zz)) := by
  refine CL_start (r := 5) (ls := [vr s]) (rk_46 _) rfl ?_
  refine w_aln l_46_0 rfl ?_
  refine w_ldc l_46_1 (by decide) ?_
  refine q_iv [vs (2 * 6 + 4)] [] l_46_3 rfl rfl (Nat.le_of_ble_eq_true rfl) (by rw [mx_34]; exact Nat.le_of_ble_eq_true rfl) (by rw [mt_34]; exact oReader_sh o) (by rw [mt_34]; decide) (by rw [rk_34]; decide) (s_34 o H (q := 6) (by decide)) ?_
  refine w_beq 13 l_46_6 (by decide) (fun _ => ?_) (fun hx => absurd hx (by rw [hw6]; decide))
  refine w_aln l_46_13 rfl ?_
  refine w_ldc l_46_14 (by decide) ?_
  refine q_iv [vs (2 * 7 + 4)] [] l_46_16 rfl rfl (Nat.le_of_ble_eq_true rfl) (by rw [mx_34]; exact Nat.le_of_ble_eq_true rfl) (by rw [mt_34]; exact oReader_sh o) (by rw [mt_34]; decide) (by rw [rk_34]; decide) (s_34 o H (q := 7) (by decide)) ?_
  refine w_beq 26 l_46_19 (by decide) (fun _ => ?_) (fun hx => absurd hx (by rw [hw7]; decide))
  refine w_aln l_46_26 rfl ?_
  refine w_ldc l_46_27 (by decide) ?_
  refine q_iv [vs (2 * 8 + 4)] [] l_46_29 rfl rfl (Nat.le_of_ble_eq_true rfl) (by rw [mx_34]; exact Nat.le_of_ble_eq_true rfl) (by rw [mt_34]; exact oReader_sh o) (by rw [mt_34]; decide) (by rw [rk_34]; decide) (s_34 o H (q := 8) (by decide)) ?_
  refine w_beq 39 l_46_32 (by decide) (fun hx => absurd hx (by rw [hw8]; decide)) (fun _ => ?_)
  refine w_ic l_46_35 (by decide) ?_
  refine w_go 82 l_46_36 (by decide) ?_
  refine w_ir l_46_82 (Or.inl rfl) ?_
  exact ⟨rfl, rfl⟩

theorem s_46_9 (o : oReader S T s x y) {p : Nat} (H : RT I s x t n p) (hw6 : isWL t n (strB 6) p = false) (hw7 : isWL t n (strB 7) p = false) (hw8 : isWL t n (strB 8) p = false) (hw9 : isWL t n (strB 9) p = true) : CL xs 46 [vr s] (S, I, T, cc, zz) (FN (some (vi 6)) (S, I, T, cc, zz)) := by
  refine CL_start (r := 5) (ls := [vr s]) (rk_46 _) rfl ?_
  refine w_aln l_46_0 rfl ?_
  refine w_ldc l_46_1 (by decide) ?_
  refine q_iv [vs (2 * 6 + 4)] [] l_46_3 rfl rfl (Nat.le_of_ble_eq_true rfl) (by rw [mx_34]; exact Nat.le_of_ble_eq_true rfl) (by rw [mt_34]; exact oReader_sh o) (by rw [mt_34]; decide) (by rw [rk_34]; decide) (s_34 o H (q := 6) (by decide)) ?_
  refine w_beq 13 l_46_6 (by decide) (fun _ => ?_) (fun hx => absurd hx (by rw [hw6]; decide))
  refine w_aln l_46_13 rfl ?_
  refine w_ldc l_46_14 (by decide) ?_
  refine q_iv [vs (2 * 7 + 4)] [] l_46_16 rfl rfl (Nat.le_of_ble_eq_true rfl) (by rw [mx_34]; exact Nat.le_of_ble_eq_true rfl) (by rw [mt_34]; exact oReader_sh o) (by rw [mt_34]; decide) (by rw [rk_34]; decide) (s_34 o H (q := 7) (by decide)) ?_
  refine w_beq 26 l_46_19 (by decide) (fun _ => ?_) (fun hx => absurd hx (by rw [hw7]; decide))
  refine w_aln l_46_26 rfl ?_
  refine w_ldc l_46_27 (by decide) ?_
  refine q_iv [vs (2 * 8 + 4)] [] l_46_29 rfl rfl (Nat.le_of_ble_eq_true rfl) (by rw [mx_34]; exact Nat.le_of_ble_eq_true rfl) (by rw [mt_34]; exact oReader_sh o) (by rw [mt_34]; decide) (by rw [rk_34]; decide) (s_34 o H (q := 8) (by decide)) ?_
  refine w_beq 39 l_46_32 (by decide) (fun _ => ?_) (fun hx => absurd hx (by rw [hw8]; decide))
  refine w_aln l_46_39 rfl ?_
  refine w_ldc l_46_40 (by decide) ?_
  refine q_iv [vs (2 * 9 + 4)] [] l_46_42 rfl rfl (Nat.le_of_ble_eq_true rfl) (by rw [mx_34]; exact Nat.le_of_ble_eq_true rfl) (by rw [mt_34]; exact oReader_sh o) (by rw [mt_34]; decide) (by rw [rk_34]; decide) (s_34 o H (q := 9) (by decide)) ?_
  refine w_beq 53 l_46_45 (by decide) (fun hx => absurd hx (by rw [hw9]; decide)) (fun _ => ?_)
  refine w_bp l_46_48 (by decide) ?_
  refine w_go 82 l_46_50 (by decide) ?_
  refine w_ir l_46_82 (Or.inl rfl) ?_
  exact ⟨rfl, rfl⟩

theorem s_46_10 (o : oReader S T s x y) {p : Nat} (H : RT I s x t n p) (hw6 : isWL t n (strB 6) p = false) (hw7 : isWL t n (strB 7) p = false) (hw8 : isWL t n (strB 8) p = false) (hw9 : isWL t n (strB 9) p = false) (hw10 : isWL t n (strB 10) p = true) : CL xs 46 [vr s] (S, I, T, cc, zz) (FN (some (vi 7)) (S, I, T, cc, zz)) := by
  refine CL_start (r := 5) (ls := [vr s]) (rk_46 _) rfl ?_
  refine w_aln l_46_0 rfl ?_
  refine w_ldc l_46_1 (by decide) ?_
  refine q_iv [vs (2 * 6 + 4)] [] l_46_3 rfl rfl (Nat.le_of_ble_eq_true rfl) (by rw [mx_34]; exact Nat.le_of_ble_eq_true rfl) (by rw [mt_34]; exact oReader_sh o) (by rw [mt_34]; decide) (by rw [rk_34]; decide) (s_34 o H (q := 6) (by decide)) ?_
  refine w_beq 13 l_46_6 (by decide) (fun _ => ?_) (fun hx => absurd hx (by rw [hw6]; decide))
  refine w_aln l_46_13 rfl ?_
  refine w_ldc l_46_14 (by decide) ?_
  refine q_iv [vs (2 * 7 + 4)] [] l_46_16 rfl rfl (Nat.le_of_ble_eq_true rfl) (by rw [mx_34]; exact Nat.le_of_ble_eq_true rfl) (by rw [mt_34]; exact oReader_sh o) (by rw [mt_34]; decide) (by rw [rk_34]; decide) (s_34 o H (q := 7) (by decide)) ?_
  refine w_beq 26 l_46_19 (by decide) (fun _ => ?_) (fun hx => absurd hx (by rw [hw7]; decide))
  refine w_aln l_46_26 rfl ?_
  refine w_ldc l_46_27 (by decide) ?_
  refine q_iv [vs (2 * 8 + 4)] [] l_46_29 rfl rfl (Nat.le_of_ble_eq_true rfl) (by rw [mx_34]; exact Nat.le_of_ble_eq_true rfl) (by rw [mt_34]; exact oReader_sh o) (by rw [mt_34]; decide) (by rw [rk_34]; decide) (s_34 o H (q := 8) (by decide)) ?_
  refine w_beq 39 l_46_32 (by decide) (fun _ => ?_) (fun hx => absurd hx (by rw [hw8]; decide))
  refine w_aln l_46_39 rfl ?_
  refine w_ldc l_46_40 (by decide) ?_
  refine q_iv [vs (2 * 9 + 4)] [] l_46_42 rfl rfl (Nat.le_of_ble_eq_true rfl) (by rw [mx_34]; exact Nat.le_of_ble_eq_true rfl) (by rw [mt_34]; exact oReader_sh o) (by rw [mt_34]; decide) (by rw [rk_34]; decide) (s_34 o H (q := 9) (by decide)) ?_
  refine w_beq 53 l_46_45 (by decide) (fun _ => ?_) (fun hx => absurd hx (by rw [hw9]; decide))
  refine w_aln l_46_53 rfl ?_
  refine w_ldc l_46_54 (by decide) ?_
  refine q_iv [vs (2 * 10 + 4)] [] l_46_56 rfl rfl (Nat.le_of_ble_eq_true rfl) (by rw [mx_34]; exact Nat.le_of_ble_eq_true rfl) (by rw [mt_34]; exact oReader_sh o) (by rw [mt_34]; decide) (by rw [rk_34]; decide) (s_34 o H (q := 10) (by decide)) ?_
  refine w_beq 67 l_46_59 (by decide) (fun hx => absurd hx (by rw [hw10]; decide)) (fun _ => ?_)
  refine w_bp l_46_62 (by decide) ?_
  refine w_go 82 l_46_64 (by decide) ?_
  refine w_ir l_46_82 (Or.inl rfl) ?_
  exact ⟨rfl, rfl⟩

theorem s_46_11 (o : oReader S T s x y) {p : Nat} (H : RT I s x t n p) (hw6 : isWL t n (strB 6) p = false) (hw7 : isWL t n (strB 7) p = false) (hw8 : isWL t n (strB 8) p = false) (hw9 : isWL t n (strB 9) p = false) (hw10 : isWL t n (strB 10) p = false) (hw11 : isWL t n (strB 11) p = true) : CL xs 46 [vr s] (S, I, T, cc, zz) (FN (some (vi 8)) (S, I, T, cc, zz)) := by
  refine CL_start (r := 5) (ls := [vr s]) (rk_46 _) rfl ?_
  refine w_aln l_46_0 rfl ?_
  refine w_ldc l_46_1 (by decide) ?_
  refine q_iv [vs (2 * 6 + 4)] [] l_46_3 rfl rfl (Nat.le_of_ble_eq_true rfl) (by rw [mx_34]; exact Nat.le_of_ble_eq_true rfl) (by rw [mt_34]; exact oReader_sh o) (by rw [mt_34]; decide) (by rw [rk_34]; decide) (s_34 o H (q := 6) (by decide)) ?_
  refine w_beq 13 l_46_6 (by decide) (fun _ => ?_) (fun hx => absurd hx (by rw [hw6]; decide))
  refine w_aln l_46_13 rfl ?_
  refine w_ldc l_46_14 (by decide) ?_
  refine q_iv [vs (2 * 7 + 4)] [] l_46_16 rfl rfl (Nat.le_of_ble_eq_true rfl) (by rw [mx_34]; exact Nat.le_of_ble_eq_true rfl) (by rw [mt_34]; exact oReader_sh o) (by rw [mt_34]; decide) (by rw [rk_34]; decide) (s_34 o H (q := 7) (by decide)) ?_
  refine w_beq 26 l_46_19 (by decide) (fun _ => ?_) (fun hx => absurd hx (by rw [hw7]; decide))
  refine w_aln l_46_26 rfl ?_
  refine w_ldc l_46_27 (by decide) ?_
  refine q_iv [vs (2 * 8 + 4)] [] l_46_29 rfl rfl (Nat.le_of_ble_eq_true rfl) (by rw [mx_34]; exact Nat.le_of_ble_eq_true rfl) (by rw [mt_34]; exact oReader_sh o) (by rw [mt_34]; decide) (by rw [rk_34]; decide) (s_34 o H (q := 8) (by decide)) ?_
  refine w_beq 39 l_46_32 (by decide) (fun _ => ?_) (fun hx => absurd hx (by rw [hw8]; decide))
  refine w_aln l_46_39 rfl ?_
  refine w_ldc l_46_40 (by decide) ?_
  refine q_iv [vs (2 * 9 + 4)] [] l_46_42 rfl rfl (Nat.le_of_ble_eq_true rfl) (by rw [mx_34]; exact Nat.le_of_ble_eq_true rfl) (by rw [mt_34]; exact oReader_sh o) (by rw [mt_34]; decide) (by rw [rk_34]; decide) (s_34 o H (q := 9) (by decide)) ?_
  refine w_beq 53 l_46_45 (by decide) (fun _ => ?_) (fun hx => absurd hx (by rw [hw9]; decide))
  refine w_aln l_46_53 rfl ?_
  refine w_ldc l_46_54 (by decide) ?_
  refine q_iv [vs (2 * 10 + 4)] [] l_46_56 rfl rfl (Nat.le_of_ble_eq_true rfl) (by rw [mx_34]; exact Nat.le_of_ble_eq_true rfl) (by rw [mt_34]; exact oReader_sh o) (by rw [mt_34]; decide) (by rw [rk_34]; decide) (s_34 o H (q := 10) (by decide)) ?_
  refine w_beq 67 l_46_59 (by decide) (fun _ => ?_) (fun hx => absurd hx (by rw [hw10]; decide))
  refine w_aln l_46_67 rfl ?_
  refine w_ldc l_46_68 (by decide) ?_
  refine q_iv [vs (2 * 11 + 4)] [] l_46_70 rfl rfl (Nat.le_of_ble_eq_true rfl) (by rw [mx_34]; exact Nat.le_of_ble_eq_true rfl) (by rw [mt_34]; exact oReader_sh o) (by rw [mt_34]; decide) (by rw [rk_34]; decide) (s_34 o H (q := 11) (by decide)) ?_
  refine w_beq 81 l_46_73 (by decide) (fun hx => absurd hx (by rw [hw11]; decide)) (fun _ => ?_)
  refine w_bp l_46_76 (by decide) ?_
  refine w_go 82 l_46_78 (by decide) ?_
  refine w_ir l_46_82 (Or.inl rfl) ?_
  exact ⟨rfl, rfl⟩

theorem s_46_0 (o : oReader S T s x y) {p : Nat} (H : RT I s x t n p) (hw6 : isWL t n (strB 6) p = false) (hw7 : isWL t n (strB 7) p = false) (hw8 : isWL t n (strB 8) p = false) (hw9 : isWL t n (strB 9) p = false) (hw10 : isWL t n (strB 10) p = false) (hw11 : isWL t n (strB 11) p = false) : CL xs 46 [vr s] (S, I, T, cc, zz) (FN (some (vi (-1))) (S, I, T, cc, zz)) := by
  refine CL_start (r := 5) (ls := [vr s]) (rk_46 _) rfl ?_
  refine w_aln l_46_0 rfl ?_
  refine w_ldc l_46_1 (by decide) ?_
  refine q_iv [vs (2 * 6 + 4)] [] l_46_3 rfl rfl (Nat.le_of_ble_eq_true rfl) (by rw [mx_34]; exact Nat.le_of_ble_eq_true rfl) (by rw [mt_34]; exact oReader_sh o) (by rw [mt_34]; decide) (by rw [rk_34]; decide) (s_34 o H (q := 6) (by decide)) ?_
  refine w_beq 13 l_46_6 (by decide) (fun _ => ?_) (fun hx => absurd hx (by rw [hw6]; decide))
  refine w_aln l_46_13 rfl ?_
  refine w_ldc l_46_14 (by decide) ?_
  refine q_iv [vs (2 * 7 + 4)] [] l_46_16 rfl rfl (Nat.le_of_ble_eq_true rfl) (by rw [mx_34]; exact Nat.le_of_ble_eq_true rfl) (by rw [mt_34]; exact oReader_sh o) (by rw [mt_34]; decide) (by rw [rk_34]; decide) (s_34 o H (q := 7) (by decide)) ?_
  refine w_beq 26 l_46_19 (by decide) (fun _ => ?_) (fun hx => absurd hx (by rw [hw7]; decide))
  refine w_aln l_46_26 rfl ?_
  refine w_ldc l_46_27 (by decide) ?_
  refine q_iv [vs (2 * 8 + 4)] [] l_46_29 rfl rfl (Nat.le_of_ble_eq_true rfl) (by rw [mx_34]; exact Nat.le_of_ble_eq_true rfl) (by rw [mt_34]; exact oReader_sh o) (by rw [mt_34]; decide) (by rw [rk_34]; decide) (s_34 o H (q := 8) (by decide)) ?_
  refine w_beq 39 l_46_32 (by decide) (fun _ => ?_) (fun hx => absurd hx (by rw [hw8]; decide))
  refine w_aln l_46_39 rfl ?_
  refine w_ldc l_46_40 (by decide) ?_
  refine q_iv [vs (2 * 9 + 4)] [] l_46_42 rfl rfl (Nat.le_of_ble_eq_true rfl) (by rw [mx_34]; exact Nat.le_of_ble_eq_true rfl) (by rw [mt_34]; exact oReader_sh o) (by rw [mt_34]; decide) (by rw [rk_34]; decide) (s_34 o H (q := 9) (by decide)) ?_
  refine w_beq 53 l_46_45 (by decide) (fun _ => ?_) (fun hx => absurd hx (by rw [hw9]; decide))
  refine w_aln l_46_53 rfl ?_
  refine w_ldc l_46_54 (by decide) ?_
  refine q_iv [vs (2 * 10 + 4)] [] l_46_56 rfl rfl (Nat.le_of_ble_eq_true rfl) (by rw [mx_34]; exact Nat.le_of_ble_eq_true rfl) (by rw [mt_34]; exact oReader_sh o) (by rw [mt_34]; decide) (by rw [rk_34]; decide) (s_34 o H (q := 10) (by decide)) ?_
  refine w_beq 67 l_46_59 (by decide) (fun _ => ?_) (fun hx => absurd hx (by rw [hw10]; decide))
  refine w_aln l_46_67 rfl ?_
  refine w_ldc l_46_68 (by decide) ?_
  refine q_iv [vs (2 * 11 + 4)] [] l_46_70 rfl rfl (Nat.le_of_ble_eq_true rfl) (by rw [mx_34]; exact Nat.le_of_ble_eq_true rfl) (by rw [mt_34]; exact oReader_sh o) (by rw [mt_34]; decide) (by rw [rk_34]; decide) (s_34 o H (q := 11) (by decide)) ?_
  refine w_beq 81 l_46_73 (by decide) (fun _ => ?_) (fun hx => absurd hx (by rw [hw11]; decide))
  refine w_ic l_46_81 (by decide) ?_
  refine w_ir l_46_82 (Or.inl rfl) ?_
  exact ⟨rfl, rfl⟩

theorem mx_45 : mxl 45 = 5 := by decide +kernel
theorem mt_45 : mtc 45 = 4 := by decide +kernel
theorem l_45_0 : look 45 0 = some (.aload_n 0, 1, 0, 0, 0, 0) := by decide +kernel
theorem l_45_1 : look 45 1 = some (.ldc 178, 2, 5, 0, 0, 1110) := by decide +kernel
theorem l_45_3 : look 45 3 = some (.invokevirtual 52, 3, 34, 2, 0, 1056) := by decide +kernel
theorem l_45_6 : look 45 6 = some (.ifCond .ne 12, 3, 0, 0, 0, 0) := by decide +kernel
theorem l_45_9 : look 45 9 = some (.aload_n 0, 1, 0, 0, 0, 0) := by decide +kernel
theorem l_45_10 : look 45 10 = some (.bipush 40, 2, 0, 0, 0, 0) := by decide +kernel
theorem l_45_12 : look 45 12 = some (.invokevirtual 91, 3, 35, 2, 0, 1111) := by decide +kernel
theorem l_45_15 : look 45 15 = some (.ifCond .eq 9, 3, 0, 0, 0, 0) := by decide +kernel
theorem l_45_18 : look 45 18 = some (.aload_n 0, 1, 0, 0, 0, 0) := by decide +kernel
theorem l_45_19 : look 45 19 = some (.iload_n 1, 1, 0, 0, 0, 0) := by decide +kernel
theorem l_45_20 : look 45 20 = some (.invokevirtual 180, 3, 47, 2, 0, 1115) := by decide +kernel
theorem l_45_23 : look 45 23 = some (.ireturn, 1, 0, 0, 1, 0) := by decide +kernel
theorem l_45_24 : look 45 24 = some (.aload_n 0, 1, 0, 0, 0, 0) := by decide +kernel
theorem l_45_25 : look 45 25 = some (.invokevirtual 183, 3, 46, 1, 0, 1123) := by decide +kernel
theorem l_45_28 : look 45 28 = some (.istore_n 2, 1, 0, 0, 0, 0) := by decide +kernel
theorem l_45_29 : look 45 29 = some (.iload_n 2, 1, 0, 0, 0, 0) := by decide +kernel
theorem l_45_30 : look 45 30 = some (.iconst (-1), 1, 0, 0, 0, 0) := by decide +kernel
theorem l_45_31 : look 45 31 = some (.if_icmp .ne 9, 3, 0, 0, 0, 0) := by decide +kernel
theorem l_45_34 : look 45 34 = some (.aload_n 0, 1, 0, 0, 0, 0) := by decide +kernel
theorem l_45_35 : look 45 35 = some (.iconst 1, 1, 0, 0, 0, 0) := by decide +kernel
theorem l_45_36 : look 45 36 = some (.invokevirtual 94, 3, 33, 2, 0, 1066) := by decide +kernel
theorem l_45_39 : look 45 39 = some (.ireturn, 1, 0, 0, 1, 0) := by decide +kernel
theorem l_45_40 : look 45 40 = some (.aload_n 0, 1, 0, 0, 0, 0) := by decide +kernel
theorem l_45_41 : look 45 41 = some (.invokevirtual 44, 3, 32, 1, 0, 1051) := by decide +kernel
theorem l_45_44 : look 45 44 = some (.iconst 0, 1, 0, 0, 0, 0) := by decide +kernel
theorem l_45_45 : look 45 45 = some (.istore_n 3, 1, 0, 0, 0, 0) := by decide +kernel
theorem l_45_46 : look 45 46 = some (.iload_n 2, 1, 0, 0, 0, 0) := by decide +kernel
theorem l_45_47 : look 45 47 = some (.iconst 4, 1, 0, 0, 0, 0) := by decide +kernel
theorem l_45_48 : look 45 48 = some (.if_icmp .ne 21, 3, 0, 0, 0, 0) := by decide +kernel
theorem l_45_51 : look 45 51 = some (.aload_n 0, 1, 0, 0, 0, 0) := by decide +kernel
theorem l_45_52 : look 45 52 = some (.iconst 0, 1, 0, 0, 0, 0) := by decide +kernel
theorem l_45_53 : look 45 53 = some (.invokevirtual 137, 3, 38, 2, 0, 1070) := by decide +kernel
theorem l_45_56 : look 45 56 = some (.ifCond .ne 5, 3, 0, 0, 0, 0) := by decide +kernel
theorem l_45_59 : look 45 59 = some (.iconst 0, 1, 0, 0, 0, 0) := by decide +kernel
theorem l_45_60 : look 45 60 = some (.ireturn, 1, 0, 0, 1, 0) := by decide +kernel
theorem l_45_61 : look 45 61 = some (.aload_n 0, 1, 0, 0, 0, 0) := by decide +kernel
theorem l_45_62 : look 45 62 = some (.getfield 110, 3, 4, 9, 0, 473) := by decide +kernel
theorem l_45_65 : look 45 65 = some (.istore_n 3, 1, 0, 0, 0, 0) := by decide +kernel
theorem l_45_66 : look 45 66 = some (.goto 84, 3, 0, 0, 0, 0) := by decide +kernel
theorem l_45_69 : look 45 69 = some (.iload_n 2, 1, 0, 0, 0, 0) := by decide +kernel
theorem l_45_70 : look 45 70 = some (.iconst 3, 1, 0, 0, 0, 0) := by decide +kernel
theorem l_45_71 : look 45 71 = some (.if_icmp .eq 79, 3, 0, 0, 0, 0) := by decide +kernel
theorem l_45_74 : look 45 74 = some (.aload_n 0, 1, 0, 0, 0, 0) := by decide +kernel
theorem l_45_75 : look 45 75 = some (.bipush 60, 2, 0, 0, 0, 0) := by decide +kernel
theorem l_45_77 : look 45 77 = some (.invokevirtual 91, 3, 35, 2, 0, 1111) := by decide +kernel
theorem l_45_80 : look 45 80 = some (.ifCond .eq 7, 3, 0, 0, 0, 0) := by decide +kernel
theorem l_45_83 : look 45 83 = some (.iconst (-1), 1, 0, 0, 0, 0) := by decide +kernel
theorem l_45_84 : look 45 84 = some (.goto 17, 3, 0, 0, 0, 0) := by decide +kernel
theorem l_45_87 : look 45 87 = some (.aload_n 0, 1, 0, 0, 0, 0) := by decide +kernel
theorem l_45_88 : look 45 88 = some (.bipush 62, 2, 0, 0, 0, 0) := by decide +kernel
theorem l_45_90 : look 45 90 = some (.invokevirtual 91, 3, 35, 2, 0, 1111) := by decide +kernel
theorem l_45_93 : look 45 93 = some (.ifCond .eq 7, 3, 0, 0, 0, 0) := by decide +kernel
theorem l_45_96 : look 45 96 = some (.iconst 1, 1, 0, 0, 0, 0) := by decide +kernel
theorem l_45_97 : look 45 97 = some (.goto 4, 3, 0, 0, 0, 0) := by decide +kernel
theorem l_45_100 : look 45 100 = some (.iconst 0, 1, 0, 0, 0, 0) := by decide +kernel
theorem l_45_101 : look 45 101 = some (.istore 4, 2, 0, 0, 0, 0) := by decide +kernel
theorem l_45_103 : look 45 103 = some (.iload 4, 2, 0, 0, 0, 0) := by decide +kernel
theorem l_45_105 : look 45 105 = some (.ifCond .ne 18, 3, 0, 0, 0, 0) := by decide +kernel
theorem l_45_108 : look 45 108 = some (.aload_n 0, 1, 0, 0, 0, 0) := by decide +kernel
theorem l_45_109 : look 45 109 = some (.bipush 61, 2, 0, 0, 0, 0) := by decide +kernel
theorem l_45_111 : look 45 111 = some (.invokevirtual 91, 3, 35, 2, 0, 1111) := by decide +kernel
theorem l_45_114 : look 45 114 = some (.ifCond .ne 9, 3, 0, 0, 0, 0) := by decide +kernel
theorem l_45_117 : look 45 117 = some (.aload_n 0, 1, 0, 0, 0, 0) := by decide +kernel
theorem l_45_118 : look 45 118 = some (.iconst 1, 1, 0, 0, 0, 0) := by decide +kernel
theorem l_45_119 : look 45 119 = some (.invokevirtual 94, 3, 33, 2, 0, 1066) := by decide +kernel
theorem l_45_122 : look 45 122 = some (.ireturn, 1, 0, 0, 1, 0) := by decide +kernel
theorem l_45_123 : look 45 123 = some (.aload_n 0, 1, 0, 0, 0, 0) := by decide +kernel
theorem l_45_124 : look 45 124 = some (.invokevirtual 44, 3, 32, 1, 0, 1051) := by decide +kernel
theorem l_45_127 : look 45 127 = some (.aload_n 0, 1, 0, 0, 0, 0) := by decide +kernel
theorem l_45_128 : look 45 128 = some (.iconst 0, 1, 0, 0, 0, 0) := by decide +kernel
theorem l_45_129 : look 45 129 = some (.sipush 999, 3, 0, 0, 0, 0) := by decide +kernel
theorem l_45_132 : look 45 132 = some (.invokevirtual 114, 3, 37, 3, 0, 1078) := by decide +kernel
theorem l_45_135 : look 45 135 = some (.ifCond .ne 5, 3, 0, 0, 0, 0) := by decide +kernel
theorem l_45_138 : look 45 138 = some (.iconst 0, 1, 0, 0, 0, 0) := by decide +kernel
theorem l_45_139 : look 45 139 = some (.ireturn, 1, 0, 0, 1, 0) := by decide +kernel
theorem l_45_140 : look 45 140 = some (.iload 4, 2, 0, 0, 0, 0) := by decide +kernel
theorem l_45_142 : look 45 142 = some (.aload_n 0, 1, 0, 0, 0, 0) := by decide +kernel
theorem l_45_143 : look 45 143 = some (.getfield 98, 3, 4, 10, 0, 474) := by decide +kernel
theorem l_45_146 : look 45 146 = some (.invokestatic 186, 3, 75, 2, 1, 1133) := by decide +kernel
theorem l_45_149 : look 45 149 = some (.istore_n 3, 1, 0, 0, 0, 0) := by decide +kernel
theorem l_45_150 : look 45 150 = some (.aload_n 0, 1, 0, 0, 0, 0) := by decide +kernel
theorem l_45_151 : look 45 151 = some (.getfield 12, 3, 4, 0, 2, 461) := by decide +kernel
theorem l_45_154 : look 45 154 = some (.iload_n 2, 1, 0, 0, 0, 0) := by decide +kernel
theorem l_45_155 : look 45 155 = some (.iload_n 3, 1, 0, 0, 0, 0) := by decide +kernel
theorem l_45_156 : look 45 156 = some (.invokevirtual 169, 3, 70, 3, 0, 1119) := by decide +kernel
theorem l_45_159 : look 45 159 = some (.iconst 1, 1, 0, 0, 0, 0) := by decide +kernel
theorem l_45_160 : look 45 160 = some (.ireturn, 1, 0, 0, 1, 0) := by decide +kernel
theorem mx_47 : mxl 47 = 3 := by decide +kernel
theorem mt_47 : mtc 47 = 4 := by decide +kernel
theorem l_47_0 : look 47 0 = some (.iload_n 1, 1, 0, 0, 0, 0) := by decide +kernel
theorem l_47_1 : look 47 1 = some (.iconst 5, 1, 0, 0, 0, 0) := by decide +kernel
theorem l_47_2 : look 47 2 = some (.if_icmp .lt 9, 3, 0, 0, 0, 0) := by decide +kernel
theorem l_47_5 : look 47 5 = some (.aload_n 0, 1, 0, 0, 0, 0) := by decide +kernel
theorem l_47_6 : look 47 6 = some (.iconst 4, 1, 0, 0, 0, 0) := by decide +kernel
theorem l_47_7 : look 47 7 = some (.invokevirtual 94, 3, 33, 2, 0, 1066) := by decide +kernel
theorem l_47_10 : look 47 10 = some (.ireturn, 1, 0, 0, 1, 0) := by decide +kernel
theorem l_47_11 : look 47 11 = some (.aload_n 0, 1, 0, 0, 0, 0) := by decide +kernel
theorem l_47_12 : look 47 12 = some (.ldc 178, 2, 5, 0, 0, 1110) := by decide +kernel
theorem l_47_14 : look 47 14 = some (.invokevirtual 52, 3, 34, 2, 0, 1056) := by decide +kernel
theorem l_47_17 : look 47 17 = some (.istore_n 2, 1, 0, 0, 0, 0) := by decide +kernel
theorem l_47_18 : look 47 18 = some (.aload_n 0, 1, 0, 0, 0, 0) := by decide +kernel
theorem l_47_19 : look 47 19 = some (.invokevirtual 44, 3, 32, 1, 0, 1051) := by decide +kernel
theorem l_47_22 : look 47 22 = some (.iload_n 2, 1, 0, 0, 0, 0) := by decide +kernel
theorem l_47_23 : look 47 23 = some (.ifCond .eq 26, 3, 0, 0, 0, 0) := by decide +kernel
theorem l_47_26 : look 47 26 = some (.aload_n 0, 1, 0, 0, 0, 0) := by decide +kernel
theorem l_47_27 : look 47 27 = some (.iload_n 1, 1, 0, 0, 0, 0) := by decide +kernel
theorem l_47_28 : look 47 28 = some (.iconst 1, 1, 0, 0, 0, 0) := by decide +kernel
theorem l_47_29 : look 47 29 = some (.iadd, 1, 0, 0, 0, 0) := by decide +kernel
theorem l_47_30 : look 47 30 = some (.invokevirtual 173, 3, 45, 2, 0, 1106) := by decide +kernel
theorem l_47_33 : look 47 33 = some (.ifCond .ne 5, 3, 0, 0, 0, 0) := by decide +kernel
theorem l_47_36 : look 47 36 = some (.iconst 0, 1, 0, 0, 0, 0) := by decide +kernel
theorem l_47_37 : look 47 37 = some (.ireturn, 1, 0, 0, 1, 0) := by decide +kernel
theorem l_47_38 : look 47 38 = some (.aload_n 0, 1, 0, 0, 0, 0) := by decide +kernel
theorem l_47_39 : look 47 39 = some (.getfield 12, 3, 4, 0, 2, 461) := by decide +kernel
theorem l_47_42 : look 47 42 = some (.iconst 0, 1, 0, 0, 0, 0) := by decide +kernel
theorem l_47_43 : look 47 43 = some (.iconst 0, 1, 0, 0, 0, 0) := by decide +kernel
theorem l_47_44 : look 47 44 = some (.invokevirtual 169, 3, 70, 3, 0, 1119) := by decide +kernel
theorem l_47_47 : look 47 47 = some (.iconst 1, 1, 0, 0, 0, 0) := by decide +kernel
theorem l_47_48 : look 47 48 = some (.ireturn, 1, 0, 0, 1, 0) := by decide +kernel
theorem l_47_49 : look 47 49 = some (.aload_n 0, 1, 0, 0, 0, 0) := by decide +kernel
theorem l_47_50 : look 47 50 = some (.iload_n 1, 1, 0, 0, 0, 0) := by decide +kernel
theorem l_47_51 : look 47 51 = some (.iconst 1, 1, 0, 0, 0, 0) := by decide +kernel
theorem l_47_52 : look 47 52 = some (.iadd, 1, 0, 0, 0, 0) := by decide +kernel
theorem l_47_53 : look 47 53 = some (.invokevirtual 157, 3, 43, 2, 0, 1098) := by decide +kernel
theorem l_47_56 : look 47 56 = some (.ifCond .ne 5, 3, 0, 0, 0, 0) := by decide +kernel
theorem l_47_59 : look 47 59 = some (.iconst 0, 1, 0, 0, 0, 0) := by decide +kernel
theorem l_47_60 : look 47 60 = some (.ireturn, 1, 0, 0, 1, 0) := by decide +kernel
theorem l_47_61 : look 47 61 = some (.aload_n 0, 1, 0, 0, 0, 0) := by decide +kernel
theorem l_47_62 : look 47 62 = some (.bipush 41, 2, 0, 0, 0, 0) := by decide +kernel
theorem l_47_64 : look 47 64 = some (.invokevirtual 91, 3, 35, 2, 0, 1111) := by decide +kernel
theorem l_47_67 : look 47 67 = some (.ifCond .ne 9, 3, 0, 0, 0, 0) := by decide +kernel
theorem l_47_70 : look 47 70 = some (.aload_n 0, 1, 0, 0, 0, 0) := by decide +kernel
theorem l_47_71 : look 47 71 = some (.iconst 1, 1, 0, 0, 0, 0) := by decide +kernel
theorem l_47_72 : look 47 72 = some (.invokevirtual 94, 3, 33, 2, 0, 1066) := by decide +kernel
theorem l_47_75 : look 47 75 = some (.ireturn, 1, 0, 0, 1, 0) := by decide +kernel
theorem l_47_76 : look 47 76 = some (.aload_n 0, 1, 0, 0, 0, 0) := by decide +kernel
theorem l_47_77 : look 47 77 = some (.invokevirtual 44, 3, 32, 1, 0, 1051) := by decide +kernel
theorem l_47_80 : look 47 80 = some (.iconst 1, 1, 0, 0, 0, 0) := by decide +kernel
theorem l_47_81 : look 47 81 = some (.ireturn, 1, 0, 0, 1, 0) := by decide +kernel
theorem mx_44 : mxl 44 = 3 := by decide +kernel
theorem mt_44 : mtc 44 = 4 := by decide +kernel
theorem l_44_0 : look 44 0 = some (.aload_n 0, 1, 0, 0, 0, 0) := by decide +kernel
theorem l_44_1 : look 44 1 = some (.iload_n 1, 1, 0, 0, 0, 0) := by decide +kernel
theorem l_44_2 : look 44 2 = some (.invokevirtual 173, 3, 45, 2, 0, 1106) := by decide +kernel
theorem l_44_5 : look 44 5 = some (.ifCond .ne 5, 3, 0, 0, 0, 0) := by decide +kernel
theorem l_44_8 : look 44 8 = some (.iconst 0, 1, 0, 0, 0, 0) := by decide +kernel
theorem l_44_9 : look 44 9 = some (.ireturn, 1, 0, 0, 1, 0) := by decide +kernel
theorem l_44_10 : look 44 10 = some (.iconst 0, 1, 0, 0, 0, 0) := by decide +kernel
theorem l_44_11 : look 44 11 = some (.istore_n 2, 1, 0, 0, 0, 0) := by decide +kernel
theorem l_44_12 : look 44 12 = some (.iload_n 2, 1, 0, 0, 0, 0) := by decide +kernel
theorem l_44_13 : look 44 13 = some (.aload_n 0, 1, 0, 0, 0, 0) := by decide +kernel
theorem l_44_14 : look 44 14 = some (.getfield 35, 3, 4, 4, 0, 468) := by decide +kernel
theorem l_44_17 : look 44 17 = some (.if_icmp .ge 41, 3, 0, 0, 0, 0) := by decide +kernel
theorem l_44_20 : look 44 20 = some (.aload_n 0, 1, 0, 0, 0, 0) := by decide +kernel
theorem l_44_21 : look 44 21 = some (.ldc 176, 2, 12, 0, 0, 1136) := by decide +kernel
theorem l_44_23 : look 44 23 = some (.invokevirtual 52, 3, 34, 2, 0, 1056) := by decide +kernel
theorem l_44_26 : look 44 26 = some (.ifCond .eq 32, 3, 0, 0, 0, 0) := by decide +kernel
theorem l_44_29 : look 44 29 = some (.aload_n 0, 1, 0, 0, 0, 0) := by decide +kernel
theorem l_44_30 : look 44 30 = some (.invokevirtual 44, 3, 32, 1, 0, 1051) := by decide +kernel
theorem l_44_33 : look 44 33 = some (.aload_n 0, 1, 0, 0, 0, 0) := by decide +kernel
theorem l_44_34 : look 44 34 = some (.iload_n 1, 1, 0, 0, 0, 0) := by decide +kernel
theorem l_44_35 : look 44 35 = some (.invokevirtual 173, 3, 45, 2, 0, 1106) := by decide +kernel
theorem l_44_38 : look 44 38 = some (.ifCond .ne 5, 3, 0, 0, 0, 0) := by decide +kernel
theorem l_44_41 : look 44 41 = some (.iconst 0, 1, 0, 0, 0, 0) := by decide +kernel
theorem l_44_42 : look 44 42 = some (.ireturn, 1, 0, 0, 1, 0) := by decide +kernel
theorem l_44_43 : look 44 43 = some (.aload_n 0, 1, 0, 0, 0, 0) := by decide +kernel
theorem l_44_44 : look 44 44 = some (.getfield 12, 3, 4, 0, 2, 461) := by decide +kernel
theorem l_44_47 : look 44 47 = some (.iconst 1, 1, 0, 0, 0, 0) := by decide +kernel
theorem l_44_48 : look 44 48 = some (.iconst 0, 1, 0, 0, 0, 0) := by decide +kernel
theorem l_44_49 : look 44 49 = some (.invokevirtual 169, 3, 70, 3, 0, 1119) := by decide +kernel
theorem l_44_52 : look 44 52 = some (.iinc 2 1, 3, 0, 0, 0, 0) := by decide +kernel
theorem l_44_55 : look 44 55 = some (.goto (-43), 3, 0, 0, 0, 0) := by decide +kernel
theorem l_44_58 : look 44 58 = some (.iconst 1, 1, 0, 0, 0, 0) := by decide +kernel
theorem l_44_59 : look 44 59 = some (.ireturn, 1, 0, 0, 1, 0) := by decide +kernel
theorem mx_43 : mxl 43 = 3 := by decide +kernel
theorem mt_43 : mtc 43 = 4 := by decide +kernel
theorem l_43_0 : look 43 0 = some (.aload_n 0, 1, 0, 0, 0, 0) := by decide +kernel
theorem l_43_1 : look 43 1 = some (.iload_n 1, 1, 0, 0, 0, 0) := by decide +kernel
theorem l_43_2 : look 43 2 = some (.invokevirtual 164, 3, 44, 2, 0, 1102) := by decide +kernel
theorem l_43_5 : look 43 5 = some (.ifCond .ne 5, 3, 0, 0, 0, 0) := by decide +kernel
theorem l_43_8 : look 43 8 = some (.iconst 0, 1, 0, 0, 0, 0) := by decide +kernel
theorem l_43_9 : look 43 9 = some (.ireturn, 1, 0, 0, 1, 0) := by decide +kernel
theorem l_43_10 : look 43 10 = some (.iconst 0, 1, 0, 0, 0, 0) := by decide +kernel
theorem l_43_11 : look 43 11 = some (.istore_n 2, 1, 0, 0, 0, 0) := by decide +kernel
theorem l_43_12 : look 43 12 = some (.iload_n 2, 1, 0, 0, 0, 0) := by decide +kernel
theorem l_43_13 : look 43 13 = some (.aload_n 0, 1, 0, 0, 0, 0) := by decide +kernel
theorem l_43_14 : look 43 14 = some (.getfield 35, 3, 4, 4, 0, 468) := by decide +kernel
theorem l_43_17 : look 43 17 = some (.if_icmp .ge 41, 3, 0, 0, 0, 0) := by decide +kernel
theorem l_43_20 : look 43 20 = some (.aload_n 0, 1, 0, 0, 0, 0) := by decide +kernel
theorem l_43_21 : look 43 21 = some (.ldc 167, 2, 13, 0, 0, 1137) := by decide +kernel
theorem l_43_23 : look 43 23 = some (.invokevirtual 52, 3, 34, 2, 0, 1056) := by decide +kernel
theorem l_43_26 : look 43 26 = some (.ifCond .eq 32, 3, 0, 0, 0, 0) := by decide +kernel
theorem l_43_29 : look 43 29 = some (.aload_n 0, 1, 0, 0, 0, 0) := by decide +kernel
theorem l_43_30 : look 43 30 = some (.invokevirtual 44, 3, 32, 1, 0, 1051) := by decide +kernel
theorem l_43_33 : look 43 33 = some (.aload_n 0, 1, 0, 0, 0, 0) := by decide +kernel
theorem l_43_34 : look 43 34 = some (.iload_n 1, 1, 0, 0, 0, 0) := by decide +kernel
theorem l_43_35 : look 43 35 = some (.invokevirtual 164, 3, 44, 2, 0, 1102) := by decide +kernel
theorem l_43_38 : look 43 38 = some (.ifCond .ne 5, 3, 0, 0, 0, 0) := by decide +kernel
theorem l_43_41 : look 43 41 = some (.iconst 0, 1, 0, 0, 0, 0) := by decide +kernel
theorem l_43_42 : look 43 42 = some (.ireturn, 1, 0, 0, 1, 0) := by decide +kernel
theorem l_43_43 : look 43 43 = some (.aload_n 0, 1, 0, 0, 0, 0) := by decide +kernel
theorem l_43_44 : look 43 44 = some (.getfield 12, 3, 4, 0, 2, 461) := by decide +kernel
theorem l_43_47 : look 43 47 = some (.iconst 2, 1, 0, 0, 0, 0) := by decide +kernel
theorem l_43_48 : look 43 48 = some (.iconst 0, 1, 0, 0, 0, 0) := by decide +kernel
theorem l_43_49 : look 43 49 = some (.invokevirtual 169, 3, 70, 3, 0, 1119) := by decide +kernel
theorem l_43_52 : look 43 52 = some (.iinc 2 1, 3, 0, 0, 0, 0) := by decide +kernel
theorem l_43_55 : look 43 55 = some (.goto (-43), 3, 0, 0, 0, 0) := by decide +kernel
theorem l_43_58 : look 43 58 = some (.iconst 1, 1, 0, 0, 0, 0) := by decide +kernel
theorem l_43_59 : look 43 59 = some (.ireturn, 1, 0, 0, 1, 0) := by decide +kernel
theorem lp_44 {I0 : Ix} (o : oReader S T s x y) (hsy : s < y) (hxy : x < y) {P : Ps} {tot e : Nat} {f : Nat → PR (Nat × Cd)} (he : e ≤ 5) (hF : CS xs S T cc zz s x y t n P tot 45 e f) {B : Nat} (hf : ∀ p, p ≤ n → ∀ a, f p = .inr a → okA n B p a) {cs : Cd} {R : PR (Nat × Cd)} : ∀ d k I p cs1, k + d = n → moreR t n f (strB 12) 7 d p cs1 = R → RT I s x t n p → SU I y P (cs ++ cs1) tot → 2 * tot + 2 * (cs.length + cs1.length) ≤ p → fR I0 I s y → I s 1 = I0 s 1 ∧ I s 2 = I0 s 2 → WP xs 44 (8 + 4 * (5 - e)) 12 [vr s, vi ((e : Nat) : Int), vi ((k : Nat) : Int)] [] (S, I, T, cc, zz) (RP S T cc zz (fun v I' => fR I0 I' s y ∧ RO I0 s v I' R (fun a => rTk I' s t n a.1 ∧ SU I' y P (cs ++ a.2) tot))) := by
  intro d
  induction d with
  | zero =>
    intro k I p cs1 hk hR H Z hb fi hbb
    refine w_iln l_44_12 rfl ?_
    refine w_aln l_44_13 rfl ?_
    refine w_gi ((n : Nat) : Int) l_44_14 (oReader_sh o) H.1.1 ?_
    refine w_cge 58 l_44_17 (by decide) (fun _ => ?_) (fun hx => absurd hx (by omega))
    refine w_ic l_44_58 (by decide) ?_
    refine w_ir l_44_59 (by decide) ?_
    exact ⟨_, _, rfl, rfl, fi, by rw [← hR]; exact ⟨rfl, hbb, H.2, Z⟩⟩
  | succ d ih =>
    intro k I p cs1 hk hR H Z hb fi hbb
    have hpn := H.2.2.2.2
    have h600 := H.1.2.1
    cases hw : isWL t n (strB 12) p with
    | false =>
      refine w_iln l_44_12 rfl ?_
      refine w_aln l_44_13 rfl ?_
      refine w_gi ((n : Nat) : Int) l_44_14 (oReader_sh o) H.1.1 ?_
      refine w_cge 58 l_44_17 (by decide) (fun hx => absurd hx (by omega)) (fun _ => ?_)
      refine w_aln l_44_20 rfl ?_
      refine w_ldc l_44_21 (by decide) ?_
      refine q_iv [vs (2 * 12 + 4)] [] l_44_23 rfl rfl (Nat.le_of_ble_eq_true rfl) (by rw [mx_34]; exact Nat.le_of_ble_eq_true rfl) (by rw [mt_34]; exact oReader_sh o) (by rw [mt_34]; decide) (by rw [rk_34]; omega) (s_34 o H (q := 12) (by decide)) ?_
      refine w_beq 58 l_44_26 (by decide) (fun _ => ?_) (fun hx => absurd hx (by rw [hw]; decide))
      refine w_ic l_44_58 (by decide) ?_
      refine w_ir l_44_59 (by decide) ?_
      have hR9 : R = .inr (p, cs1) := by
        rw [← hR, moreR, if_neg (by rw [hw]; decide)]
      exact ⟨_, _, rfl, rfl, fi, by rw [hR9]; exact ⟨rfl, hbb, H.2, Z⟩⟩
    | true =>
      have hnx := isWL_nx (by decide) hw
      cases hf1 : f (nxt t n p) with
      | inl e9 =>
        refine w_iln l_44_12 rfl ?_
        refine w_aln l_44_13 rfl ?_
        refine w_gi ((n : Nat) : Int) l_44_14 (oReader_sh o) H.1.1 ?_
        refine w_cge 58 l_44_17 (by decide) (fun hx => absurd hx (by omega)) (fun _ => ?_)
        refine w_aln l_44_20 rfl ?_
        refine w_ldc l_44_21 (by decide) ?_
        refine q_iv [vs (2 * 12 + 4)] [] l_44_23 rfl rfl (Nat.le_of_ble_eq_true rfl) (by rw [mx_34]; exact Nat.le_of_ble_eq_true rfl) (by rw [mt_34]; exact oReader_sh o) (by rw [mt_34]; decide) (by rw [rk_34]; omega) (s_34 o H (q := 12) (by decide)) ?_
        refine w_beq 58 l_44_26 (by decide) (fun hx => absurd hx (by rw [hw]; decide)) (fun _ => ?_)
        refine w_aln l_44_29 rfl ?_
        refine p_iv [] [] l_44_30 rfl rfl (Nat.le_of_ble_eq_true rfl) (by rw [mx_32]; exact Nat.le_of_ble_eq_true rfl) (by rw [mt_32]; exact oReader_sh o) (by rw [mt_32]; decide) (by rw [rk_32]; omega) (s_32 o H.1 (tEnd_le H.2.2.2.2) H.2.1) (fun v I1 hv => ?_)
        obtain ⟨rfl, hk1, f1⟩ := hv
        have H1 : RT I1 s x t n (nxt t n p) := ⟨H.1.fS (oReader_ne o) f1.S, hk1⟩
        have Z1 := Z.fS hsy f1.S
        refine w_aln l_44_33 rfl ?_
        refine w_iln l_44_34 rfl ?_
        refine p_iv [vi ((e : Nat) : Int)] [] l_44_35 rfl rfl (Nat.le_of_ble_eq_true rfl) (by rw [mx_45]; exact Nat.le_of_ble_eq_true rfl) (by rw [mt_45]; exact oReader_sh o) (by rw [mt_45]; decide) (by rw [rk_45 (by omega)]; omega) (by have g9 := hF I1 (nxt t n p) (cs ++ cs1) H1 Z1 (by rw [List.length_append]; omega); rw [hf1] at g9; exact g9) (fun v I2 hv => ?_)
        obtain ⟨f2, rfl, e1, e2⟩ := hv
        refine w_zne 43 l_44_38 (by decide) (fun hx => absurd hx (by decide)) (fun _ => ?_)
        refine w_ic l_44_41 (by decide) ?_
        refine w_ir l_44_42 (by decide) ?_
        have hR9 : R = .inl e9 := by
          rw [← hR, moreR, if_pos hw, hf1]
        exact ⟨_, _, rfl, rfl, fi.tr ((f1.S.R y).tr f2), by rw [hR9]; exact ⟨rfl, e1, e2⟩⟩
      | inr a9 =>
        obtain ⟨p2, c2⟩ := a9
        have hok := hf _ (nxt_le hpn) _ hf1
        have hok1 : nxt t n p + 2 * c2.length ≤ p2 := hok.1
        have hok2 : p2 ≤ n := hok.2.1
        refine w_iln l_44_12 rfl ?_
        refine w_aln l_44_13 rfl ?_
        refine w_gi ((n : Nat) : Int) l_44_14 (oReader_sh o) H.1.1 ?_
        refine w_cge 58 l_44_17 (by decide) (fun hx => absurd hx (by omega)) (fun _ => ?_)
        refine w_aln l_44_20 rfl ?_
        refine w_ldc l_44_21 (by decide) ?_
        refine q_iv [vs (2 * 12 + 4)] [] l_44_23 rfl rfl (Nat.le_of_ble_eq_true rfl) (by rw [mx_34]; exact Nat.le_of_ble_eq_true rfl) (by rw [mt_34]; exact oReader_sh o) (by rw [mt_34]; decide) (by rw [rk_34]; omega) (s_34 o H (q := 12) (by decide)) ?_
        refine w_beq 58 l_44_26 (by decide) (fun hx => absurd hx (by rw [hw]; decide)) (fun _ => ?_)
        refine w_aln l_44_29 rfl ?_
        refine p_iv [] [] l_44_30 rfl rfl (Nat.le_of_ble_eq_true rfl) (by rw [mx_32]; exact Nat.le_of_ble_eq_true rfl) (by rw [mt_32]; exact oReader_sh o) (by rw [mt_32]; decide) (by rw [rk_32]; omega) (s_32 o H.1 (tEnd_le H.2.2.2.2) H.2.1) (fun v I1 hv => ?_)
        obtain ⟨rfl, hk1, f1⟩ := hv
        have H1 : RT I1 s x t n (nxt t n p) := ⟨H.1.fS (oReader_ne o) f1.S, hk1⟩
        have Z1 := Z.fS hsy f1.S
        refine w_aln l_44_33 rfl ?_
        refine w_iln l_44_34 rfl ?_
        refine p_iv [vi ((e : Nat) : Int)] [] l_44_35 rfl rfl (Nat.le_of_ble_eq_true rfl) (by rw [mx_45]; exact Nat.le_of_ble_eq_true rfl) (by rw [mt_45]; exact oReader_sh o) (by rw [mt_45]; decide) (by rw [rk_45 (by omega)]; omega) (by have g9 := hF I1 (nxt t n p) (cs ++ cs1) H1 Z1 (by rw [List.length_append]; omega); rw [hf1] at g9; exact g9) (fun v I2 hv => ?_)
        obtain ⟨f2, rfl, b2, hk2, Z2⟩ := hv
        have Z2 : SU I2 y P (cs ++ cs1 ++ c2) tot := Z2
        have hk2 : rTk I2 s t n p2 := hk2
        refine w_zne 43 l_44_38 (by decide) (fun _ => ?_) (fun hx => absurd hx (by decide))
        refine w_aln l_44_43 rfl ?_
        refine w_gr l_44_44 (oReader_sh o) (oReader_r0 o) ?_
        refine w_ic l_44_47 (by decide) ?_
        refine w_ic l_44_48 (by decide) ?_
        refine p_iv [vi 1, vi 0] [] l_44_49 rfl rfl (Nat.le_of_ble_eq_true rfl) (by rw [mx_70]; exact Nat.le_of_ble_eq_true rfl) (by rw [mt_70]; exact oSetup_sh (oReader_o0 o)) (by rw [mt_70]; decide) (by rw [rk_70]; omega) (s_70 (oReader_o0 o) (c := (7, 0, 0)) (kd := 1) (wh := 0) Z2 (by decide) (by decide) (by decide) (by decide) (by rw [List.length_append, List.length_append]; omega)) (fun v I3 hv => ?_)
        obtain ⟨rfl, Z3, f3⟩ := hv
        refine w_inc ((k + 1 : Nat) : Int) l_44_52 rfl rfl (by unfold wr; omega) ?_
        refine w_go 12 l_44_55 (by decide) ?_
        have f23 : fR I2 I3 s y := fun z w h1 h2 => f3 z w (by omega) (by omega)
        have hR9 : moreR t n f (strB 12) 7 d p2 (cs1 ++ c2 ++ [(7, 0, 0)]) = R := by
          rw [← hR, moreR, if_pos hw, hf1]
        refine ih (k + 1) I3 p2 (cs1 ++ c2 ++ [(7, 0, 0)]) (by omega) hR9 ⟨H.1.fR (oReader_ne o) ⟨hxy, hsy⟩ (((f1.S.R y).tr f2).tr f23), (f3 s 5 (by omega) (by omega)).trans hk2.1, (f3 s 6 (by omega) (by omega)).trans hk2.2.1, (f3 s 7 (by omega) (by omega)).trans hk2.2.2.1, hk2.2.2.2⟩ ?_ ?_ (fi.tr (((f1.S.R y).tr f2).tr f23)) ⟨(f3 s 1 (by omega) (by omega)).trans (b2.1.trans ((f1 s 1 (fun _ => by decide)).trans hbb.1)), (f3 s 2 (by omega) (by omega)).trans (b2.2.trans ((f1 s 2 (fun _ => by decide)).trans hbb.2))⟩
        · rw [show cs ++ (cs1 ++ c2 ++ [(7, 0, 0)]) = cs ++ cs1 ++ c2 ++ [(7, 0, 0)] by simp only [List.append_assoc]]
          exact Z3
        · simp only [List.length_append, List.length_cons, List.length_nil]
          omega
theorem c_44 (o : oReader S T s x y) (hsy : s < y) (hxy : x < y) {P : Ps} {tot e : Nat} {f : Nat → PR (Nat × Cd)} (he : e ≤ 5) (hF : CS xs S T cc zz s x y t n P tot 45 e f) {B : Nat} (hf : ∀ p, p ≤ n → ∀ a, f p = .inr a → okA n B p a) : CS xs S T cc zz s x y t n P tot 44 e (listR t n f (strB 12) 7) := by
  intro I p cs H Z hb
  have hpn := H.2.2.2.2
  have h600 := H.1.2.1
  cases hf1 : f p with
  | inl e9 =>
    refine CL_start (r := 8 + 4 * (5 - e)) (ls := [vr s, vi ((e : Nat) : Int), vs 2]) (rk_44 he) rfl ?_
    refine w_aln l_44_0 rfl ?_
    refine w_iln l_44_1 rfl ?_
    refine p_iv [vi ((e : Nat) : Int)] [] l_44_2 rfl rfl (Nat.le_of_ble_eq_true rfl) (by rw [mx_45]; exact Nat.le_of_ble_eq_true rfl) (by rw [mt_45]; exact oReader_sh o) (by rw [mt_45]; decide) (by rw [rk_45 (by omega)]; omega) (by have g9 := hF I p cs H Z hb; rw [hf1] at g9; exact g9) (fun v I2 hv => ?_)
    obtain ⟨f2, rfl, e1, e2⟩ := hv
    refine w_zne 10 l_44_5 (by decide) (fun hx => absurd hx (by decide)) (fun _ => ?_)
    refine w_ic l_44_8 (by decide) ?_
    refine w_ir l_44_9 (by decide) ?_
    have hR9 : listR t n f (strB 12) 7 p = .inl e9 := by
      unfold listR
      rw [hf1]
    exact ⟨_, _, rfl, rfl, f2, by rw [hR9]; exact ⟨rfl, e1, e2⟩⟩
  | inr a9 =>
    obtain ⟨p2, c2⟩ := a9
    have hok := hf _ hpn _ hf1
    have hok1 : p + 2 * c2.length ≤ p2 := hok.1
    have hok2 : p2 ≤ n := hok.2.1
    refine CL_start (r := 8 + 4 * (5 - e)) (ls := [vr s, vi ((e : Nat) : Int), vs 2]) (rk_44 he) rfl ?_
    refine w_aln l_44_0 rfl ?_
    refine w_iln l_44_1 rfl ?_
    refine p_iv [vi ((e : Nat) : Int)] [] l_44_2 rfl rfl (Nat.le_of_ble_eq_true rfl) (by rw [mx_45]; exact Nat.le_of_ble_eq_true rfl) (by rw [mt_45]; exact oReader_sh o) (by rw [mt_45]; decide) (by rw [rk_45 (by omega)]; omega) (by have g9 := hF I p cs H Z hb; rw [hf1] at g9; exact g9) (fun v I2 hv => ?_)
    obtain ⟨f2, rfl, b2, hk2, Z2⟩ := hv
    have Z2 : SU I2 y P (cs ++ c2) tot := Z2
    have hk2 : rTk I2 s t n p2 := hk2
    refine w_zne 10 l_44_5 (by decide) (fun _ => ?_) (fun hx => absurd hx (by decide))
    refine w_ic l_44_10 (by decide) ?_
    refine w_isn l_44_11 ⟨Nat.le_of_ble_eq_true rfl, rfl⟩ ?_
    have hR9 : listR t n f (strB 12) 7 p = moreR t n f (strB 12) 7 n p2 c2 := by
      unfold listR
      rw [hf1]
    rw [hR9]
    exact lp_44 (I0 := I) o hsy hxy he hF hf n 0 I2 p2 c2 (Nat.zero_add _) rfl ⟨H.1.fR (oReader_ne o) ⟨hxy, hsy⟩ f2, hk2⟩ Z2 (by omega) f2 b2


theorem lp_43 {I0 : Ix} (o : oReader S T s x y) (hsy : s < y) (hxy : x < y) {P : Ps} {tot e : Nat} {f : Nat → PR (Nat × Cd)} (he : e ≤ 5) (hF : CS xs S T cc zz s x y t n P tot 44 e f) {B : Nat} (hf : ∀ p, p ≤ n → ∀ a, f p = .inr a → okA n B p a) {cs : Cd} {R : PR (Nat × Cd)} : ∀ d k I p cs1, k + d = n → moreR t n f (strB 13) 8 d p cs1 = R → RT I s x t n p → SU I y P (cs ++ cs1) tot → 2 * tot + 2 * (cs.length + cs1.length) ≤ p → fR I0 I s y → I s 1 = I0 s 1 ∧ I s 2 = I0 s 2 → WP xs 43 (9 + 4 * (5 - e)) 12 [vr s, vi ((e : Nat) : Int), vi ((k : Nat) : Int)] [] (S, I, T, cc, zz) (RP S T cc zz (fun v I' => fR I0 I' s y ∧ RO I0 s v I' R (fun a => rTk I' s t n a.1 ∧ SU I' y P (cs ++ a.2) tot))) := by
  intro d
  induction d with
  | zero =>
    intro k I p cs1 hk hR H Z hb fi hbb
    refine w_iln l_43_12 rfl ?_
    refine w_aln l_43_13 rfl ?_
    refine w_gi ((n : Nat) : Int) l_43_14 (oReader_sh o) H.1.1 ?_
    refine w_cge 58 l_43_17 (by decide) (fun _ => ?_) (fun hx => absurd hx (by omega))
    refine w_ic l_43_58 (by decide) ?_
    refine w_ir l_43_59 (by decide) ?_
    exact ⟨_, _, rfl, rfl, fi, by rw [← hR]; exact ⟨rfl, hbb, H.2, Z⟩⟩
  | succ d ih =>
    intro k I p cs1 hk hR H Z hb fi hbb
    have hpn := H.2.2.2.2
    have h600 := H.1.2.1
    cases hw : isWL t n (strB 13) p with
    | false =>
      refine w_iln l_43_12 rfl ?_
      refine w_aln l_43_13 rfl ?_
      refine w_gi ((n : Nat) : Int) l_43_14 (oReader_sh o) H.1.1 ?_
      refine w_cge 58 l_43_17 (by decide) (fun hx => absurd hx (by omega)) (fun _ => ?_)
      refine w_aln l_43_20 rfl ?_
      refine w_ldc l_43_21 (by decide) ?_
      refine q_iv [vs (2 * 13 + 4)] [] l_43_23 rfl rfl (Nat.le_of_ble_eq_true rfl) (by rw [mx_34]; exact Nat.le_of_ble_eq_true rfl) (by rw [mt_34]; exact oReader_sh o) (by rw [mt_34]; decide) (by rw [rk_34]; omega) (s_34 o H (q := 13) (by decide)) ?_
      refine w_beq 58 l_43_26 (by decide) (fun _ => ?_) (fun hx => absurd hx (by rw [hw]; decide))
      refine w_ic l_43_58 (by decide) ?_
      refine w_ir l_43_59 (by decide) ?_
      have hR9 : R = .inr (p, cs1) := by
        rw [← hR, moreR, if_neg (by rw [hw]; decide)]
      exact ⟨_, _, rfl, rfl, fi, by rw [hR9]; exact ⟨rfl, hbb, H.2, Z⟩⟩
    | true =>
      have hnx := isWL_nx (by decide) hw
      cases hf1 : f (nxt t n p) with
      | inl e9 =>
        refine w_iln l_43_12 rfl ?_
        refine w_aln l_43_13 rfl ?_
        refine w_gi ((n : Nat) : Int) l_43_14 (oReader_sh o) H.1.1 ?_
        refine w_cge 58 l_43_17 (by decide) (fun hx => absurd hx (by omega)) (fun _ => ?_)
        refine w_aln l_43_20 rfl ?_
        refine w_ldc l_43_21 (by decide) ?_
        refine q_iv [vs (2 * 13 + 4)] [] l_43_23 rfl rfl (Nat.le_of_ble_eq_true rfl) (by rw [mx_34]; exact Nat.le_of_ble_eq_true rfl) (by rw [mt_34]; exact oReader_sh o) (by rw [mt_34]; decide) (by rw [rk_34]; omega) (s_34 o H (q := 13) (by decide)) ?_
        refine w_beq 58 l_43_26 (by decide) (fun hx => absurd hx (by rw [hw]; decide)) (fun _ => ?_)
        refine w_aln l_43_29 rfl ?_
        refine p_iv [] [] l_43_30 rfl rfl (Nat.le_of_ble_eq_true rfl) (by rw [mx_32]; exact Nat.le_of_ble_eq_true rfl) (by rw [mt_32]; exact oReader_sh o) (by rw [mt_32]; decide) (by rw [rk_32]; omega) (s_32 o H.1 (tEnd_le H.2.2.2.2) H.2.1) (fun v I1 hv => ?_)
        obtain ⟨rfl, hk1, f1⟩ := hv
        have H1 : RT I1 s x t n (nxt t n p) := ⟨H.1.fS (oReader_ne o) f1.S, hk1⟩
        have Z1 := Z.fS hsy f1.S
        refine w_aln l_43_33 rfl ?_
        refine w_iln l_43_34 rfl ?_
        refine p_iv [vi ((e : Nat) : Int)] [] l_43_35 rfl rfl (Nat.le_of_ble_eq_true rfl) (by rw [mx_44]; exact Nat.le_of_ble_eq_true rfl) (by rw [mt_44]; exact oReader_sh o) (by rw [mt_44]; decide) (by rw [rk_44 (by omega)]; omega) (by have g9 := hF I1 (nxt t n p) (cs ++ cs1) H1 Z1 (by rw [List.length_append]; omega); rw [hf1] at g9; exact g9) (fun v I2 hv => ?_)
        obtain ⟨f2, rfl, e1, e2⟩ := hv
        refine w_zne 43 l_43_38 (by decide) (fun hx => absurd hx (by decide)) (fun _ => ?_)
        refine w_ic l_43_41 (by decide) ?_
        refine w_ir l_43_42 (by decide) ?_
        have hR9 : R = .inl e9 := by
          rw [← hR, moreR, if_pos hw, hf1]
        exact ⟨_, _, rfl, rfl, fi.tr ((f1.S.R y).tr f2), by rw [hR9]; exact ⟨rfl, e1, e2⟩⟩
      | inr a9 =>
        obtain ⟨p2, c2⟩ := a9
        have hok := hf _ (nxt_le hpn) _ hf1
        have hok1 : nxt t n p + 2 * c2.length ≤ p2 := hok.1
        have hok2 : p2 ≤ n := hok.2.1
        refine w_iln l_43_12 rfl ?_
        refine w_aln l_43_13 rfl ?_
        refine w_gi ((n : Nat) : Int) l_43_14 (oReader_sh o) H.1.1 ?_
        refine w_cge 58 l_43_17 (by decide) (fun hx => absurd hx (by omega)) (fun _ => ?_)
        refine w_aln l_43_20 rfl ?_
        refine w_ldc l_43_21 (by decide) ?_
        refine q_iv [vs (2 * 13 + 4)] [] l_43_23 rfl rfl (Nat.le_of_ble_eq_true rfl) (by rw [mx_34]; exact Nat.le_of_ble_eq_true rfl) (by rw [mt_34]; exact oReader_sh o) (by rw [mt_34]; decide) (by rw [rk_34]; omega) (s_34 o H (q := 13) (by decide)) ?_
        refine w_beq 58 l_43_26 (by decide) (fun hx => absurd hx (by rw [hw]; decide)) (fun _ => ?_)
        refine w_aln l_43_29 rfl ?_
        refine p_iv [] [] l_43_30 rfl rfl (Nat.le_of_ble_eq_true rfl) (by rw [mx_32]; exact Nat.le_of_ble_eq_true rfl) (by rw [mt_32]; exact oReader_sh o) (by rw [mt_32]; decide) (by rw [rk_32]; omega) (s_32 o H.1 (tEnd_le H.2.2.2.2) H.2.1) (fun v I1 hv => ?_)
        obtain ⟨rfl, hk1, f1⟩ := hv
        have H1 : RT I1 s x t n (nxt t n p) := ⟨H.1.fS (oReader_ne o) f1.S, hk1⟩
        have Z1 := Z.fS hsy f1.S
        refine w_aln l_43_33 rfl ?_
        refine w_iln l_43_34 rfl ?_
        refine p_iv [vi ((e : Nat) : Int)] [] l_43_35 rfl rfl (Nat.le_of_ble_eq_true rfl) (by rw [mx_44]; exact Nat.le_of_ble_eq_true rfl) (by rw [mt_44]; exact oReader_sh o) (by rw [mt_44]; decide) (by rw [rk_44 (by omega)]; omega) (by have g9 := hF I1 (nxt t n p) (cs ++ cs1) H1 Z1 (by rw [List.length_append]; omega); rw [hf1] at g9; exact g9) (fun v I2 hv => ?_)
        obtain ⟨f2, rfl, b2, hk2, Z2⟩ := hv
        have Z2 : SU I2 y P (cs ++ cs1 ++ c2) tot := Z2
        have hk2 : rTk I2 s t n p2 := hk2
        refine w_zne 43 l_43_38 (by decide) (fun _ => ?_) (fun hx => absurd hx (by decide))
        refine w_aln l_43_43 rfl ?_
        refine w_gr l_43_44 (oReader_sh o) (oReader_r0 o) ?_
        refine w_ic l_43_47 (by decide) ?_
        refine w_ic l_43_48 (by decide) ?_
        refine p_iv [vi 2, vi 0] [] l_43_49 rfl rfl (Nat.le_of_ble_eq_true rfl) (by rw [mx_70]; exact Nat.le_of_ble_eq_true rfl) (by rw [mt_70]; exact oSetup_sh (oReader_o0 o)) (by rw [mt_70]; decide) (by rw [rk_70]; omega) (s_70 (oReader_o0 o) (c := (8, 0, 0)) (kd := 2) (wh := 0) Z2 (by decide) (by decide) (by decide) (by decide) (by rw [List.length_append, List.length_append]; omega)) (fun v I3 hv => ?_)
        obtain ⟨rfl, Z3, f3⟩ := hv
        refine w_inc ((k + 1 : Nat) : Int) l_43_52 rfl rfl (by unfold wr; omega) ?_
        refine w_go 12 l_43_55 (by decide) ?_
        have f23 : fR I2 I3 s y := fun z w h1 h2 => f3 z w (by omega) (by omega)
        have hR9 : moreR t n f (strB 13) 8 d p2 (cs1 ++ c2 ++ [(8, 0, 0)]) = R := by
          rw [← hR, moreR, if_pos hw, hf1]
        refine ih (k + 1) I3 p2 (cs1 ++ c2 ++ [(8, 0, 0)]) (by omega) hR9 ⟨H.1.fR (oReader_ne o) ⟨hxy, hsy⟩ (((f1.S.R y).tr f2).tr f23), (f3 s 5 (by omega) (by omega)).trans hk2.1, (f3 s 6 (by omega) (by omega)).trans hk2.2.1, (f3 s 7 (by omega) (by omega)).trans hk2.2.2.1, hk2.2.2.2⟩ ?_ ?_ (fi.tr (((f1.S.R y).tr f2).tr f23)) ⟨(f3 s 1 (by omega) (by omega)).trans (b2.1.trans ((f1 s 1 (fun _ => by decide)).trans hbb.1)), (f3 s 2 (by omega) (by omega)).trans (b2.2.trans ((f1 s 2 (fun _ => by decide)).trans hbb.2))⟩
        · rw [show cs ++ (cs1 ++ c2 ++ [(8, 0, 0)]) = cs ++ cs1 ++ c2 ++ [(8, 0, 0)] by simp only [List.append_assoc]]
          exact Z3
        · simp only [List.length_append, List.length_cons, List.length_nil]
          omega
theorem c_43 (o : oReader S T s x y) (hsy : s < y) (hxy : x < y) {P : Ps} {tot e : Nat} {f : Nat → PR (Nat × Cd)} (he : e ≤ 5) (hF : CS xs S T cc zz s x y t n P tot 44 e f) {B : Nat} (hf : ∀ p, p ≤ n → ∀ a, f p = .inr a → okA n B p a) : CS xs S T cc zz s x y t n P tot 43 e (listR t n f (strB 13) 8) := by
  intro I p cs H Z hb
  have hpn := H.2.2.2.2
  have h600 := H.1.2.1
  cases hf1 : f p with
  | inl e9 =>
    refine CL_start (r := 9 + 4 * (5 - e)) (ls := [vr s, vi ((e : Nat) : Int), vs 2]) (rk_43 he) rfl ?_
    refine w_aln l_43_0 rfl ?_
    refine w_iln l_43_1 rfl ?_
    refine p_iv [vi ((e : Nat) : Int)] [] l_43_2 rfl rfl (Nat.le_of_ble_eq_true rfl) (by rw [mx_44]; exact Nat.le_of_ble_eq_true rfl) (by rw [mt_44]; exact oReader_sh o) (by rw [mt_44]; decide) (by rw [rk_44 (by omega)]; omega) (by have g9 := hF I p cs H Z hb; rw [hf1] at g9; exact g9) (fun v I2 hv => ?_)
    obtain ⟨f2, rfl, e1, e2⟩ := hv
    refine w_zne 10 l_43_5 (by decide) (fun hx => absurd hx (by decide)) (fun _ => ?_)
    refine w_ic l_43_8 (by decide) ?_
    refine w_ir l_43_9 (by decide) ?_
    have hR9 : listR t n f (strB 13) 8 p = .inl e9 := by
      unfold listR
      rw [hf1]
    exact ⟨_, _, rfl, rfl, f2, by rw [hR9]; exact ⟨rfl, e1, e2⟩⟩
  | inr a9 =>
    obtain ⟨p2, c2⟩ := a9
    have hok := hf _ hpn _ hf1
    have hok1 : p + 2 * c2.length ≤ p2 := hok.1
    have hok2 : p2 ≤ n := hok.2.1
    refine CL_start (r := 9 + 4 * (5 - e)) (ls := [vr s, vi ((e : Nat) : Int), vs 2]) (rk_43 he) rfl ?_
    refine w_aln l_43_0 rfl ?_
    refine w_iln l_43_1 rfl ?_
    refine p_iv [vi ((e : Nat) : Int)] [] l_43_2 rfl rfl (Nat.le_of_ble_eq_true rfl) (by rw [mx_44]; exact Nat.le_of_ble_eq_true rfl) (by rw [mt_44]; exact oReader_sh o) (by rw [mt_44]; decide) (by rw [rk_44 (by omega)]; omega) (by have g9 := hF I p cs H Z hb; rw [hf1] at g9; exact g9) (fun v I2 hv => ?_)
    obtain ⟨f2, rfl, b2, hk2, Z2⟩ := hv
    have Z2 : SU I2 y P (cs ++ c2) tot := Z2
    have hk2 : rTk I2 s t n p2 := hk2
    refine w_zne 10 l_43_5 (by decide) (fun _ => ?_) (fun hx => absurd hx (by decide))
    refine w_ic l_43_10 (by decide) ?_
    refine w_isn l_43_11 ⟨Nat.le_of_ble_eq_true rfl, rfl⟩ ?_
    have hR9 : listR t n f (strB 13) 8 p = moreR t n f (strB 13) 8 n p2 c2 := by
      unfold listR
      rw [hf1]
    rw [hR9]
    exact lp_43 (I0 := I) o hsy hxy he hF hf n 0 I2 p2 c2 (Nat.zero_add _) rfl ⟨H.1.fR (oReader_ne o) ⟨hxy, hsy⟩ f2, hk2⟩ Z2 (by omega) f2 b2

end RDC
