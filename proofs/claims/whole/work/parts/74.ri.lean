/-! the reference: events -/
/-- all but what questions change, and the events -/
def mfe (I J : Ix) (s : Nat) : Prop := ∀ y z, (y = s → z ≠ 0 ∧ z ≠ 15 ∧ z ≠ 16 ∧ (z < 50 ∨ z = 54 ∨ (56 ≤ z ∧ z ≤ 65) ∨ (70 ≤ z ∧ z ≠ 72 ∧ z ≠ 73))) → (s < y → (y < s + 25 ∧ y ≠ s + 10 ∧ y ≠ s + 11) ∨ s + 38 < y) → J y z = I y z
theorem mfe.tr {I J K : Ix} {s : Nat} (h1 : mfe I J s) (h2 : mfe J K s) : mfe I K s := fun y z a b => (h2 y z a b).trans (h1 y z a b)
theorem mfk.e {I J : Ix} {s : Nat} (f : mfk I J s) : mfe I J s := fun y z a b => f y z (fun e => by have := a e; omega) (fun e => by have := b e; omega)
theorem nSu.e {I J : Ix} {s : Nat} {su : Su} (H : nSu I s su) (f : mfe I J s) : nSu J s su := by
  have e0 : ∀ j, 16 < j ∧ j < 50 → J s j = I s j := fun j hj => f s j (fun _ => ⟨by omega, by omega, by omega, Or.inl hj.2⟩) (fun e => absurd e (Nat.lt_irrefl s))
  have e : ∀ j, j ≤ 24 ∧ 11 < j → ∀ z, J (s + j) z = I (s + j) z := fun j hj z => f (s + j) z (fun e => by omega) (fun _ => Or.inl (by omega))
  unfold nSu at H ⊢
  simp only [e0 44 (by decide), e0 45 (by decide), e0 46 (by decide), e0 47 (by decide), e 23 (by decide), e 24 (by decide)]
  exact H
/-- the packet of an event as it is answered -/
def pkO (h : Hi) (e : Nat) : Int := if hKind h e = 0 then (hPk h e : Int) else -1
/-- the new event's packet is told, the other events' rows are kept -/
def p6 (I J : Ix) (s ne : Nat) (v : Int) : Prop := J (s + 10) (7 * ne + 6) = v ∧ ∀ z, z < 7 * ne → J (s + 10) z = I (s + 10) z
theorem p6.k {I J K : Ix} {s ne : Nat} {v : Int} (g : p6 J K s ne v) (f : mfk I J s) : p6 I K s ne v := ⟨g.1, fun z hz => (g.2 z hz).trans (f (s + 10) z (fun e => by omega) (fun _ => by omega))⟩
section RI
variable {xs : List Int} {S : List (Nat × Nat)} {T : Nat → Nat → Nat} {cc zz s : Nat} {h : Hi} {l : Li} {r : Ra} {g : Lo} {I I' : Ix}

theorem mx_232 : mxl 232 = 8 := by decide +kernel
theorem mt_232 : mtc 232 = 10 := by decide +kernel
theorem rk_232 (as : List AV) : rkA 232 as = 10 := rfl
theorem l_232_0 : look 232 0 = some (.bipush 7, 2, 0, 0, 0, 0) := by decide +kernel
theorem l_232_2 : look 232 2 = some (.aload_n 0, 1, 0, 0, 0, 0) := by decide +kernel
theorem l_232_3 : look 232 3 = some (.getfield 330, 3, 10, 15, 0, 1516) := by decide +kernel
theorem l_232_6 : look 232 6 = some (.imul, 1, 0, 0, 0, 0) := by decide +kernel
theorem l_232_7 : look 232 7 = some (.istore 7, 2, 0, 0, 0, 0) := by decide +kernel
theorem l_232_9 : look 232 9 = some (.aload_n 0, 1, 0, 0, 0, 0) := by decide +kernel
theorem l_232_10 : look 232 10 = some (.getfield 49, 3, 10, 17, 2, 1518) := by decide +kernel
theorem l_232_13 : look 232 13 = some (.iload 7, 2, 0, 0, 0, 0) := by decide +kernel
theorem l_232_15 : look 232 15 = some (.iload_n 1, 1, 0, 0, 0, 0) := by decide +kernel
theorem l_232_16 : look 232 16 = some (.iastore, 1, 0, 0, 0, 0) := by decide +kernel
theorem l_232_17 : look 232 17 = some (.aload_n 0, 1, 0, 0, 0, 0) := by decide +kernel
theorem l_232_18 : look 232 18 = some (.getfield 49, 3, 10, 17, 2, 1518) := by decide +kernel
theorem l_232_21 : look 232 21 = some (.iload 7, 2, 0, 0, 0, 0) := by decide +kernel
theorem l_232_23 : look 232 23 = some (.iconst 1, 1, 0, 0, 0, 0) := by decide +kernel
theorem l_232_24 : look 232 24 = some (.iadd, 1, 0, 0, 0, 0) := by decide +kernel
theorem l_232_25 : look 232 25 = some (.iload_n 2, 1, 0, 0, 0, 0) := by decide +kernel
theorem l_232_26 : look 232 26 = some (.iastore, 1, 0, 0, 0, 0) := by decide +kernel
theorem l_232_27 : look 232 27 = some (.aload_n 0, 1, 0, 0, 0, 0) := by decide +kernel
theorem l_232_28 : look 232 28 = some (.getfield 49, 3, 10, 17, 2, 1518) := by decide +kernel
theorem l_232_31 : look 232 31 = some (.iload 7, 2, 0, 0, 0, 0) := by decide +kernel
theorem l_232_33 : look 232 33 = some (.iconst 2, 1, 0, 0, 0, 0) := by decide +kernel
theorem l_232_34 : look 232 34 = some (.iadd, 1, 0, 0, 0, 0) := by decide +kernel
theorem l_232_35 : look 232 35 = some (.iload_n 3, 1, 0, 0, 0, 0) := by decide +kernel
theorem l_232_36 : look 232 36 = some (.iastore, 1, 0, 0, 0, 0) := by decide +kernel
theorem l_232_37 : look 232 37 = some (.aload_n 0, 1, 0, 0, 0, 0) := by decide +kernel
theorem l_232_38 : look 232 38 = some (.getfield 49, 3, 10, 17, 2, 1518) := by decide +kernel
theorem l_232_41 : look 232 41 = some (.iload 7, 2, 0, 0, 0, 0) := by decide +kernel
theorem l_232_43 : look 232 43 = some (.iconst 3, 1, 0, 0, 0, 0) := by decide +kernel
theorem l_232_44 : look 232 44 = some (.iadd, 1, 0, 0, 0, 0) := by decide +kernel
theorem l_232_45 : look 232 45 = some (.iload 4, 2, 0, 0, 0, 0) := by decide +kernel
theorem l_232_47 : look 232 47 = some (.iastore, 1, 0, 0, 0, 0) := by decide +kernel
theorem l_232_48 : look 232 48 = some (.aload_n 0, 1, 0, 0, 0, 0) := by decide +kernel
theorem l_232_49 : look 232 49 = some (.getfield 49, 3, 10, 17, 2, 1518) := by decide +kernel
theorem l_232_52 : look 232 52 = some (.iload 7, 2, 0, 0, 0, 0) := by decide +kernel
theorem l_232_54 : look 232 54 = some (.iconst 4, 1, 0, 0, 0, 0) := by decide +kernel
theorem l_232_55 : look 232 55 = some (.iadd, 1, 0, 0, 0, 0) := by decide +kernel
theorem l_232_56 : look 232 56 = some (.iload 5, 2, 0, 0, 0, 0) := by decide +kernel
theorem l_232_58 : look 232 58 = some (.iastore, 1, 0, 0, 0, 0) := by decide +kernel
theorem l_232_59 : look 232 59 = some (.aload_n 0, 1, 0, 0, 0, 0) := by decide +kernel
theorem l_232_60 : look 232 60 = some (.getfield 49, 3, 10, 17, 2, 1518) := by decide +kernel
theorem l_232_63 : look 232 63 = some (.iload 7, 2, 0, 0, 0, 0) := by decide +kernel
theorem l_232_65 : look 232 65 = some (.iconst 5, 1, 0, 0, 0, 0) := by decide +kernel
theorem l_232_66 : look 232 66 = some (.iadd, 1, 0, 0, 0, 0) := by decide +kernel
theorem l_232_67 : look 232 67 = some (.iload 6, 2, 0, 0, 0, 0) := by decide +kernel
theorem l_232_69 : look 232 69 = some (.iastore, 1, 0, 0, 0, 0) := by decide +kernel
theorem l_232_70 : look 232 70 = some (.aload_n 0, 1, 0, 0, 0, 0) := by decide +kernel
theorem l_232_71 : look 232 71 = some (.getfield 49, 3, 10, 17, 2, 1518) := by decide +kernel
theorem l_232_74 : look 232 74 = some (.iload 7, 2, 0, 0, 0, 0) := by decide +kernel
theorem l_232_76 : look 232 76 = some (.bipush 6, 2, 0, 0, 0, 0) := by decide +kernel
theorem l_232_78 : look 232 78 = some (.iadd, 1, 0, 0, 0, 0) := by decide +kernel
theorem l_232_79 : look 232 79 = some (.iload_n 1, 1, 0, 0, 0, 0) := by decide +kernel
theorem l_232_80 : look 232 80 = some (.ifCond .ne 10, 3, 0, 0, 0, 0) := by decide +kernel
theorem l_232_83 : look 232 83 = some (.aload_n 0, 1, 0, 0, 0, 0) := by decide +kernel
theorem l_232_84 : look 232 84 = some (.getfield 333, 3, 10, 16, 0, 1517) := by decide +kernel
theorem l_232_87 : look 232 87 = some (.goto 4, 3, 0, 0, 0, 0) := by decide +kernel
theorem l_232_90 : look 232 90 = some (.iconst (-1), 1, 0, 0, 0, 0) := by decide +kernel
theorem l_232_91 : look 232 91 = some (.iastore, 1, 0, 0, 0, 0) := by decide +kernel
theorem l_232_92 : look 232 92 = some (.iload_n 1, 1, 0, 0, 0, 0) := by decide +kernel
theorem l_232_93 : look 232 93 = some (.ifCond .ne 26, 3, 0, 0, 0, 0) := by decide +kernel
theorem l_232_96 : look 232 96 = some (.aload_n 0, 1, 0, 0, 0, 0) := by decide +kernel
theorem l_232_97 : look 232 97 = some (.getfield 52, 3, 10, 18, 2, 1519) := by decide +kernel
theorem l_232_100 : look 232 100 = some (.aload_n 0, 1, 0, 0, 0, 0) := by decide +kernel
theorem l_232_101 : look 232 101 = some (.getfield 333, 3, 10, 16, 0, 1517) := by decide +kernel
theorem l_232_104 : look 232 104 = some (.aload_n 0, 1, 0, 0, 0, 0) := by decide +kernel
theorem l_232_105 : look 232 105 = some (.getfield 330, 3, 10, 15, 0, 1516) := by decide +kernel
theorem l_232_108 : look 232 108 = some (.iastore, 1, 0, 0, 0, 0) := by decide +kernel
theorem l_232_109 : look 232 109 = some (.aload_n 0, 1, 0, 0, 0, 0) := by decide +kernel
theorem l_232_110 : look 232 110 = some (.dup, 1, 0, 0, 0, 0) := by decide +kernel
theorem l_232_111 : look 232 111 = some (.getfield 333, 3, 10, 16, 0, 1517) := by decide +kernel
theorem l_232_114 : look 232 114 = some (.iconst 1, 1, 0, 0, 0, 0) := by decide +kernel
theorem l_232_115 : look 232 115 = some (.iadd, 1, 0, 0, 0, 0) := by decide +kernel
theorem l_232_116 : look 232 116 = some (.putfield 333, 3, 10, 16, 0, 1517) := by decide +kernel
theorem l_232_119 : look 232 119 = some (.aload_n 0, 1, 0, 0, 0, 0) := by decide +kernel
theorem l_232_120 : look 232 120 = some (.dup, 1, 0, 0, 0, 0) := by decide +kernel
theorem l_232_121 : look 232 121 = some (.getfield 330, 3, 10, 15, 0, 1516) := by decide +kernel
theorem l_232_124 : look 232 124 = some (.iconst 1, 1, 0, 0, 0, 0) := by decide +kernel
theorem l_232_125 : look 232 125 = some (.iadd, 1, 0, 0, 0, 0) := by decide +kernel
theorem l_232_126 : look 232 126 = some (.putfield 330, 3, 10, 15, 0, 1516) := by decide +kernel
theorem l_232_129 : look 232 129 = some (.aload_n 0, 1, 0, 0, 0, 0) := by decide +kernel
theorem l_232_130 : look 232 130 = some (.invokevirtual 443, 3, 215, 1, 0, 1897) := by decide +kernel
theorem l_232_133 : look 232 133 = some (.return_, 1, 0, 0, 0, 0) := by decide +kernel

theorem s_232_1 (hm : oModel S T s) {ne np : Nat} {a : Nat → Nat} {cd : Nat → Cd} (B : MP I s h l a ne np cd) {p : Nat} (hne : ne < 120) (hp : 1 ≠ 1 → p < lPorts l) : CL xs 232 [vr s, vi 1, vi ((p : Nat) : Int), vi 0, vi 0, vi 0, vi 0] (S, I, T, cc, zz) (RP S T cc zz (fun v I' => v = none ∧ MP I' s (addE h ne 1 p) l a (ne + 1) np cd ∧ nR I' s l (runA (addE h ne 1 p) l noOut (ne + 1)) ∧ (∀ e, ne + 1 = e + 1 → noOut e = false → I' s 68 = ((cntP (addE h ne 1 p) l e (runA (addE h ne 1 p) l noOut e) : Nat) : Int) ∧ I' s 69 = ((cntD (addE h ne 1 p) l e (runA (addE h ne 1 p) l noOut e) : Nat) : Int)) ∧ mfe I I' s)) := by
  refine CL_start (r := 10) (ls := [vr s, vi 1, vi ((p : Nat) : Int), vi 0, vi 0, vi 0, vi 0, vs 2]) (rk_232 _) rfl ?_
  have hnp := B.1.2.1
  refine w_bp l_232_0 (by decide) ?_
  refine w_aln l_232_2 rfl ?_
  refine w_gi ((ne : Nat) : Int) l_232_3 (oModel_sh hm) B.2.2.2.2.2.2.2.1 ?_
  refine w_mul ((7 * ne : Nat) : Int) l_232_6 (by unfold wr; omega) ?_
  refine w_is l_232_7 ⟨Nat.le_of_ble_eq_true rfl, rfl⟩ ?_
  refine w_aln l_232_9 rfl ?_
  refine w_gr l_232_10 (oModel_sh hm) (oModel_r17 hm) ?_
  refine w_il l_232_13 rfl ?_
  refine w_iln l_232_15 rfl ?_
  refine w_iS (7 * ne) l_232_16 (oModel_s17 hm) rfl (by omega) ?_
  refine w_aln l_232_17 rfl ?_
  refine w_gr l_232_18 (oModel_sh hm) (oModel_r17 hm) ?_
  refine w_il l_232_21 rfl ?_
  refine w_ic l_232_23 (by decide) ?_
  refine w_add ((7 * ne + 1 : Nat) : Int) l_232_24 (by unfold wr; omega) ?_
  refine w_iln l_232_25 rfl ?_
  refine w_iS (7 * ne + 1) l_232_26 (oModel_s17 hm) rfl (by omega) ?_
  refine w_aln l_232_27 rfl ?_
  refine w_gr l_232_28 (oModel_sh hm) (oModel_r17 hm) ?_
  refine w_il l_232_31 rfl ?_
  refine w_ic l_232_33 (by decide) ?_
  refine w_add ((7 * ne + 2 : Nat) : Int) l_232_34 (by unfold wr; omega) ?_
  refine w_iln l_232_35 rfl ?_
  refine w_iS (7 * ne + 2) l_232_36 (oModel_s17 hm) rfl (by omega) ?_
  refine w_aln l_232_37 rfl ?_
  refine w_gr l_232_38 (oModel_sh hm) (oModel_r17 hm) ?_
  refine w_il l_232_41 rfl ?_
  refine w_ic l_232_43 (by decide) ?_
  refine w_add ((7 * ne + 3 : Nat) : Int) l_232_44 (by unfold wr; omega) ?_
  refine w_il l_232_45 rfl ?_
  refine w_iS (7 * ne + 3) l_232_47 (oModel_s17 hm) rfl (by omega) ?_
  refine w_aln l_232_48 rfl ?_
  refine w_gr l_232_49 (oModel_sh hm) (oModel_r17 hm) ?_
  refine w_il l_232_52 rfl ?_
  refine w_ic l_232_54 (by decide) ?_
  refine w_add ((7 * ne + 4 : Nat) : Int) l_232_55 (by unfold wr; omega) ?_
  refine w_il l_232_56 rfl ?_
  refine w_iS (7 * ne + 4) l_232_58 (oModel_s17 hm) rfl (by omega) ?_
  refine w_aln l_232_59 rfl ?_
  refine w_gr l_232_60 (oModel_sh hm) (oModel_r17 hm) ?_
  refine w_il l_232_63 rfl ?_
  refine w_ic l_232_65 (by decide) ?_
  refine w_add ((7 * ne + 5 : Nat) : Int) l_232_66 (by unfold wr; omega) ?_
  refine w_il l_232_67 rfl ?_
  refine w_iS (7 * ne + 5) l_232_69 (oModel_s17 hm) rfl (by omega) ?_
  refine w_aln l_232_70 rfl ?_
  refine w_gr l_232_71 (oModel_sh hm) (oModel_r17 hm) ?_
  refine w_il l_232_74 rfl ?_
  refine w_bp l_232_76 (by decide) ?_
  refine w_add ((7 * ne + 6 : Nat) : Int) l_232_78 (by unfold wr; omega) ?_
  refine w_iln l_232_79 rfl ?_
  refine w_zne 90 l_232_80 (by decide) (fun _ => ?_) (fun hx => absurd hx (by decide))
  refine w_ic l_232_90 (by decide) ?_
  refine w_iS (7 * ne + 6) l_232_91 (oModel_s17 hm) rfl (by omega) ?_
  refine w_iln l_232_92 rfl ?_
  refine w_zne 119 l_232_93 (by decide) (fun _ => ?_) (fun hx => absurd hx (by decide))
  refine w_aln l_232_119 rfl ?_
  refine w_dup l_232_120 rfl ?_
  refine w_gi ((ne : Nat) : Int) l_232_121 (oModel_sh hm) ((up_no (by omega)).trans ((up_no (by omega)).trans ((up_no (by omega)).trans ((up_no (by omega)).trans ((up_no (by omega)).trans ((up_no (by omega)).trans ((up_no (by omega)).trans (B.2.2.2.2.2.2.2.1)))))))) ?_
  refine w_ic l_232_124 (by decide) ?_
  refine w_add ((ne + 1 : Nat) : Int) l_232_125 (by unfold wr; omega) ?_
  refine w_pi l_232_126 (oModel_sh hm) ?_
  have hF : mfa I (up (up (up (up (up (up (up (up I (s + 10) (7 * ne) 1) (s + 10) (7 * ne + 1) ((p : Nat) : Int)) (s + 10) (7 * ne + 2) 0) (s + 10) (7 * ne + 3) 0) (s + 10) (7 * ne + 4) 0) (s + 10) (7 * ne + 5) 0) (s + 10) (7 * ne + 6) (-1)) s 15 ((ne + 1 : Nat) : Int)) s ne np := by
    intro y z h1 h2 h3
    by_cases y10 : y = s + 10
    · have := h2 y10
      rw [y10]
      repeat (first | rw [up_no (by omega)] | rw [up_nj (by omega)])
    · by_cases y11 : y = s + 11
      · have := h3 y11
        rw [y11]
        repeat (first | rw [up_no (by omega)] | rw [up_nj (by omega)])
      · by_cases ys : y = s
        · have := h1 ys
          rw [ys]
          repeat (first | rw [up_no (by omega)] | rw [up_nj (by omega)])
        · repeat (rw [up_no (by omega)])
  have hE : mfe I (up (up (up (up (up (up (up (up I (s + 10) (7 * ne) 1) (s + 10) (7 * ne + 1) ((p : Nat) : Int)) (s + 10) (7 * ne + 2) 0) (s + 10) (7 * ne + 3) 0) (s + 10) (7 * ne + 4) 0) (s + 10) (7 * ne + 5) 0) (s + 10) (7 * ne + 6) (-1)) s 15 ((ne + 1 : Nat) : Int)) s := by
    intro y z h1 h2
    by_cases y10 : y = s + 10
    · have := h2 (by omega)
      rw [y10]
      repeat (first | rw [up_no (by omega)] | rw [up_nj (by omega)])
    · by_cases y11 : y = s + 11
      · have := h2 (by omega)
        rw [y11]
        repeat (first | rw [up_no (by omega)] | rw [up_nj (by omega)])
      · by_cases ys : y = s
        · have := h1 ys
          rw [ys]
          repeat (first | rw [up_no (by omega)] | rw [up_nj (by omega)])
        · repeat (rw [up_no (by omega)])
  have v0 : (up (up (up (up (up (up (up (up I (s + 10) (7 * ne) 1) (s + 10) (7 * ne + 1) ((p : Nat) : Int)) (s + 10) (7 * ne + 2) 0) (s + 10) (7 * ne + 3) 0) (s + 10) (7 * ne + 4) 0) (s + 10) (7 * ne + 5) 0) (s + 10) (7 * ne + 6) (-1)) s 15 ((ne + 1 : Nat) : Int)) (s + 10) (7 * ne) = ((1 : Nat) : Int) := by
    repeat (first | rw [up_eq] | rw [up_no (by omega)] | rw [up_nj (by omega)])
    try rfl
  have v1 : (up (up (up (up (up (up (up (up I (s + 10) (7 * ne) 1) (s + 10) (7 * ne + 1) ((p : Nat) : Int)) (s + 10) (7 * ne + 2) 0) (s + 10) (7 * ne + 3) 0) (s + 10) (7 * ne + 4) 0) (s + 10) (7 * ne + 5) 0) (s + 10) (7 * ne + 6) (-1)) s 15 ((ne + 1 : Nat) : Int)) (s + 10) (7 * ne + 1) = ((p : Nat) : Int) := by
    repeat (first | rw [up_eq] | rw [up_no (by omega)] | rw [up_nj (by omega)])
    try rfl
  have v2 : (up (up (up (up (up (up (up (up I (s + 10) (7 * ne) 1) (s + 10) (7 * ne + 1) ((p : Nat) : Int)) (s + 10) (7 * ne + 2) 0) (s + 10) (7 * ne + 3) 0) (s + 10) (7 * ne + 4) 0) (s + 10) (7 * ne + 5) 0) (s + 10) (7 * ne + 6) (-1)) s 15 ((ne + 1 : Nat) : Int)) s 15 = ((ne + 1 : Nat) : Int) := by
    repeat (first | rw [up_eq] | rw [up_no (by omega)] | rw [up_nj (by omega)])
    try rfl
  have v3 : (up (up (up (up (up (up (up (up I (s + 10) (7 * ne) 1) (s + 10) (7 * ne + 1) ((p : Nat) : Int)) (s + 10) (7 * ne + 2) 0) (s + 10) (7 * ne + 3) 0) (s + 10) (7 * ne + 4) 0) (s + 10) (7 * ne + 5) 0) (s + 10) (7 * ne + 6) (-1)) s 15 ((ne + 1 : Nat) : Int)) s 16 = ((np : Nat) : Int) := by
    repeat (first | rw [up_eq] | rw [up_no (by omega)] | rw [up_nj (by omega)])
    exact B.2.2.2.2.2.2.2.2
  have v6 : (up (up (up (up (up (up (up (up I (s + 10) (7 * ne) 1) (s + 10) (7 * ne + 1) ((p : Nat) : Int)) (s + 10) (7 * ne + 2) 0) (s + 10) (7 * ne + 3) 0) (s + 10) (7 * ne + 4) 0) (s + 10) (7 * ne + 5) 0) (s + 10) (7 * ne + 6) (-1)) s 15 ((ne + 1 : Nat) : Int)) (s + 10) (7 * ne + 6) = -1 := by
    repeat (first | rw [up_eq] | rw [up_no (by omega)] | rw [up_nj (by omega)])
    try rfl
  have hB := addE_ok (kind := 1) (p := p) B hF hne (by decide) hp v0 v1 v2 v3
  refine w_aln l_232_129 rfl ?_
  refine p_iv [] [] l_232_130 rfl rfl (Nat.le_of_ble_eq_true rfl) (by rw [mx_215]; exact Nat.le_of_ble_eq_true rfl) (by rw [mt_215]; exact oModel_sh hm) (by rw [mt_215]; decide) (by rw [rk_215]; decide) (s_215 hm hB) (fun v I1 hv => ?_)
  obtain ⟨rfl, hR1, f1, hc, _⟩ := hv
  refine w_vr l_232_133 ?_
  exact ⟨_, _, rfl, rfl, rfl, hB.fr f1, hR1, hc, hE.tr f1.k.e⟩

theorem s_232_2 (hm : oModel S T s) {ne np : Nat} {a : Nat → Nat} {cd : Nat → Cd} (B : MP I s h l a ne np cd) {p : Nat} (hne : ne < 120) (hp : 2 ≠ 1 → p < lPorts l) : CL xs 232 [vr s, vi 2, vi ((p : Nat) : Int), vi 0, vi 0, vi 0, vi 0] (S, I, T, cc, zz) (RP S T cc zz (fun v I' => v = none ∧ MP I' s (addE h ne 2 p) l a (ne + 1) np cd ∧ nR I' s l (runA (addE h ne 2 p) l noOut (ne + 1)) ∧ (∀ e, ne + 1 = e + 1 → noOut e = false → I' s 68 = ((cntP (addE h ne 2 p) l e (runA (addE h ne 2 p) l noOut e) : Nat) : Int) ∧ I' s 69 = ((cntD (addE h ne 2 p) l e (runA (addE h ne 2 p) l noOut e) : Nat) : Int)) ∧ mfe I I' s)) := by
  refine CL_start (r := 10) (ls := [vr s, vi 2, vi ((p : Nat) : Int), vi 0, vi 0, vi 0, vi 0, vs 2]) (rk_232 _) rfl ?_
  have hnp := B.1.2.1
  refine w_bp l_232_0 (by decide) ?_
  refine w_aln l_232_2 rfl ?_
  refine w_gi ((ne : Nat) : Int) l_232_3 (oModel_sh hm) B.2.2.2.2.2.2.2.1 ?_
  refine w_mul ((7 * ne : Nat) : Int) l_232_6 (by unfold wr; omega) ?_
  refine w_is l_232_7 ⟨Nat.le_of_ble_eq_true rfl, rfl⟩ ?_
  refine w_aln l_232_9 rfl ?_
  refine w_gr l_232_10 (oModel_sh hm) (oModel_r17 hm) ?_
  refine w_il l_232_13 rfl ?_
  refine w_iln l_232_15 rfl ?_
  refine w_iS (7 * ne) l_232_16 (oModel_s17 hm) rfl (by omega) ?_
  refine w_aln l_232_17 rfl ?_
  refine w_gr l_232_18 (oModel_sh hm) (oModel_r17 hm) ?_
  refine w_il l_232_21 rfl ?_
  refine w_ic l_232_23 (by decide) ?_
  refine w_add ((7 * ne + 1 : Nat) : Int) l_232_24 (by unfold wr; omega) ?_
  refine w_iln l_232_25 rfl ?_
  refine w_iS (7 * ne + 1) l_232_26 (oModel_s17 hm) rfl (by omega) ?_
  refine w_aln l_232_27 rfl ?_
  refine w_gr l_232_28 (oModel_sh hm) (oModel_r17 hm) ?_
  refine w_il l_232_31 rfl ?_
  refine w_ic l_232_33 (by decide) ?_
  refine w_add ((7 * ne + 2 : Nat) : Int) l_232_34 (by unfold wr; omega) ?_
  refine w_iln l_232_35 rfl ?_
  refine w_iS (7 * ne + 2) l_232_36 (oModel_s17 hm) rfl (by omega) ?_
  refine w_aln l_232_37 rfl ?_
  refine w_gr l_232_38 (oModel_sh hm) (oModel_r17 hm) ?_
  refine w_il l_232_41 rfl ?_
  refine w_ic l_232_43 (by decide) ?_
  refine w_add ((7 * ne + 3 : Nat) : Int) l_232_44 (by unfold wr; omega) ?_
  refine w_il l_232_45 rfl ?_
  refine w_iS (7 * ne + 3) l_232_47 (oModel_s17 hm) rfl (by omega) ?_
  refine w_aln l_232_48 rfl ?_
  refine w_gr l_232_49 (oModel_sh hm) (oModel_r17 hm) ?_
  refine w_il l_232_52 rfl ?_
  refine w_ic l_232_54 (by decide) ?_
  refine w_add ((7 * ne + 4 : Nat) : Int) l_232_55 (by unfold wr; omega) ?_
  refine w_il l_232_56 rfl ?_
  refine w_iS (7 * ne + 4) l_232_58 (oModel_s17 hm) rfl (by omega) ?_
  refine w_aln l_232_59 rfl ?_
  refine w_gr l_232_60 (oModel_sh hm) (oModel_r17 hm) ?_
  refine w_il l_232_63 rfl ?_
  refine w_ic l_232_65 (by decide) ?_
  refine w_add ((7 * ne + 5 : Nat) : Int) l_232_66 (by unfold wr; omega) ?_
  refine w_il l_232_67 rfl ?_
  refine w_iS (7 * ne + 5) l_232_69 (oModel_s17 hm) rfl (by omega) ?_
  refine w_aln l_232_70 rfl ?_
  refine w_gr l_232_71 (oModel_sh hm) (oModel_r17 hm) ?_
  refine w_il l_232_74 rfl ?_
  refine w_bp l_232_76 (by decide) ?_
  refine w_add ((7 * ne + 6 : Nat) : Int) l_232_78 (by unfold wr; omega) ?_
  refine w_iln l_232_79 rfl ?_
  refine w_zne 90 l_232_80 (by decide) (fun _ => ?_) (fun hx => absurd hx (by decide))
  refine w_ic l_232_90 (by decide) ?_
  refine w_iS (7 * ne + 6) l_232_91 (oModel_s17 hm) rfl (by omega) ?_
  refine w_iln l_232_92 rfl ?_
  refine w_zne 119 l_232_93 (by decide) (fun _ => ?_) (fun hx => absurd hx (by decide))
  refine w_aln l_232_119 rfl ?_
  refine w_dup l_232_120 rfl ?_
  refine w_gi ((ne : Nat) : Int) l_232_121 (oModel_sh hm) ((up_no (by omega)).trans ((up_no (by omega)).trans ((up_no (by omega)).trans ((up_no (by omega)).trans ((up_no (by omega)).trans ((up_no (by omega)).trans ((up_no (by omega)).trans (B.2.2.2.2.2.2.2.1)))))))) ?_
  refine w_ic l_232_124 (by decide) ?_
  refine w_add ((ne + 1 : Nat) : Int) l_232_125 (by unfold wr; omega) ?_
  refine w_pi l_232_126 (oModel_sh hm) ?_
  have hF : mfa I (up (up (up (up (up (up (up (up I (s + 10) (7 * ne) 2) (s + 10) (7 * ne + 1) ((p : Nat) : Int)) (s + 10) (7 * ne + 2) 0) (s + 10) (7 * ne + 3) 0) (s + 10) (7 * ne + 4) 0) (s + 10) (7 * ne + 5) 0) (s + 10) (7 * ne + 6) (-1)) s 15 ((ne + 1 : Nat) : Int)) s ne np := by
    intro y z h1 h2 h3
    by_cases y10 : y = s + 10
    · have := h2 y10
      rw [y10]
      repeat (first | rw [up_no (by omega)] | rw [up_nj (by omega)])
    · by_cases y11 : y = s + 11
      · have := h3 y11
        rw [y11]
        repeat (first | rw [up_no (by omega)] | rw [up_nj (by omega)])
      · by_cases ys : y = s
        · have := h1 ys
          rw [ys]
          repeat (first | rw [up_no (by omega)] | rw [up_nj (by omega)])
        · repeat (rw [up_no (by omega)])
  have hE : mfe I (up (up (up (up (up (up (up (up I (s + 10) (7 * ne) 2) (s + 10) (7 * ne + 1) ((p : Nat) : Int)) (s + 10) (7 * ne + 2) 0) (s + 10) (7 * ne + 3) 0) (s + 10) (7 * ne + 4) 0) (s + 10) (7 * ne + 5) 0) (s + 10) (7 * ne + 6) (-1)) s 15 ((ne + 1 : Nat) : Int)) s := by
    intro y z h1 h2
    by_cases y10 : y = s + 10
    · have := h2 (by omega)
      rw [y10]
      repeat (first | rw [up_no (by omega)] | rw [up_nj (by omega)])
    · by_cases y11 : y = s + 11
      · have := h2 (by omega)
        rw [y11]
        repeat (first | rw [up_no (by omega)] | rw [up_nj (by omega)])
      · by_cases ys : y = s
        · have := h1 ys
          rw [ys]
          repeat (first | rw [up_no (by omega)] | rw [up_nj (by omega)])
        · repeat (rw [up_no (by omega)])
  have v0 : (up (up (up (up (up (up (up (up I (s + 10) (7 * ne) 2) (s + 10) (7 * ne + 1) ((p : Nat) : Int)) (s + 10) (7 * ne + 2) 0) (s + 10) (7 * ne + 3) 0) (s + 10) (7 * ne + 4) 0) (s + 10) (7 * ne + 5) 0) (s + 10) (7 * ne + 6) (-1)) s 15 ((ne + 1 : Nat) : Int)) (s + 10) (7 * ne) = ((2 : Nat) : Int) := by
    repeat (first | rw [up_eq] | rw [up_no (by omega)] | rw [up_nj (by omega)])
    try rfl
  have v1 : (up (up (up (up (up (up (up (up I (s + 10) (7 * ne) 2) (s + 10) (7 * ne + 1) ((p : Nat) : Int)) (s + 10) (7 * ne + 2) 0) (s + 10) (7 * ne + 3) 0) (s + 10) (7 * ne + 4) 0) (s + 10) (7 * ne + 5) 0) (s + 10) (7 * ne + 6) (-1)) s 15 ((ne + 1 : Nat) : Int)) (s + 10) (7 * ne + 1) = ((p : Nat) : Int) := by
    repeat (first | rw [up_eq] | rw [up_no (by omega)] | rw [up_nj (by omega)])
    try rfl
  have v2 : (up (up (up (up (up (up (up (up I (s + 10) (7 * ne) 2) (s + 10) (7 * ne + 1) ((p : Nat) : Int)) (s + 10) (7 * ne + 2) 0) (s + 10) (7 * ne + 3) 0) (s + 10) (7 * ne + 4) 0) (s + 10) (7 * ne + 5) 0) (s + 10) (7 * ne + 6) (-1)) s 15 ((ne + 1 : Nat) : Int)) s 15 = ((ne + 1 : Nat) : Int) := by
    repeat (first | rw [up_eq] | rw [up_no (by omega)] | rw [up_nj (by omega)])
    try rfl
  have v3 : (up (up (up (up (up (up (up (up I (s + 10) (7 * ne) 2) (s + 10) (7 * ne + 1) ((p : Nat) : Int)) (s + 10) (7 * ne + 2) 0) (s + 10) (7 * ne + 3) 0) (s + 10) (7 * ne + 4) 0) (s + 10) (7 * ne + 5) 0) (s + 10) (7 * ne + 6) (-1)) s 15 ((ne + 1 : Nat) : Int)) s 16 = ((np : Nat) : Int) := by
    repeat (first | rw [up_eq] | rw [up_no (by omega)] | rw [up_nj (by omega)])
    exact B.2.2.2.2.2.2.2.2
  have v6 : (up (up (up (up (up (up (up (up I (s + 10) (7 * ne) 2) (s + 10) (7 * ne + 1) ((p : Nat) : Int)) (s + 10) (7 * ne + 2) 0) (s + 10) (7 * ne + 3) 0) (s + 10) (7 * ne + 4) 0) (s + 10) (7 * ne + 5) 0) (s + 10) (7 * ne + 6) (-1)) s 15 ((ne + 1 : Nat) : Int)) (s + 10) (7 * ne + 6) = -1 := by
    repeat (first | rw [up_eq] | rw [up_no (by omega)] | rw [up_nj (by omega)])
    try rfl
  have hB := addE_ok (kind := 2) (p := p) B hF hne (by decide) hp v0 v1 v2 v3
  refine w_aln l_232_129 rfl ?_
  refine p_iv [] [] l_232_130 rfl rfl (Nat.le_of_ble_eq_true rfl) (by rw [mx_215]; exact Nat.le_of_ble_eq_true rfl) (by rw [mt_215]; exact oModel_sh hm) (by rw [mt_215]; decide) (by rw [rk_215]; decide) (s_215 hm hB) (fun v I1 hv => ?_)
  obtain ⟨rfl, hR1, f1, hc, _⟩ := hv
  refine w_vr l_232_133 ?_
  exact ⟨_, _, rfl, rfl, rfl, hB.fr f1, hR1, hc, hE.tr f1.k.e⟩

theorem s_232_3 (hm : oModel S T s) {ne np : Nat} {a : Nat → Nat} {cd : Nat → Cd} (B : MP I s h l a ne np cd) {p : Nat} (hne : ne < 120) (hp : 3 ≠ 1 → p < lPorts l) : CL xs 232 [vr s, vi 3, vi ((p : Nat) : Int), vi 0, vi 0, vi 0, vi 0] (S, I, T, cc, zz) (RP S T cc zz (fun v I' => v = none ∧ MP I' s (addE h ne 3 p) l a (ne + 1) np cd ∧ nR I' s l (runA (addE h ne 3 p) l noOut (ne + 1)) ∧ (∀ e, ne + 1 = e + 1 → noOut e = false → I' s 68 = ((cntP (addE h ne 3 p) l e (runA (addE h ne 3 p) l noOut e) : Nat) : Int) ∧ I' s 69 = ((cntD (addE h ne 3 p) l e (runA (addE h ne 3 p) l noOut e) : Nat) : Int)) ∧ mfe I I' s)) := by
  refine CL_start (r := 10) (ls := [vr s, vi 3, vi ((p : Nat) : Int), vi 0, vi 0, vi 0, vi 0, vs 2]) (rk_232 _) rfl ?_
  have hnp := B.1.2.1
  refine w_bp l_232_0 (by decide) ?_
  refine w_aln l_232_2 rfl ?_
  refine w_gi ((ne : Nat) : Int) l_232_3 (oModel_sh hm) B.2.2.2.2.2.2.2.1 ?_
  refine w_mul ((7 * ne : Nat) : Int) l_232_6 (by unfold wr; omega) ?_
  refine w_is l_232_7 ⟨Nat.le_of_ble_eq_true rfl, rfl⟩ ?_
  refine w_aln l_232_9 rfl ?_
  refine w_gr l_232_10 (oModel_sh hm) (oModel_r17 hm) ?_
  refine w_il l_232_13 rfl ?_
  refine w_iln l_232_15 rfl ?_
  refine w_iS (7 * ne) l_232_16 (oModel_s17 hm) rfl (by omega) ?_
  refine w_aln l_232_17 rfl ?_
  refine w_gr l_232_18 (oModel_sh hm) (oModel_r17 hm) ?_
  refine w_il l_232_21 rfl ?_
  refine w_ic l_232_23 (by decide) ?_
  refine w_add ((7 * ne + 1 : Nat) : Int) l_232_24 (by unfold wr; omega) ?_
  refine w_iln l_232_25 rfl ?_
  refine w_iS (7 * ne + 1) l_232_26 (oModel_s17 hm) rfl (by omega) ?_
  refine w_aln l_232_27 rfl ?_
  refine w_gr l_232_28 (oModel_sh hm) (oModel_r17 hm) ?_
  refine w_il l_232_31 rfl ?_
  refine w_ic l_232_33 (by decide) ?_
  refine w_add ((7 * ne + 2 : Nat) : Int) l_232_34 (by unfold wr; omega) ?_
  refine w_iln l_232_35 rfl ?_
  refine w_iS (7 * ne + 2) l_232_36 (oModel_s17 hm) rfl (by omega) ?_
  refine w_aln l_232_37 rfl ?_
  refine w_gr l_232_38 (oModel_sh hm) (oModel_r17 hm) ?_
  refine w_il l_232_41 rfl ?_
  refine w_ic l_232_43 (by decide) ?_
  refine w_add ((7 * ne + 3 : Nat) : Int) l_232_44 (by unfold wr; omega) ?_
  refine w_il l_232_45 rfl ?_
  refine w_iS (7 * ne + 3) l_232_47 (oModel_s17 hm) rfl (by omega) ?_
  refine w_aln l_232_48 rfl ?_
  refine w_gr l_232_49 (oModel_sh hm) (oModel_r17 hm) ?_
  refine w_il l_232_52 rfl ?_
  refine w_ic l_232_54 (by decide) ?_
  refine w_add ((7 * ne + 4 : Nat) : Int) l_232_55 (by unfold wr; omega) ?_
  refine w_il l_232_56 rfl ?_
  refine w_iS (7 * ne + 4) l_232_58 (oModel_s17 hm) rfl (by omega) ?_
  refine w_aln l_232_59 rfl ?_
  refine w_gr l_232_60 (oModel_sh hm) (oModel_r17 hm) ?_
  refine w_il l_232_63 rfl ?_
  refine w_ic l_232_65 (by decide) ?_
  refine w_add ((7 * ne + 5 : Nat) : Int) l_232_66 (by unfold wr; omega) ?_
  refine w_il l_232_67 rfl ?_
  refine w_iS (7 * ne + 5) l_232_69 (oModel_s17 hm) rfl (by omega) ?_
  refine w_aln l_232_70 rfl ?_
  refine w_gr l_232_71 (oModel_sh hm) (oModel_r17 hm) ?_
  refine w_il l_232_74 rfl ?_
  refine w_bp l_232_76 (by decide) ?_
  refine w_add ((7 * ne + 6 : Nat) : Int) l_232_78 (by unfold wr; omega) ?_
  refine w_iln l_232_79 rfl ?_
  refine w_zne 90 l_232_80 (by decide) (fun _ => ?_) (fun hx => absurd hx (by decide))
  refine w_ic l_232_90 (by decide) ?_
  refine w_iS (7 * ne + 6) l_232_91 (oModel_s17 hm) rfl (by omega) ?_
  refine w_iln l_232_92 rfl ?_
  refine w_zne 119 l_232_93 (by decide) (fun _ => ?_) (fun hx => absurd hx (by decide))
  refine w_aln l_232_119 rfl ?_
  refine w_dup l_232_120 rfl ?_
  refine w_gi ((ne : Nat) : Int) l_232_121 (oModel_sh hm) ((up_no (by omega)).trans ((up_no (by omega)).trans ((up_no (by omega)).trans ((up_no (by omega)).trans ((up_no (by omega)).trans ((up_no (by omega)).trans ((up_no (by omega)).trans (B.2.2.2.2.2.2.2.1)))))))) ?_
  refine w_ic l_232_124 (by decide) ?_
  refine w_add ((ne + 1 : Nat) : Int) l_232_125 (by unfold wr; omega) ?_
  refine w_pi l_232_126 (oModel_sh hm) ?_
  have hF : mfa I (up (up (up (up (up (up (up (up I (s + 10) (7 * ne) 3) (s + 10) (7 * ne + 1) ((p : Nat) : Int)) (s + 10) (7 * ne + 2) 0) (s + 10) (7 * ne + 3) 0) (s + 10) (7 * ne + 4) 0) (s + 10) (7 * ne + 5) 0) (s + 10) (7 * ne + 6) (-1)) s 15 ((ne + 1 : Nat) : Int)) s ne np := by
    intro y z h1 h2 h3
    by_cases y10 : y = s + 10
    · have := h2 y10
      rw [y10]
      repeat (first | rw [up_no (by omega)] | rw [up_nj (by omega)])
    · by_cases y11 : y = s + 11
      · have := h3 y11
        rw [y11]
        repeat (first | rw [up_no (by omega)] | rw [up_nj (by omega)])
      · by_cases ys : y = s
        · have := h1 ys
          rw [ys]
          repeat (first | rw [up_no (by omega)] | rw [up_nj (by omega)])
        · repeat (rw [up_no (by omega)])
  have hE : mfe I (up (up (up (up (up (up (up (up I (s + 10) (7 * ne) 3) (s + 10) (7 * ne + 1) ((p : Nat) : Int)) (s + 10) (7 * ne + 2) 0) (s + 10) (7 * ne + 3) 0) (s + 10) (7 * ne + 4) 0) (s + 10) (7 * ne + 5) 0) (s + 10) (7 * ne + 6) (-1)) s 15 ((ne + 1 : Nat) : Int)) s := by
    intro y z h1 h2
    by_cases y10 : y = s + 10
    · have := h2 (by omega)
      rw [y10]
      repeat (first | rw [up_no (by omega)] | rw [up_nj (by omega)])
    · by_cases y11 : y = s + 11
      · have := h2 (by omega)
        rw [y11]
        repeat (first | rw [up_no (by omega)] | rw [up_nj (by omega)])
      · by_cases ys : y = s
        · have := h1 ys
          rw [ys]
          repeat (first | rw [up_no (by omega)] | rw [up_nj (by omega)])
        · repeat (rw [up_no (by omega)])
  have v0 : (up (up (up (up (up (up (up (up I (s + 10) (7 * ne) 3) (s + 10) (7 * ne + 1) ((p : Nat) : Int)) (s + 10) (7 * ne + 2) 0) (s + 10) (7 * ne + 3) 0) (s + 10) (7 * ne + 4) 0) (s + 10) (7 * ne + 5) 0) (s + 10) (7 * ne + 6) (-1)) s 15 ((ne + 1 : Nat) : Int)) (s + 10) (7 * ne) = ((3 : Nat) : Int) := by
    repeat (first | rw [up_eq] | rw [up_no (by omega)] | rw [up_nj (by omega)])
    try rfl
  have v1 : (up (up (up (up (up (up (up (up I (s + 10) (7 * ne) 3) (s + 10) (7 * ne + 1) ((p : Nat) : Int)) (s + 10) (7 * ne + 2) 0) (s + 10) (7 * ne + 3) 0) (s + 10) (7 * ne + 4) 0) (s + 10) (7 * ne + 5) 0) (s + 10) (7 * ne + 6) (-1)) s 15 ((ne + 1 : Nat) : Int)) (s + 10) (7 * ne + 1) = ((p : Nat) : Int) := by
    repeat (first | rw [up_eq] | rw [up_no (by omega)] | rw [up_nj (by omega)])
    try rfl
  have v2 : (up (up (up (up (up (up (up (up I (s + 10) (7 * ne) 3) (s + 10) (7 * ne + 1) ((p : Nat) : Int)) (s + 10) (7 * ne + 2) 0) (s + 10) (7 * ne + 3) 0) (s + 10) (7 * ne + 4) 0) (s + 10) (7 * ne + 5) 0) (s + 10) (7 * ne + 6) (-1)) s 15 ((ne + 1 : Nat) : Int)) s 15 = ((ne + 1 : Nat) : Int) := by
    repeat (first | rw [up_eq] | rw [up_no (by omega)] | rw [up_nj (by omega)])
    try rfl
  have v3 : (up (up (up (up (up (up (up (up I (s + 10) (7 * ne) 3) (s + 10) (7 * ne + 1) ((p : Nat) : Int)) (s + 10) (7 * ne + 2) 0) (s + 10) (7 * ne + 3) 0) (s + 10) (7 * ne + 4) 0) (s + 10) (7 * ne + 5) 0) (s + 10) (7 * ne + 6) (-1)) s 15 ((ne + 1 : Nat) : Int)) s 16 = ((np : Nat) : Int) := by
    repeat (first | rw [up_eq] | rw [up_no (by omega)] | rw [up_nj (by omega)])
    exact B.2.2.2.2.2.2.2.2
  have v6 : (up (up (up (up (up (up (up (up I (s + 10) (7 * ne) 3) (s + 10) (7 * ne + 1) ((p : Nat) : Int)) (s + 10) (7 * ne + 2) 0) (s + 10) (7 * ne + 3) 0) (s + 10) (7 * ne + 4) 0) (s + 10) (7 * ne + 5) 0) (s + 10) (7 * ne + 6) (-1)) s 15 ((ne + 1 : Nat) : Int)) (s + 10) (7 * ne + 6) = -1 := by
    repeat (first | rw [up_eq] | rw [up_no (by omega)] | rw [up_nj (by omega)])
    try rfl
  have hB := addE_ok (kind := 3) (p := p) B hF hne (by decide) hp v0 v1 v2 v3
  refine w_aln l_232_129 rfl ?_
  refine p_iv [] [] l_232_130 rfl rfl (Nat.le_of_ble_eq_true rfl) (by rw [mx_215]; exact Nat.le_of_ble_eq_true rfl) (by rw [mt_215]; exact oModel_sh hm) (by rw [mt_215]; decide) (by rw [rk_215]; decide) (s_215 hm hB) (fun v I1 hv => ?_)
  obtain ⟨rfl, hR1, f1, hc, _⟩ := hv
  refine w_vr l_232_133 ?_
  exact ⟨_, _, rfl, rfl, rfl, hB.fr f1, hR1, hc, hE.tr f1.k.e⟩

theorem s_232_0 (hm : oModel S T s) {ne np : Nat} {a : Nat → Nat} {cd : Nat → Cd} (B : MP I s h l a ne np cd) {p sr tg sz rn : Nat} (hne : ne < 120) (hp : p < lPorts l) (hs : sr < 64) (ht : tg < 64) (hz : 1 ≤ sz ∧ sz ≤ 9) (hr : rn ≤ 3) : CL xs 232 [vr s, vi 0, vi ((p : Nat) : Int), vi ((sr : Nat) : Int), vi ((tg : Nat) : Int), vi ((sz : Nat) : Int), vi ((rn : Nat) : Int)] (S, I, T, cc, zz) (RP S T cc zz (fun v I' => v = none ∧ MP I' s (addP h a np ne p (sr, tg, sz, rn) cd) l (fu a np ne) (ne + 1) (np + 1) cd ∧ nR I' s l (runA (addP h a np ne p (sr, tg, sz, rn) cd) l noOut (ne + 1)) ∧ (∀ e, ne + 1 = e + 1 → noOut e = false → I' s 68 = ((cntP (addP h a np ne p (sr, tg, sz, rn) cd) l e (runA (addP h a np ne p (sr, tg, sz, rn) cd) l noOut e) : Nat) : Int) ∧ I' s 69 = ((cntD (addP h a np ne p (sr, tg, sz, rn) cd) l e (runA (addP h a np ne p (sr, tg, sz, rn) cd) l noOut e) : Nat) : Int)) ∧ mfe I I' s)) := by
  refine CL_start (r := 10) (ls := [vr s, vi 0, vi ((p : Nat) : Int), vi ((sr : Nat) : Int), vi ((tg : Nat) : Int), vi ((sz : Nat) : Int), vi ((rn : Nat) : Int), vs 2]) (rk_232 _) rfl ?_
  have hnp := B.1.2.1
  refine w_bp l_232_0 (by decide) ?_
  refine w_aln l_232_2 rfl ?_
  refine w_gi ((ne : Nat) : Int) l_232_3 (oModel_sh hm) B.2.2.2.2.2.2.2.1 ?_
  refine w_mul ((7 * ne : Nat) : Int) l_232_6 (by unfold wr; omega) ?_
  refine w_is l_232_7 ⟨Nat.le_of_ble_eq_true rfl, rfl⟩ ?_
  refine w_aln l_232_9 rfl ?_
  refine w_gr l_232_10 (oModel_sh hm) (oModel_r17 hm) ?_
  refine w_il l_232_13 rfl ?_
  refine w_iln l_232_15 rfl ?_
  refine w_iS (7 * ne) l_232_16 (oModel_s17 hm) rfl (by omega) ?_
  refine w_aln l_232_17 rfl ?_
  refine w_gr l_232_18 (oModel_sh hm) (oModel_r17 hm) ?_
  refine w_il l_232_21 rfl ?_
  refine w_ic l_232_23 (by decide) ?_
  refine w_add ((7 * ne + 1 : Nat) : Int) l_232_24 (by unfold wr; omega) ?_
  refine w_iln l_232_25 rfl ?_
  refine w_iS (7 * ne + 1) l_232_26 (oModel_s17 hm) rfl (by omega) ?_
  refine w_aln l_232_27 rfl ?_
  refine w_gr l_232_28 (oModel_sh hm) (oModel_r17 hm) ?_
  refine w_il l_232_31 rfl ?_
  refine w_ic l_232_33 (by decide) ?_
  refine w_add ((7 * ne + 2 : Nat) : Int) l_232_34 (by unfold wr; omega) ?_
  refine w_iln l_232_35 rfl ?_
  refine w_iS (7 * ne + 2) l_232_36 (oModel_s17 hm) rfl (by omega) ?_
  refine w_aln l_232_37 rfl ?_
  refine w_gr l_232_38 (oModel_sh hm) (oModel_r17 hm) ?_
  refine w_il l_232_41 rfl ?_
  refine w_ic l_232_43 (by decide) ?_
  refine w_add ((7 * ne + 3 : Nat) : Int) l_232_44 (by unfold wr; omega) ?_
  refine w_il l_232_45 rfl ?_
  refine w_iS (7 * ne + 3) l_232_47 (oModel_s17 hm) rfl (by omega) ?_
  refine w_aln l_232_48 rfl ?_
  refine w_gr l_232_49 (oModel_sh hm) (oModel_r17 hm) ?_
  refine w_il l_232_52 rfl ?_
  refine w_ic l_232_54 (by decide) ?_
  refine w_add ((7 * ne + 4 : Nat) : Int) l_232_55 (by unfold wr; omega) ?_
  refine w_il l_232_56 rfl ?_
  refine w_iS (7 * ne + 4) l_232_58 (oModel_s17 hm) rfl (by omega) ?_
  refine w_aln l_232_59 rfl ?_
  refine w_gr l_232_60 (oModel_sh hm) (oModel_r17 hm) ?_
  refine w_il l_232_63 rfl ?_
  refine w_ic l_232_65 (by decide) ?_
  refine w_add ((7 * ne + 5 : Nat) : Int) l_232_66 (by unfold wr; omega) ?_
  refine w_il l_232_67 rfl ?_
  refine w_iS (7 * ne + 5) l_232_69 (oModel_s17 hm) rfl (by omega) ?_
  refine w_aln l_232_70 rfl ?_
  refine w_gr l_232_71 (oModel_sh hm) (oModel_r17 hm) ?_
  refine w_il l_232_74 rfl ?_
  refine w_bp l_232_76 (by decide) ?_
  refine w_add ((7 * ne + 6 : Nat) : Int) l_232_78 (by unfold wr; omega) ?_
  refine w_iln l_232_79 rfl ?_
  refine w_zne 90 l_232_80 (by decide) (fun hx => absurd hx (by decide)) (fun _ => ?_)
  refine w_aln l_232_83 rfl ?_
  refine w_gi ((np : Nat) : Int) l_232_84 (oModel_sh hm) ((up_no (by omega)).trans ((up_no (by omega)).trans ((up_no (by omega)).trans ((up_no (by omega)).trans ((up_no (by omega)).trans ((up_no (by omega)).trans (B.2.2.2.2.2.2.2.2))))))) ?_
  refine w_go 91 l_232_87 (by decide) ?_
  refine w_iS (7 * ne + 6) l_232_91 (oModel_s17 hm) rfl (by omega) ?_
  refine w_iln l_232_92 rfl ?_
  refine w_zne 119 l_232_93 (by decide) (fun hx => absurd hx (by decide)) (fun _ => ?_)
  refine w_aln l_232_96 rfl ?_
  refine w_gr l_232_97 (oModel_sh hm) (oModel_r18 hm) ?_
  refine w_aln l_232_100 rfl ?_
  refine w_gi ((np : Nat) : Int) l_232_101 (oModel_sh hm) ((up_no (by omega)).trans ((up_no (by omega)).trans ((up_no (by omega)).trans ((up_no (by omega)).trans ((up_no (by omega)).trans ((up_no (by omega)).trans ((up_no (by omega)).trans (B.2.2.2.2.2.2.2.2)))))))) ?_
  refine w_aln l_232_104 rfl ?_
  refine w_gi ((ne : Nat) : Int) l_232_105 (oModel_sh hm) ((up_no (by omega)).trans ((up_no (by omega)).trans ((up_no (by omega)).trans ((up_no (by omega)).trans ((up_no (by omega)).trans ((up_no (by omega)).trans ((up_no (by omega)).trans (B.2.2.2.2.2.2.2.1)))))))) ?_
  refine w_iS np l_232_108 (oModel_s18 hm) rfl (by omega) ?_
  refine w_aln l_232_109 rfl ?_
  refine w_dup l_232_110 rfl ?_
  refine w_gi ((np : Nat) : Int) l_232_111 (oModel_sh hm) ((up_no (by omega)).trans ((up_no (by omega)).trans ((up_no (by omega)).trans ((up_no (by omega)).trans ((up_no (by omega)).trans ((up_no (by omega)).trans ((up_no (by omega)).trans ((up_no (by omega)).trans (B.2.2.2.2.2.2.2.2))))))))) ?_
  refine w_ic l_232_114 (by decide) ?_
  refine w_add ((np + 1 : Nat) : Int) l_232_115 (by unfold wr; omega) ?_
  refine w_pi l_232_116 (oModel_sh hm) ?_
  refine w_aln l_232_119 rfl ?_
  refine w_dup l_232_120 rfl ?_
  refine w_gi ((ne : Nat) : Int) l_232_121 (oModel_sh hm) ((up_nj (by omega)).trans ((up_no (by omega)).trans ((up_no (by omega)).trans ((up_no (by omega)).trans ((up_no (by omega)).trans ((up_no (by omega)).trans ((up_no (by omega)).trans ((up_no (by omega)).trans ((up_no (by omega)).trans (B.2.2.2.2.2.2.2.1)))))))))) ?_
  refine w_ic l_232_124 (by decide) ?_
  refine w_add ((ne + 1 : Nat) : Int) l_232_125 (by unfold wr; omega) ?_
  refine w_pi l_232_126 (oModel_sh hm) ?_
  have hF : mfa I (up (up (up (up (up (up (up (up (up (up I (s + 10) (7 * ne) 0) (s + 10) (7 * ne + 1) ((p : Nat) : Int)) (s + 10) (7 * ne + 2) ((sr : Nat) : Int)) (s + 10) (7 * ne + 3) ((tg : Nat) : Int)) (s + 10) (7 * ne + 4) ((sz : Nat) : Int)) (s + 10) (7 * ne + 5) ((rn : Nat) : Int)) (s + 10) (7 * ne + 6) ((np : Nat) : Int)) (s + 11) np ((ne : Nat) : Int)) s 16 ((np + 1 : Nat) : Int)) s 15 ((ne + 1 : Nat) : Int)) s ne np := by
    intro y z h1 h2 h3
    by_cases y10 : y = s + 10
    · have := h2 y10
      rw [y10]
      repeat (first | rw [up_no (by omega)] | rw [up_nj (by omega)])
    · by_cases y11 : y = s + 11
      · have := h3 y11
        rw [y11]
        repeat (first | rw [up_no (by omega)] | rw [up_nj (by omega)])
      · by_cases ys : y = s
        · have := h1 ys
          rw [ys]
          repeat (first | rw [up_no (by omega)] | rw [up_nj (by omega)])
        · repeat (rw [up_no (by omega)])
  have hE : mfe I (up (up (up (up (up (up (up (up (up (up I (s + 10) (7 * ne) 0) (s + 10) (7 * ne + 1) ((p : Nat) : Int)) (s + 10) (7 * ne + 2) ((sr : Nat) : Int)) (s + 10) (7 * ne + 3) ((tg : Nat) : Int)) (s + 10) (7 * ne + 4) ((sz : Nat) : Int)) (s + 10) (7 * ne + 5) ((rn : Nat) : Int)) (s + 10) (7 * ne + 6) ((np : Nat) : Int)) (s + 11) np ((ne : Nat) : Int)) s 16 ((np + 1 : Nat) : Int)) s 15 ((ne + 1 : Nat) : Int)) s := by
    intro y z h1 h2
    by_cases y10 : y = s + 10
    · have := h2 (by omega)
      rw [y10]
      repeat (first | rw [up_no (by omega)] | rw [up_nj (by omega)])
    · by_cases y11 : y = s + 11
      · have := h2 (by omega)
        rw [y11]
        repeat (first | rw [up_no (by omega)] | rw [up_nj (by omega)])
      · by_cases ys : y = s
        · have := h1 ys
          rw [ys]
          repeat (first | rw [up_no (by omega)] | rw [up_nj (by omega)])
        · repeat (rw [up_no (by omega)])
  have v0 : (up (up (up (up (up (up (up (up (up (up I (s + 10) (7 * ne) 0) (s + 10) (7 * ne + 1) ((p : Nat) : Int)) (s + 10) (7 * ne + 2) ((sr : Nat) : Int)) (s + 10) (7 * ne + 3) ((tg : Nat) : Int)) (s + 10) (7 * ne + 4) ((sz : Nat) : Int)) (s + 10) (7 * ne + 5) ((rn : Nat) : Int)) (s + 10) (7 * ne + 6) ((np : Nat) : Int)) (s + 11) np ((ne : Nat) : Int)) s 16 ((np + 1 : Nat) : Int)) s 15 ((ne + 1 : Nat) : Int)) (s + 10) (7 * ne) = 0 := by
    repeat (first | rw [up_eq] | rw [up_no (by omega)] | rw [up_nj (by omega)])
    try rfl
  have v1 : (up (up (up (up (up (up (up (up (up (up I (s + 10) (7 * ne) 0) (s + 10) (7 * ne + 1) ((p : Nat) : Int)) (s + 10) (7 * ne + 2) ((sr : Nat) : Int)) (s + 10) (7 * ne + 3) ((tg : Nat) : Int)) (s + 10) (7 * ne + 4) ((sz : Nat) : Int)) (s + 10) (7 * ne + 5) ((rn : Nat) : Int)) (s + 10) (7 * ne + 6) ((np : Nat) : Int)) (s + 11) np ((ne : Nat) : Int)) s 16 ((np + 1 : Nat) : Int)) s 15 ((ne + 1 : Nat) : Int)) (s + 10) (7 * ne + 1) = ((p : Nat) : Int) := by
    repeat (first | rw [up_eq] | rw [up_no (by omega)] | rw [up_nj (by omega)])
    try rfl
  have v2 : (up (up (up (up (up (up (up (up (up (up I (s + 10) (7 * ne) 0) (s + 10) (7 * ne + 1) ((p : Nat) : Int)) (s + 10) (7 * ne + 2) ((sr : Nat) : Int)) (s + 10) (7 * ne + 3) ((tg : Nat) : Int)) (s + 10) (7 * ne + 4) ((sz : Nat) : Int)) (s + 10) (7 * ne + 5) ((rn : Nat) : Int)) (s + 10) (7 * ne + 6) ((np : Nat) : Int)) (s + 11) np ((ne : Nat) : Int)) s 16 ((np + 1 : Nat) : Int)) s 15 ((ne + 1 : Nat) : Int)) (s + 10) (7 * ne + 2) = ((sr : Nat) : Int) := by
    repeat (first | rw [up_eq] | rw [up_no (by omega)] | rw [up_nj (by omega)])
    try rfl
  have v3 : (up (up (up (up (up (up (up (up (up (up I (s + 10) (7 * ne) 0) (s + 10) (7 * ne + 1) ((p : Nat) : Int)) (s + 10) (7 * ne + 2) ((sr : Nat) : Int)) (s + 10) (7 * ne + 3) ((tg : Nat) : Int)) (s + 10) (7 * ne + 4) ((sz : Nat) : Int)) (s + 10) (7 * ne + 5) ((rn : Nat) : Int)) (s + 10) (7 * ne + 6) ((np : Nat) : Int)) (s + 11) np ((ne : Nat) : Int)) s 16 ((np + 1 : Nat) : Int)) s 15 ((ne + 1 : Nat) : Int)) (s + 10) (7 * ne + 3) = ((tg : Nat) : Int) := by
    repeat (first | rw [up_eq] | rw [up_no (by omega)] | rw [up_nj (by omega)])
    try rfl
  have v4 : (up (up (up (up (up (up (up (up (up (up I (s + 10) (7 * ne) 0) (s + 10) (7 * ne + 1) ((p : Nat) : Int)) (s + 10) (7 * ne + 2) ((sr : Nat) : Int)) (s + 10) (7 * ne + 3) ((tg : Nat) : Int)) (s + 10) (7 * ne + 4) ((sz : Nat) : Int)) (s + 10) (7 * ne + 5) ((rn : Nat) : Int)) (s + 10) (7 * ne + 6) ((np : Nat) : Int)) (s + 11) np ((ne : Nat) : Int)) s 16 ((np + 1 : Nat) : Int)) s 15 ((ne + 1 : Nat) : Int)) (s + 10) (7 * ne + 4) = ((sz : Nat) : Int) := by
    repeat (first | rw [up_eq] | rw [up_no (by omega)] | rw [up_nj (by omega)])
    try rfl
  have v5 : (up (up (up (up (up (up (up (up (up (up I (s + 10) (7 * ne) 0) (s + 10) (7 * ne + 1) ((p : Nat) : Int)) (s + 10) (7 * ne + 2) ((sr : Nat) : Int)) (s + 10) (7 * ne + 3) ((tg : Nat) : Int)) (s + 10) (7 * ne + 4) ((sz : Nat) : Int)) (s + 10) (7 * ne + 5) ((rn : Nat) : Int)) (s + 10) (7 * ne + 6) ((np : Nat) : Int)) (s + 11) np ((ne : Nat) : Int)) s 16 ((np + 1 : Nat) : Int)) s 15 ((ne + 1 : Nat) : Int)) (s + 10) (7 * ne + 5) = ((rn : Nat) : Int) := by
    repeat (first | rw [up_eq] | rw [up_no (by omega)] | rw [up_nj (by omega)])
    try rfl
  have v6 : (up (up (up (up (up (up (up (up (up (up I (s + 10) (7 * ne) 0) (s + 10) (7 * ne + 1) ((p : Nat) : Int)) (s + 10) (7 * ne + 2) ((sr : Nat) : Int)) (s + 10) (7 * ne + 3) ((tg : Nat) : Int)) (s + 10) (7 * ne + 4) ((sz : Nat) : Int)) (s + 10) (7 * ne + 5) ((rn : Nat) : Int)) (s + 10) (7 * ne + 6) ((np : Nat) : Int)) (s + 11) np ((ne : Nat) : Int)) s 16 ((np + 1 : Nat) : Int)) s 15 ((ne + 1 : Nat) : Int)) (s + 10) (7 * ne + 6) = ((np : Nat) : Int) := by
    repeat (first | rw [up_eq] | rw [up_no (by omega)] | rw [up_nj (by omega)])
    try rfl
  have v7 : (up (up (up (up (up (up (up (up (up (up I (s + 10) (7 * ne) 0) (s + 10) (7 * ne + 1) ((p : Nat) : Int)) (s + 10) (7 * ne + 2) ((sr : Nat) : Int)) (s + 10) (7 * ne + 3) ((tg : Nat) : Int)) (s + 10) (7 * ne + 4) ((sz : Nat) : Int)) (s + 10) (7 * ne + 5) ((rn : Nat) : Int)) (s + 10) (7 * ne + 6) ((np : Nat) : Int)) (s + 11) np ((ne : Nat) : Int)) s 16 ((np + 1 : Nat) : Int)) s 15 ((ne + 1 : Nat) : Int)) (s + 11) np = ((ne : Nat) : Int) := by
    repeat (first | rw [up_eq] | rw [up_no (by omega)] | rw [up_nj (by omega)])
    try rfl
  have v8 : (up (up (up (up (up (up (up (up (up (up I (s + 10) (7 * ne) 0) (s + 10) (7 * ne + 1) ((p : Nat) : Int)) (s + 10) (7 * ne + 2) ((sr : Nat) : Int)) (s + 10) (7 * ne + 3) ((tg : Nat) : Int)) (s + 10) (7 * ne + 4) ((sz : Nat) : Int)) (s + 10) (7 * ne + 5) ((rn : Nat) : Int)) (s + 10) (7 * ne + 6) ((np : Nat) : Int)) (s + 11) np ((ne : Nat) : Int)) s 16 ((np + 1 : Nat) : Int)) s 15 ((ne + 1 : Nat) : Int)) s 15 = ((ne + 1 : Nat) : Int) := by
    repeat (first | rw [up_eq] | rw [up_no (by omega)] | rw [up_nj (by omega)])
    try rfl
  have v9 : (up (up (up (up (up (up (up (up (up (up I (s + 10) (7 * ne) 0) (s + 10) (7 * ne + 1) ((p : Nat) : Int)) (s + 10) (7 * ne + 2) ((sr : Nat) : Int)) (s + 10) (7 * ne + 3) ((tg : Nat) : Int)) (s + 10) (7 * ne + 4) ((sz : Nat) : Int)) (s + 10) (7 * ne + 5) ((rn : Nat) : Int)) (s + 10) (7 * ne + 6) ((np : Nat) : Int)) (s + 11) np ((ne : Nat) : Int)) s 16 ((np + 1 : Nat) : Int)) s 15 ((ne + 1 : Nat) : Int)) s 16 = ((np + 1 : Nat) : Int) := by
    repeat (first | rw [up_eq] | rw [up_no (by omega)] | rw [up_nj (by omega)])
    try rfl
  have hB := addP_ok (p := p) (sr := sr) (tg := tg) (sz := sz) (rn := rn) B hF hne hp hs ht hz hr v0 v1 v2 v3 v4 v5 v6 v7 v8 v9
  refine w_aln l_232_129 rfl ?_
  refine p_iv [] [] l_232_130 rfl rfl (Nat.le_of_ble_eq_true rfl) (by rw [mx_215]; exact Nat.le_of_ble_eq_true rfl) (by rw [mt_215]; exact oModel_sh hm) (by rw [mt_215]; decide) (by rw [rk_215]; decide) (s_215 hm hB) (fun v I1 hv => ?_)
  obtain ⟨rfl, hR1, f1, hc, _⟩ := hv
  refine w_vr l_232_133 ?_
  exact ⟨_, _, rfl, rfl, rfl, hB.fr f1, hR1, hc, hE.tr f1.k.e⟩

theorem s_232_1z (hm : oModel S T s) {ne np : Nat} {a : Nat → Nat} {cd : Nat → Cd} (B : MP I s h l a ne np cd) {p : Nat} (hne : ne < 120) (hp : 1 ≠ 1 → p < lPorts l) : CL xs 232 [vr s, vi 1, vi ((p : Nat) : Int), vi 0, vi 0, vi 0, vi 0] (S, I, T, cc, zz) (RP S T cc zz (fun v I' => v = none ∧ I' s 0 = I s 0 ∧ p6 I I' s ne (-1) ∧ MP I' s (addE h ne 1 p) l a (ne + 1) np cd ∧ nR I' s l (runA (addE h ne 1 p) l noOut (ne + 1)) ∧ (∀ e, ne + 1 = e + 1 → noOut e = false → I' s 68 = ((cntP (addE h ne 1 p) l e (runA (addE h ne 1 p) l noOut e) : Nat) : Int) ∧ I' s 69 = ((cntD (addE h ne 1 p) l e (runA (addE h ne 1 p) l noOut e) : Nat) : Int)) ∧ mfe I I' s)) := by
  refine CL_start (r := 10) (ls := [vr s, vi 1, vi ((p : Nat) : Int), vi 0, vi 0, vi 0, vi 0, vs 2]) (rk_232 _) rfl ?_
  have hnp := B.1.2.1
  refine w_bp l_232_0 (by decide) ?_
  refine w_aln l_232_2 rfl ?_
  refine w_gi ((ne : Nat) : Int) l_232_3 (oModel_sh hm) B.2.2.2.2.2.2.2.1 ?_
  refine w_mul ((7 * ne : Nat) : Int) l_232_6 (by unfold wr; omega) ?_
  refine w_is l_232_7 ⟨Nat.le_of_ble_eq_true rfl, rfl⟩ ?_
  refine w_aln l_232_9 rfl ?_
  refine w_gr l_232_10 (oModel_sh hm) (oModel_r17 hm) ?_
  refine w_il l_232_13 rfl ?_
  refine w_iln l_232_15 rfl ?_
  refine w_iS (7 * ne) l_232_16 (oModel_s17 hm) rfl (by omega) ?_
  refine w_aln l_232_17 rfl ?_
  refine w_gr l_232_18 (oModel_sh hm) (oModel_r17 hm) ?_
  refine w_il l_232_21 rfl ?_
  refine w_ic l_232_23 (by decide) ?_
  refine w_add ((7 * ne + 1 : Nat) : Int) l_232_24 (by unfold wr; omega) ?_
  refine w_iln l_232_25 rfl ?_
  refine w_iS (7 * ne + 1) l_232_26 (oModel_s17 hm) rfl (by omega) ?_
  refine w_aln l_232_27 rfl ?_
  refine w_gr l_232_28 (oModel_sh hm) (oModel_r17 hm) ?_
  refine w_il l_232_31 rfl ?_
  refine w_ic l_232_33 (by decide) ?_
  refine w_add ((7 * ne + 2 : Nat) : Int) l_232_34 (by unfold wr; omega) ?_
  refine w_iln l_232_35 rfl ?_
  refine w_iS (7 * ne + 2) l_232_36 (oModel_s17 hm) rfl (by omega) ?_
  refine w_aln l_232_37 rfl ?_
  refine w_gr l_232_38 (oModel_sh hm) (oModel_r17 hm) ?_
  refine w_il l_232_41 rfl ?_
  refine w_ic l_232_43 (by decide) ?_
  refine w_add ((7 * ne + 3 : Nat) : Int) l_232_44 (by unfold wr; omega) ?_
  refine w_il l_232_45 rfl ?_
  refine w_iS (7 * ne + 3) l_232_47 (oModel_s17 hm) rfl (by omega) ?_
  refine w_aln l_232_48 rfl ?_
  refine w_gr l_232_49 (oModel_sh hm) (oModel_r17 hm) ?_
  refine w_il l_232_52 rfl ?_
  refine w_ic l_232_54 (by decide) ?_
  refine w_add ((7 * ne + 4 : Nat) : Int) l_232_55 (by unfold wr; omega) ?_
  refine w_il l_232_56 rfl ?_
  refine w_iS (7 * ne + 4) l_232_58 (oModel_s17 hm) rfl (by omega) ?_
  refine w_aln l_232_59 rfl ?_
  refine w_gr l_232_60 (oModel_sh hm) (oModel_r17 hm) ?_
  refine w_il l_232_63 rfl ?_
  refine w_ic l_232_65 (by decide) ?_
  refine w_add ((7 * ne + 5 : Nat) : Int) l_232_66 (by unfold wr; omega) ?_
  refine w_il l_232_67 rfl ?_
  refine w_iS (7 * ne + 5) l_232_69 (oModel_s17 hm) rfl (by omega) ?_
  refine w_aln l_232_70 rfl ?_
  refine w_gr l_232_71 (oModel_sh hm) (oModel_r17 hm) ?_
  refine w_il l_232_74 rfl ?_
  refine w_bp l_232_76 (by decide) ?_
  refine w_add ((7 * ne + 6 : Nat) : Int) l_232_78 (by unfold wr; omega) ?_
  refine w_iln l_232_79 rfl ?_
  refine w_zne 90 l_232_80 (by decide) (fun _ => ?_) (fun hx => absurd hx (by decide))
  refine w_ic l_232_90 (by decide) ?_
  refine w_iS (7 * ne + 6) l_232_91 (oModel_s17 hm) rfl (by omega) ?_
  refine w_iln l_232_92 rfl ?_
  refine w_zne 119 l_232_93 (by decide) (fun _ => ?_) (fun hx => absurd hx (by decide))
  refine w_aln l_232_119 rfl ?_
  refine w_dup l_232_120 rfl ?_
  refine w_gi ((ne : Nat) : Int) l_232_121 (oModel_sh hm) ((up_no (by omega)).trans ((up_no (by omega)).trans ((up_no (by omega)).trans ((up_no (by omega)).trans ((up_no (by omega)).trans ((up_no (by omega)).trans ((up_no (by omega)).trans (B.2.2.2.2.2.2.2.1)))))))) ?_
  refine w_ic l_232_124 (by decide) ?_
  refine w_add ((ne + 1 : Nat) : Int) l_232_125 (by unfold wr; omega) ?_
  refine w_pi l_232_126 (oModel_sh hm) ?_
  have hF : mfa I (up (up (up (up (up (up (up (up I (s + 10) (7 * ne) 1) (s + 10) (7 * ne + 1) ((p : Nat) : Int)) (s + 10) (7 * ne + 2) 0) (s + 10) (7 * ne + 3) 0) (s + 10) (7 * ne + 4) 0) (s + 10) (7 * ne + 5) 0) (s + 10) (7 * ne + 6) (-1)) s 15 ((ne + 1 : Nat) : Int)) s ne np := by
    intro y z h1 h2 h3
    by_cases y10 : y = s + 10
    · have := h2 y10
      rw [y10]
      repeat (first | rw [up_no (by omega)] | rw [up_nj (by omega)])
    · by_cases y11 : y = s + 11
      · have := h3 y11
        rw [y11]
        repeat (first | rw [up_no (by omega)] | rw [up_nj (by omega)])
      · by_cases ys : y = s
        · have := h1 ys
          rw [ys]
          repeat (first | rw [up_no (by omega)] | rw [up_nj (by omega)])
        · repeat (rw [up_no (by omega)])
  have hE : mfe I (up (up (up (up (up (up (up (up I (s + 10) (7 * ne) 1) (s + 10) (7 * ne + 1) ((p : Nat) : Int)) (s + 10) (7 * ne + 2) 0) (s + 10) (7 * ne + 3) 0) (s + 10) (7 * ne + 4) 0) (s + 10) (7 * ne + 5) 0) (s + 10) (7 * ne + 6) (-1)) s 15 ((ne + 1 : Nat) : Int)) s := by
    intro y z h1 h2
    by_cases y10 : y = s + 10
    · have := h2 (by omega)
      rw [y10]
      repeat (first | rw [up_no (by omega)] | rw [up_nj (by omega)])
    · by_cases y11 : y = s + 11
      · have := h2 (by omega)
        rw [y11]
        repeat (first | rw [up_no (by omega)] | rw [up_nj (by omega)])
      · by_cases ys : y = s
        · have := h1 ys
          rw [ys]
          repeat (first | rw [up_no (by omega)] | rw [up_nj (by omega)])
        · repeat (rw [up_no (by omega)])
  have v0 : (up (up (up (up (up (up (up (up I (s + 10) (7 * ne) 1) (s + 10) (7 * ne + 1) ((p : Nat) : Int)) (s + 10) (7 * ne + 2) 0) (s + 10) (7 * ne + 3) 0) (s + 10) (7 * ne + 4) 0) (s + 10) (7 * ne + 5) 0) (s + 10) (7 * ne + 6) (-1)) s 15 ((ne + 1 : Nat) : Int)) (s + 10) (7 * ne) = ((1 : Nat) : Int) := by
    repeat (first | rw [up_eq] | rw [up_no (by omega)] | rw [up_nj (by omega)])
    try rfl
  have v1 : (up (up (up (up (up (up (up (up I (s + 10) (7 * ne) 1) (s + 10) (7 * ne + 1) ((p : Nat) : Int)) (s + 10) (7 * ne + 2) 0) (s + 10) (7 * ne + 3) 0) (s + 10) (7 * ne + 4) 0) (s + 10) (7 * ne + 5) 0) (s + 10) (7 * ne + 6) (-1)) s 15 ((ne + 1 : Nat) : Int)) (s + 10) (7 * ne + 1) = ((p : Nat) : Int) := by
    repeat (first | rw [up_eq] | rw [up_no (by omega)] | rw [up_nj (by omega)])
    try rfl
  have v2 : (up (up (up (up (up (up (up (up I (s + 10) (7 * ne) 1) (s + 10) (7 * ne + 1) ((p : Nat) : Int)) (s + 10) (7 * ne + 2) 0) (s + 10) (7 * ne + 3) 0) (s + 10) (7 * ne + 4) 0) (s + 10) (7 * ne + 5) 0) (s + 10) (7 * ne + 6) (-1)) s 15 ((ne + 1 : Nat) : Int)) s 15 = ((ne + 1 : Nat) : Int) := by
    repeat (first | rw [up_eq] | rw [up_no (by omega)] | rw [up_nj (by omega)])
    try rfl
  have v3 : (up (up (up (up (up (up (up (up I (s + 10) (7 * ne) 1) (s + 10) (7 * ne + 1) ((p : Nat) : Int)) (s + 10) (7 * ne + 2) 0) (s + 10) (7 * ne + 3) 0) (s + 10) (7 * ne + 4) 0) (s + 10) (7 * ne + 5) 0) (s + 10) (7 * ne + 6) (-1)) s 15 ((ne + 1 : Nat) : Int)) s 16 = ((np : Nat) : Int) := by
    repeat (first | rw [up_eq] | rw [up_no (by omega)] | rw [up_nj (by omega)])
    exact B.2.2.2.2.2.2.2.2
  have v6 : (up (up (up (up (up (up (up (up I (s + 10) (7 * ne) 1) (s + 10) (7 * ne + 1) ((p : Nat) : Int)) (s + 10) (7 * ne + 2) 0) (s + 10) (7 * ne + 3) 0) (s + 10) (7 * ne + 4) 0) (s + 10) (7 * ne + 5) 0) (s + 10) (7 * ne + 6) (-1)) s 15 ((ne + 1 : Nat) : Int)) (s + 10) (7 * ne + 6) = -1 := by
    repeat (first | rw [up_eq] | rw [up_no (by omega)] | rw [up_nj (by omega)])
    try rfl
  have hB := addE_ok (kind := 1) (p := p) B hF hne (by decide) hp v0 v1 v2 v3
  refine w_aln l_232_129 rfl ?_
  refine p_iv [] [] l_232_130 rfl rfl (Nat.le_of_ble_eq_true rfl) (by rw [mx_215]; exact Nat.le_of_ble_eq_true rfl) (by rw [mt_215]; exact oModel_sh hm) (by rw [mt_215]; decide) (by rw [rk_215]; decide) (s_215 hm hB) (fun v I1 hv => ?_)
  obtain ⟨rfl, hR1, f1, hc, _⟩ := hv
  refine w_vr l_232_133 ?_
  have hz9 : I1 s 0 = I s 0 := by
    rw [f1 s 0 (fun _ => Or.inl (by decide)) (fun e => absurd e (Nat.lt_irrefl s))]
    repeat (first | rw [up_no (by omega)] | rw [up_nj (by omega)])
  exact ⟨_, _, rfl, rfl, rfl, hz9, ⟨(f1 (s + 10) _ (fun e => by omega) (fun _ => by omega)).trans v6, fun z hz => (f1 (s + 10) z (fun e => by omega) (fun _ => by omega)).trans (hF (s + 10) z (fun e => by omega) (fun _ => hz) (fun e => by omega))⟩, hB.fr f1, hR1, hc, hE.tr f1.k.e⟩

theorem s_232_2z (hm : oModel S T s) {ne np : Nat} {a : Nat → Nat} {cd : Nat → Cd} (B : MP I s h l a ne np cd) {p : Nat} (hne : ne < 120) (hp : 2 ≠ 1 → p < lPorts l) : CL xs 232 [vr s, vi 2, vi ((p : Nat) : Int), vi 0, vi 0, vi 0, vi 0] (S, I, T, cc, zz) (RP S T cc zz (fun v I' => v = none ∧ I' s 0 = I s 0 ∧ p6 I I' s ne (-1) ∧ MP I' s (addE h ne 2 p) l a (ne + 1) np cd ∧ nR I' s l (runA (addE h ne 2 p) l noOut (ne + 1)) ∧ (∀ e, ne + 1 = e + 1 → noOut e = false → I' s 68 = ((cntP (addE h ne 2 p) l e (runA (addE h ne 2 p) l noOut e) : Nat) : Int) ∧ I' s 69 = ((cntD (addE h ne 2 p) l e (runA (addE h ne 2 p) l noOut e) : Nat) : Int)) ∧ mfe I I' s)) := by
  refine CL_start (r := 10) (ls := [vr s, vi 2, vi ((p : Nat) : Int), vi 0, vi 0, vi 0, vi 0, vs 2]) (rk_232 _) rfl ?_
  have hnp := B.1.2.1
  refine w_bp l_232_0 (by decide) ?_
  refine w_aln l_232_2 rfl ?_
  refine w_gi ((ne : Nat) : Int) l_232_3 (oModel_sh hm) B.2.2.2.2.2.2.2.1 ?_
  refine w_mul ((7 * ne : Nat) : Int) l_232_6 (by unfold wr; omega) ?_
  refine w_is l_232_7 ⟨Nat.le_of_ble_eq_true rfl, rfl⟩ ?_
  refine w_aln l_232_9 rfl ?_
  refine w_gr l_232_10 (oModel_sh hm) (oModel_r17 hm) ?_
  refine w_il l_232_13 rfl ?_
  refine w_iln l_232_15 rfl ?_
  refine w_iS (7 * ne) l_232_16 (oModel_s17 hm) rfl (by omega) ?_
  refine w_aln l_232_17 rfl ?_
  refine w_gr l_232_18 (oModel_sh hm) (oModel_r17 hm) ?_
  refine w_il l_232_21 rfl ?_
  refine w_ic l_232_23 (by decide) ?_
  refine w_add ((7 * ne + 1 : Nat) : Int) l_232_24 (by unfold wr; omega) ?_
  refine w_iln l_232_25 rfl ?_
  refine w_iS (7 * ne + 1) l_232_26 (oModel_s17 hm) rfl (by omega) ?_
  refine w_aln l_232_27 rfl ?_
  refine w_gr l_232_28 (oModel_sh hm) (oModel_r17 hm) ?_
  refine w_il l_232_31 rfl ?_
  refine w_ic l_232_33 (by decide) ?_
  refine w_add ((7 * ne + 2 : Nat) : Int) l_232_34 (by unfold wr; omega) ?_
  refine w_iln l_232_35 rfl ?_
  refine w_iS (7 * ne + 2) l_232_36 (oModel_s17 hm) rfl (by omega) ?_
  refine w_aln l_232_37 rfl ?_
  refine w_gr l_232_38 (oModel_sh hm) (oModel_r17 hm) ?_
  refine w_il l_232_41 rfl ?_
  refine w_ic l_232_43 (by decide) ?_
  refine w_add ((7 * ne + 3 : Nat) : Int) l_232_44 (by unfold wr; omega) ?_
  refine w_il l_232_45 rfl ?_
  refine w_iS (7 * ne + 3) l_232_47 (oModel_s17 hm) rfl (by omega) ?_
  refine w_aln l_232_48 rfl ?_
  refine w_gr l_232_49 (oModel_sh hm) (oModel_r17 hm) ?_
  refine w_il l_232_52 rfl ?_
  refine w_ic l_232_54 (by decide) ?_
  refine w_add ((7 * ne + 4 : Nat) : Int) l_232_55 (by unfold wr; omega) ?_
  refine w_il l_232_56 rfl ?_
  refine w_iS (7 * ne + 4) l_232_58 (oModel_s17 hm) rfl (by omega) ?_
  refine w_aln l_232_59 rfl ?_
  refine w_gr l_232_60 (oModel_sh hm) (oModel_r17 hm) ?_
  refine w_il l_232_63 rfl ?_
  refine w_ic l_232_65 (by decide) ?_
  refine w_add ((7 * ne + 5 : Nat) : Int) l_232_66 (by unfold wr; omega) ?_
  refine w_il l_232_67 rfl ?_
  refine w_iS (7 * ne + 5) l_232_69 (oModel_s17 hm) rfl (by omega) ?_
  refine w_aln l_232_70 rfl ?_
  refine w_gr l_232_71 (oModel_sh hm) (oModel_r17 hm) ?_
  refine w_il l_232_74 rfl ?_
  refine w_bp l_232_76 (by decide) ?_
  refine w_add ((7 * ne + 6 : Nat) : Int) l_232_78 (by unfold wr; omega) ?_
  refine w_iln l_232_79 rfl ?_
  refine w_zne 90 l_232_80 (by decide) (fun _ => ?_) (fun hx => absurd hx (by decide))
  refine w_ic l_232_90 (by decide) ?_
  refine w_iS (7 * ne + 6) l_232_91 (oModel_s17 hm) rfl (by omega) ?_
  refine w_iln l_232_92 rfl ?_
  refine w_zne 119 l_232_93 (by decide) (fun _ => ?_) (fun hx => absurd hx (by decide))
  refine w_aln l_232_119 rfl ?_
  refine w_dup l_232_120 rfl ?_
  refine w_gi ((ne : Nat) : Int) l_232_121 (oModel_sh hm) ((up_no (by omega)).trans ((up_no (by omega)).trans ((up_no (by omega)).trans ((up_no (by omega)).trans ((up_no (by omega)).trans ((up_no (by omega)).trans ((up_no (by omega)).trans (B.2.2.2.2.2.2.2.1)))))))) ?_
  refine w_ic l_232_124 (by decide) ?_
  refine w_add ((ne + 1 : Nat) : Int) l_232_125 (by unfold wr; omega) ?_
  refine w_pi l_232_126 (oModel_sh hm) ?_
  have hF : mfa I (up (up (up (up (up (up (up (up I (s + 10) (7 * ne) 2) (s + 10) (7 * ne + 1) ((p : Nat) : Int)) (s + 10) (7 * ne + 2) 0) (s + 10) (7 * ne + 3) 0) (s + 10) (7 * ne + 4) 0) (s + 10) (7 * ne + 5) 0) (s + 10) (7 * ne + 6) (-1)) s 15 ((ne + 1 : Nat) : Int)) s ne np := by
    intro y z h1 h2 h3
    by_cases y10 : y = s + 10
    · have := h2 y10
      rw [y10]
      repeat (first | rw [up_no (by omega)] | rw [up_nj (by omega)])
    · by_cases y11 : y = s + 11
      · have := h3 y11
        rw [y11]
        repeat (first | rw [up_no (by omega)] | rw [up_nj (by omega)])
      · by_cases ys : y = s
        · have := h1 ys
          rw [ys]
          repeat (first | rw [up_no (by omega)] | rw [up_nj (by omega)])
        · repeat (rw [up_no (by omega)])
  have hE : mfe I (up (up (up (up (up (up (up (up I (s + 10) (7 * ne) 2) (s + 10) (7 * ne + 1) ((p : Nat) : Int)) (s + 10) (7 * ne + 2) 0) (s + 10) (7 * ne + 3) 0) (s + 10) (7 * ne + 4) 0) (s + 10) (7 * ne + 5) 0) (s + 10) (7 * ne + 6) (-1)) s 15 ((ne + 1 : Nat) : Int)) s := by
    intro y z h1 h2
    by_cases y10 : y = s + 10
    · have := h2 (by omega)
      rw [y10]
      repeat (first | rw [up_no (by omega)] | rw [up_nj (by omega)])
    · by_cases y11 : y = s + 11
      · have := h2 (by omega)
        rw [y11]
        repeat (first | rw [up_no (by omega)] | rw [up_nj (by omega)])
      · by_cases ys : y = s
        · have := h1 ys
          rw [ys]
          repeat (first | rw [up_no (by omega)] | rw [up_nj (by omega)])
        · repeat (rw [up_no (by omega)])
  have v0 : (up (up (up (up (up (up (up (up I (s + 10) (7 * ne) 2) (s + 10) (7 * ne + 1) ((p : Nat) : Int)) (s + 10) (7 * ne + 2) 0) (s + 10) (7 * ne + 3) 0) (s + 10) (7 * ne + 4) 0) (s + 10) (7 * ne + 5) 0) (s + 10) (7 * ne + 6) (-1)) s 15 ((ne + 1 : Nat) : Int)) (s + 10) (7 * ne) = ((2 : Nat) : Int) := by
    repeat (first | rw [up_eq] | rw [up_no (by omega)] | rw [up_nj (by omega)])
    try rfl
  have v1 : (up (up (up (up (up (up (up (up I (s + 10) (7 * ne) 2) (s + 10) (7 * ne + 1) ((p : Nat) : Int)) (s + 10) (7 * ne + 2) 0) (s + 10) (7 * ne + 3) 0) (s + 10) (7 * ne + 4) 0) (s + 10) (7 * ne + 5) 0) (s + 10) (7 * ne + 6) (-1)) s 15 ((ne + 1 : Nat) : Int)) (s + 10) (7 * ne + 1) = ((p : Nat) : Int) := by
    repeat (first | rw [up_eq] | rw [up_no (by omega)] | rw [up_nj (by omega)])
    try rfl
  have v2 : (up (up (up (up (up (up (up (up I (s + 10) (7 * ne) 2) (s + 10) (7 * ne + 1) ((p : Nat) : Int)) (s + 10) (7 * ne + 2) 0) (s + 10) (7 * ne + 3) 0) (s + 10) (7 * ne + 4) 0) (s + 10) (7 * ne + 5) 0) (s + 10) (7 * ne + 6) (-1)) s 15 ((ne + 1 : Nat) : Int)) s 15 = ((ne + 1 : Nat) : Int) := by
    repeat (first | rw [up_eq] | rw [up_no (by omega)] | rw [up_nj (by omega)])
    try rfl
  have v3 : (up (up (up (up (up (up (up (up I (s + 10) (7 * ne) 2) (s + 10) (7 * ne + 1) ((p : Nat) : Int)) (s + 10) (7 * ne + 2) 0) (s + 10) (7 * ne + 3) 0) (s + 10) (7 * ne + 4) 0) (s + 10) (7 * ne + 5) 0) (s + 10) (7 * ne + 6) (-1)) s 15 ((ne + 1 : Nat) : Int)) s 16 = ((np : Nat) : Int) := by
    repeat (first | rw [up_eq] | rw [up_no (by omega)] | rw [up_nj (by omega)])
    exact B.2.2.2.2.2.2.2.2
  have v6 : (up (up (up (up (up (up (up (up I (s + 10) (7 * ne) 2) (s + 10) (7 * ne + 1) ((p : Nat) : Int)) (s + 10) (7 * ne + 2) 0) (s + 10) (7 * ne + 3) 0) (s + 10) (7 * ne + 4) 0) (s + 10) (7 * ne + 5) 0) (s + 10) (7 * ne + 6) (-1)) s 15 ((ne + 1 : Nat) : Int)) (s + 10) (7 * ne + 6) = -1 := by
    repeat (first | rw [up_eq] | rw [up_no (by omega)] | rw [up_nj (by omega)])
    try rfl
  have hB := addE_ok (kind := 2) (p := p) B hF hne (by decide) hp v0 v1 v2 v3
  refine w_aln l_232_129 rfl ?_
  refine p_iv [] [] l_232_130 rfl rfl (Nat.le_of_ble_eq_true rfl) (by rw [mx_215]; exact Nat.le_of_ble_eq_true rfl) (by rw [mt_215]; exact oModel_sh hm) (by rw [mt_215]; decide) (by rw [rk_215]; decide) (s_215 hm hB) (fun v I1 hv => ?_)
  obtain ⟨rfl, hR1, f1, hc, _⟩ := hv
  refine w_vr l_232_133 ?_
  have hz9 : I1 s 0 = I s 0 := by
    rw [f1 s 0 (fun _ => Or.inl (by decide)) (fun e => absurd e (Nat.lt_irrefl s))]
    repeat (first | rw [up_no (by omega)] | rw [up_nj (by omega)])
  exact ⟨_, _, rfl, rfl, rfl, hz9, ⟨(f1 (s + 10) _ (fun e => by omega) (fun _ => by omega)).trans v6, fun z hz => (f1 (s + 10) z (fun e => by omega) (fun _ => by omega)).trans (hF (s + 10) z (fun e => by omega) (fun _ => hz) (fun e => by omega))⟩, hB.fr f1, hR1, hc, hE.tr f1.k.e⟩

theorem s_232_3z (hm : oModel S T s) {ne np : Nat} {a : Nat → Nat} {cd : Nat → Cd} (B : MP I s h l a ne np cd) {p : Nat} (hne : ne < 120) (hp : 3 ≠ 1 → p < lPorts l) : CL xs 232 [vr s, vi 3, vi ((p : Nat) : Int), vi 0, vi 0, vi 0, vi 0] (S, I, T, cc, zz) (RP S T cc zz (fun v I' => v = none ∧ I' s 0 = I s 0 ∧ p6 I I' s ne (-1) ∧ MP I' s (addE h ne 3 p) l a (ne + 1) np cd ∧ nR I' s l (runA (addE h ne 3 p) l noOut (ne + 1)) ∧ (∀ e, ne + 1 = e + 1 → noOut e = false → I' s 68 = ((cntP (addE h ne 3 p) l e (runA (addE h ne 3 p) l noOut e) : Nat) : Int) ∧ I' s 69 = ((cntD (addE h ne 3 p) l e (runA (addE h ne 3 p) l noOut e) : Nat) : Int)) ∧ mfe I I' s)) := by
  refine CL_start (r := 10) (ls := [vr s, vi 3, vi ((p : Nat) : Int), vi 0, vi 0, vi 0, vi 0, vs 2]) (rk_232 _) rfl ?_
  have hnp := B.1.2.1
  refine w_bp l_232_0 (by decide) ?_
  refine w_aln l_232_2 rfl ?_
  refine w_gi ((ne : Nat) : Int) l_232_3 (oModel_sh hm) B.2.2.2.2.2.2.2.1 ?_
  refine w_mul ((7 * ne : Nat) : Int) l_232_6 (by unfold wr; omega) ?_
  refine w_is l_232_7 ⟨Nat.le_of_ble_eq_true rfl, rfl⟩ ?_
  refine w_aln l_232_9 rfl ?_
  refine w_gr l_232_10 (oModel_sh hm) (oModel_r17 hm) ?_
  refine w_il l_232_13 rfl ?_
  refine w_iln l_232_15 rfl ?_
  refine w_iS (7 * ne) l_232_16 (oModel_s17 hm) rfl (by omega) ?_
  refine w_aln l_232_17 rfl ?_
  refine w_gr l_232_18 (oModel_sh hm) (oModel_r17 hm) ?_
  refine w_il l_232_21 rfl ?_
  refine w_ic l_232_23 (by decide) ?_
  refine w_add ((7 * ne + 1 : Nat) : Int) l_232_24 (by unfold wr; omega) ?_
  refine w_iln l_232_25 rfl ?_
  refine w_iS (7 * ne + 1) l_232_26 (oModel_s17 hm) rfl (by omega) ?_
  refine w_aln l_232_27 rfl ?_
  refine w_gr l_232_28 (oModel_sh hm) (oModel_r17 hm) ?_
  refine w_il l_232_31 rfl ?_
  refine w_ic l_232_33 (by decide) ?_
  refine w_add ((7 * ne + 2 : Nat) : Int) l_232_34 (by unfold wr; omega) ?_
  refine w_iln l_232_35 rfl ?_
  refine w_iS (7 * ne + 2) l_232_36 (oModel_s17 hm) rfl (by omega) ?_
  refine w_aln l_232_37 rfl ?_
  refine w_gr l_232_38 (oModel_sh hm) (oModel_r17 hm) ?_
  refine w_il l_232_41 rfl ?_
  refine w_ic l_232_43 (by decide) ?_
  refine w_add ((7 * ne + 3 : Nat) : Int) l_232_44 (by unfold wr; omega) ?_
  refine w_il l_232_45 rfl ?_
  refine w_iS (7 * ne + 3) l_232_47 (oModel_s17 hm) rfl (by omega) ?_
  refine w_aln l_232_48 rfl ?_
  refine w_gr l_232_49 (oModel_sh hm) (oModel_r17 hm) ?_
  refine w_il l_232_52 rfl ?_
  refine w_ic l_232_54 (by decide) ?_
  refine w_add ((7 * ne + 4 : Nat) : Int) l_232_55 (by unfold wr; omega) ?_
  refine w_il l_232_56 rfl ?_
  refine w_iS (7 * ne + 4) l_232_58 (oModel_s17 hm) rfl (by omega) ?_
  refine w_aln l_232_59 rfl ?_
  refine w_gr l_232_60 (oModel_sh hm) (oModel_r17 hm) ?_
  refine w_il l_232_63 rfl ?_
  refine w_ic l_232_65 (by decide) ?_
  refine w_add ((7 * ne + 5 : Nat) : Int) l_232_66 (by unfold wr; omega) ?_
  refine w_il l_232_67 rfl ?_
  refine w_iS (7 * ne + 5) l_232_69 (oModel_s17 hm) rfl (by omega) ?_
  refine w_aln l_232_70 rfl ?_
  refine w_gr l_232_71 (oModel_sh hm) (oModel_r17 hm) ?_
  refine w_il l_232_74 rfl ?_
  refine w_bp l_232_76 (by decide) ?_
  refine w_add ((7 * ne + 6 : Nat) : Int) l_232_78 (by unfold wr; omega) ?_
  refine w_iln l_232_79 rfl ?_
  refine w_zne 90 l_232_80 (by decide) (fun _ => ?_) (fun hx => absurd hx (by decide))
  refine w_ic l_232_90 (by decide) ?_
  refine w_iS (7 * ne + 6) l_232_91 (oModel_s17 hm) rfl (by omega) ?_
  refine w_iln l_232_92 rfl ?_
  refine w_zne 119 l_232_93 (by decide) (fun _ => ?_) (fun hx => absurd hx (by decide))
  refine w_aln l_232_119 rfl ?_
  refine w_dup l_232_120 rfl ?_
  refine w_gi ((ne : Nat) : Int) l_232_121 (oModel_sh hm) ((up_no (by omega)).trans ((up_no (by omega)).trans ((up_no (by omega)).trans ((up_no (by omega)).trans ((up_no (by omega)).trans ((up_no (by omega)).trans ((up_no (by omega)).trans (B.2.2.2.2.2.2.2.1)))))))) ?_
  refine w_ic l_232_124 (by decide) ?_
  refine w_add ((ne + 1 : Nat) : Int) l_232_125 (by unfold wr; omega) ?_
  refine w_pi l_232_126 (oModel_sh hm) ?_
  have hF : mfa I (up (up (up (up (up (up (up (up I (s + 10) (7 * ne) 3) (s + 10) (7 * ne + 1) ((p : Nat) : Int)) (s + 10) (7 * ne + 2) 0) (s + 10) (7 * ne + 3) 0) (s + 10) (7 * ne + 4) 0) (s + 10) (7 * ne + 5) 0) (s + 10) (7 * ne + 6) (-1)) s 15 ((ne + 1 : Nat) : Int)) s ne np := by
    intro y z h1 h2 h3
    by_cases y10 : y = s + 10
    · have := h2 y10
      rw [y10]
      repeat (first | rw [up_no (by omega)] | rw [up_nj (by omega)])
    · by_cases y11 : y = s + 11
      · have := h3 y11
        rw [y11]
        repeat (first | rw [up_no (by omega)] | rw [up_nj (by omega)])
      · by_cases ys : y = s
        · have := h1 ys
          rw [ys]
          repeat (first | rw [up_no (by omega)] | rw [up_nj (by omega)])
        · repeat (rw [up_no (by omega)])
  have hE : mfe I (up (up (up (up (up (up (up (up I (s + 10) (7 * ne) 3) (s + 10) (7 * ne + 1) ((p : Nat) : Int)) (s + 10) (7 * ne + 2) 0) (s + 10) (7 * ne + 3) 0) (s + 10) (7 * ne + 4) 0) (s + 10) (7 * ne + 5) 0) (s + 10) (7 * ne + 6) (-1)) s 15 ((ne + 1 : Nat) : Int)) s := by
    intro y z h1 h2
    by_cases y10 : y = s + 10
    · have := h2 (by omega)
      rw [y10]
      repeat (first | rw [up_no (by omega)] | rw [up_nj (by omega)])
    · by_cases y11 : y = s + 11
      · have := h2 (by omega)
        rw [y11]
        repeat (first | rw [up_no (by omega)] | rw [up_nj (by omega)])
      · by_cases ys : y = s
        · have := h1 ys
          rw [ys]
          repeat (first | rw [up_no (by omega)] | rw [up_nj (by omega)])
        · repeat (rw [up_no (by omega)])
  have v0 : (up (up (up (up (up (up (up (up I (s + 10) (7 * ne) 3) (s + 10) (7 * ne + 1) ((p : Nat) : Int)) (s + 10) (7 * ne + 2) 0) (s + 10) (7 * ne + 3) 0) (s + 10) (7 * ne + 4) 0) (s + 10) (7 * ne + 5) 0) (s + 10) (7 * ne + 6) (-1)) s 15 ((ne + 1 : Nat) : Int)) (s + 10) (7 * ne) = ((3 : Nat) : Int) := by
    repeat (first | rw [up_eq] | rw [up_no (by omega)] | rw [up_nj (by omega)])
    try rfl
  have v1 : (up (up (up (up (up (up (up (up I (s + 10) (7 * ne) 3) (s + 10) (7 * ne + 1) ((p : Nat) : Int)) (s + 10) (7 * ne + 2) 0) (s + 10) (7 * ne + 3) 0) (s + 10) (7 * ne + 4) 0) (s + 10) (7 * ne + 5) 0) (s + 10) (7 * ne + 6) (-1)) s 15 ((ne + 1 : Nat) : Int)) (s + 10) (7 * ne + 1) = ((p : Nat) : Int) := by
    repeat (first | rw [up_eq] | rw [up_no (by omega)] | rw [up_nj (by omega)])
    try rfl
  have v2 : (up (up (up (up (up (up (up (up I (s + 10) (7 * ne) 3) (s + 10) (7 * ne + 1) ((p : Nat) : Int)) (s + 10) (7 * ne + 2) 0) (s + 10) (7 * ne + 3) 0) (s + 10) (7 * ne + 4) 0) (s + 10) (7 * ne + 5) 0) (s + 10) (7 * ne + 6) (-1)) s 15 ((ne + 1 : Nat) : Int)) s 15 = ((ne + 1 : Nat) : Int) := by
    repeat (first | rw [up_eq] | rw [up_no (by omega)] | rw [up_nj (by omega)])
    try rfl
  have v3 : (up (up (up (up (up (up (up (up I (s + 10) (7 * ne) 3) (s + 10) (7 * ne + 1) ((p : Nat) : Int)) (s + 10) (7 * ne + 2) 0) (s + 10) (7 * ne + 3) 0) (s + 10) (7 * ne + 4) 0) (s + 10) (7 * ne + 5) 0) (s + 10) (7 * ne + 6) (-1)) s 15 ((ne + 1 : Nat) : Int)) s 16 = ((np : Nat) : Int) := by
    repeat (first | rw [up_eq] | rw [up_no (by omega)] | rw [up_nj (by omega)])
    exact B.2.2.2.2.2.2.2.2
  have v6 : (up (up (up (up (up (up (up (up I (s + 10) (7 * ne) 3) (s + 10) (7 * ne + 1) ((p : Nat) : Int)) (s + 10) (7 * ne + 2) 0) (s + 10) (7 * ne + 3) 0) (s + 10) (7 * ne + 4) 0) (s + 10) (7 * ne + 5) 0) (s + 10) (7 * ne + 6) (-1)) s 15 ((ne + 1 : Nat) : Int)) (s + 10) (7 * ne + 6) = -1 := by
    repeat (first | rw [up_eq] | rw [up_no (by omega)] | rw [up_nj (by omega)])
    try rfl
  have hB := addE_ok (kind := 3) (p := p) B hF hne (by decide) hp v0 v1 v2 v3
  refine w_aln l_232_129 rfl ?_
  refine p_iv [] [] l_232_130 rfl rfl (Nat.le_of_ble_eq_true rfl) (by rw [mx_215]; exact Nat.le_of_ble_eq_true rfl) (by rw [mt_215]; exact oModel_sh hm) (by rw [mt_215]; decide) (by rw [rk_215]; decide) (s_215 hm hB) (fun v I1 hv => ?_)
  obtain ⟨rfl, hR1, f1, hc, _⟩ := hv
  refine w_vr l_232_133 ?_
  have hz9 : I1 s 0 = I s 0 := by
    rw [f1 s 0 (fun _ => Or.inl (by decide)) (fun e => absurd e (Nat.lt_irrefl s))]
    repeat (first | rw [up_no (by omega)] | rw [up_nj (by omega)])
  exact ⟨_, _, rfl, rfl, rfl, hz9, ⟨(f1 (s + 10) _ (fun e => by omega) (fun _ => by omega)).trans v6, fun z hz => (f1 (s + 10) z (fun e => by omega) (fun _ => by omega)).trans (hF (s + 10) z (fun e => by omega) (fun _ => hz) (fun e => by omega))⟩, hB.fr f1, hR1, hc, hE.tr f1.k.e⟩

theorem s_232_0z (hm : oModel S T s) {ne np : Nat} {a : Nat → Nat} {cd : Nat → Cd} (B : MP I s h l a ne np cd) {p sr tg sz rn : Nat} (hne : ne < 120) (hp : p < lPorts l) (hs : sr < 64) (ht : tg < 64) (hz : 1 ≤ sz ∧ sz ≤ 9) (hr : rn ≤ 3) : CL xs 232 [vr s, vi 0, vi ((p : Nat) : Int), vi ((sr : Nat) : Int), vi ((tg : Nat) : Int), vi ((sz : Nat) : Int), vi ((rn : Nat) : Int)] (S, I, T, cc, zz) (RP S T cc zz (fun v I' => v = none ∧ I' s 0 = I s 0 ∧ p6 I I' s ne ((np : Nat) : Int) ∧ MP I' s (addP h a np ne p (sr, tg, sz, rn) cd) l (fu a np ne) (ne + 1) (np + 1) cd ∧ nR I' s l (runA (addP h a np ne p (sr, tg, sz, rn) cd) l noOut (ne + 1)) ∧ (∀ e, ne + 1 = e + 1 → noOut e = false → I' s 68 = ((cntP (addP h a np ne p (sr, tg, sz, rn) cd) l e (runA (addP h a np ne p (sr, tg, sz, rn) cd) l noOut e) : Nat) : Int) ∧ I' s 69 = ((cntD (addP h a np ne p (sr, tg, sz, rn) cd) l e (runA (addP h a np ne p (sr, tg, sz, rn) cd) l noOut e) : Nat) : Int)) ∧ mfe I I' s)) := by
  refine CL_start (r := 10) (ls := [vr s, vi 0, vi ((p : Nat) : Int), vi ((sr : Nat) : Int), vi ((tg : Nat) : Int), vi ((sz : Nat) : Int), vi ((rn : Nat) : Int), vs 2]) (rk_232 _) rfl ?_
  have hnp := B.1.2.1
  refine w_bp l_232_0 (by decide) ?_
  refine w_aln l_232_2 rfl ?_
  refine w_gi ((ne : Nat) : Int) l_232_3 (oModel_sh hm) B.2.2.2.2.2.2.2.1 ?_
  refine w_mul ((7 * ne : Nat) : Int) l_232_6 (by unfold wr; omega) ?_
  refine w_is l_232_7 ⟨Nat.le_of_ble_eq_true rfl, rfl⟩ ?_
  refine w_aln l_232_9 rfl ?_
  refine w_gr l_232_10 (oModel_sh hm) (oModel_r17 hm) ?_
  refine w_il l_232_13 rfl ?_
  refine w_iln l_232_15 rfl ?_
  refine w_iS (7 * ne) l_232_16 (oModel_s17 hm) rfl (by omega) ?_
  refine w_aln l_232_17 rfl ?_
  refine w_gr l_232_18 (oModel_sh hm) (oModel_r17 hm) ?_
  refine w_il l_232_21 rfl ?_
  refine w_ic l_232_23 (by decide) ?_
  refine w_add ((7 * ne + 1 : Nat) : Int) l_232_24 (by unfold wr; omega) ?_
  refine w_iln l_232_25 rfl ?_
  refine w_iS (7 * ne + 1) l_232_26 (oModel_s17 hm) rfl (by omega) ?_
  refine w_aln l_232_27 rfl ?_
  refine w_gr l_232_28 (oModel_sh hm) (oModel_r17 hm) ?_
  refine w_il l_232_31 rfl ?_
  refine w_ic l_232_33 (by decide) ?_
  refine w_add ((7 * ne + 2 : Nat) : Int) l_232_34 (by unfold wr; omega) ?_
  refine w_iln l_232_35 rfl ?_
  refine w_iS (7 * ne + 2) l_232_36 (oModel_s17 hm) rfl (by omega) ?_
  refine w_aln l_232_37 rfl ?_
  refine w_gr l_232_38 (oModel_sh hm) (oModel_r17 hm) ?_
  refine w_il l_232_41 rfl ?_
  refine w_ic l_232_43 (by decide) ?_
  refine w_add ((7 * ne + 3 : Nat) : Int) l_232_44 (by unfold wr; omega) ?_
  refine w_il l_232_45 rfl ?_
  refine w_iS (7 * ne + 3) l_232_47 (oModel_s17 hm) rfl (by omega) ?_
  refine w_aln l_232_48 rfl ?_
  refine w_gr l_232_49 (oModel_sh hm) (oModel_r17 hm) ?_
  refine w_il l_232_52 rfl ?_
  refine w_ic l_232_54 (by decide) ?_
  refine w_add ((7 * ne + 4 : Nat) : Int) l_232_55 (by unfold wr; omega) ?_
  refine w_il l_232_56 rfl ?_
  refine w_iS (7 * ne + 4) l_232_58 (oModel_s17 hm) rfl (by omega) ?_
  refine w_aln l_232_59 rfl ?_
  refine w_gr l_232_60 (oModel_sh hm) (oModel_r17 hm) ?_
  refine w_il l_232_63 rfl ?_
  refine w_ic l_232_65 (by decide) ?_
  refine w_add ((7 * ne + 5 : Nat) : Int) l_232_66 (by unfold wr; omega) ?_
  refine w_il l_232_67 rfl ?_
  refine w_iS (7 * ne + 5) l_232_69 (oModel_s17 hm) rfl (by omega) ?_
  refine w_aln l_232_70 rfl ?_
  refine w_gr l_232_71 (oModel_sh hm) (oModel_r17 hm) ?_
  refine w_il l_232_74 rfl ?_
  refine w_bp l_232_76 (by decide) ?_
  refine w_add ((7 * ne + 6 : Nat) : Int) l_232_78 (by unfold wr; omega) ?_
  refine w_iln l_232_79 rfl ?_
  refine w_zne 90 l_232_80 (by decide) (fun hx => absurd hx (by decide)) (fun _ => ?_)
  refine w_aln l_232_83 rfl ?_
  refine w_gi ((np : Nat) : Int) l_232_84 (oModel_sh hm) ((up_no (by omega)).trans ((up_no (by omega)).trans ((up_no (by omega)).trans ((up_no (by omega)).trans ((up_no (by omega)).trans ((up_no (by omega)).trans (B.2.2.2.2.2.2.2.2))))))) ?_
  refine w_go 91 l_232_87 (by decide) ?_
  refine w_iS (7 * ne + 6) l_232_91 (oModel_s17 hm) rfl (by omega) ?_
  refine w_iln l_232_92 rfl ?_
  refine w_zne 119 l_232_93 (by decide) (fun hx => absurd hx (by decide)) (fun _ => ?_)
  refine w_aln l_232_96 rfl ?_
  refine w_gr l_232_97 (oModel_sh hm) (oModel_r18 hm) ?_
  refine w_aln l_232_100 rfl ?_
  refine w_gi ((np : Nat) : Int) l_232_101 (oModel_sh hm) ((up_no (by omega)).trans ((up_no (by omega)).trans ((up_no (by omega)).trans ((up_no (by omega)).trans ((up_no (by omega)).trans ((up_no (by omega)).trans ((up_no (by omega)).trans (B.2.2.2.2.2.2.2.2)))))))) ?_
  refine w_aln l_232_104 rfl ?_
  refine w_gi ((ne : Nat) : Int) l_232_105 (oModel_sh hm) ((up_no (by omega)).trans ((up_no (by omega)).trans ((up_no (by omega)).trans ((up_no (by omega)).trans ((up_no (by omega)).trans ((up_no (by omega)).trans ((up_no (by omega)).trans (B.2.2.2.2.2.2.2.1)))))))) ?_
  refine w_iS np l_232_108 (oModel_s18 hm) rfl (by omega) ?_
  refine w_aln l_232_109 rfl ?_
  refine w_dup l_232_110 rfl ?_
  refine w_gi ((np : Nat) : Int) l_232_111 (oModel_sh hm) ((up_no (by omega)).trans ((up_no (by omega)).trans ((up_no (by omega)).trans ((up_no (by omega)).trans ((up_no (by omega)).trans ((up_no (by omega)).trans ((up_no (by omega)).trans ((up_no (by omega)).trans (B.2.2.2.2.2.2.2.2))))))))) ?_
  refine w_ic l_232_114 (by decide) ?_
  refine w_add ((np + 1 : Nat) : Int) l_232_115 (by unfold wr; omega) ?_
  refine w_pi l_232_116 (oModel_sh hm) ?_
  refine w_aln l_232_119 rfl ?_
  refine w_dup l_232_120 rfl ?_
  refine w_gi ((ne : Nat) : Int) l_232_121 (oModel_sh hm) ((up_nj (by omega)).trans ((up_no (by omega)).trans ((up_no (by omega)).trans ((up_no (by omega)).trans ((up_no (by omega)).trans ((up_no (by omega)).trans ((up_no (by omega)).trans ((up_no (by omega)).trans ((up_no (by omega)).trans (B.2.2.2.2.2.2.2.1)))))))))) ?_
  refine w_ic l_232_124 (by decide) ?_
  refine w_add ((ne + 1 : Nat) : Int) l_232_125 (by unfold wr; omega) ?_
  refine w_pi l_232_126 (oModel_sh hm) ?_
  have hF : mfa I (up (up (up (up (up (up (up (up (up (up I (s + 10) (7 * ne) 0) (s + 10) (7 * ne + 1) ((p : Nat) : Int)) (s + 10) (7 * ne + 2) ((sr : Nat) : Int)) (s + 10) (7 * ne + 3) ((tg : Nat) : Int)) (s + 10) (7 * ne + 4) ((sz : Nat) : Int)) (s + 10) (7 * ne + 5) ((rn : Nat) : Int)) (s + 10) (7 * ne + 6) ((np : Nat) : Int)) (s + 11) np ((ne : Nat) : Int)) s 16 ((np + 1 : Nat) : Int)) s 15 ((ne + 1 : Nat) : Int)) s ne np := by
    intro y z h1 h2 h3
    by_cases y10 : y = s + 10
    · have := h2 y10
      rw [y10]
      repeat (first | rw [up_no (by omega)] | rw [up_nj (by omega)])
    · by_cases y11 : y = s + 11
      · have := h3 y11
        rw [y11]
        repeat (first | rw [up_no (by omega)] | rw [up_nj (by omega)])
      · by_cases ys : y = s
        · have := h1 ys
          rw [ys]
          repeat (first | rw [up_no (by omega)] | rw [up_nj (by omega)])
        · repeat (rw [up_no (by omega)])
  have hE : mfe I (up (up (up (up (up (up (up (up (up (up I (s + 10) (7 * ne) 0) (s + 10) (7 * ne + 1) ((p : Nat) : Int)) (s + 10) (7 * ne + 2) ((sr : Nat) : Int)) (s + 10) (7 * ne + 3) ((tg : Nat) : Int)) (s + 10) (7 * ne + 4) ((sz : Nat) : Int)) (s + 10) (7 * ne + 5) ((rn : Nat) : Int)) (s + 10) (7 * ne + 6) ((np : Nat) : Int)) (s + 11) np ((ne : Nat) : Int)) s 16 ((np + 1 : Nat) : Int)) s 15 ((ne + 1 : Nat) : Int)) s := by
    intro y z h1 h2
    by_cases y10 : y = s + 10
    · have := h2 (by omega)
      rw [y10]
      repeat (first | rw [up_no (by omega)] | rw [up_nj (by omega)])
    · by_cases y11 : y = s + 11
      · have := h2 (by omega)
        rw [y11]
        repeat (first | rw [up_no (by omega)] | rw [up_nj (by omega)])
      · by_cases ys : y = s
        · have := h1 ys
          rw [ys]
          repeat (first | rw [up_no (by omega)] | rw [up_nj (by omega)])
        · repeat (rw [up_no (by omega)])
  have v0 : (up (up (up (up (up (up (up (up (up (up I (s + 10) (7 * ne) 0) (s + 10) (7 * ne + 1) ((p : Nat) : Int)) (s + 10) (7 * ne + 2) ((sr : Nat) : Int)) (s + 10) (7 * ne + 3) ((tg : Nat) : Int)) (s + 10) (7 * ne + 4) ((sz : Nat) : Int)) (s + 10) (7 * ne + 5) ((rn : Nat) : Int)) (s + 10) (7 * ne + 6) ((np : Nat) : Int)) (s + 11) np ((ne : Nat) : Int)) s 16 ((np + 1 : Nat) : Int)) s 15 ((ne + 1 : Nat) : Int)) (s + 10) (7 * ne) = 0 := by
    repeat (first | rw [up_eq] | rw [up_no (by omega)] | rw [up_nj (by omega)])
    try rfl
  have v1 : (up (up (up (up (up (up (up (up (up (up I (s + 10) (7 * ne) 0) (s + 10) (7 * ne + 1) ((p : Nat) : Int)) (s + 10) (7 * ne + 2) ((sr : Nat) : Int)) (s + 10) (7 * ne + 3) ((tg : Nat) : Int)) (s + 10) (7 * ne + 4) ((sz : Nat) : Int)) (s + 10) (7 * ne + 5) ((rn : Nat) : Int)) (s + 10) (7 * ne + 6) ((np : Nat) : Int)) (s + 11) np ((ne : Nat) : Int)) s 16 ((np + 1 : Nat) : Int)) s 15 ((ne + 1 : Nat) : Int)) (s + 10) (7 * ne + 1) = ((p : Nat) : Int) := by
    repeat (first | rw [up_eq] | rw [up_no (by omega)] | rw [up_nj (by omega)])
    try rfl
  have v2 : (up (up (up (up (up (up (up (up (up (up I (s + 10) (7 * ne) 0) (s + 10) (7 * ne + 1) ((p : Nat) : Int)) (s + 10) (7 * ne + 2) ((sr : Nat) : Int)) (s + 10) (7 * ne + 3) ((tg : Nat) : Int)) (s + 10) (7 * ne + 4) ((sz : Nat) : Int)) (s + 10) (7 * ne + 5) ((rn : Nat) : Int)) (s + 10) (7 * ne + 6) ((np : Nat) : Int)) (s + 11) np ((ne : Nat) : Int)) s 16 ((np + 1 : Nat) : Int)) s 15 ((ne + 1 : Nat) : Int)) (s + 10) (7 * ne + 2) = ((sr : Nat) : Int) := by
    repeat (first | rw [up_eq] | rw [up_no (by omega)] | rw [up_nj (by omega)])
    try rfl
  have v3 : (up (up (up (up (up (up (up (up (up (up I (s + 10) (7 * ne) 0) (s + 10) (7 * ne + 1) ((p : Nat) : Int)) (s + 10) (7 * ne + 2) ((sr : Nat) : Int)) (s + 10) (7 * ne + 3) ((tg : Nat) : Int)) (s + 10) (7 * ne + 4) ((sz : Nat) : Int)) (s + 10) (7 * ne + 5) ((rn : Nat) : Int)) (s + 10) (7 * ne + 6) ((np : Nat) : Int)) (s + 11) np ((ne : Nat) : Int)) s 16 ((np + 1 : Nat) : Int)) s 15 ((ne + 1 : Nat) : Int)) (s + 10) (7 * ne + 3) = ((tg : Nat) : Int) := by
    repeat (first | rw [up_eq] | rw [up_no (by omega)] | rw [up_nj (by omega)])
    try rfl
  have v4 : (up (up (up (up (up (up (up (up (up (up I (s + 10) (7 * ne) 0) (s + 10) (7 * ne + 1) ((p : Nat) : Int)) (s + 10) (7 * ne + 2) ((sr : Nat) : Int)) (s + 10) (7 * ne + 3) ((tg : Nat) : Int)) (s + 10) (7 * ne + 4) ((sz : Nat) : Int)) (s + 10) (7 * ne + 5) ((rn : Nat) : Int)) (s + 10) (7 * ne + 6) ((np : Nat) : Int)) (s + 11) np ((ne : Nat) : Int)) s 16 ((np + 1 : Nat) : Int)) s 15 ((ne + 1 : Nat) : Int)) (s + 10) (7 * ne + 4) = ((sz : Nat) : Int) := by
    repeat (first | rw [up_eq] | rw [up_no (by omega)] | rw [up_nj (by omega)])
    try rfl
  have v5 : (up (up (up (up (up (up (up (up (up (up I (s + 10) (7 * ne) 0) (s + 10) (7 * ne + 1) ((p : Nat) : Int)) (s + 10) (7 * ne + 2) ((sr : Nat) : Int)) (s + 10) (7 * ne + 3) ((tg : Nat) : Int)) (s + 10) (7 * ne + 4) ((sz : Nat) : Int)) (s + 10) (7 * ne + 5) ((rn : Nat) : Int)) (s + 10) (7 * ne + 6) ((np : Nat) : Int)) (s + 11) np ((ne : Nat) : Int)) s 16 ((np + 1 : Nat) : Int)) s 15 ((ne + 1 : Nat) : Int)) (s + 10) (7 * ne + 5) = ((rn : Nat) : Int) := by
    repeat (first | rw [up_eq] | rw [up_no (by omega)] | rw [up_nj (by omega)])
    try rfl
  have v6 : (up (up (up (up (up (up (up (up (up (up I (s + 10) (7 * ne) 0) (s + 10) (7 * ne + 1) ((p : Nat) : Int)) (s + 10) (7 * ne + 2) ((sr : Nat) : Int)) (s + 10) (7 * ne + 3) ((tg : Nat) : Int)) (s + 10) (7 * ne + 4) ((sz : Nat) : Int)) (s + 10) (7 * ne + 5) ((rn : Nat) : Int)) (s + 10) (7 * ne + 6) ((np : Nat) : Int)) (s + 11) np ((ne : Nat) : Int)) s 16 ((np + 1 : Nat) : Int)) s 15 ((ne + 1 : Nat) : Int)) (s + 10) (7 * ne + 6) = ((np : Nat) : Int) := by
    repeat (first | rw [up_eq] | rw [up_no (by omega)] | rw [up_nj (by omega)])
    try rfl
  have v7 : (up (up (up (up (up (up (up (up (up (up I (s + 10) (7 * ne) 0) (s + 10) (7 * ne + 1) ((p : Nat) : Int)) (s + 10) (7 * ne + 2) ((sr : Nat) : Int)) (s + 10) (7 * ne + 3) ((tg : Nat) : Int)) (s + 10) (7 * ne + 4) ((sz : Nat) : Int)) (s + 10) (7 * ne + 5) ((rn : Nat) : Int)) (s + 10) (7 * ne + 6) ((np : Nat) : Int)) (s + 11) np ((ne : Nat) : Int)) s 16 ((np + 1 : Nat) : Int)) s 15 ((ne + 1 : Nat) : Int)) (s + 11) np = ((ne : Nat) : Int) := by
    repeat (first | rw [up_eq] | rw [up_no (by omega)] | rw [up_nj (by omega)])
    try rfl
  have v8 : (up (up (up (up (up (up (up (up (up (up I (s + 10) (7 * ne) 0) (s + 10) (7 * ne + 1) ((p : Nat) : Int)) (s + 10) (7 * ne + 2) ((sr : Nat) : Int)) (s + 10) (7 * ne + 3) ((tg : Nat) : Int)) (s + 10) (7 * ne + 4) ((sz : Nat) : Int)) (s + 10) (7 * ne + 5) ((rn : Nat) : Int)) (s + 10) (7 * ne + 6) ((np : Nat) : Int)) (s + 11) np ((ne : Nat) : Int)) s 16 ((np + 1 : Nat) : Int)) s 15 ((ne + 1 : Nat) : Int)) s 15 = ((ne + 1 : Nat) : Int) := by
    repeat (first | rw [up_eq] | rw [up_no (by omega)] | rw [up_nj (by omega)])
    try rfl
  have v9 : (up (up (up (up (up (up (up (up (up (up I (s + 10) (7 * ne) 0) (s + 10) (7 * ne + 1) ((p : Nat) : Int)) (s + 10) (7 * ne + 2) ((sr : Nat) : Int)) (s + 10) (7 * ne + 3) ((tg : Nat) : Int)) (s + 10) (7 * ne + 4) ((sz : Nat) : Int)) (s + 10) (7 * ne + 5) ((rn : Nat) : Int)) (s + 10) (7 * ne + 6) ((np : Nat) : Int)) (s + 11) np ((ne : Nat) : Int)) s 16 ((np + 1 : Nat) : Int)) s 15 ((ne + 1 : Nat) : Int)) s 16 = ((np + 1 : Nat) : Int) := by
    repeat (first | rw [up_eq] | rw [up_no (by omega)] | rw [up_nj (by omega)])
    try rfl
  have hB := addP_ok (p := p) (sr := sr) (tg := tg) (sz := sz) (rn := rn) B hF hne hp hs ht hz hr v0 v1 v2 v3 v4 v5 v6 v7 v8 v9
  refine w_aln l_232_129 rfl ?_
  refine p_iv [] [] l_232_130 rfl rfl (Nat.le_of_ble_eq_true rfl) (by rw [mx_215]; exact Nat.le_of_ble_eq_true rfl) (by rw [mt_215]; exact oModel_sh hm) (by rw [mt_215]; decide) (by rw [rk_215]; decide) (s_215 hm hB) (fun v I1 hv => ?_)
  obtain ⟨rfl, hR1, f1, hc, _⟩ := hv
  refine w_vr l_232_133 ?_
  have hz9 : I1 s 0 = I s 0 := by
    rw [f1 s 0 (fun _ => Or.inl (by decide)) (fun e => absurd e (Nat.lt_irrefl s))]
    repeat (first | rw [up_no (by omega)] | rw [up_nj (by omega)])
  exact ⟨_, _, rfl, rfl, rfl, hz9, ⟨(f1 (s + 10) _ (fun e => by omega) (fun _ => by omega)).trans v6, fun z hz => (f1 (s + 10) z (fun e => by omega) (fun _ => by omega)).trans (hF (s + 10) z (fun e => by omega) (fun _ => hz) (fun e => by omega))⟩, hB.fr f1, hR1, hc, hE.tr f1.k.e⟩

end RI
