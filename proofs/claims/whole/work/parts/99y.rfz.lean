/-! the reference's reader: the pile -/
/-- of a pile, top first: operators, openings, openings and nots -/
def kN : List Nat → Nat
  | [] => 0
  | x :: K => (if x = 9 then 0 else 1) + kN K
def kO : List Nat → Nat
  | [] => 0
  | x :: K => (if x = 9 then 1 else 0) + kO K
def kW : List Nat → Nat
  | [] => 0
  | x :: K => (if x = 6 ∨ x = 9 then 1 else 0) + kW K
/-- the operators op that lie on top go to the codes -/
def flu (op : Nat) : List Nat → Cd → List Nat × Cd
  | [], C => ([], C)
  | x :: K, C => if x = op then flu op K (C ++ [(op, 0, 0)]) else (x :: K, C)
theorem kNO : ∀ K : List Nat, K.length = kN K + kO K
  | [] => rfl
  | x :: K => by
    have h := kNO K
    show K.length + 1 = ((if x = 9 then 0 else 1) + kN K) + ((if x = 9 then 1 else 0) + kO K)
    split <;> omega
theorem kW_le : ∀ K : List Nat, kW K ≤ K.length
  | [] => Nat.le_refl 0
  | x :: K => by
    have h := kW_le K
    show (if x = 6 ∨ x = 9 then 1 else 0) + kW K ≤ K.length + 1
    split <;> omega
theorem kW_6 {K : List Nat} : kW (6 :: K) = kW K + 1 := by show (if 6 = 6 ∨ 6 = 9 then 1 else 0) + kW K = _; rw [if_pos (by decide)]; omega
theorem kW_7 {K : List Nat} : kW (7 :: K) = kW K := by show (if 7 = 6 ∨ 7 = 9 then 1 else 0) + kW K = _; rw [if_neg (by decide)]; omega
theorem kW_8 {K : List Nat} : kW (8 :: K) = kW K := by show (if 8 = 6 ∨ 8 = 9 then 1 else 0) + kW K = _; rw [if_neg (by decide)]; omega
theorem kW_9 {K : List Nat} : kW (9 :: K) = kW K + 1 := by show (if 9 = 6 ∨ 9 = 9 then 1 else 0) + kW K = _; rw [if_pos (by decide)]; omega
theorem kN_x {x : Nat} {K : List Nat} (h : x ≠ 9) : kN (x :: K) = kN K + 1 := by show (if x = 9 then 0 else 1) + kN K = _; rw [if_neg h]; omega
theorem kN_9 {K : List Nat} : kN (9 :: K) = kN K := by show (if 9 = 9 then 0 else 1) + kN K = _; rw [if_pos rfl]; omega
theorem kO_x {x : Nat} {K : List Nat} (h : x ≠ 9) : kO (x :: K) = kO K := by show (if x = 9 then 1 else 0) + kO K = _; rw [if_neg h]; omega
theorem kO_9 {K : List Nat} : kO (9 :: K) = kO K + 1 := by show (if 9 = 9 then 1 else 0) + kO K = _; rw [if_pos rfl]; omega
theorem kOD : ∀ K : List Nat, kO K ≤ kW K
  | [] => Nat.le_refl 0
  | x :: K => by
    have h := kOD K
    show (if x = 9 then 1 else 0) + kO K ≤ (if x = 6 ∨ x = 9 then 1 else 0) + kW K
    by_cases h9 : x = 9
    · rw [if_pos h9, if_pos (Or.inr h9)]; omega
    · rw [if_neg h9]; omega
theorem kO_pos : ∀ K : List Nat, 0 < kO K ↔ ∃ j, j < K.length ∧ K.getD j 0 = 9
  | [] => ⟨fun h => absurd h (by decide), fun ⟨j, h, _⟩ => absurd h (Nat.not_lt_zero j)⟩
  | x :: K => by
    have h := kO_pos K
    by_cases h9 : x = 9
    · rw [show kO (x :: K) = 1 + kO K by show (if x = 9 then 1 else 0) + kO K = _; rw [if_pos h9]]
      exact ⟨fun _ => ⟨0, by simp, h9⟩, fun _ => by omega⟩
    · rw [show kO (x :: K) = kO K by show (if x = 9 then 1 else 0) + kO K = _; rw [if_neg h9]; omega, h]
      constructor
      · rintro ⟨j, h1, h2⟩
        exact ⟨j + 1, by rw [List.length_cons]; omega, h2⟩
      · rintro ⟨j, h1, h2⟩
        cases j with
        | zero => exact absurd h2 h9
        | succ j => exact ⟨j, by rw [List.length_cons] at h1; omega, h2⟩
/-- the pile as the reference holds it -/
def mPi (I : Ix) (s : Nat) (K : List Nat) : Prop := I s 41 = ((K.length : Nat) : Int) ∧ I s 42 = ((kW K : Nat) : Int) ∧ ∀ j, j < K.length → I (s + 22) j = ((K.getD (K.length - 1 - j) 0 : Nat) : Int)
/-- all but the pile and the codes -/
def fQ (I J : Ix) (s : Nat) : Prop := ∀ z w, (z = s → w ≠ 39 ∧ w ≠ 41 ∧ w ≠ 42) → z ≠ s + 21 → z ≠ s + 22 → J z w = I z w
theorem fQ.rf (I : Ix) (s : Nat) : fQ I I s := fun _ _ _ _ _ => rfl
theorem fQ.tr {I J K : Ix} {s : Nat} (f : fQ I J s) (g : fQ J K s) : fQ I K s := fun z w h1 h2 h3 => (g z w h1 h2 h3).trans (f z w h1 h2 h3)
theorem fQ.up {I J : Ix} {s z w : Nat} {v : Int} (f : fQ I J s) (h : (z = s ∧ (w = 39 ∨ w = 41 ∨ w = 42)) ∨ z = s + 21 ∨ z = s + 22) : fQ I (up J z w v) s := fun z' w' h1 h2 h3 => (up_out (by omega)).trans (f z' w' h1 h2 h3)
theorem fQ.P {I J : Ix} {s : Nat} (f : fQ I J s) : fP I J s := fun z w h1 h2 => f z w (fun e => by have := h1 e; omega) (by omega) (by omega)
theorem mTx.fQ {I J : Ix} {s n : Nat} {t : Nat → Int} (H : mTx I s t n) (f : fQ I J s) : mTx J s t n := H.fP f.P
theorem mAt.fQ {I J : Ix} {s n p : Nat} {t : Nat → Int} (A : mAt I s t n p) (f : fQ I J s) : mAt J s t n p := by
  obtain ⟨j, a, b, c⟩ := A
  exact ⟨j, (f s 22 (fun _ => by decide) (by omega) (by omega)).trans a, b, c⟩
theorem mPi.fT {I J : Ix} {s : Nat} {K : List Nat} (Z : mPi I s K) (f : fT I J s) : mPi J s K := ⟨(f s 41 (fun _ => by decide)).trans Z.1, (f s 42 (fun _ => by decide)).trans Z.2.1, fun j hj => (f _ j (fun e => by omega)).trans (Z.2.2 j hj)⟩
/-- one more code -/
theorem mSU.emit {I J : Ix} {s tot : Nat} {P : Ps} {C : Cd} {c : Nat × Nat × Nat} (Z : mSU I s P C tot) (e0 : ∀ z, 24 < z → z < 39 → J s z = I s z) (v39 : J s 39 = ((tot + C.length + 1 : Nat) : Int)) (e : ∀ j, 13 ≤ j → j ≤ 20 → ∀ z, J (s + j) z = I (s + j) z) (e21 : ∀ z, z < 3 * (tot + C.length) → J (s + 21) z = I (s + 21) z) (v0 : J (s + 21) (3 * (tot + C.length)) = (c.1 : Int)) (v1 : J (s + 21) (3 * (tot + C.length) + 1) = (c.2.1 : Int)) (v2 : J (s + 21) (3 * (tot + C.length) + 2) = (c.2.2 : Int)) : mSU J s P (C ++ [c]) tot := by
  obtain ⟨⟨a1, a2, a3, a4, a5, a6⟩, z2, z3, z4, z5⟩ := Z
  refine ⟨⟨(e0 25 (by decide) (by decide)).trans a1, (e0 34 (by decide) (by decide)).trans a2, (e0 31 (by decide) (by decide)).trans a3, (e0 32 (by decide) (by decide)).trans a4, (e0 33 (by decide) (by decide)).trans a5, by rw [v39, List.length_append]; rfl⟩, fun p hp => ?_, z3, fun r hr => ?_, fun j hj => ?_⟩
  · rw [e 13 (by decide) (by decide), e 14 (by decide) (by decide), e 15 (by decide) (by decide), e 16 (by decide) (by decide), e 17 (by decide) (by decide)]
    exact z2 p hp
  · obtain ⟨g1, g2, o, g3, g4, g5, g6⟩ := z4 r hr
    refine ⟨(e 18 (by decide) (by decide) r).trans g1, g2, o, (e 19 (by decide) (by decide) r).trans g3, (e 20 (by decide) (by decide) r).trans g4, g5, fun j hj => ?_⟩
    rw [e21 _ (by omega), e21 _ (by omega), e21 _ (by omega)]
    exact g6 j hj
  · rw [List.length_append, List.length_singleton] at hj
    by_cases hjl : j = C.length
    · rw [hjl, getD_a (by omega), if_neg (by omega)]
      exact ⟨v0, v1, v2⟩
    · rw [getD_a hj, if_pos (by omega), e21 _ (by omega), e21 _ (by omega), e21 _ (by omega)]
      exact z5 j (by omega)
section RFZ
variable {xs : List Int} {S : List (Nat × Nat)} {T : Nat → Nat → Nat} {cc zz s : Nat} {I I' : Ix} {t : Nat → Int} {n : Nat}

theorem mx_186 : mxl 186 = 4 := by decide +kernel
theorem mt_186 : mtc 186 = 10 := by decide +kernel
theorem rk_186 (as : List AV) : rkA 186 as = 0 := rfl
theorem l_186_0 : look 186 0 = some (.aload_n 0, 1, 0, 0, 0, 0) := by decide +kernel
theorem l_186_1 : look 186 1 = some (.getfield 86, 3, 10, 38, 2, 1539) := by decide +kernel
theorem l_186_4 : look 186 4 = some (.iconst 3, 1, 0, 0, 0, 0) := by decide +kernel
theorem l_186_5 : look 186 5 = some (.aload_n 0, 1, 0, 0, 0, 0) := by decide +kernel
theorem l_186_6 : look 186 6 = some (.getfield 224, 3, 10, 39, 0, 1540) := by decide +kernel
theorem l_186_9 : look 186 9 = some (.imul, 1, 0, 0, 0, 0) := by decide +kernel
theorem l_186_10 : look 186 10 = some (.iload_n 1, 1, 0, 0, 0, 0) := by decide +kernel
theorem l_186_11 : look 186 11 = some (.iastore, 1, 0, 0, 0, 0) := by decide +kernel
theorem l_186_12 : look 186 12 = some (.aload_n 0, 1, 0, 0, 0, 0) := by decide +kernel
theorem l_186_13 : look 186 13 = some (.getfield 86, 3, 10, 38, 2, 1539) := by decide +kernel
theorem l_186_16 : look 186 16 = some (.iconst 3, 1, 0, 0, 0, 0) := by decide +kernel
theorem l_186_17 : look 186 17 = some (.aload_n 0, 1, 0, 0, 0, 0) := by decide +kernel
theorem l_186_18 : look 186 18 = some (.getfield 224, 3, 10, 39, 0, 1540) := by decide +kernel
theorem l_186_21 : look 186 21 = some (.imul, 1, 0, 0, 0, 0) := by decide +kernel
theorem l_186_22 : look 186 22 = some (.iconst 1, 1, 0, 0, 0, 0) := by decide +kernel
theorem l_186_23 : look 186 23 = some (.iadd, 1, 0, 0, 0, 0) := by decide +kernel
theorem l_186_24 : look 186 24 = some (.iload_n 2, 1, 0, 0, 0, 0) := by decide +kernel
theorem l_186_25 : look 186 25 = some (.iastore, 1, 0, 0, 0, 0) := by decide +kernel
theorem l_186_26 : look 186 26 = some (.aload_n 0, 1, 0, 0, 0, 0) := by decide +kernel
theorem l_186_27 : look 186 27 = some (.getfield 86, 3, 10, 38, 2, 1539) := by decide +kernel
theorem l_186_30 : look 186 30 = some (.iconst 3, 1, 0, 0, 0, 0) := by decide +kernel
theorem l_186_31 : look 186 31 = some (.aload_n 0, 1, 0, 0, 0, 0) := by decide +kernel
theorem l_186_32 : look 186 32 = some (.getfield 224, 3, 10, 39, 0, 1540) := by decide +kernel
theorem l_186_35 : look 186 35 = some (.imul, 1, 0, 0, 0, 0) := by decide +kernel
theorem l_186_36 : look 186 36 = some (.iconst 2, 1, 0, 0, 0, 0) := by decide +kernel
theorem l_186_37 : look 186 37 = some (.iadd, 1, 0, 0, 0, 0) := by decide +kernel
theorem l_186_38 : look 186 38 = some (.iload_n 3, 1, 0, 0, 0, 0) := by decide +kernel
theorem l_186_39 : look 186 39 = some (.iastore, 1, 0, 0, 0, 0) := by decide +kernel
theorem l_186_40 : look 186 40 = some (.aload_n 0, 1, 0, 0, 0, 0) := by decide +kernel
theorem l_186_41 : look 186 41 = some (.dup, 1, 0, 0, 0, 0) := by decide +kernel
theorem l_186_42 : look 186 42 = some (.getfield 224, 3, 10, 39, 0, 1540) := by decide +kernel
theorem l_186_45 : look 186 45 = some (.iconst 1, 1, 0, 0, 0, 0) := by decide +kernel
theorem l_186_46 : look 186 46 = some (.iadd, 1, 0, 0, 0, 0) := by decide +kernel
theorem l_186_47 : look 186 47 = some (.putfield 224, 3, 10, 39, 0, 1540) := by decide +kernel
theorem l_186_50 : look 186 50 = some (.return_, 1, 0, 0, 0, 0) := by decide +kernel

theorem s_186 (hm : oModel S T s) {k : Nat} (h39 : I s 39 = ((k : Nat) : Int)) (hk : k < 300) {x0 x1 x2 : Int} : CL xs 186 [vr s, vi x0, vi x1, vi x2] (S, I, T, cc, zz) (FN none (S, up (up (up (up I (s + 21) (3 * k) x0) (s + 21) (3 * k + 1) x1) (s + 21) (3 * k + 2) x2) s 39 ((k + 1 : Nat) : Int), T, cc, zz)) := by
  refine CL_start (r := 0) (ls := [vr s, vi x0, vi x1, vi x2]) (rk_186 _) rfl ?_
  refine w_aln l_186_0 rfl ?_
  refine w_gr l_186_1 (oModel_sh hm) (oModel_r38 hm) ?_
  refine w_ic l_186_4 (by decide) ?_
  refine w_aln l_186_5 rfl ?_
  refine w_gi ((k : Nat) : Int) l_186_6 (oModel_sh hm) h39 ?_
  refine w_mul (((3 * k) : Nat) : Int) l_186_9 (by unfold wr; omega) ?_
  refine w_iln l_186_10 rfl ?_
  refine w_iS (3 * k) l_186_11 (oModel_s38 hm) rfl (by omega) ?_
  refine w_aln l_186_12 rfl ?_
  refine w_gr l_186_13 (oModel_sh hm) (oModel_r38 hm) ?_
  refine w_ic l_186_16 (by decide) ?_
  refine w_aln l_186_17 rfl ?_
  refine w_gi ((k : Nat) : Int) l_186_18 (oModel_sh hm) ((up_no (by omega)).trans (h39)) ?_
  refine w_mul (((3 * k) : Nat) : Int) l_186_21 (by unfold wr; omega) ?_
  refine w_ic l_186_22 (by decide) ?_
  refine w_add (((3 * k + 1) : Nat) : Int) l_186_23 (by unfold wr; omega) ?_
  refine w_iln l_186_24 rfl ?_
  refine w_iS (3 * k + 1) l_186_25 (oModel_s38 hm) rfl (by omega) ?_
  refine w_aln l_186_26 rfl ?_
  refine w_gr l_186_27 (oModel_sh hm) (oModel_r38 hm) ?_
  refine w_ic l_186_30 (by decide) ?_
  refine w_aln l_186_31 rfl ?_
  refine w_gi ((k : Nat) : Int) l_186_32 (oModel_sh hm) ((up_no (by omega)).trans ((up_no (by omega)).trans (h39))) ?_
  refine w_mul (((3 * k) : Nat) : Int) l_186_35 (by unfold wr; omega) ?_
  refine w_ic l_186_36 (by decide) ?_
  refine w_add (((3 * k + 2) : Nat) : Int) l_186_37 (by unfold wr; omega) ?_
  refine w_iln l_186_38 rfl ?_
  refine w_iS (3 * k + 2) l_186_39 (oModel_s38 hm) rfl (by omega) ?_
  refine w_aln l_186_40 rfl ?_
  refine w_dup l_186_41 rfl ?_
  refine w_gi ((k : Nat) : Int) l_186_42 (oModel_sh hm) ((up_no (by omega)).trans ((up_no (by omega)).trans ((up_no (by omega)).trans (h39)))) ?_
  refine w_ic l_186_45 (by decide) ?_
  refine w_add (((k + 1) : Nat) : Int) l_186_46 (by unfold wr; omega) ?_
  refine w_pi l_186_47 (oModel_sh hm) ?_
  refine w_vr l_186_50 ?_
  exact ⟨rfl, rfl⟩

theorem mSU.emt {P : Ps} {C : Cd} {tot : Nat} (Z : mSU I s P C tot) (c : Nat × Nat × Nat) : mSU (up (up (up (up I (s + 21) (3 * (tot + C.length)) ((c.1 : Nat) : Int)) (s + 21) (3 * (tot + C.length) + 1) ((c.2.1 : Nat) : Int)) (s + 21) (3 * (tot + C.length) + 2) ((c.2.2 : Nat) : Int)) s 39 ((tot + C.length + 1 : Nat) : Int)) s P (C ++ [c]) tot := by
  refine Z.emit (fun z h1 h2 => ?_) up_eq (fun j h1 h2 z => ?_) (fun z hz => ?_) ?_ ?_ ?_
  · repeat (rw [up_out (by omega)])
  · repeat (rw [up_out (by omega)])
  · repeat (rw [up_out (by omega)])
  · repeat (first | exact up_eq | rw [up_out (by omega)])
  · repeat (first | exact up_eq | rw [up_out (by omega)])
  · repeat (first | exact up_eq | rw [up_out (by omega)])

theorem mx_187 : mxl 187 = 2 := by decide +kernel
theorem mt_187 : mtc 187 = 10 := by decide +kernel
theorem rk_187 (as : List AV) : rkA 187 as = 0 := rfl
theorem l_187_0 : look 187 0 = some (.aload_n 0, 1, 0, 0, 0, 0) := by decide +kernel
theorem l_187_1 : look 187 1 = some (.getfield 89, 3, 10, 40, 2, 1541) := by decide +kernel
theorem l_187_4 : look 187 4 = some (.aload_n 0, 1, 0, 0, 0, 0) := by decide +kernel
theorem l_187_5 : look 187 5 = some (.getfield 227, 3, 10, 41, 0, 1542) := by decide +kernel
theorem l_187_8 : look 187 8 = some (.iload_n 1, 1, 0, 0, 0, 0) := by decide +kernel
theorem l_187_9 : look 187 9 = some (.iastore, 1, 0, 0, 0, 0) := by decide +kernel
theorem l_187_10 : look 187 10 = some (.aload_n 0, 1, 0, 0, 0, 0) := by decide +kernel
theorem l_187_11 : look 187 11 = some (.dup, 1, 0, 0, 0, 0) := by decide +kernel
theorem l_187_12 : look 187 12 = some (.getfield 227, 3, 10, 41, 0, 1542) := by decide +kernel
theorem l_187_15 : look 187 15 = some (.iconst 1, 1, 0, 0, 0, 0) := by decide +kernel
theorem l_187_16 : look 187 16 = some (.iadd, 1, 0, 0, 0, 0) := by decide +kernel
theorem l_187_17 : look 187 17 = some (.putfield 227, 3, 10, 41, 0, 1542) := by decide +kernel
theorem l_187_20 : look 187 20 = some (.return_, 1, 0, 0, 0, 0) := by decide +kernel

theorem s_187 (hm : oModel S T s) {k : Nat} (h41 : I s 41 = ((k : Nat) : Int)) (hk : k < 300) {x : Nat} : CL xs 187 [vr s, vi ((x : Nat) : Int)] (S, I, T, cc, zz) (FN none (S, up (up I (s + 22) k ((x : Nat) : Int)) s 41 ((k + 1 : Nat) : Int), T, cc, zz)) := by
  refine CL_start (r := 0) (ls := [vr s, vi ((x : Nat) : Int)]) (rk_187 _) rfl ?_
  refine w_aln l_187_0 rfl ?_
  refine w_gr l_187_1 (oModel_sh hm) (oModel_r40 hm) ?_
  refine w_aln l_187_4 rfl ?_
  refine w_gi ((k : Nat) : Int) l_187_5 (oModel_sh hm) h41 ?_
  refine w_iln l_187_8 rfl ?_
  refine w_iS k l_187_9 (oModel_s40 hm) rfl (by omega) ?_
  refine w_aln l_187_10 rfl ?_
  refine w_dup l_187_11 rfl ?_
  refine w_gi ((k : Nat) : Int) l_187_12 (oModel_sh hm) ((up_no (by omega)).trans (h41)) ?_
  refine w_ic l_187_15 (by decide) ?_
  refine w_add (((k + 1) : Nat) : Int) l_187_16 (by unfold wr; omega) ?_
  refine w_pi l_187_17 (oModel_sh hm) ?_
  refine w_vr l_187_20 ?_
  exact ⟨rfl, rfl⟩

theorem mx_188 : mxl 188 = 2 := by decide +kernel
theorem mt_188 : mtc 188 = 10 := by decide +kernel
theorem rk_188 (as : List AV) : rkA 188 as = 1 := rfl
theorem l_188_0 : look 188 0 = some (.aload_n 0, 1, 0, 0, 0, 0) := by decide +kernel
theorem l_188_1 : look 188 1 = some (.getfield 227, 3, 10, 41, 0, 1542) := by decide +kernel
theorem l_188_4 : look 188 4 = some (.ifCond .le 58, 3, 0, 0, 0, 0) := by decide +kernel
theorem l_188_7 : look 188 7 = some (.aload_n 0, 1, 0, 0, 0, 0) := by decide +kernel
theorem l_188_8 : look 188 8 = some (.getfield 89, 3, 10, 40, 2, 1541) := by decide +kernel
theorem l_188_11 : look 188 11 = some (.aload_n 0, 1, 0, 0, 0, 0) := by decide +kernel
theorem l_188_12 : look 188 12 = some (.getfield 227, 3, 10, 41, 0, 1542) := by decide +kernel
theorem l_188_15 : look 188 15 = some (.iconst 1, 1, 0, 0, 0, 0) := by decide +kernel
theorem l_188_16 : look 188 16 = some (.isub, 1, 0, 0, 0, 0) := by decide +kernel
theorem l_188_17 : look 188 17 = some (.iaload, 1, 0, 0, 0, 0) := by decide +kernel
theorem l_188_18 : look 188 18 = some (.iload_n 1, 1, 0, 0, 0, 0) := by decide +kernel
theorem l_188_19 : look 188 19 = some (.if_icmp .ne 43, 3, 0, 0, 0, 0) := by decide +kernel
theorem l_188_22 : look 188 22 = some (.aload_n 0, 1, 0, 0, 0, 0) := by decide +kernel
theorem l_188_23 : look 188 23 = some (.dup, 1, 0, 0, 0, 0) := by decide +kernel
theorem l_188_24 : look 188 24 = some (.getfield 227, 3, 10, 41, 0, 1542) := by decide +kernel
theorem l_188_27 : look 188 27 = some (.iconst 1, 1, 0, 0, 0, 0) := by decide +kernel
theorem l_188_28 : look 188 28 = some (.isub, 1, 0, 0, 0, 0) := by decide +kernel
theorem l_188_29 : look 188 29 = some (.putfield 227, 3, 10, 41, 0, 1542) := by decide +kernel
theorem l_188_32 : look 188 32 = some (.aload_n 0, 1, 0, 0, 0, 0) := by decide +kernel
theorem l_188_33 : look 188 33 = some (.iload_n 1, 1, 0, 0, 0, 0) := by decide +kernel
theorem l_188_34 : look 188 34 = some (.iconst 0, 1, 0, 0, 0, 0) := by decide +kernel
theorem l_188_35 : look 188 35 = some (.iconst 0, 1, 0, 0, 0, 0) := by decide +kernel
theorem l_188_36 : look 188 36 = some (.invokevirtual 230, 3, 186, 4, 0, 1843) := by decide +kernel
theorem l_188_39 : look 188 39 = some (.aload_n 0, 1, 0, 0, 0, 0) := by decide +kernel
theorem l_188_40 : look 188 40 = some (.dup, 1, 0, 0, 0, 0) := by decide +kernel
theorem l_188_41 : look 188 41 = some (.getfield 234, 3, 10, 42, 0, 1543) := by decide +kernel
theorem l_188_44 : look 188 44 = some (.iload_n 1, 1, 0, 0, 0, 0) := by decide +kernel
theorem l_188_45 : look 188 45 = some (.bipush 6, 2, 0, 0, 0, 0) := by decide +kernel
theorem l_188_47 : look 188 47 = some (.if_icmp .ne 7, 3, 0, 0, 0, 0) := by decide +kernel
theorem l_188_50 : look 188 50 = some (.iconst 1, 1, 0, 0, 0, 0) := by decide +kernel
theorem l_188_51 : look 188 51 = some (.goto 4, 3, 0, 0, 0, 0) := by decide +kernel
theorem l_188_54 : look 188 54 = some (.iconst 0, 1, 0, 0, 0, 0) := by decide +kernel
theorem l_188_55 : look 188 55 = some (.isub, 1, 0, 0, 0, 0) := by decide +kernel
theorem l_188_56 : look 188 56 = some (.putfield 234, 3, 10, 42, 0, 1543) := by decide +kernel
theorem l_188_59 : look 188 59 = some (.goto (-59), 3, 0, 0, 0, 0) := by decide +kernel
theorem l_188_62 : look 188 62 = some (.return_, 1, 0, 0, 0, 0) := by decide +kernel

theorem s_188_6 {I0 : Ix} (hm : oModel S T s) {P : Ps} {tot : Nat} : ∀ K C J, mPi J s K → mSU J s P C tot → tot + C.length + kN K ≤ 300 → K.length ≤ 300 → fQ I0 J s → WP xs 188 1 0 [vr s, vi 6] [] (S, J, T, cc, zz) (RP S T cc zz (fun v I' => v = none ∧ mPi I' s (flu 6 K C).1 ∧ mSU I' s P (flu 6 K C).2 tot ∧ fQ I0 I' s)) := by
  intro K
  induction K with
  | nil =>
    intro C J Z Y hb hl3 f
    refine w_aln l_188_0 rfl ?_
    refine w_gi 0 l_188_1 (oModel_sh hm) Z.1 ?_
    refine w_zle 62 l_188_4 (by decide) (fun _ => ?_) (fun hx => absurd hx (by decide))
    refine w_vr l_188_62 ?_
    exact ⟨_, _, rfl, rfl, rfl, Z, Y, f⟩
  | cons x K ih =>
    intro C J Z Y hb hl3 f
    have hl := kNO (x :: K)
    have hl2 := kNO K
    rw [List.length_cons] at hl
    have zt : J (s + 22) K.length = ((x : Nat) : Int) := by
      rw [Z.2.2 K.length (by rw [List.length_cons]; omega), show (x :: K).length - 1 - K.length = 0 by rw [List.length_cons]; omega]
      rfl
    have hlen : K.length < 300 := by rw [List.length_cons] at hl3; omega
    by_cases hxo : x = 6
    · have hfl : flu 6 (x :: K) C = flu 6 K (C ++ [(6, 0, 0)]) := if_pos hxo
      rw [hfl]
      have hkn : kN (x :: K) = 1 + kN K := by
        show (if x = 9 then 0 else 1) + kN K = _
        rw [if_neg (by omega)]
      refine w_aln l_188_0 rfl ?_
      refine w_gi (((K.length + 1) : Nat) : Int) l_188_1 (oModel_sh hm) Z.1 ?_
      refine w_zle 62 l_188_4 (by decide) (fun hx => absurd hx (by omega)) (fun _ => ?_)
      refine w_aln l_188_7 rfl ?_
      refine w_gr l_188_8 (oModel_sh hm) (oModel_r40 hm) ?_
      refine w_aln l_188_11 rfl ?_
      refine w_gi (((K.length + 1) : Nat) : Int) l_188_12 (oModel_sh hm) Z.1 ?_
      refine w_ic l_188_15 (by decide) ?_
      refine w_sub ((K.length : Nat) : Int) l_188_16 (by unfold wr; omega) ?_
      refine w_ia K.length ((x : Nat) : Int) l_188_17 (oModel_s40 hm) rfl (by omega) zt ?_
      refine w_iln l_188_18 rfl ?_
      refine w_cne 62 l_188_19 (by decide) (fun hx => absurd hx (by omega)) (fun _ => ?_)
      refine w_aln l_188_22 rfl ?_
      refine w_dup l_188_23 rfl ?_
      refine w_gi (((K.length + 1) : Nat) : Int) l_188_24 (oModel_sh hm) Z.1 ?_
      refine w_ic l_188_27 (by decide) ?_
      refine w_sub ((K.length : Nat) : Int) l_188_28 (by unfold wr; omega) ?_
      refine w_pi l_188_29 (oModel_sh hm) ?_
      refine w_aln l_188_32 rfl ?_
      refine w_iln l_188_33 rfl ?_
      refine w_ic l_188_34 (by decide) ?_
      refine w_ic l_188_35 (by decide) ?_
      refine q_iv [vi 6, vi 0, vi 0] [] l_188_36 rfl rfl (Nat.le_of_ble_eq_true rfl) (by rw [mx_186]; exact Nat.le_of_ble_eq_true rfl) (by rw [mt_186]; exact oModel_sh hm) (by rw [mt_186]; decide) (by rw [rk_186]; decide) (s_186 hm (k := tot + C.length) ((up_nj (by decide)).trans Y.1.2.2.2.2.2) (by omega)) ?_
      refine w_aln l_188_39 rfl ?_
      refine w_dup l_188_40 rfl ?_
      refine w_gi (((kW (x :: K)) : Nat) : Int) l_188_41 (oModel_sh hm) ((up_nj (by omega)).trans ((up_no (by omega)).trans ((up_no (by omega)).trans ((up_no (by omega)).trans ((up_nj (by omega)).trans (Z.2.1)))))) ?_
      refine w_iln l_188_44 rfl ?_
      refine w_bp l_188_45 (by decide) ?_
      refine w_cne 54 l_188_47 (by decide) (fun hx => absurd hx (by decide)) (fun _ => ?_)
      refine w_ic l_188_50 (by decide) ?_
      refine w_go 55 l_188_51 (by decide) ?_
      refine w_sub (((kW K) : Nat) : Int) l_188_55 (by have := kW_le K; rw [hxo, kW_6]; unfold wr; omega) ?_
      refine w_pi l_188_56 (oModel_sh hm) ?_
      refine w_go 0 l_188_59 (by decide) ?_
      refine ih (C ++ [(6, 0, 0)]) _ ⟨?_, ?_, fun j hj => ?_⟩ ?_ (by rw [List.length_append, List.length_singleton]; omega) (by omega) ?_
      · repeat (first | exact up_eq | rw [up_nj (by decide)] | rw [up_no (by omega)])
      · repeat (first | exact up_eq | rw [up_nj (by decide)] | rw [up_no (by omega)])
      · repeat (rw [up_no (by omega)])
        rw [Z.2.2 j (by rw [List.length_cons]; omega)]
        rw [show (x :: K).length - 1 - j = (K.length - 1 - j) + 1 by rw [List.length_cons]; omega]
        rfl
      · exact ((Y.eq (fun w h1 h2 => up_nj (by omega)) (fun j h1 h2 w => up_no (by omega))).emt (6, 0, 0)).eq (fun w h1 h2 => up_nj (by omega)) (fun j h1 h2 w => up_no (by omega))
      · exact (((((f.up (Or.inl ⟨rfl, by decide⟩)).up (Or.inr (Or.inl rfl))).up (Or.inr (Or.inl rfl))).up (Or.inr (Or.inl rfl))).up (Or.inl ⟨rfl, by decide⟩)).up (Or.inl ⟨rfl, by decide⟩)
    · have hfl : flu 6 (x :: K) C = (x :: K, C) := if_neg hxo
      rw [hfl]
      refine w_aln l_188_0 rfl ?_
      refine w_gi (((K.length + 1) : Nat) : Int) l_188_1 (oModel_sh hm) Z.1 ?_
      refine w_zle 62 l_188_4 (by decide) (fun hx => absurd hx (by omega)) (fun _ => ?_)
      refine w_aln l_188_7 rfl ?_
      refine w_gr l_188_8 (oModel_sh hm) (oModel_r40 hm) ?_
      refine w_aln l_188_11 rfl ?_
      refine w_gi (((K.length + 1) : Nat) : Int) l_188_12 (oModel_sh hm) Z.1 ?_
      refine w_ic l_188_15 (by decide) ?_
      refine w_sub ((K.length : Nat) : Int) l_188_16 (by unfold wr; omega) ?_
      refine w_ia K.length ((x : Nat) : Int) l_188_17 (oModel_s40 hm) rfl (by omega) zt ?_
      refine w_iln l_188_18 rfl ?_
      refine w_cne 62 l_188_19 (by decide) (fun _ => ?_) (fun hx => absurd hx (by omega))
      refine w_vr l_188_62 ?_
      exact ⟨_, _, rfl, rfl, rfl, Z, Y, f⟩

theorem s_188_7 {I0 : Ix} (hm : oModel S T s) {P : Ps} {tot : Nat} : ∀ K C J, mPi J s K → mSU J s P C tot → tot + C.length + kN K ≤ 300 → K.length ≤ 300 → fQ I0 J s → WP xs 188 1 0 [vr s, vi 7] [] (S, J, T, cc, zz) (RP S T cc zz (fun v I' => v = none ∧ mPi I' s (flu 7 K C).1 ∧ mSU I' s P (flu 7 K C).2 tot ∧ fQ I0 I' s)) := by
  intro K
  induction K with
  | nil =>
    intro C J Z Y hb hl3 f
    refine w_aln l_188_0 rfl ?_
    refine w_gi 0 l_188_1 (oModel_sh hm) Z.1 ?_
    refine w_zle 62 l_188_4 (by decide) (fun _ => ?_) (fun hx => absurd hx (by decide))
    refine w_vr l_188_62 ?_
    exact ⟨_, _, rfl, rfl, rfl, Z, Y, f⟩
  | cons x K ih =>
    intro C J Z Y hb hl3 f
    have hl := kNO (x :: K)
    have hl2 := kNO K
    rw [List.length_cons] at hl
    have zt : J (s + 22) K.length = ((x : Nat) : Int) := by
      rw [Z.2.2 K.length (by rw [List.length_cons]; omega), show (x :: K).length - 1 - K.length = 0 by rw [List.length_cons]; omega]
      rfl
    have hlen : K.length < 300 := by rw [List.length_cons] at hl3; omega
    by_cases hxo : x = 7
    · have hfl : flu 7 (x :: K) C = flu 7 K (C ++ [(7, 0, 0)]) := if_pos hxo
      rw [hfl]
      have hkn : kN (x :: K) = 1 + kN K := by
        show (if x = 9 then 0 else 1) + kN K = _
        rw [if_neg (by omega)]
      refine w_aln l_188_0 rfl ?_
      refine w_gi (((K.length + 1) : Nat) : Int) l_188_1 (oModel_sh hm) Z.1 ?_
      refine w_zle 62 l_188_4 (by decide) (fun hx => absurd hx (by omega)) (fun _ => ?_)
      refine w_aln l_188_7 rfl ?_
      refine w_gr l_188_8 (oModel_sh hm) (oModel_r40 hm) ?_
      refine w_aln l_188_11 rfl ?_
      refine w_gi (((K.length + 1) : Nat) : Int) l_188_12 (oModel_sh hm) Z.1 ?_
      refine w_ic l_188_15 (by decide) ?_
      refine w_sub ((K.length : Nat) : Int) l_188_16 (by unfold wr; omega) ?_
      refine w_ia K.length ((x : Nat) : Int) l_188_17 (oModel_s40 hm) rfl (by omega) zt ?_
      refine w_iln l_188_18 rfl ?_
      refine w_cne 62 l_188_19 (by decide) (fun hx => absurd hx (by omega)) (fun _ => ?_)
      refine w_aln l_188_22 rfl ?_
      refine w_dup l_188_23 rfl ?_
      refine w_gi (((K.length + 1) : Nat) : Int) l_188_24 (oModel_sh hm) Z.1 ?_
      refine w_ic l_188_27 (by decide) ?_
      refine w_sub ((K.length : Nat) : Int) l_188_28 (by unfold wr; omega) ?_
      refine w_pi l_188_29 (oModel_sh hm) ?_
      refine w_aln l_188_32 rfl ?_
      refine w_iln l_188_33 rfl ?_
      refine w_ic l_188_34 (by decide) ?_
      refine w_ic l_188_35 (by decide) ?_
      refine q_iv [vi 7, vi 0, vi 0] [] l_188_36 rfl rfl (Nat.le_of_ble_eq_true rfl) (by rw [mx_186]; exact Nat.le_of_ble_eq_true rfl) (by rw [mt_186]; exact oModel_sh hm) (by rw [mt_186]; decide) (by rw [rk_186]; decide) (s_186 hm (k := tot + C.length) ((up_nj (by decide)).trans Y.1.2.2.2.2.2) (by omega)) ?_
      refine w_aln l_188_39 rfl ?_
      refine w_dup l_188_40 rfl ?_
      refine w_gi (((kW (x :: K)) : Nat) : Int) l_188_41 (oModel_sh hm) ((up_nj (by omega)).trans ((up_no (by omega)).trans ((up_no (by omega)).trans ((up_no (by omega)).trans ((up_nj (by omega)).trans (Z.2.1)))))) ?_
      refine w_iln l_188_44 rfl ?_
      refine w_bp l_188_45 (by decide) ?_
      refine w_cne 54 l_188_47 (by decide) (fun _ => ?_) (fun hx => absurd hx (by decide))
      refine w_ic l_188_54 (by decide) ?_
      refine w_sub (((kW K) : Nat) : Int) l_188_55 (by have := kW_le K; rw [hxo, kW_7]; unfold wr; omega) ?_
      refine w_pi l_188_56 (oModel_sh hm) ?_
      refine w_go 0 l_188_59 (by decide) ?_
      refine ih (C ++ [(7, 0, 0)]) _ ⟨?_, ?_, fun j hj => ?_⟩ ?_ (by rw [List.length_append, List.length_singleton]; omega) (by omega) ?_
      · repeat (first | exact up_eq | rw [up_nj (by decide)] | rw [up_no (by omega)])
      · repeat (first | exact up_eq | rw [up_nj (by decide)] | rw [up_no (by omega)])
      · repeat (rw [up_no (by omega)])
        rw [Z.2.2 j (by rw [List.length_cons]; omega)]
        rw [show (x :: K).length - 1 - j = (K.length - 1 - j) + 1 by rw [List.length_cons]; omega]
        rfl
      · exact ((Y.eq (fun w h1 h2 => up_nj (by omega)) (fun j h1 h2 w => up_no (by omega))).emt (7, 0, 0)).eq (fun w h1 h2 => up_nj (by omega)) (fun j h1 h2 w => up_no (by omega))
      · exact (((((f.up (Or.inl ⟨rfl, by decide⟩)).up (Or.inr (Or.inl rfl))).up (Or.inr (Or.inl rfl))).up (Or.inr (Or.inl rfl))).up (Or.inl ⟨rfl, by decide⟩)).up (Or.inl ⟨rfl, by decide⟩)
    · have hfl : flu 7 (x :: K) C = (x :: K, C) := if_neg hxo
      rw [hfl]
      refine w_aln l_188_0 rfl ?_
      refine w_gi (((K.length + 1) : Nat) : Int) l_188_1 (oModel_sh hm) Z.1 ?_
      refine w_zle 62 l_188_4 (by decide) (fun hx => absurd hx (by omega)) (fun _ => ?_)
      refine w_aln l_188_7 rfl ?_
      refine w_gr l_188_8 (oModel_sh hm) (oModel_r40 hm) ?_
      refine w_aln l_188_11 rfl ?_
      refine w_gi (((K.length + 1) : Nat) : Int) l_188_12 (oModel_sh hm) Z.1 ?_
      refine w_ic l_188_15 (by decide) ?_
      refine w_sub ((K.length : Nat) : Int) l_188_16 (by unfold wr; omega) ?_
      refine w_ia K.length ((x : Nat) : Int) l_188_17 (oModel_s40 hm) rfl (by omega) zt ?_
      refine w_iln l_188_18 rfl ?_
      refine w_cne 62 l_188_19 (by decide) (fun _ => ?_) (fun hx => absurd hx (by omega))
      refine w_vr l_188_62 ?_
      exact ⟨_, _, rfl, rfl, rfl, Z, Y, f⟩

theorem s_188_8 {I0 : Ix} (hm : oModel S T s) {P : Ps} {tot : Nat} : ∀ K C J, mPi J s K → mSU J s P C tot → tot + C.length + kN K ≤ 300 → K.length ≤ 300 → fQ I0 J s → WP xs 188 1 0 [vr s, vi 8] [] (S, J, T, cc, zz) (RP S T cc zz (fun v I' => v = none ∧ mPi I' s (flu 8 K C).1 ∧ mSU I' s P (flu 8 K C).2 tot ∧ fQ I0 I' s)) := by
  intro K
  induction K with
  | nil =>
    intro C J Z Y hb hl3 f
    refine w_aln l_188_0 rfl ?_
    refine w_gi 0 l_188_1 (oModel_sh hm) Z.1 ?_
    refine w_zle 62 l_188_4 (by decide) (fun _ => ?_) (fun hx => absurd hx (by decide))
    refine w_vr l_188_62 ?_
    exact ⟨_, _, rfl, rfl, rfl, Z, Y, f⟩
  | cons x K ih =>
    intro C J Z Y hb hl3 f
    have hl := kNO (x :: K)
    have hl2 := kNO K
    rw [List.length_cons] at hl
    have zt : J (s + 22) K.length = ((x : Nat) : Int) := by
      rw [Z.2.2 K.length (by rw [List.length_cons]; omega), show (x :: K).length - 1 - K.length = 0 by rw [List.length_cons]; omega]
      rfl
    have hlen : K.length < 300 := by rw [List.length_cons] at hl3; omega
    by_cases hxo : x = 8
    · have hfl : flu 8 (x :: K) C = flu 8 K (C ++ [(8, 0, 0)]) := if_pos hxo
      rw [hfl]
      have hkn : kN (x :: K) = 1 + kN K := by
        show (if x = 9 then 0 else 1) + kN K = _
        rw [if_neg (by omega)]
      refine w_aln l_188_0 rfl ?_
      refine w_gi (((K.length + 1) : Nat) : Int) l_188_1 (oModel_sh hm) Z.1 ?_
      refine w_zle 62 l_188_4 (by decide) (fun hx => absurd hx (by omega)) (fun _ => ?_)
      refine w_aln l_188_7 rfl ?_
      refine w_gr l_188_8 (oModel_sh hm) (oModel_r40 hm) ?_
      refine w_aln l_188_11 rfl ?_
      refine w_gi (((K.length + 1) : Nat) : Int) l_188_12 (oModel_sh hm) Z.1 ?_
      refine w_ic l_188_15 (by decide) ?_
      refine w_sub ((K.length : Nat) : Int) l_188_16 (by unfold wr; omega) ?_
      refine w_ia K.length ((x : Nat) : Int) l_188_17 (oModel_s40 hm) rfl (by omega) zt ?_
      refine w_iln l_188_18 rfl ?_
      refine w_cne 62 l_188_19 (by decide) (fun hx => absurd hx (by omega)) (fun _ => ?_)
      refine w_aln l_188_22 rfl ?_
      refine w_dup l_188_23 rfl ?_
      refine w_gi (((K.length + 1) : Nat) : Int) l_188_24 (oModel_sh hm) Z.1 ?_
      refine w_ic l_188_27 (by decide) ?_
      refine w_sub ((K.length : Nat) : Int) l_188_28 (by unfold wr; omega) ?_
      refine w_pi l_188_29 (oModel_sh hm) ?_
      refine w_aln l_188_32 rfl ?_
      refine w_iln l_188_33 rfl ?_
      refine w_ic l_188_34 (by decide) ?_
      refine w_ic l_188_35 (by decide) ?_
      refine q_iv [vi 8, vi 0, vi 0] [] l_188_36 rfl rfl (Nat.le_of_ble_eq_true rfl) (by rw [mx_186]; exact Nat.le_of_ble_eq_true rfl) (by rw [mt_186]; exact oModel_sh hm) (by rw [mt_186]; decide) (by rw [rk_186]; decide) (s_186 hm (k := tot + C.length) ((up_nj (by decide)).trans Y.1.2.2.2.2.2) (by omega)) ?_
      refine w_aln l_188_39 rfl ?_
      refine w_dup l_188_40 rfl ?_
      refine w_gi (((kW (x :: K)) : Nat) : Int) l_188_41 (oModel_sh hm) ((up_nj (by omega)).trans ((up_no (by omega)).trans ((up_no (by omega)).trans ((up_no (by omega)).trans ((up_nj (by omega)).trans (Z.2.1)))))) ?_
      refine w_iln l_188_44 rfl ?_
      refine w_bp l_188_45 (by decide) ?_
      refine w_cne 54 l_188_47 (by decide) (fun _ => ?_) (fun hx => absurd hx (by decide))
      refine w_ic l_188_54 (by decide) ?_
      refine w_sub (((kW K) : Nat) : Int) l_188_55 (by have := kW_le K; rw [hxo, kW_8]; unfold wr; omega) ?_
      refine w_pi l_188_56 (oModel_sh hm) ?_
      refine w_go 0 l_188_59 (by decide) ?_
      refine ih (C ++ [(8, 0, 0)]) _ ⟨?_, ?_, fun j hj => ?_⟩ ?_ (by rw [List.length_append, List.length_singleton]; omega) (by omega) ?_
      · repeat (first | exact up_eq | rw [up_nj (by decide)] | rw [up_no (by omega)])
      · repeat (first | exact up_eq | rw [up_nj (by decide)] | rw [up_no (by omega)])
      · repeat (rw [up_no (by omega)])
        rw [Z.2.2 j (by rw [List.length_cons]; omega)]
        rw [show (x :: K).length - 1 - j = (K.length - 1 - j) + 1 by rw [List.length_cons]; omega]
        rfl
      · exact ((Y.eq (fun w h1 h2 => up_nj (by omega)) (fun j h1 h2 w => up_no (by omega))).emt (8, 0, 0)).eq (fun w h1 h2 => up_nj (by omega)) (fun j h1 h2 w => up_no (by omega))
      · exact (((((f.up (Or.inl ⟨rfl, by decide⟩)).up (Or.inr (Or.inl rfl))).up (Or.inr (Or.inl rfl))).up (Or.inr (Or.inl rfl))).up (Or.inl ⟨rfl, by decide⟩)).up (Or.inl ⟨rfl, by decide⟩)
    · have hfl : flu 8 (x :: K) C = (x :: K, C) := if_neg hxo
      rw [hfl]
      refine w_aln l_188_0 rfl ?_
      refine w_gi (((K.length + 1) : Nat) : Int) l_188_1 (oModel_sh hm) Z.1 ?_
      refine w_zle 62 l_188_4 (by decide) (fun hx => absurd hx (by omega)) (fun _ => ?_)
      refine w_aln l_188_7 rfl ?_
      refine w_gr l_188_8 (oModel_sh hm) (oModel_r40 hm) ?_
      refine w_aln l_188_11 rfl ?_
      refine w_gi (((K.length + 1) : Nat) : Int) l_188_12 (oModel_sh hm) Z.1 ?_
      refine w_ic l_188_15 (by decide) ?_
      refine w_sub ((K.length : Nat) : Int) l_188_16 (by unfold wr; omega) ?_
      refine w_ia K.length ((x : Nat) : Int) l_188_17 (oModel_s40 hm) rfl (by omega) zt ?_
      refine w_iln l_188_18 rfl ?_
      refine w_cne 62 l_188_19 (by decide) (fun _ => ?_) (fun hx => absurd hx (by omega))
      refine w_vr l_188_62 ?_
      exact ⟨_, _, rfl, rfl, rfl, Z, Y, f⟩

end RFZ
