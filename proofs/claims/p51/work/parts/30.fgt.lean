/-! the class: a state forgets a port -/
/-- the first k places of the row a that are p are -1 -/
def fgt (I : Ix) (a k : Nat) (p : Int) : Ix := fun x y => if x = a ∧ y < k ∧ I x y = p then -1 else I x y
theorem fgt_0 (I : Ix) (a : Nat) (p : Int) : fgt I a 0 p = I := by
  funext x y; unfold fgt; rw [if_neg (by omega)]
theorem fgt_k {I : Ix} {a k : Nat} {p : Int} : fgt I a k p a k = I a k := by
  unfold fgt; rw [if_neg (by omega)]
theorem fgt_s1 {I : Ix} {a k : Nat} {p : Int} (h : I a k = p) : up (fgt I a k p) a k (-1) = fgt I a (k + 1) p := by
  funext x y; unfold up fgt
  by_cases h1 : x = a ∧ y = k
  · rw [if_pos h1, if_pos ⟨h1.1, by omega, by rw [h1.1, h1.2]; exact h⟩]
  · rw [if_neg h1]
    by_cases h2 : x = a ∧ y < k ∧ I x y = p
    · rw [if_pos h2, if_pos ⟨h2.1, by omega, h2.2.2⟩]
    · rw [if_neg h2, if_neg (fun q => h2 ⟨q.1, by omega, q.2.2⟩)]
theorem fgt_s0 {I : Ix} {a k : Nat} {p : Int} (h : I a k ≠ p) : fgt I a (k + 1) p = fgt I a k p := by
  funext x y; unfold fgt
  by_cases h1 : x = a ∧ y = k
  · rw [if_neg (fun q => h (by rw [h1.1, h1.2] at q; exact q.2.2)), if_neg (by omega)]
  · by_cases h2 : x = a ∧ y < k ∧ I x y = p
    · rw [if_pos h2, if_pos ⟨h2.1, by omega, h2.2.2⟩]
    · rw [if_neg h2, if_neg (fun q => h2 ⟨q.1, by omega, q.2.2⟩)]
section FGT
variable {xs : List Int} {S : List (Nat × Nat)} {T : Nat → Nat → Nat} {cc zz s : Nat}

theorem mx_89 : mxl 89 = 3 := by decide +kernel
theorem mt_89 : mtc 89 = 7 := by decide +kernel
theorem rk_89 (as : List AV) : rkA 89 as = 0 := rfl
theorem l_89_0 : look 89 0 = some (.iconst 0, 1, 0, 0, 0, 0) := by decide +kernel
theorem l_89_1 : look 89 1 = some (.istore_n 2, 1, 0, 0, 0, 0) := by decide +kernel
theorem l_89_2 : look 89 2 = some (.iload_n 2, 1, 0, 0, 0, 0) := by decide +kernel
theorem l_89_3 : look 89 3 = some (.bipush 64, 2, 0, 0, 0, 0) := by decide +kernel
theorem l_89_5 : look 89 5 = some (.if_icmp .ge 26, 3, 0, 0, 0, 0) := by decide +kernel
theorem l_89_8 : look 89 8 = some (.aload_n 0, 1, 0, 0, 0, 0) := by decide +kernel
theorem l_89_9 : look 89 9 = some (.getfield 27, 3, 7, 7, 2, 586) := by decide +kernel
theorem l_89_12 : look 89 12 = some (.iload_n 2, 1, 0, 0, 0, 0) := by decide +kernel
theorem l_89_13 : look 89 13 = some (.iaload, 1, 0, 0, 0, 0) := by decide +kernel
theorem l_89_14 : look 89 14 = some (.iload_n 1, 1, 0, 0, 0, 0) := by decide +kernel
theorem l_89_15 : look 89 15 = some (.if_icmp .ne 10, 3, 0, 0, 0, 0) := by decide +kernel
theorem l_89_18 : look 89 18 = some (.aload_n 0, 1, 0, 0, 0, 0) := by decide +kernel
theorem l_89_19 : look 89 19 = some (.getfield 27, 3, 7, 7, 2, 586) := by decide +kernel
theorem l_89_22 : look 89 22 = some (.iload_n 2, 1, 0, 0, 0, 0) := by decide +kernel
theorem l_89_23 : look 89 23 = some (.iconst (-1), 1, 0, 0, 0, 0) := by decide +kernel
theorem l_89_24 : look 89 24 = some (.iastore, 1, 0, 0, 0, 0) := by decide +kernel
theorem l_89_25 : look 89 25 = some (.iinc 2 1, 3, 0, 0, 0, 0) := by decide +kernel
theorem l_89_28 : look 89 28 = some (.goto (-26), 3, 0, 0, 0, 0) := by decide +kernel
theorem l_89_31 : look 89 31 = some (.return_, 1, 0, 0, 0, 0) := by decide +kernel
theorem lp_89 {I : Ix} (h : oState S T s) {p : Nat} (hp : p < 4) : ∀ d k, k + d = 64 → WP xs 89 0 2 [vr s, vi ((p : Nat) : Int), vi ((k : Nat) : Int)] [] (S, fgt I (s + 6) k ((p : Nat) : Int), T, cc, zz) (FN none (S, fgt I (s + 6) 64 ((p : Nat) : Int), T, cc, zz)) := by
  intro d
  induction d with
  | zero =>
    intro k hk
    refine w_iln l_89_2 rfl ?_
    refine w_bp l_89_3 (by decide) ?_
    refine w_cge 31 l_89_5 (by decide) (fun _ => ?_) (fun hx => absurd hx (by omega))
    refine w_vr l_89_31 ?_
    have e9 : k = 64 := by omega
    rw [e9]
    exact ⟨rfl, rfl⟩
  | succ d ih =>
    intro k hk
    refine w_iln l_89_2 rfl ?_
    refine w_bp l_89_3 (by decide) ?_
    refine w_cge 31 l_89_5 (by decide) (fun hx => absurd hx (by omega)) (fun _ => ?_)
    refine w_aln l_89_8 rfl ?_
    refine w_gr l_89_9 (oState_sh h) (oState_r7 h) ?_
    refine w_iln l_89_12 rfl ?_
    refine w_ia k (I (s + 6) k) l_89_13 (oState_s7 h) rfl (by omega) fgt_k ?_
    refine w_iln l_89_14 rfl ?_
    refine w_cne 25 l_89_15 (by decide) (fun h1 => ?_) (fun h1 => ?_)
    · skip
      refine w_inc ((k + 1 : Nat) : Int) l_89_25 rfl rfl (by unfold wr; omega) ?_
      refine w_go 2 l_89_28 (by decide) ?_
      have e9 := fgt_s0 (I := I) (a := s + 6) (k := k) (p := ((p : Nat) : Int)) (by omega)
      have e8 := ih (k + 1) (by omega)
      rw [e9] at e8
      exact e8
    · skip
      refine w_aln l_89_18 rfl ?_
      refine w_gr l_89_19 (oState_sh h) (oState_r7 h) ?_
      refine w_iln l_89_22 rfl ?_
      refine w_ic l_89_23 (by decide) ?_
      refine w_iS k l_89_24 (oState_s7 h) rfl (by omega) ?_
      refine w_inc ((k + 1 : Nat) : Int) l_89_25 rfl rfl (by unfold wr; omega) ?_
      refine w_go 2 l_89_28 (by decide) ?_
      have e9 := fgt_s1 (I := I) (a := s + 6) (k := k) (p := ((p : Nat) : Int)) (by omega)
      rw [e9]
      exact ih (k + 1) (by omega)
theorem s_89 {I : Ix} (h : oState S T s) {p : Nat} (hp : p < 4) : CL xs 89 [vr s, vi ((p : Nat) : Int)] (S, I, T, cc, zz) (FN none (S, fgt I (s + 6) 64 ((p : Nat) : Int), T, cc, zz)) := by
  refine CL_start (r := 0) (ls := [vr s, vi ((p : Nat) : Int), vs 2]) (rk_89 _) rfl ?_
  refine w_ic l_89_0 (by decide) ?_
  refine w_isn l_89_1 ⟨Nat.le_of_ble_eq_true rfl, rfl⟩ ?_
  have e9 := lp_89 (xs := xs) (cc := cc) (zz := zz) (I := I) h hp 64 0 (by omega)
  rw [fgt_0] at e9
  exact e9

end FGT
