/-! the class: a run's looks at a queue -/
/-- the class's history: packets of h -/
def cH (I : Ix) (x : Nat) (h : Hi) (a : Nat → Nat) (ne np : Nat) : Prop := I x 0 = (ne : Int) ∧ I x 1 = (np : Int) ∧ ne ≤ 120 ∧ np ≤ ne ∧ (∀ e, e < ne → I (x + 1) e = (hKind h e : Int) ∧ hKind h e ≤ 3 ∧ (hKind h e ≠ 1 → I (x + 2) e = (hPort h e : Int) ∧ hPort h e < 4) ∧ (hKind h e = 0 → I (x + 3) e = (hPk h e : Int) ∧ hPk h e < np)) ∧
  ∀ k, k < np → I (x + 4) k = (a k : Int) ∧ a k < ne ∧ I (x + 5) k = (hSrc h k : Int) ∧ I (x + 6) k = (hTgt h k : Int) ∧ I (x + 7) k = (hSiz h k : Int) ∧ I (x + 8) k = (hRnk h k : Int)
theorem cH.fr {I J : Ix} {x lo hi : Nat} {h : Hi} {a : Nat → Nat} {ne np : Nat} (H : cH I x h a ne np) (f : fr I J lo hi) (d : hi < x ∨ x + 9 < lo) : cH J x h a ne np := by
  obtain ⟨h1, h2, h3, h4, h5, h6⟩ := H
  have e : ∀ j, j ≤ 9 → ∀ y, J (x + j) y = I (x + j) y := fun j hj y => f (x + j) (by omega) y
  have e0 : ∀ y, J x y = I x y := fun y => f x (by omega) y
  refine ⟨by rw [e0]; exact h1, by rw [e0]; exact h2, h3, h4, fun k hk => ?_, fun k hk => ?_⟩
  · rw [e 1 (by decide), e 2 (by decide), e 3 (by decide)]; exact h5 k hk
  · rw [e 4 (by decide), e 5 (by decide), e 6 (by decide), e 7 (by decide), e 8 (by decide)]; exact h6 k hk
def lowK (f : Nat → Nat) (k : Nat) : Nat := if k = 0 then 3 else f (loK f k)
theorem lowK_gt {f : Nat → Nat} {k : Nat} (h3 : f k ≤ 3) (h : lowK f k < f k) : loK f (k + 1) = loK f k ∧ lowK f (k + 1) = lowK f k := by
  have hk : k ≠ 0 := fun e => by subst e; unfold lowK at h; rw [if_pos rfl] at h; omega
  unfold lowK at h ⊢
  rw [if_neg hk] at h
  have e : loK f (k + 1) = loK f k := by
    show (if k = 0 then 0 else if f k ≤ f (loK f k) then k else loK f k) = _
    rw [if_neg hk, if_neg (by omega)]
  rw [if_neg (by omega), if_neg hk, e]
  exact ⟨rfl, rfl⟩
theorem lowK_le {f : Nat → Nat} {k : Nat} (h : f k ≤ lowK f k) : loK f (k + 1) = k ∧ lowK f (k + 1) = f k := by
  have e : loK f (k + 1) = k := by
    show (if k = 0 then 0 else if f k ≤ f (loK f k) then k else loK f k) = _
    by_cases hk : k = 0
    · rw [if_pos hk, hk]
    · unfold lowK at h
      rw [if_neg hk] at h
      rw [if_neg hk, if_pos h]
  unfold lowK
  rw [if_neg (by omega), e]
  exact ⟨rfl, rfl⟩
def hghK (f : Nat → Nat) (k : Nat) : Int := if k = 0 then -1 else (f (hiK f k) : Int)
theorem hghK_gt {f : Nat → Nat} {k : Nat} (h : hghK f k < (f k : Int)) : hiK f (k + 1) = k ∧ hghK f (k + 1) = (f k : Int) := by
  have e : hiK f (k + 1) = k := by
    show (if k = 0 then 0 else if f (hiK f k) < f k then k else hiK f k) = _
    by_cases hk : k = 0
    · rw [if_pos hk, hk]
    · unfold hghK at h
      rw [if_neg hk] at h
      rw [if_neg hk, if_pos (by omega)]
  unfold hghK
  rw [if_neg (by omega), e]
  exact ⟨rfl, rfl⟩
theorem hghK_le {f : Nat → Nat} {k : Nat} (h : (f k : Int) ≤ hghK f k) : hiK f (k + 1) = hiK f k ∧ hghK f (k + 1) = hghK f k := by
  have hk : k ≠ 0 := fun e => by subst e; unfold hghK at h; rw [if_pos rfl] at h; omega
  unfold hghK at h ⊢
  rw [if_neg hk] at h
  have e : hiK f (k + 1) = hiK f k := by
    show (if k = 0 then 0 else if f (hiK f k) < f k then k else hiK f k) = _
    rw [if_neg hk, if_neg (by omega)]
  rw [if_neg (by omega), if_neg hk, e]
  exact ⟨rfl, rfl⟩
/-- the units of the first k of a queue whose number is below z -/
def blwK (h : Hi) (q : List Cp) (z : Nat) : Nat → Nat
  | 0 => 0
  | k + 1 => if rkQ h q k < z then blwK h q z k + hSiz h (q.getD k (0, 0)).1 else blwK h q z k
theorem blwK_le {h : Hi} (ok : okHi h) (q : List Cp) (z : Nat) : ∀ k, blwK h q z k ≤ 9 * k
  | 0 => Nat.le_refl _
  | k + 1 => by
    have h1 := blwK_le ok q z k
    have h2 := (ok (q.getD k (0, 0)).1).1
    unfold blwK
    split <;> omega
theorem blw_tk {h : Hi} {q : List Cp} {z : Nat} : ∀ k, k ≤ q.length → blwK h q z k = belowQ h z (q.take k)
  | 0, _ => by rw [List.take_zero]; rfl
  | k + 1, hk => by
    have h1 := blw_tk (h := h) (q := q) (z := z) k (by omega)
    have hg : q[k]? = some (q.getD k (0, 0)) := by
      rw [List.getD_eq_getElem?_getD, List.getElem?_eq_getElem (by omega)]; rfl
    rw [List.take_succ, hg]
    unfold blwK
    rw [h1]
    unfold belowQ
    rw [List.map_append, List.sum_append]
    show _ = _ + (([q.getD k (0, 0)] : List Cp).map _).sum
    rw [List.map_cons, List.map_nil, List.sum_cons, List.sum_nil]
    show (if hRnk h (q.getD k (0, 0)).1 < z then _ else _) = _
    split <;> simp
theorem blw_len {h : Hi} {q : List Cp} {z : Nat} : blwK h q z q.length = belowQ h z q := by
  rw [blw_tk _ (Nat.le_refl _), List.take_length]
section RUN
variable {xs : List Int} {S : List (Nat × Nat)} {T : Nat → Nat → Nat} {cc zz s x : Nat}

theorem s_6r {I : Ix} {h : Hi} {a : Nat → Nat} {ne np k : Nat} (H : cH I x h a ne np) (o : oHistory S T x) (hk : k < np) : CL xs 6 [vr x, vi ((k : Nat) : Int)] (S, I, T, cc, zz) (FN (some (vi ((hRnk h k : Nat) : Int))) (S, I, T, cc, zz)) := by
  have h9 := s_6 (xs := xs) (cc := cc) (zz := zz) o H.2.1 hk (by have := H.2.2.1; have := H.2.2.2.1; omega)
  rw [(H.2.2.2.2.2 k hk).2.2.2.2.2] at h9
  exact h9
theorem s_5r {I : Ix} {h : Hi} {a : Nat → Nat} {ne np k : Nat} (H : cH I x h a ne np) (o : oHistory S T x) (hk : k < np) : CL xs 5 [vr x, vi ((k : Nat) : Int)] (S, I, T, cc, zz) (FN (some (vi ((hSiz h k : Nat) : Int))) (S, I, T, cc, zz)) := by
  have h9 := s_5 (xs := xs) (cc := cc) (zz := zz) o H.2.1 hk (by have := H.2.2.1; have := H.2.2.2.1; omega)
  rw [(H.2.2.2.2.2 k hk).2.2.2.2.1] at h9
  exact h9

theorem mx_58 : mxl 58 = 6 := by decide +kernel
theorem mt_58 : mtc 58 = 5 := by decide +kernel
theorem rk_58 (as : List AV) : rkA 58 as = 1 := rfl
theorem l_58_0 : look 58 0 = some (.iconst 0, 1, 0, 0, 0, 0) := by decide +kernel
theorem l_58_1 : look 58 1 = some (.istore_n 2, 1, 0, 0, 0, 0) := by decide +kernel
theorem l_58_2 : look 58 2 = some (.iconst 3, 1, 0, 0, 0, 0) := by decide +kernel
theorem l_58_3 : look 58 3 = some (.istore_n 3, 1, 0, 0, 0, 0) := by decide +kernel
theorem l_58_4 : look 58 4 = some (.iconst 0, 1, 0, 0, 0, 0) := by decide +kernel
theorem l_58_5 : look 58 5 = some (.istore 4, 2, 0, 0, 0, 0) := by decide +kernel
theorem l_58_7 : look 58 7 = some (.iload 4, 2, 0, 0, 0, 0) := by decide +kernel
theorem l_58_9 : look 58 9 = some (.aload_n 0, 1, 0, 0, 0, 0) := by decide +kernel
theorem l_58_10 : look 58 10 = some (.getfield 21, 3, 5, 1, 2, 636) := by decide +kernel
theorem l_58_13 : look 58 13 = some (.getfield 160, 3, 7, 4, 2, 582) := by decide +kernel
theorem l_58_16 : look 58 16 = some (.iload_n 1, 1, 0, 0, 0, 0) := by decide +kernel
theorem l_58_17 : look 58 17 = some (.iaload, 1, 0, 0, 0, 0) := by decide +kernel
theorem l_58_18 : look 58 18 = some (.if_icmp .ge 40, 3, 0, 0, 0, 0) := by decide +kernel
theorem l_58_21 : look 58 21 = some (.aload_n 0, 1, 0, 0, 0, 0) := by decide +kernel
theorem l_58_22 : look 58 22 = some (.getfield 32, 3, 5, 3, 2, 640) := by decide +kernel
theorem l_58_25 : look 58 25 = some (.aload_n 0, 1, 0, 0, 0, 0) := by decide +kernel
theorem l_58_26 : look 58 26 = some (.getfield 21, 3, 5, 1, 2, 636) := by decide +kernel
theorem l_58_29 : look 58 29 = some (.iload_n 1, 1, 0, 0, 0, 0) := by decide +kernel
theorem l_58_30 : look 58 30 = some (.iload 4, 2, 0, 0, 0, 0) := by decide +kernel
theorem l_58_32 : look 58 32 = some (.invokevirtual 176, 3, 84, 3, 0, 1323) := by decide +kernel
theorem l_58_35 : look 58 35 = some (.invokevirtual 154, 3, 6, 2, 0, 1315) := by decide +kernel
theorem l_58_38 : look 58 38 = some (.istore 5, 2, 0, 0, 0, 0) := by decide +kernel
theorem l_58_40 : look 58 40 = some (.iload 5, 2, 0, 0, 0, 0) := by decide +kernel
theorem l_58_42 : look 58 42 = some (.iload_n 3, 1, 0, 0, 0, 0) := by decide +kernel
theorem l_58_43 : look 58 43 = some (.if_icmp .gt 9, 3, 0, 0, 0, 0) := by decide +kernel
theorem l_58_46 : look 58 46 = some (.iload 5, 2, 0, 0, 0, 0) := by decide +kernel
theorem l_58_48 : look 58 48 = some (.istore_n 3, 1, 0, 0, 0, 0) := by decide +kernel
theorem l_58_49 : look 58 49 = some (.iload 4, 2, 0, 0, 0, 0) := by decide +kernel
theorem l_58_51 : look 58 51 = some (.istore_n 2, 1, 0, 0, 0, 0) := by decide +kernel
theorem l_58_52 : look 58 52 = some (.iinc 4 1, 3, 0, 0, 0, 0) := by decide +kernel
theorem l_58_55 : look 58 55 = some (.goto (-48), 3, 0, 0, 0, 0) := by decide +kernel
theorem l_58_58 : look 58 58 = some (.iload_n 2, 1, 0, 0, 0, 0) := by decide +kernel
theorem l_58_59 : look 58 59 = some (.ireturn, 1, 0, 0, 0, 0) := by decide +kernel
theorem lp_58 {I : Ix} (o : oRun S T s x) {h : Hi} {l : Li} {A : Sa} {a : Nat → Nat} {ne np p : Nat} (H : cH I x h a ne np) (ok : okHi h) (hA : cS I (s + 6) h l A) (hp : p < 4) (hq : ∀ k, k < (sQ A p).length → ((sQ A p).getD k (0, 0)).1 < np) : ∀ d k, k + d = (sQ A p).length → ∀ v5 : AV, WP xs 58 1 7 [vr s, vi ((p : Nat) : Int), vi (((loK (rkQ h (sQ A p)) k) : Nat) : Int), vi (((lowK (rkQ h (sQ A p)) k) : Nat) : Int), vi ((k : Nat) : Int), v5] [] (S, I, T, cc, zz) (FN (some (vi ((loK (rkQ h (sQ A p)) (sQ A p).length : Nat) : Int))) (S, I, T, cc, zz)) := by
  intro d
  have hQ2 := (hA.2.2.2.2.1 p hp).2.1
  induction d with
  | zero =>
    intro k hk v5
    refine w_il l_58_7 rfl ?_
    refine w_aln l_58_9 rfl ?_
    refine w_gr l_58_10 (oRun_sh o) (oRun_r1 o) ?_
    refine w_gr l_58_13 (oState_sh (oRun_o1 o)) (oState_r4 (oRun_o1 o)) ?_
    refine w_iln l_58_16 rfl ?_
    refine w_ia p (((sQ A p).length : Nat) : Int) l_58_17 (oState_s4 (oRun_o1 o)) rfl (by omega) ((hA.2.2.2.2.1 p hp).1) ?_
    refine w_cge 58 l_58_18 (by decide) (fun _ => ?_) (fun hx => absurd hx (by omega))
    refine w_iln l_58_58 rfl ?_
    refine w_ir l_58_59 (Or.inl rfl) ?_
    have e9 : k = (sQ A p).length := by omega
    rw [e9]
    exact ⟨rfl, rfl⟩
  | succ d ih =>
    intro k hk v5
    refine w_il l_58_7 rfl ?_
    refine w_aln l_58_9 rfl ?_
    refine w_gr l_58_10 (oRun_sh o) (oRun_r1 o) ?_
    refine w_gr l_58_13 (oState_sh (oRun_o1 o)) (oState_r4 (oRun_o1 o)) ?_
    refine w_iln l_58_16 rfl ?_
    refine w_ia p (((sQ A p).length : Nat) : Int) l_58_17 (oState_s4 (oRun_o1 o)) rfl (by omega) ((hA.2.2.2.2.1 p hp).1) ?_
    refine w_cge 58 l_58_18 (by decide) (fun hx => absurd hx (by omega)) (fun _ => ?_)
    refine w_aln l_58_21 rfl ?_
    refine w_gr l_58_22 (oRun_sh o) (oRun_r3 o) ?_
    refine w_aln l_58_25 rfl ?_
    refine w_gr l_58_26 (oRun_sh o) (oRun_r1 o) ?_
    refine w_iln l_58_29 rfl ?_
    refine w_il l_58_30 rfl ?_
    refine q_iv [vi ((p : Nat) : Int), vi ((k : Nat) : Int)] [vr x] l_58_32 rfl rfl (Nat.le_of_ble_eq_true rfl) (by rw [mx_84]; exact Nat.le_of_ble_eq_true rfl) (by rw [mt_84]; exact oState_sh (oRun_o1 o)) (by rw [mt_84]; decide) (by rw [rk_84]; decide) (t_packetAt (oRun_o1 o) hA hp (by omega)) ?_
    refine q_iv [vi ((((sQ A p).getD k (0, 0)).1 : Nat) : Int)] [] l_58_35 rfl rfl (Nat.le_of_ble_eq_true rfl) (by rw [mx_6]; exact Nat.le_of_ble_eq_true rfl) (by rw [mt_6]; exact oHistory_sh (oRun_o3 o)) (by rw [mt_6]; decide) (by rw [rk_6]; decide) (s_6r H (oRun_o3 o) (hq k (by omega))) ?_
    refine w_is l_58_38 ⟨Nat.le_of_ble_eq_true rfl, rfl⟩ ?_
    have h39 : rkQ h (sQ A p) k ≤ 3 := (ok _).2.2.1
    refine w_il l_58_40 rfl ?_
    refine w_iln l_58_42 rfl ?_
    refine w_cgt 52 l_58_43 (by decide) (fun h1 => ?_) (fun h1 => ?_)
    · skip
      refine w_inc ((k + 1 : Nat) : Int) l_58_52 rfl rfl (by unfold wr; omega) ?_
      refine w_go 7 l_58_55 (by decide) ?_
      have er : rkQ h (sQ A p) k = hRnk h ((sQ A p).getD k (0, 0)).1 := rfl
      have e9 := lowK_gt (f := rkQ h (sQ A p)) (k := k) h39 (by omega)
      have e8 := ih (k + 1) (by omega) (vi ((rkQ h (sQ A p) k : Nat) : Int))
      rw [e9.1, e9.2] at e8
      exact e8
    · skip
      refine w_il l_58_46 rfl ?_
      refine w_isn l_58_48 ⟨Nat.le_of_ble_eq_true rfl, rfl⟩ ?_
      refine w_il l_58_49 rfl ?_
      refine w_isn l_58_51 ⟨Nat.le_of_ble_eq_true rfl, rfl⟩ ?_
      refine w_inc ((k + 1 : Nat) : Int) l_58_52 rfl rfl (by unfold wr; omega) ?_
      refine w_go 7 l_58_55 (by decide) ?_
      have er : rkQ h (sQ A p) k = hRnk h ((sQ A p).getD k (0, 0)).1 := rfl
      have e9 := lowK_le (f := rkQ h (sQ A p)) (k := k) (by omega)
      have e8 := ih (k + 1) (by omega) (vi ((rkQ h (sQ A p) k : Nat) : Int))
      rw [e9.1, e9.2] at e8
      exact e8
theorem s_58 {I : Ix} (o : oRun S T s x) {h : Hi} {l : Li} {A : Sa} {a : Nat → Nat} {ne np p : Nat} (H : cH I x h a ne np) (ok : okHi h) (hA : cS I (s + 6) h l A) (hp : p < 4) (hq : ∀ k, k < (sQ A p).length → ((sQ A p).getD k (0, 0)).1 < np) : CL xs 58 [vr s, vi ((p : Nat) : Int)] (S, I, T, cc, zz) (FN (some (vi ((loK (rkQ h (sQ A p)) (sQ A p).length : Nat) : Int))) (S, I, T, cc, zz)) := by
  refine CL_start (r := 1) (ls := [vr s, vi ((p : Nat) : Int), vs 2, vs 2, vs 2, vs 2]) (rk_58 _) rfl ?_
  refine w_ic l_58_0 (by decide) ?_
  refine w_isn l_58_1 ⟨Nat.le_of_ble_eq_true rfl, rfl⟩ ?_
  refine w_ic l_58_2 (by decide) ?_
  refine w_isn l_58_3 ⟨Nat.le_of_ble_eq_true rfl, rfl⟩ ?_
  refine w_ic l_58_4 (by decide) ?_
  refine w_is l_58_5 ⟨Nat.le_of_ble_eq_true rfl, rfl⟩ ?_
  exact lp_58 o H ok hA hp hq (sQ A p).length 0 (by omega) _

theorem mx_59 : mxl 59 = 6 := by decide +kernel
theorem mt_59 : mtc 59 = 5 := by decide +kernel
theorem rk_59 (as : List AV) : rkA 59 as = 1 := rfl
theorem l_59_0 : look 59 0 = some (.iconst 0, 1, 0, 0, 0, 0) := by decide +kernel
theorem l_59_1 : look 59 1 = some (.istore_n 2, 1, 0, 0, 0, 0) := by decide +kernel
theorem l_59_2 : look 59 2 = some (.iconst (-1), 1, 0, 0, 0, 0) := by decide +kernel
theorem l_59_3 : look 59 3 = some (.istore_n 3, 1, 0, 0, 0, 0) := by decide +kernel
theorem l_59_4 : look 59 4 = some (.iconst 0, 1, 0, 0, 0, 0) := by decide +kernel
theorem l_59_5 : look 59 5 = some (.istore 4, 2, 0, 0, 0, 0) := by decide +kernel
theorem l_59_7 : look 59 7 = some (.iload 4, 2, 0, 0, 0, 0) := by decide +kernel
theorem l_59_9 : look 59 9 = some (.aload_n 0, 1, 0, 0, 0, 0) := by decide +kernel
theorem l_59_10 : look 59 10 = some (.getfield 21, 3, 5, 1, 2, 636) := by decide +kernel
theorem l_59_13 : look 59 13 = some (.getfield 160, 3, 7, 4, 2, 582) := by decide +kernel
theorem l_59_16 : look 59 16 = some (.iload_n 1, 1, 0, 0, 0, 0) := by decide +kernel
theorem l_59_17 : look 59 17 = some (.iaload, 1, 0, 0, 0, 0) := by decide +kernel
theorem l_59_18 : look 59 18 = some (.if_icmp .ge 40, 3, 0, 0, 0, 0) := by decide +kernel
theorem l_59_21 : look 59 21 = some (.aload_n 0, 1, 0, 0, 0, 0) := by decide +kernel
theorem l_59_22 : look 59 22 = some (.getfield 32, 3, 5, 3, 2, 640) := by decide +kernel
theorem l_59_25 : look 59 25 = some (.aload_n 0, 1, 0, 0, 0, 0) := by decide +kernel
theorem l_59_26 : look 59 26 = some (.getfield 21, 3, 5, 1, 2, 636) := by decide +kernel
theorem l_59_29 : look 59 29 = some (.iload_n 1, 1, 0, 0, 0, 0) := by decide +kernel
theorem l_59_30 : look 59 30 = some (.iload 4, 2, 0, 0, 0, 0) := by decide +kernel
theorem l_59_32 : look 59 32 = some (.invokevirtual 176, 3, 84, 3, 0, 1323) := by decide +kernel
theorem l_59_35 : look 59 35 = some (.invokevirtual 154, 3, 6, 2, 0, 1315) := by decide +kernel
theorem l_59_38 : look 59 38 = some (.istore 5, 2, 0, 0, 0, 0) := by decide +kernel
theorem l_59_40 : look 59 40 = some (.iload 5, 2, 0, 0, 0, 0) := by decide +kernel
theorem l_59_42 : look 59 42 = some (.iload_n 3, 1, 0, 0, 0, 0) := by decide +kernel
theorem l_59_43 : look 59 43 = some (.if_icmp .le 9, 3, 0, 0, 0, 0) := by decide +kernel
theorem l_59_46 : look 59 46 = some (.iload 5, 2, 0, 0, 0, 0) := by decide +kernel
theorem l_59_48 : look 59 48 = some (.istore_n 3, 1, 0, 0, 0, 0) := by decide +kernel
theorem l_59_49 : look 59 49 = some (.iload 4, 2, 0, 0, 0, 0) := by decide +kernel
theorem l_59_51 : look 59 51 = some (.istore_n 2, 1, 0, 0, 0, 0) := by decide +kernel
theorem l_59_52 : look 59 52 = some (.iinc 4 1, 3, 0, 0, 0, 0) := by decide +kernel
theorem l_59_55 : look 59 55 = some (.goto (-48), 3, 0, 0, 0, 0) := by decide +kernel
theorem l_59_58 : look 59 58 = some (.iload_n 2, 1, 0, 0, 0, 0) := by decide +kernel
theorem l_59_59 : look 59 59 = some (.ireturn, 1, 0, 0, 0, 0) := by decide +kernel
theorem lp_59 {I : Ix} (o : oRun S T s x) {h : Hi} {l : Li} {A : Sa} {a : Nat → Nat} {ne np p : Nat} (H : cH I x h a ne np) (ok : okHi h) (hA : cS I (s + 6) h l A) (hp : p < 4) (hq : ∀ k, k < (sQ A p).length → ((sQ A p).getD k (0, 0)).1 < np) : ∀ d k, k + d = (sQ A p).length → ∀ v5 : AV, WP xs 59 1 7 [vr s, vi ((p : Nat) : Int), vi (((hiK (rkQ h (sQ A p)) k) : Nat) : Int), vi (hghK (rkQ h (sQ A p)) k), vi ((k : Nat) : Int), v5] [] (S, I, T, cc, zz) (FN (some (vi ((hiK (rkQ h (sQ A p)) (sQ A p).length : Nat) : Int))) (S, I, T, cc, zz)) := by
  intro d
  have hQ2 := (hA.2.2.2.2.1 p hp).2.1
  induction d with
  | zero =>
    intro k hk v5
    refine w_il l_59_7 rfl ?_
    refine w_aln l_59_9 rfl ?_
    refine w_gr l_59_10 (oRun_sh o) (oRun_r1 o) ?_
    refine w_gr l_59_13 (oState_sh (oRun_o1 o)) (oState_r4 (oRun_o1 o)) ?_
    refine w_iln l_59_16 rfl ?_
    refine w_ia p (((sQ A p).length : Nat) : Int) l_59_17 (oState_s4 (oRun_o1 o)) rfl (by omega) ((hA.2.2.2.2.1 p hp).1) ?_
    refine w_cge 58 l_59_18 (by decide) (fun _ => ?_) (fun hx => absurd hx (by omega))
    refine w_iln l_59_58 rfl ?_
    refine w_ir l_59_59 (Or.inl rfl) ?_
    have e9 : k = (sQ A p).length := by omega
    rw [e9]
    exact ⟨rfl, rfl⟩
  | succ d ih =>
    intro k hk v5
    refine w_il l_59_7 rfl ?_
    refine w_aln l_59_9 rfl ?_
    refine w_gr l_59_10 (oRun_sh o) (oRun_r1 o) ?_
    refine w_gr l_59_13 (oState_sh (oRun_o1 o)) (oState_r4 (oRun_o1 o)) ?_
    refine w_iln l_59_16 rfl ?_
    refine w_ia p (((sQ A p).length : Nat) : Int) l_59_17 (oState_s4 (oRun_o1 o)) rfl (by omega) ((hA.2.2.2.2.1 p hp).1) ?_
    refine w_cge 58 l_59_18 (by decide) (fun hx => absurd hx (by omega)) (fun _ => ?_)
    refine w_aln l_59_21 rfl ?_
    refine w_gr l_59_22 (oRun_sh o) (oRun_r3 o) ?_
    refine w_aln l_59_25 rfl ?_
    refine w_gr l_59_26 (oRun_sh o) (oRun_r1 o) ?_
    refine w_iln l_59_29 rfl ?_
    refine w_il l_59_30 rfl ?_
    refine q_iv [vi ((p : Nat) : Int), vi ((k : Nat) : Int)] [vr x] l_59_32 rfl rfl (Nat.le_of_ble_eq_true rfl) (by rw [mx_84]; exact Nat.le_of_ble_eq_true rfl) (by rw [mt_84]; exact oState_sh (oRun_o1 o)) (by rw [mt_84]; decide) (by rw [rk_84]; decide) (t_packetAt (oRun_o1 o) hA hp (by omega)) ?_
    refine q_iv [vi ((((sQ A p).getD k (0, 0)).1 : Nat) : Int)] [] l_59_35 rfl rfl (Nat.le_of_ble_eq_true rfl) (by rw [mx_6]; exact Nat.le_of_ble_eq_true rfl) (by rw [mt_6]; exact oHistory_sh (oRun_o3 o)) (by rw [mt_6]; decide) (by rw [rk_6]; decide) (s_6r H (oRun_o3 o) (hq k (by omega))) ?_
    refine w_is l_59_38 ⟨Nat.le_of_ble_eq_true rfl, rfl⟩ ?_
    refine w_il l_59_40 rfl ?_
    refine w_iln l_59_42 rfl ?_
    refine w_cle 52 l_59_43 (by decide) (fun h1 => ?_) (fun h1 => ?_)
    · skip
      refine w_inc ((k + 1 : Nat) : Int) l_59_52 rfl rfl (by unfold wr; omega) ?_
      refine w_go 7 l_59_55 (by decide) ?_
      have er : rkQ h (sQ A p) k = hRnk h ((sQ A p).getD k (0, 0)).1 := rfl
      have e9 := hghK_le (f := rkQ h (sQ A p)) (k := k) (by omega)
      have e8 := ih (k + 1) (by omega) (vi ((rkQ h (sQ A p) k : Nat) : Int))
      rw [e9.1, e9.2] at e8
      exact e8
    · skip
      refine w_il l_59_46 rfl ?_
      refine w_isn l_59_48 ⟨Nat.le_of_ble_eq_true rfl, rfl⟩ ?_
      refine w_il l_59_49 rfl ?_
      refine w_isn l_59_51 ⟨Nat.le_of_ble_eq_true rfl, rfl⟩ ?_
      refine w_inc ((k + 1 : Nat) : Int) l_59_52 rfl rfl (by unfold wr; omega) ?_
      refine w_go 7 l_59_55 (by decide) ?_
      have er : rkQ h (sQ A p) k = hRnk h ((sQ A p).getD k (0, 0)).1 := rfl
      have e9 := hghK_gt (f := rkQ h (sQ A p)) (k := k) (by omega)
      have e8 := ih (k + 1) (by omega) (vi ((rkQ h (sQ A p) k : Nat) : Int))
      rw [e9.1, e9.2] at e8
      exact e8
theorem s_59 {I : Ix} (o : oRun S T s x) {h : Hi} {l : Li} {A : Sa} {a : Nat → Nat} {ne np p : Nat} (H : cH I x h a ne np) (ok : okHi h) (hA : cS I (s + 6) h l A) (hp : p < 4) (hq : ∀ k, k < (sQ A p).length → ((sQ A p).getD k (0, 0)).1 < np) : CL xs 59 [vr s, vi ((p : Nat) : Int)] (S, I, T, cc, zz) (FN (some (vi ((hiK (rkQ h (sQ A p)) (sQ A p).length : Nat) : Int))) (S, I, T, cc, zz)) := by
  refine CL_start (r := 1) (ls := [vr s, vi ((p : Nat) : Int), vs 2, vs 2, vs 2, vs 2]) (rk_59 _) rfl ?_
  refine w_ic l_59_0 (by decide) ?_
  refine w_isn l_59_1 ⟨Nat.le_of_ble_eq_true rfl, rfl⟩ ?_
  refine w_ic l_59_2 (by decide) ?_
  refine w_isn l_59_3 ⟨Nat.le_of_ble_eq_true rfl, rfl⟩ ?_
  refine w_ic l_59_4 (by decide) ?_
  refine w_is l_59_5 ⟨Nat.le_of_ble_eq_true rfl, rfl⟩ ?_
  exact lp_59 o H ok hA hp hq (sQ A p).length 0 (by omega) _

theorem mx_57 : mxl 57 = 6 := by decide +kernel
theorem mt_57 : mtc 57 = 5 := by decide +kernel
theorem rk_57 (as : List AV) : rkA 57 as = 1 := rfl
theorem l_57_0 : look 57 0 = some (.iconst 0, 1, 0, 0, 0, 0) := by decide +kernel
theorem l_57_1 : look 57 1 = some (.istore_n 3, 1, 0, 0, 0, 0) := by decide +kernel
theorem l_57_2 : look 57 2 = some (.iconst 0, 1, 0, 0, 0, 0) := by decide +kernel
theorem l_57_3 : look 57 3 = some (.istore 4, 2, 0, 0, 0, 0) := by decide +kernel
theorem l_57_5 : look 57 5 = some (.iload 4, 2, 0, 0, 0, 0) := by decide +kernel
theorem l_57_7 : look 57 7 = some (.aload_n 0, 1, 0, 0, 0, 0) := by decide +kernel
theorem l_57_8 : look 57 8 = some (.getfield 21, 3, 5, 1, 2, 636) := by decide +kernel
theorem l_57_11 : look 57 11 = some (.getfield 160, 3, 7, 4, 2, 582) := by decide +kernel
theorem l_57_14 : look 57 14 = some (.iload_n 2, 1, 0, 0, 0, 0) := by decide +kernel
theorem l_57_15 : look 57 15 = some (.iaload, 1, 0, 0, 0, 0) := by decide +kernel
theorem l_57_16 : look 57 16 = some (.if_icmp .ge 46, 3, 0, 0, 0, 0) := by decide +kernel
theorem l_57_19 : look 57 19 = some (.aload_n 0, 1, 0, 0, 0, 0) := by decide +kernel
theorem l_57_20 : look 57 20 = some (.getfield 21, 3, 5, 1, 2, 636) := by decide +kernel
theorem l_57_23 : look 57 23 = some (.iload_n 2, 1, 0, 0, 0, 0) := by decide +kernel
theorem l_57_24 : look 57 24 = some (.iload 4, 2, 0, 0, 0, 0) := by decide +kernel
theorem l_57_26 : look 57 26 = some (.invokevirtual 176, 3, 84, 3, 0, 1323) := by decide +kernel
theorem l_57_29 : look 57 29 = some (.istore 5, 2, 0, 0, 0, 0) := by decide +kernel
theorem l_57_31 : look 57 31 = some (.aload_n 0, 1, 0, 0, 0, 0) := by decide +kernel
theorem l_57_32 : look 57 32 = some (.getfield 32, 3, 5, 3, 2, 640) := by decide +kernel
theorem l_57_35 : look 57 35 = some (.iload 5, 2, 0, 0, 0, 0) := by decide +kernel
theorem l_57_37 : look 57 37 = some (.invokevirtual 154, 3, 6, 2, 0, 1315) := by decide +kernel
theorem l_57_40 : look 57 40 = some (.iload_n 1, 1, 0, 0, 0, 0) := by decide +kernel
theorem l_57_41 : look 57 41 = some (.if_icmp .ge 15, 3, 0, 0, 0, 0) := by decide +kernel
theorem l_57_44 : look 57 44 = some (.iload_n 3, 1, 0, 0, 0, 0) := by decide +kernel
theorem l_57_45 : look 57 45 = some (.aload_n 0, 1, 0, 0, 0, 0) := by decide +kernel
theorem l_57_46 : look 57 46 = some (.getfield 32, 3, 5, 3, 2, 640) := by decide +kernel
theorem l_57_49 : look 57 49 = some (.iload 5, 2, 0, 0, 0, 0) := by decide +kernel
theorem l_57_51 : look 57 51 = some (.invokevirtual 100, 3, 5, 2, 0, 1287) := by decide +kernel
theorem l_57_54 : look 57 54 = some (.iadd, 1, 0, 0, 0, 0) := by decide +kernel
theorem l_57_55 : look 57 55 = some (.istore_n 3, 1, 0, 0, 0, 0) := by decide +kernel
theorem l_57_56 : look 57 56 = some (.iinc 4 1, 3, 0, 0, 0, 0) := by decide +kernel
theorem l_57_59 : look 57 59 = some (.goto (-54), 3, 0, 0, 0, 0) := by decide +kernel
theorem l_57_62 : look 57 62 = some (.iload_n 3, 1, 0, 0, 0, 0) := by decide +kernel
theorem l_57_63 : look 57 63 = some (.ireturn, 1, 0, 0, 0, 0) := by decide +kernel
theorem lp_57 {I : Ix} (o : oRun S T s x) {h : Hi} {l : Li} {A : Sa} {a : Nat → Nat} {ne np p : Nat} (H : cH I x h a ne np) (ok : okHi h) (hA : cS I (s + 6) h l A) (hp : p < 4) (hq : ∀ k, k < (sQ A p).length → ((sQ A p).getD k (0, 0)).1 < np) {z : Nat} : ∀ d k, k + d = (sQ A p).length → ∀ v5 : AV, WP xs 57 1 5 [vr s, vi ((z : Nat) : Int), vi ((p : Nat) : Int), vi (((blwK h (sQ A p) z k) : Nat) : Int), vi ((k : Nat) : Int), v5] [] (S, I, T, cc, zz) (FN (some (vi ((belowQ h z (sQ A p) : Nat) : Int))) (S, I, T, cc, zz)) := by
  intro d
  have hQ2 := (hA.2.2.2.2.1 p hp).2.1
  induction d with
  | zero =>
    intro k hk v5
    refine w_il l_57_5 rfl ?_
    refine w_aln l_57_7 rfl ?_
    refine w_gr l_57_8 (oRun_sh o) (oRun_r1 o) ?_
    refine w_gr l_57_11 (oState_sh (oRun_o1 o)) (oState_r4 (oRun_o1 o)) ?_
    refine w_iln l_57_14 rfl ?_
    refine w_ia p (((sQ A p).length : Nat) : Int) l_57_15 (oState_s4 (oRun_o1 o)) rfl (by omega) ((hA.2.2.2.2.1 p hp).1) ?_
    refine w_cge 62 l_57_16 (by decide) (fun _ => ?_) (fun hx => absurd hx (by omega))
    refine w_iln l_57_62 rfl ?_
    refine w_ir l_57_63 (Or.inl rfl) ?_
    have e9 : k = (sQ A p).length := by omega
    rw [e9, blw_len]
    exact ⟨rfl, rfl⟩
  | succ d ih =>
    intro k hk v5
    refine w_il l_57_5 rfl ?_
    refine w_aln l_57_7 rfl ?_
    refine w_gr l_57_8 (oRun_sh o) (oRun_r1 o) ?_
    refine w_gr l_57_11 (oState_sh (oRun_o1 o)) (oState_r4 (oRun_o1 o)) ?_
    refine w_iln l_57_14 rfl ?_
    refine w_ia p (((sQ A p).length : Nat) : Int) l_57_15 (oState_s4 (oRun_o1 o)) rfl (by omega) ((hA.2.2.2.2.1 p hp).1) ?_
    refine w_cge 62 l_57_16 (by decide) (fun hx => absurd hx (by omega)) (fun _ => ?_)
    refine w_aln l_57_19 rfl ?_
    refine w_gr l_57_20 (oRun_sh o) (oRun_r1 o) ?_
    refine w_iln l_57_23 rfl ?_
    refine w_il l_57_24 rfl ?_
    refine q_iv [vi ((p : Nat) : Int), vi ((k : Nat) : Int)] [] l_57_26 rfl rfl (Nat.le_of_ble_eq_true rfl) (by rw [mx_84]; exact Nat.le_of_ble_eq_true rfl) (by rw [mt_84]; exact oState_sh (oRun_o1 o)) (by rw [mt_84]; decide) (by rw [rk_84]; decide) (t_packetAt (oRun_o1 o) hA hp (by omega)) ?_
    refine w_is l_57_29 ⟨Nat.le_of_ble_eq_true rfl, rfl⟩ ?_
    refine w_aln l_57_31 rfl ?_
    refine w_gr l_57_32 (oRun_sh o) (oRun_r3 o) ?_
    refine w_il l_57_35 rfl ?_
    refine q_iv [vi ((((sQ A p).getD k (0, 0)).1 : Nat) : Int)] [] l_57_37 rfl rfl (Nat.le_of_ble_eq_true rfl) (by rw [mx_6]; exact Nat.le_of_ble_eq_true rfl) (by rw [mt_6]; exact oHistory_sh (oRun_o3 o)) (by rw [mt_6]; decide) (by rw [rk_6]; decide) (s_6r H (oRun_o3 o) (hq k (by omega))) ?_
    refine w_iln l_57_40 rfl ?_
    refine w_cge 56 l_57_41 (by decide) (fun h1 => ?_) (fun h1 => ?_)
    · skip
      refine w_inc ((k + 1 : Nat) : Int) l_57_56 rfl rfl (by unfold wr; omega) ?_
      refine w_go 5 l_57_59 (by decide) ?_
      have er : rkQ h (sQ A p) k = hRnk h ((sQ A p).getD k (0, 0)).1 := rfl
      have e9 : blwK h (sQ A p) z (k + 1) = _ := if_neg (by omega)
      have e8 := ih (k + 1) (by omega) (vi (((( sQ A p).getD k (0, 0)).1 : Nat) : Int))
      rw [e9] at e8
      exact e8
    · skip
      refine w_iln l_57_44 rfl ?_
      refine w_aln l_57_45 rfl ?_
      refine w_gr l_57_46 (oRun_sh o) (oRun_r3 o) ?_
      refine w_il l_57_49 rfl ?_
      refine q_iv [vi ((((sQ A p).getD k (0, 0)).1 : Nat) : Int)] [vi (((blwK h (sQ A p) z k) : Nat) : Int)] l_57_51 rfl rfl (Nat.le_of_ble_eq_true rfl) (by rw [mx_5]; exact Nat.le_of_ble_eq_true rfl) (by rw [mt_5]; exact oHistory_sh (oRun_o3 o)) (by rw [mt_5]; decide) (by rw [rk_5]; decide) (s_5r H (oRun_o3 o) (hq k (by omega))) ?_
      have h53 : hSiz h ((sQ A p).getD k (0, 0)).1 ≤ 9 := (ok _).1
      have h52 := blwK_le ok (sQ A p) z k
      refine w_add (((blwK h (sQ A p) z k) + (hSiz h ((sQ A p).getD k (0, 0)).1) : Nat) : Int) l_57_54 (by unfold wr; omega) ?_
      refine w_isn l_57_55 ⟨Nat.le_of_ble_eq_true rfl, rfl⟩ ?_
      refine w_inc ((k + 1 : Nat) : Int) l_57_56 rfl rfl (by unfold wr; omega) ?_
      refine w_go 5 l_57_59 (by decide) ?_
      have er : rkQ h (sQ A p) k = hRnk h ((sQ A p).getD k (0, 0)).1 := rfl
      have e9 : blwK h (sQ A p) z (k + 1) = _ := if_pos (by omega)
      have e8 := ih (k + 1) (by omega) (vi (((( sQ A p).getD k (0, 0)).1 : Nat) : Int))
      rw [e9] at e8
      exact e8
theorem s_57 {I : Ix} (o : oRun S T s x) {h : Hi} {l : Li} {A : Sa} {a : Nat → Nat} {ne np p : Nat} (H : cH I x h a ne np) (ok : okHi h) (hA : cS I (s + 6) h l A) (hp : p < 4) (hq : ∀ k, k < (sQ A p).length → ((sQ A p).getD k (0, 0)).1 < np) {z : Nat} : CL xs 57 [vr s, vi ((z : Nat) : Int), vi ((p : Nat) : Int)] (S, I, T, cc, zz) (FN (some (vi ((belowQ h z (sQ A p) : Nat) : Int))) (S, I, T, cc, zz)) := by
  refine CL_start (r := 1) (ls := [vr s, vi ((z : Nat) : Int), vi ((p : Nat) : Int), vs 2, vs 2, vs 2]) (rk_57 _) rfl ?_
  refine w_ic l_57_0 (by decide) ?_
  refine w_isn l_57_1 ⟨Nat.le_of_ble_eq_true rfl, rfl⟩ ?_
  refine w_ic l_57_2 (by decide) ?_
  refine w_is l_57_3 ⟨Nat.le_of_ble_eq_true rfl, rfl⟩ ?_
  exact lp_57 o H ok hA hp hq (sQ A p).length 0 (by omega) _

theorem mx_60 : mxl 60 = 4 := by decide +kernel
theorem mt_60 : mtc 60 = 5 := by decide +kernel
theorem rk_60 (as : List AV) : rkA 60 as = 1 := rfl
theorem l_60_0 : look 60 0 = some (.aload_n 0, 1, 0, 0, 0, 0) := by decide +kernel
theorem l_60_1 : look 60 1 = some (.getfield 21, 3, 5, 1, 2, 636) := by decide +kernel
theorem l_60_4 : look 60 4 = some (.iload_n 1, 1, 0, 0, 0, 0) := by decide +kernel
theorem l_60_5 : look 60 5 = some (.iload_n 2, 1, 0, 0, 0, 0) := by decide +kernel
theorem l_60_6 : look 60 6 = some (.invokevirtual 176, 3, 84, 3, 0, 1323) := by decide +kernel
theorem l_60_9 : look 60 9 = some (.istore_n 3, 1, 0, 0, 0, 0) := by decide +kernel
theorem l_60_10 : look 60 10 = some (.aload_n 0, 1, 0, 0, 0, 0) := by decide +kernel
theorem l_60_11 : look 60 11 = some (.getfield 21, 3, 5, 1, 2, 636) := by decide +kernel
theorem l_60_14 : look 60 14 = some (.iload_n 1, 1, 0, 0, 0, 0) := by decide +kernel
theorem l_60_15 : look 60 15 = some (.iload_n 2, 1, 0, 0, 0, 0) := by decide +kernel
theorem l_60_16 : look 60 16 = some (.aload_n 0, 1, 0, 0, 0, 0) := by decide +kernel
theorem l_60_17 : look 60 17 = some (.getfield 32, 3, 5, 3, 2, 640) := by decide +kernel
theorem l_60_20 : look 60 20 = some (.iload_n 3, 1, 0, 0, 0, 0) := by decide +kernel
theorem l_60_21 : look 60 21 = some (.invokevirtual 100, 3, 5, 2, 0, 1287) := by decide +kernel
theorem l_60_24 : look 60 24 = some (.invokevirtual 179, 3, 87, 4, 0, 1332) := by decide +kernel
theorem l_60_27 : look 60 27 = some (.iload_n 3, 1, 0, 0, 0, 0) := by decide +kernel
theorem l_60_28 : look 60 28 = some (.ireturn, 1, 0, 0, 0, 0) := by decide +kernel
theorem s_60 {I : Ix} (o : oRun S T s x) {h : Hi} {l : Li} {A : Sa} {a : Nat → Nat} {ne np p : Nat} (H : cH I x h a ne np) (ok : okHi h) (hA : cS I (s + 6) h l A) (hp : p < 4) (hq : ∀ k, k < (sQ A p).length → ((sQ A p).getD k (0, 0)).1 < np) {i : Nat} (hi : i < (sQ A p).length) : CL xs 60 [vr s, vi ((p : Nat) : Int), vi ((i : Nat) : Int)] (S, I, T, cc, zz) (RP S T cc zz (fun v I' => v = some (vi ((((sQ A p).getD i (0, 0)).1 : Nat) : Int)) ∧ cS I' (s + 6) h l (setQ A p ((sQ A p).eraseIdx i)) ∧ fr I I' (s + 6) (s + 6 + 7))) := by
  refine CL_start (r := 1) (ls := [vr s, vi ((p : Nat) : Int), vi ((i : Nat) : Int), vs 2]) (rk_60 _) rfl ?_
  refine w_aln l_60_0 rfl ?_
  refine w_gr l_60_1 (oRun_sh o) (oRun_r1 o) ?_
  refine w_iln l_60_4 rfl ?_
  refine w_iln l_60_5 rfl ?_
  refine q_iv [vi ((p : Nat) : Int), vi ((i : Nat) : Int)] [] l_60_6 rfl rfl (Nat.le_of_ble_eq_true rfl) (by rw [mx_84]; exact Nat.le_of_ble_eq_true rfl) (by rw [mt_84]; exact oState_sh (oRun_o1 o)) (by rw [mt_84]; decide) (by rw [rk_84]; decide) (t_packetAt (oRun_o1 o) hA hp hi) ?_
  refine w_isn l_60_9 ⟨Nat.le_of_ble_eq_true rfl, rfl⟩ ?_
  refine w_aln l_60_10 rfl ?_
  refine w_gr l_60_11 (oRun_sh o) (oRun_r1 o) ?_
  refine w_iln l_60_14 rfl ?_
  refine w_iln l_60_15 rfl ?_
  refine w_aln l_60_16 rfl ?_
  refine w_gr l_60_17 (oRun_sh o) (oRun_r3 o) ?_
  refine w_iln l_60_20 rfl ?_
  refine q_iv [vi ((((sQ A p).getD i (0, 0)).1 : Nat) : Int)] [vi ((i : Nat) : Int), vi ((p : Nat) : Int), vr (s + 6)] l_60_21 rfl rfl (Nat.le_of_ble_eq_true rfl) (by rw [mx_5]; exact Nat.le_of_ble_eq_true rfl) (by rw [mt_5]; exact oHistory_sh (oRun_o3 o)) (by rw [mt_5]; decide) (by rw [rk_5]; decide) (s_5r H (oRun_o3 o) (hq i hi)) ?_
  refine p_iv [vi ((p : Nat) : Int), vi ((i : Nat) : Int), vi (((hSiz h ((sQ A p).getD i (0, 0)).1) : Nat) : Int)] [] l_60_24 rfl rfl (Nat.le_of_ble_eq_true rfl) (by rw [mx_87]; exact Nat.le_of_ble_eq_true rfl) (by rw [mt_87]; exact oState_sh (oRun_o1 o)) (by rw [mt_87]; decide) (by rw [rk_87]; decide) (t_remove (oRun_o1 o) hA ok hp hi) (fun v I1 hv => ?_)
  obtain ⟨rfl, hA1, hf1⟩ := hv
  refine w_iln l_60_27 rfl ?_
  refine w_ir l_60_28 (Or.inl rfl) ?_
  exact ⟨_, _, rfl, rfl, rfl, hA1, hf1⟩

end RUN
