/-! the class: suppositions are made -/
theorem cSu_n {I : Ix} {s : Nat} {su : Su} (H : cSu I s su) : sumN (fun k => if I (s + 1) k = -1 then 0 else 1) 15 = setN su := by
  obtain ⟨q1, q2, q3, q4, q5, q6⟩ := H
  have a : ∀ p, p < 4 → (if I (s + 1) p = -1 then 0 else 1) = oN (su.1 p) := fun p hp => by rw [oN_if, q1 p hp]
  have b4 : (if I (s + 1) 4 = -1 then 0 else 1) = oN su.2.1.1 := by rw [oN_if, q2]
  have b5 : (if I (s + 1) 5 = -1 then 0 else 1) = oN su.2.1.2.1 := by rw [oN_if, q3]
  have b6 : (if I (s + 1) 6 = -1 then 0 else 1) = oN su.2.1.2.2 := by rw [oN_if, q4]
  have c : ∀ r, r < 8 → (if I (s + 1) (7 + r) = -1 then 0 else 1) = b2n (su.2.2.1 r) := fun r hr => by
    have h9 := q5 r hr
    cases hb : su.2.2.1 r
    · rw [if_pos (h9.mpr hb)]; rfl
    · rw [if_neg (fun h8 => by rw [h9.mp h8] at hb; exact absurd hb (by decide))]; rfl
  have e : ∀ f : Nat → Nat, sumN f 15 = f 0 + f 1 + f 2 + f 3 + f 4 + f 5 + f 6 + f 7 + f 8 + f 9 + f 10 + f 11 + f 12 + f 13 + f 14 := fun f => by
    show 0 + f 0 + f 1 + f 2 + f 3 + f 4 + f 5 + f 6 + f 7 + f 8 + f 9 + f 10 + f 11 + f 12 + f 13 + f 14 = _
    omega
  have e4 : ∀ f : Nat → Nat, sumN f 4 = f 0 + f 1 + f 2 + f 3 := fun f => by
    show 0 + f 0 + f 1 + f 2 + f 3 = _
    omega
  have e8 : ∀ f : Nat → Nat, sumN f 8 = f 0 + f 1 + f 2 + f 3 + f 4 + f 5 + f 6 + f 7 := fun f => by
    show 0 + f 0 + f 1 + f 2 + f 3 + f 4 + f 5 + f 6 + f 7 = _
    omega
  unfold setN
  rw [e, e4, e8, ← b4, ← b5, ← b6, ← a 0 (by decide), ← a 1 (by decide), ← a 2 (by decide), ← a 3 (by decide), ← c 0 (by decide), ← c 1 (by decide), ← c 2 (by decide), ← c 3 (by decide), ← c 4 (by decide), ← c 5 (by decide), ← c 6 (by decide), ← c 7 (by decide)]
  simp only [Nat.add_zero, Nat.reduceAdd]
  omega
theorem cSu_cap {I : Ix} {s : Nat} {su : Su} (H : cSu I s su) {p v : Nat} (hp : p < 4) : cSu (up I (s + 1) p (v : Int)) s (suCap su p v) := by
  obtain ⟨q1, q2, q3, q4, q5, q6⟩ := H
  refine ⟨fun x hx => ?_, by rw [up_nj (by omega)]; exact q2, by rw [up_nj (by omega)]; exact q3, by rw [up_nj (by omega)]; exact q4, fun r hr => by rw [up_nj (by omega)]; exact q5 r hr, fun e he => by rw [up_no (by omega)]; exact q6 e he⟩
  show _ = oI (if x = p then some v else su.1 x)
  by_cases hx : x = p
  · rw [if_pos hx, hx, up_eq]; rfl
  · rw [if_neg hx, up_nj hx]; exact q1 x (by assumption)
theorem cSu_buf {I : Ix} {s : Nat} {su : Su} (H : cSu I s su) {v : Nat} : cSu (up I (s + 1) 4 (v : Int)) s (suBuf su v) := by
  obtain ⟨q1, q2, q3, q4, q5, q6⟩ := H
  exact ⟨fun x hx => by rw [up_nj (by omega)]; exact q1 x hx, up_eq, by rw [up_nj (by omega)]; exact q3, by rw [up_nj (by omega)]; exact q4, fun r hr => by rw [up_nj (by omega)]; exact q5 r hr, fun e he => by rw [up_no (by omega)]; exact q6 e he⟩
theorem cSu_wait {I : Ix} {s : Nat} {su : Su} (H : cSu I s su) {v : Nat} : cSu (up I (s + 1) 5 (v : Int)) s (suWait su v) := by
  obtain ⟨q1, q2, q3, q4, q5, q6⟩ := H
  exact ⟨fun x hx => by rw [up_nj (by omega)]; exact q1 x hx, by rw [up_nj (by omega)]; exact q2, up_eq, by rw [up_nj (by omega)]; exact q4, fun r hr => by rw [up_nj (by omega)]; exact q5 r hr, fun e he => by rw [up_no (by omega)]; exact q6 e he⟩
theorem cSu_age {I : Ix} {s : Nat} {su : Su} (H : cSu I s su) {v : Nat} : cSu (up I (s + 1) 6 (v : Int)) s (suAge su v) := by
  obtain ⟨q1, q2, q3, q4, q5, q6⟩ := H
  exact ⟨fun x hx => by rw [up_nj (by omega)]; exact q1 x hx, by rw [up_nj (by omega)]; exact q2, by rw [up_nj (by omega)]; exact q3, up_eq, fun r hr => by rw [up_nj (by omega)]; exact q5 r hr, fun e he => by rw [up_no (by omega)]; exact q6 e he⟩
theorem cSu_rule {I : Ix} {s : Nat} {su : Su} (H : cSu I s su) {q : Nat} : cSu (up I (s + 1) (7 + q) 1) s (suRule su q) := by
  obtain ⟨q1, q2, q3, q4, q5, q6⟩ := H
  refine ⟨fun x hx => by rw [up_nj (by omega)]; exact q1 x hx, by rw [up_nj (by omega)]; exact q2, by rw [up_nj (by omega)]; exact q3, by rw [up_nj (by omega)]; exact q4, fun r hr => ?_, fun e he => by rw [up_no (by omega)]; exact q6 e he⟩
  show _ ↔ (if r = q then true else su.2.2.1 r) = false
  by_cases hx : r = q
  · rw [if_pos hx, hx, up_eq]; exact ⟨fun h => absurd h (by decide), fun h => absurd h (by decide)⟩
  · rw [if_neg hx, up_nj (by omega)]; exact q5 r hr
theorem cSu_out {I : Ix} {s : Nat} {su : Su} (H : cSu I s su) {e : Nat} : cSu (up I (s + 2) e 1) s (suOut su e) := by
  obtain ⟨q1, q2, q3, q4, q5, q6⟩ := H
  refine ⟨fun x hx => by rw [up_no (by omega)]; exact q1 x hx, by rw [up_no (by omega)]; exact q2, by rw [up_no (by omega)]; exact q3, by rw [up_no (by omega)]; exact q4, fun r hr => by rw [up_no (by omega)]; exact q5 r hr, fun x hx => ?_⟩
  show _ = b2i (if x = e then true else su.2.2.2 x)
  by_cases hxe : x = e
  · rw [if_pos hxe, hxe, up_eq]; rfl
  · rw [if_neg hxe, up_nj hxe]; exact q6 x hx
section CSP
variable {xs : List Int} {S : List (Nat × Nat)} {T : Nat → Nat → Nat} {cc zz s : Nat} {I I' : Ix}

theorem mx_94 : mxl 94 = 3 := by decide +kernel
theorem mt_94 : mtc 94 = 8 := by decide +kernel
theorem rk_94 (as : List AV) : rkA 94 as = 0 := rfl
theorem l_94_0 : look 94 0 = some (.iconst 0, 1, 0, 0, 0, 0) := by decide +kernel
theorem l_94_1 : look 94 1 = some (.istore_n 1, 1, 0, 0, 0, 0) := by decide +kernel
theorem l_94_2 : look 94 2 = some (.iconst 0, 1, 0, 0, 0, 0) := by decide +kernel
theorem l_94_3 : look 94 3 = some (.istore_n 2, 1, 0, 0, 0, 0) := by decide +kernel
theorem l_94_4 : look 94 4 = some (.iload_n 2, 1, 0, 0, 0, 0) := by decide +kernel
theorem l_94_5 : look 94 5 = some (.aload_n 0, 1, 0, 0, 0, 0) := by decide +kernel
theorem l_94_6 : look 94 6 = some (.getfield 11, 3, 8, 0, 2, 471) := by decide +kernel
theorem l_94_9 : look 94 9 = some (.arraylength, 1, 0, 0, 0, 0) := by decide +kernel
theorem l_94_10 : look 94 10 = some (.if_icmp .ge 22, 3, 0, 0, 0, 0) := by decide +kernel
theorem l_94_13 : look 94 13 = some (.aload_n 0, 1, 0, 0, 0, 0) := by decide +kernel
theorem l_94_14 : look 94 14 = some (.getfield 11, 3, 8, 0, 2, 471) := by decide +kernel
theorem l_94_17 : look 94 17 = some (.iload_n 2, 1, 0, 0, 0, 0) := by decide +kernel
theorem l_94_18 : look 94 18 = some (.iaload, 1, 0, 0, 0, 0) := by decide +kernel
theorem l_94_19 : look 94 19 = some (.iconst (-1), 1, 0, 0, 0, 0) := by decide +kernel
theorem l_94_20 : look 94 20 = some (.if_icmp .eq 6, 3, 0, 0, 0, 0) := by decide +kernel
theorem l_94_23 : look 94 23 = some (.iinc 1 1, 3, 0, 0, 0, 0) := by decide +kernel
theorem l_94_26 : look 94 26 = some (.iinc 2 1, 3, 0, 0, 0, 0) := by decide +kernel
theorem l_94_29 : look 94 29 = some (.goto (-25), 3, 0, 0, 0, 0) := by decide +kernel
theorem l_94_32 : look 94 32 = some (.iload_n 1, 1, 0, 0, 0, 0) := by decide +kernel
theorem l_94_33 : look 94 33 = some (.ireturn, 1, 0, 0, 0, 0) := by decide +kernel

theorem lp_94 (o : oSuppositions S T s) {su : Su} (hS : cSu I s su) : ∀ dd q, q + dd = 15 → WP xs 94 0 4 [vr s, vi (((sumN (fun k => if I (s + 1) k = -1 then 0 else 1) q) : Nat) : Int), vi ((q : Nat) : Int)] [] (S, I, T, cc, zz) (FN (some (vi ((setN su : Nat) : Int))) (S, I, T, cc, zz)) := by
  intro dd
  induction dd with
  | zero =>
    intro q hq
    refine w_iln l_94_4 rfl ?_
    refine w_aln l_94_5 rfl ?_
    refine w_gr l_94_6 (oSuppositions_sh o) (oSuppositions_r0 o) ?_
    refine w_len l_94_9 (oSuppositions_s0 o) ?_
    refine w_cge 32 l_94_10 (by decide) (fun _ => ?_) (fun hx => absurd hx (by omega))
    refine w_iln l_94_32 rfl ?_
    refine w_ir l_94_33 (Or.inl rfl) ?_
    have e9 : q = 15 := by omega
    rw [e9, cSu_n hS]
    exact ⟨rfl, rfl⟩
  | succ dd ih =>
    intro q hq
    have hsl := sumN_le (f := (fun k => if I (s + 1) k = -1 then 0 else 1)) (fun k => by split <;> omega) q
    refine w_iln l_94_4 rfl ?_
    refine w_aln l_94_5 rfl ?_
    refine w_gr l_94_6 (oSuppositions_sh o) (oSuppositions_r0 o) ?_
    refine w_len l_94_9 (oSuppositions_s0 o) ?_
    refine w_cge 32 l_94_10 (by decide) (fun hx => absurd hx (by omega)) (fun _ => ?_)
    refine w_aln l_94_13 rfl ?_
    refine w_gr l_94_14 (oSuppositions_sh o) (oSuppositions_r0 o) ?_
    refine w_iln l_94_17 rfl ?_
    refine w_ia q (I (s + 1) q) l_94_18 (oSuppositions_s0 o) rfl (by omega) rfl ?_
    refine w_ic l_94_19 (by decide) ?_
    refine w_ceq 26 l_94_20 (by decide) (fun h1 => ?_) (fun h1 => ?_)
    · skip
      refine w_inc ((q + 1 : Nat) : Int) l_94_26 rfl rfl (by unfold wr; omega) ?_
      refine w_go 4 l_94_29 (by decide) ?_
      have e9 := ih (q + 1) (by omega)
      rw [show sumN (fun k => if I (s + 1) k = -1 then 0 else 1) (q + 1) = sumN (fun k => if I (s + 1) k = -1 then 0 else 1) q + 0 by
        show _ + (if I (s + 1) q = -1 then 0 else 1) = _
        rw [if_pos (by assumption)]] at e9
      exact e9
    · skip
      refine w_inc (((sumN (fun k => if I (s + 1) k = -1 then 0 else 1) q) + 1 : Nat) : Int) l_94_23 rfl rfl (by unfold wr; omega) ?_
      refine w_inc ((q + 1 : Nat) : Int) l_94_26 rfl rfl (by unfold wr; omega) ?_
      refine w_go 4 l_94_29 (by decide) ?_
      have e9 := ih (q + 1) (by omega)
      rw [show sumN (fun k => if I (s + 1) k = -1 then 0 else 1) (q + 1) = sumN (fun k => if I (s + 1) k = -1 then 0 else 1) q + 1 by
        show _ + (if I (s + 1) q = -1 then 0 else 1) = _
        rw [if_neg (by assumption)]] at e9
      exact e9
theorem s_94 (o : oSuppositions S T s) {su : Su} (hS : cSu I s su) : CL xs 94 [vr s] (S, I, T, cc, zz) (FN (some (vi ((setN su : Nat) : Int))) (S, I, T, cc, zz)) := by
  refine CL_start (r := 0) (ls := [vr s, vs 2, vs 2]) (rk_94 _) rfl ?_
  refine w_ic l_94_0 (by decide) ?_
  refine w_isn l_94_1 ⟨Nat.le_of_ble_eq_true rfl, rfl⟩ ?_
  refine w_ic l_94_2 (by decide) ?_
  refine w_isn l_94_3 ⟨Nat.le_of_ble_eq_true rfl, rfl⟩ ?_
  exact lp_94 o hS 15 0 rfl

theorem mx_95 : mxl 95 = 3 := by decide +kernel
theorem mt_95 : mtc 95 = 8 := by decide +kernel
theorem rk_95 (as : List AV) : rkA 95 as = 0 := rfl
theorem l_95_0 : look 95 0 = some (.iconst 0, 1, 0, 0, 0, 0) := by decide +kernel
theorem l_95_1 : look 95 1 = some (.istore_n 1, 1, 0, 0, 0, 0) := by decide +kernel
theorem l_95_2 : look 95 2 = some (.iconst 0, 1, 0, 0, 0, 0) := by decide +kernel
theorem l_95_3 : look 95 3 = some (.istore_n 2, 1, 0, 0, 0, 0) := by decide +kernel
theorem l_95_4 : look 95 4 = some (.iload_n 2, 1, 0, 0, 0, 0) := by decide +kernel
theorem l_95_5 : look 95 5 = some (.bipush 120, 2, 0, 0, 0, 0) := by decide +kernel
theorem l_95_7 : look 95 7 = some (.if_icmp .ge 21, 3, 0, 0, 0, 0) := by decide +kernel
theorem l_95_10 : look 95 10 = some (.aload_n 0, 1, 0, 0, 0, 0) := by decide +kernel
theorem l_95_11 : look 95 11 = some (.getfield 15, 3, 8, 1, 2, 472) := by decide +kernel
theorem l_95_14 : look 95 14 = some (.iload_n 2, 1, 0, 0, 0, 0) := by decide +kernel
theorem l_95_15 : look 95 15 = some (.baload, 1, 0, 0, 0, 0) := by decide +kernel
theorem l_95_16 : look 95 16 = some (.ifCond .eq 6, 3, 0, 0, 0, 0) := by decide +kernel
theorem l_95_19 : look 95 19 = some (.iinc 1 1, 3, 0, 0, 0, 0) := by decide +kernel
theorem l_95_22 : look 95 22 = some (.iinc 2 1, 3, 0, 0, 0, 0) := by decide +kernel
theorem l_95_25 : look 95 25 = some (.goto (-21), 3, 0, 0, 0, 0) := by decide +kernel
theorem l_95_28 : look 95 28 = some (.iload_n 1, 1, 0, 0, 0, 0) := by decide +kernel
theorem l_95_29 : look 95 29 = some (.ireturn, 1, 0, 0, 0, 0) := by decide +kernel

theorem lp_95 (o : oSuppositions S T s) {su : Su} (hS : cSu I s su) : ∀ dd q, q + dd = 120 → WP xs 95 0 4 [vr s, vi (((sumN (fun e => b2n (su.2.2.2 e)) q) : Nat) : Int), vi ((q : Nat) : Int)] [] (S, I, T, cc, zz) (FN (some (vi ((outN su : Nat) : Int))) (S, I, T, cc, zz)) := by
  intro dd
  induction dd with
  | zero =>
    intro q hq
    refine w_iln l_95_4 rfl ?_
    refine w_bp l_95_5 (by decide) ?_
    refine w_cge 28 l_95_7 (by decide) (fun _ => ?_) (fun hx => absurd hx (by omega))
    refine w_iln l_95_28 rfl ?_
    refine w_ir l_95_29 (Or.inl rfl) ?_
    have e9 : q = 120 := by omega
    rw [e9]
    exact ⟨rfl, rfl⟩
  | succ dd ih =>
    intro q hq
    have hsl := sumN_le (f := fun e => b2n (su.2.2.2 e)) (fun k => b2n_le _) q
    refine w_iln l_95_4 rfl ?_
    refine w_bp l_95_5 (by decide) ?_
    refine w_cge 28 l_95_7 (by decide) (fun hx => absurd hx (by omega)) (fun _ => ?_)
    refine w_aln l_95_10 rfl ?_
    refine w_gr l_95_11 (oSuppositions_sh o) (oSuppositions_r1 o) ?_
    refine w_iln l_95_14 rfl ?_
    refine w_ba q (b2i (su.2.2.2 q)) l_95_15 (Or.inr (oSuppositions_s1 o)) rfl (by omega) (hS.2.2.2.2.2 q (by omega)) ?_
    refine w_beq 22 l_95_16 (by decide) (fun h1 => ?_) (fun h1 => ?_)
    · skip
      refine w_inc ((q + 1 : Nat) : Int) l_95_22 rfl rfl (by unfold wr; omega) ?_
      refine w_go 4 l_95_25 (by decide) ?_
      have e9 := ih (q + 1) (by omega)
      rw [show sumN (fun e => b2n (su.2.2.2 e)) (q + 1) = sumN (fun e => b2n (su.2.2.2 e)) q + 0 by
        show _ + b2n (su.2.2.2 q) = _
        rw [h1]; rfl] at e9
      exact e9
    · skip
      refine w_inc (((sumN (fun e => b2n (su.2.2.2 e)) q) + 1 : Nat) : Int) l_95_19 rfl rfl (by unfold wr; omega) ?_
      refine w_inc ((q + 1 : Nat) : Int) l_95_22 rfl rfl (by unfold wr; omega) ?_
      refine w_go 4 l_95_25 (by decide) ?_
      have e9 := ih (q + 1) (by omega)
      rw [show sumN (fun e => b2n (su.2.2.2 e)) (q + 1) = sumN (fun e => b2n (su.2.2.2 e)) q + 1 by
        show _ + b2n (su.2.2.2 q) = _
        rw [h1]; rfl] at e9
      exact e9
theorem s_95 (o : oSuppositions S T s) {su : Su} (hS : cSu I s su) : CL xs 95 [vr s] (S, I, T, cc, zz) (FN (some (vi ((outN su : Nat) : Int))) (S, I, T, cc, zz)) := by
  refine CL_start (r := 0) (ls := [vr s, vs 2, vs 2]) (rk_95 _) rfl ?_
  refine w_ic l_95_0 (by decide) ?_
  refine w_isn l_95_1 ⟨Nat.le_of_ble_eq_true rfl, rfl⟩ ?_
  refine w_ic l_95_2 (by decide) ?_
  refine w_isn l_95_3 ⟨Nat.le_of_ble_eq_true rfl, rfl⟩ ?_
  exact lp_95 o hS 120 0 rfl

theorem mx_92 : mxl 92 = 2 := by decide +kernel
theorem mt_92 : mtc 92 = 8 := by decide +kernel
theorem rk_92 (as : List AV) : rkA 92 as = 1 := rfl
theorem l_92_0 : look 92 0 = some (.aload_n 0, 1, 0, 0, 0, 0) := by decide +kernel
theorem l_92_1 : look 92 1 = some (.getfield 11, 3, 8, 0, 2, 471) := by decide +kernel
theorem l_92_4 : look 92 4 = some (.iconst (-1), 1, 0, 0, 0, 0) := by decide +kernel
theorem l_92_5 : look 92 5 = some (.invokestatic 19, 3, 305, 2, 1, 509) := by decide +kernel
theorem l_92_8 : look 92 8 = some (.iconst 0, 1, 0, 0, 0, 0) := by decide +kernel
theorem l_92_9 : look 92 9 = some (.istore_n 1, 1, 0, 0, 0, 0) := by decide +kernel
theorem l_92_10 : look 92 10 = some (.iload_n 1, 1, 0, 0, 0, 0) := by decide +kernel
theorem l_92_11 : look 92 11 = some (.bipush 120, 2, 0, 0, 0, 0) := by decide +kernel
theorem l_92_13 : look 92 13 = some (.if_icmp .ge 16, 3, 0, 0, 0, 0) := by decide +kernel
theorem l_92_16 : look 92 16 = some (.aload_n 0, 1, 0, 0, 0, 0) := by decide +kernel
theorem l_92_17 : look 92 17 = some (.getfield 15, 3, 8, 1, 2, 472) := by decide +kernel
theorem l_92_20 : look 92 20 = some (.iload_n 1, 1, 0, 0, 0, 0) := by decide +kernel
theorem l_92_21 : look 92 21 = some (.iconst 0, 1, 0, 0, 0, 0) := by decide +kernel
theorem l_92_22 : look 92 22 = some (.bastore, 1, 0, 0, 0, 0) := by decide +kernel
theorem l_92_23 : look 92 23 = some (.iinc 1 1, 3, 0, 0, 0, 0) := by decide +kernel
theorem l_92_26 : look 92 26 = some (.goto (-16), 3, 0, 0, 0, 0) := by decide +kernel
theorem l_92_29 : look 92 29 = some (.return_, 1, 0, 0, 0, 0) := by decide +kernel

theorem lp_92 (o : oSuppositions S T s) {J : Ix} : ∀ d k, k + d = 120 → WP xs 92 1 10 [vr s, vi ((k : Nat) : Int)] [] (S, (fl J (s + 2) k 0), T, cc, zz) (FN none (S, fl J (s + 2) 120 0, T, cc, zz)) := by
  intro d
  induction d with
  | zero =>
    intro k hk
    refine w_iln l_92_10 rfl ?_
    refine w_bp l_92_11 (by decide) ?_
    refine w_cge 29 l_92_13 (by decide) (fun _ => ?_) (fun hx => absurd hx (by omega))
    refine w_vr l_92_29 ?_
    have e9 : k = 120 := by omega
    rw [e9]
    exact ⟨rfl, rfl⟩
  | succ d ih =>
    intro k hk
    refine w_iln l_92_10 rfl ?_
    refine w_bp l_92_11 (by decide) ?_
    refine w_cge 29 l_92_13 (by decide) (fun hx => absurd hx (by omega)) (fun _ => ?_)
    refine w_aln l_92_16 rfl ?_
    refine w_gr l_92_17 (oSuppositions_sh o) (oSuppositions_r1 o) ?_
    refine w_iln l_92_20 rfl ?_
    refine w_ic l_92_21 (by decide) ?_
    refine w_zS k 0 l_92_22 (oSuppositions_s1 o) rfl (by omega) (by decide) ?_
    refine w_inc ((k + 1 : Nat) : Int) l_92_23 rfl rfl (by unfold wr; omega) ?_
    refine w_go 10 l_92_26 (by decide) ?_
    rw [fl_s]
    exact ih (k + 1) (by omega)
theorem s_92 (o : oSuppositions S T s) : CL xs 92 [vr s] (S, I, T, cc, zz) (FN none (S, fl (fl I (s + 1) 15 (-1)) (s + 2) 120 0, T, cc, zz)) := by
  refine CL_start (r := 1) (ls := [vr s, vs 2]) (rk_92 _) rfl ?_
  refine w_aln l_92_0 rfl ?_
  refine w_gr l_92_1 (oSuppositions_sh o) (oSuppositions_r0 o) ?_
  refine w_ic l_92_4 (by decide) ?_
  refine q_st [vr (s + 1), vi (-1)] [] l_92_5 (by decide) rfl rfl (Nat.le_of_ble_eq_true rfl) (by rw [mx_305]; exact Nat.le_of_ble_eq_true rfl) (by rw [rk_305]; decide) (s_305 (oSuppositions_s0 o) (by decide)) ?_
  refine w_ic l_92_8 (by decide) ?_
  refine w_isn l_92_9 ⟨Nat.le_of_ble_eq_true rfl, rfl⟩ ?_
  have e8 := lp_92 (xs := xs) (T := T) (cc := cc) (zz := zz) (J := fl I (s + 1) 15 (-1)) o 120 0 (by omega)
  rw [fl_0] at e8
  exact e8

theorem r_92 (o : oSuppositions S T s) : CL xs 92 [vr s] (S, I, T, cc, zz) (RP S T cc zz (fun v I' => v = none ∧ cSu I' s su0 ∧ fr I I' (s + 1) (s + 2))) := by
  refine CL_mono (s_92 o) ?_
  rintro q m' ⟨rfl, rfl⟩
  refine ⟨none, _, rfl, rfl, rfl, ⟨fun p hp => ?_, ?_, ?_, ?_, fun r hr => ?_, fun e he => ?_⟩, fun y hy z => ?_⟩
  · rw [fl_no (by omega), fl_in (by omega)]; rfl
  · rw [fl_no (by omega), fl_in (by omega)]; rfl
  · rw [fl_no (by omega), fl_in (by omega)]; rfl
  · rw [fl_no (by omega), fl_in (by omega)]; rfl
  · rw [fl_no (by omega), fl_in (by omega)]; exact ⟨fun _ => rfl, fun _ => rfl⟩
  · rw [fl_in he]; rfl
  · rw [fl_no (by omega), fl_no (by omega)]

theorem mx_93 : mxl 93 = 4 := by decide +kernel
theorem mt_93 : mtc 93 = 8 := by decide +kernel
theorem rk_93 (as : List AV) : rkA 93 as = 0 := rfl
theorem l_93_0 : look 93 0 = some (.iload_n 1, 1, 0, 0, 0, 0) := by decide +kernel
theorem l_93_1 : look 93 1 = some (.tableswitch 72 0 3 #[31, 41, 51, 61], 31, 0, 0, 0, 0) := by decide +kernel
theorem l_93_32 : look 93 32 = some (.aload_n 0, 1, 0, 0, 0, 0) := by decide +kernel
theorem l_93_33 : look 93 33 = some (.getfield 11, 3, 8, 0, 2, 471) := by decide +kernel
theorem l_93_36 : look 93 36 = some (.iload_n 2, 1, 0, 0, 0, 0) := by decide +kernel
theorem l_93_37 : look 93 37 = some (.iload_n 3, 1, 0, 0, 0, 0) := by decide +kernel
theorem l_93_38 : look 93 38 = some (.iastore, 1, 0, 0, 0, 0) := by decide +kernel
theorem l_93_39 : look 93 39 = some (.goto 44, 3, 0, 0, 0, 0) := by decide +kernel
theorem l_93_42 : look 93 42 = some (.aload_n 0, 1, 0, 0, 0, 0) := by decide +kernel
theorem l_93_43 : look 93 43 = some (.getfield 11, 3, 8, 0, 2, 471) := by decide +kernel
theorem l_93_46 : look 93 46 = some (.iconst 4, 1, 0, 0, 0, 0) := by decide +kernel
theorem l_93_47 : look 93 47 = some (.iload_n 3, 1, 0, 0, 0, 0) := by decide +kernel
theorem l_93_48 : look 93 48 = some (.iastore, 1, 0, 0, 0, 0) := by decide +kernel
theorem l_93_49 : look 93 49 = some (.goto 34, 3, 0, 0, 0, 0) := by decide +kernel
theorem l_93_52 : look 93 52 = some (.aload_n 0, 1, 0, 0, 0, 0) := by decide +kernel
theorem l_93_53 : look 93 53 = some (.getfield 11, 3, 8, 0, 2, 471) := by decide +kernel
theorem l_93_56 : look 93 56 = some (.iconst 5, 1, 0, 0, 0, 0) := by decide +kernel
theorem l_93_57 : look 93 57 = some (.iload_n 3, 1, 0, 0, 0, 0) := by decide +kernel
theorem l_93_58 : look 93 58 = some (.iastore, 1, 0, 0, 0, 0) := by decide +kernel
theorem l_93_59 : look 93 59 = some (.goto 24, 3, 0, 0, 0, 0) := by decide +kernel
theorem l_93_62 : look 93 62 = some (.aload_n 0, 1, 0, 0, 0, 0) := by decide +kernel
theorem l_93_63 : look 93 63 = some (.getfield 11, 3, 8, 0, 2, 471) := by decide +kernel
theorem l_93_66 : look 93 66 = some (.bipush 6, 2, 0, 0, 0, 0) := by decide +kernel
theorem l_93_68 : look 93 68 = some (.iload_n 3, 1, 0, 0, 0, 0) := by decide +kernel
theorem l_93_69 : look 93 69 = some (.iastore, 1, 0, 0, 0, 0) := by decide +kernel
theorem l_93_70 : look 93 70 = some (.goto 13, 3, 0, 0, 0, 0) := by decide +kernel
theorem l_93_73 : look 93 73 = some (.aload_n 0, 1, 0, 0, 0, 0) := by decide +kernel
theorem l_93_74 : look 93 74 = some (.getfield 11, 3, 8, 0, 2, 471) := by decide +kernel
theorem l_93_77 : look 93 77 = some (.bipush 7, 2, 0, 0, 0, 0) := by decide +kernel
theorem l_93_79 : look 93 79 = some (.iload_n 2, 1, 0, 0, 0, 0) := by decide +kernel
theorem l_93_80 : look 93 80 = some (.iadd, 1, 0, 0, 0, 0) := by decide +kernel
theorem l_93_81 : look 93 81 = some (.iconst 1, 1, 0, 0, 0, 0) := by decide +kernel
theorem l_93_82 : look 93 82 = some (.iastore, 1, 0, 0, 0, 0) := by decide +kernel
theorem l_93_83 : look 93 83 = some (.return_, 1, 0, 0, 0, 0) := by decide +kernel

theorem s_93_0 (o : oSuppositions S T s) {p v : Nat} (hp : p < 4) : CL xs 93 [vr s, vi 0, vi ((p : Nat) : Int), vi ((v : Nat) : Int)] (S, I, T, cc, zz) (FN none (S, (up I (s + 1) p (v : Int)), T, cc, zz)) := by
  refine CL_start (r := 0) (ls := [vr s, vi 0, vi ((p : Nat) : Int), vi ((v : Nat) : Int)]) (rk_93 _) rfl ?_
  refine w_iln l_93_0 rfl ?_
  refine w_swi 32 l_93_1 (by decide) rfl (by decide) ?_
  refine w_aln l_93_32 rfl ?_
  refine w_gr l_93_33 (oSuppositions_sh o) (oSuppositions_r0 o) ?_
  refine w_iln l_93_36 rfl ?_
  refine w_iln l_93_37 rfl ?_
  refine w_iS p l_93_38 (oSuppositions_s0 o) rfl (by omega) ?_
  refine w_go 83 l_93_39 (by decide) ?_
  refine w_vr l_93_83 ?_
  exact ⟨rfl, rfl⟩

theorem s_93_1 (o : oSuppositions S T s) {p : Int} {v : Nat} : CL xs 93 [vr s, vi 1, vi p, vi ((v : Nat) : Int)] (S, I, T, cc, zz) (FN none (S, (up I (s + 1) 4 (v : Int)), T, cc, zz)) := by
  refine CL_start (r := 0) (ls := [vr s, vi 1, vi p, vi ((v : Nat) : Int)]) (rk_93 _) rfl ?_
  refine w_iln l_93_0 rfl ?_
  refine w_swi 42 l_93_1 (by decide) rfl (by decide) ?_
  refine w_aln l_93_42 rfl ?_
  refine w_gr l_93_43 (oSuppositions_sh o) (oSuppositions_r0 o) ?_
  refine w_ic l_93_46 (by decide) ?_
  refine w_iln l_93_47 rfl ?_
  refine w_iS 4 l_93_48 (oSuppositions_s0 o) rfl (by omega) ?_
  refine w_go 83 l_93_49 (by decide) ?_
  refine w_vr l_93_83 ?_
  exact ⟨rfl, rfl⟩

theorem s_93_2 (o : oSuppositions S T s) {p : Int} {v : Nat} : CL xs 93 [vr s, vi 2, vi p, vi ((v : Nat) : Int)] (S, I, T, cc, zz) (FN none (S, (up I (s + 1) 5 (v : Int)), T, cc, zz)) := by
  refine CL_start (r := 0) (ls := [vr s, vi 2, vi p, vi ((v : Nat) : Int)]) (rk_93 _) rfl ?_
  refine w_iln l_93_0 rfl ?_
  refine w_swi 52 l_93_1 (by decide) rfl (by decide) ?_
  refine w_aln l_93_52 rfl ?_
  refine w_gr l_93_53 (oSuppositions_sh o) (oSuppositions_r0 o) ?_
  refine w_ic l_93_56 (by decide) ?_
  refine w_iln l_93_57 rfl ?_
  refine w_iS 5 l_93_58 (oSuppositions_s0 o) rfl (by omega) ?_
  refine w_go 83 l_93_59 (by decide) ?_
  refine w_vr l_93_83 ?_
  exact ⟨rfl, rfl⟩

theorem s_93_3 (o : oSuppositions S T s) {p : Int} {v : Nat} : CL xs 93 [vr s, vi 3, vi p, vi ((v : Nat) : Int)] (S, I, T, cc, zz) (FN none (S, (up I (s + 1) 6 (v : Int)), T, cc, zz)) := by
  refine CL_start (r := 0) (ls := [vr s, vi 3, vi p, vi ((v : Nat) : Int)]) (rk_93 _) rfl ?_
  refine w_iln l_93_0 rfl ?_
  refine w_swi 62 l_93_1 (by decide) rfl (by decide) ?_
  refine w_aln l_93_62 rfl ?_
  refine w_gr l_93_63 (oSuppositions_sh o) (oSuppositions_r0 o) ?_
  refine w_bp l_93_66 (by decide) ?_
  refine w_iln l_93_68 rfl ?_
  refine w_iS 6 l_93_69 (oSuppositions_s0 o) rfl (by omega) ?_
  refine w_go 83 l_93_70 (by decide) ?_
  refine w_vr l_93_83 ?_
  exact ⟨rfl, rfl⟩

theorem s_93_4 (o : oSuppositions S T s) {p : Nat} {v : Int} (hp : p < 8) : CL xs 93 [vr s, vi 4, vi ((p : Nat) : Int), vi v] (S, I, T, cc, zz) (FN none (S, (up I (s + 1) (7 + p) 1), T, cc, zz)) := by
  refine CL_start (r := 0) (ls := [vr s, vi 4, vi ((p : Nat) : Int), vi v]) (rk_93 _) rfl ?_
  refine w_iln l_93_0 rfl ?_
  refine w_swd 73 l_93_1 (by decide) (by decide) ?_
  refine w_aln l_93_73 rfl ?_
  refine w_gr l_93_74 (oSuppositions_sh o) (oSuppositions_r0 o) ?_
  refine w_bp l_93_77 (by decide) ?_
  refine w_iln l_93_79 rfl ?_
  refine w_add ((7 + p : Nat) : Int) l_93_80 (by unfold wr; omega) ?_
  refine w_ic l_93_81 (by decide) ?_
  refine w_iS (7 + p) l_93_82 (oSuppositions_s0 o) rfl (by omega) ?_
  refine w_vr l_93_83 ?_
  exact ⟨rfl, rfl⟩

end CSP
