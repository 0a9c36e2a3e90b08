/-! a drop's parts; what calls answer, by the model -/
def drF (d : Dr) (j : Nat) : Int := if j = 0 then (d.1 : Int) else if j = 1 then (d.2.1 : Int) else if j = 2 then d.2.2.1 else if j = 3 then (d.2.2.2.1 : Int) else d.2.2.2.2
section CSR
variable {xs : List Int} {S : List (Nat × Nat)} {T : Nat → Nat → Nat} {cc zz s q y : Nat} {h : Hi} {l : Li} {I I' : Ix}

theorem mx_121 : mxl 121 = 3 := by decide +kernel
theorem mt_121 : mtc 121 = 9 := by decide +kernel
theorem rk_121 (as : List AV) : rkA 121 as = 1 := rfl
theorem l_121_0 : look 121 0 = some (.aload_n 0, 1, 0, 0, 0, 0) := by decide +kernel
theorem l_121_1 : look 121 1 = some (.iload_n 1, 1, 0, 0, 0, 0) := by decide +kernel
theorem l_121_2 : look 121 2 = some (.invokevirtual 237, 3, 152, 2, 0, 211) := by decide +kernel
theorem l_121_5 : look 121 5 = some (.iload_n 2, 1, 0, 0, 0, 0) := by decide +kernel
theorem l_121_6 : look 121 6 = some (.ifCond .lt 8, 3, 0, 0, 0, 0) := by decide +kernel
theorem l_121_9 : look 121 9 = some (.iload_n 2, 1, 0, 0, 0, 0) := by decide +kernel
theorem l_121_10 : look 121 10 = some (.iconst 5, 1, 0, 0, 0, 0) := by decide +kernel
theorem l_121_11 : look 121 11 = some (.if_icmp .lt 11, 3, 0, 0, 0, 0) := by decide +kernel
theorem l_121_14 : look 121 14 = some (.new 147, 3, 3, 0, 1, 77) := by decide +kernel
theorem l_121_17 : look 121 17 = some (.dup, 1, 0, 0, 0, 0) := by decide +kernel
theorem l_121_18 : look 121 18 = some (.invokespecial 149, 3, 0, 1, 99, 121) := by decide +kernel
theorem l_121_21 : look 121 21 = some (.athrow, 1, 0, 0, 0, 0) := by decide +kernel
theorem l_121_22 : look 121 22 = some (.aload_n 0, 1, 0, 0, 0, 0) := by decide +kernel
theorem l_121_23 : look 121 23 = some (.getfield 57, 3, 9, 8, 2, 732) := by decide +kernel
theorem l_121_26 : look 121 26 = some (.getfield 131, 3, 5, 2, 2, 639) := by decide +kernel
theorem l_121_29 : look 121 29 = some (.iload_n 1, 1, 0, 0, 0, 0) := by decide +kernel
theorem l_121_30 : look 121 30 = some (.iload_n 2, 1, 0, 0, 0, 0) := by decide +kernel
theorem l_121_31 : look 121 31 = some (.invokevirtual 240, 3, 24, 3, 0, 215) := by decide +kernel
theorem l_121_34 : look 121 34 = some (.ireturn, 1, 0, 0, 0, 0) := by decide +kernel

theorem t_part (o : oLog S T s) {g : Lo} (hL : cL I s g) {k j : Nat} (hk : k < g.1.length) (hj : j < 5) : CL xs 24 [vr s, vi ((k : Nat) : Int), vi ((j : Nat) : Int)] (S, I, T, cc, zz) (FN (some (vi (drF (g.1.getD k dr0) j))) (S, I, T, cc, zz)) := by
  rcases (show j = 0 ∨ j = 1 ∨ j = 2 ∨ j = 3 ∨ j = 4 by omega) with rfl | rfl | rfl | rfl | rfl
  · exact t_part0 o hL hk
  · exact t_part1 o hL hk
  · exact t_part2 o hL hk
  · exact t_part3 o hL hk
  · exact t_part4 o hL hk
theorem s_121 (o : oDropSwitch S T s q y) {ne np : Nat} {a : Nat → Nat} (K : KQ I s q h l a ne np) {k j : Nat} (hk : k < (runA h l noOut ne).2.1.length) (hj : j < 5) : CL xs 121 [vr s, vi ((k : Nat) : Int), vi ((j : Nat) : Int)] (S, I, T, cc, zz) (FN (some (vi (drF ((runA h l noOut ne).2.1.getD k dr0) j))) (S, I, T, cc, zz)) := by
  have hdf := t_part (xs := xs) (cc := cc) (zz := zz) (oRun_o2 (oDropSwitch_o8 o)) K.2.2.2.1.2 hk hj
  refine CL_start (r := 1) (ls := [vr s, vi ((k : Nat) : Int), vi ((j : Nat) : Int)]) (rk_121 _) rfl ?_
  refine w_aln l_121_0 rfl ?_
  refine w_iln l_121_1 rfl ?_
  refine q_iv [vi ((k : Nat) : Int)] [] l_121_2 rfl rfl (Nat.le_of_ble_eq_true rfl) (by rw [mx_152]; exact Nat.le_of_ble_eq_true rfl) (by rw [mt_152]; exact oDropSwitch_sh o) (by rw [mt_152]; decide) (by rw [rk_152]; decide) (s_152 o K hk) ?_
  refine w_iln l_121_5 rfl ?_
  refine w_zlt 14 l_121_6 (by decide) (fun hx => absurd hx (by omega)) (fun _ => ?_)
  refine w_iln l_121_9 rfl ?_
  refine w_ic l_121_10 (by decide) ?_
  refine w_clt 22 l_121_11 (by decide) (fun _ => ?_) (fun hx => absurd hx (by omega))
  refine w_aln l_121_22 rfl ?_
  refine w_gr l_121_23 (oDropSwitch_sh o) (oDropSwitch_r8 o) ?_
  refine w_gr l_121_26 (oRun_sh (oDropSwitch_o8 o)) (oRun_r2 (oDropSwitch_o8 o)) ?_
  refine w_iln l_121_29 rfl ?_
  refine w_iln l_121_30 rfl ?_
  refine q_iv [vi ((k : Nat) : Int), vi ((j : Nat) : Int)] [] l_121_31 rfl rfl (Nat.le_of_ble_eq_true rfl) (by rw [mx_24]; exact Nat.le_of_ble_eq_true rfl) (by rw [mt_24]; exact oLog_sh (oRun_o2 (oDropSwitch_o8 o))) (by rw [mt_24]; decide) (by rw [rk_24]; decide) (hdf) ?_
  refine w_ir l_121_34 (Or.inl rfl) ?_
  exact ⟨rfl, rfl⟩


end CSR
section GMD
variable {h : Hi} {l : Li} {e k p n : Nat} {r : Ra} {way : Nat → Bool}
theorem putA_1 : (putA h l e k p r).2 ≤ 1 := by
  unfold putA
  split
  · exact Nat.zero_le _
  · split
    · exact Nat.zero_le _
    · exact Nat.le_refl _
theorem puts_le2 : ∀ n, (putsA h l e k way n r).2 ≤ ((List.range n).filter way).length
  | 0 => Nat.le_refl _
  | n + 1 => by
    have ih := puts_le2 n
    rw [List.range_succ, List.filter_append, List.length_append]
    unfold putsA
    split
    · rename_i hw
      have h1 := putA_1 (h := h) (l := l) (e := e) (k := k) (p := n) (r := (putsA h l e k way n r).1)
      have h2 : ([n].filter way).length = 1 := by rw [List.filter_cons_of_pos hw]; rfl
      rw [h2]
      show (putsA h l e k way n r).2 + _ ≤ _
      omega
    · exact Nat.le_trans ih (Nat.le_add_right _ _)
theorem puts_lt (hp : p < n) (hw : way p = false) : (putsA h l e k way n r).2 < n := by
  have h1 := puts_le2 (h := h) (l := l) (e := e) (k := k) (way := way) (r := r) n
  have h2 : ((List.range n).filter way).length < (List.range n).length := by
    refine List.length_filter_lt_length_iff_exists.mpr ⟨p, List.mem_range.mpr hp, ?_⟩
    rw [hw]; decide
  rw [List.length_range] at h2
  omega
theorem arrive_lt (hp : p < lPorts l) : (arriveA h l e p k r).2 < lPorts l := by
  have h0 : 0 < lPorts l := by omega
  unfold arriveA
  split
  · exact h0
  · split
    · exact h0
    · split
      · exact h0
      · simp only []
        split
        · split
          · exact h0
          · rename_i hw
            exact puts_lt hp (by simp only [beq_eq_false_iff_ne]; exact fun e => hw e.symm)
        · split
          · exact h0
          · exact puts_lt hp (by simp)
theorem delA_t : ∀ d (r : Ra), (delA h p d r).1.1 = r.1.1
  | 0, _ => rfl
  | d + 1, r => (delA_t d _).trans rfl
theorem delsA_t : ∀ n, (delsA h l n r).1.1.1 = r.1.1
  | 0 => rfl
  | n + 1 => by
    unfold delsA
    simp only []
    split
    · exact (delA_t _ _).trans (delsA_t n)
    · exact delsA_t n
theorem stalesA_t : ∀ n (r : Ra), (stalesA l e n r).1.1 = r.1.1
  | 0, _ => rfl
  | n + 1, r => (show (staleA l e n (stalesA l e n r)).1.1 = (stalesA l e n r).1.1 from rfl).trans (stalesA_t n r)
theorem tick_t : sTime (tickA h l e r).1.1 = sTime r.1 + 1 := by
  show (stalesA l e (lPorts l) (delsA h l (lPorts l) r).1).1.1 + 1 = r.1.1 + 1
  rw [stalesA_t, delsA_t]
theorem fold_len2 (f : Cp → Nat) (c : Nat) : ∀ (q : List Cp) (g : Lo), (q.foldl (fun g x => addDr g e (f x) p c (-1)) g).1.length = g.1.length + q.length
  | [], _ => rfl
  | x :: q, g => by
    rw [List.foldl_cons, fold_len2 f c q]
    show (g.1 ++ [_]).length + q.length = _
    rw [List.length_append, List.length_cons, List.length_cons, List.length_nil]
    omega
theorem lose_len : (loseA e p r).1.2.1.length = r.2.1.length + (loseA e p r).2 := fold_len2 Prod.fst 10 (sQ r.1 p) r.2
theorem lose_up : sUp (loseA e p r).1.1 p = false := by
  show fu r.1.2.1 p false p = false
  rw [fu_e]
end GMD
