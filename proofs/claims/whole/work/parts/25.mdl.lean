/-! the reference: numbers and queues -/
/-- the reference's events and packets are those of h (packet k arrives in the event a k), of ne events and np packets -/
def mH (I : Ix) (s : Nat) (h : Hi) (a : Nat → Nat) (ne np : Nat) : Prop := ne ≤ 120 ∧ np ≤ ne ∧ (∀ e, e < ne → I (s + 10) (7 * e) = (hKind h e : Int) ∧ (hKind h e ≠ 1 → I (s + 10) (7 * e + 1) = (hPort h e : Int)) ∧ (hKind h e = 0 → I (s + 10) (7 * e + 6) = (hPk h e : Int))) ∧
  ∀ k, k < np → I (s + 11) k = (a k : Int) ∧ a k < ne ∧ I (s + 10) (7 * a k + 2) = (hSrc h k : Int) ∧ I (s + 10) (7 * a k + 3) = (hTgt h k : Int) ∧ I (s + 10) (7 * a k + 4) = (hSiz h k : Int) ∧ I (s + 10) (7 * a k + 5) = (hRnk h k : Int)
def okHi (h : Hi) : Prop := ∀ k, hSiz h k ≤ 9 ∧ 1 ≤ hSiz h k ∧ hRnk h k ≤ 3 ∧ hSrc h k < 64 ∧ hTgt h k < 64
/-- a queue of the reference -/
def mQ (I : Ix) (s p : Nat) (q : List Cp) : Prop := I (s + 30) p = (q.length : Int) ∧ q.length ≤ 99 ∧ ∀ k, k < q.length → I (s + 28) (100 * p + k) = ((q.getD k (0, 0)).1 : Int) ∧ I (s + 29) (100 * p + k) = ((q.getD k (0, 0)).2 : Int)
theorem fillQ_nil (h : Hi) : fillQ h [] = 0 := rfl
theorem take_s {q : List Cp} {k : Nat} (hk : k < q.length) : q.take (k + 1) = q.take k ++ [q.getD k (0, 0)] := by
  rw [List.take_succ, List.getD_eq_getElem?_getD, List.getElem?_eq_getElem hk]; rfl
theorem fillQ_app (h : Hi) (a b : List Cp) : fillQ h (a ++ b) = fillQ h a + fillQ h b := by
  unfold fillQ; rw [List.map_append, List.sum_append]
theorem fillQ_s {h : Hi} {q : List Cp} {k : Nat} (hk : k < q.length) : fillQ h (q.take (k + 1)) = fillQ h (q.take k) + hSiz h (q.getD k (0, 0)).1 := by
  rw [take_s hk, fillQ_app]; rfl
theorem fillQ_le {h : Hi} (ok : okHi h) : ∀ q : List Cp, fillQ h q ≤ 9 * q.length
  | [] => Nat.le_refl _
  | c :: r => by
    have h1 := fillQ_le ok r
    have h2 := (ok c.1).1
    show hSiz h c.1 + fillQ h r ≤ 9 * (r.length + 1)
    omega
section MDL
variable {xs : List Int} {S : List (Nat × Nat)} {T : Nat → Nat → Nat} {cc zz s : Nat}

theorem mx_169 : mxl 169 = 3 := by decide +kernel
theorem mt_169 : mtc 169 = 10 := by decide +kernel
theorem rk_169 (as : List AV) : rkA 169 as = 0 := rfl
theorem l_169_0 : look 169 0 = some (.iload_n 0, 1, 0, 0, 0, 0) := by decide +kernel
theorem l_169_1 : look 169 1 = some (.iload_n 1, 1, 0, 0, 0, 0) := by decide +kernel
theorem l_169_2 : look 169 2 = some (.if_icmp .lt 12, 3, 0, 0, 0, 0) := by decide +kernel
theorem l_169_5 : look 169 5 = some (.iload_n 0, 1, 0, 0, 0, 0) := by decide +kernel
theorem l_169_6 : look 169 6 = some (.iload_n 2, 1, 0, 0, 0, 0) := by decide +kernel
theorem l_169_7 : look 169 7 = some (.if_icmp .gt 7, 3, 0, 0, 0, 0) := by decide +kernel
theorem l_169_10 : look 169 10 = some (.iconst 1, 1, 0, 0, 0, 0) := by decide +kernel
theorem l_169_11 : look 169 11 = some (.goto 4, 3, 0, 0, 0, 0) := by decide +kernel
theorem l_169_14 : look 169 14 = some (.iconst 0, 1, 0, 0, 0, 0) := by decide +kernel
theorem l_169_15 : look 169 15 = some (.ireturn, 1, 0, 0, 1, 0) := by decide +kernel

theorem s_169 {I : Ix} {v l u : Int} : CL xs 169 [vi v, vi l, vi u] (S, I, T, cc, zz) (FN (some (vi (b2i (decide (l ≤ v ∧ v ≤ u))))) (S, I, T, cc, zz)) := by
  refine CL_start (r := 0) (ls := [vi v, vi l, vi u]) (rk_169 _) rfl ?_
  refine w_iln l_169_0 rfl ?_
  refine w_iln l_169_1 rfl ?_
  refine w_clt 14 l_169_2 (by decide) (fun h1 => ?_) (fun h1 => ?_)
  · skip
    refine w_ic l_169_14 (by decide) ?_
    refine w_ir l_169_15 (by decide) ?_
    first
      | (rw [show decide (l ≤ v ∧ v ≤ u) = true from decide_eq_true (by omega)]; exact ⟨rfl, rfl⟩)
      | (rw [show decide (l ≤ v ∧ v ≤ u) = false from decide_eq_false (by omega)]; exact ⟨rfl, rfl⟩)
  · skip
    refine w_iln l_169_5 rfl ?_
    refine w_iln l_169_6 rfl ?_
    refine w_cgt 14 l_169_7 (by decide) (fun h2 => ?_) (fun h2 => ?_)
    · skip
      refine w_ic l_169_14 (by decide) ?_
      refine w_ir l_169_15 (by decide) ?_
      first
        | (rw [show decide (l ≤ v ∧ v ≤ u) = true from decide_eq_true (by omega)]; exact ⟨rfl, rfl⟩)
        | (rw [show decide (l ≤ v ∧ v ≤ u) = false from decide_eq_false (by omega)]; exact ⟨rfl, rfl⟩)
    · skip
      refine w_ic l_169_10 (by decide) ?_
      refine w_go 15 l_169_11 (by decide) ?_
      refine w_ir l_169_15 (by decide) ?_
      first
        | (rw [show decide (l ≤ v ∧ v ≤ u) = true from decide_eq_true (by omega)]; exact ⟨rfl, rfl⟩)
        | (rw [show decide (l ≤ v ∧ v ≤ u) = false from decide_eq_false (by omega)]; exact ⟨rfl, rfl⟩)

theorem mx_205 : mxl 205 = 3 := by decide +kernel
theorem mt_205 : mtc 205 = 10 := by decide +kernel
theorem rk_205 (as : List AV) : rkA 205 as = 0 := rfl
theorem l_205_0 : look 205 0 = some (.aload_n 0, 1, 0, 0, 0, 0) := by decide +kernel
theorem l_205_1 : look 205 1 = some (.getfield 49, 3, 10, 17, 2, 1518) := by decide +kernel
theorem l_205_4 : look 205 4 = some (.bipush 7, 2, 0, 0, 0, 0) := by decide +kernel
theorem l_205_6 : look 205 6 = some (.iload_n 1, 1, 0, 0, 0, 0) := by decide +kernel
theorem l_205_7 : look 205 7 = some (.imul, 1, 0, 0, 0, 0) := by decide +kernel
theorem l_205_8 : look 205 8 = some (.iload_n 2, 1, 0, 0, 0, 0) := by decide +kernel
theorem l_205_9 : look 205 9 = some (.iadd, 1, 0, 0, 0, 0) := by decide +kernel
theorem l_205_10 : look 205 10 = some (.iaload, 1, 0, 0, 0, 0) := by decide +kernel
theorem l_205_11 : look 205 11 = some (.ireturn, 1, 0, 0, 0, 0) := by decide +kernel

theorem s_205 {I : Ix} (hm : oModel S T s) {e j : Nat} (he : e < 120) (hj : j < 7) : CL xs 205 [vr s, vi ((e : Nat) : Int), vi ((j : Nat) : Int)] (S, I, T, cc, zz) (FN (some (vi (I (s + 10) (7 * e + j)))) (S, I, T, cc, zz)) := by
  refine CL_start (r := 0) (ls := [vr s, vi ((e : Nat) : Int), vi ((j : Nat) : Int)]) (rk_205 _) rfl ?_
  refine w_aln l_205_0 rfl ?_
  refine w_gr l_205_1 (oModel_sh hm) (oModel_r17 hm) ?_
  refine w_bp l_205_4 (by decide) ?_
  refine w_iln l_205_6 rfl ?_
  refine w_mul ((7 * e : Nat) : Int) l_205_7 (by unfold wr; omega) ?_
  refine w_iln l_205_8 rfl ?_
  refine w_add ((7 * e + j : Nat) : Int) l_205_9 (by unfold wr; omega) ?_
  refine w_ia (7 * e + j) (I (s + 10) (7 * e + j)) l_205_10 (oModel_s17 hm) rfl (by omega) rfl ?_
  refine w_ir l_205_11 (Or.inl rfl) ?_
  exact ⟨rfl, rfl⟩

theorem mx_206 : mxl 206 = 3 := by decide +kernel
theorem mt_206 : mtc 206 = 10 := by decide +kernel
theorem rk_206 (as : List AV) : rkA 206 as = 1 := rfl
theorem l_206_0 : look 206 0 = some (.aload_n 0, 1, 0, 0, 0, 0) := by decide +kernel
theorem l_206_1 : look 206 1 = some (.aload_n 0, 1, 0, 0, 0, 0) := by decide +kernel
theorem l_206_2 : look 206 2 = some (.getfield 52, 3, 10, 18, 2, 1519) := by decide +kernel
theorem l_206_5 : look 206 5 = some (.iload_n 1, 1, 0, 0, 0, 0) := by decide +kernel
theorem l_206_6 : look 206 6 = some (.iaload, 1, 0, 0, 0, 0) := by decide +kernel
theorem l_206_7 : look 206 7 = some (.iload_n 2, 1, 0, 0, 0, 0) := by decide +kernel
theorem l_206_8 : look 206 8 = some (.invokevirtual 357, 3, 205, 3, 0, 1917) := by decide +kernel
theorem l_206_11 : look 206 11 = some (.ireturn, 1, 0, 0, 0, 0) := by decide +kernel

theorem s_206 {I : Ix} (hm : oModel S T s) {a : Nat → Nat} {k j : Nat} (hk : I (s + 11) k = (a k : Int)) (ha : a k < 120) (hk1 : k < 120) (hj : j < 7) : CL xs 206 [vr s, vi ((k : Nat) : Int), vi ((j : Nat) : Int)] (S, I, T, cc, zz) (FN (some (vi (I (s + 10) (7 * a k + j)))) (S, I, T, cc, zz)) := by
  refine CL_start (r := 1) (ls := [vr s, vi ((k : Nat) : Int), vi ((j : Nat) : Int)]) (rk_206 _) rfl ?_
  refine w_aln l_206_0 rfl ?_
  refine w_aln l_206_1 rfl ?_
  refine w_gr l_206_2 (oModel_sh hm) (oModel_r18 hm) ?_
  refine w_iln l_206_5 rfl ?_
  refine w_ia k (((a k) : Nat) : Int) l_206_6 (oModel_s18 hm) rfl (by omega) hk ?_
  refine w_iln l_206_7 rfl ?_
  refine q_iv [vi (((a k) : Nat) : Int), vi ((j : Nat) : Int)] [] l_206_8 rfl rfl (Nat.le_of_ble_eq_true rfl) (by rw [mx_205]; exact Nat.le_of_ble_eq_true rfl) (by rw [mt_205]; exact oModel_sh hm) (by rw [mt_205]; decide) (by rw [rk_205]; decide) (s_205 hm (by omega) hj) ?_
  refine w_ir l_206_11 (Or.inl rfl) ?_
  exact ⟨rfl, rfl⟩

theorem mx_207 : mxl 207 = 2 := by decide +kernel
theorem mt_207 : mtc 207 = 10 := by decide +kernel
theorem rk_207 (as : List AV) : rkA 207 as = 2 := rfl
theorem l_207_0 : look 207 0 = some (.aload_n 0, 1, 0, 0, 0, 0) := by decide +kernel
theorem l_207_1 : look 207 1 = some (.iload_n 1, 1, 0, 0, 0, 0) := by decide +kernel
theorem l_207_2 : look 207 2 = some (.iconst 4, 1, 0, 0, 0, 0) := by decide +kernel
theorem l_207_3 : look 207 3 = some (.invokevirtual 360, 3, 206, 3, 0, 1944) := by decide +kernel
theorem l_207_6 : look 207 6 = some (.ireturn, 1, 0, 0, 0, 0) := by decide +kernel

theorem s_207 {I : Ix} (hm : oModel S T s) {h : Hi} {a : Nat → Nat} {ne np k : Nat} (H : mH I s h a ne np) (hk : k < np) : CL xs 207 [vr s, vi ((k : Nat) : Int)] (S, I, T, cc, zz) (FN (some (vi ((hSiz h k : Nat) : Int))) (S, I, T, cc, zz)) := by
  refine CL_start (r := 2) (ls := [vr s, vi ((k : Nat) : Int)]) (rk_207 _) rfl ?_
  refine w_aln l_207_0 rfl ?_
  refine w_iln l_207_1 rfl ?_
  refine w_ic l_207_2 (by decide) ?_
  refine q_iv [vi ((k : Nat) : Int), vi 4] [] l_207_3 rfl rfl (Nat.le_of_ble_eq_true rfl) (by rw [mx_206]; exact Nat.le_of_ble_eq_true rfl) (by rw [mt_206]; exact oModel_sh hm) (by rw [mt_206]; decide) (by rw [rk_206]; decide) (s_206 hm (H.2.2.2 k hk).1 (by have := (H.2.2.2 k hk).2.1; have := H.1; omega) (by have := H.1; have := H.2.1; omega) (by decide)) ?_
  refine w_ir l_207_6 (Or.inl rfl) ?_
  refine ⟨?_, rfl⟩
  rw [(H.2.2.2 k hk).2.2.2.2.1]

theorem mx_208 : mxl 208 = 2 := by decide +kernel
theorem mt_208 : mtc 208 = 10 := by decide +kernel
theorem rk_208 (as : List AV) : rkA 208 as = 2 := rfl
theorem l_208_0 : look 208 0 = some (.aload_n 0, 1, 0, 0, 0, 0) := by decide +kernel
theorem l_208_1 : look 208 1 = some (.iload_n 1, 1, 0, 0, 0, 0) := by decide +kernel
theorem l_208_2 : look 208 2 = some (.iconst 5, 1, 0, 0, 0, 0) := by decide +kernel
theorem l_208_3 : look 208 3 = some (.invokevirtual 360, 3, 206, 3, 0, 1944) := by decide +kernel
theorem l_208_6 : look 208 6 = some (.ireturn, 1, 0, 0, 0, 0) := by decide +kernel

theorem s_208 {I : Ix} (hm : oModel S T s) {h : Hi} {a : Nat → Nat} {ne np k : Nat} (H : mH I s h a ne np) (hk : k < np) : CL xs 208 [vr s, vi ((k : Nat) : Int)] (S, I, T, cc, zz) (FN (some (vi ((hRnk h k : Nat) : Int))) (S, I, T, cc, zz)) := by
  refine CL_start (r := 2) (ls := [vr s, vi ((k : Nat) : Int)]) (rk_208 _) rfl ?_
  refine w_aln l_208_0 rfl ?_
  refine w_iln l_208_1 rfl ?_
  refine w_ic l_208_2 (by decide) ?_
  refine q_iv [vi ((k : Nat) : Int), vi 5] [] l_208_3 rfl rfl (Nat.le_of_ble_eq_true rfl) (by rw [mx_206]; exact Nat.le_of_ble_eq_true rfl) (by rw [mt_206]; exact oModel_sh hm) (by rw [mt_206]; decide) (by rw [rk_206]; decide) (s_206 hm (H.2.2.2 k hk).1 (by have := (H.2.2.2 k hk).2.1; have := H.1; omega) (by have := H.1; have := H.2.1; omega) (by decide)) ?_
  refine w_ir l_208_6 (Or.inl rfl) ?_
  refine ⟨?_, rfl⟩
  rw [(H.2.2.2 k hk).2.2.2.2.2]

theorem mx_209 : mxl 209 = 4 := by decide +kernel
theorem mt_209 : mtc 209 = 10 := by decide +kernel
theorem rk_209 (as : List AV) : rkA 209 as = 3 := rfl
theorem l_209_0 : look 209 0 = some (.iconst 0, 1, 0, 0, 0, 0) := by decide +kernel
theorem l_209_1 : look 209 1 = some (.istore_n 2, 1, 0, 0, 0, 0) := by decide +kernel
theorem l_209_2 : look 209 2 = some (.iconst 0, 1, 0, 0, 0, 0) := by decide +kernel
theorem l_209_3 : look 209 3 = some (.istore_n 3, 1, 0, 0, 0, 0) := by decide +kernel
theorem l_209_4 : look 209 4 = some (.iload_n 3, 1, 0, 0, 0, 0) := by decide +kernel
theorem l_209_5 : look 209 5 = some (.aload_n 0, 1, 0, 0, 0, 0) := by decide +kernel
theorem l_209_6 : look 209 6 = some (.getfield 122, 3, 10, 59, 2, 1560) := by decide +kernel
theorem l_209_9 : look 209 9 = some (.iload_n 1, 1, 0, 0, 0, 0) := by decide +kernel
theorem l_209_10 : look 209 10 = some (.iaload, 1, 0, 0, 0, 0) := by decide +kernel
theorem l_209_11 : look 209 11 = some (.if_icmp .ge 27, 3, 0, 0, 0, 0) := by decide +kernel
theorem l_209_14 : look 209 14 = some (.iload_n 2, 1, 0, 0, 0, 0) := by decide +kernel
theorem l_209_15 : look 209 15 = some (.aload_n 0, 1, 0, 0, 0, 0) := by decide +kernel
theorem l_209_16 : look 209 16 = some (.aload_n 0, 1, 0, 0, 0, 0) := by decide +kernel
theorem l_209_17 : look 209 17 = some (.getfield 116, 3, 10, 57, 2, 1558) := by decide +kernel
theorem l_209_20 : look 209 20 = some (.bipush 100, 2, 0, 0, 0, 0) := by decide +kernel
theorem l_209_22 : look 209 22 = some (.iload_n 1, 1, 0, 0, 0, 0) := by decide +kernel
theorem l_209_23 : look 209 23 = some (.imul, 1, 0, 0, 0, 0) := by decide +kernel
theorem l_209_24 : look 209 24 = some (.iload_n 3, 1, 0, 0, 0, 0) := by decide +kernel
theorem l_209_25 : look 209 25 = some (.iadd, 1, 0, 0, 0, 0) := by decide +kernel
theorem l_209_26 : look 209 26 = some (.iaload, 1, 0, 0, 0, 0) := by decide +kernel
theorem l_209_27 : look 209 27 = some (.invokevirtual 363, 3, 207, 2, 0, 1948) := by decide +kernel
theorem l_209_30 : look 209 30 = some (.iadd, 1, 0, 0, 0, 0) := by decide +kernel
theorem l_209_31 : look 209 31 = some (.istore_n 2, 1, 0, 0, 0, 0) := by decide +kernel
theorem l_209_32 : look 209 32 = some (.iinc 3 1, 3, 0, 0, 0, 0) := by decide +kernel
theorem l_209_35 : look 209 35 = some (.goto (-31), 3, 0, 0, 0, 0) := by decide +kernel
theorem l_209_38 : look 209 38 = some (.iload_n 2, 1, 0, 0, 0, 0) := by decide +kernel
theorem l_209_39 : look 209 39 = some (.ireturn, 1, 0, 0, 0, 0) := by decide +kernel

theorem lp_209 {I : Ix} (hm : oModel S T s) {h : Hi} {a : Nat → Nat} {ne np p : Nat} {q : List Cp} (H : mH I s h a ne np) (ok : okHi h) (hp : p < 4) (hQ : mQ I s p q) (hq : ∀ k, k < q.length → (q.getD k (0, 0)).1 < np) : ∀ d k, k + d = q.length → WP xs 209 3 4 [vr s, vi ((p : Nat) : Int), vi (((fillQ h (q.take k)) : Nat) : Int), vi ((k : Nat) : Int)] [] (S, I, T, cc, zz) (FN (some (vi ((fillQ h q : Nat) : Int))) (S, I, T, cc, zz)) := by
  intro d
  have hQ2 := hQ.2.1
  induction d with
  | zero =>
    intro k hk
    refine w_iln l_209_4 rfl ?_
    refine w_aln l_209_5 rfl ?_
    refine w_gr l_209_6 (oModel_sh hm) (oModel_r59 hm) ?_
    refine w_iln l_209_9 rfl ?_
    refine w_ia p ((q.length : Nat) : Int) l_209_10 (oModel_s59 hm) rfl (by omega) hQ.1 ?_
    refine w_cge 38 l_209_11 (by decide) (fun _ => ?_) (fun hx => absurd hx (by omega))
    refine w_iln l_209_38 rfl ?_
    refine w_ir l_209_39 (Or.inl rfl) ?_
    have e9 : q.take k = q := List.take_of_length_le (by omega)
    rw [e9]
    exact ⟨rfl, rfl⟩
  | succ d ih =>
    intro k hk
    refine w_iln l_209_4 rfl ?_
    refine w_aln l_209_5 rfl ?_
    refine w_gr l_209_6 (oModel_sh hm) (oModel_r59 hm) ?_
    refine w_iln l_209_9 rfl ?_
    refine w_ia p ((q.length : Nat) : Int) l_209_10 (oModel_s59 hm) rfl (by omega) hQ.1 ?_
    refine w_cge 38 l_209_11 (by decide) (fun hx => absurd hx (by omega)) (fun _ => ?_)
    have hs9 := fillQ_s (h := h) (q := q) (k := k) (by omega)
    have hl9 := fillQ_le ok (q.take (k + 1))
    have ht9 : (q.take (k + 1)).length ≤ 100 := by rw [List.length_take]; omega
    refine w_iln l_209_14 rfl ?_
    refine w_aln l_209_15 rfl ?_
    refine w_aln l_209_16 rfl ?_
    refine w_gr l_209_17 (oModel_sh hm) (oModel_r57 hm) ?_
    refine w_bp l_209_20 (by decide) ?_
    refine w_iln l_209_22 rfl ?_
    refine w_mul ((100 * p : Nat) : Int) l_209_23 (by unfold wr; omega) ?_
    refine w_iln l_209_24 rfl ?_
    refine w_add ((100 * p + k : Nat) : Int) l_209_25 (by unfold wr; omega) ?_
    refine w_ia (100 * p + k) (((q.getD k (0, 0)).1 : Nat) : Int) l_209_26 (oModel_s57 hm) rfl (by omega) ((hQ.2.2 k (by omega)).1) ?_
    refine q_iv [vi (((q.getD k (0, 0)).1 : Nat) : Int)] [vi (((fillQ h (q.take k)) : Nat) : Int)] l_209_27 rfl rfl (Nat.le_of_ble_eq_true rfl) (by rw [mx_207]; exact Nat.le_of_ble_eq_true rfl) (by rw [mt_207]; exact oModel_sh hm) (by rw [mt_207]; decide) (by rw [rk_207]; decide) (s_207 hm H (hq k (by omega))) ?_
    refine w_add (((fillQ h (q.take (k + 1))) : Nat) : Int) l_209_30 (by unfold wr; omega) ?_
    refine w_isn l_209_31 ⟨Nat.le_of_ble_eq_true rfl, rfl⟩ ?_
    refine w_inc ((k + 1 : Nat) : Int) l_209_32 rfl rfl (by unfold wr; omega) ?_
    refine w_go 4 l_209_35 (by decide) ?_
    exact ih (k + 1) (by omega)
theorem s_209 {I : Ix} (hm : oModel S T s) {h : Hi} {a : Nat → Nat} {ne np p : Nat} {q : List Cp} (H : mH I s h a ne np) (ok : okHi h) (hp : p < 4) (hQ : mQ I s p q) (hq : ∀ k, k < q.length → (q.getD k (0, 0)).1 < np) : CL xs 209 [vr s, vi ((p : Nat) : Int)] (S, I, T, cc, zz) (FN (some (vi ((fillQ h q : Nat) : Int))) (S, I, T, cc, zz)) := by
  refine CL_start (r := 3) (ls := [vr s, vi ((p : Nat) : Int), vs 2, vs 2]) (rk_209 _) rfl ?_
  refine w_ic l_209_0 (by decide) ?_
  refine w_isn l_209_1 ⟨Nat.le_of_ble_eq_true rfl, rfl⟩ ?_
  refine w_ic l_209_2 (by decide) ?_
  refine w_isn l_209_3 ⟨Nat.le_of_ble_eq_true rfl, rfl⟩ ?_
  exact lp_209 hm H ok hp hQ hq q.length 0 (by omega)

end MDL
