/-! the reference: looks at queues -/
def fillN (h : Hi) (A : Sa) (n : Nat) : Nat := ((List.range n).map (fillP h A)).sum
theorem fillN_s {h : Hi} {A : Sa} {n : Nat} : fillN h A (n + 1) = fillN h A n + fillP h A n := by
  unfold fillN
  rw [List.range_succ, List.map_append, List.sum_append]
  simp
theorem fillN_le {h : Hi} {l : Li} {np u : Nat} {r : Ra} (H : okR h l np u r) : ∀ n, fillN h r.1 n ≤ 99 * n
  | 0 => Nat.le_refl _
  | n + 1 => by
    have h1 := fillN_le H n
    have h2 := H.2.1 n
    rw [fillN_s]
    omega
/-- of the last ones, d of n, the place b of the least below z that is nearest to the end; -1 -/
def PB (f : Nat → Nat) (z n k : Nat) (b : Int) : Prop := (b = -1 ∧ ∀ i, k ≤ i → i < n → z ≤ f i) ∨ ∃ m : Nat, b = (m : Int) ∧ k ≤ m ∧ m < n ∧ f m < z ∧ (∀ i, k ≤ i → i < n → f m ≤ f i) ∧ ∀ i, m < i → i < n → f m < f i
theorem PB_end {f : Nat → Nat} {z n : Nat} {b : Int} (h : PB f z n 0 b) (he : ∃ i, i < n ∧ f i < z) : b = ((loK f n : Nat) : Int) := by
  obtain ⟨i, hi, hz⟩ := he
  rcases h with ⟨h1, h2⟩ | ⟨m, h1, h2, h3, h4, h5, h6⟩
  · have := h2 i (Nat.zero_le _) hi
    omega
  · have hl := loK_lt f n (by omega)
    have h7 := loK_le f n m h3
    have h8 := h5 (loK f n) (Nat.zero_le _) hl
    rcases Nat.lt_trichotomy m (loK f n) with h9 | h9 | h9
    · have := h6 (loK f n) h9 hl
      omega
    · rw [h1, h9]
    · have := loK_la f n m h3 h9
      omega
theorem PB_no {f : Nat → Nat} {z n k : Nat} {b : Int} (h : PB f z n (k + 1) b) (hk : z ≤ f k) : PB f z n k b := by
  rcases h with ⟨h1, h2⟩ | ⟨m, h1, h2, h3, h4, h5, h6⟩
  · refine Or.inl ⟨h1, fun i h3 h4 => ?_⟩
    by_cases hik : i = k
    · rw [hik]; exact hk
    · exact h2 i (by omega) h4
  · refine Or.inr ⟨m, h1, by omega, h3, h4, fun i h7 h8 => ?_, h6⟩
    by_cases hik : i = k
    · rw [hik]; omega
    · exact h5 i (by omega) h8
theorem PB_ge {f : Nat → Nat} {z n k m : Nat} (h : PB f z n (k + 1) (m : Int)) (hk : f m ≤ f k) : PB f z n k (m : Int) := by
  rcases h with ⟨h1, h2⟩ | ⟨m', h1, h2, h3, h4, h5, h6⟩
  · omega
  · have e : m' = m := by omega
    subst e
    refine Or.inr ⟨m', h1, by omega, h3, h4, fun i h7 h8 => ?_, h6⟩
    by_cases hik : i = k
    · rw [hik]; omega
    · exact h5 i (by omega) h8
theorem PB_in {f : Nat → Nat} {z n k : Nat} {b : Int} (h : PB f z n (k + 1) b) (hk : k < n) (hz : f k < z) (hb : b = -1 ∨ ∃ m : Nat, b = (m : Int) ∧ f k < f m) : PB f z n k ((k : Nat) : Int) := by
  refine Or.inr ⟨k, rfl, Nat.le_refl _, hk, hz, ?_⟩
  rcases h with ⟨h1, h2⟩ | ⟨m', h1, h2, h3, h4, h5, h6⟩
  · refine ⟨fun i h3 h4 => ?_, fun i h3 h4 => ?_⟩
    · by_cases hik : i = k
      · rw [hik]; exact Nat.le_refl _
      · have := h2 i (by omega) h4; omega
    · have := h2 i (by omega) h4; omega
  · rcases hb with hb | ⟨m, hb, hm⟩
    · omega
    · have e : m' = m := by omega
      subst e
      refine ⟨fun i h7 h8 => ?_, fun i h7 h8 => ?_⟩
      · by_cases hik : i = k
        · rw [hik]; exact Nat.le_refl _
        · have := h5 i (by omega) h8; omega
      · have := h5 i (by omega) h8; omega
section REG
variable {xs : List Int} {S : List (Nat × Nat)} {T : Nat → Nat → Nat} {cc zz s : Nat} {h : Hi} {l : Li} {r : Ra} {I I' : Ix}

theorem r_fillOf (hm : oModel S T s) {e ne np u : Nat} {a : Nat → Nat} (E : ME I s e h l a ne np) (hR : nR I s l r) (hok : okR h l np u r) {p : Nat} (hp : p < 4) : CL xs 209 [vr s, vi ((p : Nat) : Int)] (S, I, T, cc, zz) (FN (some (vi ((fillP h r.1 p : Nat) : Int))) (S, I, T, cc, zz)) :=
  s_209 hm E.H E.ok hp (hR.1.2.2.1 p hp) (ok_hq hok)

theorem mx_210 : mxl 210 = 3 := by decide +kernel
theorem mt_210 : mtc 210 = 10 := by decide +kernel
theorem rk_210 (as : List AV) : rkA 210 as = 4 := rfl
theorem l_210_0 : look 210 0 = some (.iconst 0, 1, 0, 0, 0, 0) := by decide +kernel
theorem l_210_1 : look 210 1 = some (.istore_n 1, 1, 0, 0, 0, 0) := by decide +kernel
theorem l_210_2 : look 210 2 = some (.iconst 0, 1, 0, 0, 0, 0) := by decide +kernel
theorem l_210_3 : look 210 3 = some (.istore_n 2, 1, 0, 0, 0, 0) := by decide +kernel
theorem l_210_4 : look 210 4 = some (.iload_n 2, 1, 0, 0, 0, 0) := by decide +kernel
theorem l_210_5 : look 210 5 = some (.aload_n 0, 1, 0, 0, 0, 0) := by decide +kernel
theorem l_210_6 : look 210 6 = some (.getfield 324, 3, 10, 1, 0, 1502) := by decide +kernel
theorem l_210_9 : look 210 9 = some (.if_icmp .ge 17, 3, 0, 0, 0, 0) := by decide +kernel
theorem l_210_12 : look 210 12 = some (.iload_n 1, 1, 0, 0, 0, 0) := by decide +kernel
theorem l_210_13 : look 210 13 = some (.aload_n 0, 1, 0, 0, 0, 0) := by decide +kernel
theorem l_210_14 : look 210 14 = some (.iload_n 2, 1, 0, 0, 0, 0) := by decide +kernel
theorem l_210_15 : look 210 15 = some (.invokevirtual 366, 3, 209, 2, 0, 1968) := by decide +kernel
theorem l_210_18 : look 210 18 = some (.iadd, 1, 0, 0, 0, 0) := by decide +kernel
theorem l_210_19 : look 210 19 = some (.istore_n 1, 1, 0, 0, 0, 0) := by decide +kernel
theorem l_210_20 : look 210 20 = some (.iinc 2 1, 3, 0, 0, 0, 0) := by decide +kernel
theorem l_210_23 : look 210 23 = some (.goto (-19), 3, 0, 0, 0, 0) := by decide +kernel
theorem l_210_26 : look 210 26 = some (.iload_n 1, 1, 0, 0, 0, 0) := by decide +kernel
theorem l_210_27 : look 210 27 = some (.ireturn, 1, 0, 0, 0, 0) := by decide +kernel

theorem lp_210 (hm : oModel S T s) {e ne np u : Nat} {a : Nat → Nat} (E : ME I s e h l a ne np) (hR : nR I s l r) (hok : okR h l np u r) : ∀ d q, q + d = lPorts l → WP xs 210 4 4 [vr s, vi (((fillN h r.1 q) : Nat) : Int), vi ((q : Nat) : Int)] [] (S, I, T, cc, zz) (FN (some (vi ((fillAll h (lPorts l) r.1 : Nat) : Int))) (S, I, T, cc, zz)) := by
  intro d
  have hl4 := E.okl.1
  induction d with
  | zero =>
    intro q hq
    refine w_iln l_210_4 rfl ?_
    refine w_aln l_210_5 rfl ?_
    refine w_gi (((lPorts l) : Nat) : Int) l_210_6 (oModel_sh hm) E.L.1 ?_
    refine w_cge 26 l_210_9 (by decide) (fun _ => ?_) (fun hx => absurd hx (by omega))
    refine w_iln l_210_26 rfl ?_
    refine w_ir l_210_27 (Or.inl rfl) ?_
    have e9 : q = lPorts l := by omega
    rw [e9]
    exact ⟨rfl, rfl⟩
  | succ d ih =>
    intro q hq
    refine w_iln l_210_4 rfl ?_
    refine w_aln l_210_5 rfl ?_
    refine w_gi (((lPorts l) : Nat) : Int) l_210_6 (oModel_sh hm) E.L.1 ?_
    refine w_cge 26 l_210_9 (by decide) (fun hx => absurd hx (by omega)) (fun _ => ?_)
    have hfn := fillN_le hok q
    have hfq := hok.2.1 q
    refine w_iln l_210_12 rfl ?_
    refine w_aln l_210_13 rfl ?_
    refine w_iln l_210_14 rfl ?_
    refine q_iv [vi ((q : Nat) : Int)] [vi (((fillN h r.1 q) : Nat) : Int)] l_210_15 rfl rfl (Nat.le_of_ble_eq_true rfl) (by rw [mx_209]; exact Nat.le_of_ble_eq_true rfl) (by rw [mt_209]; exact oModel_sh hm) (by rw [mt_209]; decide) (by rw [rk_209]; decide) (r_fillOf hm E hR hok (by omega)) ?_
    refine w_add (((fillN h r.1 q) + (fillP h r.1 q) : Nat) : Int) l_210_18 (by unfold wr; omega) ?_
    refine w_isn l_210_19 ⟨Nat.le_of_ble_eq_true rfl, rfl⟩ ?_
    refine w_inc ((q + 1 : Nat) : Int) l_210_20 rfl rfl (by unfold wr; omega) ?_
    refine w_go 4 l_210_23 (by decide) ?_
    have e9 := ih (q + 1) (by omega)
    rw [fillN_s] at e9
    exact e9
theorem s_210 (hm : oModel S T s) {e ne np u : Nat} {a : Nat → Nat} (E : ME I s e h l a ne np) (hR : nR I s l r) (hok : okR h l np u r) : CL xs 210 [vr s] (S, I, T, cc, zz) (FN (some (vi ((fillAll h (lPorts l) r.1 : Nat) : Int))) (S, I, T, cc, zz)) := by
  refine CL_start (r := 4) (ls := [vr s, vs 2, vs 2]) (rk_210 _) rfl ?_
  refine w_ic l_210_0 (by decide) ?_
  refine w_isn l_210_1 ⟨Nat.le_of_ble_eq_true rfl, rfl⟩ ?_
  refine w_ic l_210_2 (by decide) ?_
  refine w_isn l_210_3 ⟨Nat.le_of_ble_eq_true rfl, rfl⟩ ?_
  exact lp_210 hm E hR hok _ 0 (Nat.zero_add _)

theorem mx_224 : mxl 224 = 6 := by decide +kernel
theorem mt_224 : mtc 224 = 10 := by decide +kernel
theorem rk_224 (as : List AV) : rkA 224 as = 3 := rfl
theorem l_224_0 : look 224 0 = some (.iconst 0, 1, 0, 0, 0, 0) := by decide +kernel
theorem l_224_1 : look 224 1 = some (.istore_n 3, 1, 0, 0, 0, 0) := by decide +kernel
theorem l_224_2 : look 224 2 = some (.iconst 0, 1, 0, 0, 0, 0) := by decide +kernel
theorem l_224_3 : look 224 3 = some (.istore 4, 2, 0, 0, 0, 0) := by decide +kernel
theorem l_224_5 : look 224 5 = some (.iload 4, 2, 0, 0, 0, 0) := by decide +kernel
theorem l_224_7 : look 224 7 = some (.aload_n 0, 1, 0, 0, 0, 0) := by decide +kernel
theorem l_224_8 : look 224 8 = some (.getfield 122, 3, 10, 59, 2, 1560) := by decide +kernel
theorem l_224_11 : look 224 11 = some (.iload_n 1, 1, 0, 0, 0, 0) := by decide +kernel
theorem l_224_12 : look 224 12 = some (.iaload, 1, 0, 0, 0, 0) := by decide +kernel
theorem l_224_13 : look 224 13 = some (.if_icmp .ge 46, 3, 0, 0, 0, 0) := by decide +kernel
theorem l_224_16 : look 224 16 = some (.aload_n 0, 1, 0, 0, 0, 0) := by decide +kernel
theorem l_224_17 : look 224 17 = some (.getfield 116, 3, 10, 57, 2, 1558) := by decide +kernel
theorem l_224_20 : look 224 20 = some (.bipush 100, 2, 0, 0, 0, 0) := by decide +kernel
theorem l_224_22 : look 224 22 = some (.iload_n 1, 1, 0, 0, 0, 0) := by decide +kernel
theorem l_224_23 : look 224 23 = some (.imul, 1, 0, 0, 0, 0) := by decide +kernel
theorem l_224_24 : look 224 24 = some (.iload 4, 2, 0, 0, 0, 0) := by decide +kernel
theorem l_224_26 : look 224 26 = some (.iadd, 1, 0, 0, 0, 0) := by decide +kernel
theorem l_224_27 : look 224 27 = some (.iaload, 1, 0, 0, 0, 0) := by decide +kernel
theorem l_224_28 : look 224 28 = some (.istore 5, 2, 0, 0, 0, 0) := by decide +kernel
theorem l_224_30 : look 224 30 = some (.iload_n 3, 1, 0, 0, 0, 0) := by decide +kernel
theorem l_224_31 : look 224 31 = some (.aload_n 0, 1, 0, 0, 0, 0) := by decide +kernel
theorem l_224_32 : look 224 32 = some (.iload 5, 2, 0, 0, 0, 0) := by decide +kernel
theorem l_224_34 : look 224 34 = some (.invokevirtual 428, 3, 208, 2, 0, 1960) := by decide +kernel
theorem l_224_37 : look 224 37 = some (.iload_n 2, 1, 0, 0, 0, 0) := by decide +kernel
theorem l_224_38 : look 224 38 = some (.if_icmp .ge 12, 3, 0, 0, 0, 0) := by decide +kernel
theorem l_224_41 : look 224 41 = some (.aload_n 0, 1, 0, 0, 0, 0) := by decide +kernel
theorem l_224_42 : look 224 42 = some (.iload 5, 2, 0, 0, 0, 0) := by decide +kernel
theorem l_224_44 : look 224 44 = some (.invokevirtual 363, 3, 207, 2, 0, 1948) := by decide +kernel
theorem l_224_47 : look 224 47 = some (.goto 4, 3, 0, 0, 0, 0) := by decide +kernel
theorem l_224_50 : look 224 50 = some (.iconst 0, 1, 0, 0, 0, 0) := by decide +kernel
theorem l_224_51 : look 224 51 = some (.iadd, 1, 0, 0, 0, 0) := by decide +kernel
theorem l_224_52 : look 224 52 = some (.istore_n 3, 1, 0, 0, 0, 0) := by decide +kernel
theorem l_224_53 : look 224 53 = some (.iinc 4 1, 3, 0, 0, 0, 0) := by decide +kernel
theorem l_224_56 : look 224 56 = some (.goto (-51), 3, 0, 0, 0, 0) := by decide +kernel
theorem l_224_59 : look 224 59 = some (.iload_n 3, 1, 0, 0, 0, 0) := by decide +kernel
theorem l_224_60 : look 224 60 = some (.ireturn, 1, 0, 0, 0, 0) := by decide +kernel

theorem lp_224 (hm : oModel S T s) {e ne np u : Nat} {a : Nat → Nat} (E : ME I s e h l a ne np) (hR : nR I s l r) (hok : okR h l np u r) {p z : Nat} (hp : p < 4) : ∀ d k, k + d = (sQ r.1 p).length → ∀ v5 : AV, WP xs 224 3 5 [vr s, vi ((p : Nat) : Int), vi ((z : Nat) : Int), vi (((blwK h (sQ r.1 p) z k) : Nat) : Int), vi ((k : Nat) : Int), v5] [] (S, I, T, cc, zz) (FN (some (vi ((belowQ h z (sQ r.1 p) : Nat) : Int))) (S, I, T, cc, zz)) := by
  intro d
  have hQ2 := (hR.1.2.2.1 p hp).2.1
  induction d with
  | zero =>
    intro k hk v5
    refine w_il l_224_5 rfl ?_
    refine w_aln l_224_7 rfl ?_
    refine w_gr l_224_8 (oModel_sh hm) (oModel_r59 hm) ?_
    refine w_iln l_224_11 rfl ?_
    refine w_ia p (((sQ r.1 p).length : Nat) : Int) l_224_12 (oModel_s59 hm) rfl (by omega) ((hR.1.2.2.1 p hp).1) ?_
    refine w_cge 59 l_224_13 (by decide) (fun _ => ?_) (fun hx => absurd hx (by omega))
    refine w_iln l_224_59 rfl ?_
    refine w_ir l_224_60 (Or.inl rfl) ?_
    have e9 : k = (sQ r.1 p).length := by omega
    rw [e9, blw_len]
    exact ⟨rfl, rfl⟩
  | succ d ih =>
    intro k hk v5
    refine w_il l_224_5 rfl ?_
    refine w_aln l_224_7 rfl ?_
    refine w_gr l_224_8 (oModel_sh hm) (oModel_r59 hm) ?_
    refine w_iln l_224_11 rfl ?_
    refine w_ia p (((sQ r.1 p).length : Nat) : Int) l_224_12 (oModel_s59 hm) rfl (by omega) ((hR.1.2.2.1 p hp).1) ?_
    refine w_cge 59 l_224_13 (by decide) (fun hx => absurd hx (by omega)) (fun _ => ?_)
    have h53 : hSiz h ((sQ r.1 p).getD k (0, 0)).1 ≤ 9 := (E.ok _).1
    have h52 := blwK_le E.ok (sQ r.1 p) z k
    have hll := ok_len hok E.ok p
    refine w_aln l_224_16 rfl ?_
    refine w_gr l_224_17 (oModel_sh hm) (oModel_r57 hm) ?_
    refine w_bp l_224_20 (by decide) ?_
    refine w_iln l_224_22 rfl ?_
    refine w_mul ((100 * p : Nat) : Int) l_224_23 (by unfold wr; omega) ?_
    refine w_il l_224_24 rfl ?_
    refine w_add ((100 * p + k : Nat) : Int) l_224_26 (by unfold wr; omega) ?_
    refine w_ia (100 * p + k) ((((sQ r.1 p).getD k (0, 0)).1 : Nat) : Int) l_224_27 (oModel_s57 hm) rfl (by omega) (((hR.1.2.2.1 p hp).2.2 k (by omega)).1) ?_
    refine w_is l_224_28 ⟨Nat.le_of_ble_eq_true rfl, rfl⟩ ?_
    refine w_iln l_224_30 rfl ?_
    refine w_aln l_224_31 rfl ?_
    refine w_il l_224_32 rfl ?_
    refine q_iv [vi ((((sQ r.1 p).getD k (0, 0)).1 : Nat) : Int)] [vi (((blwK h (sQ r.1 p) z k) : Nat) : Int)] l_224_34 rfl rfl (Nat.le_of_ble_eq_true rfl) (by rw [mx_208]; exact Nat.le_of_ble_eq_true rfl) (by rw [mt_208]; exact oModel_sh hm) (by rw [mt_208]; decide) (by rw [rk_208]; decide) (s_208 hm E.H (ok_hq hok k (by omega))) ?_
    refine w_iln l_224_37 rfl ?_
    refine w_cge 50 l_224_38 (by decide) (fun h1 => ?_) (fun h1 => ?_)
    · skip
      refine w_ic l_224_50 (by decide) ?_
      refine w_add (((blwK h (sQ r.1 p) z k) + 0 : Nat) : Int) l_224_51 (by unfold wr; omega) ?_
      refine w_isn l_224_52 ⟨Nat.le_of_ble_eq_true rfl, rfl⟩ ?_
      refine w_inc ((k + 1 : Nat) : Int) l_224_53 rfl rfl (by unfold wr; omega) ?_
      refine w_go 5 l_224_56 (by decide) ?_
      have er : rkQ h (sQ r.1 p) k = hRnk h ((sQ r.1 p).getD k (0, 0)).1 := rfl
      have e9 : blwK h (sQ r.1 p) z (k + 1) = _ := if_neg (by omega)
      have e8 := ih (k + 1) (by omega) (vi ((((sQ r.1 p).getD k (0, 0)).1 : Nat) : Int))
      rw [e9] at e8
      exact e8
    · skip
      refine w_aln l_224_41 rfl ?_
      refine w_il l_224_42 rfl ?_
      refine q_iv [vi ((((sQ r.1 p).getD k (0, 0)).1 : Nat) : Int)] [vi (((blwK h (sQ r.1 p) z k) : Nat) : Int)] l_224_44 rfl rfl (Nat.le_of_ble_eq_true rfl) (by rw [mx_207]; exact Nat.le_of_ble_eq_true rfl) (by rw [mt_207]; exact oModel_sh hm) (by rw [mt_207]; decide) (by rw [rk_207]; decide) (s_207 hm E.H (ok_hq hok k (by omega))) ?_
      refine w_go 51 l_224_47 (by decide) ?_
      refine w_add (((blwK h (sQ r.1 p) z k) + (hSiz h ((sQ r.1 p).getD k (0, 0)).1) : Nat) : Int) l_224_51 (by unfold wr; omega) ?_
      refine w_isn l_224_52 ⟨Nat.le_of_ble_eq_true rfl, rfl⟩ ?_
      refine w_inc ((k + 1 : Nat) : Int) l_224_53 rfl rfl (by unfold wr; omega) ?_
      refine w_go 5 l_224_56 (by decide) ?_
      have er : rkQ h (sQ r.1 p) k = hRnk h ((sQ r.1 p).getD k (0, 0)).1 := rfl
      have e9 : blwK h (sQ r.1 p) z (k + 1) = _ := if_pos (by omega)
      have e8 := ih (k + 1) (by omega) (vi ((((sQ r.1 p).getD k (0, 0)).1 : Nat) : Int))
      rw [e9] at e8
      exact e8
theorem s_224 (hm : oModel S T s) {e ne np u : Nat} {a : Nat → Nat} (E : ME I s e h l a ne np) (hR : nR I s l r) (hok : okR h l np u r) {p z : Nat} (hp : p < 4) : CL xs 224 [vr s, vi ((p : Nat) : Int), vi ((z : Nat) : Int)] (S, I, T, cc, zz) (FN (some (vi ((belowQ h z (sQ r.1 p) : Nat) : Int))) (S, I, T, cc, zz)) := by
  refine CL_start (r := 3) (ls := [vr s, vi ((p : Nat) : Int), vi ((z : Nat) : Int), vs 2, vs 2, vs 2]) (rk_224 _) rfl ?_
  refine w_ic l_224_0 (by decide) ?_
  refine w_isn l_224_1 ⟨Nat.le_of_ble_eq_true rfl, rfl⟩ ?_
  refine w_ic l_224_2 (by decide) ?_
  refine w_is l_224_3 ⟨Nat.le_of_ble_eq_true rfl, rfl⟩ ?_
  exact lp_224 hm E hR hok hp (sQ r.1 p).length 0 (by omega) _

theorem mx_226 : mxl 226 = 4 := by decide +kernel
theorem mt_226 : mtc 226 = 10 := by decide +kernel
theorem rk_226 (as : List AV) : rkA 226 as = 3 := rfl
theorem l_226_0 : look 226 0 = some (.iconst 0, 1, 0, 0, 0, 0) := by decide +kernel
theorem l_226_1 : look 226 1 = some (.istore_n 2, 1, 0, 0, 0, 0) := by decide +kernel
theorem l_226_2 : look 226 2 = some (.iconst 1, 1, 0, 0, 0, 0) := by decide +kernel
theorem l_226_3 : look 226 3 = some (.istore_n 3, 1, 0, 0, 0, 0) := by decide +kernel
theorem l_226_4 : look 226 4 = some (.iload_n 3, 1, 0, 0, 0, 0) := by decide +kernel
theorem l_226_5 : look 226 5 = some (.aload_n 0, 1, 0, 0, 0, 0) := by decide +kernel
theorem l_226_6 : look 226 6 = some (.getfield 122, 3, 10, 59, 2, 1560) := by decide +kernel
theorem l_226_9 : look 226 9 = some (.iload_n 1, 1, 0, 0, 0, 0) := by decide +kernel
theorem l_226_10 : look 226 10 = some (.iaload, 1, 0, 0, 0, 0) := by decide +kernel
theorem l_226_11 : look 226 11 = some (.if_icmp .ge 44, 3, 0, 0, 0, 0) := by decide +kernel
theorem l_226_14 : look 226 14 = some (.aload_n 0, 1, 0, 0, 0, 0) := by decide +kernel
theorem l_226_15 : look 226 15 = some (.aload_n 0, 1, 0, 0, 0, 0) := by decide +kernel
theorem l_226_16 : look 226 16 = some (.getfield 116, 3, 10, 57, 2, 1558) := by decide +kernel
theorem l_226_19 : look 226 19 = some (.bipush 100, 2, 0, 0, 0, 0) := by decide +kernel
theorem l_226_21 : look 226 21 = some (.iload_n 1, 1, 0, 0, 0, 0) := by decide +kernel
theorem l_226_22 : look 226 22 = some (.imul, 1, 0, 0, 0, 0) := by decide +kernel
theorem l_226_23 : look 226 23 = some (.iload_n 3, 1, 0, 0, 0, 0) := by decide +kernel
theorem l_226_24 : look 226 24 = some (.iadd, 1, 0, 0, 0, 0) := by decide +kernel
theorem l_226_25 : look 226 25 = some (.iaload, 1, 0, 0, 0, 0) := by decide +kernel
theorem l_226_26 : look 226 26 = some (.invokevirtual 428, 3, 208, 2, 0, 1960) := by decide +kernel
theorem l_226_29 : look 226 29 = some (.aload_n 0, 1, 0, 0, 0, 0) := by decide +kernel
theorem l_226_30 : look 226 30 = some (.aload_n 0, 1, 0, 0, 0, 0) := by decide +kernel
theorem l_226_31 : look 226 31 = some (.getfield 116, 3, 10, 57, 2, 1558) := by decide +kernel
theorem l_226_34 : look 226 34 = some (.bipush 100, 2, 0, 0, 0, 0) := by decide +kernel
theorem l_226_36 : look 226 36 = some (.iload_n 1, 1, 0, 0, 0, 0) := by decide +kernel
theorem l_226_37 : look 226 37 = some (.imul, 1, 0, 0, 0, 0) := by decide +kernel
theorem l_226_38 : look 226 38 = some (.iload_n 2, 1, 0, 0, 0, 0) := by decide +kernel
theorem l_226_39 : look 226 39 = some (.iadd, 1, 0, 0, 0, 0) := by decide +kernel
theorem l_226_40 : look 226 40 = some (.iaload, 1, 0, 0, 0, 0) := by decide +kernel
theorem l_226_41 : look 226 41 = some (.invokevirtual 428, 3, 208, 2, 0, 1960) := by decide +kernel
theorem l_226_44 : look 226 44 = some (.if_icmp .le 5, 3, 0, 0, 0, 0) := by decide +kernel
theorem l_226_47 : look 226 47 = some (.iload_n 3, 1, 0, 0, 0, 0) := by decide +kernel
theorem l_226_48 : look 226 48 = some (.istore_n 2, 1, 0, 0, 0, 0) := by decide +kernel
theorem l_226_49 : look 226 49 = some (.iinc 3 1, 3, 0, 0, 0, 0) := by decide +kernel
theorem l_226_52 : look 226 52 = some (.goto (-48), 3, 0, 0, 0, 0) := by decide +kernel
theorem l_226_55 : look 226 55 = some (.iload_n 2, 1, 0, 0, 0, 0) := by decide +kernel
theorem l_226_56 : look 226 56 = some (.ireturn, 1, 0, 0, 0, 0) := by decide +kernel

theorem hiK_n {f : Nat → Nat} {k : Nat} (hk : k ≠ 0) (h : f k ≤ f (hiK f k)) : hiK f (k + 1) = hiK f k := by
  show (if k = 0 then 0 else if f (hiK f k) < f k then k else hiK f k) = _
  rw [if_neg hk, if_neg (by omega)]
theorem hiK_y {f : Nat → Nat} {k : Nat} (hk : k ≠ 0) (h : f (hiK f k) < f k) : hiK f (k + 1) = k := by
  show (if k = 0 then 0 else if f (hiK f k) < f k then k else hiK f k) = _
  rw [if_neg hk, if_pos h]
theorem lp_226 (hm : oModel S T s) {e ne np u : Nat} {a : Nat → Nat} (E : ME I s e h l a ne np) (hR : nR I s l r) (hok : okR h l np u r) {p : Nat} (hp : p < 4) : ∀ d k, k + d = (sQ r.1 p).length → 1 ≤ k → WP xs 226 3 4 [vr s, vi ((p : Nat) : Int), vi (((hiK (rkQ h (sQ r.1 p)) k) : Nat) : Int), vi ((k : Nat) : Int)] [] (S, I, T, cc, zz) (FN (some (vi ((hiK (rkQ h (sQ r.1 p)) (sQ r.1 p).length : Nat) : Int))) (S, I, T, cc, zz)) := by
  intro d
  have hQ2 := (hR.1.2.2.1 p hp).2.1
  induction d with
  | zero =>
    intro k hk hk1
    refine w_iln l_226_4 rfl ?_
    refine w_aln l_226_5 rfl ?_
    refine w_gr l_226_6 (oModel_sh hm) (oModel_r59 hm) ?_
    refine w_iln l_226_9 rfl ?_
    refine w_ia p (((sQ r.1 p).length : Nat) : Int) l_226_10 (oModel_s59 hm) rfl (by omega) ((hR.1.2.2.1 p hp).1) ?_
    refine w_cge 55 l_226_11 (by decide) (fun _ => ?_) (fun hx => absurd hx (by omega))
    refine w_iln l_226_55 rfl ?_
    refine w_ir l_226_56 (Or.inl rfl) ?_
    have e9 : k = (sQ r.1 p).length := by omega
    rw [e9]
    exact ⟨rfl, rfl⟩
  | succ d ih =>
    intro k hk hk1
    refine w_iln l_226_4 rfl ?_
    refine w_aln l_226_5 rfl ?_
    refine w_gr l_226_6 (oModel_sh hm) (oModel_r59 hm) ?_
    refine w_iln l_226_9 rfl ?_
    refine w_ia p (((sQ r.1 p).length : Nat) : Int) l_226_10 (oModel_s59 hm) rfl (by omega) ((hR.1.2.2.1 p hp).1) ?_
    refine w_cge 55 l_226_11 (by decide) (fun hx => absurd hx (by omega)) (fun _ => ?_)
    have hhk := hiK_lt (rkQ h (sQ r.1 p)) k (by omega)
    have er1 : rkQ h (sQ r.1 p) (hiK (rkQ h (sQ r.1 p)) k) = hRnk h ((sQ r.1 p).getD (hiK (rkQ h (sQ r.1 p)) k) (0, 0)).1 := rfl
    have er2 : rkQ h (sQ r.1 p) k = hRnk h ((sQ r.1 p).getD k (0, 0)).1 := rfl
    refine w_aln l_226_14 rfl ?_
    refine w_aln l_226_15 rfl ?_
    refine w_gr l_226_16 (oModel_sh hm) (oModel_r57 hm) ?_
    refine w_bp l_226_19 (by decide) ?_
    refine w_iln l_226_21 rfl ?_
    refine w_mul ((100 * p : Nat) : Int) l_226_22 (by unfold wr; omega) ?_
    refine w_iln l_226_23 rfl ?_
    refine w_add ((100 * p + k : Nat) : Int) l_226_24 (by unfold wr; omega) ?_
    refine w_ia (100 * p + k) ((((sQ r.1 p).getD k (0, 0)).1 : Nat) : Int) l_226_25 (oModel_s57 hm) rfl (by omega) (((hR.1.2.2.1 p hp).2.2 k (by omega)).1) ?_
    refine q_iv [vi ((((sQ r.1 p).getD k (0, 0)).1 : Nat) : Int)] [] l_226_26 rfl rfl (Nat.le_of_ble_eq_true rfl) (by rw [mx_208]; exact Nat.le_of_ble_eq_true rfl) (by rw [mt_208]; exact oModel_sh hm) (by rw [mt_208]; decide) (by rw [rk_208]; decide) (s_208 hm E.H (ok_hq hok k (by omega))) ?_
    refine w_aln l_226_29 rfl ?_
    refine w_aln l_226_30 rfl ?_
    refine w_gr l_226_31 (oModel_sh hm) (oModel_r57 hm) ?_
    refine w_bp l_226_34 (by decide) ?_
    refine w_iln l_226_36 rfl ?_
    refine w_mul ((100 * p : Nat) : Int) l_226_37 (by unfold wr; omega) ?_
    refine w_iln l_226_38 rfl ?_
    refine w_add ((100 * p + (hiK (rkQ h (sQ r.1 p)) k) : Nat) : Int) l_226_39 (by unfold wr; omega) ?_
    refine w_ia (100 * p + (hiK (rkQ h (sQ r.1 p)) k)) ((((sQ r.1 p).getD (hiK (rkQ h (sQ r.1 p)) k) (0, 0)).1 : Nat) : Int) l_226_40 (oModel_s57 hm) rfl (by omega) (((hR.1.2.2.1 p hp).2.2 _ (by omega)).1) ?_
    refine q_iv [vi ((((sQ r.1 p).getD (hiK (rkQ h (sQ r.1 p)) k) (0, 0)).1 : Nat) : Int)] [vi (((rkQ h (sQ r.1 p) k) : Nat) : Int)] l_226_41 rfl rfl (Nat.le_of_ble_eq_true rfl) (by rw [mx_208]; exact Nat.le_of_ble_eq_true rfl) (by rw [mt_208]; exact oModel_sh hm) (by rw [mt_208]; decide) (by rw [rk_208]; decide) (s_208 hm E.H (ok_hq hok _ (by omega))) ?_
    refine w_cle 49 l_226_44 (by decide) (fun h1 => ?_) (fun h1 => ?_)
    · skip
      refine w_inc ((k + 1 : Nat) : Int) l_226_49 rfl rfl (by unfold wr; omega) ?_
      refine w_go 4 l_226_52 (by decide) ?_
      have e9 := ih (k + 1) (by omega) (by omega)
      rw [show hiK (rkQ h (sQ r.1 p)) (k + 1) = (hiK (rkQ h (sQ r.1 p)) k) from hiK_n (by omega) (by omega)] at e9
      exact e9
    · skip
      refine w_iln l_226_47 rfl ?_
      refine w_isn l_226_48 ⟨Nat.le_of_ble_eq_true rfl, rfl⟩ ?_
      refine w_inc ((k + 1 : Nat) : Int) l_226_49 rfl rfl (by unfold wr; omega) ?_
      refine w_go 4 l_226_52 (by decide) ?_
      have e9 := ih (k + 1) (by omega) (by omega)
      rw [show hiK (rkQ h (sQ r.1 p)) (k + 1) = k from hiK_y (by omega) (by omega)] at e9
      exact e9
theorem s_226 (hm : oModel S T s) {e ne np u : Nat} {a : Nat → Nat} (E : ME I s e h l a ne np) (hR : nR I s l r) (hok : okR h l np u r) {p : Nat} (hp : p < 4) (hn : 0 < (sQ r.1 p).length) : CL xs 226 [vr s, vi ((p : Nat) : Int)] (S, I, T, cc, zz) (FN (some (vi ((hiK (rkQ h (sQ r.1 p)) (sQ r.1 p).length : Nat) : Int))) (S, I, T, cc, zz)) := by
  refine CL_start (r := 3) (ls := [vr s, vi ((p : Nat) : Int), vs 2, vs 2]) (rk_226 _) rfl ?_
  refine w_ic l_226_0 (by decide) ?_
  refine w_isn l_226_1 ⟨Nat.le_of_ble_eq_true rfl, rfl⟩ ?_
  refine w_ic l_226_2 (by decide) ?_
  refine w_isn l_226_3 ⟨Nat.le_of_ble_eq_true rfl, rfl⟩ ?_
  exact lp_226 hm E hR hok hp ((sQ r.1 p).length - 1) 1 (by omega) (by decide)

theorem mx_223 : mxl 223 = 6 := by decide +kernel
theorem mt_223 : mtc 223 = 10 := by decide +kernel
theorem rk_223 (as : List AV) : rkA 223 as = 3 := rfl
theorem l_223_0 : look 223 0 = some (.iconst (-1), 1, 0, 0, 0, 0) := by decide +kernel
theorem l_223_1 : look 223 1 = some (.istore_n 3, 1, 0, 0, 0, 0) := by decide +kernel
theorem l_223_2 : look 223 2 = some (.aload_n 0, 1, 0, 0, 0, 0) := by decide +kernel
theorem l_223_3 : look 223 3 = some (.getfield 122, 3, 10, 59, 2, 1560) := by decide +kernel
theorem l_223_6 : look 223 6 = some (.iload_n 1, 1, 0, 0, 0, 0) := by decide +kernel
theorem l_223_7 : look 223 7 = some (.iaload, 1, 0, 0, 0, 0) := by decide +kernel
theorem l_223_8 : look 223 8 = some (.iconst 1, 1, 0, 0, 0, 0) := by decide +kernel
theorem l_223_9 : look 223 9 = some (.isub, 1, 0, 0, 0, 0) := by decide +kernel
theorem l_223_10 : look 223 10 = some (.istore 4, 2, 0, 0, 0, 0) := by decide +kernel
theorem l_223_12 : look 223 12 = some (.iload 4, 2, 0, 0, 0, 0) := by decide +kernel
theorem l_223_14 : look 223 14 = some (.ifCond .lt 61, 3, 0, 0, 0, 0) := by decide +kernel
theorem l_223_17 : look 223 17 = some (.aload_n 0, 1, 0, 0, 0, 0) := by decide +kernel
theorem l_223_18 : look 223 18 = some (.aload_n 0, 1, 0, 0, 0, 0) := by decide +kernel
theorem l_223_19 : look 223 19 = some (.getfield 116, 3, 10, 57, 2, 1558) := by decide +kernel
theorem l_223_22 : look 223 22 = some (.bipush 100, 2, 0, 0, 0, 0) := by decide +kernel
theorem l_223_24 : look 223 24 = some (.iload_n 1, 1, 0, 0, 0, 0) := by decide +kernel
theorem l_223_25 : look 223 25 = some (.imul, 1, 0, 0, 0, 0) := by decide +kernel
theorem l_223_26 : look 223 26 = some (.iload 4, 2, 0, 0, 0, 0) := by decide +kernel
theorem l_223_28 : look 223 28 = some (.iadd, 1, 0, 0, 0, 0) := by decide +kernel
theorem l_223_29 : look 223 29 = some (.iaload, 1, 0, 0, 0, 0) := by decide +kernel
theorem l_223_30 : look 223 30 = some (.invokevirtual 428, 3, 208, 2, 0, 1960) := by decide +kernel
theorem l_223_33 : look 223 33 = some (.istore 5, 2, 0, 0, 0, 0) := by decide +kernel
theorem l_223_35 : look 223 35 = some (.iload 5, 2, 0, 0, 0, 0) := by decide +kernel
theorem l_223_37 : look 223 37 = some (.iload_n 2, 1, 0, 0, 0, 0) := by decide +kernel
theorem l_223_38 : look 223 38 = some (.if_icmp .ge 31, 3, 0, 0, 0, 0) := by decide +kernel
theorem l_223_41 : look 223 41 = some (.iload_n 3, 1, 0, 0, 0, 0) := by decide +kernel
theorem l_223_42 : look 223 42 = some (.iconst (-1), 1, 0, 0, 0, 0) := by decide +kernel
theorem l_223_43 : look 223 43 = some (.if_icmp .eq 23, 3, 0, 0, 0, 0) := by decide +kernel
theorem l_223_46 : look 223 46 = some (.iload 5, 2, 0, 0, 0, 0) := by decide +kernel
theorem l_223_48 : look 223 48 = some (.aload_n 0, 1, 0, 0, 0, 0) := by decide +kernel
theorem l_223_49 : look 223 49 = some (.aload_n 0, 1, 0, 0, 0, 0) := by decide +kernel
theorem l_223_50 : look 223 50 = some (.getfield 116, 3, 10, 57, 2, 1558) := by decide +kernel
theorem l_223_53 : look 223 53 = some (.bipush 100, 2, 0, 0, 0, 0) := by decide +kernel
theorem l_223_55 : look 223 55 = some (.iload_n 1, 1, 0, 0, 0, 0) := by decide +kernel
theorem l_223_56 : look 223 56 = some (.imul, 1, 0, 0, 0, 0) := by decide +kernel
theorem l_223_57 : look 223 57 = some (.iload_n 3, 1, 0, 0, 0, 0) := by decide +kernel
theorem l_223_58 : look 223 58 = some (.iadd, 1, 0, 0, 0, 0) := by decide +kernel
theorem l_223_59 : look 223 59 = some (.iaload, 1, 0, 0, 0, 0) := by decide +kernel
theorem l_223_60 : look 223 60 = some (.invokevirtual 428, 3, 208, 2, 0, 1960) := by decide +kernel
theorem l_223_63 : look 223 63 = some (.if_icmp .ge 6, 3, 0, 0, 0, 0) := by decide +kernel
theorem l_223_66 : look 223 66 = some (.iload 4, 2, 0, 0, 0, 0) := by decide +kernel
theorem l_223_68 : look 223 68 = some (.istore_n 3, 1, 0, 0, 0, 0) := by decide +kernel
theorem l_223_69 : look 223 69 = some (.iinc 4 (-1), 3, 0, 0, 0, 0) := by decide +kernel
theorem l_223_72 : look 223 72 = some (.goto (-60), 3, 0, 0, 0, 0) := by decide +kernel
theorem l_223_75 : look 223 75 = some (.iload_n 3, 1, 0, 0, 0, 0) := by decide +kernel
theorem l_223_76 : look 223 76 = some (.ireturn, 1, 0, 0, 0, 0) := by decide +kernel

theorem lp_223 (hm : oModel S T s) {e ne np u : Nat} {a : Nat → Nat} (E : ME I s e h l a ne np) (hR : nR I s l r) (hok : okR h l np u r) {p z : Nat} (hp : p < 4) (hex : ∃ i, i < (sQ r.1 p).length ∧ rkQ h (sQ r.1 p) i < z) : ∀ k (b : Int), PB (rkQ h (sQ r.1 p)) z (sQ r.1 p).length k b → k ≤ (sQ r.1 p).length → ∀ v5 : AV, WP xs 223 3 12 [vr s, vi ((p : Nat) : Int), vi ((z : Nat) : Int), vi b, vi (((k : Nat) : Int) - 1), v5] [] (S, I, T, cc, zz) (FN (some (vi ((loK (rkQ h (sQ r.1 p)) (sQ r.1 p).length : Nat) : Int))) (S, I, T, cc, zz)) := by
  intro k
  have hQ2 := (hR.1.2.2.1 p hp).2.1
  induction k with
  | zero =>
    intro b hB hk v5
    have hk0 : (((0 : Nat) : Int) - 1) = ((0 : Nat) : Int) - 1 := rfl
    refine w_il l_223_12 rfl ?_
    refine w_zlt 75 l_223_14 (by decide) (fun _ => ?_) (fun hx => absurd hx (by omega))
    refine w_iln l_223_75 rfl ?_
    refine w_ir l_223_76 (Or.inl rfl) ?_
    rw [PB_end hB hex]
    exact ⟨rfl, rfl⟩
  | succ k ih =>
    intro b hB hk v5
    rw [show (((k + 1 : Nat) : Int) - 1) = ((k : Nat) : Int) by omega]
    have hB2 := hB
    rcases hB2 with ⟨e, _⟩ | ⟨m, e, hm1, hm2, _⟩
    · subst e
      refine w_il l_223_12 rfl ?_
      refine w_zlt 75 l_223_14 (by decide) (fun hx => absurd hx (by omega)) (fun _ => ?_)
      have er2 : rkQ h (sQ r.1 p) k = hRnk h ((sQ r.1 p).getD k (0, 0)).1 := rfl
      refine w_aln l_223_17 rfl ?_
      refine w_aln l_223_18 rfl ?_
      refine w_gr l_223_19 (oModel_sh hm) (oModel_r57 hm) ?_
      refine w_bp l_223_22 (by decide) ?_
      refine w_iln l_223_24 rfl ?_
      refine w_mul ((100 * p : Nat) : Int) l_223_25 (by unfold wr; omega) ?_
      refine w_il l_223_26 rfl ?_
      refine w_add ((100 * p + k : Nat) : Int) l_223_28 (by unfold wr; omega) ?_
      refine w_ia (100 * p + k) ((((sQ r.1 p).getD k (0, 0)).1 : Nat) : Int) l_223_29 (oModel_s57 hm) rfl (by omega) (((hR.1.2.2.1 p hp).2.2 k (by omega)).1) ?_
      refine q_iv [vi ((((sQ r.1 p).getD k (0, 0)).1 : Nat) : Int)] [] l_223_30 rfl rfl (Nat.le_of_ble_eq_true rfl) (by rw [mx_208]; exact Nat.le_of_ble_eq_true rfl) (by rw [mt_208]; exact oModel_sh hm) (by rw [mt_208]; decide) (by rw [rk_208]; decide) (s_208 hm E.H (ok_hq hok k (by omega))) ?_
      refine w_is l_223_33 ⟨Nat.le_of_ble_eq_true rfl, rfl⟩ ?_
      refine w_il l_223_35 rfl ?_
      refine w_iln l_223_37 rfl ?_
      refine w_cge 69 l_223_38 (by decide) (fun h1 => ?_) (fun h1 => ?_)
      · skip
        refine w_inc (((k : Nat) : Int) - 1) l_223_69 rfl rfl (by unfold wr; omega) ?_
        refine w_go 12 l_223_72 (by decide) ?_
        exact ih _ (PB_no hB (by omega)) (by omega) (vi ((rkQ h (sQ r.1 p) k : Nat) : Int))
      · skip
        refine w_iln l_223_41 rfl ?_
        refine w_ic l_223_42 (by decide) ?_
        refine w_ceq 66 l_223_43 (by decide) (fun _ => ?_) (fun hx => absurd hx (by decide))
        refine w_il l_223_66 rfl ?_
        refine w_isn l_223_68 ⟨Nat.le_of_ble_eq_true rfl, rfl⟩ ?_
        refine w_inc (((k : Nat) : Int) - 1) l_223_69 rfl rfl (by unfold wr; omega) ?_
        refine w_go 12 l_223_72 (by decide) ?_
        exact ih _ (PB_in hB (by omega) (by omega) (Or.inl rfl)) (by omega) (vi ((rkQ h (sQ r.1 p) k : Nat) : Int))
    · subst e
      refine w_il l_223_12 rfl ?_
      refine w_zlt 75 l_223_14 (by decide) (fun hx => absurd hx (by omega)) (fun _ => ?_)
      have er2 : rkQ h (sQ r.1 p) k = hRnk h ((sQ r.1 p).getD k (0, 0)).1 := rfl
      refine w_aln l_223_17 rfl ?_
      refine w_aln l_223_18 rfl ?_
      refine w_gr l_223_19 (oModel_sh hm) (oModel_r57 hm) ?_
      refine w_bp l_223_22 (by decide) ?_
      refine w_iln l_223_24 rfl ?_
      refine w_mul ((100 * p : Nat) : Int) l_223_25 (by unfold wr; omega) ?_
      refine w_il l_223_26 rfl ?_
      refine w_add ((100 * p + k : Nat) : Int) l_223_28 (by unfold wr; omega) ?_
      refine w_ia (100 * p + k) ((((sQ r.1 p).getD k (0, 0)).1 : Nat) : Int) l_223_29 (oModel_s57 hm) rfl (by omega) (((hR.1.2.2.1 p hp).2.2 k (by omega)).1) ?_
      refine q_iv [vi ((((sQ r.1 p).getD k (0, 0)).1 : Nat) : Int)] [] l_223_30 rfl rfl (Nat.le_of_ble_eq_true rfl) (by rw [mx_208]; exact Nat.le_of_ble_eq_true rfl) (by rw [mt_208]; exact oModel_sh hm) (by rw [mt_208]; decide) (by rw [rk_208]; decide) (s_208 hm E.H (ok_hq hok k (by omega))) ?_
      refine w_is l_223_33 ⟨Nat.le_of_ble_eq_true rfl, rfl⟩ ?_
      refine w_il l_223_35 rfl ?_
      refine w_iln l_223_37 rfl ?_
      refine w_cge 69 l_223_38 (by decide) (fun h1 => ?_) (fun h1 => ?_)
      · skip
        refine w_inc (((k : Nat) : Int) - 1) l_223_69 rfl rfl (by unfold wr; omega) ?_
        refine w_go 12 l_223_72 (by decide) ?_
        exact ih _ (by
          by_cases h9 : z ≤ rkQ h (sQ r.1 p) k
          · exact PB_no hB h9
          · exact PB_ge hB (by omega)) (by omega) (vi ((rkQ h (sQ r.1 p) k : Nat) : Int))
      · skip
        refine w_iln l_223_41 rfl ?_
        refine w_ic l_223_42 (by decide) ?_
        refine w_ceq 66 l_223_43 (by decide) (fun hx => absurd hx (by omega)) (fun _ => ?_)
        have er1 : rkQ h (sQ r.1 p) m = hRnk h ((sQ r.1 p).getD m (0, 0)).1 := rfl
        refine w_il l_223_46 rfl ?_
        refine w_aln l_223_48 rfl ?_
        refine w_aln l_223_49 rfl ?_
        refine w_gr l_223_50 (oModel_sh hm) (oModel_r57 hm) ?_
        refine w_bp l_223_53 (by decide) ?_
        refine w_iln l_223_55 rfl ?_
        refine w_mul ((100 * p : Nat) : Int) l_223_56 (by unfold wr; omega) ?_
        refine w_iln l_223_57 rfl ?_
        refine w_add ((100 * p + m : Nat) : Int) l_223_58 (by unfold wr; omega) ?_
        refine w_ia (100 * p + m) ((((sQ r.1 p).getD m (0, 0)).1 : Nat) : Int) l_223_59 (oModel_s57 hm) rfl (by omega) (((hR.1.2.2.1 p hp).2.2 m (by omega)).1) ?_
        refine q_iv [vi ((((sQ r.1 p).getD m (0, 0)).1 : Nat) : Int)] [vi (((rkQ h (sQ r.1 p) k) : Nat) : Int)] l_223_60 rfl rfl (Nat.le_of_ble_eq_true rfl) (by rw [mx_208]; exact Nat.le_of_ble_eq_true rfl) (by rw [mt_208]; exact oModel_sh hm) (by rw [mt_208]; decide) (by rw [rk_208]; decide) (s_208 hm E.H (ok_hq hok m (by omega))) ?_
        refine w_cge 69 l_223_63 (by decide) (fun h2 => ?_) (fun h2 => ?_)
        · skip
          refine w_inc (((k : Nat) : Int) - 1) l_223_69 rfl rfl (by unfold wr; omega) ?_
          refine w_go 12 l_223_72 (by decide) ?_
          exact ih _ (by
            by_cases h9 : z ≤ rkQ h (sQ r.1 p) k
            · exact PB_no hB h9
            · exact PB_ge hB (by omega)) (by omega) (vi ((rkQ h (sQ r.1 p) k : Nat) : Int))
        · skip
          refine w_il l_223_66 rfl ?_
          refine w_isn l_223_68 ⟨Nat.le_of_ble_eq_true rfl, rfl⟩ ?_
          refine w_inc (((k : Nat) : Int) - 1) l_223_69 rfl rfl (by unfold wr; omega) ?_
          refine w_go 12 l_223_72 (by decide) ?_
          exact ih _ (PB_in hB (by omega) (by omega) (Or.inr ⟨m, rfl, by omega⟩)) (by omega) (vi ((rkQ h (sQ r.1 p) k : Nat) : Int))
theorem s_223 (hm : oModel S T s) {e ne np u : Nat} {a : Nat → Nat} (E : ME I s e h l a ne np) (hR : nR I s l r) (hok : okR h l np u r) {p z : Nat} (hp : p < 4) (hex : ∃ i, i < (sQ r.1 p).length ∧ rkQ h (sQ r.1 p) i < z) : CL xs 223 [vr s, vi ((p : Nat) : Int), vi ((z : Nat) : Int)] (S, I, T, cc, zz) (FN (some (vi ((loK (rkQ h (sQ r.1 p)) (sQ r.1 p).length : Nat) : Int))) (S, I, T, cc, zz)) := by
  refine CL_start (r := 3) (ls := [vr s, vi ((p : Nat) : Int), vi ((z : Nat) : Int), vs 2, vs 2, vs 2]) (rk_223 _) rfl ?_
  have hQ2 := (hR.1.2.2.1 p hp).2.1
  refine w_ic l_223_0 (by decide) ?_
  refine w_isn l_223_1 ⟨Nat.le_of_ble_eq_true rfl, rfl⟩ ?_
  refine w_aln l_223_2 rfl ?_
  refine w_gr l_223_3 (oModel_sh hm) (oModel_r59 hm) ?_
  refine w_iln l_223_6 rfl ?_
  refine w_ia p (((sQ r.1 p).length : Nat) : Int) l_223_7 (oModel_s59 hm) rfl (by omega) ((hR.1.2.2.1 p hp).1) ?_
  refine w_ic l_223_8 (by decide) ?_
  refine w_sub ((((sQ r.1 p).length : Nat) : Int) - 1) l_223_9 (by unfold wr; omega) ?_
  refine w_is l_223_10 ⟨Nat.le_of_ble_eq_true rfl, rfl⟩ ?_
  exact lp_223 hm E hR hok hp hex _ (-1) (Or.inl ⟨rfl, fun i h1 h2 => by omega⟩) (Nat.le_refl _) _

theorem mx_221 : mxl 221 = 2 := by decide +kernel
theorem mt_221 : mtc 221 = 10 := by decide +kernel
theorem rk_221 (as : List AV) : rkA 221 as = 0 := rfl
theorem l_221_0 : look 221 0 = some (.aload_n 0, 1, 0, 0, 0, 0) := by decide +kernel
theorem l_221_1 : look 221 1 = some (.getfield 128, 3, 10, 61, 2, 1562) := by decide +kernel
theorem l_221_4 : look 221 4 = some (.iload_n 1, 1, 0, 0, 0, 0) := by decide +kernel
theorem l_221_5 : look 221 5 = some (.iaload, 1, 0, 0, 0, 0) := by decide +kernel
theorem l_221_6 : look 221 6 = some (.iconst (-1), 1, 0, 0, 0, 0) := by decide +kernel
theorem l_221_7 : look 221 7 = some (.if_icmp .eq 25, 3, 0, 0, 0, 0) := by decide +kernel
theorem l_221_10 : look 221 10 = some (.aload_n 0, 1, 0, 0, 0, 0) := by decide +kernel
theorem l_221_11 : look 221 11 = some (.getfield 375, 3, 10, 55, 0, 1556) := by decide +kernel
theorem l_221_14 : look 221 14 = some (.aload_n 0, 1, 0, 0, 0, 0) := by decide +kernel
theorem l_221_15 : look 221 15 = some (.getfield 131, 3, 10, 62, 2, 1563) := by decide +kernel
theorem l_221_18 : look 221 18 = some (.iload_n 1, 1, 0, 0, 0, 0) := by decide +kernel
theorem l_221_19 : look 221 19 = some (.iaload, 1, 0, 0, 0, 0) := by decide +kernel
theorem l_221_20 : look 221 20 = some (.isub, 1, 0, 0, 0, 0) := by decide +kernel
theorem l_221_21 : look 221 21 = some (.aload_n 0, 1, 0, 0, 0, 0) := by decide +kernel
theorem l_221_22 : look 221 22 = some (.getfield 348, 3, 10, 52, 0, 1553) := by decide +kernel
theorem l_221_25 : look 221 25 = some (.if_icmp .gt 7, 3, 0, 0, 0, 0) := by decide +kernel
theorem l_221_28 : look 221 28 = some (.iconst 1, 1, 0, 0, 0, 0) := by decide +kernel
theorem l_221_29 : look 221 29 = some (.goto 4, 3, 0, 0, 0, 0) := by decide +kernel
theorem l_221_32 : look 221 32 = some (.iconst 0, 1, 0, 0, 0, 0) := by decide +kernel
theorem l_221_33 : look 221 33 = some (.ireturn, 1, 0, 0, 1, 0) := by decide +kernel

theorem s_221 (hm : oModel S T s) {e ne np u : Nat} {a : Nat → Nat} (E : ME I s e h l a ne np) (hR : nR I s l r) (hok : okR h l np u r) {b : Nat} (hb : b < 64) : CL xs 221 [vr s, vi ((b : Nat) : Int)] (S, I, T, cc, zz) (FN (some (vi (b2i (validA l r.1 b).isSome))) (S, I, T, cc, zz)) := by
  have g := hR.1.2.2.2.2 b hb
  have ht := hR.1.1.2
  unfold nT at g
  cases hT : sTab r.1 b with
  | none =>
    rw [hT] at g
    change I (s + 32) b = -1 at g
    refine CL_start (r := 0) (ls := [vr s, vi ((b : Nat) : Int)]) (rk_221 _) rfl ?_
    refine w_aln l_221_0 rfl ?_
    refine w_gr l_221_1 (oModel_sh hm) (oModel_r61 hm) ?_
    refine w_iln l_221_4 rfl ?_
    refine w_ia b (-1) l_221_5 (oModel_s61 hm) rfl (by omega) g ?_
    refine w_ic l_221_6 (by decide) ?_
    refine w_ceq 32 l_221_7 (by decide) (fun _ => ?_) (fun hx => absurd hx (by decide))
    refine w_ic l_221_32 (by decide) ?_
    refine w_ir l_221_33 (by decide) ?_
    refine ⟨?_, rfl⟩
    rw [show (validA l r.1 b).isSome = false by unfold validA; rw [hT]; rfl]; rfl
  | some wt =>
    obtain ⟨w, t⟩ := wt
    rw [hT] at g
    change I (s + 32) b = (w : Int) ∧ w < 4 ∧ I (s + 33) b = (t : Int) ∧ t ≤ 120 at g
    have g3 := g.2.2.2
    refine CL_start (r := 0) (ls := [vr s, vi ((b : Nat) : Int)]) (rk_221 _) rfl ?_
    refine w_aln l_221_0 rfl ?_
    refine w_gr l_221_1 (oModel_sh hm) (oModel_r61 hm) ?_
    refine w_iln l_221_4 rfl ?_
    refine w_ia b ((w : Nat) : Int) l_221_5 (oModel_s61 hm) rfl (by omega) g.1 ?_
    refine w_ic l_221_6 (by decide) ?_
    refine w_ceq 32 l_221_7 (by decide) (fun hx => absurd hx (by omega)) (fun _ => ?_)
    refine w_aln l_221_10 rfl ?_
    refine w_gi (((sTime r.1) : Nat) : Int) l_221_11 (oModel_sh hm) hR.1.1.1 ?_
    refine w_aln l_221_14 rfl ?_
    refine w_gr l_221_15 (oModel_sh hm) (oModel_r62 hm) ?_
    refine w_iln l_221_18 rfl ?_
    refine w_ia b ((t : Nat) : Int) l_221_19 (oModel_s62 hm) rfl (by omega) g.2.2.1 ?_
    refine w_sub ((((sTime r.1) : Nat) : Int) - ((t : Nat) : Int)) l_221_20 (by unfold wr; omega) ?_
    refine w_aln l_221_21 rfl ?_
    refine w_gi (((lAge l) : Nat) : Int) l_221_22 (oModel_sh hm) E.L.2.2.2.2.1 ?_
    refine w_cgt 32 l_221_25 (by decide) (fun h1 => ?_) (fun h1 => ?_)
    · skip
      refine w_ic l_221_32 (by decide) ?_
      refine w_ir l_221_33 (by decide) ?_
      refine ⟨?_, rfl⟩
      first
        | (rw [show (validA l r.1 b).isSome = true by unfold validA; rw [hT]; simp only; rw [if_pos (by omega)]; rfl]; rfl)
        | (rw [show (validA l r.1 b).isSome = false by unfold validA; rw [hT]; simp only; rw [if_neg (by omega)]; rfl]; rfl)
    · skip
      refine w_ic l_221_28 (by decide) ?_
      refine w_go 33 l_221_29 (by decide) ?_
      refine w_ir l_221_33 (by decide) ?_
      refine ⟨?_, rfl⟩
      first
        | (rw [show (validA l r.1 b).isSome = true by unfold validA; rw [hT]; simp only; rw [if_pos (by omega)]; rfl]; rfl)
        | (rw [show (validA l r.1 b).isSome = false by unfold validA; rw [hT]; simp only; rw [if_neg (by omega)]; rfl]; rfl)

end REG
