/-! the class: what a log is asked -/
def cntK (f : Dr → Bool) (g : List Dr) : Nat → Nat
  | 0 => 0
  | n + 1 => if f (g.getD n dr0) then cntK f g n + 1 else cntK f g n
theorem cntK_t {f : Dr → Bool} {g : List Dr} {n : Nat} (h : f (g.getD n dr0) = true) : cntK f g (n + 1) = cntK f g n + 1 := if_pos h
theorem cntK_f {f : Dr → Bool} {g : List Dr} {n : Nat} (h : f (g.getD n dr0) = false) : cntK f g (n + 1) = cntK f g n := if_neg (by rw [h]; decide)
theorem cntK_le {f : Dr → Bool} {g : List Dr} : ∀ n, cntK f g n ≤ n
  | 0 => Nat.le_refl _
  | n + 1 => by
    have := cntK_le (f := f) (g := g) n
    unfold cntK
    split <;> omega
theorem cntK_mono {f : Dr → Bool} {g : List Dr} {m : Nat} : ∀ n, m ≤ n → cntK f g m ≤ cntK f g n
  | 0, h => by rw [Nat.le_zero.mp h]; exact Nat.le_refl _
  | n + 1, h => by
    by_cases hm : m = n + 1
    · rw [hm]; exact Nat.le_refl _
    · have := cntK_mono (f := f) (g := g) (m := m) n (by omega)
      rw [cntK]
      split <;> omega
theorem cntK_0 {f : Dr → Bool} {g : List Dr} : cntK f g g.length = 0 ↔ ∀ d, d ∈ g → f d = false := by
  have key : ∀ n, n ≤ g.length → (cntK f g n = 0 ↔ ∀ k, k < n → f (g.getD k dr0) = false) := by
    intro n
    induction n with
    | zero => intro _; exact ⟨fun _ k hk => absurd hk (Nat.not_lt_zero k), fun _ => rfl⟩
    | succ n ih =>
      intro hn
      have h1 := ih (by omega)
      cases hf : f (g.getD n dr0)
      · rw [cntK_f hf, h1]
        refine ⟨fun h k hk => ?_, fun h k hk => h k (by omega)⟩
        by_cases hkn : k = n
        · rw [hkn]; exact hf
        · exact h k (by omega)
      · rw [cntK_t hf]
        refine ⟨fun h => by omega, fun h => ?_⟩
        rw [h n (by omega)] at hf
        cases hf
  rw [key _ (Nat.le_refl _)]
  refine ⟨fun h d hd => ?_, fun h k hk => ?_⟩
  · obtain ⟨k, hk, e⟩ := List.getElem_of_mem hd
    have := h k hk
    rw [List.getD_eq_getElem?_getD, List.getElem?_eq_getElem hk] at this
    rw [← e]
    exact this
  · rw [List.getD_eq_getElem?_getD, List.getElem?_eq_getElem hk]
    exact h _ (List.getElem_mem hk)
def okDr (g : List Dr) : Prop := ∀ k, k < g.length → (g.getD k dr0).2.1 < 120 ∧ -1 ≤ (g.getD k dr0).2.2.1 ∧ (g.getD k dr0).2.2.1 ≤ 3
def hasF (g : Lo) (k : Nat) (P : Int) : Bool := decide (g.2.1 k (P + 1).toNat = 3)
def isBy (c : Int) : Dr → Bool := fun d => decide ((d.2.2.2.1 : Int) = c)
def isByD (c x : Int) : Dr → Bool := fun d => decide ((d.2.2.2.1 : Int) = c) && decide (d.2.2.2.2 = x)
def isCr (P : Int) : Dr → Bool := fun d => decide (d.2.2.1 = P) && (decide (d.2.2.2.1 = 7) || decide (d.2.2.2.1 = 8))
def lacks (g : Lo) : Dr → Bool := fun d => !hasF g d.2.1 d.2.2.1
section LQ
variable {xs : List Int} {S : List (Nat × Nat)} {T : Nat → Nat → Nat} {cc zz s : Nat} {g : Lo} {I I' : Ix}

theorem t_part0 (o : oLog S T s) (hL : cL I s g) {k : Nat} (hk : k < g.1.length) : CL xs 24 [vr s, vi ((k : Nat) : Int), vi 0] (S, I, T, cc, zz) (FN (some (vi ((g.1.getD k dr0).1 : Int))) (S, I, T, cc, zz)) := by
  have h9 := s_24 (xs := xs) (T := T) (cc := cc) (zz := zz) (I := I) o (d := k) (j := 0) (by have := hL.1.2; omega) (by decide)
  rw [(hL.2.1 k hk).1] at h9
  exact h9

theorem t_part1 (o : oLog S T s) (hL : cL I s g) {k : Nat} (hk : k < g.1.length) : CL xs 24 [vr s, vi ((k : Nat) : Int), vi 1] (S, I, T, cc, zz) (FN (some (vi ((g.1.getD k dr0).2.1 : Int))) (S, I, T, cc, zz)) := by
  have h9 := s_24 (xs := xs) (T := T) (cc := cc) (zz := zz) (I := I) o (d := k) (j := 1) (by have := hL.1.2; omega) (by decide)
  rw [(hL.2.1 k hk).2.1] at h9
  exact h9

theorem t_part2 (o : oLog S T s) (hL : cL I s g) {k : Nat} (hk : k < g.1.length) : CL xs 24 [vr s, vi ((k : Nat) : Int), vi 2] (S, I, T, cc, zz) (FN (some (vi (g.1.getD k dr0).2.2.1)) (S, I, T, cc, zz)) := by
  have h9 := s_24 (xs := xs) (T := T) (cc := cc) (zz := zz) (I := I) o (d := k) (j := 2) (by have := hL.1.2; omega) (by decide)
  rw [(hL.2.1 k hk).2.2.1] at h9
  exact h9

theorem t_part3 (o : oLog S T s) (hL : cL I s g) {k : Nat} (hk : k < g.1.length) : CL xs 24 [vr s, vi ((k : Nat) : Int), vi 3] (S, I, T, cc, zz) (FN (some (vi ((g.1.getD k dr0).2.2.2.1 : Int))) (S, I, T, cc, zz)) := by
  have h9 := s_24 (xs := xs) (T := T) (cc := cc) (zz := zz) (I := I) o (d := k) (j := 3) (by have := hL.1.2; omega) (by decide)
  rw [(hL.2.1 k hk).2.2.2.1] at h9
  exact h9

theorem t_part4 (o : oLog S T s) (hL : cL I s g) {k : Nat} (hk : k < g.1.length) : CL xs 24 [vr s, vi ((k : Nat) : Int), vi 4] (S, I, T, cc, zz) (FN (some (vi (g.1.getD k dr0).2.2.2.2)) (S, I, T, cc, zz)) := by
  have h9 := s_24 (xs := xs) (T := T) (cc := cc) (zz := zz) (I := I) o (d := k) (j := 4) (by have := hL.1.2; omega) (by decide)
  rw [(hL.2.1 k hk).2.2.2.2] at h9
  exact h9

theorem mx_25 : mxl 25 = 4 := by decide +kernel
theorem mt_25 : mtc 25 = 3 := by decide +kernel
theorem rk_25 (as : List AV) : rkA 25 as = 1 := rfl
theorem l_25_0 : look 25 0 = some (.iconst 0, 1, 0, 0, 0, 0) := by decide +kernel
theorem l_25_1 : look 25 1 = some (.istore_n 2, 1, 0, 0, 0, 0) := by decide +kernel
theorem l_25_2 : look 25 2 = some (.iconst 0, 1, 0, 0, 0, 0) := by decide +kernel
theorem l_25_3 : look 25 3 = some (.istore_n 3, 1, 0, 0, 0, 0) := by decide +kernel
theorem l_25_4 : look 25 4 = some (.iload_n 3, 1, 0, 0, 0, 0) := by decide +kernel
theorem l_25_5 : look 25 5 = some (.aload_n 0, 1, 0, 0, 0, 0) := by decide +kernel
theorem l_25_6 : look 25 6 = some (.getfield 27, 3, 3, 0, 0, 613) := by decide +kernel
theorem l_25_9 : look 25 9 = some (.if_icmp .ge 22, 3, 0, 0, 0, 0) := by decide +kernel
theorem l_25_12 : look 25 12 = some (.aload_n 0, 1, 0, 0, 0, 0) := by decide +kernel
theorem l_25_13 : look 25 13 = some (.iload_n 3, 1, 0, 0, 0, 0) := by decide +kernel
theorem l_25_14 : look 25 14 = some (.iconst 3, 1, 0, 0, 0, 0) := by decide +kernel
theorem l_25_15 : look 25 15 = some (.invokevirtual 46, 3, 24, 3, 0, 250) := by decide +kernel
theorem l_25_18 : look 25 18 = some (.iload_n 1, 1, 0, 0, 0, 0) := by decide +kernel
theorem l_25_19 : look 25 19 = some (.if_icmp .ne 6, 3, 0, 0, 0, 0) := by decide +kernel
theorem l_25_22 : look 25 22 = some (.iinc 2 1, 3, 0, 0, 0, 0) := by decide +kernel
theorem l_25_25 : look 25 25 = some (.iinc 3 1, 3, 0, 0, 0, 0) := by decide +kernel
theorem l_25_28 : look 25 28 = some (.goto (-24), 3, 0, 0, 0, 0) := by decide +kernel
theorem l_25_31 : look 25 31 = some (.iload_n 2, 1, 0, 0, 0, 0) := by decide +kernel
theorem l_25_32 : look 25 32 = some (.ireturn, 1, 0, 0, 0, 0) := by decide +kernel
theorem lp_25 (o : oLog S T s) (hL : cL I s g) {c : Int} : ∀ d k, k + d = g.1.length → WP xs 25 1 4 [vr s, vi c, vi (((cntK (isBy c) g.1 k) : Nat) : Int), vi ((k : Nat) : Int)] [] (S, I, T, cc, zz) (FN (some (vi ((cntK (isBy c) g.1 g.1.length : Nat) : Int))) (S, I, T, cc, zz)) := by
  intro d
  have h360 := hL.1.2
  induction d with
  | zero =>
    intro k hk0
    refine w_iln l_25_4 rfl ?_
    refine w_aln l_25_5 rfl ?_
    refine w_gi ((g.1.length : Nat) : Int) l_25_6 (oLog_sh o) hL.1.1 ?_
    refine w_cge 31 l_25_9 (by decide) (fun _ => ?_) (fun hx => absurd hx (by omega))
    refine w_iln l_25_31 rfl ?_
    refine w_ir l_25_32 (Or.inl rfl) ?_
    have e9 : k = g.1.length := by omega
    rw [e9]
    exact ⟨rfl, rfl⟩
  | succ d ih =>
    intro k hk0
    have hk : k < g.1.length := by omega
    have hcl := cntK_le (f := (isBy c)) (g := g.1) k
    refine w_iln l_25_4 rfl ?_
    refine w_aln l_25_5 rfl ?_
    refine w_gi ((g.1.length : Nat) : Int) l_25_6 (oLog_sh o) hL.1.1 ?_
    refine w_cge 31 l_25_9 (by decide) (fun hx => absurd hx (by omega)) (fun _ => ?_)
    refine w_aln l_25_12 rfl ?_
    refine w_iln l_25_13 rfl ?_
    refine w_ic l_25_14 (by decide) ?_
    refine q_iv [vi ((k : Nat) : Int), vi 3] [] l_25_15 rfl rfl (Nat.le_of_ble_eq_true rfl) (by rw [mx_24]; exact Nat.le_of_ble_eq_true rfl) (by rw [mt_24]; exact oLog_sh o) (by rw [mt_24]; decide) (by rw [rk_24]; decide) (t_part3 o hL hk) ?_
    refine w_iln l_25_18 rfl ?_
    refine w_cne 25 l_25_19 (by decide) (fun h1 => ?_) (fun h1 => ?_)
    · skip
      refine w_inc ((k + 1 : Nat) : Int) l_25_25 rfl rfl (by unfold wr; omega) ?_
      refine w_go 4 l_25_28 (by decide) ?_
      have hf : (isBy c) (g.1.getD k dr0) = false := by unfold isBy; first | exact decide_eq_false (by omega) | exact decide_eq_true (by omega)
      have e9 := ih (k + 1) (by omega)
      rw [cntK_f hf] at e9
      exact e9
    · skip
      refine w_inc (((cntK (isBy c) g.1 k) + 1 : Nat) : Int) l_25_22 rfl rfl (by unfold wr; omega) ?_
      refine w_inc ((k + 1 : Nat) : Int) l_25_25 rfl rfl (by unfold wr; omega) ?_
      refine w_go 4 l_25_28 (by decide) ?_
      have hf : (isBy c) (g.1.getD k dr0) = true := by unfold isBy; first | exact decide_eq_false (by omega) | exact decide_eq_true (by omega)
      have e9 := ih (k + 1) (by omega)
      rw [cntK_t hf] at e9
      exact e9
theorem s_25 (o : oLog S T s) (hL : cL I s g) {c : Int}  : CL xs 25 [vr s, vi c] (S, I, T, cc, zz) (FN (some (vi ((cntK (isBy c) g.1 g.1.length : Nat) : Int))) (S, I, T, cc, zz)) := by
  refine CL_start (r := 1) (ls := [vr s, vi c, vs 2, vs 2]) (rk_25 _) rfl ?_
  refine w_ic l_25_0 (by decide) ?_
  refine w_isn l_25_1 ⟨Nat.le_of_ble_eq_true rfl, rfl⟩ ?_
  refine w_ic l_25_2 (by decide) ?_
  refine w_isn l_25_3 ⟨Nat.le_of_ble_eq_true rfl, rfl⟩ ?_
  exact lp_25 o hL _ 0 (Nat.zero_add _)

theorem mx_26 : mxl 26 = 5 := by decide +kernel
theorem mt_26 : mtc 26 = 3 := by decide +kernel
theorem rk_26 (as : List AV) : rkA 26 as = 1 := rfl
theorem l_26_0 : look 26 0 = some (.iconst 0, 1, 0, 0, 0, 0) := by decide +kernel
theorem l_26_1 : look 26 1 = some (.istore_n 3, 1, 0, 0, 0, 0) := by decide +kernel
theorem l_26_2 : look 26 2 = some (.iconst 0, 1, 0, 0, 0, 0) := by decide +kernel
theorem l_26_3 : look 26 3 = some (.istore 4, 2, 0, 0, 0, 0) := by decide +kernel
theorem l_26_5 : look 26 5 = some (.iload 4, 2, 0, 0, 0, 0) := by decide +kernel
theorem l_26_7 : look 26 7 = some (.aload_n 0, 1, 0, 0, 0, 0) := by decide +kernel
theorem l_26_8 : look 26 8 = some (.getfield 27, 3, 3, 0, 0, 613) := by decide +kernel
theorem l_26_11 : look 26 11 = some (.if_icmp .ge 34, 3, 0, 0, 0, 0) := by decide +kernel
theorem l_26_14 : look 26 14 = some (.aload_n 0, 1, 0, 0, 0, 0) := by decide +kernel
theorem l_26_15 : look 26 15 = some (.iload 4, 2, 0, 0, 0, 0) := by decide +kernel
theorem l_26_17 : look 26 17 = some (.iconst 3, 1, 0, 0, 0, 0) := by decide +kernel
theorem l_26_18 : look 26 18 = some (.invokevirtual 46, 3, 24, 3, 0, 250) := by decide +kernel
theorem l_26_21 : look 26 21 = some (.iload_n 1, 1, 0, 0, 0, 0) := by decide +kernel
theorem l_26_22 : look 26 22 = some (.if_icmp .ne 17, 3, 0, 0, 0, 0) := by decide +kernel
theorem l_26_25 : look 26 25 = some (.aload_n 0, 1, 0, 0, 0, 0) := by decide +kernel
theorem l_26_26 : look 26 26 = some (.iload 4, 2, 0, 0, 0, 0) := by decide +kernel
theorem l_26_28 : look 26 28 = some (.iconst 4, 1, 0, 0, 0, 0) := by decide +kernel
theorem l_26_29 : look 26 29 = some (.invokevirtual 46, 3, 24, 3, 0, 250) := by decide +kernel
theorem l_26_32 : look 26 32 = some (.iload_n 2, 1, 0, 0, 0, 0) := by decide +kernel
theorem l_26_33 : look 26 33 = some (.if_icmp .ne 6, 3, 0, 0, 0, 0) := by decide +kernel
theorem l_26_36 : look 26 36 = some (.iinc 3 1, 3, 0, 0, 0, 0) := by decide +kernel
theorem l_26_39 : look 26 39 = some (.iinc 4 1, 3, 0, 0, 0, 0) := by decide +kernel
theorem l_26_42 : look 26 42 = some (.goto (-37), 3, 0, 0, 0, 0) := by decide +kernel
theorem l_26_45 : look 26 45 = some (.iload_n 3, 1, 0, 0, 0, 0) := by decide +kernel
theorem l_26_46 : look 26 46 = some (.ireturn, 1, 0, 0, 0, 0) := by decide +kernel
theorem lp_26 (o : oLog S T s) (hL : cL I s g) {c x : Int} : ∀ d k, k + d = g.1.length → WP xs 26 1 5 [vr s, vi c, vi x, vi (((cntK (isByD c x) g.1 k) : Nat) : Int), vi ((k : Nat) : Int)] [] (S, I, T, cc, zz) (FN (some (vi ((cntK (isByD c x) g.1 g.1.length : Nat) : Int))) (S, I, T, cc, zz)) := by
  intro d
  have h360 := hL.1.2
  induction d with
  | zero =>
    intro k hk0
    refine w_il l_26_5 rfl ?_
    refine w_aln l_26_7 rfl ?_
    refine w_gi ((g.1.length : Nat) : Int) l_26_8 (oLog_sh o) hL.1.1 ?_
    refine w_cge 45 l_26_11 (by decide) (fun _ => ?_) (fun hx => absurd hx (by omega))
    refine w_iln l_26_45 rfl ?_
    refine w_ir l_26_46 (Or.inl rfl) ?_
    have e9 : k = g.1.length := by omega
    rw [e9]
    exact ⟨rfl, rfl⟩
  | succ d ih =>
    intro k hk0
    have hk : k < g.1.length := by omega
    have hcl := cntK_le (f := (isByD c x)) (g := g.1) k
    refine w_il l_26_5 rfl ?_
    refine w_aln l_26_7 rfl ?_
    refine w_gi ((g.1.length : Nat) : Int) l_26_8 (oLog_sh o) hL.1.1 ?_
    refine w_cge 45 l_26_11 (by decide) (fun hx => absurd hx (by omega)) (fun _ => ?_)
    refine w_aln l_26_14 rfl ?_
    refine w_il l_26_15 rfl ?_
    refine w_ic l_26_17 (by decide) ?_
    refine q_iv [vi ((k : Nat) : Int), vi 3] [] l_26_18 rfl rfl (Nat.le_of_ble_eq_true rfl) (by rw [mx_24]; exact Nat.le_of_ble_eq_true rfl) (by rw [mt_24]; exact oLog_sh o) (by rw [mt_24]; decide) (by rw [rk_24]; decide) (t_part3 o hL hk) ?_
    refine w_iln l_26_21 rfl ?_
    refine w_cne 39 l_26_22 (by decide) (fun h1 => ?_) (fun h1 => ?_)
    · skip
      refine w_inc ((k + 1 : Nat) : Int) l_26_39 rfl rfl (by unfold wr; omega) ?_
      refine w_go 5 l_26_42 (by decide) ?_
      have hf : (isByD c x) (g.1.getD k dr0) = false := by unfold isByD; first | (rw [decide_eq_true (by omega), decide_eq_true (by omega)]; rfl) | (rw [decide_eq_false (by omega)]; rfl) | (rw [decide_eq_true (by omega), decide_eq_false (by omega)]; rfl)
      have e9 := ih (k + 1) (by omega)
      rw [cntK_f hf] at e9
      exact e9
    · skip
      refine w_aln l_26_25 rfl ?_
      refine w_il l_26_26 rfl ?_
      refine w_ic l_26_28 (by decide) ?_
      refine q_iv [vi ((k : Nat) : Int), vi 4] [] l_26_29 rfl rfl (Nat.le_of_ble_eq_true rfl) (by rw [mx_24]; exact Nat.le_of_ble_eq_true rfl) (by rw [mt_24]; exact oLog_sh o) (by rw [mt_24]; decide) (by rw [rk_24]; decide) (t_part4 o hL hk) ?_
      refine w_iln l_26_32 rfl ?_
      refine w_cne 39 l_26_33 (by decide) (fun h2 => ?_) (fun h2 => ?_)
      · skip
        refine w_inc ((k + 1 : Nat) : Int) l_26_39 rfl rfl (by unfold wr; omega) ?_
        refine w_go 5 l_26_42 (by decide) ?_
        have hf : (isByD c x) (g.1.getD k dr0) = false := by unfold isByD; first | (rw [decide_eq_true (by omega), decide_eq_true (by omega)]; rfl) | (rw [decide_eq_false (by omega)]; rfl) | (rw [decide_eq_true (by omega), decide_eq_false (by omega)]; rfl)
        have e9 := ih (k + 1) (by omega)
        rw [cntK_f hf] at e9
        exact e9
      · skip
        refine w_inc (((cntK (isByD c x) g.1 k) + 1 : Nat) : Int) l_26_36 rfl rfl (by unfold wr; omega) ?_
        refine w_inc ((k + 1 : Nat) : Int) l_26_39 rfl rfl (by unfold wr; omega) ?_
        refine w_go 5 l_26_42 (by decide) ?_
        have hf : (isByD c x) (g.1.getD k dr0) = true := by unfold isByD; first | (rw [decide_eq_true (by omega), decide_eq_true (by omega)]; rfl) | (rw [decide_eq_false (by omega)]; rfl) | (rw [decide_eq_true (by omega), decide_eq_false (by omega)]; rfl)
        have e9 := ih (k + 1) (by omega)
        rw [cntK_t hf] at e9
        exact e9
theorem s_26 (o : oLog S T s) (hL : cL I s g) {c x : Int}  : CL xs 26 [vr s, vi c, vi x] (S, I, T, cc, zz) (FN (some (vi ((cntK (isByD c x) g.1 g.1.length : Nat) : Int))) (S, I, T, cc, zz)) := by
  refine CL_start (r := 1) (ls := [vr s, vi c, vi x, vs 2, vs 2]) (rk_26 _) rfl ?_
  refine w_ic l_26_0 (by decide) ?_
  refine w_isn l_26_1 ⟨Nat.le_of_ble_eq_true rfl, rfl⟩ ?_
  refine w_ic l_26_2 (by decide) ?_
  refine w_is l_26_3 ⟨Nat.le_of_ble_eq_true rfl, rfl⟩ ?_
  exact lp_26 o hL _ 0 (Nat.zero_add _)

theorem t_fate (o : oLog S T s) (hL : cL I s g) {k : Nat} {P : Int} (hP : -1 ≤ P ∧ P ≤ 3) (hk : k < 120) : CL xs 22 [vr s, vi ((k : Nat) : Int), vi P] (S, I, T, cc, zz) (FN (some (vi ((g.2.1 k (P + 1).toNat : Nat) : Int))) (S, I, T, cc, zz)) := by
  have h9 := s_22 (xs := xs) (T := T) (cc := cc) (zz := zz) (I := I) o hP hk
  rw [hL.2.2.1 k hk _ (by omega)] at h9
  exact h9

end LQ
