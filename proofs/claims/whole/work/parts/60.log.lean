/-! the class: what a log is asked -/
def cntK (f : Dr → Bool) (g : List Dr) : Nat → Nat
  | 0 => 0
  | n + 1 => if f (g.getD n dr0) then cntK f g n + 1 else cntK f g n
theorem cntK_t {f : Dr → Bool} {g : List Dr} {n : Nat} (h : f (g.getD n dr0) = true) : cntK f g (n + 1) = cntK f g n + 1 := if_pos h
theorem cntK_f {f : Dr → Bool} {g : List Dr} {n : Nat} (h : f (g.getD n dr0) = false) : cntK f g (n + 1) = cntK f g n := if_neg (by rw [h]; decide)
theorem cntK_le {f : Dr → Bool} {g : List Dr} : ∀ n, cntK f g n ≤ n
  | 0 => Nat.le_refl _
  | n + 1 => by
    have := cntK_le (f := f) (g := g) n
    unfold cntK
    split <;> omega
theorem cntK_mono {f : Dr → Bool} {g : List Dr} {m : Nat} : ∀ n, m ≤ n → cntK f g m ≤ cntK f g n
  | 0, h => by rw [Nat.le_zero.mp h]; exact Nat.le_refl _
  | n + 1, h => by
    by_cases hm : m = n + 1
    · rw [hm]; exact Nat.le_refl _
    · have := cntK_mono (f := f) (g := g) (m := m) n (by omega)
      rw [cntK]
      split <;> omega
theorem cntK_0 {f : Dr → Bool} {g : List Dr} : cntK f g g.length = 0 ↔ ∀ d, d ∈ g → f d = false := by
  have key : ∀ n, n ≤ g.length → (cntK f g n = 0 ↔ ∀ k, k < n → f (g.getD k dr0) = false) := by
    intro n
    induction n with
    | zero => intro _; exact ⟨fun _ k hk => absurd hk (Nat.not_lt_zero k), fun _ => rfl⟩
    | succ n ih =>
      intro hn
      have h1 := ih (by omega)
      cases hf : f (g.getD n dr0)
      · rw [cntK_f hf, h1]
        refine ⟨fun h k hk => ?_, fun h k hk => h k (by omega)⟩
        by_cases hkn : k = n
        · rw [hkn]; exact hf
        · exact h k (by omega)
      · rw [cntK_t hf]
        refine ⟨fun h => by omega, fun h => ?_⟩
        rw [h n (by omega)] at hf
        cases hf
  rw [key _ (Nat.le_refl _)]
  refine ⟨fun h d hd => ?_, fun h k hk => ?_⟩
  · obtain ⟨k, hk, e⟩ := List.getElem_of_mem hd
    have := h k hk
    rw [List.getD_eq_getElem?_getD, List.getElem?_eq_getElem hk] at this
    rw [← e]
    exact this
  · rw [List.getD_eq_getElem?_getD, List.getElem?_eq_getElem hk]
    exact h _ (List.getElem_mem hk)
def okDr (g : List Dr) : Prop := ∀ k, k < g.length → (g.getD k dr0).2.1 < 120 ∧ -1 ≤ (g.getD k dr0).2.2.1 ∧ (g.getD k dr0).2.2.1 ≤ 3
def hasF (g : Lo) (k : Nat) (P : Int) : Bool := decide (g.2.1 k (P + 1).toNat = 3)
def isBy (c : Int) : Dr → Bool := fun d => decide ((d.2.2.2.1 : Int) = c)
def isByD (c x : Int) : Dr → Bool := fun d => decide ((d.2.2.2.1 : Int) = c) && decide (d.2.2.2.2 = x)
def isCr (P : Int) : Dr → Bool := fun d => decide (d.2.2.1 = P) && (decide (d.2.2.2.1 = 7) || decide (d.2.2.2.1 = 8))
def lacks (g : Lo) : Dr → Bool := fun d => !hasF g d.2.1 d.2.2.1
section LQ
variable {xs : List Int} {S : List (Nat × Nat)} {T : Nat → Nat → Nat} {cc zz s : Nat} {g : Lo} {I I' : Ix}

theorem t_part0 (o : oLog S T s) (hL : cL I s g) {k : Nat} (hk : k < g.1.length) : CL xs 24 [vr s, vi ((k : Nat) : Int), vi 0] (S, I, T, cc, zz) (FN (some (vi ((g.1.getD k dr0).1 : Int))) (S, I, T, cc, zz)) := by
  have h9 := s_24 (xs := xs) (T := T) (cc := cc) (zz := zz) (I := I) o (d := k) (j := 0) (by have := hL.1.2; omega) (by decide)
  rw [(hL.2.1 k hk).1] at h9
  exact h9

theorem t_part1 (o : oLog S T s) (hL : cL I s g) {k : Nat} (hk : k < g.1.length) : CL xs 24 [vr s, vi ((k : Nat) : Int), vi 1] (S, I, T, cc, zz) (FN (some (vi ((g.1.getD k dr0).2.1 : Int))) (S, I, T, cc, zz)) := by
  have h9 := s_24 (xs := xs) (T := T) (cc := cc) (zz := zz) (I := I) o (d := k) (j := 1) (by have := hL.1.2; omega) (by decide)
  rw [(hL.2.1 k hk).2.1] at h9
  exact h9

theorem t_part2 (o : oLog S T s) (hL : cL I s g) {k : Nat} (hk : k < g.1.length) : CL xs 24 [vr s, vi ((k : Nat) : Int), vi 2] (S, I, T, cc, zz) (FN (some (vi (g.1.getD k dr0).2.2.1)) (S, I, T, cc, zz)) := by
  have h9 := s_24 (xs := xs) (T := T) (cc := cc) (zz := zz) (I := I) o (d := k) (j := 2) (by have := hL.1.2; omega) (by decide)
  rw [(hL.2.1 k hk).2.2.1] at h9
  exact h9

theorem t_part3 (o : oLog S T s) (hL : cL I s g) {k : Nat} (hk : k < g.1.length) : CL xs 24 [vr s, vi ((k : Nat) : Int), vi 3] (S, I, T, cc, zz) (FN (some (vi ((g.1.getD k dr0).2.2.2.1 : Int))) (S, I, T, cc, zz)) := by
  have h9 := s_24 (xs := xs) (T := T) (cc := cc) (zz := zz) (I := I) o (d := k) (j := 3) (by have := hL.1.2; omega) (by decide)
  rw [(hL.2.1 k hk).2.2.2.1] at h9
  exact h9

theorem t_part4 (o : oLog S T s) (hL : cL I s g) {k : Nat} (hk : k < g.1.length) : CL xs 24 [vr s, vi ((k : Nat) : Int), vi 4] (S, I, T, cc, zz) (FN (some (vi (g.1.getD k dr0).2.2.2.2)) (S, I, T, cc, zz)) := by
  have h9 := s_24 (xs := xs) (T := T) (cc := cc) (zz := zz) (I := I) o (d := k) (j := 4) (by have := hL.1.2; omega) (by decide)
  rw [(hL.2.1 k hk).2.2.2.2] at h9
  exact h9

theorem mx_25 : mxl 25 = 4 := by decide +kernel
theorem mt_25 : mtc 25 = 3 := by decide +kernel
theorem rk_25 (as : List AV) : rkA 25 as = 1 := rfl
theorem l_25_0 : look 25 0 = some (.iconst 0, 1, 0, 0, 0, 0) := by decide +kernel
theorem l_25_1 : look 25 1 = some (.istore_n 2, 1, 0, 0, 0, 0) := by decide +kernel
theorem l_25_2 : look 25 2 = some (.iconst 0, 1, 0, 0, 0, 0) := by decide +kernel
theorem l_25_3 : look 25 3 = some (.istore_n 3, 1, 0, 0, 0, 0) := by decide +kernel
theorem l_25_4 : look 25 4 = some (.iload_n 3, 1, 0, 0, 0, 0) := by decide +kernel
theorem l_25_5 : look 25 5 = some (.aload_n 0, 1, 0, 0, 0, 0) := by decide +kernel
theorem l_25_6 : look 25 6 = some (.getfield 27, 3, 3, 0, 0, 424) := by decide +kernel
theorem l_25_9 : look 25 9 = some (.if_icmp .ge 22, 3, 0, 0, 0, 0) := by decide +kernel
theorem l_25_12 : look 25 12 = some (.aload_n 0, 1, 0, 0, 0, 0) := by decide +kernel
theorem l_25_13 : look 25 13 = some (.iload_n 3, 1, 0, 0, 0, 0) := by decide +kernel
theorem l_25_14 : look 25 14 = some (.iconst 3, 1, 0, 0, 0, 0) := by decide +kernel
theorem l_25_15 : look 25 15 = some (.invokevirtual 46, 3, 24, 3, 0, 795) := by decide +kernel
theorem l_25_18 : look 25 18 = some (.iload_n 1, 1, 0, 0, 0, 0) := by decide +kernel
theorem l_25_19 : look 25 19 = some (.if_icmp .ne 6, 3, 0, 0, 0, 0) := by decide +kernel
theorem l_25_22 : look 25 22 = some (.iinc 2 1, 3, 0, 0, 0, 0) := by decide +kernel
theorem l_25_25 : look 25 25 = some (.iinc 3 1, 3, 0, 0, 0, 0) := by decide +kernel
theorem l_25_28 : look 25 28 = some (.goto (-24), 3, 0, 0, 0, 0) := by decide +kernel
theorem l_25_31 : look 25 31 = some (.iload_n 2, 1, 0, 0, 0, 0) := by decide +kernel
theorem l_25_32 : look 25 32 = some (.ireturn, 1, 0, 0, 0, 0) := by decide +kernel

theorem lp_25 (o : oLog S T s) (hL : cL I s g) {c : Int} : ∀ d k, k + d = g.1.length → WP xs 25 1 4 [vr s, vi c, vi (((cntK (isBy c) g.1 k) : Nat) : Int), vi ((k : Nat) : Int)] [] (S, I, T, cc, zz) (FN (some (vi ((cntK (isBy c) g.1 g.1.length : Nat) : Int))) (S, I, T, cc, zz)) := by
  intro d
  have h360 := hL.1.2
  induction d with
  | zero =>
    intro k hk0
    refine w_iln l_25_4 rfl ?_
    refine w_aln l_25_5 rfl ?_
    refine w_gi ((g.1.length : Nat) : Int) l_25_6 (oLog_sh o) hL.1.1 ?_
    refine w_cge 31 l_25_9 (by decide) (fun _ => ?_) (fun hx => absurd hx (by omega))
    refine w_iln l_25_31 rfl ?_
    refine w_ir l_25_32 (Or.inl rfl) ?_
    have e9 : k = g.1.length := by omega
    rw [e9]
    exact ⟨rfl, rfl⟩
  | succ d ih =>
    intro k hk0
    have hk : k < g.1.length := by omega
    have hcl := cntK_le (f := (isBy c)) (g := g.1) k
    refine w_iln l_25_4 rfl ?_
    refine w_aln l_25_5 rfl ?_
    refine w_gi ((g.1.length : Nat) : Int) l_25_6 (oLog_sh o) hL.1.1 ?_
    refine w_cge 31 l_25_9 (by decide) (fun hx => absurd hx (by omega)) (fun _ => ?_)
    refine w_aln l_25_12 rfl ?_
    refine w_iln l_25_13 rfl ?_
    refine w_ic l_25_14 (by decide) ?_
    refine q_iv [vi ((k : Nat) : Int), vi 3] [] l_25_15 rfl rfl (Nat.le_of_ble_eq_true rfl) (by rw [mx_24]; exact Nat.le_of_ble_eq_true rfl) (by rw [mt_24]; exact oLog_sh o) (by rw [mt_24]; decide) (by rw [rk_24]; decide) (t_part3 o hL hk) ?_
    refine w_iln l_25_18 rfl ?_
    refine w_cne 25 l_25_19 (by decide) (fun h1 => ?_) (fun h1 => ?_)
    · skip
      refine w_inc ((k + 1 : Nat) : Int) l_25_25 rfl rfl (by unfold wr; omega) ?_
      refine w_go 4 l_25_28 (by decide) ?_
      have hf : (isBy c) (g.1.getD k dr0) = false := by unfold isBy; first | exact decide_eq_false (by omega) | exact decide_eq_true (by omega)
      have e9 := ih (k + 1) (by omega)
      rw [cntK_f hf] at e9
      exact e9
    · skip
      refine w_inc (((cntK (isBy c) g.1 k) + 1 : Nat) : Int) l_25_22 rfl rfl (by unfold wr; omega) ?_
      refine w_inc ((k + 1 : Nat) : Int) l_25_25 rfl rfl (by unfold wr; omega) ?_
      refine w_go 4 l_25_28 (by decide) ?_
      have hf : (isBy c) (g.1.getD k dr0) = true := by unfold isBy; first | exact decide_eq_false (by omega) | exact decide_eq_true (by omega)
      have e9 := ih (k + 1) (by omega)
      rw [cntK_t hf] at e9
      exact e9
theorem s_25 (o : oLog S T s) (hL : cL I s g) {c : Int}  : CL xs 25 [vr s, vi c] (S, I, T, cc, zz) (FN (some (vi ((cntK (isBy c) g.1 g.1.length : Nat) : Int))) (S, I, T, cc, zz)) := by
  refine CL_start (r := 1) (ls := [vr s, vi c, vs 2, vs 2]) (rk_25 _) rfl ?_
  refine w_ic l_25_0 (by decide) ?_
  refine w_isn l_25_1 ⟨Nat.le_of_ble_eq_true rfl, rfl⟩ ?_
  refine w_ic l_25_2 (by decide) ?_
  refine w_isn l_25_3 ⟨Nat.le_of_ble_eq_true rfl, rfl⟩ ?_
  exact lp_25 o hL _ 0 (Nat.zero_add _)

theorem mx_26 : mxl 26 = 5 := by decide +kernel
theorem mt_26 : mtc 26 = 3 := by decide +kernel
theorem rk_26 (as : List AV) : rkA 26 as = 1 := rfl
theorem l_26_0 : look 26 0 = some (.iconst 0, 1, 0, 0, 0, 0) := by decide +kernel
theorem l_26_1 : look 26 1 = some (.istore_n 3, 1, 0, 0, 0, 0) := by decide +kernel
theorem l_26_2 : look 26 2 = some (.iconst 0, 1, 0, 0, 0, 0) := by decide +kernel
theorem l_26_3 : look 26 3 = some (.istore 4, 2, 0, 0, 0, 0) := by decide +kernel
theorem l_26_5 : look 26 5 = some (.iload 4, 2, 0, 0, 0, 0) := by decide +kernel
theorem l_26_7 : look 26 7 = some (.aload_n 0, 1, 0, 0, 0, 0) := by decide +kernel
theorem l_26_8 : look 26 8 = some (.getfield 27, 3, 3, 0, 0, 424) := by decide +kernel
theorem l_26_11 : look 26 11 = some (.if_icmp .ge 34, 3, 0, 0, 0, 0) := by decide +kernel
theorem l_26_14 : look 26 14 = some (.aload_n 0, 1, 0, 0, 0, 0) := by decide +kernel
theorem l_26_15 : look 26 15 = some (.iload 4, 2, 0, 0, 0, 0) := by decide +kernel
theorem l_26_17 : look 26 17 = some (.iconst 3, 1, 0, 0, 0, 0) := by decide +kernel
theorem l_26_18 : look 26 18 = some (.invokevirtual 46, 3, 24, 3, 0, 795) := by decide +kernel
theorem l_26_21 : look 26 21 = some (.iload_n 1, 1, 0, 0, 0, 0) := by decide +kernel
theorem l_26_22 : look 26 22 = some (.if_icmp .ne 17, 3, 0, 0, 0, 0) := by decide +kernel
theorem l_26_25 : look 26 25 = some (.aload_n 0, 1, 0, 0, 0, 0) := by decide +kernel
theorem l_26_26 : look 26 26 = some (.iload 4, 2, 0, 0, 0, 0) := by decide +kernel
theorem l_26_28 : look 26 28 = some (.iconst 4, 1, 0, 0, 0, 0) := by decide +kernel
theorem l_26_29 : look 26 29 = some (.invokevirtual 46, 3, 24, 3, 0, 795) := by decide +kernel
theorem l_26_32 : look 26 32 = some (.iload_n 2, 1, 0, 0, 0, 0) := by decide +kernel
theorem l_26_33 : look 26 33 = some (.if_icmp .ne 6, 3, 0, 0, 0, 0) := by decide +kernel
theorem l_26_36 : look 26 36 = some (.iinc 3 1, 3, 0, 0, 0, 0) := by decide +kernel
theorem l_26_39 : look 26 39 = some (.iinc 4 1, 3, 0, 0, 0, 0) := by decide +kernel
theorem l_26_42 : look 26 42 = some (.goto (-37), 3, 0, 0, 0, 0) := by decide +kernel
theorem l_26_45 : look 26 45 = some (.iload_n 3, 1, 0, 0, 0, 0) := by decide +kernel
theorem l_26_46 : look 26 46 = some (.ireturn, 1, 0, 0, 0, 0) := by decide +kernel

theorem lp_26 (o : oLog S T s) (hL : cL I s g) {c x : Int} : ∀ d k, k + d = g.1.length → WP xs 26 1 5 [vr s, vi c, vi x, vi (((cntK (isByD c x) g.1 k) : Nat) : Int), vi ((k : Nat) : Int)] [] (S, I, T, cc, zz) (FN (some (vi ((cntK (isByD c x) g.1 g.1.length : Nat) : Int))) (S, I, T, cc, zz)) := by
  intro d
  have h360 := hL.1.2
  induction d with
  | zero =>
    intro k hk0
    refine w_il l_26_5 rfl ?_
    refine w_aln l_26_7 rfl ?_
    refine w_gi ((g.1.length : Nat) : Int) l_26_8 (oLog_sh o) hL.1.1 ?_
    refine w_cge 45 l_26_11 (by decide) (fun _ => ?_) (fun hx => absurd hx (by omega))
    refine w_iln l_26_45 rfl ?_
    refine w_ir l_26_46 (Or.inl rfl) ?_
    have e9 : k = g.1.length := by omega
    rw [e9]
    exact ⟨rfl, rfl⟩
  | succ d ih =>
    intro k hk0
    have hk : k < g.1.length := by omega
    have hcl := cntK_le (f := (isByD c x)) (g := g.1) k
    refine w_il l_26_5 rfl ?_
    refine w_aln l_26_7 rfl ?_
    refine w_gi ((g.1.length : Nat) : Int) l_26_8 (oLog_sh o) hL.1.1 ?_
    refine w_cge 45 l_26_11 (by decide) (fun hx => absurd hx (by omega)) (fun _ => ?_)
    refine w_aln l_26_14 rfl ?_
    refine w_il l_26_15 rfl ?_
    refine w_ic l_26_17 (by decide) ?_
    refine q_iv [vi ((k : Nat) : Int), vi 3] [] l_26_18 rfl rfl (Nat.le_of_ble_eq_true rfl) (by rw [mx_24]; exact Nat.le_of_ble_eq_true rfl) (by rw [mt_24]; exact oLog_sh o) (by rw [mt_24]; decide) (by rw [rk_24]; decide) (t_part3 o hL hk) ?_
    refine w_iln l_26_21 rfl ?_
    refine w_cne 39 l_26_22 (by decide) (fun h1 => ?_) (fun h1 => ?_)
    · skip
      refine w_inc ((k + 1 : Nat) : Int) l_26_39 rfl rfl (by unfold wr; omega) ?_
      refine w_go 5 l_26_42 (by decide) ?_
      have hf : (isByD c x) (g.1.getD k dr0) = false := by unfold isByD; first | (rw [decide_eq_true (by omega), decide_eq_true (by omega)]; rfl) | (rw [decide_eq_false (by omega)]; rfl) | (rw [decide_eq_true (by omega), decide_eq_false (by omega)]; rfl)
      have e9 := ih (k + 1) (by omega)
      rw [cntK_f hf] at e9
      exact e9
    · skip
      refine w_aln l_26_25 rfl ?_
      refine w_il l_26_26 rfl ?_
      refine w_ic l_26_28 (by decide) ?_
      refine q_iv [vi ((k : Nat) : Int), vi 4] [] l_26_29 rfl rfl (Nat.le_of_ble_eq_true rfl) (by rw [mx_24]; exact Nat.le_of_ble_eq_true rfl) (by rw [mt_24]; exact oLog_sh o) (by rw [mt_24]; decide) (by rw [rk_24]; decide) (t_part4 o hL hk) ?_
      refine w_iln l_26_32 rfl ?_
      refine w_cne 39 l_26_33 (by decide) (fun h2 => ?_) (fun h2 => ?_)
      · skip
        refine w_inc ((k + 1 : Nat) : Int) l_26_39 rfl rfl (by unfold wr; omega) ?_
        refine w_go 5 l_26_42 (by decide) ?_
        have hf : (isByD c x) (g.1.getD k dr0) = false := by unfold isByD; first | (rw [decide_eq_true (by omega), decide_eq_true (by omega)]; rfl) | (rw [decide_eq_false (by omega)]; rfl) | (rw [decide_eq_true (by omega), decide_eq_false (by omega)]; rfl)
        have e9 := ih (k + 1) (by omega)
        rw [cntK_f hf] at e9
        exact e9
      · skip
        refine w_inc (((cntK (isByD c x) g.1 k) + 1 : Nat) : Int) l_26_36 rfl rfl (by unfold wr; omega) ?_
        refine w_inc ((k + 1 : Nat) : Int) l_26_39 rfl rfl (by unfold wr; omega) ?_
        refine w_go 5 l_26_42 (by decide) ?_
        have hf : (isByD c x) (g.1.getD k dr0) = true := by unfold isByD; first | (rw [decide_eq_true (by omega), decide_eq_true (by omega)]; rfl) | (rw [decide_eq_false (by omega)]; rfl) | (rw [decide_eq_true (by omega), decide_eq_false (by omega)]; rfl)
        have e9 := ih (k + 1) (by omega)
        rw [cntK_t hf] at e9
        exact e9
theorem s_26 (o : oLog S T s) (hL : cL I s g) {c x : Int}  : CL xs 26 [vr s, vi c, vi x] (S, I, T, cc, zz) (FN (some (vi ((cntK (isByD c x) g.1 g.1.length : Nat) : Int))) (S, I, T, cc, zz)) := by
  refine CL_start (r := 1) (ls := [vr s, vi c, vi x, vs 2, vs 2]) (rk_26 _) rfl ?_
  refine w_ic l_26_0 (by decide) ?_
  refine w_isn l_26_1 ⟨Nat.le_of_ble_eq_true rfl, rfl⟩ ?_
  refine w_ic l_26_2 (by decide) ?_
  refine w_is l_26_3 ⟨Nat.le_of_ble_eq_true rfl, rfl⟩ ?_
  exact lp_26 o hL _ 0 (Nat.zero_add _)

theorem mx_27 : mxl 27 = 3 := by decide +kernel
theorem mt_27 : mtc 27 = 3 := by decide +kernel
theorem rk_27 (as : List AV) : rkA 27 as = 1 := rfl
theorem l_27_0 : look 27 0 = some (.aload_n 0, 1, 0, 0, 0, 0) := by decide +kernel
theorem l_27_1 : look 27 1 = some (.aload_n 1, 1, 0, 0, 0, 0) := by decide +kernel
theorem l_27_2 : look 27 2 = some (.iload_n 2, 1, 0, 0, 0, 0) := by decide +kernel
theorem l_27_3 : look 27 3 = some (.iconst 1, 1, 0, 0, 0, 0) := by decide +kernel
theorem l_27_4 : look 27 4 = some (.invokevirtual 46, 3, 24, 3, 0, 795) := by decide +kernel
theorem l_27_7 : look 27 7 = some (.aload_n 1, 1, 0, 0, 0, 0) := by decide +kernel
theorem l_27_8 : look 27 8 = some (.iload_n 2, 1, 0, 0, 0, 0) := by decide +kernel
theorem l_27_9 : look 27 9 = some (.iconst 2, 1, 0, 0, 0, 0) := by decide +kernel
theorem l_27_10 : look 27 10 = some (.invokevirtual 46, 3, 24, 3, 0, 795) := by decide +kernel
theorem l_27_13 : look 27 13 = some (.invokevirtual 50, 3, 22, 3, 0, 799) := by decide +kernel
theorem l_27_16 : look 27 16 = some (.iconst 3, 1, 0, 0, 0, 0) := by decide +kernel
theorem l_27_17 : look 27 17 = some (.if_icmp .ne 7, 3, 0, 0, 0, 0) := by decide +kernel
theorem l_27_20 : look 27 20 = some (.iconst 1, 1, 0, 0, 0, 0) := by decide +kernel
theorem l_27_21 : look 27 21 = some (.goto 4, 3, 0, 0, 0, 0) := by decide +kernel
theorem l_27_24 : look 27 24 = some (.iconst 0, 1, 0, 0, 0, 0) := by decide +kernel
theorem l_27_25 : look 27 25 = some (.ireturn, 1, 0, 0, 1, 0) := by decide +kernel

theorem t_fate (o : oLog S T s) (hL : cL I s g) {k : Nat} {P : Int} (hP : -1 ≤ P ∧ P ≤ 3) (hk : k < 120) : CL xs 22 [vr s, vi ((k : Nat) : Int), vi P] (S, I, T, cc, zz) (FN (some (vi ((g.2.1 k (P + 1).toNat : Nat) : Int))) (S, I, T, cc, zz)) := by
  have h9 := s_22 (xs := xs) (T := T) (cc := cc) (zz := zz) (I := I) o hP hk
  rw [hL.2.2.1 k hk _ (by omega)] at h9
  exact h9

theorem s_27 (o : oLog S T s) {t k : Nat} {g2 : Lo} (o2 : oLog S T t) (hL : cL I s g) (hL2 : cL I t g2) (hd : okDr g2.1) (hk : k < g2.1.length) : CL xs 27 [vr s, vr t, vi ((k : Nat) : Int)] (S, I, T, cc, zz) (FN (some (vi (b2i (hasF g (g2.1.getD k dr0).2.1 (g2.1.getD k dr0).2.2.1)))) (S, I, T, cc, zz)) := by
  refine CL_start (r := 1) (ls := [vr s, vr t, vi ((k : Nat) : Int)]) (rk_27 _) rfl ?_
  refine w_aln l_27_0 rfl ?_
  refine w_aln l_27_1 rfl ?_
  refine w_iln l_27_2 rfl ?_
  refine w_ic l_27_3 (by decide) ?_
  refine q_iv [vi ((k : Nat) : Int), vi 1] [vr s] l_27_4 rfl rfl (Nat.le_of_ble_eq_true rfl) (by rw [mx_24]; exact Nat.le_of_ble_eq_true rfl) (by rw [mt_24]; exact oLog_sh o2) (by rw [mt_24]; decide) (by rw [rk_24]; decide) (t_part1 o2 hL2 hk) ?_
  refine w_aln l_27_7 rfl ?_
  refine w_iln l_27_8 rfl ?_
  refine w_ic l_27_9 (by decide) ?_
  refine q_iv [vi ((k : Nat) : Int), vi 2] [vi (((g2.1.getD k dr0).2.1 : Nat) : Int), vr s] l_27_10 rfl rfl (Nat.le_of_ble_eq_true rfl) (by rw [mx_24]; exact Nat.le_of_ble_eq_true rfl) (by rw [mt_24]; exact oLog_sh o2) (by rw [mt_24]; decide) (by rw [rk_24]; decide) (t_part2 o2 hL2 hk) ?_
  refine q_iv [vi (((g2.1.getD k dr0).2.1 : Nat) : Int), vi ((g2.1.getD k dr0).2.2.1)] [] l_27_13 rfl rfl (Nat.le_of_ble_eq_true rfl) (by rw [mx_22]; exact Nat.le_of_ble_eq_true rfl) (by rw [mt_22]; exact oLog_sh o) (by rw [mt_22]; decide) (by rw [rk_22]; decide) (t_fate o hL (hd k hk).2 (hd k hk).1) ?_
  refine w_ic l_27_16 (by decide) ?_
  refine w_cne 24 l_27_17 (by decide) (fun h1 => ?_) (fun h1 => ?_)
  · skip
    refine w_ic l_27_24 (by decide) ?_
    refine w_ir l_27_25 (by decide) ?_
    refine ⟨?_, rfl⟩
    first
      | (rw [show hasF g (g2.1.getD k dr0).2.1 (g2.1.getD k dr0).2.2.1 = true from decide_eq_true (by omega)]; rfl)
      | (rw [show hasF g (g2.1.getD k dr0).2.1 (g2.1.getD k dr0).2.2.1 = false from decide_eq_false (by omega)]; rfl)
  · skip
    refine w_ic l_27_20 (by decide) ?_
    refine w_go 25 l_27_21 (by decide) ?_
    refine w_ir l_27_25 (by decide) ?_
    refine ⟨?_, rfl⟩
    first
      | (rw [show hasF g (g2.1.getD k dr0).2.1 (g2.1.getD k dr0).2.2.1 = true from decide_eq_true (by omega)]; rfl)
      | (rw [show hasF g (g2.1.getD k dr0).2.1 (g2.1.getD k dr0).2.2.1 = false from decide_eq_false (by omega)]; rfl)

theorem mx_28 : mxl 28 = 4 := by decide +kernel
theorem mt_28 : mtc 28 = 3 := by decide +kernel
theorem rk_28 (as : List AV) : rkA 28 as = 2 := rfl
theorem l_28_0 : look 28 0 = some (.iconst 0, 1, 0, 0, 0, 0) := by decide +kernel
theorem l_28_1 : look 28 1 = some (.istore_n 2, 1, 0, 0, 0, 0) := by decide +kernel
theorem l_28_2 : look 28 2 = some (.iconst 0, 1, 0, 0, 0, 0) := by decide +kernel
theorem l_28_3 : look 28 3 = some (.istore_n 3, 1, 0, 0, 0, 0) := by decide +kernel
theorem l_28_4 : look 28 4 = some (.iload_n 3, 1, 0, 0, 0, 0) := by decide +kernel
theorem l_28_5 : look 28 5 = some (.aload_n 0, 1, 0, 0, 0, 0) := by decide +kernel
theorem l_28_6 : look 28 6 = some (.getfield 27, 3, 3, 0, 0, 424) := by decide +kernel
theorem l_28_9 : look 28 9 = some (.if_icmp .ge 21, 3, 0, 0, 0, 0) := by decide +kernel
theorem l_28_12 : look 28 12 = some (.aload_n 1, 1, 0, 0, 0, 0) := by decide +kernel
theorem l_28_13 : look 28 13 = some (.aload_n 0, 1, 0, 0, 0, 0) := by decide +kernel
theorem l_28_14 : look 28 14 = some (.iload_n 3, 1, 0, 0, 0, 0) := by decide +kernel
theorem l_28_15 : look 28 15 = some (.invokevirtual 53, 3, 27, 3, 0, 791) := by decide +kernel
theorem l_28_18 : look 28 18 = some (.ifCond .ne 6, 3, 0, 0, 0, 0) := by decide +kernel
theorem l_28_21 : look 28 21 = some (.iinc 2 1, 3, 0, 0, 0, 0) := by decide +kernel
theorem l_28_24 : look 28 24 = some (.iinc 3 1, 3, 0, 0, 0, 0) := by decide +kernel
theorem l_28_27 : look 28 27 = some (.goto (-23), 3, 0, 0, 0, 0) := by decide +kernel
theorem l_28_30 : look 28 30 = some (.iload_n 2, 1, 0, 0, 0, 0) := by decide +kernel
theorem l_28_31 : look 28 31 = some (.ireturn, 1, 0, 0, 0, 0) := by decide +kernel

theorem lp_28 (o : oLog S T s) {t : Nat} {g2 : Lo} (o2 : oLog S T t) (hL : cL I s g) (hL2 : cL I t g2) (hd : okDr g.1) : ∀ d k, k + d = g.1.length → WP xs 28 2 4 [vr s, vr t, vi (((cntK (lacks g2) g.1 k) : Nat) : Int), vi ((k : Nat) : Int)] [] (S, I, T, cc, zz) (FN (some (vi ((cntK (lacks g2) g.1 g.1.length : Nat) : Int))) (S, I, T, cc, zz)) := by
  intro d
  have h360 := hL.1.2
  induction d with
  | zero =>
    intro k hk0
    refine w_iln l_28_4 rfl ?_
    refine w_aln l_28_5 rfl ?_
    refine w_gi ((g.1.length : Nat) : Int) l_28_6 (oLog_sh o) hL.1.1 ?_
    refine w_cge 30 l_28_9 (by decide) (fun _ => ?_) (fun hx => absurd hx (by omega))
    refine w_iln l_28_30 rfl ?_
    refine w_ir l_28_31 (Or.inl rfl) ?_
    have e9 : k = g.1.length := by omega
    rw [e9]
    exact ⟨rfl, rfl⟩
  | succ d ih =>
    intro k hk0
    have hk : k < g.1.length := by omega
    have hcl := cntK_le (f := (lacks g2)) (g := g.1) k
    refine w_iln l_28_4 rfl ?_
    refine w_aln l_28_5 rfl ?_
    refine w_gi ((g.1.length : Nat) : Int) l_28_6 (oLog_sh o) hL.1.1 ?_
    refine w_cge 30 l_28_9 (by decide) (fun hx => absurd hx (by omega)) (fun _ => ?_)
    refine w_aln l_28_12 rfl ?_
    refine w_aln l_28_13 rfl ?_
    refine w_iln l_28_14 rfl ?_
    refine q_iv [vr s, vi ((k : Nat) : Int)] [] l_28_15 rfl rfl (Nat.le_of_ble_eq_true rfl) (by rw [mx_27]; exact Nat.le_of_ble_eq_true rfl) (by rw [mt_27]; exact oLog_sh o2) (by rw [mt_27]; decide) (by rw [rk_27]; decide) (s_27 o2 o hL2 hL hd hk) ?_
    refine w_bne 24 l_28_18 (by decide) (fun h1 => ?_) (fun h1 => ?_)
    · skip
      refine w_inc ((k + 1 : Nat) : Int) l_28_24 rfl rfl (by unfold wr; omega) ?_
      refine w_go 4 l_28_27 (by decide) ?_
      have hf : (lacks g2) (g.1.getD k dr0) = false := by unfold lacks; rw [h1]; rfl
      have e9 := ih (k + 1) (by omega)
      rw [cntK_f hf] at e9
      exact e9
    · skip
      refine w_inc (((cntK (lacks g2) g.1 k) + 1 : Nat) : Int) l_28_21 rfl rfl (by unfold wr; omega) ?_
      refine w_inc ((k + 1 : Nat) : Int) l_28_24 rfl rfl (by unfold wr; omega) ?_
      refine w_go 4 l_28_27 (by decide) ?_
      have hf : (lacks g2) (g.1.getD k dr0) = true := by unfold lacks; rw [h1]; rfl
      have e9 := ih (k + 1) (by omega)
      rw [cntK_t hf] at e9
      exact e9
theorem s_28 (o : oLog S T s) {t : Nat} {g2 : Lo} (o2 : oLog S T t) (hL : cL I s g) (hL2 : cL I t g2) (hd : okDr g.1)  : CL xs 28 [vr s, vr t] (S, I, T, cc, zz) (FN (some (vi ((cntK (lacks g2) g.1 g.1.length : Nat) : Int))) (S, I, T, cc, zz)) := by
  refine CL_start (r := 2) (ls := [vr s, vr t, vs 2, vs 2]) (rk_28 _) rfl ?_
  refine w_ic l_28_0 (by decide) ?_
  refine w_isn l_28_1 ⟨Nat.le_of_ble_eq_true rfl, rfl⟩ ?_
  refine w_ic l_28_2 (by decide) ?_
  refine w_isn l_28_3 ⟨Nat.le_of_ble_eq_true rfl, rfl⟩ ?_
  exact lp_28 o o2 hL hL2 hd _ 0 (Nat.zero_add _)

theorem mx_29 : mxl 29 = 4 := by decide +kernel
theorem mt_29 : mtc 29 = 3 := by decide +kernel
theorem rk_29 (as : List AV) : rkA 29 as = 1 := rfl
theorem l_29_0 : look 29 0 = some (.iconst 0, 1, 0, 0, 0, 0) := by decide +kernel
theorem l_29_1 : look 29 1 = some (.istore_n 2, 1, 0, 0, 0, 0) := by decide +kernel
theorem l_29_2 : look 29 2 = some (.iload_n 2, 1, 0, 0, 0, 0) := by decide +kernel
theorem l_29_3 : look 29 3 = some (.aload_n 0, 1, 0, 0, 0, 0) := by decide +kernel
theorem l_29_4 : look 29 4 = some (.getfield 27, 3, 3, 0, 0, 424) := by decide +kernel
theorem l_29_7 : look 29 7 = some (.if_icmp .ge 40, 3, 0, 0, 0, 0) := by decide +kernel
theorem l_29_10 : look 29 10 = some (.aload_n 0, 1, 0, 0, 0, 0) := by decide +kernel
theorem l_29_11 : look 29 11 = some (.iload_n 2, 1, 0, 0, 0, 0) := by decide +kernel
theorem l_29_12 : look 29 12 = some (.iconst 3, 1, 0, 0, 0, 0) := by decide +kernel
theorem l_29_13 : look 29 13 = some (.invokevirtual 46, 3, 24, 3, 0, 795) := by decide +kernel
theorem l_29_16 : look 29 16 = some (.istore_n 3, 1, 0, 0, 0, 0) := by decide +kernel
theorem l_29_17 : look 29 17 = some (.aload_n 0, 1, 0, 0, 0, 0) := by decide +kernel
theorem l_29_18 : look 29 18 = some (.iload_n 2, 1, 0, 0, 0, 0) := by decide +kernel
theorem l_29_19 : look 29 19 = some (.iconst 2, 1, 0, 0, 0, 0) := by decide +kernel
theorem l_29_20 : look 29 20 = some (.invokevirtual 46, 3, 24, 3, 0, 795) := by decide +kernel
theorem l_29_23 : look 29 23 = some (.iload_n 1, 1, 0, 0, 0, 0) := by decide +kernel
theorem l_29_24 : look 29 24 = some (.if_icmp .ne 17, 3, 0, 0, 0, 0) := by decide +kernel
theorem l_29_27 : look 29 27 = some (.iload_n 3, 1, 0, 0, 0, 0) := by decide +kernel
theorem l_29_28 : look 29 28 = some (.bipush 7, 2, 0, 0, 0, 0) := by decide +kernel
theorem l_29_30 : look 29 30 = some (.if_icmp .eq 9, 3, 0, 0, 0, 0) := by decide +kernel
theorem l_29_33 : look 29 33 = some (.iload_n 3, 1, 0, 0, 0, 0) := by decide +kernel
theorem l_29_34 : look 29 34 = some (.bipush 8, 2, 0, 0, 0, 0) := by decide +kernel
theorem l_29_36 : look 29 36 = some (.if_icmp .ne 5, 3, 0, 0, 0, 0) := by decide +kernel
theorem l_29_39 : look 29 39 = some (.iconst 1, 1, 0, 0, 0, 0) := by decide +kernel
theorem l_29_40 : look 29 40 = some (.ireturn, 1, 0, 0, 1, 0) := by decide +kernel
theorem l_29_41 : look 29 41 = some (.iinc 2 1, 3, 0, 0, 0, 0) := by decide +kernel
theorem l_29_44 : look 29 44 = some (.goto (-42), 3, 0, 0, 0, 0) := by decide +kernel
theorem l_29_47 : look 29 47 = some (.iconst 0, 1, 0, 0, 0, 0) := by decide +kernel
theorem l_29_48 : look 29 48 = some (.ireturn, 1, 0, 0, 1, 0) := by decide +kernel

theorem lp_29 (o : oLog S T s) (hL : cL I s g) {p : Int} : ∀ d k, k + d = g.1.length → cntK (isCr p) g.1 k = 0 → ∀ v3 : AV, WP xs 29 1 2 [vr s, vi p, vi ((k : Nat) : Int), v3] [] (S, I, T, cc, zz) (FN (some (vi (b2i (decide (cntK (isCr p) g.1 g.1.length ≠ 0))))) (S, I, T, cc, zz)) := by
  intro d
  have h360 := hL.1.2
  induction d with
  | zero =>
    intro k hk0 h0 v3
    refine w_iln l_29_2 rfl ?_
    refine w_aln l_29_3 rfl ?_
    refine w_gi ((g.1.length : Nat) : Int) l_29_4 (oLog_sh o) hL.1.1 ?_
    refine w_cge 47 l_29_7 (by decide) (fun _ => ?_) (fun hx => absurd hx (by omega))
    refine w_ic l_29_47 (by decide) ?_
    refine w_ir l_29_48 (by decide) ?_
    have e9 : k = g.1.length := by omega
    rw [e9] at h0
    rw [decide_eq_false (show ¬ cntK (isCr p) g.1 g.1.length ≠ 0 by omega)]
    exact ⟨rfl, rfl⟩
  | succ d ih =>
    intro k hk0 h0 v3
    have hk : k < g.1.length := by omega
    refine w_iln l_29_2 rfl ?_
    refine w_aln l_29_3 rfl ?_
    refine w_gi ((g.1.length : Nat) : Int) l_29_4 (oLog_sh o) hL.1.1 ?_
    refine w_cge 47 l_29_7 (by decide) (fun hx => absurd hx (by omega)) (fun _ => ?_)
    refine w_aln l_29_10 rfl ?_
    refine w_iln l_29_11 rfl ?_
    refine w_ic l_29_12 (by decide) ?_
    refine q_iv [vi ((k : Nat) : Int), vi 3] [] l_29_13 rfl rfl (Nat.le_of_ble_eq_true rfl) (by rw [mx_24]; exact Nat.le_of_ble_eq_true rfl) (by rw [mt_24]; exact oLog_sh o) (by rw [mt_24]; decide) (by rw [rk_24]; decide) (t_part3 o hL hk) ?_
    refine w_isn l_29_16 ⟨Nat.le_of_ble_eq_true rfl, rfl⟩ ?_
    refine w_aln l_29_17 rfl ?_
    refine w_iln l_29_18 rfl ?_
    refine w_ic l_29_19 (by decide) ?_
    refine q_iv [vi ((k : Nat) : Int), vi 2] [] l_29_20 rfl rfl (Nat.le_of_ble_eq_true rfl) (by rw [mx_24]; exact Nat.le_of_ble_eq_true rfl) (by rw [mt_24]; exact oLog_sh o) (by rw [mt_24]; decide) (by rw [rk_24]; decide) (t_part2 o hL hk) ?_
    refine w_iln l_29_23 rfl ?_
    refine w_cne 41 l_29_24 (by decide) (fun h1 => ?_) (fun h1 => ?_)
    · skip
      refine w_inc ((k + 1 : Nat) : Int) l_29_41 rfl rfl (by unfold wr; omega) ?_
      refine w_go 2 l_29_44 (by decide) ?_
      have hf : isCr p (g.1.getD k dr0) = false := by unfold isCr; first | (rw [decide_eq_true (by omega), decide_eq_true (by omega)]; rfl) | (rw [decide_eq_true (by omega), decide_eq_false (by omega), decide_eq_true (by omega)]; rfl) | (rw [decide_eq_false (by omega)]; rfl) | (rw [decide_eq_true (by omega), decide_eq_false (by omega), decide_eq_false (by omega)]; rfl)
      exact ih (k + 1) (by omega) (by rw [cntK_f hf]; exact h0) _
    · skip
      refine w_iln l_29_27 rfl ?_
      refine w_bp l_29_28 (by decide) ?_
      refine w_ceq 39 l_29_30 (by decide) (fun h2 => ?_) (fun h2 => ?_)
      · skip
        refine w_ic l_29_39 (by decide) ?_
        refine w_ir l_29_40 (by decide) ?_
        have hf : isCr p (g.1.getD k dr0) = true := by unfold isCr; first | (rw [decide_eq_true (by omega), decide_eq_true (by omega)]; rfl) | (rw [decide_eq_true (by omega), decide_eq_false (by omega), decide_eq_true (by omega)]; rfl) | (rw [decide_eq_false (by omega)]; rfl) | (rw [decide_eq_true (by omega), decide_eq_false (by omega), decide_eq_false (by omega)]; rfl)
        have hm := cntK_mono (f := isCr p) (g := g.1) (m := k + 1) g.1.length (by omega)
        rw [cntK_t hf] at hm
        rw [decide_eq_true (show cntK (isCr p) g.1 g.1.length ≠ 0 by omega)]
        exact ⟨rfl, rfl⟩
      · skip
        refine w_iln l_29_33 rfl ?_
        refine w_bp l_29_34 (by decide) ?_
        refine w_cne 41 l_29_36 (by decide) (fun h3 => ?_) (fun h3 => ?_)
        · skip
          refine w_inc ((k + 1 : Nat) : Int) l_29_41 rfl rfl (by unfold wr; omega) ?_
          refine w_go 2 l_29_44 (by decide) ?_
          have hf : isCr p (g.1.getD k dr0) = false := by unfold isCr; first | (rw [decide_eq_true (by omega), decide_eq_true (by omega)]; rfl) | (rw [decide_eq_true (by omega), decide_eq_false (by omega), decide_eq_true (by omega)]; rfl) | (rw [decide_eq_false (by omega)]; rfl) | (rw [decide_eq_true (by omega), decide_eq_false (by omega), decide_eq_false (by omega)]; rfl)
          exact ih (k + 1) (by omega) (by rw [cntK_f hf]; exact h0) _
        · skip
          refine w_ic l_29_39 (by decide) ?_
          refine w_ir l_29_40 (by decide) ?_
          have hf : isCr p (g.1.getD k dr0) = true := by unfold isCr; first | (rw [decide_eq_true (by omega), decide_eq_true (by omega)]; rfl) | (rw [decide_eq_true (by omega), decide_eq_false (by omega), decide_eq_true (by omega)]; rfl) | (rw [decide_eq_false (by omega)]; rfl) | (rw [decide_eq_true (by omega), decide_eq_false (by omega), decide_eq_false (by omega)]; rfl)
          have hm := cntK_mono (f := isCr p) (g := g.1) (m := k + 1) g.1.length (by omega)
          rw [cntK_t hf] at hm
          rw [decide_eq_true (show cntK (isCr p) g.1 g.1.length ≠ 0 by omega)]
          exact ⟨rfl, rfl⟩
theorem s_29 (o : oLog S T s) (hL : cL I s g) {p : Int} : CL xs 29 [vr s, vi p] (S, I, T, cc, zz) (FN (some (vi (b2i (decide (cntK (isCr p) g.1 g.1.length ≠ 0))))) (S, I, T, cc, zz)) := by
  refine CL_start (r := 1) (ls := [vr s, vi p, vs 2, vs 2]) (rk_29 _) rfl ?_
  refine w_ic l_29_0 (by decide) ?_
  refine w_isn l_29_1 ⟨Nat.le_of_ble_eq_true rfl, rfl⟩ ?_
  exact lp_29 o hL _ 0 (Nat.zero_add _) rfl _

end LQ
