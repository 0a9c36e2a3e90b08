/-! the formatted text: what drops hold; the class's line -/
theorem log_keep3 {Q : Lo → Prop} {h : Hi} {l : Li} {e : Nat} (h1 : ∀ g k (port : Int) c d, (-1 ≤ port ∧ port < ((lPorts l : Nat) : Int)) ∧ (1 ≤ c ∧ c ≤ 10) ∧ -1 ≤ d ∧ d ≤ 200 → Q g → Q (addDr g e k port c d)) (h2 : ∀ g k p, Q g → Q (addDel g k p)) (h3 : ∀ g k t v, Q g → Q (setFate g k t v)) (hk : hKind h e ≤ 3) (hl : lPorts l ≤ 4) (hr : lRules l ≤ 8) (hK : hKind h e = 0 → hPk h e ≤ 200) (hp : hKind h e ≠ 1 → hPort h e < lPorts l) (r : Ra) (H : Q r.2) : Q (stepA h l e r).1.2 := by
  have hpush : ∀ n cap siz k p (r : Ra), k ≤ 200 → p < lPorts l → Q r.2 → Q (pushA h cap siz e k p n r).2 := by
    intro n cap siz k p
    induction n with
    | zero => intro r _ _ H; exact H
    | succ n ih =>
      intro r hk hp H
      unfold pushA
      split
      · exact H
      · exact ih _ hk hp (h1 _ _ _ _ _ (by omega) H)
  have hput : ∀ k p (r : Ra), k ≤ 200 → p < lPorts l → Q r.2 → Q (putA h l e k p r).1.2 := by
    intro k p r hk hp H
    unfold putA
    split
    · exact h1 _ _ _ _ _ (by omega) H
    · split
      · exact h1 _ _ _ _ _ (by omega) H
      · exact h3 _ _ _ _ (hpush _ _ _ _ _ _ hk hp H)
  have hputs : ∀ way k n (r : Ra), k ≤ 200 → n ≤ lPorts l → Q r.2 → Q (putsA h l e k way n r).1.2 := by
    intro way k n r hk hn H
    induction n with
    | zero => exact H
    | succ n ih =>
      cases hw : way n
      · rw [puts_f hw]; exact ih (by omega)
      · rw [puts_t hw]; exact hput _ _ _ hk (by omega) (ih (by omega))
  have hfold : ∀ (p : Nat) c (q : List Cp) (g : Lo), p < lPorts l → (1 ≤ c ∧ c ≤ 10) → Q g → Q (q.foldl (fun g c' => addDr g e c'.1 p c (-1)) g) := by
    intro p c q
    induction q with
    | nil => intro g _ _ H; exact H
    | cons x q ih => intro g hp hc H; exact ih _ hp hc (h1 _ _ _ _ _ (by omega) H)
  have hdel : ∀ p d (r : Ra), Q r.2 → Q (delA h p d r).2 := by
    intro p d
    induction d with
    | zero => intro r H; exact H
    | succ d ih => intro r H; exact ih _ (h2 _ _ _ H)
  rcases (show hKind h e = 0 ∨ hKind h e = 1 ∨ hKind h e = 2 ∨ hKind h e = 3 by omega) with hk0 | hk0 | hk0 | hk0
  · rw [step_0 hk0]
    have hkk := hK hk0
    unfold arriveA
    split
    · exact h1 _ _ _ _ _ (by omega) H
    · split
      · rename_i x hx
        refine h1 _ _ _ _ _ ?_ H
        have hxr : x < lRules l := by
          revert hx
          split
          · rename_i y hy
            split
            · intro hx
              cases hx
              exact List.mem_range.mp (List.mem_of_find?_eq_some hy)
            · intro hx; cases hx
          · intro hx; cases hx
        omega
      · split
        · exact h1 _ _ _ _ _ (by omega) H
        · simp only
          split
          · split
            · exact h1 _ _ _ _ _ (by omega) H
            · exact hputs _ _ _ _ hkk (Nat.le_refl _) H
          · split
            · exact h1 _ _ _ _ _ (by omega) H
            · exact hputs _ _ _ _ hkk (Nat.le_refl _) H
  · rw [step_1 hk0]
    have hdels : ∀ n, Q (delsA h l n r).1.2 := by
      intro n
      induction n with
      | zero => exact H
      | succ n ih =>
        cases hw : sUp (delsA h l n r).1.1 n
        · rw [dels_f hw]; exact ih
        · rw [dels_t hw]; exact hdel _ _ _ ih
    have hst : ∀ n (r : Ra), n ≤ lPorts l → Q r.2 → Q (stalesA l e n r).2 := by
      intro n r hn H
      induction n with
      | zero => exact H
      | succ n ih => exact hfold _ _ _ _ (by omega) (by decide) (ih (by omega))
    exact hst _ _ (Nat.le_refl _) (hdels _)
  · rw [step_2 hk0]; exact H
  · rw [step_3 hk0]
    have := hp (by omega)
    exact hfold _ _ _ _ (by omega) (by decide) H
/-- a drop as it may be -/
def okD (l : Li) (d : Dr) : Prop := d.1 < 120 ∧ d.2.1 < 120 ∧ (-1 ≤ d.2.2.1 ∧ d.2.2.1 < ((lPorts l : Nat) : Int)) ∧ (1 ≤ d.2.2.2.1 ∧ d.2.2.2.1 ≤ 10) ∧ -1 ≤ d.2.2.2.2 ∧ d.2.2.2.2 ≤ 200
theorem run_okD0 {h : Hi} {l : Li} {ne np : Nat} (okl : okLi l) (hev : okEv h l ne np) (hnp : np ≤ 120) {out : Nat → Bool} : ∀ n, n ≤ ne → ∀ d, d ∈ (runA h l out n).2.1 → (-1 ≤ d.2.2.1 ∧ d.2.2.1 < ((lPorts l : Nat) : Int)) ∧ (1 ≤ d.2.2.2.1 ∧ d.2.2.2.1 ≤ 10) ∧ -1 ≤ d.2.2.2.2 ∧ d.2.2.2.2 ≤ 200
  | 0, _, d, hd => by cases hd
  | n + 1, hn, d, hd => by
    have ih := run_okD0 okl hev hnp (out := out) n (by omega)
    obtain ⟨g1, g2, g3⟩ := hev n (by omega)
    cases ho : out n with
    | true => rw [run_o ho] at hd; exact ih d hd
    | false =>
      rw [run_s ho] at hd
      exact log_keep3 (Q := fun g => ∀ d, d ∈ g.1 → (-1 ≤ d.2.2.1 ∧ d.2.2.1 < ((lPorts l : Nat) : Int)) ∧ (1 ≤ d.2.2.2.1 ∧ d.2.2.2.1 ≤ 10) ∧ -1 ≤ d.2.2.2.2 ∧ d.2.2.2.2 ≤ 200) (fun g k port c x hp H d hd => by
        have hd' : d ∈ g.1 ++ [(n, k, port, c, x)] := hd
        rcases List.mem_append.mp hd' with hd | hd
        · exact H d hd
        · rw [List.mem_singleton] at hd; rw [hd]; exact hp) (fun g k p H => H) (fun g k t v H => H) g3 okl.1 okl.2.1 (fun q => by have := g2 q; omega) g1 (runA h l out n) ih d hd
theorem run_okD {h : Hi} {l : Li} {ne np : Nat} (okl : okLi l) (hev : okEv h l ne np) (hpk : okPk h ne) (h120 : ne ≤ 120) (hnp : np ≤ ne) {k : Nat} (hk : k < (runA h l noOut ne).2.1.length) : okD l ((runA h l noOut ne).2.1.getD k dr0) := by
  have hm := mem_gd hk
  have h1 := run_ev (h := h) (l := l) (out := noOut) (n := ne) (fun x hx => (hpk x hx).2) _ hm
  have h2 := run_okDr okl hev hpk h120 (out := noOut) (Nat.le_refl ne) k hk
  exact ⟨by omega, h2.1, run_okD0 okl hev (by omega) ne (Nat.le_refl ne) _ hm⟩
def numB (v : Nat) : List Nat := (if 100 ≤ v then [48 + v / 100 % 10] else []) ++ (if 10 ≤ v then [48 + v / 10 % 10] else []) ++ [48 + v % 10]
theorem numB_len (v : Nat) : (numB v).length ≤ 3 := by
  unfold numB
  split <;> split <;> simp
/-- a name's letters, the last one first, as numbers 1 to 26; its number -/
def nvR : List Nat → Nat
  | [] => 0
  | a :: r => a + 32 * nvR r
def okNm (n : List Nat) : Prop := n.length ≤ 6 ∧ ∀ a, a ∈ n → 1 ≤ a ∧ a ≤ 26
def nameB (n : List Nat) : List Nat := n.reverse.map (fun a => a + 96)
theorem nvR_lt : ∀ n : List Nat, (∀ a, a ∈ n → 1 ≤ a ∧ a ≤ 26) → nvR n < 32 ^ n.length
  | [], _ => by decide
  | a :: r, H => by
    have h1 := nvR_lt r fun b hb => H b (List.mem_cons_of_mem _ hb)
    have h2 := H a (List.mem_cons_self ..)
    show a + 32 * nvR r < 32 ^ (r.length + 1)
    rw [Nat.pow_succ]
    omega
theorem nvR_30 {n : List Nat} (H : okNm n) : nvR n < 1073741824 := Nat.lt_of_lt_of_le (nvR_lt n H.2) (Nat.pow_le_pow_right (n := 32) (by decide) H.1 : 32 ^ n.length ≤ 32 ^ 6)
theorem nvR_at : ∀ (n : List Nat) (d : Nat), (∀ a, a ∈ n → 1 ≤ a ∧ a ≤ 26) → nvR n / 32 ^ d % 32 = n.getD d 0
  | [], d, _ => by simp [nvR]
  | a :: r, 0, H => by
    have h2 := H a (List.mem_cons_self ..)
    show (a + 32 * nvR r) / 1 % 32 = a
    omega
  | a :: r, d + 1, H => by
    have h1 := nvR_at r d fun b hb => H b (List.mem_cons_of_mem _ hb)
    have h2 := H a (List.mem_cons_self ..)
    show (a + 32 * nvR r) / 32 ^ (d + 1) % 32 = r.getD d 0
    rw [Nat.pow_succ, Nat.mul_comm (32 ^ d) 32, ← Nat.div_div_eq_div_mul, show (a + 32 * nvR r) / 32 = nvR r by omega]
    exact h1
theorem take_sn {L : List Nat} {i : Nat} (hi : i < L.length) : L.take (i + 1) = L.take i ++ [L.getD i 0] := by
  rw [List.take_succ, List.getD_eq_getElem?_getD, List.getElem?_eq_getElem hi]
  rfl
theorem take_rev {n : List Nat} {d : Nat} (hd : d < n.length) : nameB (n.take (d + 1)) = (n.getD d 0 + 96) :: nameB (n.take d) := by
  unfold nameB
  rw [take_sn hd, List.reverse_append]
  rfl
theorem take_all {n : List Nat} {d : Nat} (hd : n.length ≤ d) : n.take d = n := List.take_of_length_le hd
def strB (q : Nat) : List Nat := (stb.getD q []).map Int.toNat
theorem strB_len (q : Nat) : (strB q).length = (stb.getD q []).length := List.length_map _
theorem map_at {L : List Int} {i : Nat} (hi : i < L.length) : (L.map Int.toNat).getD i 0 = (L.getD i 0).toNat := by
  rw [List.getD_eq_getElem?_getD, List.getD_eq_getElem?_getD, List.getElem?_map, List.getElem?_eq_getElem hi]
  rfl
theorem strB_at {q i : Nat} (hq : q < 53) (hi : i < (stb.getD q []).length) : (stb.getD q []).getD i 0 = (((strB q).getD i 0 : Nat) : Int) ∧ (strB q).getD i 0 < 128 := by
  have h := stb_ok q hq i hi
  have e : (strB q).getD i 0 = ((stb.getD q []).getD i 0).toNat := map_at hi
  omega
/-- the class's line -/
def lnS (I : Ix) (s : Nat) (L : List Nat) : Prop := I s 1 = (L.length : Int) ∧ L.length ≤ 600 ∧ ∀ i, i < L.length → I (s + 1) i = ((L.getD i 0 : Nat) : Int)
theorem getD_l {L M : List Nat} {i : Nat} (hi : i < L.length) : (L ++ M).getD i 0 = L.getD i 0 := by
  rw [List.getD_eq_getElem?_getD, List.getD_eq_getElem?_getD, List.getElem?_append_left hi]
theorem getD_r {L : List Nat} {c : Nat} : (L ++ [c]).getD L.length 0 = c := by
  rw [List.getD_eq_getElem?_getD, List.getElem?_append_right (Nat.le_refl _)]
  simp
section FMT
variable {xs : List Int} {S : List (Nat × Nat)} {T : Nat → Nat → Nat} {cc zz s q y : Nat} {h : Hi} {l : Li} {I I' : Ix} {L : List Nat}
theorem t_add (o : oLine S T s) (H : lnS I s L) {c : Nat} (hL : L.length < 600) (hc : c < 128) : CL xs 13 [vr s, vi ((c : Nat) : Int)] (S, I, T, cc, zz) (RP S T cc zz (fun v I' => v = none ∧ lnS I' s (L ++ [c]) ∧ fr I I' s (s + 1))) :=
  CL_FN (s_13 o H.1 hL hc) (by
    have hl : (L ++ [c]).length = L.length + 1 := by simp
    refine ⟨_, _, rfl, rfl, rfl, ⟨by rw [hl]; exact up_eq, by omega, fun i hi => ?_⟩, ((fr.rf _ _ _).up (by omega) (by omega)).up (by omega) (by omega)⟩
    rw [up_no (by omega)]
    by_cases hi2 : i < L.length
    · rw [up_nj (by omega), getD_l hi2]
      exact H.2.2 i hi2
    · have e : i = L.length := by omega
      subst e
      rw [up_eq, getD_r])

theorem mx_15 : mxl 15 = 2 := by decide +kernel
theorem mt_15 : mtc 15 = 2 := by decide +kernel
theorem rk_15 (as : List AV) : rkA 15 as = 1 := rfl
theorem l_15_0 : look 15 0 = some (.iload_n 1, 1, 0, 0, 0, 0) := by decide +kernel
theorem l_15_1 : look 15 1 = some (.bipush 100, 2, 0, 0, 0, 0) := by decide +kernel
theorem l_15_3 : look 15 3 = some (.if_icmp .lt 17, 3, 0, 0, 0, 0) := by decide +kernel
theorem l_15_6 : look 15 6 = some (.aload_n 0, 1, 0, 0, 0, 0) := by decide +kernel
theorem l_15_7 : look 15 7 = some (.bipush 48, 2, 0, 0, 0, 0) := by decide +kernel
theorem l_15_9 : look 15 9 = some (.iload_n 1, 1, 0, 0, 0, 0) := by decide +kernel
theorem l_15_10 : look 15 10 = some (.bipush 100, 2, 0, 0, 0, 0) := by decide +kernel
theorem l_15_12 : look 15 12 = some (.idiv, 1, 0, 0, 0, 0) := by decide +kernel
theorem l_15_13 : look 15 13 = some (.bipush 10, 2, 0, 0, 0, 0) := by decide +kernel
theorem l_15_15 : look 15 15 = some (.irem, 1, 0, 0, 0, 0) := by decide +kernel
theorem l_15_16 : look 15 16 = some (.iadd, 1, 0, 0, 0, 0) := by decide +kernel
theorem l_15_17 : look 15 17 = some (.invokevirtual 28, 3, 13, 2, 0, 267) := by decide +kernel
theorem l_15_20 : look 15 20 = some (.iload_n 1, 1, 0, 0, 0, 0) := by decide +kernel
theorem l_15_21 : look 15 21 = some (.bipush 10, 2, 0, 0, 0, 0) := by decide +kernel
theorem l_15_23 : look 15 23 = some (.if_icmp .lt 17, 3, 0, 0, 0, 0) := by decide +kernel
theorem l_15_26 : look 15 26 = some (.aload_n 0, 1, 0, 0, 0, 0) := by decide +kernel
theorem l_15_27 : look 15 27 = some (.bipush 48, 2, 0, 0, 0, 0) := by decide +kernel
theorem l_15_29 : look 15 29 = some (.iload_n 1, 1, 0, 0, 0, 0) := by decide +kernel
theorem l_15_30 : look 15 30 = some (.bipush 10, 2, 0, 0, 0, 0) := by decide +kernel
theorem l_15_32 : look 15 32 = some (.idiv, 1, 0, 0, 0, 0) := by decide +kernel
theorem l_15_33 : look 15 33 = some (.bipush 10, 2, 0, 0, 0, 0) := by decide +kernel
theorem l_15_35 : look 15 35 = some (.irem, 1, 0, 0, 0, 0) := by decide +kernel
theorem l_15_36 : look 15 36 = some (.iadd, 1, 0, 0, 0, 0) := by decide +kernel
theorem l_15_37 : look 15 37 = some (.invokevirtual 28, 3, 13, 2, 0, 267) := by decide +kernel
theorem l_15_40 : look 15 40 = some (.aload_n 0, 1, 0, 0, 0, 0) := by decide +kernel
theorem l_15_41 : look 15 41 = some (.bipush 48, 2, 0, 0, 0, 0) := by decide +kernel
theorem l_15_43 : look 15 43 = some (.iload_n 1, 1, 0, 0, 0, 0) := by decide +kernel
theorem l_15_44 : look 15 44 = some (.bipush 10, 2, 0, 0, 0, 0) := by decide +kernel
theorem l_15_46 : look 15 46 = some (.irem, 1, 0, 0, 0, 0) := by decide +kernel
theorem l_15_47 : look 15 47 = some (.iadd, 1, 0, 0, 0, 0) := by decide +kernel
theorem l_15_48 : look 15 48 = some (.invokevirtual 28, 3, 13, 2, 0, 267) := by decide +kernel
theorem l_15_51 : look 15 51 = some (.return_, 1, 0, 0, 0, 0) := by decide +kernel
theorem s_15 (o : oLine S T s) (H : lnS I s L) {v : Nat} (hv : v < 1000) (hL : L.length + (numB v).length ≤ 600) : CL xs 15 [vr s, vi ((v : Nat) : Int)] (S, I, T, cc, zz) (RP S T cc zz (fun v9 I' => v9 = none ∧ lnS I' s (L ++ numB v) ∧ fr I I' s (s + 1))) := by
  by_cases h1 : 100 ≤ v
  · skip
    refine CL_start (r := 1) (ls := [vr s, vi ((v : Nat) : Int)]) (rk_15 _) rfl ?_
    have e9 : numB v = [48 + v / 100 % 10] ++ [48 + v / 10 % 10] ++ [48 + v % 10] := by
      unfold numB
      rw [if_pos (by omega), if_pos (by omega)]
      try rfl
    have hlen : (numB v).length = 3 := by rw [e9]; rfl
    refine w_iln l_15_0 rfl ?_
    refine w_bp l_15_1 (by decide) ?_
    refine w_clt 20 l_15_3 (by decide) (fun hx => absurd hx (by omega)) (fun _ => ?_)
    refine w_aln l_15_6 rfl ?_
    refine w_bp l_15_7 (by decide) ?_
    refine w_iln l_15_9 rfl ?_
    refine w_bp l_15_10 (by decide) ?_
    refine w_div (((v / 100) : Nat) : Int) l_15_12 (by decide) (by rw [show ((v : Nat) : Int).tdiv 100 = ((v / 100 : Nat) : Int) from rfl]; unfold wr; omega) ?_
    refine w_bp l_15_13 (by decide) ?_
    refine w_rem (((v / 100 % 10) : Nat) : Int) l_15_15 (by decide) rfl ?_
    refine w_add (((48 + v / 100 % 10) : Nat) : Int) l_15_16 (by unfold wr; omega) ?_
    refine p_iv [vi (((48 + v / 100 % 10) : Nat) : Int)] [] l_15_17 rfl rfl (Nat.le_of_ble_eq_true rfl) (by rw [mx_13]; exact Nat.le_of_ble_eq_true rfl) (by rw [mt_13]; exact oLine_sh o) (by rw [mt_13]; decide) (by rw [rk_13]; decide) (t_add o H (by first | omega | (simp only [List.length_append, List.length_cons, List.length_nil]; omega)) (by omega)) (fun v I1 hv => ?_)
    obtain ⟨rfl, H1, f1⟩ := hv
    refine w_iln l_15_20 rfl ?_
    refine w_bp l_15_21 (by decide) ?_
    refine w_clt 40 l_15_23 (by decide) (fun hx => absurd hx (by omega)) (fun _ => ?_)
    refine w_aln l_15_26 rfl ?_
    refine w_bp l_15_27 (by decide) ?_
    refine w_iln l_15_29 rfl ?_
    refine w_bp l_15_30 (by decide) ?_
    refine w_div (((v / 10) : Nat) : Int) l_15_32 (by decide) (by rw [show ((v : Nat) : Int).tdiv 10 = ((v / 10 : Nat) : Int) from rfl]; unfold wr; omega) ?_
    refine w_bp l_15_33 (by decide) ?_
    refine w_rem (((v / 10 % 10) : Nat) : Int) l_15_35 (by decide) rfl ?_
    refine w_add (((48 + v / 10 % 10) : Nat) : Int) l_15_36 (by unfold wr; omega) ?_
    refine p_iv [vi (((48 + v / 10 % 10) : Nat) : Int)] [] l_15_37 rfl rfl (Nat.le_of_ble_eq_true rfl) (by rw [mx_13]; exact Nat.le_of_ble_eq_true rfl) (by rw [mt_13]; exact oLine_sh o) (by rw [mt_13]; decide) (by rw [rk_13]; decide) (t_add o H1 (by first | omega | (simp only [List.length_append, List.length_cons, List.length_nil]; omega)) (by omega)) (fun v I2 hv => ?_)
    obtain ⟨rfl, H2, f2⟩ := hv
    refine w_aln l_15_40 rfl ?_
    refine w_bp l_15_41 (by decide) ?_
    refine w_iln l_15_43 rfl ?_
    refine w_bp l_15_44 (by decide) ?_
    refine w_rem (((v % 10) : Nat) : Int) l_15_46 (by decide) rfl ?_
    refine w_add (((48 + v % 10) : Nat) : Int) l_15_47 (by unfold wr; omega) ?_
    refine p_iv [vi (((48 + v % 10) : Nat) : Int)] [] l_15_48 rfl rfl (Nat.le_of_ble_eq_true rfl) (by rw [mx_13]; exact Nat.le_of_ble_eq_true rfl) (by rw [mt_13]; exact oLine_sh o) (by rw [mt_13]; decide) (by rw [rk_13]; decide) (t_add o H2 (by first | omega | (simp only [List.length_append, List.length_cons, List.length_nil]; omega)) (by omega)) (fun v I3 hv => ?_)
    obtain ⟨rfl, H3, f3⟩ := hv
    refine w_vr l_15_51 ?_
    refine ⟨_, _, rfl, rfl, rfl, ?_, ((f1.tr f2).tr f3)⟩
    rw [e9]
    simpa only [List.append_assoc, List.cons_append, List.nil_append] using H3
  · by_cases h2 : 10 ≤ v
    · skip
      refine CL_start (r := 1) (ls := [vr s, vi ((v : Nat) : Int)]) (rk_15 _) rfl ?_
      have e9 : numB v = [48 + v / 10 % 10] ++ [48 + v % 10] := by
        unfold numB
        rw [if_neg (by omega), if_pos (by omega)]
        try rfl
      have hlen : (numB v).length = 2 := by rw [e9]; rfl
      refine w_iln l_15_0 rfl ?_
      refine w_bp l_15_1 (by decide) ?_
      refine w_clt 20 l_15_3 (by decide) (fun _ => ?_) (fun hx => absurd hx (by omega))
      refine w_iln l_15_20 rfl ?_
      refine w_bp l_15_21 (by decide) ?_
      refine w_clt 40 l_15_23 (by decide) (fun hx => absurd hx (by omega)) (fun _ => ?_)
      refine w_aln l_15_26 rfl ?_
      refine w_bp l_15_27 (by decide) ?_
      refine w_iln l_15_29 rfl ?_
      refine w_bp l_15_30 (by decide) ?_
      refine w_div (((v / 10) : Nat) : Int) l_15_32 (by decide) (by rw [show ((v : Nat) : Int).tdiv 10 = ((v / 10 : Nat) : Int) from rfl]; unfold wr; omega) ?_
      refine w_bp l_15_33 (by decide) ?_
      refine w_rem (((v / 10 % 10) : Nat) : Int) l_15_35 (by decide) rfl ?_
      refine w_add (((48 + v / 10 % 10) : Nat) : Int) l_15_36 (by unfold wr; omega) ?_
      refine p_iv [vi (((48 + v / 10 % 10) : Nat) : Int)] [] l_15_37 rfl rfl (Nat.le_of_ble_eq_true rfl) (by rw [mx_13]; exact Nat.le_of_ble_eq_true rfl) (by rw [mt_13]; exact oLine_sh o) (by rw [mt_13]; decide) (by rw [rk_13]; decide) (t_add o H (by first | omega | (simp only [List.length_append, List.length_cons, List.length_nil]; omega)) (by omega)) (fun v I1 hv => ?_)
      obtain ⟨rfl, H1, f1⟩ := hv
      refine w_aln l_15_40 rfl ?_
      refine w_bp l_15_41 (by decide) ?_
      refine w_iln l_15_43 rfl ?_
      refine w_bp l_15_44 (by decide) ?_
      refine w_rem (((v % 10) : Nat) : Int) l_15_46 (by decide) rfl ?_
      refine w_add (((48 + v % 10) : Nat) : Int) l_15_47 (by unfold wr; omega) ?_
      refine p_iv [vi (((48 + v % 10) : Nat) : Int)] [] l_15_48 rfl rfl (Nat.le_of_ble_eq_true rfl) (by rw [mx_13]; exact Nat.le_of_ble_eq_true rfl) (by rw [mt_13]; exact oLine_sh o) (by rw [mt_13]; decide) (by rw [rk_13]; decide) (t_add o H1 (by first | omega | (simp only [List.length_append, List.length_cons, List.length_nil]; omega)) (by omega)) (fun v I2 hv => ?_)
      obtain ⟨rfl, H2, f2⟩ := hv
      refine w_vr l_15_51 ?_
      refine ⟨_, _, rfl, rfl, rfl, ?_, (f1.tr f2)⟩
      rw [e9]
      simpa only [List.append_assoc, List.cons_append, List.nil_append] using H2
    · skip
      refine CL_start (r := 1) (ls := [vr s, vi ((v : Nat) : Int)]) (rk_15 _) rfl ?_
      have e9 : numB v = [48 + v % 10] := by
        unfold numB
        rw [if_neg (by omega), if_neg (by omega)]
        try rfl
      have hlen : (numB v).length = 1 := by rw [e9]; rfl
      refine w_iln l_15_0 rfl ?_
      refine w_bp l_15_1 (by decide) ?_
      refine w_clt 20 l_15_3 (by decide) (fun _ => ?_) (fun hx => absurd hx (by omega))
      refine w_iln l_15_20 rfl ?_
      refine w_bp l_15_21 (by decide) ?_
      refine w_clt 40 l_15_23 (by decide) (fun _ => ?_) (fun hx => absurd hx (by omega))
      refine w_aln l_15_40 rfl ?_
      refine w_bp l_15_41 (by decide) ?_
      refine w_iln l_15_43 rfl ?_
      refine w_bp l_15_44 (by decide) ?_
      refine w_rem (((v % 10) : Nat) : Int) l_15_46 (by decide) rfl ?_
      refine w_add (((48 + v % 10) : Nat) : Int) l_15_47 (by unfold wr; omega) ?_
      refine p_iv [vi (((48 + v % 10) : Nat) : Int)] [] l_15_48 rfl rfl (Nat.le_of_ble_eq_true rfl) (by rw [mx_13]; exact Nat.le_of_ble_eq_true rfl) (by rw [mt_13]; exact oLine_sh o) (by rw [mt_13]; decide) (by rw [rk_13]; decide) (t_add o H (by first | omega | (simp only [List.length_append, List.length_cons, List.length_nil]; omega)) (by omega)) (fun v I1 hv => ?_)
      obtain ⟨rfl, H1, f1⟩ := hv
      refine w_vr l_15_51 ?_
      refine ⟨_, _, rfl, rfl, rfl, ?_, f1⟩
      rw [e9]
      simpa only [List.append_assoc, List.cons_append, List.nil_append] using H1

theorem mx_14 : mxl 14 = 3 := by decide +kernel
theorem mt_14 : mtc 14 = 2 := by decide +kernel
theorem rk_14 (as : List AV) : rkA 14 as = 4 := rfl
theorem l_14_0 : look 14 0 = some (.iconst 0, 1, 0, 0, 0, 0) := by decide +kernel
theorem l_14_1 : look 14 1 = some (.istore_n 2, 1, 0, 0, 0, 0) := by decide +kernel
theorem l_14_2 : look 14 2 = some (.iload_n 2, 1, 0, 0, 0, 0) := by decide +kernel
theorem l_14_3 : look 14 3 = some (.aload_n 1, 1, 0, 0, 0, 0) := by decide +kernel
theorem l_14_4 : look 14 4 = some (.invokevirtual 19, 3, 299, 1, 0, 289) := by decide +kernel
theorem l_14_7 : look 14 7 = some (.if_icmp .ge 18, 3, 0, 0, 0, 0) := by decide +kernel
theorem l_14_10 : look 14 10 = some (.aload_n 0, 1, 0, 0, 0, 0) := by decide +kernel
theorem l_14_11 : look 14 11 = some (.aload_n 1, 1, 0, 0, 0, 0) := by decide +kernel
theorem l_14_12 : look 14 12 = some (.iload_n 2, 1, 0, 0, 0, 0) := by decide +kernel
theorem l_14_13 : look 14 13 = some (.invokevirtual 24, 3, 300, 2, 0, 299) := by decide +kernel
theorem l_14_16 : look 14 16 = some (.invokevirtual 28, 3, 13, 2, 0, 267) := by decide +kernel
theorem l_14_19 : look 14 19 = some (.iinc 2 1, 3, 0, 0, 0, 0) := by decide +kernel
theorem l_14_22 : look 14 22 = some (.goto (-20), 3, 0, 0, 0, 0) := by decide +kernel
theorem l_14_25 : look 14 25 = some (.return_, 1, 0, 0, 0, 0) := by decide +kernel
theorem lp_14 {I0 : Ix} (o : oLine S T s) {w : Nat} (hq27 : w < 27) (hL : L.length + 7 ≤ 600) : ∀ d i I, i + d = (stb.getD w []).length → lnS I s (L ++ (strB w).take i) → fr I0 I s (s + 1) → WP xs 14 4 2 [vr s, vs (2 * w + 4), vi ((i : Nat) : Int)] [] (S, I, T, cc, zz) (RP S T cc zz (fun v I' => v = none ∧ lnS I' s (L ++ strB w) ∧ fr I0 I' s (s + 1))) := by
  have hq53 : w < 53 := by omega
  intro d
  have h7 := stb_len w hq27
  induction d with
  | zero =>
    intro i I hi0 H fi
    refine w_iln l_14_2 rfl ?_
    refine w_asn l_14_3 rfl ?_
    refine q_ivs [] [vi ((i : Nat) : Int)] l_14_4 rfl rfl (Nat.le_of_ble_eq_true rfl) (by rw [mx_299]; exact Nat.le_of_ble_eq_true rfl) (by first | decide | exact hq53) mt_299 (by rw [rk_299]; decide) (s_299 hq53) ?_
    refine w_cge 25 l_14_7 (by decide) (fun _ => ?_) (fun hx => absurd hx (by omega))
    refine w_vr l_14_25 ?_
    rw [List.take_of_length_le (by rw [strB_len]; omega)] at H
    exact ⟨_, _, rfl, rfl, rfl, H, fi⟩
  | succ d ih =>
    intro i I hi0 H fi
    have hi : i < (stb.getD w []).length := by omega
    refine w_iln l_14_2 rfl ?_
    refine w_asn l_14_3 rfl ?_
    refine q_ivs [] [vi ((i : Nat) : Int)] l_14_4 rfl rfl (Nat.le_of_ble_eq_true rfl) (by rw [mx_299]; exact Nat.le_of_ble_eq_true rfl) (by first | decide | exact hq53) mt_299 (by rw [rk_299]; decide) (s_299 hq53) ?_
    refine w_cge 25 l_14_7 (by decide) (fun hx => absurd hx (by omega)) (fun _ => ?_)
    refine w_aln l_14_10 rfl ?_
    refine w_asn l_14_11 rfl ?_
    refine w_iln l_14_12 rfl ?_
    refine q_ivs [vi ((i : Nat) : Int)] [vr s] l_14_13 rfl rfl (Nat.le_of_ble_eq_true rfl) (by rw [mx_300]; exact Nat.le_of_ble_eq_true rfl) (by first | decide | exact hq53) mt_300 (by rw [rk_300]; decide) (s_300 hq53 hi (strB_at hq53 hi).1 (strB_at hq53 hi).2) ?_
    refine p_iv [vi ((((strB w).getD i 0) : Nat) : Int)] [] l_14_16 rfl rfl (Nat.le_of_ble_eq_true rfl) (by rw [mx_13]; exact Nat.le_of_ble_eq_true rfl) (by rw [mt_13]; exact oLine_sh o) (by rw [mt_13]; decide) (by rw [rk_13]; decide) (t_add o H (by simp only [List.length_append, List.length_take]; omega) (strB_at hq53 hi).2) (fun v I1 hv => ?_)
    obtain ⟨rfl, H1, f1⟩ := hv
    refine w_inc ((i + 1 : Nat) : Int) l_14_19 rfl rfl (by unfold wr; omega) ?_
    refine w_go 2 l_14_22 (by decide) ?_
    rw [List.append_assoc, ← take_sn (by rw [strB_len]; exact hi)] at H1
    exact ih (i + 1) I1 (by omega) H1 (fi.tr f1)
theorem s_14 (o : oLine S T s) (H : lnS I s L) {w : Nat} (hq27 : w < 27) (hL : L.length + 7 ≤ 600) : CL xs 14 [vr s, vs (2 * w + 4)] (S, I, T, cc, zz) (RP S T cc zz (fun v I' => v = none ∧ lnS I' s (L ++ strB w) ∧ fr I I' s (s + 1))) := by
  have hq53 : w < 53 := by omega
  refine CL_start (r := 4) (ls := [vr s, vs (2 * w + 4), vs 2]) (rk_14 _) rfl ?_
  refine w_ic l_14_0 (by decide) ?_
  refine w_isn l_14_1 ⟨Nat.le_of_ble_eq_true rfl, rfl⟩ ?_
  exact lp_14 o hq27 hL _ 0 I (Nat.zero_add _) (by rw [List.take_zero, List.append_nil]; exact H) (fr.rf _ _ _)

theorem mx_16 : mxl 16 = 4 := by decide +kernel
theorem mt_16 : mtc 16 = 2 := by decide +kernel
theorem rk_16 (as : List AV) : rkA 16 as = 1 := rfl
theorem l_16_0 : look 16 0 = some (.bipush 25, 2, 0, 0, 0, 0) := by decide +kernel
theorem l_16_2 : look 16 2 = some (.istore_n 2, 1, 0, 0, 0, 0) := by decide +kernel
theorem l_16_3 : look 16 3 = some (.iload_n 2, 1, 0, 0, 0, 0) := by decide +kernel
theorem l_16_4 : look 16 4 = some (.ifCond .lt 30, 3, 0, 0, 0, 0) := by decide +kernel
theorem l_16_7 : look 16 7 = some (.iload_n 1, 1, 0, 0, 0, 0) := by decide +kernel
theorem l_16_8 : look 16 8 = some (.iload_n 2, 1, 0, 0, 0, 0) := by decide +kernel
theorem l_16_9 : look 16 9 = some (.ishr, 1, 0, 0, 0, 0) := by decide +kernel
theorem l_16_10 : look 16 10 = some (.bipush 31, 2, 0, 0, 0, 0) := by decide +kernel
theorem l_16_12 : look 16 12 = some (.iand, 1, 0, 0, 0, 0) := by decide +kernel
theorem l_16_13 : look 16 13 = some (.istore_n 3, 1, 0, 0, 0, 0) := by decide +kernel
theorem l_16_14 : look 16 14 = some (.iload_n 3, 1, 0, 0, 0, 0) := by decide +kernel
theorem l_16_15 : look 16 15 = some (.ifCond .eq 13, 3, 0, 0, 0, 0) := by decide +kernel
theorem l_16_18 : look 16 18 = some (.aload_n 0, 1, 0, 0, 0, 0) := by decide +kernel
theorem l_16_19 : look 16 19 = some (.bipush 97, 2, 0, 0, 0, 0) := by decide +kernel
theorem l_16_21 : look 16 21 = some (.iload_n 3, 1, 0, 0, 0, 0) := by decide +kernel
theorem l_16_22 : look 16 22 = some (.iadd, 1, 0, 0, 0, 0) := by decide +kernel
theorem l_16_23 : look 16 23 = some (.iconst 1, 1, 0, 0, 0, 0) := by decide +kernel
theorem l_16_24 : look 16 24 = some (.isub, 1, 0, 0, 0, 0) := by decide +kernel
theorem l_16_25 : look 16 25 = some (.invokevirtual 28, 3, 13, 2, 0, 267) := by decide +kernel
theorem l_16_28 : look 16 28 = some (.iinc 2 (-5), 3, 0, 0, 0, 0) := by decide +kernel
theorem l_16_31 : look 16 31 = some (.goto (-28), 3, 0, 0, 0, 0) := by decide +kernel
theorem l_16_34 : look 16 34 = some (.return_, 1, 0, 0, 0, 0) := by decide +kernel
theorem lp_16 {I0 : Ix} (o : oLine S T s) {n : List Nat} (hn : okNm n) : ∀ d (L : List Nat) I (v3 : AV), d ≤ 6 ∧ L.length + (n.take d).length ≤ 600 → lnS I s L → fr I0 I s (s + 1) → WP xs 16 1 3 [vr s, vi (((nvR n) : Nat) : Int), vi (((5 * d : Nat) : Int) - 5), v3] [] (S, I, T, cc, zz) (RP S T cc zz (fun v I' => v = none ∧ lnS I' s (L ++ nameB (n.take d)) ∧ fr I0 I' s (s + 1))) := by
  intro d
  have h30 := nvR_30 hn
  induction d with
  | zero =>
    intro L I v3 hL H fi
    refine w_iln l_16_3 rfl ?_
    refine w_zlt 34 l_16_4 (by decide) (fun _ => ?_) (fun hx => absurd hx (by decide))
    refine w_vr l_16_34 ?_
    rw [List.take_zero, show nameB [] = [] from rfl, List.append_nil]
    exact ⟨_, _, rfl, rfl, rfl, H, fi⟩
  | succ d ih =>
    intro L I v3 hL H fi
    have hgl : n.getD d 0 ≤ 26 := by
      by_cases h9 : d < n.length
      · have hm : n.getD d 0 ∈ n := by
          rw [List.getD_eq_getElem?_getD, List.getElem?_eq_getElem h9]
          exact List.getElem_mem _
        exact (hn.2 _ hm).2
      · rw [List.getD_eq_getElem?_getD, List.getElem?_eq_none (by omega)]
        decide
    have e8d : (((5 * (d + 1) : Nat) : Int) - 5) - 5 = (((5 * d : Nat) : Int) - 5) := by omega
    refine w_iln l_16_3 rfl ?_
    refine w_zlt 34 l_16_4 (by decide) (fun hx => absurd hx (by omega)) (fun _ => ?_)
    refine w_iln l_16_7 rfl ?_
    refine w_iln l_16_8 rfl ?_
    refine w_shr (((nvR n / 2 ^ (5 * d)) : Nat) : Int) l_16_9 (by rw [show ((((5 * (d + 1) : Nat) : Int) - 5)) = ((5 * d : Nat) : Int) by omega]; exact shr_n (by omega) (by omega)) ?_
    refine w_bp l_16_10 (by decide) ?_
    refine w_and (((n.getD d 0) : Nat) : Int) l_16_12 ((and_nn (n := 31) (Nat.lt_of_le_of_lt (Nat.div_le_self _ _) (by omega))).trans (congrArg (fun z : Nat => (z : Int)) (((Nat.and_two_pow_sub_one_eq_mod _ 5).trans (by rw [Nat.pow_mul])).trans (nvR_at n d hn.2)))) ?_
    refine w_isn l_16_13 ⟨Nat.le_of_ble_eq_true rfl, rfl⟩ ?_
    refine w_iln l_16_14 rfl ?_
    refine w_zeq 28 l_16_15 (by decide) (fun h1 => ?_) (fun h1 => ?_)
    · skip
      refine w_inc ((((5 * (d + 1) : Nat) : Int) - 5) - 5) l_16_28 rfl rfl (by unfold wr; omega) ?_
      refine w_go 3 l_16_31 (by decide) ?_
      have hdl : n.length ≤ d := by
        by_cases h9 : n.length ≤ d
        · exact h9
        · have hm : n.getD d 0 ∈ n := by
            rw [List.getD_eq_getElem?_getD, List.getElem?_eq_getElem (by omega)]
            exact List.getElem_mem _
          have := (hn.2 _ hm).1
          omega
      have g := ih L I (vi ((n.getD d 0 : Nat) : Int)) (by rw [take_all hdl]; have h9 := hL.2; rw [take_all (by omega)] at h9; exact ⟨by omega, h9⟩) H fi
      rw [take_all hdl] at g
      rw [take_all (show n.length ≤ d + 1 by omega), e8d]
      exact g
    · skip
      have hdl : d < n.length := by
        by_cases h9 : d < n.length
        · exact h9
        · rw [List.getD_eq_getElem?_getD, List.getElem?_eq_none (by omega)] at h1
          exact absurd rfl h1
      have hLt : L.length < 600 := by
        have h9 := hL.2
        rw [List.length_take] at h9
        omega
      refine w_aln l_16_18 rfl ?_
      refine w_bp l_16_19 (by decide) ?_
      refine w_iln l_16_21 rfl ?_
      refine w_add (((n.getD d 0 + 97) : Nat) : Int) l_16_22 (by unfold wr; omega) ?_
      refine w_ic l_16_23 (by decide) ?_
      refine w_sub (((n.getD d 0 + 97 - 1) : Nat) : Int) l_16_24 (by unfold wr; omega) ?_
      refine p_iv [vi (((n.getD d 0 + 97 - 1) : Nat) : Int)] [] l_16_25 rfl rfl (Nat.le_of_ble_eq_true rfl) (by rw [mx_13]; exact Nat.le_of_ble_eq_true rfl) (by rw [mt_13]; exact oLine_sh o) (by rw [mt_13]; decide) (by rw [rk_13]; decide) (t_add o H hLt (by omega)) (fun v I1 hv => ?_)
      obtain ⟨rfl, H1, f1⟩ := hv
      refine w_inc ((((5 * (d + 1) : Nat) : Int) - 5) - 5) l_16_28 rfl rfl (by unfold wr; omega) ?_
      refine w_go 3 l_16_31 (by decide) ?_
      rw [show n.getD d 0 + 97 - 1 = n.getD d 0 + 96 by omega] at H1
      have g := ih (L ++ [n.getD d 0 + 96]) I1 (vi ((n.getD d 0 : Nat) : Int)) (by simp only [List.length_append, List.length_cons, List.length_nil, List.length_take] at *; omega) H1 (fi.tr f1)
      rw [List.append_assoc, List.singleton_append, ← take_rev hdl] at g
      rw [e8d]
      exact g
theorem s_16 (o : oLine S T s) (H : lnS I s L) {n : List Nat} (hn : okNm n) (hL : L.length + 6 ≤ 600) : CL xs 16 [vr s, vi (((nvR n) : Nat) : Int)] (S, I, T, cc, zz) (RP S T cc zz (fun v I' => v = none ∧ lnS I' s (L ++ nameB n) ∧ fr I I' s (s + 1))) := by
  refine CL_start (r := 1) (ls := [vr s, vi (((nvR n) : Nat) : Int), vs 2, vs 2]) (rk_16 _) rfl ?_
  refine w_bp l_16_0 (by decide) ?_
  refine w_isn l_16_2 ⟨Nat.le_of_ble_eq_true rfl, rfl⟩ ?_
  have g := lp_16 (I0 := I) (xs := xs) (cc := cc) (zz := zz) o hn 6 L I (vs 2) ⟨Nat.le_refl _, by rw [take_all hn.1]; have := hn.1; omega⟩ H (fr.rf _ _ _)
  rw [take_all hn.1] at g
  exact g

end FMT
