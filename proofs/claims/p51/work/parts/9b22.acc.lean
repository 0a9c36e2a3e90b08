/-! what is counted: each packet is dropped as a whole or has copies, each of which is in one place -/
def cN (f : Nat → Bool) (m : Nat) : Nat := ((List.range m).filter f).length
theorem cN_s (f : Nat → Bool) (m : Nat) : cN f (m + 1) = cN f m + (if f m then 1 else 0) := by
  unfold cN
  rw [List.range_succ, List.filter_append, List.length_append]
  congr 1
  cases h : f m <;> simp [h]
theorem cN_cg {f g : Nat → Bool} : ∀ m, (∀ k, k < m → f k = g k) → cN f m = cN g m
  | 0, _ => rfl
  | m + 1, h => by rw [cN_s, cN_s, cN_cg m (fun k hk => h k (by omega)), h m (by omega)]
theorem cN_1 {f g : Nat → Bool} {k0 : Nat} (h : ∀ k, k ≠ k0 → f k = g k) (hf : f k0 = false) (hg : g k0 = true) : ∀ m, k0 < m → cN g m = cN f m + 1
  | 0, h0 => absurd h0 (Nat.not_lt_zero _)
  | m + 1, h0 => by
    rw [cN_s, cN_s]
    by_cases e : m = k0
    · subst e
      rw [hf, hg, cN_cg m (fun k hk => (h k (by omega)).symm)]
      simp
    · rw [cN_1 h hf hg m (by omega), h m e]
      omega
def okDp (n b : Nat) (ar : Nat → Nat) (d : Dr) : Prop := d.1 < b ∧ ar d.2.1 ≤ d.1 ∧ ((d.2.2.1 = -1 ∧ 1 ≤ d.2.2.2.1 ∧ d.2.2.2.1 ≤ 5 ∧ (0 ≤ d.2.2.2.2 → d.2.2.2.1 = 2)) ∨ (0 ≤ d.2.2.1 ∧ d.2.2.1 < (n : Int) ∧ 6 ≤ d.2.2.2.1 ∧ d.2.2.2.1 ≤ 10 ∧ (d.2.2.2.1 = 8 ↔ 0 ≤ d.2.2.2.2)))
def AC (n b m : Nat) (ar : Nat → Nat) (r : Ra) : Prop :=
  uq m r ∧ (∀ k p, r.2.2.1 k (p + 1) = 1 ↔ ∃ c, c ∈ sQ r.1 p ∧ c.1 = k) ∧ (∀ p, r.2.2.2 p = cN (fun k => decide (r.2.2.1 k (p + 1) = 2)) m) ∧ (∀ k s, m ≤ k → r.2.2.1 k s = 0) ∧
  (∀ p c, c ∈ sQ r.1 p → p < n) ∧ (∀ d, d ∈ r.2.1 → okDp n b ar d) ∧ r.2.1.Pairwise (fun x y => x.1 ≤ y.1)
def FF (n m : Nat) (r : Ra) : Prop := ∀ k, k < m → (r.2.2.1 k 0 = 3 ∧ ∀ p, p < n → r.2.2.1 k (p + 1) = 0) ∨ (r.2.2.1 k 0 = 0 ∧ ∃ p, p < n ∧ r.2.2.1 k (p + 1) ≠ 0)
theorem mem_er {q : List Cp} {i : Nat} {c : Cp} (h : c ∈ q) : c ∈ q.eraseIdx i ∨ c = q.getD i (0, 0) := by
  induction q generalizing i with
  | nil => cases h
  | cons a r ih =>
    cases i with
    | zero =>
      rcases List.mem_cons.mp h with e | e
      · exact Or.inr e
      · exact Or.inl e
    | succ i =>
      rcases List.mem_cons.mp h with e | e
      · exact Or.inl (List.mem_cons.mpr (Or.inl e))
      · rcases ih (i := i) e with g | g
        · exact Or.inl (List.mem_cons.mpr (Or.inr g))
        · exact Or.inr g
section ACC
variable {n e m : Nat} {ar : Nat → Nat} {r : Ra}
/-- one more drop, of this event -/
theorem drs_add {g : List Dr} {d : Dr} (h1 : ∀ x, x ∈ g → okDp n (e + 1) ar x) (h2 : g.Pairwise (fun x y => x.1 ≤ y.1)) (hd : okDp n (e + 1) ar d) (he : d.1 = e) : (∀ x, x ∈ g ++ [d] → okDp n (e + 1) ar x) ∧ (g ++ [d]).Pairwise (fun x y => x.1 ≤ y.1) := by
  refine ⟨fun x hx => ?_, List.pairwise_append.mpr ⟨h2, List.pairwise_singleton _ _, fun x hx y hy => ?_⟩⟩
  · rcases List.mem_append.mp hx with hx | hx
    · exact h1 x hx
    · rw [List.mem_singleton.mp hx]; exact hd
  · rw [List.mem_singleton.mp hy, he]
    have := (h1 x hx).1
    omega
theorem fu2_e {α : Type} {f : Nat → Nat → α} {k j : Nat} {v : α} : fu2 f k j v k j = v := if_pos ⟨rfl, rfl⟩
theorem fu2_o {α : Type} {f : Nat → Nat → α} {k j x y : Nat} {v : α} (h : ¬ (x = k ∧ y = j)) : fu2 f k j v x y = f x y := if_neg h
theorem AC.fq (H : AC n (e + 1) m ar r) {p i : Nat} (hi : i < (sQ r.1 p).length) : r.2.2.1 ((sQ r.1 p).getD i (0, 0)).1 (p + 1) = 1 := (H.2.1 _ p).mpr ⟨_, mem_g hi, rfl⟩
theorem AC_out (H : AC n (e + 1) m ar r) (har : ∀ k, k < m → ar k ≤ e) {p i c : Nat} {x : Int} (hi : i < (sQ r.1 p).length) (hc : 6 ≤ c ∧ c ≤ 10 ∧ (c = 8 ↔ 0 ≤ x)) : AC n (e + 1) m ar (outDr e p i c x r) := by
  have hf1 := H.fq hi
  obtain ⟨h1, h2, h3, h4, h5, h6, h7⟩ := H
  obtain ⟨n1, n2⟩ := nd_er (h1.1 p) hi
  have hm0 := mem_g hi
  have hk0 := h1.2.1 p _ hm0
  have hp := h5 p _ hm0
  have hfa : ∀ k s, (outDr e p i c x r).2.2.1 k s = fu2 r.2.2.1 ((sQ r.1 p).getD i (0, 0)).1 (p + 1) 3 k s := fun k s => rfl
  have hqa : ∀ y, sQ (outDr e p i c x r).1 y = if y = p then (sQ r.1 p).eraseIdx i else sQ r.1 y := fun y => sQ_set
  obtain ⟨d1, d2⟩ := drs_add (n := n) (e := e) (ar := ar) (d := (e, ((sQ r.1 p).getD i (0, 0)).1, ((p : Nat) : Int), c, x)) h6 h7 ⟨Nat.lt_succ_self e, har _ hk0, Or.inr ⟨Int.natCast_nonneg p, Int.ofNat_lt.mpr hp, hc.1, hc.2.1, hc.2.2⟩⟩ rfl
  refine ⟨uq_out h1 hi, fun k y => ?_, fun y => ?_, fun k s hk => ?_, fun y c' hc' => ?_, d1, d2⟩
  · rw [hfa, hqa]
    by_cases hy : y = p
    · subst hy
      rw [if_pos rfl]
      by_cases hk : k = ((sQ r.1 y).getD i (0, 0)).1
      · subst hk
        rw [fu2_e]
        exact ⟨fun q => absurd q (by decide), fun ⟨c', g1, g2⟩ => absurd g2 (n2 c' g1)⟩
      · rw [fu2_o (fun q => hk q.1), h2]
        refine ⟨fun ⟨c', g1, g2⟩ => ⟨c', ?_, g2⟩, fun ⟨c', g1, g2⟩ => ⟨c', List.mem_of_mem_eraseIdx g1, g2⟩⟩
        rcases mem_er (i := i) g1 with g3 | g3
        · exact g3
        · exact absurd (by rw [← g2, g3]) hk
    · rw [if_neg hy, fu2_o (fun q => hy (by omega))]
      exact h2 k y
  · show r.2.2.2 y = _
    rw [h3 y]
    refine cN_cg m (fun k hk => ?_)
    rw [hfa]
    by_cases hky : k = ((sQ r.1 p).getD i (0, 0)).1 ∧ y + 1 = p + 1
    · have hyp : y = p := by omega
      subst hyp
      rw [hky.1, fu2_e, hf1]
      rfl
    · rw [fu2_o hky]
  · rw [hfa, fu2_o (fun q => by omega)]
    exact h4 k s hk
  · rw [hqa] at hc'
    split at hc'
    · rename_i hy
      rw [hy]; exact hp
    · exact h5 y c' hc'
theorem FF_out {m' : Nat} (F : FF n m r) (H : AC n (e + 1) m' ar r) {p i c : Nat} {x : Int} (hi : i < (sQ r.1 p).length) : FF n m (outDr e p i c x r) := fun k hk => by
  have hf1 := H.fq hi
  have hp := H.2.2.2.2.1 p _ (mem_g hi)
  have hfa : ∀ k s, (outDr e p i c x r).2.2.1 k s = fu2 r.2.2.1 ((sQ r.1 p).getD i (0, 0)).1 (p + 1) 3 k s := fun k s => rfl
  rcases F k hk with ⟨f1, f2⟩ | ⟨f1, y, f2, f3⟩
  · left
    have hk0 : k ≠ ((sQ r.1 p).getD i (0, 0)).1 := fun q => by
      have := f2 p hp
      rw [q, hf1] at this
      cases this
    exact ⟨by rw [hfa, fu2_o (fun q => hk0 q.1)]; exact f1, fun y hy => by rw [hfa, fu2_o (fun q => hk0 q.1)]; exact f2 y hy⟩
  · right
    refine ⟨by rw [hfa, fu2_o (fun q => by omega)]; exact f1, y, f2, ?_⟩
    rw [hfa]
    by_cases hky : k = ((sQ r.1 p).getD i (0, 0)).1 ∧ y + 1 = p + 1
    · rw [hky.1, hky.2, fu2_e]; decide
    · rw [fu2_o hky]; exact f3
theorem AC_del (H : AC n (e + 1) m ar r) {p i : Nat} (hi : i < (sQ r.1 p).length) : AC n (e + 1) m ar (setQ r.1 p ((sQ r.1 p).eraseIdx i), addDel r.2 ((sQ r.1 p).getD i (0, 0)).1 p) := by
  have hf1 := H.fq hi
  obtain ⟨h1, h2, h3, h4, h5, h6, h7⟩ := H
  obtain ⟨n1, n2⟩ := nd_er (h1.1 p) hi
  have hm0 := mem_g hi
  have hk0 := h1.2.1 p _ hm0
  have hp := h5 p _ hm0
  have hfa : ∀ k s, (addDel r.2 ((sQ r.1 p).getD i (0, 0)).1 p).2.1 k s = fu2 r.2.2.1 ((sQ r.1 p).getD i (0, 0)).1 (p + 1) 2 k s := fun k s => rfl
  have hqa : ∀ y, sQ (setQ r.1 p ((sQ r.1 p).eraseIdx i)) y = if y = p then (sQ r.1 p).eraseIdx i else sQ r.1 y := fun y => sQ_set
  refine ⟨uq_del h1 hi, fun k y => ?_, fun y => ?_, fun k s hk => ?_, fun y c' hc' => ?_, h6, h7⟩
  · show (addDel r.2 ((sQ r.1 p).getD i (0, 0)).1 p).2.1 k (y + 1) = 1 ↔ ∃ c, c ∈ sQ (setQ r.1 p ((sQ r.1 p).eraseIdx i)) y ∧ c.1 = k
    rw [hfa, hqa]
    by_cases hy : y = p
    · subst hy
      rw [if_pos rfl]
      by_cases hk : k = ((sQ r.1 y).getD i (0, 0)).1
      · subst hk
        rw [fu2_e]
        exact ⟨fun q => absurd q (by decide), fun ⟨c', g1, g2⟩ => absurd g2 (n2 c' g1)⟩
      · rw [fu2_o (fun q => hk q.1), h2]
        refine ⟨fun ⟨c', g1, g2⟩ => ⟨c', ?_, g2⟩, fun ⟨c', g1, g2⟩ => ⟨c', List.mem_of_mem_eraseIdx g1, g2⟩⟩
        rcases mem_er (i := i) g1 with g3 | g3
        · exact g3
        · exact absurd (by rw [← g2, g3]) hk
    · rw [if_neg hy, fu2_o (fun q => hy (by omega))]
      exact h2 k y
  · show fu r.2.2.2 p (r.2.2.2 p + 1) y = cN (fun k => decide ((addDel r.2 ((sQ r.1 p).getD i (0, 0)).1 p).2.1 k (y + 1) = 2)) m
    by_cases hy : y = p
    · subst hy
      rw [fu_e, h3 y]
      refine (cN_1 (k0 := ((sQ r.1 y).getD i (0, 0)).1) (fun k hk => ?_) ?_ ?_ m hk0).symm
      · rw [hfa, fu2_o (fun q => hk q.1)]
      · rw [hf1]; rfl
      · rw [hfa, fu2_e]; rfl
    · rw [fu_o hy, h3 y]
      refine cN_cg m (fun k hk => ?_)
      rw [hfa, fu2_o (fun q => hy (by omega))]
  · show (addDel r.2 ((sQ r.1 p).getD i (0, 0)).1 p).2.1 k s = 0
    rw [hfa, fu2_o (fun q => by omega)]
    exact h4 k s hk
  · change c' ∈ sQ (setQ r.1 p ((sQ r.1 p).eraseIdx i)) y at hc'
    rw [hqa] at hc'
    split at hc'
    · rename_i hy
      rw [hy]; exact hp
    · exact h5 y c' hc'
theorem FF_del {m' : Nat} (F : FF n m r) (H : AC n (e + 1) m' ar r) {p i : Nat} (hi : i < (sQ r.1 p).length) : FF n m (setQ r.1 p ((sQ r.1 p).eraseIdx i), addDel r.2 ((sQ r.1 p).getD i (0, 0)).1 p) := fun k hk => by
  have hf1 := H.fq hi
  have hp := H.2.2.2.2.1 p _ (mem_g hi)
  have hfa : ∀ k s, (addDel r.2 ((sQ r.1 p).getD i (0, 0)).1 p).2.1 k s = fu2 r.2.2.1 ((sQ r.1 p).getD i (0, 0)).1 (p + 1) 2 k s := fun k s => rfl
  show ((addDel r.2 ((sQ r.1 p).getD i (0, 0)).1 p).2.1 k 0 = 3 ∧ ∀ y, y < n → (addDel r.2 ((sQ r.1 p).getD i (0, 0)).1 p).2.1 k (y + 1) = 0) ∨ ((addDel r.2 ((sQ r.1 p).getD i (0, 0)).1 p).2.1 k 0 = 0 ∧ ∃ y, y < n ∧ (addDel r.2 ((sQ r.1 p).getD i (0, 0)).1 p).2.1 k (y + 1) ≠ 0)
  rcases F k hk with ⟨f1, f2⟩ | ⟨f1, y, f2, f3⟩
  · left
    have hk0 : k ≠ ((sQ r.1 p).getD i (0, 0)).1 := fun q => by
      have := f2 p hp
      rw [q, hf1] at this
      cases this
    exact ⟨by rw [hfa, fu2_o (fun q => hk0 q.1)]; exact f1, fun y hy => by rw [hfa, fu2_o (fun q => hk0 q.1)]; exact f2 y hy⟩
  · right
    refine ⟨by rw [hfa, fu2_o (fun q => by omega)]; exact f1, y, f2, ?_⟩
    rw [hfa]
    by_cases hky : k = ((sQ r.1 p).getD i (0, 0)).1 ∧ y + 1 = p + 1
    · rw [hky.1, hky.2, fu2_e]; decide
    · rw [fu2_o hky]; exact f3
end ACC
