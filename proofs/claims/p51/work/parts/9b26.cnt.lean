/-! counts over the drops -/
section CNT
variable {g : List Dr} {f : Dr → Bool}
theorem cntK_fl : ∀ n, n ≤ g.length → cntK f g n = ((g.take n).filter f).length
  | 0, _ => rfl
  | n + 1, h => by
    have e : g.take (n + 1) = g.take n ++ [g.getD n dr0] := by
      rw [List.take_succ, List.getD_eq_getElem?_getD, List.getElem?_eq_getElem (by omega)]
      rfl
    rw [e, List.filter_append, List.length_append, ← cntK_fl n (by omega)]
    cases hf : f (g.getD n dr0)
    · rw [cntK_f hf, List.filter_cons_of_neg (by rw [hf]; decide)]; rfl
    · rw [cntK_t hf, List.filter_cons_of_pos hf]; rfl
theorem cntK_all : cntK f g g.length = (g.filter f).length := by rw [cntK_fl _ (Nat.le_refl _), List.take_length]
/-- the drops of the packet k at the port p -/
def isKP (k : Nat) (p : Int) : Dr → Bool := fun d => decide ((d.2.1, d.2.2.1) = (k, p))
theorem fl_key {k : Nat} {p : Int} : ∀ g : List Dr, (g.map (fun d : Dr => (d.2.1, d.2.2.1))).Nodup → (g.filter (isKP k p)).length = if (∃ d, d ∈ g ∧ d.2.1 = k ∧ d.2.2.1 = p) then 1 else 0
  | [], _ => by
    rw [if_neg (fun q => by obtain ⟨d, hd, _⟩ := q; cases hd)]
    rfl
  | d :: g, h => by
    rw [List.map_cons, List.nodup_cons] at h
    have ih := fl_key (k := k) (p := p) g h.2
    by_cases e : (d.2.1, d.2.2.1) = (k, p)
    · have h1 : isKP k p d = true := decide_eq_true e
      rw [List.filter_cons_of_pos h1, List.length_cons, ih]
      injection e with e1 e2
      rw [if_neg, if_pos ⟨d, List.mem_cons_self, e1, e2⟩]
      intro ⟨x, hx, g1, g2⟩
      exact h.1 (List.mem_map.mpr ⟨x, hx, by rw [g1, g2, e1, e2]⟩)
    · have h1 : isKP k p d = false := decide_eq_false e
      rw [List.filter_cons_of_neg (by rw [h1]; decide), ih]
      by_cases hx : ∃ x, x ∈ g ∧ x.2.1 = k ∧ x.2.2.1 = p
      · obtain ⟨x, hx, g1⟩ := hx
        rw [if_pos ⟨x, hx, g1⟩, if_pos ⟨x, List.mem_cons_of_mem _ hx, g1⟩]
      · rw [if_neg hx, if_neg]
        intro ⟨x, hx2, g1, g2⟩
        rcases List.mem_cons.mp hx2 with rfl | hx2
        · exact e (by rw [g1, g2])
        · exact hx ⟨x, hx2, g1, g2⟩
theorem cnt_kp {n b m : Nat} {ar : Nat → Nat} {r : Ra} (H : AC n b m ar r) (k : Nat) (P : Int) (hP : -1 ≤ P) : cntK (isKP k P) r.2.1 r.2.1.length = if r.2.2.1 k (P + 1).toNat = 3 then 1 else 0 := by
  rw [cntK_all, fl_key _ H.1.2.2.2.2]
  by_cases h : r.2.2.1 k (P + 1).toNat = 3
  · rw [if_pos h, if_pos ((H.1.2.2.2.1 k P hP).mp h)]
  · rw [if_neg h, if_neg (fun q => h ((H.1.2.2.2.1 k P hP).mpr q))]
theorem firstK_le {k : Nat} {g : List Dr} (hk : f (g.getD k dr0) = true) : ∀ d j, j ≤ k → k < j + d → firstK f g d j ≤ (k : Int)
  | 0, j, h1, h2 => by omega
  | d + 1, j, h1, h2 => by
    unfold firstK
    split
    · omega
    · rename_i hj
      have : j ≠ k := fun e => by rw [e] at hj; exact hj hk
      exact firstK_le hk d (j + 1) (by omega) (by omega)
theorem dr_in {k : Nat} (hk : k < g.length) : g.getD k dr0 ∈ g := by
  rw [List.getD_eq_getElem?_getD, List.getElem?_eq_getElem hk]
  exact List.getElem_mem hk
theorem dr_le {j k : Nat} (h : g.Pairwise (fun x y => x.1 ≤ y.1)) (hjk : j < k) (hk : k < g.length) : (g.getD j dr0).1 ≤ (g.getD k dr0).1 := by
  rw [List.getD_eq_getElem?_getD, List.getD_eq_getElem?_getD, List.getElem?_eq_getElem hk, List.getElem?_eq_getElem (by omega)]
  exact List.pairwise_iff_getElem.mp h j k (by omega) hk hjk
theorem str_3 : ∀ c, c < 27 → 17 ≤ c → 3 ≤ (strB c).length := by decide +kernel
end CNT
