/-! the reference: rewind -/
/-- packets are numbered as they arrive -/
def HW (h : Hi) (a : Nat → Nat) (ne np : Nat) : Prop := okPk h ne ∧ np = arr h ne ∧ ∀ k, k < np → a k < ne ∧ hKind h (a k) = 0 ∧ hPk h (a k) = k
theorem arr_mono {h : Hi} {m : Nat} : ∀ n, m ≤ n → arr h m ≤ arr h n
  | 0, hn => by rw [Nat.le_zero.mp hn]; exact Nat.le_refl _
  | n + 1, hn => by
    by_cases hm : m = n + 1
    · rw [hm]; exact Nat.le_refl _
    · exact Nat.le_trans (arr_mono n (by omega)) arr_le
theorem HW.cut {h : Hi} {a : Nat → Nat} {ne np m : Nat} (H : HW h a ne np) (hm : m ≤ ne) : HW h a m (arr h m) := by
  obtain ⟨h1, h2, h3⟩ := H
  refine ⟨fun e he => h1 e (by omega), rfl, fun k hk => ?_⟩
  have hk2 : k < np := by rw [h2]; exact Nat.lt_of_lt_of_le hk (arr_mono ne hm)
  obtain ⟨g1, g2, g3⟩ := h3 k hk2
  refine ⟨?_, g2, g3⟩
  have e1 := (h1 (a k) g1).1 g2
  by_cases hlt : a k < m
  · exact hlt
  · have := arr_mono (h := h) (m := m) (a k) (by omega)
    omega
theorem MP.cut {I J : Ix} {s : Nat} {h : Hi} {l : Li} {a : Nat → Nat} {ne np m : Nat} {cd : Nat → Cd} (B : MP I s h l a ne np cd) (H : HW h a ne np) (hm : m ≤ ne) (f : ∀ y z, (y = s → 0 < z ∧ z < 44 ∧ z ≠ 15 ∧ z ≠ 16) → (s < y → y < s + 23) → J y z = I y z) (e1 : J s 15 = (m : Int)) (e2 : J s 16 = ((arr h m : Nat) : Int)) : MP J s h l a m (arr h m) cd := by
  have H' := H.cut hm
  obtain ⟨b1, b2, b3, b4, b5, b6, b7, b8, b9⟩ := B
  have hnp : arr h m ≤ np := by rw [H.2.1]; exact arr_mono ne hm
  have g0 : ∀ j, 0 < j ∧ j < 44 ∧ j ≠ 15 ∧ j ≠ 16 → J s j = I s j := fun j hj => f s j (fun _ => hj) (fun e => by omega)
  have g : ∀ j, 0 < j ∧ j < 23 → ∀ z, J (s + j) z = I (s + j) z := fun j hj z => f (s + j) z (fun e => by omega) (fun _ => by omega)
  refine ⟨⟨by have := b1.1; omega, arr_e m, fun e he => ?_, fun k hk => ?_⟩, ?_, ?_, b4, b5, fun e he => ⟨(b6 e (by omega)).1, fun q => ?_, (b6 e (by omega)).2.2⟩, fun k hk => ?_, e1, e2⟩
  · rw [g 10 (by decide), g 10 (by decide), g 10 (by decide)]
    exact b1.2.2.1 e (by omega)
  · rw [g 10 (by decide), g 10 (by decide), g 10 (by decide), g 10 (by decide), g 11 (by decide)]
    obtain ⟨q1, q2, q3⟩ := b1.2.2.2 k (by omega)
    exact ⟨q1, (H'.2.2 k hk).1, q3⟩
  · unfold nB at b2 ⊢
    simp only [g0 1 (by decide), g0 7 (by decide), g0 8 (by decide), g0 9 (by decide), g0 10 (by decide), g 2 (by decide), g 3 (by decide), g 4 (by decide), g 5 (by decide), g 6 (by decide)]
    exact b2
  · intro r hr
    obtain ⟨⟨o, o1, o2, o3, o4⟩, o5, o6⟩ := b3 r hr
    exact ⟨⟨o, by rw [g 7 (by decide)]; exact o1, by rw [g 8 (by decide)]; exact o2, o3, codes_fr o4 fun z => g 9 (by decide) z⟩, o5, fun k hk => o6 k (by omega)⟩
  · have e3 := (H'.1 e he).1 q
    rw [e3]
    have e4 : arr h (e + 1) = arr h e + 1 := if_pos q
    have := arr_mono (h := h) (m := e + 1) m he
    omega
  · rw [g 10 (by decide)]
    exact b7 k (by omega)
section RK
variable {xs : List Int} {S : List (Nat × Nat)} {T : Nat → Nat → Nat} {cc zz s : Nat} {h : Hi} {l : Li} {r : Ra} {g : Lo} {I I' : Ix}

theorem up_up {I : Ix} {a j : Nat} {v w : Int} : up (up I a j v) a j w = up I a j w := by
  funext x y
  unfold up
  by_cases hx : x = a ∧ y = j
  · rw [if_pos hx, if_pos hx]
  · rw [if_neg hx, if_neg hx, if_neg hx]
end RK
