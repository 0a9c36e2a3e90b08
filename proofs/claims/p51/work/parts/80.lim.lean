/-! the class: limits are copied and changed -/
/-- the class's suppositions -/
def cSu (I : Ix) (s : Nat) (su : Su) : Prop := (∀ p, p < 4 → I (s + 1) p = oI (su.1 p)) ∧ I (s + 1) 4 = oI su.2.1.1 ∧ I (s + 1) 5 = oI su.2.1.2.1 ∧ I (s + 1) 6 = oI su.2.1.2.2 ∧ (∀ r, r < 8 → (I (s + 1) (7 + r) = -1 ↔ su.2.2.1 r = false)) ∧ ∀ e, e < 120 → I (s + 2) e = b2i (su.2.2.2 e)
theorem cSu.fr {I J : Ix} {s lo hi : Nat} {su : Su} (H : cSu I s su) (f : fr I J lo hi) (d : hi < s ∨ s + 2 < lo) : cSu J s su := by
  have e : ∀ j, j ≤ 2 → ∀ y, J (s + j) y = I (s + j) y := fun j hj y => f (s + j) (by omega) y
  unfold cSu at H ⊢
  simp only [e 1 (by decide), e 2 (by decide)]
  exact H
section CLM
variable {xs : List Int} {S : List (Nat × Nat)} {T : Nat → Nat → Nat} {cc zz s x : Nat} {h : Hi} {l : Li} {I I' : Ix}
theorem t_limits (o : oLimits S T s) (ox : oLimits S T x) (hsx : x + 4 < s ∨ s + 4 < x) (hL : cLi I x l) (h4 : lPorts l ≤ 4) : CL xs 9 [vr s, vr x] (S, I, T, cc, zz) (RP S T cc zz (fun v I' => v = none ∧ cLi I' s l ∧ fr I I' s (s + 4))) := by
  refine CL_mono (s_9 o ox hsx) ?_
  rintro q m' ⟨rfl, rfl⟩
  obtain ⟨g1, g2, g3, g4, g5, g6, g7⟩ := hL
  have A : ∀ j, 1 ≤ j ∧ j ≤ 4 → ∀ p, p < 4 → (up (up (up (up (up (cpy (cpy (cpy (cpy (up I s 0 (I x 0)) (x + 1) 0 (s + 1) 0 4) (x + 2) 0 (s + 2) 0 4) (x + 3) 0 (s + 3) 0 4) (x + 4) 0 (s + 4) 0 4) s 5 (I x 5)) s 6 (I x 6)) s 7 (I x 7)) s 8 (I x 8)) s 9 (I x 9)) (s + j) p = I (x + j) p := by
    intro j hj p hp
    rw [up_no (by omega), up_no (by omega), up_no (by omega), up_no (by omega), up_no (by omega)]
    rcases (show j = 1 ∨ j = 2 ∨ j = 3 ∨ j = 4 by omega) with rfl | rfl | rfl | rfl
    · repeat (rw [cpy_no (by omega)])
      rw [cpy_in (Nat.zero_le _) (by omega), up_no (by omega), Nat.sub_zero, Nat.zero_add]
    · repeat (rw [cpy_no (by omega)])
      rw [cpy_in (Nat.zero_le _) (by omega)]
      repeat (rw [cpy_no (by omega)])
      rw [up_no (by omega), Nat.sub_zero, Nat.zero_add]
    · repeat (rw [cpy_no (by omega)])
      rw [cpy_in (Nat.zero_le _) (by omega)]
      repeat (rw [cpy_no (by omega)])
      rw [up_no (by omega), Nat.sub_zero, Nat.zero_add]
    · rw [cpy_in (Nat.zero_le _) (by omega)]
      repeat (rw [cpy_no (by omega)])
      rw [up_no (by omega), Nat.sub_zero, Nat.zero_add]
  have V : ∀ j, j = 0 ∨ (5 ≤ j ∧ j ≤ 9) → (up (up (up (up (up (cpy (cpy (cpy (cpy (up I s 0 (I x 0)) (x + 1) 0 (s + 1) 0 4) (x + 2) 0 (s + 2) 0 4) (x + 3) 0 (s + 3) 0 4) (x + 4) 0 (s + 4) 0 4) s 5 (I x 5)) s 6 (I x 6)) s 7 (I x 7)) s 8 (I x 8)) s 9 (I x 9)) s j = I x j := by
    intro j hj
    rcases (show j = 0 ∨ j = 5 ∨ j = 6 ∨ j = 7 ∨ j = 8 ∨ j = 9 by omega) with rfl | rfl | rfl | rfl | rfl | rfl
    · rw [up_nj (by decide), up_nj (by decide), up_nj (by decide), up_nj (by decide), up_nj (by decide)]
      repeat (rw [cpy_no (by omega)])
      rw [up_eq]
    · rw [up_nj (by decide), up_nj (by decide), up_nj (by decide), up_nj (by decide), up_eq]
    · rw [up_nj (by decide), up_nj (by decide), up_nj (by decide), up_eq]
    · rw [up_nj (by decide), up_nj (by decide), up_eq]
    · rw [up_nj (by decide), up_eq]
    · rw [up_eq]
  refine ⟨none, _, rfl, rfl, rfl, ⟨?_, fun p hp => ?_, ?_, ?_, ?_, ?_, ?_⟩, ?_⟩
  · rw [V 0 (by decide)]; exact g1
  · rw [A 1 (by decide) p (by omega), A 2 (by decide) p (by omega), A 3 (by decide) p (by omega), A 4 (by decide) p (by omega)]
    exact g2 p hp
  · rw [V 5 (by decide)]; exact g3
  · rw [V 6 (by decide)]; exact g4
  · rw [V 7 (by decide)]; exact g5
  · rw [V 8 (by decide)]; exact g6
  · rw [V 9 (by decide)]; exact g7
  · repeat (refine fr.up ?_ (by omega) (by omega))
    repeat (refine fr.cpy ?_ (by omega) (by omega))
    repeat (refine fr.up ?_ (by omega) (by omega))
    exact fr.rf _ _ _

end CLM
