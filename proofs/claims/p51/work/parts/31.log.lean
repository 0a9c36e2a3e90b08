/-! the class's log -/
def dr0 : Dr := (0, 0, 0, 0, 0)
def cL (I : Ix) (s : Nat) (g : Lo) : Prop := (I s 0 = (g.1.length : Int) ∧ g.1.length ≤ 360) ∧
  (∀ j, j < g.1.length → I (s + 1) (j * 5 + 0) = ((g.1.getD j dr0).1 : Int) ∧ I (s + 1) (j * 5 + 1) = ((g.1.getD j dr0).2.1 : Int) ∧ I (s + 1) (j * 5 + 2) = (g.1.getD j dr0).2.2.1 ∧ I (s + 1) (j * 5 + 3) = ((g.1.getD j dr0).2.2.2.1 : Int) ∧ I (s + 1) (j * 5 + 4) = (g.1.getD j dr0).2.2.2.2) ∧
  (∀ k, k < 120 → ∀ t, t < 5 → I (s + 2) (k * 5 + t) = (g.2.1 k t : Int)) ∧ ∀ p, p < 4 → I (s + 3) p = (g.2.2 p : Int)
theorem cL.fr {I J : Ix} {s lo hi : Nat} {g : Lo} (H : cL I s g) (f : fr I J lo hi) (d : hi < s ∨ s + 3 < lo) : cL J s g := by
  obtain ⟨h1, h2, h3, h4⟩ := H
  have e : ∀ j, j ≤ 3 → ∀ y, J (s + j) y = I (s + j) y := fun j hj y => f (s + j) (by omega) y
  have e0 : ∀ y, J s y = I s y := fun y => f s (by omega) y
  refine ⟨by rw [e0]; exact h1, fun j hj => ?_, fun k hk t ht => ?_, fun p hp => ?_⟩
  · rw [e 1 (by decide), e 1 (by decide), e 1 (by decide), e 1 (by decide), e 1 (by decide)]; exact h2 j hj
  · rw [e 2 (by decide)]; exact h3 k hk t ht
  · rw [e 3 (by decide)]; exact h4 p hp
section LOGL
variable {xs : List Int} {S : List (Nat × Nat)} {T : Nat → Nat → Nat} {cc zz s : Nat} {I : Ix} {g : Lo}
theorem l_addDrop (o : oLog S T s) (hL : cL I s g) {e k c : Nat} {port d : Int} (hp : -1 ≤ port ∧ port ≤ 3) (hk : k < 120) (hn : g.1.length < 360) :
    CL xs 19 [vr s, vi ((e : Nat) : Int), vi ((k : Nat) : Int), vi port, vi ((c : Nat) : Int), vi d] (S, I, T, cc, zz) (RP S T cc zz (fun v I' => v = none ∧ cL I' s (addDr g e k port c d) ∧ fr I I' s (s + 3))) := by
  refine CL_mono (s_19 o hp hk hL.1.1 hn) ?_
  rintro q m' ⟨rfl, rfl⟩
  refine ⟨none, _, rfl, rfl, rfl, ⟨⟨?_, ?_⟩, fun j hj => ?_, fun k' hk' t ht => ?_, fun p hp' => ?_⟩, ?_⟩
  · rw [up_eq]
    show ((g.1.length + 1 : Nat) : Int) = ((g.1 ++ [(e, k, port, c, d)]).length : Int)
    rw [List.length_append]; rfl
  · show (g.1 ++ [(e, k, port, c, d)]).length ≤ 360
    rw [List.length_append]
    show g.1.length + 1 ≤ 360
    omega
  · have hj1 : j < g.1.length + 1 := by
      have h9 : j < (g.1 ++ [(e, k, port, c, d)]).length := hj
      rw [List.length_append] at h9
      exact h9
    have ea : (addDr g e k port c d).1.getD j dr0 = if j < g.1.length then g.1.getD j dr0 else (e, k, port, c, d) := getD_a hj1
    rw [ea]
    by_cases hj2 : j < g.1.length
    · rw [if_pos hj2]
      obtain ⟨q1, q2, q3, q4, q5⟩ := hL.2.1 j hj2
      refine ⟨?_, ?_, ?_, ?_, ?_⟩
      · rw [up_no (by omega), up_nj (by omega), up_nj (by omega), up_nj (by omega), up_nj (by omega), up_nj (by omega), up_no (by omega)]; exact q1
      · rw [up_no (by omega), up_nj (by omega), up_nj (by omega), up_nj (by omega), up_nj (by omega), up_nj (by omega), up_no (by omega)]; exact q2
      · rw [up_no (by omega), up_nj (by omega), up_nj (by omega), up_nj (by omega), up_nj (by omega), up_nj (by omega), up_no (by omega)]; exact q3
      · rw [up_no (by omega), up_nj (by omega), up_nj (by omega), up_nj (by omega), up_nj (by omega), up_nj (by omega), up_no (by omega)]; exact q4
      · rw [up_no (by omega), up_nj (by omega), up_nj (by omega), up_nj (by omega), up_nj (by omega), up_nj (by omega), up_no (by omega)]; exact q5
    · rw [if_neg hj2]
      have hj3 : j = g.1.length := by omega
      subst hj3
      refine ⟨?_, ?_, ?_, ?_, ?_⟩
      · rw [up_no (by omega), up_nj (by omega), up_nj (by omega), up_nj (by omega), up_nj (by omega), up_eq]
      · rw [up_no (by omega), up_nj (by omega), up_nj (by omega), up_nj (by omega), up_eq]
      · rw [up_no (by omega), up_nj (by omega), up_nj (by omega), up_eq]
      · rw [up_no (by omega), up_nj (by omega), up_eq]
      · rw [up_no (by omega), up_eq]
  · rw [up_no (by omega), up_no (by omega), up_no (by omega), up_no (by omega), up_no (by omega), up_no (by omega)]
    show _ = ((if k' = k ∧ t = (port + 1).toNat then 3 else g.2.1 k' t : Nat) : Int)
    by_cases h9 : k' = k ∧ t = (port + 1).toNat
    · rw [if_pos h9, h9.1, h9.2, up_eq]
    · rw [if_neg h9, up_nj (by omega)]
      exact hL.2.2.1 k' hk' t ht
  · rw [up_no (by omega), up_no (by omega), up_no (by omega), up_no (by omega), up_no (by omega), up_no (by omega), up_no (by omega)]
    exact hL.2.2.2 p hp'
  · exact (((((((fr.rf I s (s + 3)).up (by omega) (by omega)).up (by omega) (by omega)).up (by omega) (by omega)).up (by omega) (by omega)).up (by omega) (by omega)).up (by omega) (by omega)).up (by omega) (by omega)
theorem l_setFate (o : oLog S T s) (hL : cL I s g) {k v : Nat} {port : Int} (hp : -1 ≤ port ∧ port ≤ 3) (hk : k < 120) :
    CL xs 21 [vr s, vi ((k : Nat) : Int), vi port, vi ((v : Nat) : Int)] (S, I, T, cc, zz) (RP S T cc zz (fun w I' => w = none ∧ cL I' s (setFate g k (port + 1).toNat v) ∧ fr I I' s (s + 3))) := by
  refine CL_mono (s_21 o hp hk) ?_
  rintro q m' ⟨rfl, rfl⟩
  refine ⟨none, _, rfl, rfl, rfl, ⟨⟨?_, hL.1.2⟩, fun j hj => ?_, fun k' hk' t ht => ?_, fun p hp' => ?_⟩, ?_⟩
  · rw [up_no (by omega)]; exact hL.1.1
  · rw [up_no (by omega), up_no (by omega), up_no (by omega), up_no (by omega), up_no (by omega)]; exact hL.2.1 j hj
  · show _ = ((if k' = k ∧ t = (port + 1).toNat then v else g.2.1 k' t : Nat) : Int)
    by_cases h9 : k' = k ∧ t = (port + 1).toNat
    · rw [if_pos h9, h9.1, h9.2, up_eq]
    · rw [if_neg h9, up_nj (by omega)]
      exact hL.2.2.1 k' hk' t ht
  · rw [up_no (by omega)]
    exact hL.2.2.2 p hp'
  · exact (fr.rf I s (s + 3)).up (by omega) (by omega)
theorem l_addDel (o : oLog S T s) (hL : cL I s g) {k p : Nat} (hk : k < 120) (hp : p < 4) (hn : g.2.2 p < 100000) :
    CL xs 20 [vr s, vi ((k : Nat) : Int), vi ((p : Nat) : Int)] (S, I, T, cc, zz) (RP S T cc zz (fun w I' => w = none ∧ cL I' s (addDel g k p) ∧ fr I I' s (s + 3))) := by
  refine CL_mono (s_20 o hk hp (hL.2.2.2 p hp) hn) ?_
  rintro q m' ⟨rfl, rfl⟩
  refine ⟨none, _, rfl, rfl, rfl, ⟨⟨?_, hL.1.2⟩, fun j hj => ?_, fun k' hk' t ht => ?_, fun p' hp' => ?_⟩, ?_⟩
  · rw [up_no (by omega), up_no (by omega)]; exact hL.1.1
  · rw [up_no (by omega), up_no (by omega), up_no (by omega), up_no (by omega), up_no (by omega), up_no (by omega), up_no (by omega), up_no (by omega), up_no (by omega), up_no (by omega)]; exact hL.2.1 j hj
  · rw [up_no (by omega)]
    show _ = ((if k' = k ∧ t = p + 1 then 2 else g.2.1 k' t : Nat) : Int)
    by_cases h9 : k' = k ∧ t = p + 1
    · rw [if_pos h9, h9.1, h9.2, show (((p : Nat) : Int) + 1).toNat = p + 1 by omega, up_eq]
    · rw [if_neg h9, up_nj (by omega)]
      exact hL.2.2.1 k' hk' t ht
  · show _ = ((if p' = p then g.2.2 p + 1 else g.2.2 p' : Nat) : Int)
    by_cases h9 : p' = p
    · rw [if_pos h9, h9, up_eq]
    · rw [if_neg h9, up_nj (by omega), up_no (by omega)]
      exact hL.2.2.2 p' hp'
  · exact ((fr.rf I s (s + 3)).up (by omega) (by omega)).up (by omega) (by omega)
end LOGL
