/-! the class: a run without an event -/
def lb (w : Int) (b : Nat) : Bool := (BitVec.ofInt 64 w).getLsbD b
/-! PURE -/
theorem KQ.fr {I J : Ix} {s q lo hi : Nat} {h : Hi} {l : Li} {a : Nat → Nat} {ne np : Nat} (hq : s < q ∧ q + 8 < s + 21) (K : KQ I s q h l a ne np) (f : fr I J lo hi) (d : s + 51 < lo) : KQ J s q h l a ne np := by
  obtain ⟨k1, k2, k3, k4, k5, k6, k7⟩ := K
  exact ⟨k1.fr f (Or.inr (by omega)), (f q (Or.inl (by omega)) 2).trans k2, k3.fr f (Or.inr (by omega)), ⟨k4.1.fr f (Or.inr (by omega)), k4.2.fr f (Or.inr (by omega))⟩, k5.fr f (Or.inr (by omega)), k6.fr f (Or.inr (by omega)), k7⟩
def oneOut (e : Nat) : Nat → Bool := fun o => o == e
/-- the event is evidence for the drop -/
def evB (h : Hi) (l : Li) (ne : Nat) (d : Dr) (e : Nat) : Bool := !still (runA h l (oneOut e) ne).2.1 (d.2.1 : Int) d.2.2.1
section CTW
variable {xs : List Int} {S : List (Nat × Nat)} {T : Nat → Nat → Nat} {cc zz s q y : Nat} {h : Hi} {l : Li} {I I' : Ix}
theorem z6 {J : Ix} {a b : Nat} : ∀ j, j < 6 → (up (up (up (up (up (up J a (b + 0) 0) a (b + 1) 0) a (b + 2) 0) a (b + 3) 0) a (b + 4) 0) a (b + 5) 0) a (b + j) = 0 := by
  intro j hj
  rcases (show j = 0 ∨ j = 1 ∨ j = 2 ∨ j = 3 ∨ j = 4 ∨ j = 5 by omega) with e | e | e | e | e | e <;> subst e <;> simp [up]
/-- what the class has tried stays right -/
def KE (I : Ix) (s : Nat) (h : Hi) (l : Li) (ne : Nat) : Prop := tmR I s ∧ (∀ e, e < 120 → 0 ≤ I (s + 95) e ∧ I (s + 95) e ≤ I s 12) ∧ ∀ e, e < ne → I (s + 95) e = I s 12 → ∀ k, k < (runA h l noOut ne).2.1.length → lb (I (s + 96) (e * 6 + k / 64)) (k % 64) = evB h l ne ((runA h l noOut ne).2.1.getD k dr0) e
def mfv (I J : Ix) (s : Nat) : Prop := ∀ y z, (y < s + 52 ∨ s + 71 < y) → y ≠ s + 95 → y ≠ s + 96 → J y z = I y z
theorem mfv.frm {I J : Ix} {s : Nat} (f : mfv I J s) : fr I J (s + 52) (s + 96) := fun x hx y => f x y (by omega) (by omega) (by omega)
theorem mfv.rf (I : Ix) (s : Nat) : mfv I I s := fun _ _ _ _ _ => rfl
theorem mfv.tr {I J K : Ix} {s : Nat} (f : mfv I J s) (g : mfv J K s) : mfv I K s := fun y z a b c => (g y z a b c).trans (f y z a b c)
theorem mfv.of {I J : Ix} {s : Nat} (f : fr I J (s + 52) (s + 71)) : mfv I J s := fun y z a _ _ => f y a z
theorem KE.fr {I J : Ix} {s ne : Nat} {h : Hi} {l : Li} (E : KE I s h l ne) (f : fr I J (s + 52) (s + 71)) (ht : tmR J s) : KE J s h l ne := ⟨ht, fun e he => by rw [f (s + 95) (by omega), f s (by omega)]; exact E.2.1 e he, fun e he hv k hk => by
  rw [f (s + 95) (by omega), f s (by omega)] at hv
  rw [f (s + 96) (by omega)]
  exact E.2.2 e he hv k hk⟩

theorem mem_gd {g : List Dr} {k : Nat} (hk : k < g.length) : g.getD k dr0 ∈ g := by
  rw [List.getD_eq_getElem?_getD, List.getElem?_eq_getElem hk]
  exact List.getElem_mem hk
end CTW
