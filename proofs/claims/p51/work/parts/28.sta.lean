/-! the class's state against the model's -/
def fr (I I' : Ix) (lo hi : Nat) : Prop := ∀ x, (x < lo ∨ hi < x) → ∀ y, I' x y = I x y
theorem fr.rf (I : Ix) (lo hi : Nat) : fr I I lo hi := fun _ _ _ => rfl
theorem fr.tr {I J K : Ix} {lo hi : Nat} (h1 : fr I J lo hi) (h2 : fr J K lo hi) : fr I K lo hi := fun x hx y => (h2 x hx y).trans (h1 x hx y)
theorem fr.mono {I J : Ix} {lo hi lo' hi' : Nat} (h : fr I J lo hi) (h1 : lo' ≤ lo) (h2 : hi ≤ hi') : fr I J lo' hi' := fun x hx y => h x (by omega) y
theorem fr.up {I J : Ix} {lo hi a j : Nat} {v : Int} (h : fr I J lo hi) (h1 : lo ≤ a) (h2 : a ≤ hi) : fr I (up J a j v) lo hi := fun x hx y => (up_no (by omega)).trans (h x hx y)
theorem fr.cpy {I J : Ix} {lo hi a sp b dp n : Nat} (h : fr I J lo hi) (h1 : lo ≤ b) (h2 : b ≤ hi) : fr I (cpy J a sp b dp n) lo hi := fun x hx y => (cpy_no (by omega)).trans (h x hx y)
theorem fr.fl {I J : Ix} {lo hi a n : Nat} {v : Int} (h : fr I J lo hi) (h1 : lo ≤ a) (h2 : a ≤ hi) : fr I (fl J a n v) lo hi := fun x hx y => (fl_no (by omega)).trans (h x hx y)
def cQ (I : Ix) (s p : Nat) (q : List Cp) : Prop := I (s + 3) p = (q.length : Int) ∧ q.length ≤ 120 ∧ rowR I (s + 4) (p * 120) (q.map Prod.fst) ∧ rowR I (s + 5) (p * 120) (q.map Prod.snd)
def cT (I : Ix) (s a : Nat) (o : Option (Nat × Nat)) : Prop := (∃ t : Nat, I (s + 7) a = (t : Int) ∧ t ≤ 120) ∧ match o with
  | some (w, t) => I (s + 6) a = (w : Int) ∧ w < 4 ∧ I (s + 7) a = (t : Int)
  | none => I (s + 6) a = -1
def cS (I : Ix) (s : Nat) (h : Hi) (l : Li) (A : Sa) : Prop :=
  (I s 0 = (sTime A : Int) ∧ sTime A ≤ 120) ∧ (∃ d : Nat, I s 1 = (d : Int) ∧ d < 16 ∧ ∀ p, p < 4 → (bt d p = 0 ↔ sUp A p = true)) ∧
  (∀ p, p < 4 → lPol l p ≠ none → I (s + 1) p = (sTok A p : Int) ∧ sTok A p ≤ 99) ∧ (∀ p, p < 4 → I (s + 2) p = (fillP h A p : Int)) ∧ (∀ p, p < 4 → cQ I s p (sQ A p)) ∧ ∀ a, a < 64 → cT I s a (sTab A a)
theorem sQ_set {A : Sa} {p x : Nat} {q : List Cp} : sQ (setQ A p q) x = if x = p then q else sQ A x := rfl
/-- a state whose queue p has changed -/
theorem cS_Q {I I' : Ix} {s p : Nat} {h : Hi} {l : Li} {A : Sa} {q : List Cp} (hA : cS I s h l A) (e0 : ∀ y, I' s y = I s y) (e1 : ∀ y, I' (s + 1) y = I (s + 1) y) (e6 : ∀ y, I' (s + 6) y = I (s + 6) y) (e7 : ∀ y, I' (s + 7) y = I (s + 7) y)
    (e2 : ∀ y, y ≠ p → I' (s + 2) y = I (s + 2) y) (e3 : ∀ y, y ≠ p → I' (s + 3) y = I (s + 3) y) (e4 : ∀ y, (y < p * 120 ∨ p * 120 + 120 ≤ y) → I' (s + 4) y = I (s + 4) y ∧ I' (s + 5) y = I (s + 5) y)
    (f : I' (s + 2) p = (fillQ h q : Int)) (g : cQ I' s p q) : cS I' s h l (setQ A p q) := by
  obtain ⟨a1, a2, a3, a4, a5, a6⟩ := hA
  refine ⟨by rw [e0]; exact a1, by rw [e0]; exact a2, fun x hx hl => by rw [e1]; exact a3 x hx hl, fun x hx => ?_, fun x hx => ?_, fun a ha => ?_⟩
  · by_cases hxp : x = p
    · subst hxp
      rw [f]
      show _ = ((fillQ h (sQ (setQ A x q) x) : Nat) : Int)
      rw [sQ_set, if_pos rfl]
    · rw [e2 x hxp, a4 x hx]
      show _ = ((fillQ h (sQ (setQ A p q) x) : Nat) : Int)
      rw [sQ_set, if_neg hxp]; rfl
  · rw [sQ_set]
    by_cases hxp : x = p
    · rw [if_pos hxp, hxp]; exact g
    · rw [if_neg hxp]
      obtain ⟨b1, b2, b3, b4⟩ := a5 x hx
      refine ⟨by rw [e3 x hxp]; exact b1, b2, rowR_eq b3 fun k hk => (e4 _ ?_).1, rowR_eq b4 fun k hk => (e4 _ ?_).2⟩
      · rw [List.length_map] at hk; omega
      · rw [List.length_map] at hk; omega
  · obtain ⟨b1, b2⟩ := a6 a ha
    refine ⟨by rw [e7]; exact b1, ?_⟩
    show (match sTab A a with
      | some (w, t) => I' (s + 6) a = (w : Int) ∧ w < 4 ∧ I' (s + 7) a = (t : Int)
      | none => I' (s + 6) a = -1)
    rw [e6, e7]; exact b2
theorem map_er {α β : Type} (f : α → β) (q : List α) (i : Nat) : (q.eraseIdx i).map f = (q.map f).eraseIdx i := by
  induction q generalizing i with
  | nil => rfl
  | cons a r ih => cases i with
    | zero => rfl
    | succ i => show _ :: _ = _ :: _; rw [ih]
theorem fillQ_er {h : Hi} {q : List Cp} {i : Nat} (hi : i < q.length) : fillQ h (q.eraseIdx i) + hSiz h (q.getD i (0, 0)).1 = fillQ h q := by
  induction q generalizing i with
  | nil => cases hi
  | cons a r ih => cases i with
    | zero => show fillQ h r + hSiz h a.1 = hSiz h a.1 + fillQ h r; omega
    | succ i =>
      have := ih (i := i) (by simpa using hi)
      show hSiz h a.1 + fillQ h (r.eraseIdx i) + hSiz h (r.getD i (0, 0)).1 = hSiz h a.1 + fillQ h r
      omega
theorem getD_m {q : List Cp} {i : Nat} (hi : i < q.length) : (q.map Prod.fst).getD i 0 = (q.getD i (0, 0)).1 ∧ (q.map Prod.snd).getD i 0 = (q.getD i (0, 0)).2 := by
  simp [List.getD_eq_getElem?_getD, List.getElem?_eq_getElem hi]
section STT
variable {xs : List Int} {S : List (Nat × Nat)} {T : Nat → Nat → Nat} {cc zz s : Nat} {I : Ix} {h : Hi} {l : Li} {A : Sa}
theorem t_remove (o : oState S T s) (hA : cS I s h l A) (ok : okHi h) {p i : Nat} (hp : p < 4) (hi : i < (sQ A p).length) :
    CL xs 87 [vr s, vi ((p : Nat) : Int), vi ((i : Nat) : Int), vi ((hSiz h ((sQ A p).getD i (0, 0)).1 : Nat) : Int)] (S, I, T, cc, zz) (RP S T cc zz (fun v I' => v = none ∧ cS I' s h l (setQ A p ((sQ A p).eraseIdx i)) ∧ fr I I' s (s + 7))) := by
  obtain ⟨b1, b2, b3, b4⟩ := hA.2.2.2.2.1 p hp
  have hf := fillQ_er (h := h) hi
  have hle := fillQ_le ok (sQ A p)
  have hle1 := len_e hi
  refine CL_mono (s_87 (u := fillQ h (sQ A p)) (n := (sQ A p).length) o hp b1 b2 hi (hA.2.2.2.1 p hp) (by omega) (by omega)) ?_
  rintro q m' ⟨rfl, rfl⟩
  refine ⟨none, _, rfl, rfl, rfl, ?_, ?_⟩
  · refine cS_Q hA ?_ ?_ ?_ ?_ ?_ ?_ ?_ ?_ ?_
    · intro y; rw [up_no (by omega), up_no (by omega), cpy_no (by omega), cpy_no (by omega)]
    · intro y; rw [up_no (by omega), up_no (by omega), cpy_no (by omega), cpy_no (by omega)]
    · intro y; rw [up_no (by omega), up_no (by omega), cpy_no (by omega), cpy_no (by omega)]
    · intro y; rw [up_no (by omega), up_no (by omega), cpy_no (by omega), cpy_no (by omega)]
    · intro y hy; rw [up_nj hy, up_no (by omega), cpy_no (by omega), cpy_no (by omega)]
    · intro y hy; rw [up_no (by omega), up_nj hy, cpy_no (by omega), cpy_no (by omega)]
    · intro y hy
      refine ⟨?_, ?_⟩
      · rw [up_no (by omega), up_no (by omega), cpy_no (by omega), cpy_nr (by omega)]
      · rw [up_no (by omega), up_no (by omega), cpy_nr (by omega), cpy_no (by omega)]
    · rw [up_eq]; congr 1; omega
    · refine ⟨?_, by omega, ?_, ?_⟩
      · rw [up_no (by omega), up_eq, hle1]
      · rw [map_er]
        have h9 := rowR_er (i := i) b3 (by rw [List.length_map]; exact hi)
        rw [List.length_map] at h9
        exact rowR_eq h9 fun k _ => by rw [up_no (by omega), up_no (by omega), cpy_no (by omega)]
      · rw [map_er]
        have h8 : rowR (cpy I (s + 4) (p * 120 + i + 1) (s + 4) (p * 120 + i) ((sQ A p).length - i - 1)) (s + 5) (p * 120) ((sQ A p).map Prod.snd) := rowR_eq b4 fun k _ => cpy_no (by omega)
        have h9 := rowR_er (i := i) h8 (by rw [List.length_map]; exact hi)
        rw [List.length_map] at h9
        exact rowR_eq h9 fun k _ => by rw [up_no (by omega), up_no (by omega)]
  · exact ((((fr.rf I s (s + 7)).cpy (by omega) (by omega)).cpy (by omega) (by omega)).up (by omega) (by omega)).up (by omega) (by omega)
theorem t_putLast (o : oState S T s) (hA : cS I s h l A) (ok : okHi h) {p k : Nat} (hp : p < 4) (hn : (sQ A p).length < 120) :
    CL xs 86 [vr s, vi ((p : Nat) : Int), vi ((k : Nat) : Int), vi ((hSiz h k : Nat) : Int)] (S, I, T, cc, zz) (RP S T cc zz (fun v I' => v = none ∧ cS I' s h l (setQ A p (sQ A p ++ [(k, sTime A)])) ∧ fr I I' s (s + 7))) := by
  obtain ⟨b1, b2, b3, b4⟩ := hA.2.2.2.2.1 p hp
  have hle := fillQ_le ok (sQ A p)
  have hz := (ok k).1
  refine CL_mono (s_86 (u := fillQ h (sQ A p)) (n := (sQ A p).length) o hp b1 hn hA.1.1 (hA.2.2.2.1 p hp) (by omega)) ?_
  rintro q m' ⟨rfl, rfl⟩
  refine ⟨none, _, rfl, rfl, rfl, ?_, ?_⟩
  · refine cS_Q hA ?_ ?_ ?_ ?_ ?_ ?_ ?_ ?_ ?_
    · intro y; rw [up_no (by omega), up_no (by omega), up_no (by omega), up_no (by omega)]
    · intro y; rw [up_no (by omega), up_no (by omega), up_no (by omega), up_no (by omega)]
    · intro y; rw [up_no (by omega), up_no (by omega), up_no (by omega), up_no (by omega)]
    · intro y; rw [up_no (by omega), up_no (by omega), up_no (by omega), up_no (by omega)]
    · intro y hy; rw [up_nj hy, up_no (by omega), up_no (by omega), up_no (by omega)]
    · intro y hy; rw [up_no (by omega), up_nj hy, up_no (by omega), up_no (by omega)]
    · intro y hy
      refine ⟨?_, ?_⟩
      · rw [up_no (by omega), up_no (by omega), up_no (by omega), up_nj (by omega)]
      · rw [up_no (by omega), up_no (by omega), up_nj (by omega), up_no (by omega)]
    · rw [up_eq, fillQ_app]; rfl
    · refine ⟨?_, by simp; omega, ?_, ?_⟩
      · rw [up_no (by omega), up_eq]; simp
      · rw [List.map_append]
        have h9 := rowR_ap (x := k) b3
        rw [List.length_map] at h9
        exact rowR_eq h9 fun j _ => by rw [up_no (by omega), up_no (by omega), up_no (by omega)]
      · rw [List.map_append]
        have h8 : rowR (up I (s + 4) (p * 120 + (sQ A p).length) ((k : Nat) : Int)) (s + 5) (p * 120) ((sQ A p).map Prod.snd) := rowR_eq b4 fun k _ => up_no (by omega)
        have h9 := rowR_ap (x := sTime A) h8
        rw [List.length_map] at h9
        exact rowR_eq h9 fun j _ => by rw [up_no (by omega), up_no (by omega)]
  · exact ((((fr.rf I s (s + 7)).up (by omega) (by omega)).up (by omega) (by omega)).up (by omega) (by omega)).up (by omega) (by omega)
theorem t_packetAt (o : oState S T s) (hA : cS I s h l A) {p : Nat} (hp : p < 4) {i : Nat} (hi : i < (sQ A p).length) :
    CL xs 84 [vr s, vi ((p : Nat) : Int), vi ((i : Nat) : Int)] (S, I, T, cc, zz) (FN (some (vi (((sQ A p).getD i (0, 0)).1 : Int))) (S, I, T, cc, zz)) := by
  obtain ⟨b1, b2, b3, b4⟩ := hA.2.2.2.2.1 p hp
  refine CL_mono (s_84 (n := (sQ A p).length) o hp b1 b2) ?_
  rintro q m' ⟨rfl, rfl⟩
  refine ⟨?_, rfl⟩
  rw [if_pos (by omega)]
  have h9 := b3 i (by rw [List.length_map]; exact hi)
  rw [(getD_m hi).1] at h9
  have e : (((p * 120 : Nat) : Int) + ((i : Nat) : Int)).toNat = p * 120 + i := by omega
  rw [e, h9]
end STT
