/-! what the abstract machine's values and objects are in the machine -/
def nfk : Nat → Nat
  | 0 => 11
  | 1 => 10
  | 2 => 2
  | 3 => 6
  | 4 => 11
  | 5 => 5
  | 6 => 6
  | 7 => 9
  | 8 => 2
  | 9 => 17
  | 10 => 6
  | 11 => 1
  | 12 => 4
  | 13 => 4
  | _ => 0
def ftk : Nat → Nat → FieldType
  | 0 => tyX0
  | 1 => tyX1
  | 2 => tyX2
  | 3 => tyX3
  | 4 => tyX4
  | 5 => tyX5
  | 6 => tyX6
  | 7 => tyX7
  | 8 => tyX8
  | 9 => tyX9
  | 10 => tyX10
  | 11 => tyX11
  | 12 => tyJ0
  | _ => tyJ4
theorem vw_all : ∀ k, k < 14 → ∃ q : vw_C, vwCl[k]? = some q ∧ q.2.2 = nfk k := by
  intro k hk
  have : k = 0 ∨ k = 1 ∨ k = 2 ∨ k = 3 ∨ k = 4 ∨ k = 5 ∨ k = 6 ∨ k = 7 ∨ k = 8 ∨ k = 9 ∨ k = 10 ∨ k = 11 ∨ k = 12 ∨ k = 13 := by omega
  rcases this with rfl | rfl | rfl | rfl | rfl | rfl | rfl | rfl | rfl | rfl | rfl | rfl | rfl | rfl <;> exact ⟨_, rfl, rfl⟩
theorem vw_ty : ∀ k q, vwCl[k]? = some q → (∀ j, j < q.2.2 → parseFieldDescriptor (q.2.1 j).2.2.1 = some (ftk k j)) ∧ (∀ a, a < q.2.2 → ∀ b, b < q.2.2 → a ≠ b → (q.2.1 a).2.1 ≠ (q.2.1 b).2.1) ∧ q.2.2 = nfk k := by
  intro k q h
  have hk : k < 14 := (List.getElem?_eq_some_iff.mp h).1
  have : k = 0 ∨ k = 1 ∨ k = 2 ∨ k = 3 ∨ k = 4 ∨ k = 5 ∨ k = 6 ∨ k = 7 ∨ k = 8 ∨ k = 9 ∨ k = 10 ∨ k = 11 ∨ k = 12 ∨ k = 13 := by omega
  rcases this with rfl | rfl | rfl | rfl | rfl | rfl | rfl | rfl | rfl | rfl | rfl | rfl | rfl | rfl <;> cases h
  · exact ⟨tyX0_ok, nmX0, rfl⟩
  · exact ⟨tyX1_ok, nmX1, rfl⟩
  · exact ⟨tyX2_ok, nmX2, rfl⟩
  · exact ⟨tyX3_ok, nmX3, rfl⟩
  · exact ⟨tyX4_ok, nmX4, rfl⟩
  · exact ⟨tyX5_ok, nmX5, rfl⟩
  · exact ⟨tyX6_ok, nmX6, rfl⟩
  · exact ⟨tyX7_ok, nmX7, rfl⟩
  · exact ⟨tyX8_ok, nmX8, rfl⟩
  · exact ⟨tyX9_ok, nmX9, rfl⟩
  · exact ⟨tyX10_ok, nmX10, rfl⟩
  · exact ⟨tyX11_ok, nmX11, rfl⟩
  · exact ⟨tyJ0_ok, nmJ0, rfl⟩
  · exact ⟨tyJ4_ok, nmJ4, rfl⟩
/-- a field is a number or a reference -/
def ftOk (t : FieldType) : Bool := match t with
  | .int => true
  | .byte => true
  | .boolean => true
  | .object _ => true
  | .array _ => true
  | _ => false
/-- a field that holds a number -/
def ftN (t : FieldType) : Bool := match t with
  | .int => true
  | .byte => true
  | .boolean => true
  | _ => false
theorem ft_all : ∀ k j, ftOk (ftk k j) = true := by
  intro k j
  have : k = 0 ∨ k = 1 ∨ k = 2 ∨ k = 3 ∨ k = 4 ∨ k = 5 ∨ k = 6 ∨ k = 7 ∨ k = 8 ∨ k = 9 ∨ k = 10 ∨ k = 11 ∨ k = 12 ∨ 13 ≤ k := by omega
  rcases this with rfl | rfl | rfl | rfl | rfl | rfl | rfl | rfl | rfl | rfl | rfl | rfl | rfl | h
  · show ftOk (tyX0 j) = true; unfold tyX0; split <;> rfl
  · show ftOk (tyX1 j) = true; unfold tyX1; split <;> rfl
  · show ftOk (tyX2 j) = true; unfold tyX2; split <;> rfl
  · show ftOk (tyX3 j) = true; unfold tyX3; split <;> rfl
  · show ftOk (tyX4 j) = true; unfold tyX4; split <;> rfl
  · show ftOk (tyX5 j) = true; unfold tyX5; split <;> rfl
  · show ftOk (tyX6 j) = true; unfold tyX6; split <;> rfl
  · show ftOk (tyX7 j) = true; unfold tyX7; split <;> rfl
  · show ftOk (tyX8 j) = true; unfold tyX8; split <;> rfl
  · show ftOk (tyX9 j) = true; unfold tyX9; split <;> rfl
  · show ftOk (tyX10 j) = true; unfold tyX10; split <;> rfl
  · show ftOk (tyX11 j) = true; unfold tyX11; split <;> rfl
  · show ftOk (tyJ0 j) = true; unfold tyJ0; split <;> rfl
  · obtain ⟨n, rfl⟩ : ∃ n, k = n + 13 := ⟨k - 13, by omega⟩
    show ftOk (tyJ4 j) = true; unfold tyJ4; split <;> rfl
def conc (ad : Nat → Nat) (sp : Nat → Value) : AV → Value
  | .inl x => .int (i32 x)
  | .inr (.inl x) => .long (i64 x)
  | .inr (.inr (.inl a)) => .ref (ad a)
  | .inr (.inr (.inr k)) => sp k
def rfo (ad : Nat → Nat) : Nat → Option Nat
  | 0 => none
  | v + 1 => some (ad v)
def fVal (ad : Nat → Nat) (m : Mem) (i c j : Nat) : Value := if ftN (ftk c j) = true then .int (i32 (mI m i j)) else va_rf (rfo ad (mR m i j))
def eObj (ad : Nat → Nat) (m : Mem) (i c : Nat) : va_E := .inr (c, (List.range (nfk c)).map (fVal ad m i c))
def eInt (ca : Nat → ClassId) (m : Mem) (i k n : Nat) : va_E := .inl (ca k, n, .inl (fun j => i32 (mI m i j)))
def eLng (ca : Nat → ClassId) (m : Mem) (i n : Nat) : va_E := .inl (ca 2, n, .inr (.inl (fun j => i64 (mI m i j))))
def eRef (ca : Nat → ClassId) (ad : Nat → Nat) (m : Mem) (i k n : Nat) : va_E := .inl (ca k, n, .inr (.inr (.inr (.inr (fun j => rfo ad (mR m i j))))))
def entw (ca : Nat → ClassId) (ad : Nat → Nat) (m : Mem) (i : Nat) : va_E := match mT m i with
  | some (0, c) => eObj ad m i c
  | some (2, n) => eLng ca m i n
  | some (5, n) => eRef ca ad m i 5 n
  | some (6, n) => eRef ca ad m i 6 n
  | some (k, n) => eInt ca m i k n
  | none => .inr (0, [])
def wld (ca : Nat → ClassId) (ad : Nat → Nat) (m : Mem) : va_W := (List.range m.1.length).map (fun i => (ad i, entw ca ad m i))
theorem mT_lt {m : Mem} {o : Nat} {q : Nat × Nat} (h : mT m o = some q) : o < m.1.length := (List.getElem?_eq_some_iff.mp h).1
theorem wld_len (ca : Nat → ClassId) (ad : Nat → Nat) (m : Mem) : (wld ca ad m).length = m.1.length := by simp [wld]
theorem wld_lt {ca : Nat → ClassId} {ad : Nat → Nat} {m : Mem} {o : Nat} (h : o < m.1.length) : (wld ca ad m)[o]? = some (ad o, entw ca ad m o) := by
  simp [wld, h]
theorem wld_at {ca : Nat → ClassId} {ad : Nat → Nat} {m : Mem} {o : Nat} {q : Nat × Nat} (h : mT m o = some q) : (wld ca ad m)[o]? = some (ad o, entw ca ad m o) := wld_lt (mT_lt h)
theorem wld_set {ca : Nat → ClassId} {ad : Nat → Nat} {m m' : Mem} {o : Nat} (h1 : m'.1 = m.1) (h2 : ∀ i, i ≠ o → entw ca ad m' i = entw ca ad m i) {e : va_E} (he : entw ca ad m' o = e) : wld ca ad m' = (wld ca ad m).set o (ad o, e) := by
  apply List.ext_getElem?
  intro i
  rw [List.getElem?_set]
  by_cases hi : i < m.1.length
  · by_cases ho : o = i
    · subst ho
      rw [if_pos rfl, if_pos (by rw [wld_len]; exact hi), wld_lt (by rw [h1]; exact hi), he]
    · rw [if_neg ho, wld_lt (by rw [h1]; exact hi), wld_lt hi, h2 i (fun q => ho q.symm)]
  · have e1 : (wld ca ad m')[i]? = none := by rw [List.getElem?_eq_none_iff, wld_len, h1]; omega
    have e2 : (wld ca ad m)[i]? = none := by rw [List.getElem?_eq_none_iff, wld_len]; omega
    rw [e1, e2]
    split
    · rw [if_neg (by rw [wld_len]; omega)]
    · rfl
theorem entw_same {ca : Nat → ClassId} {ad ad' : Nat → Nat} {m m' : Mem} {i : Nat} (h1 : mT m' i = mT m i) (h2 : ∀ j, mI m' i j = mI m i j) (h3 : ∀ j, rfo ad' (mR m' i j) = rfo ad (mR m i j)) : entw ca ad' m' i = entw ca ad m i := by
  have eI : (fun j => mI m' i j) = fun j => mI m i j := funext h2
  have eR : (fun j => rfo ad' (mR m' i j)) = fun j => rfo ad (mR m i j) := funext h3
  unfold entw
  rw [h1]
  split
  · rename_i c _
    unfold eObj
    have : fVal ad' m' i c = fVal ad m i c := by funext j; unfold fVal; rw [h2, h3]
    rw [this]
  · unfold eLng; simp only [h2]
  · unfold eRef; rw [eR]
  · unfold eRef; rw [eR]
  · unfold eInt; simp only [h2]
  · rfl
def rng (k : Nat) (x : Int) : Prop := match k with
  | 0 => inI x
  | 1 => inI x
  | 2 => inL x
  | 3 => -128 ≤ x ∧ x < 128
  | 4 => 0 ≤ x ∧ x < 2
  | _ => True
def WF (m : Mem) : Prop := ∀ a k n, mT m a = some (k, n) → k ≤ 6 ∧ (k = 0 → n < 14) ∧ (k ≠ 0 → n ≤ 8000000) ∧ ∀ j, rng k (mI m a j) ∧ mR m a j ≤ m.1.length
def vok (L : Nat) : AV → Prop
  | .inl x => inI x
  | .inr (.inl x) => inL x
  | .inr (.inr (.inl a)) => a < L
  | .inr (.inr (.inr _)) => True
theorem vok_mono {L L' : Nat} (h : L ≤ L') : ∀ {v : AV}, vok L v → vok L' v
  | .inl _, q => q
  | .inr (.inl _), q => q
  | .inr (.inr (.inl _)), q => Nat.lt_of_lt_of_le q h
  | .inr (.inr (.inr _)), _ => trivial
theorem conc_ext {L : Nat} {ad ad' : Nat → Nat} {sp : Nat → Value} (h : ∀ i, i < L → ad' i = ad i) : ∀ {v : AV}, vok L v → conc ad' sp v = conc ad sp v
  | .inl _, _ => rfl
  | .inr (.inl _), _ => rfl
  | .inr (.inr (.inl a)), q => by show Value.ref (ad' a) = .ref (ad a); rw [h a q]
  | .inr (.inr (.inr _)), _ => rfl
theorem mI_sI (m : Mem) (a j : Nat) (v : Int) (x y : Nat) : mI (sI m a j v) x y = if x = a ∧ y = j then v else mI m x y := rfl
theorem mR_sI (m : Mem) (a j : Nat) (v : Int) (x y : Nat) : mR (sI m a j v) x y = mR m x y := rfl
theorem mT_sI (m : Mem) (a j : Nat) (v : Int) (x : Nat) : mT (sI m a j v) x = mT m x := rfl
theorem mI_sR (m : Mem) (a j v x y : Nat) : mI (sR m a j v) x y = mI m x y := rfl
theorem mR_sR (m : Mem) (a j v x y : Nat) : mR (sR m a j v) x y = if x = a ∧ y = j then v else mR m x y := rfl
theorem mT_sR (m : Mem) (a j v x : Nat) : mT (sR m a j v) x = mT m x := rfl
theorem mI_mCp (m : Mem) (a sp b dp n x y : Nat) : mI (mCp m a sp b dp n) x y = if x = b ∧ dp ≤ y ∧ y < dp + n then mI m a (sp + (y - dp)) else mI m x y := rfl
theorem mR_mCp (m : Mem) (a sp b dp n x y : Nat) : mR (mCp m a sp b dp n) x y = mR m x y := rfl
theorem mT_mCp (m : Mem) (a sp b dp n x : Nat) : mT (mCp m a sp b dp n) x = mT m x := rfl
theorem WF_sI {m : Mem} {o j k n : Nat} {v : Int} (h : WF m) (ho : mT m o = some (k, n)) (hv : rng k v) : WF (sI m o j v) := by
  intro a k' n' ha
  rw [mT_sI] at ha
  obtain ⟨h1, h2, h2', h3⟩ := h a k' n' ha
  refine ⟨h1, h2, h2', fun y => ⟨?_, (h3 y).2⟩⟩
  rw [mI_sI]
  split
  · rename_i e
    obtain ⟨rfl, rfl⟩ := e
    rw [ho] at ha
    cases ha
    exact hv
  · exact (h3 y).1
theorem WF_sR {m : Mem} {o j v : Nat} (h : WF m) (hv : v < m.1.length) : WF (sR m o j (v + 1)) := by
  intro a k' n' ha
  rw [mT_sR] at ha
  obtain ⟨h1, h2, h2', h3⟩ := h a k' n' ha
  refine ⟨h1, h2, h2', fun y => ⟨(h3 y).1, ?_⟩⟩
  rw [mR_sR]
  split
  · exact hv
  · exact (h3 y).2
theorem WF_mCp {m : Mem} {a sp b dp n k na nb : Nat} (h : WF m) (ha : mT m a = some (k, na)) (hb : mT m b = some (k, nb)) : WF (mCp m a sp b dp n) := by
  intro x k' n' hx
  rw [mT_mCp] at hx
  obtain ⟨h1, h2, h2', h3⟩ := h x k' n' hx
  refine ⟨h1, h2, h2', fun y => ⟨?_, (h3 y).2⟩⟩
  rw [mI_mCp]
  split
  · rename_i e
    obtain ⟨rfl, -⟩ := e
    rw [hb] at hx
    cases hx
    exact ((h a k na ha).2.2.2 _).1
  · exact (h3 y).1
theorem WF_mCo {m : Mem} {f : Nat → Int} {sp b dp n nb : Nat} (h : WF m) (hb : mT m b = some (3, nb)) (hf : ∀ j, -128 ≤ f j ∧ f j < 128) : WF (mCo m f sp b dp n) := by
  intro x k' n' hx
  obtain ⟨h1, h2, h2', h3⟩ := h x k' n' hx
  refine ⟨h1, h2, h2', fun y => ⟨?_, (h3 y).2⟩⟩
  show rng k' (if x = b ∧ dp ≤ y ∧ y < dp + n then f (sp + (y - dp)) else mI m x y)
  split
  · rename_i e
    obtain ⟨rfl, -⟩ := e
    have hx' : mT m x = some (k', n') := hx
    rw [hb] at hx'
    cases hx'
    exact hf _
  · exact (h3 y).1
theorem mT_mN (m : Mem) (k n z a : Nat) : mT (mN m k n z) a = if a < m.1.length then mT m a else if a = m.1.length then some (k, n) else none := by
  show (m.1 ++ [(k, n)])[a]? = _
  split
  · rename_i h; rw [List.getElem?_append_left h]; rfl
  · rename_i h
    rw [List.getElem?_append_right (by omega)]
    split
    · rename_i h2; rw [h2, Nat.sub_self]; rfl
    · rename_i h2; rw [List.getElem?_eq_none_iff]; simp only [List.length_cons, List.length_nil]; omega
theorem mI_mN (m : Mem) (k n z x y : Nat) : mI (mN m k n z) x y = if x = m.1.length then 0 else mI m x y := rfl
theorem mR_mN (m : Mem) (k n z x y : Nat) : mR (mN m k n z) x y = if x = m.1.length then 0 else mR m x y := rfl
theorem len_mN (m : Mem) (k n z : Nat) : (mN m k n z).1.length = m.1.length + 1 := by simp [mN]
theorem rng_0 (k : Nat) : rng k 0 := by
  unfold rng; split <;> first | trivial | (unfold inI; omega) | (unfold inL; omega) | omega
theorem WF_mN {m : Mem} {k n z : Nat} (h : WF m) (hk : k ≤ 6) (hn : k = 0 → n < 14) (hn' : k ≠ 0 → n ≤ 8000000) : WF (mN m k n z) := by
  intro a k' n' ha
  rw [mT_mN] at ha
  split at ha
  · rename_i hl
    obtain ⟨h1, h2, h2', h3⟩ := h a k' n' ha
    refine ⟨h1, h2, h2', fun y => ?_⟩
    rw [mI_mN, mR_mN, if_neg (by omega), if_neg (by omega), len_mN]
    exact ⟨(h3 y).1, by have := (h3 y).2; omega⟩
  · split at ha
    · rename_i h2
      cases ha
      refine ⟨hk, hn, hn', fun y => ?_⟩
      rw [mI_mN, mR_mN, if_pos h2, if_pos h2]
      exact ⟨rng_0 _, Nat.zero_le _⟩
    · cases ha
theorem mT_mCl (m : Mem) (o n a : Nat) : mT (mCl m o n) a = if a < m.1.length then mT m a else if a = m.1.length then some (3, n) else none := mT_mN m 3 n n a
theorem WF_mCl {m : Mem} {o n : Nat} (h : WF m) (ho : mT m o = some (3, n)) : WF (mCl m o n) := by
  intro a k' n' ha
  rw [mT_mCl] at ha
  have hl : (mCl m o n).1.length = m.1.length + 1 := by simp [mCl]
  split at ha
  · rename_i hl2
    obtain ⟨h1, h2, h2', h3⟩ := h a k' n' ha
    refine ⟨h1, h2, h2', fun y => ?_⟩
    show rng k' (if a = m.1.length then mI m o y else mI m a y) ∧ (if a = m.1.length then 0 else mR m a y) ≤ _
    rw [if_neg (by omega), if_neg (by omega), hl]
    exact ⟨(h3 y).1, by have := (h3 y).2; omega⟩
  · split at ha
    · rename_i h2
      cases ha
      obtain ⟨g1, g2, g2', g3⟩ := h o _ _ ho
      refine ⟨by omega, fun h => by omega, fun _ => g2' (by omega), fun y => ?_⟩
      show rng 3 (if a = m.1.length then mI m o y else mI m a y) ∧ (if a = m.1.length then 0 else mR m a y) ≤ _
      rw [if_pos h2, if_pos h2]
      exact ⟨(g3 y).1, Nat.zero_le _⟩
    · cases ha
theorem WF_mB {m : Mem} {c s : Nat} (h : WF m) : WF (mB m c s) := h
/-- a new cell at the address q -/
def upA (ad : Nat → Nat) (i q : Nat) : Nat → Nat := fun j => if j = i then q else ad j
theorem upA_lt {ad : Nat → Nat} {L q : Nat} : ∀ i, i < L → upA ad L q i = ad i := fun i h => if_neg (by omega)
theorem upA_eq {ad : Nat → Nat} {L q : Nat} : upA ad L q L = q := if_pos rfl
theorem rfo_ext {L : Nat} {ad ad' : Nat → Nat} (h : ∀ i, i < L → ad' i = ad i) : ∀ {v : Nat}, v ≤ L → rfo ad' v = rfo ad v
  | 0, _ => rfl
  | v + 1, q => by show some (ad' v) = some (ad v); rw [h v q]
theorem wld_new {ca : Nat → ClassId} {ad : Nat → Nat} {m : Mem} {k n z q : Nat} {e : va_E} (hw : WF m) (he : entw ca (upA ad m.1.length q) (mN m k n z) m.1.length = e) : wld ca (upA ad m.1.length q) (mN m k n z) = wld ca ad m ++ [(q, e)] := by
  unfold wld
  rw [len_mN, List.range_succ, List.map_append]
  congr 1
  · apply List.map_congr_left
    intro i hi
    have hi : i < m.1.length := List.mem_range.mp hi
    rw [upA_lt i hi]
    congr 1
    obtain ⟨⟨k', n'⟩, hq⟩ : ∃ q, mT m i = some q := ⟨_, List.getElem?_eq_getElem hi⟩
    refine entw_same (by rw [mT_mN, if_pos hi]) (fun j => by rw [mI_mN, if_neg (by omega)]) (fun j => ?_)
    rw [mR_mN, if_neg (by omega)]
    exact rfo_ext upA_lt (((hw i k' n' hq).2.2.2 j).2)
  · simp only [List.map_cons, List.map_nil, he, upA_eq]
theorem wld_mB (ca : Nat → ClassId) (ad : Nat → Nat) (m : Mem) (c s : Nat) : wld ca ad (mB m c s) = wld ca ad m := rfl
/-- the entry of an object after a number has been put -/
theorem e_obj {ca : Nat → ClassId} {ad : Nat → Nat} {m : Mem} {o c : Nat} (h : mT m o = some (0, c)) : entw ca ad m o = .inr (c, (List.range (nfk c)).map (fVal ad m o c)) := by
  unfold entw; rw [h]; rfl
theorem e_int {ca : Nat → ClassId} {ad : Nat → Nat} {m : Mem} {o k n : Nat} (h : mT m o = some (k, n)) (hk : k = 1 ∨ k = 3 ∨ k = 4) : entw ca ad m o = .inl (ca k, n, .inl (fun j => i32 (mI m o j))) := by
  unfold entw; rw [h]
  rcases hk with rfl | rfl | rfl <;> rfl
theorem e_lng {ca : Nat → ClassId} {ad : Nat → Nat} {m : Mem} {o n : Nat} (h : mT m o = some (2, n)) : entw ca ad m o = .inl (ca 2, n, .inr (.inl (fun j => i64 (mI m o j)))) := by
  unfold entw; rw [h]; rfl
theorem e_ref6 {ca : Nat → ClassId} {ad : Nat → Nat} {m : Mem} {o n : Nat} (h : mT m o = some (6, n)) : entw ca ad m o = .inl (ca 6, n, .inr (.inr (.inr (.inr (fun j => rfo ad (mR m o j)))))) := by
  unfold entw; rw [h]; rfl
theorem e_ref {ca : Nat → ClassId} {ad : Nat → Nat} {m : Mem} {o n : Nat} (h : mT m o = some (5, n)) : entw ca ad m o = .inl (ca 5, n, .inr (.inr (.inr (.inr (fun j => rfo ad (mR m o j)))))) := by
  unfold entw; rw [h]; rfl
theorem fs_at {ad : Nat → Nat} {m : Mem} {o c b : Nat} (hb : b < nfk c) : ((List.range (nfk c)).map (fVal ad m o c))[b]? = some (fVal ad m o c b) := by simp [hb]
theorem fs_set {ad : Nat → Nat} {m m' : Mem} {o c b : Nat} {v : Value} (hv : fVal ad m' o c b = v) (hn : ∀ j, j ≠ b → fVal ad m' o c j = fVal ad m o c j) : (List.range (nfk c)).map (fVal ad m' o c) = ((List.range (nfk c)).map (fVal ad m o c)).set b v := by
  apply List.ext_getElem?
  intro i
  rw [List.getElem?_set]
  by_cases hi : i < nfk c
  · by_cases hb : b = i
    · subst hb
      rw [if_pos rfl, if_pos (by simpa using hi), fs_at hi, hv]
    · rw [if_neg hb, fs_at hi, fs_at hi, hn i (fun q => hb q.symm)]
  · have e1 : ∀ f : Nat → Value, ((List.range (nfk c)).map f)[i]? = none := fun f => by rw [List.getElem?_eq_none_iff]; simp; omega
    rw [e1, e1]
    split
    · rw [if_neg (by simp; omega)]
    · rfl
theorem wld_pI {ca : Nat → ClassId} {ad : Nat → Nat} {m : Mem} {o c b : Nat} {v : Int} (h : mT m o = some (0, c)) (ht : ftN (ftk c b) = true) : wld ca ad (sI m o b v) = (wld ca ad m).set o (ad o, .inr (c, ((List.range (nfk c)).map (fVal ad m o c)).set b (.int (i32 v)))) := by
  refine wld_set (m := m) (m' := (sI m o b v)) rfl (fun i hi => entw_same (m := m) (m' := (sI m o b v)) rfl (fun j' => (mI_sI m o b v i j').trans (if_neg (fun q => hi q.1))) (fun j => rfl)) ?_
  rw [e_obj (m := sI m o b v) (by rw [mT_sI]; exact h)]
  congr 2
  refine fs_set ?_ ?_
  · unfold fVal; rw [if_pos ht, mI_sI, if_pos ⟨rfl, rfl⟩]
  · intro j hj
    have e1 : mI (sI m o b v) o j = mI m o j := (mI_sI m o b v o j).trans (if_neg (fun q => hj q.2))
    unfold fVal
    rw [e1]
    rfl
theorem wld_pR {ca : Nat → ClassId} {ad : Nat → Nat} {m : Mem} {o c b v : Nat} (h : mT m o = some (0, c)) (ht : ¬ ftN (ftk c b) = true) : wld ca ad (sR m o b (v + 1)) = (wld ca ad m).set o (ad o, .inr (c, ((List.range (nfk c)).map (fVal ad m o c)).set b (.ref (ad v)))) := by
  refine wld_set (m := m) (m' := (sR m o b (v + 1))) rfl (fun i hi => entw_same (m := m) (m' := (sR m o b (v + 1))) rfl (fun j => rfl) (fun j' => congrArg (rfo ad) ((mR_sR m o b (v + 1) i j').trans (if_neg (fun q => hi q.1))))) ?_
  rw [e_obj (m := sR m o b (v + 1)) (by rw [mT_sR]; exact h)]
  congr 2
  refine fs_set ?_ ?_
  · unfold fVal; rw [if_neg ht, mR_sR, if_pos ⟨rfl, rfl⟩]; rfl
  · intro j hj
    have e1 : mR (sR m o b (v + 1)) o j = mR m o j := (mR_sR m o b (v + 1) o j).trans (if_neg (fun q => hj q.2))
    unfold fVal
    rw [e1]
    rfl
theorem wld_aI {ca : Nat → ClassId} {ad : Nat → Nat} {m : Mem} {o k n j : Nat} {v : Int} (h : mT m o = some (k, n)) (hk : k = 1 ∨ k = 3 ∨ k = 4) : wld ca ad (sI m o j v) = (wld ca ad m).set o (ad o, .inl (ca k, n, .inl (upd (fun j => i32 (mI m o j)) j (i32 v)))) := by
  refine wld_set (m := m) (m' := (sI m o j v)) rfl (fun i hi => entw_same (m := m) (m' := (sI m o j v)) rfl (fun j' => (mI_sI m o j v i j').trans (if_neg (fun q => hi q.1))) (fun j => rfl)) ?_
  rw [e_int (m := sI m o j v) (by rw [mT_sI]; exact h) hk]
  congr 4
  funext y
  unfold upd
  rw [mI_sI]
  by_cases e : y = j
  · rw [if_pos ⟨rfl, e⟩, if_pos e]
  · rw [if_neg (fun q => e q.2), if_neg e]
theorem wld_aL {ca : Nat → ClassId} {ad : Nat → Nat} {m : Mem} {o n j : Nat} {v : Int} (h : mT m o = some (2, n)) : wld ca ad (sI m o j v) = (wld ca ad m).set o (ad o, .inl (ca 2, n, .inr (.inl (vp_updL (fun j => i64 (mI m o j)) j (i64 v))))) := by
  refine wld_set (m := m) (m' := (sI m o j v)) rfl (fun i hi => entw_same (m := m) (m' := (sI m o j v)) rfl (fun j' => (mI_sI m o j v i j').trans (if_neg (fun q => hi q.1))) (fun j => rfl)) ?_
  rw [e_lng (m := sI m o j v) (by rw [mT_sI]; exact h)]
  congr 5
  funext y
  unfold vp_updL
  rw [mI_sI]
  by_cases e : y = j
  · rw [if_pos ⟨rfl, e⟩, if_pos e]
  · rw [if_neg (fun q => e q.2), if_neg e]
theorem wld_aR {ca : Nat → ClassId} {ad : Nat → Nat} {m : Mem} {o n j v : Nat} (h : mT m o = some (5, n)) : wld ca ad (sR m o j (v + 1)) = (wld ca ad m).set o (ad o, .inl (ca 5, n, .inr (.inr (.inr (.inr (va_up (fun j => rfo ad (mR m o j)) j (some (ad v)))))))) := by
  refine wld_set (m := m) (m' := (sR m o j (v + 1))) rfl (fun i hi => entw_same (m := m) (m' := (sR m o j (v + 1))) rfl (fun j => rfl) (fun j' => congrArg (rfo ad) ((mR_sR m o j (v + 1) i j').trans (if_neg (fun q => hi q.1))))) ?_
  rw [e_ref (m := sR m o j (v + 1)) (by rw [mT_sR]; exact h)]
  congr 7
  funext y
  unfold va_up
  rw [mR_sR]
  by_cases e : y = j
  · rw [if_pos ⟨rfl, e⟩, if_pos e]; rfl
  · rw [if_neg (fun q => e q.2), if_neg e]
theorem wld_cI {ca : Nat → ClassId} {ad : Nat → Nat} {m : Mem} {a b k na nb sp dp n : Nat} (hb : mT m b = some (k, nb)) (hk : k = 1 ∨ k = 3 ∨ k = 4) : wld ca ad (mCp m a sp b dp n) = (wld ca ad m).set b (ad b, .inl (ca k, nb, .inl (va_cpy (fun j => i32 (mI m a j)) (fun j => i32 (mI m b j)) sp dp n))) := by
  refine wld_set (m := m) (m' := (mCp m a sp b dp n)) rfl (fun i hi => entw_same (m := m) (m' := (mCp m a sp b dp n)) rfl (fun j' => (mI_mCp m a sp b dp n i j').trans (if_neg (fun q => hi q.1))) (fun j => rfl)) ?_
  rw [e_int (m := mCp m a sp b dp n) (by rw [mT_mCp]; exact hb) hk]
  congr 4
  funext y
  rw [mI_mCp]
  by_cases e : dp ≤ y ∧ y < dp + n
  · rw [if_pos ⟨rfl, e.1, e.2⟩, pk_cpy_in e.1 e.2]
  · rw [if_neg (fun q => e q.2), pk_cpy_out (by omega)]
theorem wld_cL {ca : Nat → ClassId} {ad : Nat → Nat} {m : Mem} {a b na nb sp dp n : Nat} (hb : mT m b = some (2, nb)) : wld ca ad (mCp m a sp b dp n) = (wld ca ad m).set b (ad b, .inl (ca 2, nb, .inr (.inl (va_cpy (fun j => i64 (mI m a j)) (fun j => i64 (mI m b j)) sp dp n)))) := by
  refine wld_set (m := m) (m' := (mCp m a sp b dp n)) rfl (fun i hi => entw_same (m := m) (m' := (mCp m a sp b dp n)) rfl (fun j' => (mI_mCp m a sp b dp n i j').trans (if_neg (fun q => hi q.1))) (fun j => rfl)) ?_
  rw [e_lng (m := mCp m a sp b dp n) (by rw [mT_mCp]; exact hb)]
  congr 5
  funext y
  rw [mI_mCp]
  by_cases e : dp ≤ y ∧ y < dp + n
  · rw [if_pos ⟨rfl, e.1, e.2⟩, pk_cpy_in e.1 e.2]
  · rw [if_neg (fun q => e q.2), pk_cpy_out (by omega)]
theorem wld_co {ca : Nat → ClassId} {ad : Nat → Nat} {m : Mem} {f : Nat → Int} {b nb sp dp n : Nat} (hb : mT m b = some (3, nb)) : wld ca ad (mCo m f sp b dp n) = (wld ca ad m).set b (ad b, .inl (ca 3, nb, .inl (va_cpy (fun j => i32 (f j)) (fun j => i32 (mI m b j)) sp dp n))) := by
  refine wld_set (m := m) (m' := (mCo m f sp b dp n)) rfl (fun i hi => entw_same (m := m) (m' := (mCo m f sp b dp n)) rfl (fun j' => if_neg (fun q => hi q.1)) (fun j => rfl)) ?_
  rw [e_int (m := mCo m f sp b dp n) (show mT m b = _ from hb) (Or.inr (Or.inl rfl))]
  congr 4
  funext y
  show i32 (if b = b ∧ dp ≤ y ∧ y < dp + n then f (sp + (y - dp)) else mI m b y) = _
  by_cases e : dp ≤ y ∧ y < dp + n
  · rw [if_pos ⟨rfl, e.1, e.2⟩, pk_cpy_in e.1 e.2]
  · rw [if_neg (fun q => e q.2), pk_cpy_out (by omega)]
theorem wld_cl {ca : Nat → ClassId} {ad : Nat → Nat} {m : Mem} {o n q : Nat} (hw : WF m) (ho : mT m o = some (3, n)) : wld ca (upA ad m.1.length q) (mCl m o n) = wld ca ad m ++ [(q, .inl (ca 3, n, .inl (fun j => i32 (mI m o j))))] := by
  have hl : (mCl m o n).1.length = m.1.length + 1 := by simp [mCl]
  unfold wld
  rw [hl, List.range_succ, List.map_append]
  congr 1
  · apply List.map_congr_left
    intro i hi
    have hi : i < m.1.length := List.mem_range.mp hi
    rw [upA_lt i hi]
    congr 1
    obtain ⟨⟨k', n'⟩, hq⟩ : ∃ q, mT m i = some q := ⟨_, List.getElem?_eq_getElem hi⟩
    refine entw_same (by rw [mT_mCl, if_pos hi]) (fun j => if_neg (by omega)) (fun j => ?_)
    show rfo _ (if i = m.1.length then 0 else mR m i j) = _
    rw [if_neg (by omega)]
    exact rfo_ext upA_lt (((hw i k' n' hq).2.2.2 j).2)
  · have e1 : mT (mCl m o n) m.1.length = some (3, n) := by rw [mT_mCl, if_neg (by omega), if_pos rfl]
    rw [List.map_cons, List.map_nil, e_int e1 (Or.inr (Or.inl rfl)), upA_eq]
    congr 6
    funext y
    show i32 (if m.1.length = m.1.length then mI m o y else _) = _
    rw [if_pos rfl]
theorem wld_aR6 {ca : Nat → ClassId} {ad : Nat → Nat} {m : Mem} {o n j v : Nat} (h : mT m o = some (6, n)) : wld ca ad (sR m o j (v + 1)) = (wld ca ad m).set o (ad o, .inl (ca 6, n, .inr (.inr (.inr (.inr (va_up (fun j => rfo ad (mR m o j)) j (some (ad v)))))))) := by
  refine wld_set (m := m) (m' := (sR m o j (v + 1))) rfl (fun i hi => entw_same (m := m) (m' := (sR m o j (v + 1))) rfl (fun j => rfl) (fun j' => congrArg (rfo ad) ((mR_sR m o j (v + 1) i j').trans (if_neg (fun q => hi q.1))))) ?_
  rw [e_ref6 (m := sR m o j (v + 1)) (by rw [mT_sR]; exact h)]
  congr 7
  funext y
  unfold va_up
  rw [mR_sR]
  by_cases e : y = j
  · rw [if_pos ⟨rfl, e⟩, if_pos e]; rfl
  · rw [if_neg (fun q => e q.2), if_neg e]
