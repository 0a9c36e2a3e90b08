/-! the claim's start out of a run of the abstract machine over the law -/
def lawM0 : Mem := ([], (fun _ _ => 0), (fun _ _ => 0), 601024, 7293034)
/-- what is owed of the abstract machine: over every script the law comes to its end with 1 -/
def AMLAW : Prop := ∀ xs : List Int, (∀ x ∈ xs, inI x) → xs.length ≤ 3072 → CL xs 344 [vs 3] lawM0 (fun o _ => o = .inl (some (vi 1)))
theorem sbn_forget {s s' : State} {L : List Loc} {k n k' n' : Nat} (h : s.sameButNew s' L k n) (hL : ∀ q ∈ L, s.heap.size ≤ q.base) (hk : k ≤ k') (hn : n ≤ n') : s.sameButNew s' [] k' n' := by
  obtain ⟨h1, h2, h3, h4, h5, h6⟩ := h
  refine ⟨h1, h2, by omega, h4, by omega, fun a c hc => ?_⟩
  obtain ⟨c', g1, g2, g3, g4⟩ := h6 a c hc
  refine ⟨c', g1, g2, g3, fun i _ => g4 i fun hm => ?_⟩
  have := hL _ hm
  have h9 : a < s.heap.size := (Array.getElem?_eq_some_iff.mp hc).1
  have h8 : s.heap.size ≤ a := this
  omega
def stT (i : Nat) : Term := .string (stq i).1 (stq i).2.1
def stl (i : Nat) : Nat := (stb.getD i []).length
def flatA : Cond → List Cond → List Cond
  | .and a b, acc => flatA a (flatA b acc)
  | c, acc => c :: acc
theorem flatA_ok {args : Array Value} {s : State} (T : Cond) : ∀ acc : List Cond, T.before args s = true → (∀ c ∈ acc, c.before args s = true) → ∀ c ∈ flatA T acc, c.before args s = true := by
  induction T with
  | and a b iha ihb =>
    intro acc h ha
    rw [Cond.before_and, Bool.and_eq_true] at h
    exact iha _ h.1 (ihb _ h.2 ha)
  | _ =>
    intro acc h ha c hc
    rcases List.mem_cons.mp hc with rfl | hc
    · exact h
    · exact ha c hc
def prem : List Cond := flatA (Jvm.Cond.and given_1 narrow_1) []
def xiT : List Nat := [67, 75, 85, 93, 101, 107, 114, 121, 127, 135, 141, 149, 158, 165, 171, 181, 188, 196, 204, 212, 223, 231, 242, 253, 261, 271, 280, 288, 297, 306, 315, 326, 338, 346, 355, 362, 370, 377, 385, 394, 401, 410, 420, 428, 435, 444, 453, 465, 474, 486, 495, 506, 516]
def srT : List Nat := [829, 906, 911, 912, 917, 930, 947, 948, 949, 950, 951, 952, 956, 957, 966, 967, 968, 1463, 1464, 1465, 1466, 1467, 1468, 1469, 1470, 1471, 1472, 1766, 1780, 1781, 1808, 1817, 1818, 1819, 1824, 1833, 1842, 1847, 1852, 1853, 1854, 1855, 1868, 1869, 2243, 2244, 2245, 2246, 2247, 2248, 2249, 2250, 2251]
def ncT : List Nat := [0, 23, 66, 37, 50, 0, 64, 36, 52, 24, 0, 38, 51, 22, 65, 0]
theorem stw_R : ∀ i, i < 53 → lw_tbl[srT.getD i 0]? = some (Cond.stringRef (stq i).1 (stq i).2.1 (stq i).2.2) := by decide +kernel
theorem stw_x : ∀ i, i < 53 → prem[xiT.getD i 0]? = some (Cond.exactly (stT i) "java/lang/String") := by decide +kernel
theorem stw_c : ∀ i, i < 53 → prem[xiT.getD i 0 + 1]? = some (Cond.eq (.field (stT i) "java/lang/String" "coder" "B") (.int 0)) := by decide +kernel
theorem stw_a : ∀ i, i < 53 → prem[xiT.getD i 0 + 2]? = some (Cond.arrayOf (.field (stT i) "java/lang/String" "value" "[B") .byte) := by decide +kernel
theorem stw_l : ∀ i, i < 53 → prem[xiT.getD i 0 + 3]? = some (Cond.eq (.length (.field (stT i) "java/lang/String" "value" "[B")) (.int (Int32.ofNat (stl i)))) := by decide +kernel
theorem stw_e : ∀ i, i < 53 → ∀ j, j < stl i → prem[xiT.getD i 0 + 4 + j]? = some (Cond.eq (.elem (.field (stT i) "java/lang/String" "value" "[B") (.int (Int32.ofNat j))) (.int (i32 ((stb.getD i []).getD j 0)))) := by decide +kernel
theorem stl_s : ∀ i, i < 53 → stl i < 2 ^ 31 := by decide +kernel
theorem ncw : ∀ a, a < 4 → ∀ b, b < 4 → a ≠ b → prem[ncT.getD (4 * a + b) 0]? = some (Cond.not (.castable (exn a) (exn b))) := by decide +kernel
theorem csw : lw_tbl[843]? = some (.laysStatic "java/lang/String" "COMPACT_STRINGS" "Z") := by decide +kernel
theorem fmw : lw_tbl[859]? = some (.laysStatic "jdk/internal/util/Preconditions" "SIOOBE_FORMATTER" "Ljava/util/function/BiFunction;") := by decide +kernel
theorem unw : lw_tbl[1000]? = some (.laysStatic Bundle.tN "UNASSIGNED_STACK" Bundle.steD) := by decide +kernel
theorem suw : lw_tbl[1002]? = some (.laysStatic Bundle.tN "SUPPRESSED_SENTINEL" Bundle.listD) := by decide +kernel
theorem in_s : lw_tbl[137]? = some (.initialized "java/lang/String") := by decide +kernel
theorem in_p : lw_tbl[139]? = some (.initialized "jdk/internal/util/Preconditions") := by decide +kernel
theorem in_t : lw_tbl[141]? = some (.initialized Bundle.tN) := by decide +kernel
theorem csv : prem[4]? = some (Cond.eq (.static "java/lang/String" "COMPACT_STRINGS" "Z") (.int 1)) := by decide +kernel
theorem fmv : prem[5]? = some (Cond.isRef (.static "jdk/internal/util/Preconditions" "SIOOBE_FORMATTER" "Ljava/util/function/BiFunction;")) := by decide +kernel
theorem unv : prem[9]? = some (Cond.isRef (.static Bundle.tN "UNASSIGNED_STACK" Bundle.steD)) := by decide +kernel
theorem suv : prem[10]? = some (Cond.isRef (.static Bundle.tN "SUPPRESSED_SENTINEL" Bundle.listD)) := by decide +kernel
theorem law_rec : ∃ q : Mrec, mtb[(344 : Nat)]? = some q ∧ q.1 = ⟨R_law, "law", "([I)Z"⟩ ∧ q.2.1 = code ∧ q.2.2.1 = 7 ∧ q.2.2.2.1 = ret ∧ q.2.2.2.2.1 = [] := ⟨_, rfl, rfl, rfl, rfl, rfl, rfl⟩
theorem law_rk : rkA 344 [vs 3] = 35 := by decide +kernel
theorem arr_k {s : State} {ty : FieldType} (hp : ∀ C, ty ≠ .object C) (h : (Cond.arrayClass ty).before #[] s = true) : ∃ cA : ClassId, ArrOfT s cA ty ∧ va_RA s cA ty := by
  obtain ⟨cA, kA, comp, h1, h2, h3⟩ := Cond.arrayClass_spec h
  refine ⟨cA, fun n z => ⟨fun k h => (by cases h), kA, h2, comp, h3⟩, ?_⟩
  cases ty <;> first | exact h1 | exact absurd rfl (hp _)
theorem arr_o {s : State} {C : String} (h : va_AO C s) : ∃ cA : ClassId, ArrOfT s cA (.object C) ∧ va_RA s cA (.object C) := by
  obtain ⟨comp, cA, kA, h1, h2, h3, h4, h5⟩ := Cond.arrayOver_spec h
  exact ⟨cA, fun n z => ⟨fun k h => (by cases h), kA, h3, comp, h4⟩, kA, comp, h3, h4, h1, h5⟩
theorem insw_ok : ∀ a, a < 11 → (match vwCl[a]? with
  | some q => decide (lw_tbl[insW.getD a 0]? = some (.instantiable q.1 q.2.2))
  | none => true) = true := by decide +kernel
