/-! a method's contract out of a run of the abstract machine; calls; what is thrown -/
def cwq (q : Mrec) : Cond := if q.2.2.2.2.2.1 = 2 then .codeWith q.1 q.2.1 q.2.2.1 q.2.2.2.1 q.2.2.2.2.1 else .code q.1 q.2.1 q.2.2.1 q.2.2.2.1
def rmA (r mc ms : Nat) : Room := { frames := rmF r, cells := mc, slots := ms, locals := rmL r }
def PcA (K : Kx) (ad : Nat → Nat) (m : Mem) (as : List AV) : Array Value → State → Prop := fun av U => av = (as.map (conc ad (ksp K))).toArray ∧ PD K U ∧ va_P (kD K) vwCl (wld (kca K) ad m) U.heap ∧ va_D (kA K) (wld (kca K) ad m)
def EndW (K : Kx) (ad : Nat → Nat) (L0 : Nat) (m1 : Mem) (st t : State) (ad' : Nat → Nat) : Prop := (∀ i, i < L0 → ad' i = ad i) ∧ va_P (kD K) vwCl (wld (kca K) ad' m1) t.heap ∧ va_D (kA K) (wld (kca K) ad' m1) ∧ va_F (kA K) st t ∧ WF m1 ∧ L0 ≤ m1.1.length
def QcA (K : Kx) (ad : Nat → Nat) (L0 : Nat) (o : Res) (m1 : Mem) : Array Value → State → Outcome → State → Prop := fun _ st oc t => match o with
  | .inl ov => ∃ ad', EndW K ad L0 m1 st t ad' ∧ oc = .returned (ov.map (conc ad' (ksp K))) ∧ ∀ v, ov = some v → vok m1.1.length v
  | .inr _ => False
def XcA (K : Kx) (ad : Nat → Nat) (L0 : Nat) (o : Res) (m1 : Mem) : String → State → State → Prop := fun E st t => match o with
  | .inl _ => False
  | .inr x => E = exn x ∧ x < 4 ∧ ∃ ad', EndW K ad L0 m1 st t ad'
def CON (l : Launch) (K : Kx) (q : Mrec) (r : Nat) (as : List AV) (ad : Nat → Nat) (m : Mem) (o : Res) (m1 : Mem) : Prop :=
  vx_Met l q.1 [cwq q] (rmA r (mC m - mC m1) (mS m - mS m1)) (PcA K ad m as) (QcA K ad m.1.length o m1) (XcA K ad m.1.length o m1) (mC m - mC m1) (mS m - mS m1) (kA K)
def GX (p : Program) (l : Launch) (e : Env) (R : Room) (s : State) (m : MethodId) (args : Array Value) (below : List Frame) (meth : Method) (c : Code) (K : Kx) (J : Jx) (q : Mrec) (Q : State → Prop) (pc : Nat) (ls : List AV) (x : Nat) (mem : Mem) : Prop :=
  ∀ (ad : Nat → Nat) (H : Heap) (LS : Array Slot) (locs : List Loc) (cells slots : Nat) (rest : List Value) (q9 : Addr) (ce : Cell), DX s K J q ad H LS locs mem ls [] cells slots → H[q9]? = some ce → ce.vm = .none → s.vm.findClass (exn x) = some ce.cls → vx_W p l e R s m args below meth c H locs cells slots Q (F0 m pc LS rest) q9
theorem blindA {K : Kx} (hK : KSp K) {ad : Nat → Nat} {m : Mem} {as : List AV} : FrameBlind (PcA K ad m as) := by
  rintro a U g mk ⟨h1, h2, h3, h4⟩
  have hW : U.WarmedH (U.calling g mk a).vm := State.WarmedH.refl U
  refine ⟨h1, ?_, h3, h4⟩
  exact PD.mv (args := #[]) hK h2.2.2.2 hW (Nat.le_refl _) (fun a _ _ => rfl) h2.1 h2.2.1 h2.2.2.1
section CALLS
variable {p : Program} {l : Launch} {e : Env} {R : Room} {s : State} {m : MethodId} {args : Array Value} {below : List Frame} {meth : Method} {c : Code} {K : Kx} {J : Jx} {q : Mrec} {r : Nat} {Q : State → Prop} {pc : Nat} {ls st : List AV} {mem m1 : Mem} {o : Res}
theorem kN1 (K : Kx) (h0 : kB K ≤ s.heap.size) {H : Heap} {locs : List Loc} (hS : va_S (kA K) s.heap H locs) {U : State} (hU : U.heap = H) : s.heap.size ≤ U.heap.size ∧ ∀ a : Nat, a < s.heap.size → ¬ kA K a → U.heap[a]? = s.heap[a]? := by
  subst hU
  exact ⟨hS.1, hS.2.1⟩
/-- behind a call -/
theorem DX.back {ad ad' : Nat → Nat} {H H1 : Heap} {LS : Array Slot} {locs locs1 : List Loc} {cells slots : Nat} {rest : List AV} (d : DX s K J q ad H LS locs mem ls st cells slots) (hr : ∀ v ∈ rest, vok mem.1.length v)
    (h1 : ∀ i, i < mem.1.length → ad' i = ad i) (h2 : va_P (kD K) vwCl (wld (kca K) ad' m1) H1) (h3 : va_D (kA K) (wld (kca K) ad' m1)) (h4 : WF m1) (h5 : mem.1.length ≤ m1.1.length) (hc : mC m1 ≤ mC mem) (hs : mS m1 ≤ mS mem) (hS : va_S (kA K) s.heap H1 locs1) :
    DX s K J q ad' H1 LS locs1 m1 ls rest (cells + (mC mem - mC m1)) (slots + (mS mem - mS m1)) ∧ rest.map (conc ad' (ksp K)) = rest.map (conc ad (ksp K)) := by
  obtain ⟨d1, d2, d3, d4, d5, d6, d7, d8, d9, d10, d11, d12⟩ := d
  refine ⟨⟨?_, d2, fun v hv => vok_mono h5 (d3 v hv), fun v hv => vok_mono h5 (hr v hv), h2, h3, hS, h4, ?_, Nat.le_trans d10 h5, ?_, ?_⟩, ?_⟩
  · rw [lsl_ext (ad := ad) h1 d3]; exact d1
  · intro i hi
    rw [h1 i (by omega)]; exact d9 i hi
  · omega
  · omega
  · exact List.map_congr_left (fun v hv => conc_ext h1 (hr v hv))
theorem callG {ad : Nat → Nat} {H : Heap} {LS : Array Slot} {locs : List Loc} {cells slots mc ms : Nat} {rest : List AV} {st0 : List Value} {av : Array Value} (d : DX s K J q ad H LS locs mem ls st cells slots) (hr : ∀ v ∈ rest, vok mem.1.length v)
    (hmc : mc = mC mem - mC m1) (hms : ms = mS mem - mS m1) (hmn : MN mem m1)
    (hrun : vx_Run p l e R s m args below meth c H locs cells slots mc ms (F0 m pc LS st0) (rest.map (conc ad (ksp K))) (QcA K ad mem.1.length o m1 av) (XcA K ad mem.1.length o m1) (kA K))
    (kk : ∀ ov, o = .inl ov → GO p l e R s m args below meth c K J q Q (pc + 3) ls (ov.toList ++ rest) m1) (kx : ∀ x, o = .inr x → x < 4 → GX p l e R s m args below meth c K J q Q pc ls x m1) :
    W p l e R s m args below meth c H locs cells slots Q (F0 m pc LS st0) := by
  intro T hT X
  rcases hrun T hT X with ⟨v, st₀, t, T', L, h0, X', hL, e1, e2, hQ, stp⟩ | ⟨q9, st₀, t, T', L, E, ce, h0, X', hL, e1, e2, hX, hce, hcv, hcl, stp⟩
  · unfold QcA at hQ
    cases o with
    | inr x => exact hQ.elim
    | inl ov =>
      obtain ⟨ad', ⟨w1, w2, w3, w4, w5, w6⟩, hv, hvk⟩ := hQ
      cases hv
      obtain ⟨k1, k2, k3⟩ := vx_keep h0 e1 d.2.2.2.2.2.2.1 (fun _ _ h => h) (fun _ h => h) hL w4
      obtain ⟨b1, b2⟩ := d.back (rest := rest) hr w1 (by rw [e1]; exact w2) w3 w5 w6 hmn.1 hmn.2.1 k3
      have b3 := kk ov rfl ad' T'.heap LS (locs ++ L) _ _ (b1.stk (st' := ov.toList ++ rest) (fun w hw => (List.mem_append.mp hw).elim (fun h => hvk w (Option.mem_toList.mp h)) (fun h => b1.2.2.2.1 w h)))
      rw [← hmc, ← hms, List.map_append, b2] at b3
      have e3 : ov.toList.map (conc ad' (ksp K)) = (ov.map (conc ad' (ksp K))).toList := by cases ov <;> rfl
      rw [e3] at b3
      obtain ⟨t2, a1, b9⟩ := b3 T' rfl X'
      exact ⟨t2, stp t2 a1, b9⟩
  · unfold XcA at hX
    cases o with
    | inl ov => exact hX.elim
    | inr x =>
      obtain ⟨rfl, hx, ad', w1, w2, w3, w4, w5, w6⟩ := hX
      obtain ⟨k1, k2, k3⟩ := vx_keep h0 e1 d.2.2.2.2.2.2.1 (fun _ _ h => h) (fun _ h => h) hL w4
      obtain ⟨b1, b2⟩ := d.back (rest := []) (fun _ h => by cases h) w1 (by rw [e1]; exact w2) w3 w5 w6 hmn.1 hmn.2.1 k3
      have b3 := kx x rfl hx ad' T'.heap LS (locs ++ L) _ _ (rest.map (conc ad (ksp K))) q9 ce b1 (by rw [e1]; exact hce) hcv hcl
      rw [← hmc, ← hms] at b3
      obtain ⟨t2, a1, b9⟩ := b3 T' rfl X'
      exact ⟨t2, stp.trans a1, b9⟩
/-- the callee's start holds where the caller stands -/
theorem preA (C : CX p l R s m args meth c K q r) {ad : Nat → Nat} {H : Heap} {LS : Array Slot} {locs : List Loc} {cells slots : Nat} (d : DX s K J q ad H LS locs mem ls st cells slots) (as : List AV) {U : State} (hU : U.heap = H) (hW : s.WarmedH U.vm) : PcA K ad mem as (as.map (conc ad (ksp K))).toArray U := by
  have hB := C.2.2.2.2.2.2.2.2.2.2.2.1
  obtain ⟨z1, z2⟩ := kN1 K hB d.2.2.2.2.2.2.1 hU
  exact ⟨rfl, PD.mv C.kS hB hW z1 z2 C.hts C.hK C.old, by rw [hU]; exact d.2.2.2.2.1, d.2.2.2.2.2.1⟩
theorem okM_spec {y : Mrec} (h : okM y = true) : plainName y.1.cls = true ∧ (y.1.cls ≠ "java/lang/invoke/MethodHandle" ∧ y.1.cls ≠ "java/lang/invoke/VarHandle") ∧ y.2.2.1 ≤ 60 ∧ lw_tbl[y.2.2.2.2.2.2.2.2.1]? = some (.initialized y.1.cls) ∧ lw_tbl[y.2.2.2.2.2.2.2.1]? = some (cwq y) ∧
    (y.2.2.2.2.2.1 = 0 → lw_tbl[y.2.2.2.2.2.2.2.2.2.1]? = some (.instanceMethod y.1)) ∧ (y.2.2.2.2.2.1 ≠ 0 → lw_tbl[y.2.2.2.2.2.2.2.2.2.1]? = some (.static y.1)) ∧ (y.2.2.2.2.2.1 = 2 ∨ y.2.2.2.2.1 = []) ∧ y.2.2.2.2.2.1 ≠ 2 := by
  obtain ⟨y, cc, ml, ret, hh, kind, ci, ic, ii, im, isel⟩ := y
  unfold okM at h
  simp only [Bool.and_eq_true, decide_eq_true_eq] at h
  obtain ⟨⟨⟨⟨h1, h2⟩, h3⟩, h4⟩, ⟨h5, h7⟩, h6⟩ := h
  refine ⟨h1, ⟨h2, h3⟩, h4, h5, ?_⟩
  by_cases k0 : kind = 0
  · rw [if_pos k0] at h6
    simp only [Bool.and_eq_true, decide_eq_true_eq] at h6
    obtain ⟨g1, g2⟩ := h6
    refine ⟨?_, fun _ => g2, fun hn => absurd k0 hn, Or.inr h7, by show kind ≠ 2; omega⟩
    rw [g1]; unfold cwq; rw [if_neg (by show ¬ kind = 2; omega)]
  · rw [if_neg k0] at h6
    simp only [Bool.and_eq_true, decide_eq_true_eq] at h6
    obtain ⟨⟨g0, g1⟩, g2⟩ := h6
    refine ⟨?_, fun hn => absurd hn k0, fun _ => g2, Or.inr h7, by show kind ≠ 2; omega⟩
    rw [g1]; unfold cwq; rw [if_neg (by show ¬ kind = 2; omega)]
end CALLS
