/-! a row of rows of numbers, made by one instruction -/
def rwO (c : ClassId) (N h : Nat) : Nat → Cell
  | 0 => { cls := c, slots := Array.replicate N .null, vm := .none }
  | k + 1 => (rwO c N h k).setSlot k (.ref (h + 1 + k))
def rwI (c1 : ClassId) (w : Nat) : Cell := { cls := c1, slots := Array.replicate w (.int 0), vm := .none }
def rwS (T : State) (c c1 : ClassId) (N w : Nat) : Nat → State
  | 0 => T.pushCell (rwO c N T.heap.size 0)
  | k + 1 => ((rwS T c c1 N w k).pushCell (rwI c1 w)).setCell T.heap.size (rwO c N T.heap.size (k + 1))
def rwH (H : Heap) (c c1 : ClassId) (N w : Nat) : Nat → Heap
  | 0 => H.push (rwO c N H.size 0)
  | k + 1 => ((rwH H c c1 N w k).push (rwI c1 w)).setIfInBounds H.size (rwO c N H.size (k + 1))
theorem rwS_heap (T : State) (c c1 : ClassId) (N w : Nat) : ∀ k, (rwS T c c1 N w k).heap = rwH T.heap c c1 N w k
  | 0 => rfl
  | k + 1 => by
    show (((rwS T c c1 N w k).heap).push (rwI c1 w)).setIfInBounds T.heap.size _ = _
    rw [rwS_heap T c c1 N w k]
    rfl
theorem rwO_f (c : ClassId) (N h : Nat) : ∀ k, (rwO c N h k).cls = c ∧ (rwO c N h k).vm = .none ∧ (rwO c N h k).slots.size = N
  | 0 => ⟨rfl, rfl, by simp [rwO]⟩
  | k + 1 => by
    obtain ⟨a, b, d⟩ := rwO_f c N h k
    exact ⟨by simp [rwO, Cell.setSlot, a], by simp [rwO, Cell.setSlot, b], by simp [rwO, Cell.setSlot, d]⟩
theorem rwH_f (H : Heap) (c c1 : ClassId) (N w : Nat) : ∀ k, (rwH H c c1 N w k).size = H.size + 1 + k ∧ (rwH H c c1 N w k)[H.size]? = some (rwO c N H.size k)
  | 0 => ⟨by simp [rwH], by simp [rwH]⟩
  | k + 1 => by
    obtain ⟨a, b⟩ := rwH_f H c c1 N w k
    refine ⟨by simp [rwH, a]; omega, ?_⟩
    show (((rwH H c c1 N w k).push (rwI c1 w)).setIfInBounds H.size _)[H.size]? = _
    rw [Array.getElem?_setIfInBounds, if_pos rfl, if_pos (by rw [Array.size_push, a]; omega)]
theorem rwH_old (H : Heap) (c c1 : ClassId) (N w : Nat) {q : Nat} (hq : q < H.size) : ∀ k, (rwH H c c1 N w k)[q]? = H[q]?
  | 0 => by
    show (H.push _)[q]? = _
    rw [Array.getElem?_push, if_neg (Nat.ne_of_lt hq)]
  | k + 1 => by
    have h1 := (rwH_f H c c1 N w k).1
    show (((rwH H c c1 N w k).push (rwI c1 w)).setIfInBounds H.size _)[q]? = _
    rw [Array.getElem?_setIfInBounds, if_neg (Nat.ne_of_gt hq), Array.getElem?_push, if_neg (by omega)]
    exact rwH_old H c c1 N w hq k
theorem rwS_f (T : State) (c c1 : ClassId) (N w : Nat) : ∀ k, (rwS T c c1 N w k).heap.size = T.heap.size + 1 + k ∧ (rwS T c c1 N w k).heap[T.heap.size]? = some (rwO c N T.heap.size k) ∧ (rwS T c c1 N w k).vm = T.vm ∧ (rwS T c c1 N w k).slotsUsed = T.slotsUsed + N + k * w
  | 0 => ⟨by simp [rwS], by simp [rwS], rfl, by simp [rwS, rwO]⟩
  | k + 1 => by
    obtain ⟨a, b, d, u⟩ := rwS_f T c c1 N w k
    have hh := rwH_f T.heap c c1 N w (k + 1)
    rw [← rwS_heap] at hh
    exact ⟨hh.1, hh.2, by simp [rwS, d], by simp [rwS, u, rwI, Nat.succ_mul]; omega⟩
theorem rwS_top (T : State) (f : JFrame) (c c1 : ClassId) (N w : Nat) : ∀ k, rwS (T.setTop f) c c1 N w k = (rwS T c c1 N w k).setTop f
  | 0 => rfl
  | k + 1 => by simp only [rwS, rwS_top T f c c1 N w k, State.heap_setTop, State.pushCell_setTop, State.setCell_setTop]
section RWS
variable {E : CtlPost} {e : Env} {d : Bool} {acts : List Action} {s : State}
theorem wp_row1 {c comp : ClassId} {k : Class} {type : FieldType} {len : Nat} {z : Value} (hk : s.vm.classes[c]? = some k) (hkind : k.kind = .array comp type) (h1 : ¬ len > e.platform.arrayLengthLimit) (h2 : ¬ len * componentBytes type > e.platform.maxHeapBytes) (hfit : fits type z = true) (hdef : z.isDefault = true)
    (h3 : s.heap.size < e.platform.maxCells) (h4 : s.slotsUsed + len ≤ e.platform.maxSlots) {Q : Addr → Pre} (hq : Q s.heap.size d acts (s.pushCell { cls := c, slots := Array.replicate len z, vm := .none })) : wp (Jvm.newArray c len z) Q E e d acts s := by
  have hfits : ∀ i v, (Array.replicate len z)[i]? = some v → s.fitsSlot c .none i v = true := by
    intro i v hv
    rw [Array.getElem?_replicate] at hv
    split at hv
    · cases hv; simp [State.fitsSlot, State.slotType?, hk, hkind, hfit]
    · cases hv
  have hda : allocActs (Array.replicate len z) s.heap.size acts = acts := by
    have hall : ((Array.replicate len z).all (·.isDefault)) = true := by
      rw [Array.all_replicate]; split <;> simp [hdef]
    unfold allocActs; rw [if_pos hall]
  simp only [Jvm.newArray, Jvm.arrayFits, wp_bind', W.ask, W.ite, h1, if_false, wp_pure', W.theClass, hk, hkind, h2, W.alloc, W.stop, Option.some.injEq, exists_eq_left', Array.size_replicate, hda]
  rw [if_neg (by omega)]
  exact ⟨h3, h4, hfits, hq⟩
theorem wp_rows {c c1 c0 : ClassId} {kc k1 : Class} {n w : Int32} (hk : s.vm.classes[c]? = some kc) (hkind : kc.kind = .array c1 (.array .int)) (hk1 : s.vm.classes[c1]? = some k1) (hkind1 : k1.kind = .array c0 .int) (hn : ¬ n < 0) (hw : ¬ w < 0)
    (l1 : ¬ n.toNatClampNeg > e.platform.arrayLengthLimit) (b1 : ¬ n.toNatClampNeg * 4 > e.platform.maxHeapBytes) (l2 : ¬ w.toNatClampNeg > e.platform.arrayLengthLimit) (b2 : ¬ w.toNatClampNeg * 4 > e.platform.maxHeapBytes)
    (hc : s.heap.size + 1 + n.toNatClampNeg ≤ e.platform.maxCells) (hs : s.slotsUsed + n.toNatClampNeg + n.toNatClampNeg * w.toNatClampNeg ≤ e.platform.maxSlots)
    {Q : Addr → Pre} (hq : ∀ d' acts', Q s.heap.size d' acts' (rwS s c c1 n.toNatClampNeg w.toNatClampNeg n.toNatClampNeg)) : wp (multianewarray.make c [n, w]) Q E e d acts s := by
  have hfind : ([w].find? (· < 0)) = none := by simp [hw]
  rw [multianewarray.make]
  simp only [wp_bind', W.ite, hn, if_false, wp_pure', W.theClass, hk, hkind, Option.some.injEq, exists_eq_left']
  refine wp_row1 (type := .array .int) hk hkind l1 b1 rfl rfl (by omega) (by have := Nat.zero_le (n.toNatClampNeg * w.toNatClampNeg); omega) ?_
  simp only [hfind]
  rw [ite_self, wp_bind', Std.Legacy.Range.forIn_eq_forIn_range']
  have hsz : ([:n.toNatClampNeg] : Std.Legacy.Range).size = n.toNatClampNeg := by simp [Std.Legacy.Range.size]
  rw [hsz]
  show wp (forIn (List.range' 0 n.toNatClampNeg 1) PUnit.unit _) _ E e d acts _
  refine wp_forIn_inv (fun rest s' => ∃ i, i ≤ n.toNatClampNeg ∧ rest = List.range' i (n.toNatClampNeg - i) ∧ s' = rwS s c c1 n.toNatClampNeg w.toNatClampNeg i) _ _ ⟨0, Nat.zero_le _, rfl, rfl⟩ ?_ ?_
  · rintro x rest s' d' acts' Q' ⟨i, hi, hl, rfl⟩ hnext
    have hlt : i < n.toNatClampNeg := by
      rcases Nat.lt_or_ge i n.toNatClampNeg with h | h
      · exact h
      · rw [show n.toNatClampNeg - i = 0 by omega] at hl; simp at hl
    rw [show n.toNatClampNeg - i = (n.toNatClampNeg - (i + 1)) + 1 by omega, List.range'_succ] at hl
    obtain ⟨rfl, rfl⟩ := List.cons.inj hl
    obtain ⟨f1, f2, f3, f4⟩ := rwS_f s c c1 n.toNatClampNeg w.toNatClampNeg x
    obtain ⟨o1, o2, o3⟩ := rwO_f c n.toNatClampNeg s.heap.size x
    have hmul : x * w.toNatClampNeg + w.toNatClampNeg ≤ n.toNatClampNeg * w.toNatClampNeg := by
      have := Nat.mul_le_mul_right w.toNatClampNeg (show x + 1 ≤ n.toNatClampNeg from hlt)
      rw [Nat.succ_mul] at this; exact this
    have hlt0 : s.heap.size < (rwS s c c1 n.toNatClampNeg w.toNatClampNeg x).heap.size := by rw [f1]; omega
    simp only [wp_bind']
    rw [multianewarray.make]
    have hk1' : (rwS s c c1 n.toNatClampNeg w.toNatClampNeg x).vm.classes[c1]? = some k1 := by rw [f3]; exact hk1
    simp only [wp_bind', W.ite, hw, if_false, wp_pure', W.theClass, hk1', hkind1, Option.some.injEq, exists_eq_left']
    refine wp_row1 (type := .int) hk1' hkind1 l2 b2 rfl rfl (by rw [f1]; omega) (by rw [f4]; omega) ?_
    simp only [wp_bind', W.writeLoc, wp_pure']
    refine ⟨rwO c n.toNatClampNeg s.heap.size x, by rw [State.heap_pushCell_of_lt (h := hlt0)]; exact f2, by rw [o2]; simp, by rw [o3]; exact hlt, ?_, hnext _ _ _ ⟨x + 1, hlt, rfl, ?_⟩⟩
    · rw [o1, o2]
      simp [State.fitsSlot, State.slotType?, f3, hk, hkind, fits]
    · rw [f1]; rfl
  · rintro s' d' acts' ⟨i, hi, hl, rfl⟩
    have hiN : i = n.toNatClampNeg := by
      rcases Nat.lt_or_ge i n.toNatClampNeg with h | h
      · rw [show n.toNatClampNeg - i = (n.toNatClampNeg - (i + 1)) + 1 by omega, List.range'_succ] at hl; cases hl
      · omega
    subst hiN
    simp only [wp_pure']
    exact hq _ _
end RWS
section RWW
variable {p : Program} {l : Launch} {e : Env} {R : Room} {s : State} {m : MethodId} {args : Array Value} {below : List Frame} {meth : Method} {c : Code} {T : State} {H : Heap} {locs : List Loc} {cells slots : Nat} {Q : State → Prop} {cc : ByteArray} {pc : Nat} {ls : Array Slot} {rest : List Value}
theorem rwS_st (X : Stand p l e R s m args below meth c T locs cells slots) (cA c1 : ClassId) (N w : Nat) : ∀ k, Stand p l e R s m args below meth c (rwS T cA c1 N w k) (locs ++ (List.range k).map fun j => (⟨T.heap.size, j⟩ : Loc)) (cells + 1 + k) (slots + N + k * w)
  | 0 => by
    have h := X.pushed (rwO cA N T.heap.size 0)
    have e1 : (rwO cA N T.heap.size 0).slots.size = N := (rwO_f cA N T.heap.size 0).2.2
    rw [e1] at h
    simpa [rwS] using h
  | k + 1 => by
    have Xk := rwS_st X cA c1 N w k
    obtain ⟨f1, f2, f3, f4⟩ := rwS_f T cA c1 N w k
    have hlt0 : T.heap.size < (rwS T cA c1 N w k).heap.size := by rw [f1]; omega
    have hcell : ((rwS T cA c1 N w k).pushCell (rwI c1 w)).heap[T.heap.size]? = some (rwO cA N T.heap.size k) := by rw [State.heap_pushCell_of_lt (h := hlt0)]; exact f2
    have h := (Xk.pushed (rwI c1 w)).stored hcell k (.ref (T.heap.size + 1 + k))
    have e1 : (rwI c1 w).slots.size = w := by simp [rwI]
    rw [e1] at h
    have e2 : (locs ++ (List.range (k + 1)).map fun j => (⟨T.heap.size, j⟩ : Loc)) = (locs ++ (List.range k).map fun j => (⟨T.heap.size, j⟩ : Loc)) ++ [⟨T.heap.size, k⟩] := by simp [List.range_succ, List.append_assoc]
    have e3 : slots + N + (k + 1) * w = slots + N + k * w + w := by rw [Nat.succ_mul]; omega
    rw [e2, e3]
    exact h
theorem lv_rows (hexec : p.tables.exec = Jvm.exec) (hb : c.code = cc) {own : String} {index : Nat} (hown : s.vm.findClass own = some m.cls) (hclink : (Cond.classLink own index "[[I").before args s = true) {cA c1 c0 : ClassId} {kc k1 : Class}
    (hk : s.vm.classes[cA]? = some kc) (hkind : kc.kind = .array c1 (.array .int)) (hnm : s.vm.findClass "[[I" = some cA) (hk1 : s.vm.classes[c1]? = some k1) (hkind1 : k1.kind = .array c0 .int) (hdg : decode cc pc = .ok (.multianewarray index 2, 4)) {n w : Int32} (hn : ¬ n < 0) (hw : ¬ w < 0) (hb1 : n.toNatClampNeg ≤ 1000) (hb2 : w.toNatClampNeg ≤ 1000)
    (hcells : cells + (1 + n.toNatClampNeg) ≤ R.cells) (hslots : slots + (n.toNatClampNeg + n.toNatClampNeg * w.toNatClampNeg) ≤ R.slots)
    (kk : W p l e R s m args below meth c (rwH H cA c1 n.toNatClampNeg w.toNatClampNeg n.toNatClampNeg) (locs ++ (List.range n.toNatClampNeg).map fun j => (⟨H.size, j⟩ : Loc)) (cells + 1 + n.toNatClampNeg) (slots + n.toNatClampNeg + n.toNatClampNeg * w.toNatClampNeg) Q (F0 m (pc + 4) ls (.ref H.size :: rest))) : W p l e R s m args below meth c H locs cells slots Q (F0 m pc ls (.int w :: .int n :: rest)) := by
  intro T hT X
  have hpl : e.platform.magicAccessors = ({} : Platform).magicAccessors := by rw [X.admits.platform]
  obtain ⟨cA', hfc0, hcl⟩ := Cond.classLink_spec hown hclink e.platform hpl
  cases hnm.symm.trans hfc0
  obtain ⟨hg₁, hwarm₁, hready₁⟩ := State.classEntry (e := e) X.warmed hcl
  generalize T.vm.noted m.cls index (.cls cA) = vm₁ at hg₁ hwarm₁ hready₁
  have hal : s.vm.Alike vm₁ := hwarm₁.alike
  obtain ⟨kA₁, hkA₁, heA⟩ := hal.2.2 _ _ hk
  obtain ⟨kC₁, hkC₁, heC⟩ := hal.2.2 _ _ hk1
  have hkindA₁ : kA₁.kind = .array c1 (.array .int) := by rw [heA]; exact hkind
  have hkindC₁ : kC₁.kind = .array c0 .int := by rw [heC]; exact hkind1
  have X₁ := X.noted hwarm₁
  obtain ⟨hr1, hr2⟩ := X.roomAbove hcells hslots
  have XF := rwS_st X₁ cA c1 n.toNatClampNeg w.toNatClampNeg n.toNatClampNeg
  have hsz : (T.setVm vm₁).heap.size = H.size := by rw [← hT]; rfl
  have hhp : (rwS (T.setVm vm₁) cA c1 n.toNatClampNeg w.toNatClampNeg n.toNatClampNeg).heap = rwH H cA c1 n.toNatClampNeg w.toNatClampNeg n.toNatClampNeg := by
    rw [rwS_heap, ← hT]; rfl
  rw [hsz] at XF
  obtain ⟨t, a1, b1⟩ := kk _ hhp XF
  refine ⟨t, ?_, b1⟩
  have l1 : ¬ n.toNatClampNeg > e.platform.arrayLengthLimit := by rw [Launch.admits_arrayLengthLimit X.admits]; omega
  have g1 : ¬ n.toNatClampNeg * 4 > e.platform.maxHeapBytes := by rw [Launch.admits_maxHeapBytes X.admits]; omega
  have l2 : ¬ w.toNatClampNeg > e.platform.arrayLengthLimit := by rw [Launch.admits_arrayLengthLimit X.admits]; omega
  have g2 : ¬ w.toNatClampNeg * 4 > e.platform.maxHeapBytes := by rw [Launch.admits_maxHeapBytes X.admits]; omega
  have hdg' : decode c.code (F0 m pc ls (.int w :: .int n :: rest)).pc = .ok (.multianewarray index 2, 4) := by rw [hb]; exact hdg
  jvm_step X.here [hexec, hdg']
  simp only [multianewarray.sem, wp_bind', W.resolveClassAt_links (State.method?_setTop (F0 m pc ls (.int w :: .int n :: rest)) X.here.top) hg₁]
  rw [W.popN, if_neg (by decide)]
  refine ⟨F0 m pc ls (.int w :: .int n :: rest), State.topJava?_setTop' (s := T.setVm vm₁) _ X.here.top, [.int n, .int w], rest, rfl, rfl, ?_⟩
  simp only [List.mapM_cons, List.mapM_nil, wp_bind', wp_pure']
  have hcT : T.heap.size = H.size := by rw [hT]
  refine wp_rows hkA₁ hkindA₁ hkC₁ hkindC₁ hn hw l1 g1 l2 g2 (by show T.heap.size + 1 + _ ≤ _; omega) (by show T.slotsUsed + _ + _ ≤ _; omega) (fun d' acts' => ?_)
  have eS : ((T.setTop (F0 m pc ls (.int w :: .int n :: rest))).setVm vm₁).setTop { F0 m pc ls (.int w :: .int n :: rest) with stack := rest } = (T.setVm vm₁).setTop { F0 m pc ls (.int w :: .int n :: rest) with stack := rest } := by
    show ((T.setVm vm₁).setTop _).setTop _ = _
    rw [State.setTop_setTop]
  rw [eS, rwS_top]
  simp only [wp_bind', W.mark, W.pushRef, State.topJava?_setTop' _ XF.here.top, Option.some.injEq, exists_eq_left', State.setTop_setTop, State.heap_setTop]
  intro acts
  simp [jvm, XF.here.top]
  rw [hcT]
  exact a1
end RWW
section RWG
variable {p : Program} {l : Launch} {e : Env} {R : Room} {s : State} {m : MethodId} {args : Array Value} {below : List Frame} {meth : Method} {c : Code} {K : Kx} {J : Jx} {q : Mrec} {r : Nat} {Q : State → Prop} {pc pc' : Nat} {ls st ls' st' : List AV} {mem mem' : Mem}
theorem mnA_1 (m : Mem) (o w : Nat) : ∀ k, (mnA m o w k).1.length = m.1.length + k
  | 0 => rfl
  | k + 1 => by
    show (mN (mnA m o w k) 1 w w).1.length = _
    rw [len_mN, mnA_1 m o w k]; omega
theorem mnA_o (m : Mem) (o w : Nat) (ho : o < m.1.length) : ∀ k, mT (mnA m o w k) o = mT m o
  | 0 => rfl
  | k + 1 => by
    show mT (mN (mnA m o w k) 1 w w) o = _
    rw [mT_mN, if_pos (by rw [mnA_1]; omega)]
    exact mnA_o m o w ho k
theorem mnA_c (m : Mem) (o w : Nat) : ∀ k, mC (mnA m o w k) = mC m - k ∧ mS (mnA m o w k) = mS m - k * w
  | 0 => ⟨rfl, by rw [Nat.zero_mul]; rfl⟩
  | k + 1 => by
    obtain ⟨h1, h2⟩ := mnA_c m o w k
    refine ⟨?_, ?_⟩
    · show mC (mnA m o w k) - 1 = _
      omega
    · show mS (mnA m o w k) - w = _
      rw [h2, Nat.succ_mul]; omega
theorem g_ma {idx d : Nat} (C : CX p l R s m args meth c K q r) (hd : decode q.2.1 pc = .ok (.multianewarray idx 2, 4)) (hw : lw_tbl[d]? = some (.classLink q.1.cls idx "[[I"))
    (hJ : J.2.2.1 ≤ R.cells + J.2.2.2.2.1 ∧ J.2.2.2.1 ≤ R.slots + J.2.2.2.2.2) (hm : J.2.2.2.2.1 ≤ mC mem' ∧ J.2.2.2.2.2 ≤ mS mem')
    (h : o_ma (pc + 4) ls st mem = some (.inl (pc', ls', st', mem'))) (k : GO p l e R s m args below meth c K J q Q pc' ls' st' mem') : GO p l e R s m args below meth c K J q Q pc ls st mem := by
  unfold o_ma at h
  split at h
  · rename_i w n rr
    split at h
    · rename_i hh
      obtain ⟨n0, w0, n1, w1, c1, s1⟩ := hh
      obtain ⟨rfl, rfl, rfl, rfl⟩ := go_inj h
      intro ad H LS locs cells slots d0
      obtain ⟨v1, v2⟩ := vok_cons d0.2.2.2.1
      obtain ⟨v2, v3⟩ := vok_cons v2
      have hd11 := d0.2.2.2.2.2.2.2.2.2.2.1
      have hd12 := d0.2.2.2.2.2.2.2.2.2.2.2
      have hm1 := mnA_c (mN mem 6 n.toNat n.toNat) mem.1.length w.toNat n.toNat
      have e5 : mC (mN mem 6 n.toNat n.toNat) = mC mem - 1 := rfl
      have e6 : mS (mN mem 6 n.toNat n.toNat) = mS mem - n.toNat := rfl
      have hc1 := hm.1
      have hs1 := hm.2
      rw [hm1.1, e5] at hc1
      rw [hm1.2, e6] at hs1
      have cn : (i32 n).toNatClampNeg = n.toNat := i32_clamp v2
      have cw : (i32 w).toNatClampNeg = w.toNat := i32_clamp v1
      obtain ⟨kc, k1, c0, g1, g2, g3, g4, g5⟩ := C.old.2.2.2.2.2.2.2.2.2
      refine lv_rows C.1 C.2.1 C.own (C.w hw rfl) g1 g2 g3 g4 g5 hd (i32_nn v2 n0) (i32_nn v1 w0) (by rw [cn]; omega) (by rw [cw]; omega) (by rw [cn]; omega) (by rw [cn, cw]; omega) ?_
      rw [cn, cw]
      have hL6 : mT (mN mem 6 n.toNat n.toNat) mem.1.length = some (6, n.toNat) := by rw [mT_mN, if_neg (by omega), if_pos rfl]
      have hlen : mem.1.length < (mN mem 6 n.toNat n.toNat).1.length := by rw [len_mN]; omega
      have key : ∀ j, j ≤ n.toNat → ∃ ad' : Nat → Nat, DX s K J q ad' (rwH H (kca K 6) (kca K 1) n.toNat w.toNat j) LS (locs ++ (List.range j).map fun j => (⟨H.size, j⟩ : Loc)) (mnA (mN mem 6 n.toNat n.toNat) mem.1.length w.toNat j) ls' (vr mem.1.length :: rr) (cells + 1 + j) (slots + n.toNat + j * w.toNat) ∧ (vr mem.1.length :: rr).map (conc ad' (ksp K)) = .ref H.size :: rr.map (conc ad (ksp K)) ∧ ad' mem.1.length = H.size := by
        intro j
        induction j with
        | zero =>
          intro _
          have hz : ∀ j : Nat, mR (mN mem 6 n.toNat n.toNat) mem.1.length j = 0 := fun j => by rw [mR_mN, if_pos rfl]
          have hcell : rwO (kca K 6) n.toNat H.size 0 = vp_cell (kca K 6) (n.toNat, .inr (.inr (.inr (.inr (fun _ => none))))) := by
            rw [vp_cell_q]
            exact arrV_new (kca K 6) n.toNat .null
          have hP := d0.2.2.2.2.1
          have hD := d0.2.2.2.2.2.1
          have hS := d0.2.2.2.2.2.2.1
          have o1 : ∀ x : Nat, x < H.size → (H.push (rwO (kca K 6) n.toNat H.size 0))[x]? = H[x]? := fun x hx => by rw [Array.getElem?_push, if_neg (Nat.ne_of_lt hx)]
          have hkp : ∀ (k : Nat) (y : Nat × va_E), (wld (kca K) ad mem)[k]? = some y → (H.push (rwO (kca K 6) n.toNat H.size 0))[y.1]? = H[y.1]? := fun k y hy => o1 y.1 ((hP k y hy).lt)
          obtain ⟨b1, b2⟩ := d0.new (en := .inl (kca K 6, n.toNat, .inr (.inr (.inr (.inr (fun _ => none)))))) (k := 6) (n := n.toNat) (z := n.toNat) (x := H.size) (H1 := H.push (rwO (kca K 6) n.toNat H.size 0)) (locs1 := locs) v3 (by rw [e_ref6 hL6]; simp only [hz]; rfl) (by omega) (by omega) (by omega) (by omega) (by omega) ((hP.kept hkp).app (fun k y hy => by
            have hz : k < 1 := (List.getElem?_eq_some_iff.mp hy).1
            rw [show k = 0 by omega] at hy
            cases hy
            show (H.push (rwO (kca K 6) n.toNat H.size 0))[H.size]? = some (vp_cell _ _)
            rw [Array.getElem?_push_size, hcell])) (hD.push hP rfl (C.kA _ hS.1)) ⟨Nat.le_trans hS.1 (by simp), fun y h1 h2 => (o1 y (Nat.lt_of_lt_of_le h1 hS.1)).trans (hS.2.1 y h1 h2), hS.2.2⟩
          refine ⟨_, ?_, b2, upA_eq⟩
          have e1 : (locs ++ (List.range 0).map fun j => (⟨H.size, j⟩ : Loc)) = locs := by simp
          rw [e1, Nat.zero_mul]
          exact b1
        | succ j ih =>
          intro hj
          have hjw : j * w.toNat + w.toNat ≤ n.toNat * w.toNat := by
            have := Nat.mul_le_mul_right w.toNat (show j + 1 ≤ n.toNat from hj)
            rw [Nat.succ_mul] at this; exact this
          have hcm := mnA_c (mN mem 6 n.toNat n.toNat) mem.1.length w.toNat j
          have q1 : 1 ≤ mC (mnA (mN mem 6 n.toNat n.toNat) mem.1.length w.toNat j) := by rw [hcm.1, e5]; omega
          have q2 : w.toNat ≤ mS (mnA (mN mem 6 n.toNat n.toNat) mem.1.length w.toNat j) := by rw [hcm.2, e6]; omega
          have q3 : w.toNat ≤ 8000000 := by omega
          obtain ⟨a1, b1, b2, b3⟩ := ih (by omega)
          have f1 := (rwH_f H (kca K 6) (kca K 1) n.toNat w.toNat j).1
          have f2 := (rwH_f H (kca K 6) (kca K 1) n.toNat w.toNat j).2
          generalize hH : rwH H (kca K 6) (kca K 1) n.toNat w.toNat j = H1 at b1 f1 f2
          have hl1 := mnA_1 (mN mem 6 n.toNat n.toNat) mem.1.length w.toNat j
          have ho1 := mnA_o (mN mem 6 n.toNat n.toNat) mem.1.length w.toNat hlen j
          rw [hL6] at ho1
          generalize hM : mnA (mN mem 6 n.toNat n.toNat) mem.1.length w.toNat j = M1 at b1 q1 q2 hl1 ho1
          have hP := b1.2.2.2.2.1
          have hD := b1.2.2.2.2.2.1
          have hS := b1.2.2.2.2.2.2.1
          have hT1 : mT (mN M1 1 w.toNat w.toNat) M1.1.length = some (1, w.toNat) := by rw [mT_mN, if_neg (by omega), if_pos rfl]
          have hz : ∀ j : Nat, mI (mN M1 1 w.toNat w.toNat) M1.1.length j = 0 := fun j => by rw [mI_mN, if_pos rfl]
          have hcell : rwI (kca K 1) w.toNat = vp_cell (kca K 1) (w.toNat, .inl (fun _ => i32 0)) := arrV_new (kca K 1) w.toNat (.int 0)
          have o1 : ∀ x : Nat, x < H1.size → (H1.push (rwI (kca K 1) w.toNat))[x]? = H1[x]? := fun x hx => by rw [Array.getElem?_push, if_neg (Nat.ne_of_lt hx)]
          have hkp : ∀ (k : Nat) (y : Nat × va_E), (wld (kca K) a1 M1)[k]? = some y → (H1.push (rwI (kca K 1) w.toNat))[y.1]? = H1[y.1]? := fun k y hy => o1 y.1 ((hP k y hy).lt)
          have hvr : ∀ v ∈ (vr mem.1.length :: rr), vok M1.1.length v := b1.2.2.2.1
          obtain ⟨t1, t2⟩ := b1.new (en := .inl (kca K 1, w.toNat, .inl (fun _ => i32 0))) (k := 1) (n := w.toNat) (z := w.toNat) (x := H1.size) (H1 := H1.push (rwI (kca K 1) w.toNat)) (locs1 := locs ++ (List.range j).map fun j => (⟨H.size, j⟩ : Loc)) hvr (by rw [e_int hT1 (Or.inl rfl)]; simp only [hz]) (by decide) (fun h => absurd h (by decide)) (fun _ => q3) q1 q2 ((hP.kept hkp).app (fun k y hy => by
            have hz : k < 1 := (List.getElem?_eq_some_iff.mp hy).1
            rw [show k = 0 by omega] at hy
            cases hy
            show (H1.push (rwI (kca K 1) w.toNat))[H1.size]? = some (vp_cell _ _)
            rw [Array.getElem?_push_size, hcell])) (hD.push hP rfl (C.kA _ hS.1)) ⟨Nat.le_trans hS.1 (by simp), fun y h1 h2 => (o1 y (Nat.lt_of_lt_of_le h1 hS.1)).trans (hS.2.1 y h1 h2), hS.2.2⟩
          have hoL : mT (mN M1 1 w.toNat w.toNat) mem.1.length = some (6, n.toNat) := by rw [mT_mN, if_pos (by rw [hl1]; omega)]; exact ho1
          have hadL : upA a1 M1.1.length H1.size mem.1.length = H.size := by rw [upA_lt _ (by rw [hl1]; omega)]; exact b3
          have hP2 := t1.2.2.2.2.1
          have hD2 := t1.2.2.2.2.2.1
          have hS2 := t1.2.2.2.2.2.2.1
          have hat := wld_at (ca := kca K) (ad := upA a1 M1.1.length H1.size) hoL
          rw [hadL, e_ref6 hoL] at hat
          have hce : (H1.push (rwI (kca K 1) w.toNat))[H.size]? = some (vp_cell (kca K 6) (n.toNat, .inr (.inr (.inr (.inr (fun j => rfo (upA a1 M1.1.length H1.size) (mR (mN M1 1 w.toNat w.toNat) mem.1.length j))))))) := hP2 _ _ hat
          have hcO : rwO (kca K 6) n.toNat H.size j = vp_cell (kca K 6) (n.toNat, .inr (.inr (.inr (.inr (fun j => rfo (upA a1 M1.1.length H1.size) (mR (mN M1 1 w.toNat w.toNat) mem.1.length j)))))) := by
            rw [o1 H.size (by omega), f2] at hce
            exact Option.some.inj hce
          have hnew : rwO (kca K 6) n.toNat H.size (j + 1) = vp_cell (kca K 6) (n.toNat, .inr (.inr (.inr (.inr (va_up (fun j => rfo (upA a1 M1.1.length H1.size) (mR (mN M1 1 w.toNat w.toNat) mem.1.length j)) j (some H1.size)))))) := by
            show (rwO (kca K 6) n.toNat H.size j).setSlot j (.ref (H.size + 1 + j)) = _
            rw [hcO, vp_cell_q, vp_cell_q, arrV_store, ← f1]
            congr 1
            funext y
            unfold updV va_up
            by_cases hy : y = j
            · rw [if_pos hy, if_pos hy]; rfl
            · rw [if_neg hy, if_neg hy]
          have hup : upA a1 M1.1.length H1.size M1.1.length = H1.size := upA_eq
          have hset := wld_aR6 (ca := kca K) (ad := upA a1 M1.1.length H1.size) (j := j) (v := M1.1.length) hoL
          rw [hadL, hup] at hset
          have oq : ∀ x : Nat, x ≠ H.size → ((H1.push (rwI (kca K 1) w.toNat)).setIfInBounds H.size (rwO (kca K 6) n.toNat H.size (j + 1)))[x]? = (H1.push (rwI (kca K 1) w.toNat))[x]? := fun x hx => by rw [Array.getElem?_setIfInBounds, if_neg (fun e => hx e.symm)]
          have hP3 := hP2.set hD2 hat (e := .inl (kca K 6, n.toNat, .inr (.inr (.inr (.inr (va_up (fun j => rfo (upA a1 M1.1.length H1.size) (mR (mN M1 1 w.toNat w.toNat) mem.1.length j)) j (some H1.size))))))) (H1 := (H1.push (rwI (kca K 1) w.toNat)).setIfInBounds H.size (rwO (kca K 6) n.toNat H.size (j + 1))) (by
            show ((H1.push (rwI (kca K 1) w.toNat)).setIfInBounds H.size (rwO (kca K 6) n.toNat H.size (j + 1)))[H.size]? = some (vp_cell _ _)
            rw [Array.getElem?_setIfInBounds, if_pos rfl, if_pos (by rw [Array.size_push]; omega), hnew]) oq
          have hD3 := hD2.set hat (e := .inl (kca K 6, n.toNat, .inr (.inr (.inr (.inr (va_up (fun j => rfo (upA a1 M1.1.length H1.size) (mR (mN M1 1 w.toNat w.toNat) mem.1.length j)) j (some H1.size)))))))
          rw [← hset] at hP3 hD3
          have hS3 := hS2.put (k := j) (by rw [Array.size_setIfInBounds]) oq (hD2.2 _ _ hat)
          have hW3 : WF (sR (mN M1 1 w.toNat w.toNat) mem.1.length j (M1.1.length + 1)) := WF_sR t1.2.2.2.2.2.2.2.1 (by rw [len_mN]; omega)
          have hvk : ∀ v ∈ (vr mem.1.length :: rr), vok (mN M1 1 w.toNat w.toNat).1.length v := by rw [len_mN]; exact fun v hv => vok_mono (by omega) (hvr v hv)
          have t3 := t1.mem (mem' := sR (mN M1 1 w.toNat w.toNat) mem.1.length j (M1.1.length + 1)) (st' := vr mem.1.length :: rr) rfl hvk hP3 hD3 hS3 hW3 rfl rfl
          refine ⟨upA a1 M1.1.length H1.size, ?_, ?_, hadL⟩
          · have e1 : (locs ++ (List.range (j + 1)).map fun j => (⟨H.size, j⟩ : Loc)) = (locs ++ (List.range j).map fun j => (⟨H.size, j⟩ : Loc)) ++ [⟨H.size, j⟩] := by simp [List.range_succ, List.append_assoc]
            have e2 : slots + n.toNat + (j + 1) * w.toNat = slots + n.toNat + j * w.toNat + w.toNat := by rw [Nat.succ_mul]; omega
            have e3 : cells + 1 + (j + 1) = cells + 1 + j + 1 := by omega
            have e4 : rwH H (kca K 6) (kca K 1) n.toNat w.toNat (j + 1) = (H1.push (rwI (kca K 1) w.toNat)).setIfInBounds H.size (rwO (kca K 6) n.toNat H.size (j + 1)) := by rw [← hH]; rfl
            have e5 : mnA (mN mem 6 n.toNat n.toNat) mem.1.length w.toNat (j + 1) = sR (mN M1 1 w.toNat w.toNat) mem.1.length j (M1.1.length + 1) := by rw [← hM]; rfl
            rw [e1, e2, e3, e4, e5]
            exact t3
          · rw [← b2]
            exact List.map_congr_left (fun v hv => conc_ext (fun i hi => upA_lt i hi) (hvr v hv))
      obtain ⟨a1, b1, b2, b3⟩ := key n.toNat (Nat.le_refl _)
      have := k a1 _ LS _ _ _ b1
      rw [b2] at this
      exact this
    · cases h
  · cases h
end RWG
