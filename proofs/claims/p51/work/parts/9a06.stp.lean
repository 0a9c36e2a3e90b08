/-! what stands while the machine runs one of the methods, and the instructions that only go on -/
def lsl (ad : Nat → Nat) (sp : Nat → Value) (ls : List AV) : List (Nat × Value) := (List.range ls.length).filterMap (fun i => match (ls[i]? : Option AV) with
  | some (.inr (.inr (.inr 2))) => none
  | some v => some (i, conc ad sp v)
  | none => none)
theorem mem_lsl {ad : Nat → Nat} {sp : Nat → Value} {ls : List AV} {q : Nat × Value} : q ∈ lsl ad sp ls ↔ ∃ v, ls[q.1]? = some v ∧ v ≠ vs 2 ∧ q.2 = conc ad sp v := by
  unfold lsl
  rw [List.mem_filterMap]
  constructor
  · rintro ⟨i, -, h⟩
    split at h
    · cases h
    · rename_i v hn hv
      cases h
      exact ⟨v, hv, fun e => hn e, rfl⟩
    · cases h
  · rintro ⟨v, h1, h2, h3⟩
    refine ⟨q.1, List.mem_range.mpr (List.getElem?_eq_some_iff.mp h1).1, ?_⟩
    split
    · rename_i hh; rw [h1] at hh; exact absurd (Option.some.inj hh) h2
    · rename_i w _ hw
      rw [h1] at hw
      cases hw
      rw [← h3]
    · rename_i hh; rw [h1] at hh; cases hh
theorem has_sub {LS : Array Slot} {nL : Nat} {l l' : List (Nat × Value)} (h : lv_has LS nL l) (hs : ∀ q ∈ l', q ∈ l) : lv_has LS nL l' := ⟨h.1, h.2.1, fun q hq => h.2.2 q (hs q hq)⟩
theorem lsl_at {ad : Nat → Nat} {sp : Nat → Value} {LS : Array Slot} {nL i : Nat} {ls : List AV} {v : AV} (h : lv_has LS nL (lsl ad sp ls)) (hv : ls[i]? = some v) (hn : v ≠ vs 2) : LS[i]? = some (.val (conc ad sp v)) := h.2.2 (i, conc ad sp v) (mem_lsl.mpr ⟨v, hv, hn, rfl⟩)
theorem cat_conc {ad : Nat → Nat} {sp : Nat → Value} (hsp : ∀ k, (sp k).category = 1) : ∀ v : AV, (conc ad sp v).category = if lgS v then 2 else 1
  | .inl _ => rfl
  | .inr (.inl _) => rfl
  | .inr (.inr (.inl _)) => rfl
  | .inr (.inr (.inr k)) => hsp k
theorem prev_cat {ad : Nat → Nat} {sp : Nat → Value} (hsp : ∀ k, (sp k).category = 1) {ls : List AV} {i : Nat} (hp : prevOk ls i = true) {q : Nat × Value} (hq : q ∈ lsl ad sp ls) (he : q.1 + 1 = i) : q.2.category = 1 := by
  obtain ⟨v, h1, -, h3⟩ := mem_lsl.mp hq
  subst he
  rw [h3, cat_conc hsp]
  unfold prevOk at hp
  simp only [h1, Option.any_some, Bool.not_eq_true'] at hp
  rw [hp]; rfl
/-- the locals after one place has got another value -/
theorem lsl_set1 {ad : Nat → Nat} {sp : Nat → Value} (hsp : ∀ k, (sp k).category = 1) {LS : Array Slot} {nL i : Nat} {ls : List AV} {w : AV} {v : Value} (hp : prevOk ls i = true) (hw : w = vs 2 ∨ conc ad sp w = v)
    (h : lv_has LS nL ((i, v) :: (lsl ad sp ls).filter (fun q => !(q.1 == i) && !(q.1 + 1 == i && q.2.category == 2)))) : lv_has LS nL (lsl ad sp (ls.set i w)) := by
  refine has_sub h fun q hq => ?_
  obtain ⟨x, h1, h2, h3⟩ := mem_lsl.mp hq
  rw [List.getElem?_set] at h1
  by_cases e : i = q.1
  · rw [if_pos e] at h1
    split at h1
    · cases h1
      rcases hw with hw | hw
      · exact absurd hw h2
      · rw [← hw, ← h3, e]; exact List.mem_cons_self
    · cases h1
  · rw [if_neg e] at h1
    refine List.mem_cons_of_mem _ (List.mem_filter.mpr ⟨mem_lsl.mpr ⟨x, h1, h2, h3⟩, ?_⟩)
    have e1 : (q.1 == i) = false := by simp; omega
    rw [e1]
    by_cases e2 : q.1 + 1 = i
    · have := prev_cat hsp hp (mem_lsl.mpr ⟨x, h1, h2, h3⟩) e2
      rw [this]; simp
    · have e3 : (q.1 + 1 == i) = false := by simp; omega
      rw [e3]; rfl
theorem lsl_set2 {ad : Nat → Nat} {sp : Nat → Value} (hsp : ∀ k, (sp k).category = 1) {LS : Array Slot} {nL i : Nat} {ls : List AV} {w : AV} {v : Value} (hp : prevOk ls i = true) (hw : conc ad sp w = v)
    (h : lv_has LS nL ((i, v) :: (lsl ad sp ls).filter (fun q => !(q.1 == i) && (!(q.1 == i + 1) && !(q.1 + 1 == i && q.2.category == 2))))) : lv_has LS nL (lsl ad sp ((ls.set i w).set (i + 1) (vs 2))) := by
  refine has_sub h fun q hq => ?_
  obtain ⟨x, h1, h2, h3⟩ := mem_lsl.mp hq
  rw [List.getElem?_set] at h1
  by_cases e : i + 1 = q.1
  · rw [if_pos e] at h1
    split at h1
    · cases h1; exact absurd rfl h2
    · cases h1
  · rw [if_neg e, List.getElem?_set] at h1
    by_cases e : i = q.1
    · rw [if_pos e] at h1
      split at h1
      · cases h1
        rw [← hw, ← h3, e]; exact List.mem_cons_self
      · cases h1
    · rw [if_neg e] at h1
      refine List.mem_cons_of_mem _ (List.mem_filter.mpr ⟨mem_lsl.mpr ⟨x, h1, h2, h3⟩, ?_⟩)
      have e1 : (q.1 == i) = false := by simp; omega
      have e4 : (q.1 == i + 1) = false := by simp; omega
      rw [e1, e4]
      by_cases e2 : q.1 + 1 = i
      · have := prev_cat hsp hp (mem_lsl.mpr ⟨x, h1, h2, h3⟩) e2
        rw [this]; simp
      · have e3 : (q.1 + 1 == i) = false := by simp; omega
        rw [e3]; rfl
theorem lsl_ext {L : Nat} {ad ad' : Nat → Nat} {sp : Nat → Value} {ls : List AV} (h : ∀ i, i < L → ad' i = ad i) (hv : ∀ v ∈ ls, vok L v) : lsl ad' sp ls = lsl ad sp ls := by
  unfold lsl
  congr 1
  funext i
  cases e : ls[i]? with
  | none => rfl
  | some v =>
    have := conc_ext (sp := sp) h (hv v (List.mem_of_getElem? e))
    split
    · rfl
    · rename_i h1; cases h1; rw [this]
    · rfl
/-- the fixed things of the whole run: class ids of arrays, of classes, special values, the places of strings, the script's place, the script, the heap's size at the start -/
abbrev Kx : Type := (Nat → ClassId) × va_G × (Nat → Value) × (Nat → Nat) × Nat × List Int × Nat
def kca (K : Kx) : Nat → ClassId := K.1
def kD (K : Kx) : va_G := K.2.1
def ksp (K : Kx) : Nat → Value := K.2.2.1
def kad (K : Kx) : Nat → Nat := K.2.2.2.1
def kb (K : Kx) : Nat := K.2.2.2.2.1
def kxs (K : Kx) : List Int := K.2.2.2.2.2.1
def kB (K : Kx) : Nat := K.2.2.2.2.2.2
def kA (K : Kx) : Nat → Prop := fun q => kB K ≤ q
/-- the fixed things of one call: where objects were at its start, how many, cells and places left then, and at its end -/
abbrev Jx : Type := (Nat → Nat) × Nat × Nat × Nat × Nat × Nat
/-- a word that stays when the machine warms up -/
def mvW (w : Cond) : Bool := goodWord w || (match w with
  | .castable _ _ => true
  | .declares _ => true
  | .methodLinkNest _ _ _ _ => true
  | .fieldLinkNest _ _ _ _ _ _ => true
  | _ => false)
def GWs : List Cond := lw_tbl.filter mvW
def exn (k : Nat) : String := exc.getD k ""
/-- a StringBuilder's private methods are its superclass's -/
def privY : List MethodName := [yJ5_ensureCapacityInternal_d00df, yJ5_newCapacity_0f7a4, yJ5_inflate_da8c8, yJ5_appendNull_278bc, yJ5_inflateIfNeededFor_a7421, yJ5_putStringAt_47b60]
def PVs (U : State) : Prop := ∀ y ∈ privY, va_Nw (.selects "java/lang/StringBuilder" y y) U
def tysOf (ca : Nat → ClassId) : List (ClassId × FieldType) := [(ca 1, .int), (ca 2, .long), (ca 3, .byte), (ca 4, .boolean), (ca 5, .object "DropSwitch$State"), (ca 6, .array .int)]
def stq (i : Nat) : String × Nat × String := stt.getD i ("", 0, "")
def KSp (K : Kx) : Prop := (∀ k, (ksp K k).category = 1) ∧ ksp K 3 = .ref (kb K) ∧ (∀ k, ksp K (k + 4) = .ref (kad K k)) ∧ (∀ x ∈ kxs K, inI x) ∧ (kxs K).length ≤ 3072 ∧ kb K < kB K ∧ ksp K 0 = .null
/-- Integer's rows of ones and tens -/
def DGs (K : Kx) (s : State) : Prop := (∀ i, 53 ≤ i → i < 55 → va_T .byte (kad K (2 * i + 1)) (stb.getD i []).length (fun j => .int (i32 ((stb.getD i []).getD j 0))) (kA K) s s.heap) ∧
  va_Z "java/lang/Integer" "DigitOnes" "[B" (.ref (kad K 107)) (kA K) s s.heap ∧ va_Z "java/lang/Integer" "DigitTens" "[B" (.ref (kad K 109)) (kA K) s s.heap
/-- the class of rows of rows of numbers -/
def MAs (K : Kx) (s : State) : Prop := ∃ kc k1 : Class, ∃ c0 : ClassId, s.vm.classes[kca K 6]? = some kc ∧ kc.kind = .array (kca K 1) (.array .int) ∧ s.vm.findClass "[[I" = some (kca K 6) ∧ s.vm.classes[kca K 1]? = some k1 ∧ k1.kind = .array c0 .int
/-- what was there before the run began, seen from a state s -/
def OLD (K : Kx) (s : State) : Prop := va_X (kb K) (kxs K).length (fun j => i32 ((kxs K).getD j 0)) s s.heap ∧
  (∀ i, i < 53 → vk_R (stq i).1 (stq i).2.1 (stq i).2.2 (kad K (2 * i)) s ∧ va_O "java/lang/String" (kad K (2 * i)) (kA K) s s.heap ∧
    va_OF "java/lang/String" "coder" "B" (.int 0) (kad K (2 * i)) (kA K) s s.heap ∧ va_OF "java/lang/String" "value" "[B" (.ref (kad K (2 * i + 1))) (kad K (2 * i)) (kA K) s s.heap ∧
    va_T .byte (kad K (2 * i + 1)) (stb.getD i []).length (fun j => .int (i32 ((stb.getD i []).getD j 0))) (kA K) s s.heap) ∧
  va_Z "java/lang/String" "COMPACT_STRINGS" "Z" (.int 1) (kA K) s s.heap ∧ va_Z "jdk/internal/util/Preconditions" "SIOOBE_FORMATTER" "Ljava/util/function/BiFunction;" (ksp K 1) (kA K) s s.heap ∧
  vx_Zq Bundle.tN "UNASSIGNED_STACK" Bundle.steD (kA K) s s.heap ∧ vx_Zq Bundle.tN "SUPPRESSED_SENTINEL" Bundle.listD (kA K) s s.heap ∧ va_AO "DropSwitch$State" s ∧ PVs s ∧ DGs K s ∧ MAs K s
def rmF (r : Nat) : Nat := r + 12
def rmL (r : Nat) : Nat := (r + 12) * 100
def CX (p : Program) (l : Launch) (R : Room) (s : State) (m : MethodId) (args : Array Value) (meth : Method) (c : Code) (K : Kx) (q : Mrec) (r : Nat) : Prop :=
  p.tables.exec = Jvm.exec ∧ c.code = q.2.1 ∧ c.maxLocals = q.2.2.1 ∧ s.vm.findClass q.1.cls = some m.cls ∧ (∀ w ∈ GWs, w.before args s = true) ∧ va_K (kD K) vwCl (tysOf (kca K)) s ∧ OLD K s ∧
  meth.sig.returnType = q.2.2.2.1 ∧ meth.locks = false ∧ meth.name = q.1.name ∧ c.exceptionTable.toList = tableOf q.2.2.2.2.1 ∧ kB K ≤ s.heap.size ∧ l.stackTraces = false ∧ rmF r ≤ R.frames ∧ rmL r ≤ R.locals ∧ KSp K
def DX (s : State) (K : Kx) (J : Jx) (q : Mrec) (ad : Nat → Nat) (H : Heap) (LS : Array Slot) (locs : List Loc) (mem : Mem) (ls st : List AV) (cells slots : Nat) : Prop :=
  lv_has LS q.2.2.1 (lsl ad (ksp K) ls) ∧ ls.length = q.2.2.1 ∧ (∀ v ∈ ls, vok mem.1.length v) ∧ (∀ v ∈ st, vok mem.1.length v) ∧
  va_P (kD K) vwCl (wld (kca K) ad mem) H ∧ va_D (kA K) (wld (kca K) ad mem) ∧ va_S (kA K) s.heap H locs ∧ WF mem ∧ (∀ i, i < J.2.1 → ad i = J.1 i) ∧ J.2.1 ≤ mem.1.length ∧
  cells + mC mem = J.2.2.1 ∧ slots + mS mem = J.2.2.2.1
def GO (p : Program) (l : Launch) (e : Env) (R : Room) (s : State) (m : MethodId) (args : Array Value) (below : List Frame) (meth : Method) (c : Code) (K : Kx) (J : Jx) (q : Mrec) (Q : State → Prop) (pc : Nat) (ls st : List AV) (mem : Mem) : Prop :=
  ∀ (ad : Nat → Nat) (H : Heap) (LS : Array Slot) (locs : List Loc) (cells slots : Nat), DX s K J q ad H LS locs mem ls st cells slots → W p l e R s m args below meth c H locs cells slots Q (F0 m pc LS (st.map (conc ad (ksp K))))
theorem DX.stk {s : State} {K : Kx} {J : Jx} {q : Mrec} {ad : Nat → Nat} {H : Heap} {LS : Array Slot} {locs : List Loc} {mem : Mem} {ls st st' : List AV} {cells slots : Nat} (d : DX s K J q ad H LS locs mem ls st cells slots) (h : ∀ v ∈ st', vok mem.1.length v) : DX s K J q ad H LS locs mem ls st' cells slots :=
  ⟨d.1, d.2.1, d.2.2.1, h, d.2.2.2.2⟩
theorem DX.loc {s : State} {K : Kx} {J : Jx} {q : Mrec} {ad : Nat → Nat} {H : Heap} {LS : Array Slot} {locs : List Loc} {mem : Mem} {ls st : List AV} {cells slots i : Nat} {v : AV} (d : DX s K J q ad H LS locs mem ls st cells slots) (hv : ls[i]? = some v) (hn : v ≠ vs 2) : LS[i]? = some (.val (conc ad (ksp K) v)) := lsl_at d.1 hv hn
theorem DX.lv {s : State} {K : Kx} {J : Jx} {q : Mrec} {ad : Nat → Nat} {H : Heap} {LS : Array Slot} {locs : List Loc} {mem : Mem} {ls st : List AV} {cells slots i : Nat} {v : AV} (d : DX s K J q ad H LS locs mem ls st cells slots) (hv : ls[i]? = some v) : vok mem.1.length v := d.2.2.1 v (List.mem_of_getElem? hv)
/-- other locals -/
theorem DX.set {s : State} {K : Kx} {J : Jx} {q : Mrec} {ad : Nat → Nat} {H : Heap} {LS LS' : Array Slot} {locs : List Loc} {mem : Mem} {ls st ls' st' : List AV} {cells slots : Nat} (d : DX s K J q ad H LS locs mem ls st cells slots) (h1 : lv_has LS' q.2.2.1 (lsl ad (ksp K) ls')) (h2 : ls'.length = ls.length) (h3 : ∀ v ∈ ls', vok mem.1.length v) (h4 : ∀ v ∈ st', vok mem.1.length v) : DX s K J q ad H LS' locs mem ls' st' cells slots :=
  ⟨h1, h2.trans d.2.1, h3, h4, d.2.2.2.2⟩
/-- another memory of the same shapes -/
theorem DX.mem {s : State} {K : Kx} {J : Jx} {q : Mrec} {ad : Nat → Nat} {H H1 : Heap} {LS : Array Slot} {locs locs1 : List Loc} {mem mem' : Mem} {ls st st' : List AV} {cells slots : Nat} (d : DX s K J q ad H LS locs mem ls st cells slots) (h1 : mem'.1 = mem.1) (h2 : ∀ v ∈ st', vok mem.1.length v)
    (hP : va_P (kD K) vwCl (wld (kca K) ad mem') H1) (hD : va_D (kA K) (wld (kca K) ad mem')) (hS : va_S (kA K) s.heap H1 locs1) (hW : WF mem') (hc : mC mem' = mC mem) (hs : mS mem' = mS mem) : DX s K J q ad H1 LS locs1 mem' ls st' cells slots :=
  ⟨d.1, d.2.1, by rw [h1]; exact d.2.2.1, by rw [h1]; exact h2, hP, hD, hS, hW, d.2.2.2.2.2.2.2.2.1, by rw [h1]; exact d.2.2.2.2.2.2.2.2.2.1, by rw [hc]; exact d.2.2.2.2.2.2.2.2.2.2.1, by rw [hs]; exact d.2.2.2.2.2.2.2.2.2.2.2⟩
theorem go_inj {a pc : Nat} {b ls c st : List AV} {d m : Mem} (h : go pc ls st m = some (.inl (a, b, c, d))) : a = pc ∧ b = ls ∧ c = st ∧ d = m := by
  unfold go at h
  cases h
  exact ⟨rfl, rfl, rfl, rfl⟩
theorem vok_cons {L : Nat} {v : AV} {st : List AV} (h : ∀ w ∈ v :: st, vok L w) : vok L v ∧ ∀ w ∈ st, vok L w := ⟨h v List.mem_cons_self, fun w hw => h w (List.mem_cons_of_mem _ hw)⟩
theorem cons_vok {L : Nat} {v : AV} {st : List AV} (h : vok L v) (h2 : ∀ w ∈ st, vok L w) : ∀ w ∈ v :: st, vok L w := fun w hw => (List.mem_cons.mp hw).elim (fun e => e ▸ h) (h2 w)
theorem set_vok {L i : Nat} {v : AV} {ls : List AV} (h : vok L v) (h2 : ∀ w ∈ ls, vok L w) : ∀ w ∈ ls.set i v, vok L w := fun w hw => by
  rcases List.mem_or_eq_of_mem_set hw with hh | hh
  · exact h2 w hh
  · exact hh ▸ h
section STP
variable {p : Program} {l : Launch} {e : Env} {R : Room} {s : State} {m : MethodId} {args : Array Value} {below : List Frame} {meth : Method} {c : Code} {K : Kx} {J : Jx} {q : Mrec} {r : Nat} {Q : State → Prop} {pc pc' pc1 : Nat} {ls st ls' st' : List AV} {mem mem' : Mem}
theorem g_ld {i : Nat} (row : ∀ {H : Heap} {locs : List Loc} {cells slots : Nat} {LS : Array Slot} {rest : List Value} {x : Int32}, LS[i]? = some (.val (.int x)) → W p l e R s m args below meth c H locs cells slots Q (F0 m pc1 LS (.int x :: rest)) → W p l e R s m args below meth c H locs cells slots Q (F0 m pc LS rest))
    (h : o_ld i pc1 ls st mem = some (.inl (pc', ls', st', mem'))) (k : GO p l e R s m args below meth c K J q Q pc' ls' st' mem') : GO p l e R s m args below meth c K J q Q pc ls st mem := by
  unfold o_ld at h
  split at h
  · rename_i x hx
    obtain ⟨rfl, rfl, rfl, rfl⟩ := go_inj h
    intro ad H LS locs cells slots d
    exact row (d.loc hx (by intro q; cases q)) (k _ _ _ _ _ _ (d.stk (cons_vok (d.lv hx) d.2.2.2.1)))
  · cases h
theorem g_ll {i : Nat} (row : ∀ {H : Heap} {locs : List Loc} {cells slots : Nat} {LS : Array Slot} {rest : List Value} {x : Int64}, LS[i]? = some (.val (.long x)) → W p l e R s m args below meth c H locs cells slots Q (F0 m pc1 LS (.long x :: rest)) → W p l e R s m args below meth c H locs cells slots Q (F0 m pc LS rest))
    (h : o_ll i pc1 ls st mem = some (.inl (pc', ls', st', mem'))) (k : GO p l e R s m args below meth c K J q Q pc' ls' st' mem') : GO p l e R s m args below meth c K J q Q pc ls st mem := by
  unfold o_ll at h
  split at h
  · rename_i x hx
    obtain ⟨rfl, rfl, rfl, rfl⟩ := go_inj h
    intro ad H LS locs cells slots d
    exact row (d.loc hx (by intro q; cases q)) (k _ _ _ _ _ _ (d.stk (cons_vok (d.lv hx) d.2.2.2.1)))
  · cases h
theorem sp3 (hK : KSp K) : ∀ k, ∃ x, ksp K (k + 3) = .ref x
  | 0 => ⟨_, hK.2.1⟩
  | k + 1 => ⟨_, hK.2.2.1 k⟩
theorem g_al {i : Nat} (hK : KSp K) (row : ∀ {H : Heap} {locs : List Loc} {cells slots : Nat} {LS : Array Slot} {rest : List Value} {x : Nat}, LS[i]? = some (.val (.ref x)) → W p l e R s m args below meth c H locs cells slots Q (F0 m pc1 LS (.ref x :: rest)) → W p l e R s m args below meth c H locs cells slots Q (F0 m pc LS rest))
    (h : o_al i pc1 ls st mem = some (.inl (pc', ls', st', mem'))) (k : GO p l e R s m args below meth c K J q Q pc' ls' st' mem') : GO p l e R s m args below meth c K J q Q pc ls st mem := by
  unfold o_al at h
  split at h
  · rename_i x hx
    obtain ⟨rfl, rfl, rfl, rfl⟩ := go_inj h
    intro ad H LS locs cells slots d
    exact row (d.loc hx (by intro q; cases q)) (k _ _ _ _ _ _ (d.stk (cons_vok (d.lv hx) d.2.2.2.1)))
  · rename_i x hx
    obtain ⟨rfl, rfl, rfl, rfl⟩ := go_inj h
    intro ad H LS locs cells slots d
    obtain ⟨a, ha⟩ := sp3 hK x
    have h1 := d.loc hx (by intro q; simp at q)
    have h2 := k _ _ _ _ _ _ (d.stk (cons_vok (d.lv hx) d.2.2.2.1))
    have e1 : conc ad (ksp K) (vs (x + 3)) = .ref a := ha
    rw [e1] at h1
    rw [List.map_cons, e1] at h2
    exact row h1 h2
  · cases h
theorem g_is {i : Nat} (hK : KSp K) (row : ∀ {H : Heap} {locs : List Loc} {cells slots nL : Nat} {LS : Array Slot} {rest : List Value} {x : Int32} {lv : List (Nat × Value)}, lv_has LS nL lv → i < nL → (∀ LS' : Array Slot, lv_has LS' nL ((i, Value.int x) :: lv.filter (fun q => !(q.1 == i) && !(q.1 + 1 == i && q.2.category == 2))) → W p l e R s m args below meth c H locs cells slots Q (F0 m pc1 LS' rest)) → W p l e R s m args below meth c H locs cells slots Q (F0 m pc LS (.int x :: rest)))
    (h : o_is i pc1 ls st mem = some (.inl (pc', ls', st', mem'))) (k : GO p l e R s m args below meth c K J q Q pc' ls' st' mem') : GO p l e R s m args below meth c K J q Q pc ls st mem := by
  unfold o_is at h
  split at h
  · rename_i x rr
    split at h
    · rename_i hh
      obtain ⟨rfl, rfl, rfl, rfl⟩ := go_inj h
      intro ad H LS locs cells slots d
      obtain ⟨v1, v2⟩ := vok_cons d.2.2.2.1
      exact row d.1 (by rw [← d.2.1]; exact hh.1) fun LS' h' => k _ _ _ _ _ _ (d.set (lsl_set1 hK.1 hh.2 (Or.inr rfl) h') (List.length_set ..) (set_vok v1 d.2.2.1) v2)
    · cases h
  · cases h
theorem g_ls {i : Nat} (hK : KSp K) (row : ∀ {H : Heap} {locs : List Loc} {cells slots nL : Nat} {LS : Array Slot} {rest : List Value} {x : Int64} {lv : List (Nat × Value)}, lv_has LS nL lv → i + 1 < nL → (∀ LS' : Array Slot, lv_has LS' nL ((i, Value.long x) :: lv.filter (fun q => !(q.1 == i) && (!(q.1 == i + 1) && !(q.1 + 1 == i && q.2.category == 2)))) → W p l e R s m args below meth c H locs cells slots Q (F0 m pc1 LS' rest)) → W p l e R s m args below meth c H locs cells slots Q (F0 m pc LS (.long x :: rest)))
    (h : o_ls i pc1 ls st mem = some (.inl (pc', ls', st', mem'))) (k : GO p l e R s m args below meth c K J q Q pc' ls' st' mem') : GO p l e R s m args below meth c K J q Q pc ls st mem := by
  unfold o_ls at h
  split at h
  · rename_i x rr
    split at h
    · rename_i hh
      obtain ⟨rfl, rfl, rfl, rfl⟩ := go_inj h
      intro ad H LS locs cells slots d
      obtain ⟨v1, v2⟩ := vok_cons d.2.2.2.1
      exact row d.1 (by rw [← d.2.1]; exact hh.1) fun LS' h' => k _ _ _ _ _ _ (d.set (lsl_set2 hK.1 hh.2 rfl h') (by rw [List.length_set, List.length_set]) (set_vok (v := vs 2) trivial (set_vok v1 d.2.2.1)) v2)
    · cases h
  · cases h
theorem g_as {i : Nat} (hK : KSp K) (row : ∀ {H : Heap} {locs : List Loc} {cells slots nL : Nat} {LS : Array Slot} {rest : List Value} {x : Nat} {lv : List (Nat × Value)}, lv_has LS nL lv → i < nL → (∀ LS' : Array Slot, lv_has LS' nL ((i, Value.ref x) :: lv.filter (fun q => !(q.1 == i) && !(q.1 + 1 == i && q.2.category == 2))) → W p l e R s m args below meth c H locs cells slots Q (F0 m pc1 LS' rest)) → W p l e R s m args below meth c H locs cells slots Q (F0 m pc LS (.ref x :: rest)))
    (h : o_as i pc1 ls st mem = some (.inl (pc', ls', st', mem'))) (k : GO p l e R s m args below meth c K J q Q pc' ls' st' mem') : GO p l e R s m args below meth c K J q Q pc ls st mem := by
  unfold o_as at h
  split at h
  · rename_i x rr
    split at h
    · rename_i hh
      obtain ⟨rfl, rfl, rfl, rfl⟩ := go_inj h
      intro ad H LS locs cells slots d
      obtain ⟨v1, v2⟩ := vok_cons d.2.2.2.1
      exact row d.1 (by rw [← d.2.1]; exact hh.1) fun LS' h' => k _ _ _ _ _ _ (d.set (lsl_set1 hK.1 hh.2 (Or.inr rfl) h') (List.length_set ..) (set_vok v1 d.2.2.1) v2)
    · cases h
  · rename_i x rr
    split at h
    · rename_i hh
      obtain ⟨rfl, rfl, rfl, rfl⟩ := go_inj h
      intro ad H LS locs cells slots d
      obtain ⟨v1, v2⟩ := vok_cons d.2.2.2.1
      obtain ⟨a, ha⟩ := sp3 hK x
      have e1 : conc ad (ksp K) (vs (x + 3)) = .ref a := ha
      rw [List.map_cons, e1]
      exact row d.1 (by rw [← d.2.1]; exact hh.1) fun LS' h' => k _ _ _ _ _ _ (d.set (lsl_set1 hK.1 hh.2 (Or.inr e1) h') (List.length_set ..) (set_vok v1 d.2.2.1) v2)
    · cases h
  · cases h
theorem g_inc {i : Nat} {n : Int} (hK : KSp K) (row : ∀ {H : Heap} {locs : List Loc} {cells slots nL k : Nat} {LS : Array Slot} {rest : List Value} {x v : Int32} {lv : List (Nat × Value)}, lv_has LS nL lv → lv[k]? = some (i, .int x) → x + Int32.ofInt n = v → i < nL → (∀ LS' : Array Slot, lv_has LS' nL ((i, Value.int v) :: lv.filter (fun q => !(q.1 == i) && !(q.1 + 1 == i && q.2.category == 2))) → W p l e R s m args below meth c H locs cells slots Q (F0 m pc1 LS' rest)) → W p l e R s m args below meth c H locs cells slots Q (F0 m pc LS rest))
    (h : o_inc i n pc1 ls st mem = some (.inl (pc', ls', st', mem'))) (k : GO p l e R s m args below meth c K J q Q pc' ls' st' mem') : GO p l e R s m args below meth c K J q Q pc ls st mem := by
  unfold o_inc at h
  split at h
  · rename_i x hx
    split at h
    · rename_i hh
      obtain ⟨rfl, rfl, rfl, rfl⟩ := go_inj h
      intro ad H LS locs cells slots d
      have hm : (i, Value.int (i32 x)) ∈ lsl ad (ksp K) ls := mem_lsl.mpr ⟨vi x, hx, (by intro q; cases q), rfl⟩
      obtain ⟨k0, hk0⟩ := List.mem_iff_getElem?.mp hm
      refine row d.1 hk0 (i32_add x n) (by rw [← d.2.1]; exact (List.getElem?_eq_some_iff.mp hx).1) fun LS' h' => k _ _ _ _ _ _ (d.set (lsl_set1 hK.1 hh (Or.inr rfl) h') (List.length_set ..) (set_vok (v := vi _) (wr_in _) d.2.2.1) d.2.2.2.1)
    · cases h
  · cases h
theorem g_b {f : Int → Int → Int} {F : Int32 → Int32 → Int32} (row : ∀ {H : Heap} {locs : List Loc} {cells slots : Nat} {LS : Array Slot} {rest : List Value} {x y : Int32}, W p l e R s m args below meth c H locs cells slots Q (F0 m pc1 LS (.int (F x y) :: rest)) → W p l e R s m args below meth c H locs cells slots Q (F0 m pc LS (.int y :: .int x :: rest)))
    (hF : ∀ x y, inI x → inI y → F (i32 x) (i32 y) = i32 (f x y) ∧ inI (f x y)) (h : o_b f pc1 ls st mem = some (.inl (pc', ls', st', mem'))) (k : GO p l e R s m args below meth c K J q Q pc' ls' st' mem') : GO p l e R s m args below meth c K J q Q pc ls st mem := by
  unfold o_b at h
  split at h
  · rename_i y x rr
    obtain ⟨rfl, rfl, rfl, rfl⟩ := go_inj h
    intro ad H LS locs cells slots d
    obtain ⟨v1, v2⟩ := vok_cons d.2.2.2.1
    obtain ⟨v2, v3⟩ := vok_cons v2
    obtain ⟨f1, f2⟩ := hF x y v2 v1
    refine row ?_
    rw [f1]
    exact k _ _ _ _ _ _ (d.stk (cons_vok (v := vi _) f2 v3))
  · cases h
theorem g_d {f : Int → Int → Int} {F : Int32 → Int32 → Int32} (row : ∀ {H : Heap} {locs : List Loc} {cells slots : Nat} {LS : Array Slot} {rest : List Value} {x y : Int32}, ¬ y = 0 → W p l e R s m args below meth c H locs cells slots Q (F0 m pc1 LS (.int (F x y) :: rest)) → W p l e R s m args below meth c H locs cells slots Q (F0 m pc LS (.int y :: .int x :: rest)))
    (hF : ∀ x y, inI x → inI y → y ≠ 0 → F (i32 x) (i32 y) = i32 (f x y) ∧ inI (f x y)) (h : o_d f pc1 ls st mem = some (.inl (pc', ls', st', mem'))) (k : GO p l e R s m args below meth c K J q Q pc' ls' st' mem') : GO p l e R s m args below meth c K J q Q pc ls st mem := by
  unfold o_d at h
  split at h
  · rename_i y x rr
    split at h
    · cases h
    · rename_i hy
      obtain ⟨rfl, rfl, rfl, rfl⟩ := go_inj h
      intro ad H LS locs cells slots d
      obtain ⟨v1, v2⟩ := vok_cons d.2.2.2.1
      obtain ⟨v2, v3⟩ := vok_cons v2
      obtain ⟨f1, f2⟩ := hF x y v2 v1 hy
      refine row (fun q => hy ((i32_eq v1 (by unfold inI; omega)).mp q)) ?_
      rw [f1]
      exact k _ _ _ _ _ _ (d.stk (cons_vok (v := vi _) f2 v3))
  · cases h
theorem g_u {f : Int → Int} {F : Int32 → Int32} (row : ∀ {H : Heap} {locs : List Loc} {cells slots : Nat} {LS : Array Slot} {rest : List Value} {x : Int32}, W p l e R s m args below meth c H locs cells slots Q (F0 m pc1 LS (.int (F x) :: rest)) → W p l e R s m args below meth c H locs cells slots Q (F0 m pc LS (.int x :: rest)))
    (hF : ∀ x, inI x → F (i32 x) = i32 (f x) ∧ inI (f x)) (h : o_u f pc1 ls st mem = some (.inl (pc', ls', st', mem'))) (k : GO p l e R s m args below meth c K J q Q pc' ls' st' mem') : GO p l e R s m args below meth c K J q Q pc ls st mem := by
  unfold o_u at h
  split at h
  · rename_i x rr
    obtain ⟨rfl, rfl, rfl, rfl⟩ := go_inj h
    intro ad H LS locs cells slots d
    obtain ⟨v1, v2⟩ := vok_cons d.2.2.2.1
    obtain ⟨f1, f2⟩ := hF x v1
    refine row ?_
    rw [f1]
    exact k _ _ _ _ _ _ (d.stk (cons_vok (v := vi _) f2 v2))
  · cases h
theorem g_bl {f : Int → Int → Int} {F : Int64 → Int64 → Int64} (row : ∀ {H : Heap} {locs : List Loc} {cells slots : Nat} {LS : Array Slot} {rest : List Value} {x y : Int64}, W p l e R s m args below meth c H locs cells slots Q (F0 m pc1 LS (.long (F x y) :: rest)) → W p l e R s m args below meth c H locs cells slots Q (F0 m pc LS (.long y :: .long x :: rest)))
    (hF : ∀ x y, inL x → inL y → F (i64 x) (i64 y) = i64 (f x y) ∧ inL (f x y)) (h : o_bl f pc1 ls st mem = some (.inl (pc', ls', st', mem'))) (k : GO p l e R s m args below meth c K J q Q pc' ls' st' mem') : GO p l e R s m args below meth c K J q Q pc ls st mem := by
  unfold o_bl at h
  split at h
  · rename_i y x rr
    obtain ⟨rfl, rfl, rfl, rfl⟩ := go_inj h
    intro ad H LS locs cells slots d
    obtain ⟨v1, v2⟩ := vok_cons d.2.2.2.1
    obtain ⟨v2, v3⟩ := vok_cons v2
    obtain ⟨f1, f2⟩ := hF x y v2 v1
    refine row ?_
    rw [f1]
    exact k _ _ _ _ _ _ (d.stk (cons_vok (v := vl _) f2 v3))
  · cases h
theorem g_dl {f : Int → Int → Int} {F : Int64 → Int64 → Int64} (row : ∀ {H : Heap} {locs : List Loc} {cells slots : Nat} {LS : Array Slot} {rest : List Value} {x y : Int64}, ¬ y = 0 → W p l e R s m args below meth c H locs cells slots Q (F0 m pc1 LS (.long (F x y) :: rest)) → W p l e R s m args below meth c H locs cells slots Q (F0 m pc LS (.long y :: .long x :: rest)))
    (hF : ∀ x y, inL x → inL y → F (i64 x) (i64 y) = i64 (f x y) ∧ inL (f x y)) (h : o_dl f pc1 ls st mem = some (.inl (pc', ls', st', mem'))) (k : GO p l e R s m args below meth c K J q Q pc' ls' st' mem') : GO p l e R s m args below meth c K J q Q pc ls st mem := by
  unfold o_dl at h
  split at h
  · rename_i y x rr
    split at h
    · cases h
    · rename_i hy
      obtain ⟨rfl, rfl, rfl, rfl⟩ := go_inj h
      intro ad H LS locs cells slots d
      obtain ⟨v1, v2⟩ := vok_cons d.2.2.2.1
      obtain ⟨v2, v3⟩ := vok_cons v2
      obtain ⟨f1, f2⟩ := hF x y v2 v1
      refine row (fun q => hy ((i64_eq v1 (by unfold inL; omega)).mp q)) ?_
      rw [f1]
      exact k _ _ _ _ _ _ (d.stk (cons_vok (v := vl _) f2 v3))
  · cases h
theorem g_sl {f : Int → Int → Int} {F : Int64 → Int32 → Int64} (row : ∀ {H : Heap} {locs : List Loc} {cells slots : Nat} {LS : Array Slot} {rest : List Value} {x : Int64} {y : Int32}, W p l e R s m args below meth c H locs cells slots Q (F0 m pc1 LS (.long (F x y) :: rest)) → W p l e R s m args below meth c H locs cells slots Q (F0 m pc LS (.int y :: .long x :: rest)))
    (hF : ∀ x y, F (i64 x) (i32 y) = i64 (f x y) ∧ inL (f x y)) (h : o_sl f pc1 ls st mem = some (.inl (pc', ls', st', mem'))) (k : GO p l e R s m args below meth c K J q Q pc' ls' st' mem') : GO p l e R s m args below meth c K J q Q pc ls st mem := by
  unfold o_sl at h
  split at h
  · rename_i y x rr
    obtain ⟨rfl, rfl, rfl, rfl⟩ := go_inj h
    intro ad H LS locs cells slots d
    obtain ⟨v1, v2⟩ := vok_cons d.2.2.2.1
    obtain ⟨v2, v3⟩ := vok_cons v2
    obtain ⟨f1, f2⟩ := hF x y
    refine row ?_
    rw [f1]
    exact k _ _ _ _ _ _ (d.stk (cons_vok (v := vl _) f2 v3))
  · cases h
theorem jmp_inj {b : Bool} {off : Int} {n : Nat} (h : jmp b pc off n ls st mem = some (.inl (pc', ls', st', mem'))) : (0 ≤ (pc : Int) + off) ∧ (pc' = if b then ((pc : Int) + off).toNat else pc + n) ∧ ls' = ls ∧ st' = st ∧ mem' = mem := by
  unfold jmp at h
  split at h
  · rename_i h0
    obtain ⟨rfl, rfl, rfl, rfl⟩ := go_inj h
    exact ⟨h0, rfl, rfl, rfl, rfl⟩
  · cases h
theorem g_if {f : Int → Bool} {off : Int} (row : ∀ {H : Heap} {locs : List Loc} {cells slots : Nat} {LS : Array Slot} {rest : List Value} {x : Int} {tgt : Nat}, inI x → (pc : Int) + off = tgt → (f x = true → W p l e R s m args below meth c H locs cells slots Q (F0 m tgt LS rest)) → (f x = false → W p l e R s m args below meth c H locs cells slots Q (F0 m (pc + 3) LS rest)) → W p l e R s m args below meth c H locs cells slots Q (F0 m pc LS (.int (i32 x) :: rest)))
    (h : o_if f pc off ls st mem = some (.inl (pc', ls', st', mem'))) (k : GO p l e R s m args below meth c K J q Q pc' ls' st' mem') : GO p l e R s m args below meth c K J q Q pc ls st mem := by
  unfold o_if at h
  split at h
  · rename_i x rr
    obtain ⟨h0, rfl, rfl, rfl, rfl⟩ := jmp_inj h
    intro ad H LS locs cells slots d
    obtain ⟨v1, v2⟩ := vok_cons d.2.2.2.1
    refine row (tgt := ((pc : Int) + off).toNat) v1 (by omega) (fun hb => ?_) (fun hb => ?_)
    · rw [hb] at k; exact k _ _ _ _ _ _ (d.stk v2)
    · rw [hb] at k; exact k _ _ _ _ _ _ (d.stk v2)
  · cases h
theorem g_ic {f : Int → Int → Bool} {off : Int} (row : ∀ {H : Heap} {locs : List Loc} {cells slots : Nat} {LS : Array Slot} {rest : List Value} {x y : Int} {tgt : Nat}, inI x → inI y → (pc : Int) + off = tgt → (f x y = true → W p l e R s m args below meth c H locs cells slots Q (F0 m tgt LS rest)) → (f x y = false → W p l e R s m args below meth c H locs cells slots Q (F0 m (pc + 3) LS rest)) → W p l e R s m args below meth c H locs cells slots Q (F0 m pc LS (.int (i32 y) :: .int (i32 x) :: rest)))
    (h : o_ic f pc off ls st mem = some (.inl (pc', ls', st', mem'))) (k : GO p l e R s m args below meth c K J q Q pc' ls' st' mem') : GO p l e R s m args below meth c K J q Q pc ls st mem := by
  unfold o_ic at h
  split at h
  · rename_i y x rr
    obtain ⟨h0, rfl, rfl, rfl, rfl⟩ := jmp_inj h
    intro ad H LS locs cells slots d
    obtain ⟨v1, v2⟩ := vok_cons d.2.2.2.1
    obtain ⟨v2, v3⟩ := vok_cons v2
    refine row (tgt := ((pc : Int) + off).toNat) v2 v1 (by omega) (fun hb => ?_) (fun hb => ?_)
    · rw [hb] at k; exact k _ _ _ _ _ _ (d.stk v3)
    · rw [hb] at k; exact k _ _ _ _ _ _ (d.stk v3)
  · cases h
theorem g_goto {off : Int} (row : ∀ {H : Heap} {locs : List Loc} {cells slots : Nat} {LS : Array Slot} {rest : List Value} {tgt : Nat}, (pc : Int) + off = tgt → W p l e R s m args below meth c H locs cells slots Q (F0 m tgt LS rest) → W p l e R s m args below meth c H locs cells slots Q (F0 m pc LS rest))
    (h : jmp true pc off 3 ls st mem = some (.inl (pc', ls', st', mem'))) (k : GO p l e R s m args below meth c K J q Q pc' ls' st' mem') : GO p l e R s m args below meth c K J q Q pc ls st mem := by
  obtain ⟨h0, rfl, rfl, rfl, rfl⟩ := jmp_inj h
  intro ad H LS locs cells slots d
  exact row (tgt := ((pc : Int) + off).toNat) (by omega) (k _ _ _ _ _ _ d)
theorem g_sw {dd lo hi : Int} {offs : Array Int} (row1 : ∀ {H : Heap} {locs : List Loc} {cells slots : Nat} {LS : Array Slot} {rest : List Value} {x : Int32} {tgt : Nat}, (x.toInt < lo ∨ hi < x.toInt) → (pc : Int) + dd = tgt → W p l e R s m args below meth c H locs cells slots Q (F0 m tgt LS rest) → W p l e R s m args below meth c H locs cells slots Q (F0 m pc LS (.int x :: rest)))
    (row2 : ∀ {H : Heap} {locs : List Loc} {cells slots : Nat} {LS : Array Slot} {rest : List Value} {x : Int32} {off : Int} {tgt : Nat}, ¬ x.toInt < lo → ¬ hi < x.toInt → offs[(x.toInt - lo).toNat]? = some off → (pc : Int) + off = tgt → W p l e R s m args below meth c H locs cells slots Q (F0 m tgt LS rest) → W p l e R s m args below meth c H locs cells slots Q (F0 m pc LS (.int x :: rest)))
    (h : o_sw dd lo hi offs pc ls st mem = some (.inl (pc', ls', st', mem'))) (k : GO p l e R s m args below meth c K J q Q pc' ls' st' mem') : GO p l e R s m args below meth c K J q Q pc ls st mem := by
  unfold o_sw at h
  split at h
  · rename_i x rr
    split at h
    · rename_i hx
      obtain ⟨h0, rfl, rfl, rfl, rfl⟩ := jmp_inj h
      intro ad H LS locs cells slots d
      obtain ⟨v1, v2⟩ := vok_cons d.2.2.2.1
      exact row1 (tgt := ((pc : Int) + dd).toNat) (by rw [i32_toInt v1]; exact hx) (by omega) (k _ _ _ _ _ _ (d.stk v2))
    · rename_i hx
      split at h
      · rename_i off ho
        obtain ⟨h0, rfl, rfl, rfl, rfl⟩ := jmp_inj h
        intro ad H LS locs cells slots d
        obtain ⟨v1, v2⟩ := vok_cons d.2.2.2.1
        exact row2 (tgt := ((pc : Int) + off).toNat) (off := off) (by rw [i32_toInt v1]; omega) (by rw [i32_toInt v1]; omega) (by rw [i32_toInt v1]; exact ho) (by omega) (k _ _ _ _ _ _ (d.stk v2))
      · cases h
  · cases h
/-- one value pushed -/
theorem g_push {v : AV} (row : ∀ {H : Heap} {locs : List Loc} {cells slots : Nat} {LS : Array Slot} {rest : List Value} {ad : Nat → Nat}, va_S (kA K) s.heap H locs → W p l e R s m args below meth c H locs cells slots Q (F0 m pc1 LS (conc ad (ksp K) v :: rest)) → W p l e R s m args below meth c H locs cells slots Q (F0 m pc LS rest))
    (hv : ∀ L, vok L v) (h : go pc1 ls (v :: st) mem = some (.inl (pc', ls', st', mem'))) (k : GO p l e R s m args below meth c K J q Q pc' ls' st' mem') : GO p l e R s m args below meth c K J q Q pc ls st mem := by
  obtain ⟨rfl, rfl, rfl, rfl⟩ := go_inj h
  intro ad H LS locs cells slots d
  exact row d.2.2.2.2.2.2.1 (k _ _ _ _ _ _ (d.stk (cons_vok (hv _) d.2.2.2.1)))
end STP
