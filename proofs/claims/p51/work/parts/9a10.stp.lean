/-! one instruction that goes on -/
/-- the callee's words, by their places -/
def okM (q : Mrec) : Bool := plainName q.1.cls && decide (q.1.cls ≠ "java/lang/invoke/MethodHandle") && decide (q.1.cls ≠ "java/lang/invoke/VarHandle") && decide (q.2.2.1 ≤ 60) &&
  (match q with
  | (y, cc, ml, ret, hh, kind, _, ic, ii, im, _) => decide (lw_tbl[ii]? = some (.initialized y.cls)) && decide (hh = []) &&
    (if kind = 0 then decide (lw_tbl[ic]? = some (.code y cc ml ret)) && decide (lw_tbl[im]? = some (.instanceMethod y))
     else decide (kind = 1) && decide (lw_tbl[ic]? = some (.code y cc ml ret)) && decide (lw_tbl[im]? = some (.static y))))
def np (y : MethodName) : Nat := match parseMethodDescriptor y.desc with
  | some d => d.parameters.length
  | none => 99
/-- the method that a StringBuilder's call names where another one of it is done -/
def lnkOf (a : Nat) : Nat := if a = 200 then 175 else a
/-- places of the words on inherited methods -/
def smT : List (Nat × Nat) := [(184, 858), (183, 978), (175, 983), (179, 1413), (180, 1414), (176, 1415), (177, 1416), (186, 1417), (185, 1418), (178, 1419), (181, 1420), (182, 1421)]
def sbN : String := "java/lang/StringBuilder"
def abN : String := "java/lang/AbstractStringBuilder"
/-- a call's link: the caller's class, the pool's entry, the callee, how many arguments, how it is called -/
noncomputable def okIv (q : Mrec) (idx a b c d : Nat) : Bool := match mtb[a]? with
  | none => false
  | some y =>
    if c = 9 then (match mtb[lnkOf a]? with
      | none => false
      | some x => decide (lw_tbl[d]? = some (.methodLink q.1.cls idx x.1)) && decide (b = np x.1 + 1) && decide (y.2.2.2.2.2.1 = 0) && decide (x.2.2.2.2.2.1 = 0) && decide (x.1.cls = abN) && decide (mtc a = 13) && decide (np x.1 = np y.1) &&
        decide (lw_tbl[(smT.lookup (lnkOf a)).getD 0]? = some (.sameMethod abN abN x.1.name x.1.desc)) &&
        (decide (lw_tbl[y.2.2.2.2.2.2.2.2.2.2]? = some (.selects sbN x.1 y.1)) || (decide (x.1 = y.1) && decide (y.1 ∈ privY))))
    else if c = 10 then decide (lw_tbl[d]? = some (.methodLink q.1.cls idx y.1)) && decide (b = np y.1 + 1) && decide (y.2.2.2.2.2.1 = 0) && decide (y.1.name ≠ "<init>") && decide (y.1.cls = abN) && decide (q.1.cls = sbN) && decide (mtc a = 13) &&
        decide (lw_tbl[(smT.lookup a).getD 0]? = some (.sameMethod abN abN y.1.name y.1.desc))
    else
    (if c = 3 then decide (lw_tbl[d]? = some (.methodLinkNest q.1.cls idx y.1 "DropSwitch")) else if c = 12 then decide (lw_tbl[d]? = some (.methodLinkNest q.1.cls idx y.1 "DropSwitchLaw")) else decide (lw_tbl[d]? = some (.methodLink q.1.cls idx y.1))) &&
    (if c = 0 then decide (b = np y.1 + 1) && decide (y.2.2.2.2.2.1 = 0) && decide (y.1.name ≠ "<init>") && decide (lw_tbl[y.2.2.2.2.2.2.2.2.2.2]? = some (.selects y.1.cls y.1 y.1)) && decide (y.1.cls = (match vwCl[mtc a]? with
        | some w => w.1
        | none => ""))
     else if c = 1 ∨ c = 12 then decide (b = np y.1) && decide (y.2.2.2.2.2.1 = 1)
     else decide (b = np y.1 + 1) && decide (y.2.2.2.2.2.1 = 0) && decide (y.1.name = "<init>") && decide (y.2.2.2.1 = none))
theorem sup_w : lw_tbl[810]? = some (.superclass sbN abN) := by decide +kernel
def atyOf (a : Nat) : ArrayType → Bool
  | .int => decide (a = 1)
  | .long => decide (a = 2)
  | .byte => decide (a = 3)
  | .boolean => decide (a = 4)
  | _ => false
def icOf (a : Nat) : Nat := if a = 0 then 344 else if a = 1 then 111 else if a = 2 then 347 else 149
def okTh (q : Mrec) (pc idx a d : Nat) : Bool := decide (a < 4) && decide (q.1.cls = "DropSwitch") && decide (lw_tbl[d]? = some (.classLink q.1.cls idx (exn a))) && decide (q.2.2.2.2.1 = []) &&
  decide (decode q.2.1 (pc + 3) = .ok (.dup, 1)) && decide (decode q.2.1 (pc + 4) = .ok (.invokespecial (icOf a), 3)) && decide (decode q.2.1 (pc + 7) = .ok (.athrow, 1))
def okRet (c : Nat) (ret : Option FieldType) : Bool := if c = 0 then decide (ret = some .int) else if c = 1 then decide (ret = some .boolean) else if c = 2 then decide (ret = some .char) else decide (ret = some .byte)
def okAr (ret : Option FieldType) : Bool := match ret with
  | some (.object _) => true
  | some (.array _) => true
  | _ => false
noncomputable def okX (q : Mrec) (pc : Nat) (e : Ent) : Bool := match e with
  | (.iconst _, k, _) => decide (k = 1)
  | (.bipush _, k, _) => decide (k = 2)
  | (.sipush _, k, _) => decide (k = 3)
  | (.lconst _, k, _) => decide (k = 1)
  | (.iload_n _, k, _) => decide (k = 1)
  | (.iload _, k, _) => decide (k = 2)
  | (.lload_n _, k, _) => decide (k = 1)
  | (.aload_n _, k, _) => decide (k = 1)
  | (.aload _, k, _) => decide (k = 2)
  | (.istore_n _, k, _) => decide (k = 1)
  | (.istore _, k, _) => decide (k = 2)
  | (.lstore_n _, k, _) => decide (k = 1)
  | (.astore_n _, k, _) => decide (k = 1)
  | (.astore _, k, _) => decide (k = 2)
  | (.iinc _ _, k, _) => decide (k = 3)
  | (.ifCond _ _, k, _) => decide (k = 3)
  | (.if_icmp _ _, k, _) => decide (k = 3)
  | (.goto _, k, _) => decide (k = 3)
  | (.tableswitch _ _ _ _, _) => true
  | (.getfield idx, k, a, b, c, d) => decide (k = 3) && okGf q idx a b c d
  | (.putfield idx, k, a, b, c, d) => decide (k = 3) && okPf q idx a b c d
  | (.getstatic idx, k, _, _, c, d) => decide (k = 3) && okGs q idx c d
  | (.newarray ty, k, a, _) => decide (k = 2) && atyOf a ty
  | (.anewarray idx, k, _, _, _, d) => decide (k = 3) && decide (lw_tbl[d]? = some (.classLink q.1.cls idx "DropSwitch$State"))
  | (.new idx, k, a, b, c, d) => decide (k = 3) && (if c = 0 then clsW q idx a d && decide (b = nfk a) else okTh q pc idx a d)
  | (.ldc idx, k, a, _, c, d) => decide (k = 2) && okLd q idx a c d
  | (.ldc_w idx, k, a, _, c, d) => decide (k = 3) && okLd q idx a c d
  | (.checkcast idx, k, _, _, _, d) => decide (k = 3) && decide (lw_tbl[d]? = some (.classLink q.1.cls idx "[B"))
  | (.multianewarray idx dims, k, _, _, _, d) => decide (k = 4) && decide (dims = 2) && decide (lw_tbl[d]? = some (.classLink q.1.cls idx "[[I"))
  | (.ifnonnull _, k, _) => decide (k = 3)
  | (.ldc2_w idx, k, a, _, _, d) => decide (k = 3) && decide (lw_tbl[d]? = some (.constantLong q.1.cls idx (i64 a)))
  | (.invokevirtual idx, k, a, b, c, d) => decide (k = 3) && (if c = 0 ∨ c = 9 then okIv q idx a b c d else if c = 8 then decide (lw_tbl[d]? = some (.methodLink q.1.cls idx ⟨"[B", "clone", "()Ljava/lang/Object;"⟩)) else true)
  | (.invokestatic idx, k, a, b, c, d) => decide (k = 3) && (if c = 5 then decide (lw_tbl[d]? = some (.methodLink q.1.cls idx Lib.Math.min.name)) else if c = 11 then decide (lw_tbl[d]? = some (.methodLink q.1.cls idx Lib.Math.max.name)) else if c = 6 then decide (lw_tbl[d]? = some (.methodLink q.1.cls idx arraycopyName)) else if c = 1 ∨ c = 12 then okIv q idx a b c d else true)
  | (.invokespecial idx, k, a, b, c, d) => decide (k = 3) && (if c = 4 then decide (lw_tbl[d]? = some (.methodLink q.1.cls idx Lib.objectInit)) else if c = 2 ∨ c = 3 ∨ c = 10 then okIv q idx a b c d else true)
  | (.ireturn, k, _, _, c, _) => decide (k = 1) && okRet c q.2.2.2.1
  | (.areturn, k, _) => decide (k = 1) && okAr q.2.2.2.1
  | (.lreturn, k, _) => decide (k = 1) && decide (q.2.2.2.1 = some .long)
  | (.return_, k, _) => decide (k = 1) && decide (q.2.2.2.1 = none)
  | (_, k, _) => decide (k = 1)
noncomputable def okE (q : Mrec) (pc : Nat) (e : Ent) : Bool := decide (decode q.2.1 pc = .ok (e.1, e.2.1)) && okX q pc e
theorem aty_ok {a : Nat} {ty : ArrayType} (h : atyOf a ty = true) : 1 ≤ a ∧ a ≤ 4 ∧ newarray.typeOf ty = aty a := by
  cases ty <;> simp only [atyOf, decide_eq_true_eq, Bool.false_eq_true] at h <;> subst h <;> exact ⟨by decide, by decide, rfl⟩
theorem i32_neg (x : Int) : -(i32 x) = i32 (wr (-x)) := by rw [i32_wr]; exact (Int32.ofInt_neg x).symm
section STEPS
variable {p : Program} {l : Launch} {e : Env} {R : Room} {s : State} {m : MethodId} {args : Array Value} {below : List Frame} {meth : Method} {c : Code} {K : Kx} {J : Jx} {q : Mrec} {r : Nat} {Q : State → Prop} {pc pc' : Nat} {ls st ls' st' : List AV} {mem mem' : Mem}
theorem cls1_lg : ∀ {v : AV}, cls1 v = true → lgS v = false
  | .inl _, _ => rfl
  | .inr (.inl _), h => by cases h
  | .inr (.inr _), _ => rfl
theorem cls1_cat (C : CX p l R s m args meth c K q r) (ad : Nat → Nat) {v : AV} (hv : cls1 v = true) : (conc ad (ksp K) v).category = 1 := by
  rw [cat_conc C.kS.1, cls1_lg hv]; rfl
theorem g_dup (C : CX p l R s m args meth c K q r) (hd : decode q.2.1 pc = .ok (.dup, 1))
    (h : o_dup (pc + 1) ls st mem = some (.inl (pc', ls', st', mem'))) (k : GO p l e R s m args below meth c K J q Q pc' ls' st' mem') : GO p l e R s m args below meth c K J q Q pc ls st mem := by
  unfold o_dup at h
  split at h
  · rename_i v rr
    split at h
    · rename_i hv
      obtain ⟨rfl, rfl, rfl, rfl⟩ := go_inj h
      intro ad H LS locs cells slots d0
      obtain ⟨v1, v2⟩ := vok_cons d0.2.2.2.1
      have hc := cls1_cat C ad hv
      exact lv_dup C.1 C.2.1 hd hc (k _ _ _ _ _ _ (d0.stk (cons_vok v1 (cons_vok v1 v2))))
    · cases h
  · cases h
theorem g_dup2 (C : CX p l R s m args meth c K q r) (hd : decode q.2.1 pc = .ok (.dup2, 1))
    (h : o_dup2 (pc + 1) ls st mem = some (.inl (pc', ls', st', mem'))) (k : GO p l e R s m args below meth c K J q Q pc' ls' st' mem') : GO p l e R s m args below meth c K J q Q pc ls st mem := by
  unfold o_dup2 at h
  split at h
  · rename_i v w rr
    split at h
    · rename_i hv
      rw [Bool.and_eq_true] at hv
      obtain ⟨rfl, rfl, rfl, rfl⟩ := go_inj h
      intro ad H LS locs cells slots d0
      obtain ⟨v1, v2⟩ := vok_cons d0.2.2.2.1
      obtain ⟨v2, v3⟩ := vok_cons v2
      exact lv_dup2_11 C.1 C.2.1 hd (cls1_cat C ad hv.1) (cls1_cat C ad hv.2) (k _ _ _ _ _ _ (d0.stk (cons_vok v1 (cons_vok v2 (cons_vok v1 (cons_vok v2 v3))))))
    · cases h
  · cases h
theorem g_pop (C : CX p l R s m args meth c K q r) (hd : decode q.2.1 pc = .ok (.pop, 1))
    (h : o_pop (pc + 1) ls st mem = some (.inl (pc', ls', st', mem'))) (k : GO p l e R s m args below meth c K J q Q pc' ls' st' mem') : GO p l e R s m args below meth c K J q Q pc ls st mem := by
  unfold o_pop at h
  split at h
  · rename_i v rr
    split at h
    · rename_i hv
      obtain ⟨rfl, rfl, rfl, rfl⟩ := go_inj h
      intro ad H LS locs cells slots d0
      obtain ⟨v1, v2⟩ := vok_cons d0.2.2.2.1
      exact lv_pop C.1 C.2.1 hd (cls1_cat C ad hv) (k _ _ _ _ _ _ (d0.stk v2))
    · cases h
  · cases h
theorem g_lc (C : CX p l R s m args meth c K q r) (hd : decode q.2.1 pc = .ok (.lcmp, 1))
    (h : o_lc (pc + 1) ls st mem = some (.inl (pc', ls', st', mem'))) (k : GO p l e R s m args below meth c K J q Q pc' ls' st' mem') : GO p l e R s m args below meth c K J q Q pc ls st mem := by
  unfold o_lc at h
  split at h
  · rename_i y x rr
    obtain ⟨rfl, rfl, rfl, rfl⟩ := go_inj h
    intro ad H LS locs cells slots d0
    obtain ⟨v1, v2⟩ := vok_cons d0.2.2.2.1
    obtain ⟨v2, v3⟩ := vok_cons v2
    refine W.lcmp C.1 C.2.1 hd ?_
    have hin : inI (cmpL x y) := by
      unfold cmpL inI
      split
      · omega
      · split <;> omega
    have := k _ _ _ _ _ _ (d0.stk (cons_vok (v := vi (cmpL x y)) hin v3))
    have e1 : conc ad (ksp K) (vi (cmpL x y)) = .int (lg_cmp (i64 x) (i64 y)) := by rw [i64_cmp v2 v1]; rfl
    rw [List.map_cons, e1] at this
    exact this
  · cases h
theorem g_i2l (C : CX p l R s m args meth c K q r) (hd : decode q.2.1 pc = .ok (.i2l, 1))
    (h : o_i2l (pc + 1) ls st mem = some (.inl (pc', ls', st', mem'))) (k : GO p l e R s m args below meth c K J q Q pc' ls' st' mem') : GO p l e R s m args below meth c K J q Q pc ls st mem := by
  unfold o_i2l at h
  split at h
  · rename_i x rr
    obtain ⟨rfl, rfl, rfl, rfl⟩ := go_inj h
    intro ad H LS locs cells slots d0
    obtain ⟨v1, v2⟩ := vok_cons d0.2.2.2.1
    exact lv_i2l C.1 C.2.1 hd (i32_i64 v1) (k _ _ _ _ _ _ (d0.stk (cons_vok (v := vl x) (by have h9 : inI x := v1; unfold inI at h9; show inL x; unfold inL; omega) v2)))
  · cases h
theorem g_l2i (C : CX p l R s m args meth c K q r) (hd : decode q.2.1 pc = .ok (.l2i, 1))
    (h : o_l2i (pc + 1) ls st mem = some (.inl (pc', ls', st', mem'))) (k : GO p l e R s m args below meth c K J q Q pc' ls' st' mem') : GO p l e R s m args below meth c K J q Q pc ls st mem := by
  unfold o_l2i at h
  split at h
  · rename_i x rr
    obtain ⟨rfl, rfl, rfl, rfl⟩ := go_inj h
    intro ad H LS locs cells slots d0
    obtain ⟨v1, v2⟩ := vok_cons d0.2.2.2.1
    exact lv_l2i C.1 C.2.1 hd (i64_i32 v1) (k _ _ _ _ _ _ (d0.stk (cons_vok (v := vi _) (wr_in x) v2)))
  · cases h
theorem tm_in {x y : Int} (hx : inI x) (hy : inI y) (h : y ≠ 0) : inI (x.tmod y) := by
  have h1 := Int.mul_tdiv_add_tmod x y
  have h2 : (x.tmod y).natAbs < y.natAbs := by
    rw [Int.natAbs_tmod]
    exact Nat.mod_lt _ (by omega)
  unfold inI at *
  omega
end STEPS
