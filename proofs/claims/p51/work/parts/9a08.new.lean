/-! the instructions that make an object, that copy rows, that ask the library, that take a constant -/
def insW : List Nat := [501, 370, 668, 608, 358, 558, 364, 566, 654, 150, 347, 1397, 968, 782]
def iniW : List Nat := [48, 47, 53, 51, 45, 49, 46, 50, 52, 44, 43, 42, 58, 57]
def clsW (q : Mrec) (idx a d : Nat) : Bool := match vwCl[a]? with
  | some w => decide (lw_tbl[d]? = some (.classLink q.1.cls idx w.1)) && decide (lw_tbl[insW.getD a 0]? = some (.instantiable w.1 w.2.2)) && decide (lw_tbl[iniW.getD a 0]? = some (.initialized w.1))
  | none => false
def acw : Nat → Nat
  | 1 => 429
  | 2 => 681
  | 3 => 345
  | _ => 666
def aty : Nat → FieldType
  | 1 => .int
  | 2 => .long
  | 3 => .byte
  | _ => .boolean
theorem acw_1 : lw_tbl[429]? = some (.arrayClass .int) := by decide +kernel
theorem acw_2 : lw_tbl[681]? = some (.arrayClass .long) := by decide +kernel
theorem acw_3 : lw_tbl[345]? = some (.arrayClass .byte) := by decide +kernel
theorem acw_4 : lw_tbl[666]? = some (.arrayClass .boolean) := by decide +kernel
theorem cpw_n : lw_tbl[704]? = some (.native arraycopyName) := by decide +kernel
theorem cpw_s : lw_tbl[703]? = some (.static arraycopyName) := by decide +kernel
theorem cpw_i : lw_tbl[55]? = some (.initialized "java/lang/System") := by decide +kernel
theorem mnw_s : lw_tbl[853]? = some (.static Lib.Math.min.name) := by decide +kernel
theorem mnw_i : lw_tbl[61]? = some (.initialized "java/lang/Math") := by decide +kernel
theorem mnw_c : lw_tbl[854]? = some (.code Lib.Math.min.name Lib.Math.min.code 2 (some .int)) := by decide +kernel
theorem oiw_m : lw_tbl[103]? = some (.instanceMethod Lib.objectInit) := by decide +kernel
theorem oiw_c : lw_tbl[104]? = some (.code Lib.objectInit ⟨#[0xb1]⟩ 1 none) := by decide +kernel
theorem mxw_s : lw_tbl[835]? = some (.static Lib.Math.max.name) := by decide +kernel
theorem mxw_c : lw_tbl[836]? = some (.code Lib.Math.max.name Lib.Math.max.code 2 (some .int)) := by decide +kernel
theorem clw_0 : lw_tbl[846]? = some (.sameMethod "[B" "java/lang/Object" "clone" "()Ljava/lang/Object;") := by decide +kernel
theorem clw_1 : lw_tbl[847]? = some (.native ⟨"java/lang/Object", "clone", "()Ljava/lang/Object;"⟩) := by decide +kernel
theorem clw_2 : lw_tbl[848]? = some (.instanceMethod ⟨"java/lang/Object", "clone", "()Ljava/lang/Object;"⟩) := by decide +kernel
theorem clw_3 : lw_tbl[849]? = some (.selects "[B" ⟨"[B", "clone", "()Ljava/lang/Object;"⟩ ⟨"java/lang/Object", "clone", "()Ljava/lang/Object;"⟩) := by decide +kernel
theorem clw_4 : lw_tbl[850]? = some (.castable "[B" "java/lang/Cloneable") := by decide +kernel
theorem aow : lw_tbl[556]? = some (.arrayOver (.object "DropSwitch$State")) := by decide +kernel
theorem mv_0 {args : Array Value} {s : State} {C T : String} (h : (Cond.castable C T).before args s = true) : va_Nw (.castable C T) s := va_Nw.of rfl h
section NEWI
variable {p : Program} {l : Launch} {e : Env} {R : Room} {s : State} {m : MethodId} {args : Array Value} {below : List Frame} {meth : Method} {c : Code} {K : Kx} {J : Jx} {q : Mrec} {r : Nat} {Q : State → Prop} {pc pc' : Nat} {ls st ls' st' : List AV} {mem mem' : Mem}
theorem DX.new {ad : Nat → Nat} {H H1 : Heap} {LS : Array Slot} {locs locs1 : List Loc} {cells slots k n z x : Nat} {en : va_E} {rr : List AV} (d : DX s K J q ad H LS locs mem ls st cells slots) (hr : ∀ v ∈ rr, vok mem.1.length v)
    (he : entw (kca K) (upA ad mem.1.length x) (mN mem k n z) mem.1.length = en) (hk : k ≤ 6) (hn : k = 0 → n < 14) (hn' : k ≠ 0 → n ≤ 8000000) (h1 : 1 ≤ mC mem) (h2 : z ≤ mS mem)
    (P : va_P (kD K) vwCl (wld (kca K) ad mem ++ [(x, en)]) H1) (D : va_D (kA K) (wld (kca K) ad mem ++ [(x, en)])) (S : va_S (kA K) s.heap H1 locs1) :
    DX s K J q (upA ad mem.1.length x) H1 LS locs1 (mN mem k n z) ls (vr mem.1.length :: rr) (cells + 1) (slots + z) ∧ (vr mem.1.length :: rr).map (conc (upA ad mem.1.length x) (ksp K)) = .ref x :: rr.map (conc ad (ksp K)) := by
  obtain ⟨d1, d2, d3, d4, d5, d6, d7, d8, d9, d10, d11, d12⟩ := d
  have hL : (mN mem k n z).1.length = mem.1.length + 1 := len_mN ..
  refine ⟨⟨?_, d2, ?_, ?_, ?_, ?_, S, WF_mN d8 hk hn hn', ?_, ?_, ?_, ?_⟩, ?_⟩
  · rw [lsl_ext (ad := ad) (fun i hi => upA_lt i hi) d3]; exact d1
  · rw [hL]; exact fun v hv => vok_mono (by omega) (d3 v hv)
  · rw [hL]; exact cons_vok (v := vr _) (Nat.lt_succ_self _) (fun v hv => vok_mono (by omega) (hr v hv))
  · rw [wld_new d8 he]; exact P
  · rw [wld_new d8 he]; exact D
  · intro i hi
    rw [upA_lt i (by omega)]; exact d9 i hi
  · rw [hL]; omega
  · show cells + 1 + (mC mem - 1) = _
    omega
  · show slots + z + (mS mem - z) = _
    omega
  · rw [List.map_cons]
    have e1 : conc (upA ad mem.1.length x) (ksp K) (vr mem.1.length) = .ref x := by
      show Value.ref (upA ad mem.1.length x mem.1.length) = _
      rw [upA_eq]
    rw [e1]
    congr 1
    exact List.map_congr_left (fun v hv => conc_ext (fun i hi => upA_lt i hi) (hr v hv))
theorem ra_eq {U : State} {a b : ClassId} {ty : FieldType} (h1 : va_RA U a ty) (h2 : va_RA U b ty) : a = b := by
  cases ty <;> first
    | (obtain ⟨k1, c1, -, -, -, x1⟩ := h1; obtain ⟨k2, c2, -, -, -, x2⟩ := h2; exact Option.some.inj (x1.symm.trans x2))
    | exact Option.some.inj (Eq.trans (Eq.symm h1) h2)
theorem ca_new {cA : ClassId} {ty : FieldType} {t : Nat} {D : va_G} {ca : Nat → ClassId} (h : va_K D vwCl (tysOf ca ++ [(cA, ty)]) s) {x : ClassId} (ht : (tysOf ca)[t]? = some (x, ty)) : cA = x := by
  have h1 := (h.2 6 (cA, ty) rfl).2
  have h2 := (h.2 t (x, ty) (by rw [List.getElem?_append_left (List.getElem?_eq_some_iff.mp ht).1]; exact ht)).2
  exact ra_eq h1 h2
theorem g_na {a : Nat} {atype : ArrayType} (C : CX p l R s m args meth c K q r) (hd : decode q.2.1 pc = .ok (.newarray atype, 2)) (hw : 1 ≤ a ∧ a ≤ 4 ∧ newarray.typeOf atype = aty a)
    (hJ : J.2.2.1 ≤ R.cells + J.2.2.2.2.1 ∧ J.2.2.2.1 ≤ R.slots + J.2.2.2.2.2) (hm : J.2.2.2.2.1 ≤ mC mem' ∧ J.2.2.2.2.2 ≤ mS mem')
    (h : o_na a 0 (pc + 2) ls st mem = some (.inl (pc', ls', st', mem'))) (k : GO p l e R s m args below meth c K J q Q pc' ls' st' mem') : GO p l e R s m args below meth c K J q Q pc ls st mem := by
  unfold o_na at h
  split at h
  · rename_i n rr
    split at h
    · rename_i hh
      obtain ⟨n0, n1, n2, n3⟩ := hh
      obtain ⟨rfl, rfl, rfl, rfl⟩ := go_inj h
      intro ad H LS locs cells slots d0
      obtain ⟨v1, v2⟩ := vok_cons d0.2.2.2.1
      have hc1 : J.2.2.2.2.1 ≤ mC mem - 1 := hm.1
      have hs1 : J.2.2.2.2.2 ≤ mS mem - n.toNat := hm.2
      have hd11 := d0.2.2.2.2.2.2.2.2.2.2.1
      have hd12 := d0.2.2.2.2.2.2.2.2.2.2.2
      have hcc : cells + 1 ≤ R.cells := by omega
      have hss : slots + n.toNat ≤ R.slots := by omega
      have hcl : (i32 n).toNatClampNeg = n.toNat := i32_clamp v1
      obtain ⟨ha1, ha4, hty⟩ := hw
      have hmT : ∀ k : Nat, mT (mN mem k n.toNat n.toNat) mem.1.length = some (k, n.toNat) := fun k => by rw [mT_mN, if_neg (by omega), if_pos rfl]
      have hz : ∀ k j : Nat, mI (mN mem k n.toNat n.toNat) mem.1.length j = 0 := fun k j => by rw [mI_mN, if_pos rfl]
      have hcase : a = 1 ∨ a = 2 ∨ a = 3 ∨ a = 4 := by omega
      rcases hcase with rfl | rfl | rfl | rfl
      · refine va_newa C.1 C.2.1 (C.w (w := .arrayClass (newarray.typeOf atype)) (by rw [hty]; exact acw_1) rfl) hty C.hK d0.2.2.2.2.1 d0.2.2.2.2.2.1 d0.2.2.2.2.2.2.1 C.kA (N' := n.toNat) (a0 := (n.toNat, .inl (fun _ => i32 0))) (fun cA => rfl) (i32_nn v1 n0) hcl (by show n.toNat * 4 ≤ _; omega) hcc hss hd ?_
        intro x cA H1 a1 a2 a3 a4
        cases ca_new a1 (ty_at _).1
        obtain ⟨b1, b2⟩ := d0.new (k := 1) (n := n.toNat) (z := n.toNat) v2 (by rw [e_int (hmT 1) (Or.inl rfl)]; simp only [hz]) (by omega) (by omega) (by omega) n1 n2 a2 a3 a4
        have := k _ _ _ _ _ _ b1
        rw [b2] at this
        exact this
      · refine va_newa C.1 C.2.1 (C.w (w := .arrayClass (newarray.typeOf atype)) (by rw [hty]; exact acw_2) rfl) hty C.hK d0.2.2.2.2.1 d0.2.2.2.2.2.1 d0.2.2.2.2.2.2.1 C.kA (N' := n.toNat) (a0 := (n.toNat, .inr (.inl (fun _ => i64 0)))) (fun cA => rfl) (i32_nn v1 n0) hcl (by show n.toNat * 8 ≤ _; omega) hcc hss hd ?_
        intro x cA H1 a1 a2 a3 a4
        cases ca_new a1 (ty_at _).2.1
        obtain ⟨b1, b2⟩ := d0.new (k := 2) (n := n.toNat) (z := n.toNat) v2 (by rw [e_lng (hmT 2)]; simp only [hz]) (by omega) (by omega) (by omega) n1 n2 a2 a3 a4
        have := k _ _ _ _ _ _ b1
        rw [b2] at this
        exact this
      · refine va_newa C.1 C.2.1 (C.w (w := .arrayClass (newarray.typeOf atype)) (by rw [hty]; exact acw_3) rfl) hty C.hK d0.2.2.2.2.1 d0.2.2.2.2.2.1 d0.2.2.2.2.2.2.1 C.kA (N' := n.toNat) (a0 := (n.toNat, .inl (fun _ => i32 0))) (fun cA => rfl) (i32_nn v1 n0) hcl (by show n.toNat * 1 ≤ _; omega) hcc hss hd ?_
        intro x cA H1 a1 a2 a3 a4
        cases ca_new a1 (ty_at _).2.2.1
        obtain ⟨b1, b2⟩ := d0.new (k := 3) (n := n.toNat) (z := n.toNat) v2 (by rw [e_int (hmT 3) (Or.inr (Or.inl rfl))]; simp only [hz]) (by omega) (by omega) (by omega) n1 n2 a2 a3 a4
        have := k _ _ _ _ _ _ b1
        rw [b2] at this
        exact this
      · refine va_newa C.1 C.2.1 (C.w (w := .arrayClass (newarray.typeOf atype)) (by rw [hty]; exact acw_4) rfl) hty C.hK d0.2.2.2.2.1 d0.2.2.2.2.2.1 d0.2.2.2.2.2.2.1 C.kA (N' := n.toNat) (a0 := (n.toNat, .inl (fun _ => i32 0))) (fun cA => rfl) (i32_nn v1 n0) hcl (by show n.toNat * 1 ≤ _; omega) hcc hss hd ?_
        intro x cA H1 a1 a2 a3 a4
        cases ca_new a1 (ty_at _).2.2.2.1
        obtain ⟨b1, b2⟩ := d0.new (k := 4) (n := n.toNat) (z := n.toNat) v2 (by rw [e_int (hmT 4) (Or.inr (Or.inr rfl))]; simp only [hz]) (by omega) (by omega) (by omega) n1 n2 a2 a3 a4
        have := k _ _ _ _ _ _ b1
        rw [b2] at this
        exact this
    · cases h
  · cases h
theorem g_nq {idx d : Nat} (C : CX p l R s m args meth c K q r) (hd : decode q.2.1 pc = .ok (.anewarray idx, 3)) (hw : lw_tbl[d]? = some (.classLink q.1.cls idx "DropSwitch$State"))
    (hJ : J.2.2.1 ≤ R.cells + J.2.2.2.2.1 ∧ J.2.2.2.1 ≤ R.slots + J.2.2.2.2.2) (hm : J.2.2.2.2.1 ≤ mC mem' ∧ J.2.2.2.2.2 ≤ mS mem')
    (h : o_na 5 0 (pc + 3) ls st mem = some (.inl (pc', ls', st', mem'))) (k : GO p l e R s m args below meth c K J q Q pc' ls' st' mem') : GO p l e R s m args below meth c K J q Q pc ls st mem := by
  unfold o_na at h
  split at h
  · rename_i n rr
    split at h
    · rename_i hh
      obtain ⟨n0, n1, n2, n3⟩ := hh
      obtain ⟨rfl, rfl, rfl, rfl⟩ := go_inj h
      intro ad H LS locs cells slots d0
      obtain ⟨v1, v2⟩ := vok_cons d0.2.2.2.1
      have hc1 : J.2.2.2.2.1 ≤ mC mem - 1 := hm.1
      have hs1 : J.2.2.2.2.2 ≤ mS mem - n.toNat := hm.2
      have hd11 := d0.2.2.2.2.2.2.2.2.2.2.1
      have hd12 := d0.2.2.2.2.2.2.2.2.2.2.2
      have hcl : (i32 n).toNatClampNeg = n.toNat := i32_clamp v1
      refine va_newq C.1 C.2.1 C.own (C.w hw rfl) C.old.2.2.2.2.2.2.1 C.hK d0.2.2.2.2.1 d0.2.2.2.2.2.1 d0.2.2.2.2.2.2.1 C.kA (N' := n.toNat) (i32_nn v1 n0) hcl (by omega) (by omega) (by omega) hd ?_
      intro x cA H1 a1 a2 a3 a4
      cases ca_new a1 (ty_at _).2.2.2.2
      have hmT : mT (mN mem 5 n.toNat n.toNat) mem.1.length = some (5, n.toNat) := by rw [mT_mN, if_neg (by omega), if_pos rfl]
      have hz : ∀ j : Nat, mR (mN mem 5 n.toNat n.toNat) mem.1.length j = 0 := fun j => by rw [mR_mN, if_pos rfl]
      obtain ⟨b1, b2⟩ := d0.new (k := 5) (n := n.toNat) (z := n.toNat) v2 (by rw [e_ref hmT]; simp only [hz]; rfl) (by omega) (by omega) (by omega) n1 n2 a2 a3 a4
      have := k _ _ _ _ _ _ b1
      rw [b2] at this
      exact this
    · cases h
  · cases h
theorem g_nw {idx a b cc d : Nat} (C : CX p l R s m args meth c K q r) (hd : decode q.2.1 pc = .ok (.new idx, 3)) (hw : clsW q idx a d = true) (hb : b = nfk a)
    (hJ : J.2.2.1 ≤ R.cells + J.2.2.2.2.1 ∧ J.2.2.2.1 ≤ R.slots + J.2.2.2.2.2) (hm : J.2.2.2.2.1 ≤ mC mem' ∧ J.2.2.2.2.2 ≤ mS mem')
    (h : o_nw a b cc (pc + 3) ls st mem = some (.inl (pc', ls', st', mem'))) (k : GO p l e R s m args below meth c K J q Q pc' ls' st' mem') : GO p l e R s m args below meth c K J q Q pc ls st mem := by
  unfold o_nw at h
  split at h
  · split at h
    · rename_i hh
      obtain ⟨n1, n2⟩ := hh
      obtain ⟨rfl, rfl, rfl, rfl⟩ := go_inj h
      intro ad H LS locs cells slots d0
      have hc1 : J.2.2.2.2.1 ≤ mC mem - 1 := hm.1
      have hs1 : J.2.2.2.2.2 ≤ mS mem - b := hm.2
      have hd11 := d0.2.2.2.2.2.2.2.2.2.2.1
      have hd12 := d0.2.2.2.2.2.2.2.2.2.2.2
      unfold clsW at hw
      split at hw
      · rename_i w hw0
        rw [Bool.and_eq_true, Bool.and_eq_true] at hw
        obtain ⟨⟨w1, w2⟩, w3⟩ := hw
        obtain ⟨t1, t2, t3⟩ := vw_ty a w hw0
        have ha : a < 14 := (List.getElem?_eq_some_iff.mp hw0).1
        have hmT : mT (mN mem 0 a b) mem.1.length = some (0, a) := by rw [mT_mN, if_neg (by omega), if_pos rfl]
        refine va_new (fs := (List.range (nfk a)).map (fVal ad (mN mem 0 a b) mem.1.length a)) C.1 C.2.1 C.hts (uws_in hw0) (ftk a) t1 C.own (C.w (of_decide_eq_true w1) rfl) (C.w (of_decide_eq_true w2) rfl) (C.w (of_decide_eq_true w3) rfl) C.hK d0.2.2.2.2.1 d0.2.2.2.2.2.1 d0.2.2.2.2.2.2.1 C.kA hw0 ?_ (by omega) (by omega) hd ?_
        · intro j hj
          rw [ft_dfl (ft_all a j)]
          unfold vp_V
          rw [List.getD_eq_getElem?_getD, fs_at (by omega)]
          show _ = fVal ad (mN mem 0 a b) mem.1.length a j
          unfold fVal
          rw [mI_mN, if_pos rfl, mR_mN, if_pos rfl]
          rfl
        · intro x H1 a2 a3 a4
          obtain ⟨b1, b2⟩ := d0.new (k := 0) (n := a) (z := b) d0.2.2.2.1 (by
            rw [e_obj hmT]
            congr 3
            funext j
            unfold fVal
            rw [mI_mN, if_pos rfl, mR_mN, if_pos rfl]
            rfl) (by omega) (by omega) (by omega) n1 n2 a2 a3 a4
          have := k _ _ _ _ _ _ b1
          rw [b2] at this
          rw [← t3] at hb
          subst hb
          exact this
      · cases hw
    · cases h
  · split at h
    · split at h
      · cases h
      · cases h
    · cases h
theorem rL (C : CX p l R s m args meth c K q r) : 1 ≤ R.frames ∧ 1200 ≤ R.locals := by
  have h1 := C.frm
  have h2 := C.lcl
  unfold rmF at h1
  unfold rmL at h2
  have : 12 * 100 ≤ (r + 12) * 100 := Nat.mul_le_mul_right 100 (by omega)
  omega
theorem sum4 (C : CX p l R s m args meth c K q r) (ad : Nat → Nat) {rr : List AV} (h : rr.length ≤ 4) : ((rr.map (conc ad (ksp K))).map fun v => v.category).sum ≤ 8 := by
  have := cat_le (ad := ad) C.kS.1 rr
  omega
theorem stb_b (i j : Nat) : -128 ≤ (stb.getD i []).getD j 0 ∧ (stb.getD i []).getD j 0 < 128 := by
  have hb : ∀ t ∈ stb, ∀ x ∈ t, 0 ≤ x ∧ x < 128 := by decide +kernel
  rw [List.getD_eq_getElem?_getD]
  cases e9 : (stb.getD i [])[j]? with
  | none => exact ⟨by decide, by decide⟩
  | some x =>
    have hx := List.mem_of_getElem? e9
    have hs : stb.getD i [] ∈ stb := by
      rw [List.getD_eq_getElem?_getD] at hx ⊢
      cases e8 : stb[i]? with
      | none => rw [e8] at hx; cases hx
      | some y => exact List.mem_of_getElem? e8
    have := hb _ hs x hx
    exact ⟨by show -128 ≤ x; omega, by show x < 128; omega⟩
/-- bytes copied out of a row that was there before the run -/
theorem va_copyT {H : Heap} {locs : List Loc} {cells slots : Nat} {ls : Array Slot} {rest : List Value} {D : va_G} {cl : List vw_C} {A : Nat → Prop} {a : Nat} {tys : List (ClassId × FieldType)} {ws : va_W} {cc : ByteArray} (hexec : p.tables.exec = Jvm.exec) (hb : c.code = cc) (hml : c.maxLocals = ls.size) {own : String} {index : Nat} (hown : s.vm.findClass own = some m.cls) (hlink : (Cond.methodLink own index arraycopyName).before args s = true) (hnat : (Cond.native arraycopyName).before args s = true) (hstat : (Cond.static arraycopyName).before args s = true) (hini : (Cond.initialized "java/lang/System").before args s = true)
    (hK : va_K D cl tys s) (hP : va_P D cl ws H) (hD : va_D A ws) (hS : va_S A s.heap H locs) {b0 n0 : Nat} {f : Nat → Int32} (hX : va_T .byte b0 n0 (fun j => .int (f j)) A s s.heap) (q1 t1 : Nat) {c1 : ClassId} {n1 : Nat} {g : Nat → Int32} (ha1 : ws[q1]? = some (a, .inl (c1, n1, .inl g))) (ht1 : tys[t1]? = some (c1, .byte))
    {sp dp n : Int32} (h1 : ¬ sp < 0) (h2 : ¬ dp < 0) (h3 : ¬ n < 0) (h4 : sp.toNatClampNeg + n.toNatClampNeg ≤ n0) (h5 : dp.toNatClampNeg + n.toNatClampNeg ≤ n1) (hfit : ∀ i : Nat, i < n0 → fits .byte (.int (f i)) = true)
    (hframes : 1 ≤ R.frames) (hlocals : (rest.map fun v => v.category).sum + (nativeFrameWords "java/lang/System" "arraycopy" 5 + 11) ≤ R.locals) (hdg : decode cc pc = .ok (.invokestatic index, 3))
    (kk : ∀ (H1 : Heap) (locs1 : List Loc), va_P D cl (ws.set q1 (a, .inl (c1, n1, .inl (va_cpy f g sp.toNatClampNeg dp.toNatClampNeg n.toNatClampNeg)))) H1 → va_D A (ws.set q1 (a, .inl (c1, n1, .inl (va_cpy f g sp.toNatClampNeg dp.toNatClampNeg n.toNatClampNeg)))) → va_S A s.heap H1 locs1 → W p l e R s m args below meth c H1 locs1 cells slots Q (F0 m (pc + 3) ls rest)) : W p l e R s m args below meth c H locs cells slots Q (F0 m pc ls (.int n :: .int dp :: .ref a :: .int sp :: .ref b0 :: rest)) := by
  have nn : ∀ z : Int32, ¬ z < 0 → z.toInt = (z.toNatClampNeg : Int) := fun z hz => by
    have hz0 : (0 : Int) ≤ z.toInt := by simpa using Int32.le_iff_toInt_le.mp (Int32.not_lt.mp hz)
    show z.toInt = ((z.toInt.toNat : Nat) : Int)
    omega
  intro T hT X
  obtain ⟨scr, g1, g2, g3, g4, g5, g6, g7⟩ := hX
  have hc0 : H[b0]? = some scr := by rw [hS.2.1 b0 (Array.getElem?_eq_some_iff.mp g1).1 g7]; exact g1
  have hc1 : H[a]? = some (vp_cell c1 (n1, .inl g)) := hP q1 _ ha1
  obtain ⟨g8, k0, hk0, cm0, hkk0⟩ := g2
  obtain ⟨-, k1, hk1, cm1, hkk1⟩ := (hK.2 t1 _ ht1).1 n1 (fun j => .int (g j))
  have ev : ∀ i : Nat, i < n.toNatClampNeg → scr.slots.getD (sp.toNatClampNeg + i) .null = .int (f (sp.toNatClampNeg + i)) := fun i hi => by
    rw [Array.getD_eq_getD_getElem?, g6 _ (by omega)]
    rfl
  obtain ⟨vm', X', step⟩ := X.arraycopy hexec hown hlink hnat hstat hini (src := b0) (dst := a) (cs := scr) (cd := vp_cell c1 (n1, .inl g)) (srcPos := sp) (destPos := dp) (n := n) (by rw [hT]; exact hc0) (by rw [hT]; exact hc1)
    g8 (fun _ h => by cases h) g3 (fun h => by cases h) hk0 hk1 hkk0 hkk1 (by simp [refKind]) h1 h2 h3
    (by rw [nn sp h1, nn n h3]; omega)
    (by rw [nn dp h2, nn n h3]; show ¬ _ > ((arrV c1 n1 (fun j => .int (g j))).slots.size : Int); rw [arrV_size]; omega)
    (fun vm₁ _ i hi => by
      refine ⟨?_, ?_⟩
      · rw [ev i hi]
        exact hfit _ (by omega)
      · rw [ev i hi]
        exact trivial)
    (g := F0 m pc ls (.int n :: .int dp :: .ref a :: .int sp :: .ref b0 :: rest)) rfl (by rw [hml]) (rest := rest) rfl (by rw [hb]; exact hdg) hframes (by show 2 * 0 + _ + _ ≤ _; omega)
  have e1 : copied scr (vp_cell c1 (n1, .inl g)) sp dp n = vp_cell c1 (n1, .inl (va_cpy f g sp.toNatClampNeg dp.toNatClampNeg n.toNatClampNeg)) := va_copiedX (fun z => .int z) scr c1 f g g6 h4
  rw [e1] at X' step
  generalize hnew : vp_cell c1 (n1, .inl (va_cpy f g sp.toNatClampNeg dp.toNatClampNeg n.toNatClampNeg)) = nc at X' step
  have hl : a < H.size := (Array.getElem?_eq_some_iff.mp hc1).1
  have hheap : ((T.setVm vm').setCell a nc).heap = H.setIfInBounds a nc := by rw [← hT]; rfl
  have oq : ∀ q : Nat, q ≠ a → (H.setIfInBounds a nc)[q]? = H[q]? := fun q hq => by simp [Array.getElem?_setIfInBounds, Ne.symm hq]
  obtain ⟨t, a1, b1⟩ := kk _ _ (hP.set hD ha1 (show (H.setIfInBounds a nc)[a]? = some _ by rw [hnew]; simp [Array.getElem?_setIfInBounds, hl]) oq) (hD.set ha1) ⟨by simp; exact hS.1, fun q z1 z2 => by
      rw [oq q (fun e => z2 (by rw [e]; exact hD.2 q1 _ ha1))]
      exact hS.2.1 q z1 z2, fun q hq => by
      rcases List.mem_append.mp hq with h | h
      · exact hS.2.2 q h
      · obtain ⟨z, -, hz⟩ := List.mem_map.mp h
        rw [← hz]
        exact hD.2 q1 _ ha1⟩ _ hheap X'
  exact ⟨t, step t a1, b1⟩
theorem g_cp {idx d : Nat} (C : CX p l R s m args meth c K q r) (hd : decode q.2.1 pc = .ok (.invokestatic idx, 3)) (hw : lw_tbl[d]? = some (.methodLink q.1.cls idx arraycopyName))
    (h : o_cp (pc + 3) ls st mem = some (.inl (pc', ls', st', mem'))) (k : GO p l e R s m args below meth c K J q Q pc' ls' st' mem') : GO p l e R s m args below meth c K J q Q pc ls st mem := by
  unfold o_cp at h
  split at h
  · rename_i n dp b sp a rr
    split at h
    · rename_i ka na kb' nb ha hb
      split at h
      · rename_i hh
        obtain ⟨rfl, k1, k4, s0, d1, n0, hna, hnb, hrr⟩ := hh
        obtain ⟨rfl, rfl, rfl, rfl⟩ := go_inj h
        intro ad H LS locs cells slots d0
        obtain ⟨v1, v2⟩ := vok_cons d0.2.2.2.1
        obtain ⟨v2, v3⟩ := vok_cons v2
        obtain ⟨v3, v4⟩ := vok_cons v3
        obtain ⟨v4, v5⟩ := vok_cons v4
        obtain ⟨v5, v6⟩ := vok_cons v5
        have hml : c.maxLocals = LS.size := by rw [C.2.2.1]; exact d0.1.1.symm
        have hs4 := sum4 C ad hrr
        obtain ⟨rF, rLo⟩ := rL C
        have c1 : (i32 n).toNatClampNeg = n.toNat := i32_clamp v1
        have c2 : (i32 dp).toNatClampNeg = dp.toNat := i32_clamp v2
        have c4 : (i32 sp).toNatClampNeg = sp.toNat := i32_clamp v4
        have hnf : nativeFrameWords "java/lang/System" "arraycopy" 5 = 7 := by decide
        have hcase : ka = 1 ∨ ka = 2 ∨ ka = 3 ∨ ka = 4 := by omega
        have hWF := d0.2.2.2.2.2.2.2.1
        rcases hcase with rfl | rfl | rfl | rfl
        · refine va_copyi C.1 C.2.1 hml C.own (C.w hw rfl) (C.w cpw_n rfl) (C.w cpw_s rfl) (C.w cpw_i rfl) C.hK d0.2.2.2.2.1 d0.2.2.2.2.2.1 d0.2.2.2.2.2.2.1 a b 0 0 (by rw [wld_at ha, e_int ha (Or.inl rfl)]) (by rw [wld_at hb, e_int hb (Or.inl rfl)]) (ty_at _).1 (ty_at _).1 rfl (i32_nn v4 s0) (i32_nn v2 d1) (i32_nn v1 n0) (by rw [c4, c1]; omega) (by rw [c2, c1]; omega) (fun i hi => rfl) rF (by rw [hnf]; omega) hd ?_
          intro H1 locs1 a1 a2 a3
          rw [c4, c2, c1, ← wld_cI (na := na) hb (Or.inl rfl)] at a1 a2
          exact k _ _ _ _ _ _ (d0.mem (mem' := mCp mem a sp.toNat b dp.toNat n.toNat) rfl v6 a1 a2 a3 (WF_mCp hWF ha hb) rfl rfl)
        · refine va_copyl C.1 C.2.1 hml C.own (C.w hw rfl) (C.w cpw_n rfl) (C.w cpw_s rfl) (C.w cpw_i rfl) C.hK d0.2.2.2.2.1 d0.2.2.2.2.2.1 d0.2.2.2.2.2.2.1 a b 1 1 (by rw [wld_at ha, e_lng ha]) (by rw [wld_at hb, e_lng hb]) (ty_at _).2.1 (ty_at _).2.1 rfl (i32_nn v4 s0) (i32_nn v2 d1) (i32_nn v1 n0) (by rw [c4, c1]; omega) (by rw [c2, c1]; omega) (fun i hi => rfl) rF (by rw [hnf]; omega) hd ?_
          intro H1 locs1 a1 a2 a3
          rw [c4, c2, c1, ← wld_cL (na := na) hb] at a1 a2
          exact k _ _ _ _ _ _ (d0.mem (mem' := mCp mem a sp.toNat b dp.toNat n.toNat) rfl v6 a1 a2 a3 (WF_mCp hWF ha hb) rfl rfl)
        · refine va_copyi C.1 C.2.1 hml C.own (C.w hw rfl) (C.w cpw_n rfl) (C.w cpw_s rfl) (C.w cpw_i rfl) C.hK d0.2.2.2.2.1 d0.2.2.2.2.2.1 d0.2.2.2.2.2.2.1 a b 2 2 (by rw [wld_at ha, e_int ha (Or.inr (Or.inl rfl))]) (by rw [wld_at hb, e_int hb (Or.inr (Or.inl rfl))]) (ty_at _).2.2.1 (ty_at _).2.2.1 rfl (i32_nn v4 s0) (i32_nn v2 d1) (i32_nn v1 n0) (by rw [c4, c1]; omega) (by rw [c2, c1]; omega) (fun i hi => ?_) rF (by rw [hnf]; omega) hd ?_
          · have h9 : -128 ≤ mI mem a ((i32 sp).toNatClampNeg + i) ∧ mI mem a ((i32 sp).toNatClampNeg + i) < 128 := ((hWF _ _ _ ha).2.2.2 _).1
            generalize mI mem a ((i32 sp).toNatClampNeg + i) = x at h9
            have e1 : i32 x = (Int8.ofInt x).toInt32 := (i8_i32 h9).symm
            unfold fits
            have f1 : (-128 : Int32) ≤ i32 x := by have e9 : (-128 : Int32) = i32 (-128) := rfl
                                                   rw [e9, i32_le (by unfold inI; omega) (by unfold inI; omega)]; omega
            have f2 : i32 x ≤ (127 : Int32) := by have e9 : (127 : Int32) = i32 127 := rfl
                                                  rw [e9, i32_le (by unfold inI; omega) (by unfold inI; omega)]; omega
            simp [f1, f2]
          · intro H1 locs1 a1 a2 a3
            rw [c4, c2, c1, ← wld_cI (na := na) hb (Or.inr (Or.inl rfl))] at a1 a2
            exact k _ _ _ _ _ _ (d0.mem (mem' := mCp mem a sp.toNat b dp.toNat n.toNat) rfl v6 a1 a2 a3 (WF_mCp hWF ha hb) rfl rfl)
        · refine va_copyi C.1 C.2.1 hml C.own (C.w hw rfl) (C.w cpw_n rfl) (C.w cpw_s rfl) (C.w cpw_i rfl) C.hK d0.2.2.2.2.1 d0.2.2.2.2.2.1 d0.2.2.2.2.2.2.1 a b 3 3 (by rw [wld_at ha, e_int ha (Or.inr (Or.inr rfl))]) (by rw [wld_at hb, e_int hb (Or.inr (Or.inr rfl))]) (ty_at _).2.2.2.1 (ty_at _).2.2.2.1 rfl (i32_nn v4 s0) (i32_nn v2 d1) (i32_nn v1 n0) (by rw [c4, c1]; omega) (by rw [c2, c1]; omega) (fun i hi => ?_) rF (by rw [hnf]; omega) hd ?_
          · have h9 : 0 ≤ mI mem a ((i32 sp).toNatClampNeg + i) ∧ mI mem a ((i32 sp).toNatClampNeg + i) < 2 := ((hWF _ _ _ ha).2.2.2 _).1
            have h8 : mI mem a ((i32 sp).toNatClampNeg + i) = 0 ∨ mI mem a ((i32 sp).toNatClampNeg + i) = 1 := by omega
            rcases h8 with h8 | h8 <;> rw [h8] <;> rfl
          · intro H1 locs1 a1 a2 a3
            rw [c4, c2, c1, ← wld_cI (na := na) hb (Or.inr (Or.inr rfl))] at a1 a2
            exact k _ _ _ _ _ _ (d0.mem (mem' := mCp mem a sp.toNat b dp.toNat n.toNat) rfl v6 a1 a2 a3 (WF_mCp hWF ha hb) rfl rfl)
      · cases h
    · cases h
  · rename_i n dp b sp k0 rr
    split at h
    · rename_i nb hb
      split at h
      · rename_i hh
        obtain ⟨k1, k2, s0, d1, n0, hna, hnb, hrr⟩ := hh
        obtain ⟨i, rfl⟩ : ∃ i, k0 = 2 * i + 1 := ⟨k0 / 2, by omega⟩
        have ei : (2 * i + 1) / 2 = i := by omega
        rw [ei] at hna h
        have hi : i < 53 := by omega
        obtain ⟨rfl, rfl, rfl, rfl⟩ := go_inj h
        intro ad H LS locs cells slots d0
        obtain ⟨v1, v2⟩ := vok_cons d0.2.2.2.1
        obtain ⟨v2, v3⟩ := vok_cons v2
        obtain ⟨v3, v4⟩ := vok_cons v3
        obtain ⟨v4, v5⟩ := vok_cons v4
        obtain ⟨v5, v6⟩ := vok_cons v5
        have hml : c.maxLocals = LS.size := by rw [C.2.2.1]; exact d0.1.1.symm
        have hs4 := sum4 C ad hrr
        obtain ⟨rF, rLo⟩ := rL C
        have c1 : (i32 n).toNatClampNeg = n.toNat := i32_clamp v1
        have c2 : (i32 dp).toNatClampNeg = dp.toNat := i32_clamp v2
        have c4 : (i32 sp).toNatClampNeg = sp.toNat := i32_clamp v4
        have hnf : nativeFrameWords "java/lang/System" "arraycopy" 5 = 7 := by decide
        have hWF := d0.2.2.2.2.2.2.2.1
        have e1 : conc ad (ksp K) (vs (2 * i + 1 + 4)) = .ref (kad K (2 * i + 1)) := C.kS.2.2.1 _
        have e0 : (vi n :: vi dp :: vr b :: vi sp :: vs (2 * i + 1 + 4) :: st').map (conc ad (ksp K)) = .int (i32 n) :: .int (i32 dp) :: .ref (ad b) :: .int (i32 sp) :: .ref (kad K (2 * i + 1)) :: st'.map (conc ad (ksp K)) := by
          rw [List.map_cons, List.map_cons, List.map_cons, List.map_cons, List.map_cons, e1]; rfl
        rw [e0]
        refine va_copyT C.1 C.2.1 hml C.own (C.w hw rfl) (C.w cpw_n rfl) (C.w cpw_s rfl) (C.w cpw_i rfl) C.hK d0.2.2.2.2.1 d0.2.2.2.2.2.1 d0.2.2.2.2.2.2.1 (cx_row C i (by omega)) b 2 (by rw [wld_at hb, e_int hb (Or.inr (Or.inl rfl))]) (ty_at _).2.2.1 (i32_nn v4 s0) (i32_nn v2 d1) (i32_nn v1 n0) (by rw [c4, c1]; omega) (by rw [c2, c1]; omega) (fun x _ => fit_b (stb_b i x).1 (stb_b i x).2) rF (by rw [hnf]; omega) hd ?_
        intro H1 locs1 a1 a2 a3
        rw [c4, c2, c1, ← wld_co (f := fun j => (stb.getD i []).getD j 0) hb] at a1 a2
        exact k _ _ _ _ _ _ (d0.mem (mem' := mCo mem (fun j => (stb.getD i []).getD j 0) sp.toNat b dp.toNat n.toNat) rfl v6 a1 a2 a3 (WF_mCo hWF hb (fun j => stb_b i j)) rfl rfl)
      · cases h
    · cases h
  · cases h
theorem g_mn {idx d : Nat} (C : CX p l R s m args meth c K q r) (hd : decode q.2.1 pc = .ok (.invokestatic idx, 3)) (hw : lw_tbl[d]? = some (.methodLink q.1.cls idx Lib.Math.min.name))
    (hJ : J.2.2.1 ≤ R.cells + J.2.2.2.2.1 ∧ J.2.2.2.1 ≤ R.slots + J.2.2.2.2.2) (hm : J.2.2.2.2.1 ≤ mC mem' ∧ J.2.2.2.2.2 ≤ mS mem')
    (h : o_mn (pc + 3) ls st mem = some (.inl (pc', ls', st', mem'))) (k : GO p l e R s m args below meth c K J q Q pc' ls' st' mem') : GO p l e R s m args below meth c K J q Q pc ls st mem := by
  unfold o_mn at h
  split at h
  · rename_i y x rr
    split at h
    · rename_i hrr
      obtain ⟨rfl, rfl, rfl, rfl⟩ := go_inj h
      intro ad H LS locs cells slots d0
      obtain ⟨v1, v2⟩ := vok_cons d0.2.2.2.1
      obtain ⟨v2, v3⟩ := vok_cons v2
      have hml : c.maxLocals = LS.size := by rw [C.2.2.1]; exact d0.1.1.symm
      have hs4 := sum4 C ad hrr
      obtain ⟨rF, rLo⟩ := rL C
      have hd11 := d0.2.2.2.2.2.2.2.2.2.2.1
      have hd12 := d0.2.2.2.2.2.2.2.2.2.2.2
      refine va_mmin C.1 C.2.1 hml C.own (C.w hw rfl) (C.w mnw_s rfl) (C.w mnw_i rfl) (C.w mnw_c rfl) rF (by omega) (by omega) (by omega) hd ?_
      have v9 : inI (if y < x then y else x) := by
        by_cases e9 : y < x
        · rw [if_pos e9]; exact v1
        · rw [if_neg e9]; exact v2
      have e1 : (if i32 y < i32 x then i32 y else i32 x) = i32 (if y < x then y else x) := by
        by_cases e : y < x
        · rw [if_pos e, if_pos ((i32_lt v1 v2).mpr e)]
        · rw [if_neg e, if_neg (fun e9 => e ((i32_lt v1 v2).mp e9))]
      rw [e1]
      exact k _ _ _ _ _ _ (d0.stk (cons_vok (v := vi (if y < x then y else x)) v9 v3))
    · cases h
  · cases h
theorem g_mx {idx d : Nat} (C : CX p l R s m args meth c K q r) (hd : decode q.2.1 pc = .ok (.invokestatic idx, 3)) (hw : lw_tbl[d]? = some (.methodLink q.1.cls idx Lib.Math.max.name))
    (hJ : J.2.2.1 ≤ R.cells + J.2.2.2.2.1 ∧ J.2.2.2.1 ≤ R.slots + J.2.2.2.2.2) (hm : J.2.2.2.2.1 ≤ mC mem' ∧ J.2.2.2.2.2 ≤ mS mem')
    (h : o_mx (pc + 3) ls st mem = some (.inl (pc', ls', st', mem'))) (k : GO p l e R s m args below meth c K J q Q pc' ls' st' mem') : GO p l e R s m args below meth c K J q Q pc ls st mem := by
  unfold o_mx at h
  split at h
  · rename_i y x rr
    split at h
    · rename_i hrr
      obtain ⟨rfl, rfl, rfl, rfl⟩ := go_inj h
      intro ad H LS locs cells slots d0
      obtain ⟨v1, v2⟩ := vok_cons d0.2.2.2.1
      obtain ⟨v2, v3⟩ := vok_cons v2
      have hml : c.maxLocals = LS.size := by rw [C.2.2.1]; exact d0.1.1.symm
      have hs4 := sum4 C ad hrr
      obtain ⟨rF, rLo⟩ := rL C
      have hd11 := d0.2.2.2.2.2.2.2.2.2.2.1
      have hd12 := d0.2.2.2.2.2.2.2.2.2.2.2
      refine va_mmax C.1 C.2.1 hml C.own (C.w hw rfl) (C.w mxw_s rfl) (C.w mnw_i rfl) (C.w mxw_c rfl) rF (by omega) (by omega) (by omega) hd ?_
      have v9 : inI (if x < y then y else x) := by
        by_cases e9 : x < y
        · rw [if_pos e9]; exact v1
        · rw [if_neg e9]; exact v2
      have e1 : (if i32 x < i32 y then i32 y else i32 x) = i32 (if x < y then y else x) := by
        by_cases e : x < y
        · rw [if_pos e, if_pos ((i32_lt v2 v1).mpr e)]
        · rw [if_neg e, if_neg (fun e9 => e ((i32_lt v2 v1).mp e9))]
      rw [e1]
      exact k _ _ _ _ _ _ (d0.stk (cons_vok (v := vi (if x < y then y else x)) v9 v3))
    · cases h
  · cases h
theorem g_oi {idx d : Nat} (C : CX p l R s m args meth c K q r) (hd : decode q.2.1 pc = .ok (.invokespecial idx, 3)) (hw : lw_tbl[d]? = some (.methodLink q.1.cls idx Lib.objectInit))
    (h : o_oi (pc + 3) ls st mem = some (.inl (pc', ls', st', mem'))) (k : GO p l e R s m args below meth c K J q Q pc' ls' st' mem') : GO p l e R s m args below meth c K J q Q pc ls st mem := by
  unfold o_oi at h
  split at h
  · rename_i x rr
    split at h
    · rename_i hrr
      obtain ⟨rfl, rfl, rfl, rfl⟩ := go_inj h
      intro ad H LS locs cells slots d0
      obtain ⟨v1, v2⟩ := vok_cons d0.2.2.2.1
      have hml : LS.size = c.maxLocals := by rw [C.2.2.1]; exact d0.1.1
      have hs4 := sum4 C ad hrr
      obtain ⟨rF, rLo⟩ := rL C
      refine W.objInit C.1 C.2.1 C.own (C.w hw rfl) (C.w oiw_m rfl) (C.w oiw_c rfl) (g := F0 m pc LS _) rfl hml (a := ad x) rfl hd rF ?_ (k _ _ _ _ _ _ (d0.stk v2))
      show 2 * 0 + _ + 12 ≤ _
      omega
    · cases h
  · cases h
def okGs (q : Mrec) (idx cc d : Nat) : Bool :=
  if cc = 0 then decide (lw_tbl[d]? = some (.fieldLink q.1.cls idx "java/lang/String" "COMPACT_STRINGS" "Z")) else
  if cc = 2 then decide (lw_tbl[d]? = some (.fieldLink q.1.cls idx "java/lang/Integer" "DigitOnes" "[B")) else
  if cc = 3 then decide (lw_tbl[d]? = some (.fieldLink q.1.cls idx "java/lang/Integer" "DigitTens" "[B")) else
  decide (lw_tbl[d]? = some (.fieldLink q.1.cls idx "jdk/internal/util/Preconditions" "SIOOBE_FORMATTER" "Ljava/util/function/BiFunction;"))
theorem g_gs {idx cc d : Nat} (C : CX p l R s m args meth c K q r) (hd : decode q.2.1 pc = .ok (.getstatic idx, 3)) (hw : okGs q idx cc d = true)
    (h : o_gs cc (pc + 3) ls st mem = some (.inl (pc', ls', st', mem'))) (k : GO p l e R s m args below meth c K J q Q pc' ls' st' mem') : GO p l e R s m args below meth c K J q Q pc ls st mem := by
  unfold o_gs at h
  unfold okGs at hw
  split at h
  · rename_i hc
    rw [if_pos hc] at hw
    obtain ⟨rfl, rfl, rfl, rfl⟩ := go_inj h
    intro ad H LS locs cells slots d0
    refine va_gets C.1 C.2.1 C.old.2.2.1 d0.2.2.2.2.2.2.1 C.own (C.w (of_decide_eq_true hw) rfl) (fun x hx => hx) hd ?_
    exact k _ _ _ _ _ _ (d0.stk (cons_vok (v := vi 1) (by show inI 1; unfold inI; omega) d0.2.2.2.1))
  · rename_i hc
    rw [if_neg hc] at hw
    split at h
    · rename_i h1
      rw [if_neg (by omega), if_neg (by omega)] at hw
      obtain ⟨rfl, rfl, rfl, rfl⟩ := go_inj h
      intro ad H LS locs cells slots d0
      refine va_gets C.1 C.2.1 C.old.2.2.2.1 d0.2.2.2.2.2.2.1 C.own (C.w (of_decide_eq_true hw) rfl) (fun x hx => hx) hd ?_
      exact k _ _ _ _ _ _ (d0.stk (cons_vok (v := vs 1) trivial d0.2.2.2.1))
    · split at h
      · rename_i h1 h2
        rw [if_pos h2] at hw
        obtain ⟨rfl, rfl, rfl, rfl⟩ := go_inj h
        intro ad H LS locs cells slots d0
        refine va_gets C.1 C.2.1 C.old.2.2.2.2.2.2.2.2.1.2.1 d0.2.2.2.2.2.2.1 C.own (C.w (of_decide_eq_true hw) rfl) (fun x hx => hx) hd ?_
        have e1 : conc ad (ksp K) (vs 111) = .ref (kad K 107) := C.kS.2.2.1 107
        have := k _ _ _ _ _ _ (d0.stk (cons_vok (v := vs 111) trivial d0.2.2.2.1))
        rw [List.map_cons, e1] at this
        exact this
      · split at h
        · rename_i h1 h2 h3
          rw [if_neg h2, if_pos h3] at hw
          obtain ⟨rfl, rfl, rfl, rfl⟩ := go_inj h
          intro ad H LS locs cells slots d0
          refine va_gets C.1 C.2.1 C.old.2.2.2.2.2.2.2.2.1.2.2 d0.2.2.2.2.2.2.1 C.own (C.w (of_decide_eq_true hw) rfl) (fun x hx => hx) hd ?_
          have e1 : conc ad (ksp K) (vs 113) = .ref (kad K 109) := C.kS.2.2.1 109
          have := k _ _ _ _ _ _ (d0.stk (cons_vok (v := vs 113) trivial d0.2.2.2.1))
          rw [List.map_cons, e1] at this
          exact this
        · cases h
def okLd (q : Mrec) (idx a c d : Nat) : Bool := if c = 0 then decide ((stq a).1 = q.1.cls) && decide ((stq a).2.1 = idx) else decide (lw_tbl[d]? = some (.constant q.1.cls idx (i32 a)))
theorem g_ldc {idx a cc d : Nat} (C : CX p l R s m args meth c K q r) (hd : decode q.2.1 pc = .ok (.ldc idx, 2)) (hw : okLd q idx a cc d = true)
    (h : o_lk a cc (pc + 2) ls st mem = some (.inl (pc', ls', st', mem'))) (k : GO p l e R s m args below meth c K J q Q pc' ls' st' mem') : GO p l e R s m args below meth c K J q Q pc ls st mem := by
  unfold okLd at hw
  unfold o_lk at h
  split at h
  · rename_i hc
    rw [if_pos hc, Bool.and_eq_true] at hw
    split at h
    · rename_i ha
      obtain ⟨rfl, rfl, rfl, rfl⟩ := go_inj h
      have hR := (C.old.2.1 a ha).1
      rw [of_decide_eq_true hw.1, of_decide_eq_true hw.2] at hR
      intro ad H LS locs cells slots d0
      refine va_ldcS C.1 C.2.1 C.own hR hd ?_
      have h2 := k _ _ _ _ _ _ (d0.stk (cons_vok (v := vs (2 * a + 4)) trivial d0.2.2.2.1))
      have e1 : conc ad (ksp K) (vs (2 * a + 4)) = .ref (kad K (2 * a)) := C.kS.2.2.1 _
      rw [List.map_cons, e1] at h2
      exact h2
    · cases h
  · rename_i hc
    rw [if_neg hc] at hw
    split at h
    · rename_i ha
      obtain ⟨rfl, rfl, rfl, rfl⟩ := go_inj h
      intro ad H LS locs cells slots d0
      exact lv_ldc C.1 C.2.1 C.own (C.w (of_decide_eq_true hw) rfl) hd (k _ _ _ _ _ _ (d0.stk (cons_vok (v := vi (a : Int)) (by show inI _; unfold inI; omega) d0.2.2.2.1)))
    · cases h
theorem ldcSW {cc : ByteArray} {H : Heap} {locs : List Loc} {cells slots : Nat} {LS : Array Slot} {rest : List Value} (hexec : p.tables.exec = Jvm.exec) (hb : c.code = cc) {own tx : String} {index q : Nat} (hown : s.vm.findClass own = some m.cls) (hZ : vk_R own index tx q s) (hdg : decode cc pc = .ok (.ldc_w index, 3))
    (k : W p l e R s m args below meth c H locs cells slots Q (F0 m (pc + 3) LS (.ref q :: rest))) : W p l e R s m args below meth c H locs cells slots Q (F0 m pc LS rest) := by
  intro T hT X
  obtain ⟨t, a1, b1⟩ := k T hT X
  refine ⟨t, ?_, b1⟩
  obtain ⟨kk, cf, i, a', hk, hcf, hcp, -, hr, hev'⟩ := Cond.stringRef_spec hown hZ.1
  have hev : (Term.string own index).eval args s none [] s = some (.ref q) := hZ.2
  cases hev.symm.trans hev'
  obtain ⟨k', hk', he⟩ := X.warmed.alike.2.2 _ _ hk
  have hr' : k'.resolved[index]? = some (some (.string q)) := by
    rcases X.warmed.entry hk hk' index with h | ⟨h, -⟩
    · rw [h]; exact hr
    · rw [hr] at h; cases h
  have hdg' : decode c.code (F0 m pc LS rest).pc = .ok (.ldc_w index, 3) := by rw [hb]; exact hdg
  jvm_step X.here [hexec, hdg', ldc_w.wp_string (e := e) (s := T) (f := F0 m pc LS rest) X.here.top hk' (by rw [he]; exact hcf) hcp hr']
  exact a1
theorem g_ldcw {idx a cc d : Nat} (C : CX p l R s m args meth c K q r) (hd : decode q.2.1 pc = .ok (.ldc_w idx, 3)) (hw : okLd q idx a cc d = true)
    (h : o_lk a cc (pc + 3) ls st mem = some (.inl (pc', ls', st', mem'))) (k : GO p l e R s m args below meth c K J q Q pc' ls' st' mem') : GO p l e R s m args below meth c K J q Q pc ls st mem := by
  unfold okLd at hw
  unfold o_lk at h
  split at h
  · rename_i hc
    rw [if_pos hc, Bool.and_eq_true] at hw
    split at h
    · rename_i ha
      obtain ⟨rfl, rfl, rfl, rfl⟩ := go_inj h
      have hR := (C.old.2.1 a ha).1
      rw [of_decide_eq_true hw.1, of_decide_eq_true hw.2] at hR
      intro ad H LS locs cells slots d0
      refine ldcSW C.1 C.2.1 C.own hR hd ?_
      have h2 := k _ _ _ _ _ _ (d0.stk (cons_vok (v := vs (2 * a + 4)) trivial d0.2.2.2.1))
      have e1 : conc ad (ksp K) (vs (2 * a + 4)) = .ref (kad K (2 * a)) := C.kS.2.2.1 _
      rw [List.map_cons, e1] at h2
      exact h2
    · cases h
  · rename_i hc
    rw [if_neg hc] at hw
    split at h
    · rename_i ha
      obtain ⟨rfl, rfl, rfl, rfl⟩ := go_inj h
      intro ad H LS locs cells slots d0
      exact lv_ldcw C.1 C.2.1 C.own (C.w (of_decide_eq_true hw) rfl) hd (k _ _ _ _ _ _ (d0.stk (cons_vok (v := vi (a : Int)) (by show inI _; unfold inI; omega) d0.2.2.2.1)))
    · cases h
theorem g_len (C : CX p l R s m args meth c K q r) (hd : decode q.2.1 pc = .ok (.arraylength, 1))
    (h : o_len (kxs K) (pc + 1) ls st mem = some (.inl (pc', ls', st', mem'))) (k : GO p l e R s m args below meth c K J q Q pc' ls' st' mem') : GO p l e R s m args below meth c K J q Q pc ls st mem := by
  unfold o_len at h
  split at h
  · rename_i o rr
    split at h
    · rename_i k0 n ht
      obtain ⟨rfl, rfl, rfl, rfl⟩ := go_inj h
      intro ad H LS locs cells slots d0
      obtain ⟨v1, v2⟩ := vok_cons d0.2.2.2.1
      have hW := d0.2.2.2.2.2.2.2.1 _ _ _ ht
      have hn : n ≤ 8000000 := hW.2.2.1 (by omega)
      have hk5 := hW.1
      have en : Int32.ofNat n = i32 n := i32_nat (by omega)
      have hin : inI (n : Int) := by unfold inI; omega
      have kk := k _ _ _ _ _ _ (d0.stk (cons_vok (v := vi (n : Int)) hin v2))
      have hcase : k0 = 0 ∨ k0 = 1 ∨ k0 = 2 ∨ k0 = 3 ∨ k0 = 4 ∨ k0 = 5 := by omega
      rcases hcase with rfl | rfl | rfl | rfl | rfl | rfl
      · exact va_alen C.1 C.2.1 C.hK d0.2.2.2.2.1 o 0 (by rw [wld_at ht, e_int ht (Or.inl rfl)]) (ty_at _).1 en hd kk
      · exact va_alen C.1 C.2.1 C.hK d0.2.2.2.2.1 o 1 (by rw [wld_at ht, e_lng ht]) (ty_at _).2.1 en hd kk
      · exact va_alen C.1 C.2.1 C.hK d0.2.2.2.2.1 o 2 (by rw [wld_at ht, e_int ht (Or.inr (Or.inl rfl))]) (ty_at _).2.2.1 en hd kk
      · exact va_alen C.1 C.2.1 C.hK d0.2.2.2.2.1 o 3 (by rw [wld_at ht, e_int ht (Or.inr (Or.inr rfl))]) (ty_at _).2.2.2.1 en hd kk
      · exact va_alen C.1 C.2.1 C.hK d0.2.2.2.2.1 o 4 (by rw [wld_at ht, e_ref ht]) (ty_at _).2.2.2.2 en hd kk
      · exact va_alen C.1 C.2.1 C.hK d0.2.2.2.2.1 o 5 (by rw [wld_at ht, e_ref6 ht]) (ty_6 _) en hd kk
    · cases h
  · rename_i rr
    obtain ⟨rfl, rfl, rfl, rfl⟩ := go_inj h
    intro ad H LS locs cells slots d0
    obtain ⟨v1, v2⟩ := vok_cons d0.2.2.2.1
    have e1 : conc ad (ksp K) (vs 3) = .ref (kb K) := C.kS.2.1
    have hL := C.kS.2.2.2.2.1
    rw [List.map_cons, e1]
    refine va_slen C.1 C.2.1 C.old.1 (Nat.lt_of_lt_of_le C.kS.2.2.2.2.2.1 (C.2.2.2.2.2.2.2.2.2.2.2.1)) (fun hq => absurd C.kS.2.2.2.2.2.1 (Nat.not_lt.mpr hq)) d0.2.2.2.2.2.2.1 hd ?_
    rw [i32_nat (by omega)]
    exact k _ _ _ _ _ _ (d0.stk (cons_vok (v := vi _) (by show inI _; unfold inI; omega) v2))
  · rename_i k0 rr
    split at h
    · rename_i hk
      obtain ⟨j, rfl⟩ : ∃ j, k0 = 2 * j + 1 := ⟨k0 / 2, by omega⟩
      have ej : (2 * j + 1) / 2 = j := by omega
      rw [ej] at h
      have hj : j < 55 := by omega
      obtain ⟨rfl, rfl, rfl, rfl⟩ := go_inj h
      intro ad H LS locs cells slots d0
      obtain ⟨v1, v2⟩ := vok_cons d0.2.2.2.1
      have e1 : conc ad (ksp K) (vs (2 * j + 1 + 4)) = .ref (kad K (2 * j + 1)) := C.kS.2.2.1 _
      have hlen : ∀ j : Nat, j < 55 → (stb.getD j []).length < 200 := by decide
      have hl := hlen j hj
      rw [List.map_cons, e1]
      refine va_tlen C.1 C.2.1 (cx_row C j hj) d0.2.2.2.2.2.2.1 (i32_nat (by omega)) hd ?_
      exact k _ _ _ _ _ _ (d0.stk (cons_vok (v := vi _) (by show inI _; unfold inI; omega) v2))
    · cases h
  · cases h
theorem g_dx1 (C : CX p l R s m args meth c K q r) (hd : decode q.2.1 pc = .ok (.dup_x1, 1))
    (h : o_dx1 (pc + 1) ls st mem = some (.inl (pc', ls', st', mem'))) (k : GO p l e R s m args below meth c K J q Q pc' ls' st' mem') : GO p l e R s m args below meth c K J q Q pc ls st mem := by
  unfold o_dx1 at h
  split at h
  · rename_i v w rr
    split at h
    · rename_i hv
      rw [Bool.and_eq_true] at hv
      obtain ⟨rfl, rfl, rfl, rfl⟩ := go_inj h
      intro ad H LS locs cells slots d0
      obtain ⟨v1, v2⟩ := vok_cons d0.2.2.2.1
      obtain ⟨v2, v3⟩ := vok_cons v2
      have c9 : ∀ {v : AV}, cls1 v = true → (conc ad (ksp K) v).category = 1 := fun {v} hv => by
        rw [cat_conc C.kS.1]
        rcases v with x | x | x
        · rfl
        · cases hv
        · rfl
      exact lv_dup_x1 C.1 C.2.1 hd (c9 hv.1) (c9 hv.2) (k _ _ _ _ _ _ (d0.stk (cons_vok v1 (cons_vok v2 (cons_vok v1 v3)))))
    · cases h
  · cases h
theorem g_nl (C : CX p l R s m args meth c K q r) (hd : decode q.2.1 pc = .ok (.aconst_null, 1))
    (h : go (pc + 1) ls (vs 0 :: st) mem = some (.inl (pc', ls', st', mem'))) (k : GO p l e R s m args below meth c K J q Q pc' ls' st' mem') : GO p l e R s m args below meth c K J q Q pc ls st mem := by
  obtain ⟨rfl, rfl, rfl, rfl⟩ := go_inj h
  intro ad H LS locs cells slots d0
  refine lv_null C.1 C.2.1 hd ?_
  have h2 := k _ _ _ _ _ _ (d0.stk (cons_vok (v := vs 0) trivial d0.2.2.2.1))
  have e1 : conc ad (ksp K) (vs 0) = .null := C.kS.2.2.2.2.2.2
  rw [List.map_cons, e1] at h2
  exact h2
theorem g_nn {off : Int} (C : CX p l R s m args meth c K q r) (hd : decode q.2.1 pc = .ok (.ifnonnull off, 3))
    (h : o_nn pc off ls st mem = some (.inl (pc', ls', st', mem'))) (k : GO p l e R s m args below meth c K J q Q pc' ls' st' mem') : GO p l e R s m args below meth c K J q Q pc ls st mem := by
  unfold o_nn at h
  split at h
  · rename_i x rr
    obtain ⟨h0, rfl, rfl, rfl, rfl⟩ := jmp_inj h
    intro ad H LS locs cells slots d0
    obtain ⟨v1, v2⟩ := vok_cons d0.2.2.2.1
    exact lv_ifnonnull (tgt := ((pc : Int) + off).toNat) C.1 C.2.1 hd (by omega) (k _ _ _ _ _ _ (d0.stk v2))
  · rename_i x rr
    obtain ⟨h0, rfl, rfl, rfl, rfl⟩ := jmp_inj h
    intro ad H LS locs cells slots d0
    obtain ⟨v1, v2⟩ := vok_cons d0.2.2.2.1
    have e1 : conc ad (ksp K) (vs (x + 4)) = .ref (kad K x) := C.kS.2.2.1 _
    rw [List.map_cons, e1]
    exact lv_ifnonnull (tgt := ((pc : Int) + off).toNat) C.1 C.2.1 hd (by omega) (k _ _ _ _ _ _ (d0.stk v2))
  · cases h
theorem g_cc {idx d : Nat} (C : CX p l R s m args meth c K q r) (hd : decode q.2.1 pc = .ok (.checkcast idx, 3)) (hw : lw_tbl[d]? = some (.classLink q.1.cls idx "[B"))
    (h : o_cc (pc + 3) ls st mem = some (.inl (pc', ls', st', mem'))) (k : GO p l e R s m args below meth c K J q Q pc' ls' st' mem') : GO p l e R s m args below meth c K J q Q pc ls st mem := by
  unfold o_cc at h
  split at h
  · rename_i o rr
    split at h
    · rename_i n ht
      obtain ⟨rfl, rfl, rfl, rfl⟩ := go_inj h
      intro ad H LS locs cells slots d0
      exact va_castA C.1 C.2.1 C.own (C.w hw rfl) d0.2.2.2.2.1 o (by rw [wld_at ht, e_int ht (Or.inr (Or.inl rfl))]) (va_nm_byte (C.hK.2 2 _ (ty_at _).2.2.1).2) hd (k _ _ _ _ _ _ d0)
    · cases h
  · cases h
theorem g_cl {idx d : Nat} (C : CX p l R s m args meth c K q r) (hd : decode q.2.1 pc = .ok (.invokevirtual idx, 3)) (hw : lw_tbl[d]? = some (.methodLink q.1.cls idx ⟨"[B", "clone", "()Ljava/lang/Object;"⟩))
    (hJ : J.2.2.1 ≤ R.cells + J.2.2.2.2.1 ∧ J.2.2.2.1 ≤ R.slots + J.2.2.2.2.2) (hm : J.2.2.2.2.1 ≤ mC mem' ∧ J.2.2.2.2.2 ≤ mS mem')
    (h : o_cl (pc + 3) ls st mem = some (.inl (pc', ls', st', mem'))) (k : GO p l e R s m args below meth c K J q Q pc' ls' st' mem') : GO p l e R s m args below meth c K J q Q pc ls st mem := by
  unfold o_cl at h
  split at h
  · rename_i o rr
    split at h
    · rename_i n ht
      split at h
      · rename_i hh
        obtain ⟨n1, n2, hrr⟩ := hh
        obtain ⟨rfl, rfl, rfl, rfl⟩ := go_inj h
        intro ad H LS locs cells slots d0
        obtain ⟨v1, v2⟩ := vok_cons d0.2.2.2.1
        have hc1 : J.2.2.2.2.1 ≤ mC mem - 1 := hm.1
        have hs1 : J.2.2.2.2.2 ≤ mS mem - n := hm.2
        have hd11 := d0.2.2.2.2.2.2.2.2.2.2.1
        have hd12 := d0.2.2.2.2.2.2.2.2.2.2.2
        have hml : c.maxLocals = LS.size := by rw [C.2.2.1]; exact d0.1.1.symm
        have hs4 := sum4 C ad hrr
        obtain ⟨rF, rLo⟩ := rL C
        have hWF := d0.2.2.2.2.2.2.2.1
        refine va_clone (x := (n, .inl (fun j => i32 (mI mem o j)))) C.1 C.2.1 hml C.own (C.w hw rfl) (C.w clw_0 rfl) (C.w clw_1 rfl) (C.w clw_2 rfl) (C.w clw_3 rfl) (mv_0 (C.w clw_4 rfl)) C.hK d0.2.2.2.2.1 d0.2.2.2.2.2.1 d0.2.2.2.2.2.2.1 C.kA o 2 (by rw [wld_at ht, e_int ht (Or.inr (Or.inl rfl))]) (ty_at _).2.2.1 (va_nm_byte (C.hK.2 2 _ (ty_at _).2.2.1).2) (va_fit (F := fun j => .int (i32 (mI mem o j))) (fun i _ => fit_b ((hWF _ _ _ ht).2.2.2 i).1.1 ((hWF _ _ _ ht).2.2.2 i).1.2)) rF (by omega) (by omega) (by show slots + n ≤ _; omega) hd ?_
        intro x H1 a1 a2 a3 a4
        have hL : (mCl mem o n).1.length = mem.1.length + 1 := by simp [mCl]
        obtain ⟨d1, d2, d3, d4, d5, d6, d7, d8, d9, d10, d11, d12⟩ := d0
        rw [← wld_cl (q := x) hWF ht] at a2 a3
        have := k (upA ad mem.1.length x) H1 LS locs (cells + 1) (slots + n) ⟨by rw [lsl_ext (ad := ad) (fun i hi => upA_lt i hi) d3]; exact d1, d2, by rw [hL]; exact fun v hv => vok_mono (by omega) (d3 v hv), by rw [hL]; exact cons_vok (v := vr _) (Nat.lt_succ_self _) (fun v hv => vok_mono (by omega) (v2 v hv)), a2, a3, a4, WF_mCl hWF ht, fun i hi => by rw [upA_lt i (by omega)]; exact d9 i hi, by rw [hL]; omega, by show cells + 1 + (mC mem - 1) = _; omega, by show slots + n + (mS mem - n) = _; omega⟩
        have e1 : conc (upA ad mem.1.length x) (ksp K) (vr mem.1.length) = .ref x := by
          show Value.ref (upA ad mem.1.length x mem.1.length) = _
          rw [upA_eq]
        have e2 : rr.map (conc (upA ad mem.1.length x) (ksp K)) = rr.map (conc ad (ksp K)) := List.map_congr_left (fun v hv => conc_ext (fun i hi => upA_lt i hi) (v2 v hv))
        rw [List.map_cons, e1, e2] at this
        exact this
      · cases h
    · cases h
  · cases h
end NEWI
