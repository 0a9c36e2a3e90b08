/-! the instructions that look at the memory or change it -/
theorem i32_0 : (0 : Int32) = i32 0 := rfl
theorem i32_nn {x : Int} (hx : inI x) (h : 0 ≤ x) : ¬ i32 x < 0 := by
  rw [i32_0, i32_lt hx (by unfold inI; omega)]; omega
section CXF
variable {p : Program} {l : Launch} {R : Room} {s : State} {m : MethodId} {args : Array Value} {meth : Method} {c : Code} {K : Kx} {q : Mrec} {r : Nat}
theorem CX.hts (C : CX p l R s m args meth c K q r) : ∀ w ∈ GWs, w.before args s = true := C.2.2.2.2.1
theorem CX.own (C : CX p l R s m args meth c K q r) : s.vm.findClass q.1.cls = some m.cls := C.2.2.2.1
theorem CX.hK (C : CX p l R s m args meth c K q r) : va_K (kD K) vwCl (tysOf (kca K)) s := C.2.2.2.2.2.1
theorem CX.old (C : CX p l R s m args meth c K q r) : OLD K s := C.2.2.2.2.2.2.1
theorem CX.kA (C : CX p l R s m args meth c K q r) : ∀ x, s.heap.size ≤ x → kA K x := fun x h => Nat.le_trans C.2.2.2.2.2.2.2.2.2.2.2.1 h
theorem CX.kS (C : CX p l R s m args meth c K q r) : KSp K := C.2.2.2.2.2.2.2.2.2.2.2.2.2.2.2
theorem CX.frm (C : CX p l R s m args meth c K q r) : rmF r ≤ R.frames := C.2.2.2.2.2.2.2.2.2.2.2.2.2.1
theorem CX.lcl (C : CX p l R s m args meth c K q r) : rmL r ≤ R.locals := C.2.2.2.2.2.2.2.2.2.2.2.2.2.2.1
theorem cx_row (C : CX p l R s m args meth c K q r) (i : Nat) (hi : i < 55) : va_T .byte (kad K (2 * i + 1)) (stb.getD i []).length (fun j => .int (i32 ((stb.getD i []).getD j 0))) (kA K) s s.heap := by
  by_cases h : i < 53
  · exact (C.old.2.1 i h).2.2.2.2
  · exact C.old.2.2.2.2.2.2.2.2.1.1 i (by omega) hi
theorem CX.w (C : CX p l R s m args meth c K q r) {d : Nat} {w : Cond} (h : lw_tbl[d]? = some w) (g : mvW w = true) : w.before args s = true := C.hts w (List.mem_filter.mpr ⟨List.mem_of_getElem? h, g⟩)
end CXF
def uwi : List (List Nat) := [[532, 534, 536, 538, 540, 542, 544, 546, 548, 550, 552], [408, 410, 412, 414, 416, 418, 420, 422, 424, 426], [676, 678], [621, 623, 625, 627, 629, 631], [475, 477, 479, 481, 483, 485, 487, 489, 491, 493, 495], [642, 644, 646, 648, 650], [448, 450, 452, 454, 456, 458], [588, 590, 592, 594, 596, 598, 600, 602, 604], [661, 663], [741, 743, 745, 747, 749, 751, 753, 755, 757, 759, 761, 763, 765, 767, 769, 771, 773], [1173, 1175, 1177, 1179, 1181, 1183], [1403], [1011, 1013, 1015, 1017], [802, 804, 806, 808]]
def uwOk (a : Nat) : Bool := match vwCl[a]? with
  | some w => (List.range w.2.2).all (fun k => decide (lw_tbl[(uwi.getD a []).getD k 0]? = some (u_lay w.1 w.2.1 k)) && goodWord (u_lay w.1 w.2.1 k))
  | none => true
theorem uw_all : (List.range 14).all uwOk = true := by decide +kernel
theorem uws_in {a : Nat} {w : vw_C} (h : vwCl[a]? = some w) : ∀ x ∈ u_ws w.1 w.2.1 w.2.2, x ∈ GWs := by
  have ha : a < 14 := (List.getElem?_eq_some_iff.mp h).1
  have h1 := List.all_eq_true.mp uw_all a (List.mem_range.mpr ha)
  unfold uwOk at h1
  rw [h] at h1
  intro x hx
  obtain ⟨k, hk, rfl⟩ := List.mem_map.mp hx
  have h2 := List.all_eq_true.mp h1 k hk
  rw [Bool.and_eq_true] at h2
  exact List.mem_filter.mpr ⟨List.mem_of_getElem? (of_decide_eq_true h2.1), by unfold mvW; rw [h2.2]; rfl⟩
/-- the word of a field's link, by its place -/
def fldW (q : Mrec) (idx a b d : Nat) : Bool := match vwCl[a]? with
  | some w => decide (b < w.2.2) && decide (lw_tbl[d]? = some (.fieldLink q.1.cls idx (w.2.1 b).1 (w.2.1 b).2.1 (w.2.1 b).2.2.1))
  | none => false
def fldFin (a b : Nat) : Bool := match vwCl[a]? with
  | some w => (w.2.1 b).2.2.2
  | none => false
def fldOwn (a b : Nat) : String := match vwCl[a]? with
  | some w => (w.2.1 b).1
  | none => ""
theorem fldW_spec {q : Mrec} {idx a b d : Nat} (h : fldW q idx a b d = true) : ∃ w : vw_C, vwCl[a]? = some w ∧ b < w.2.2 ∧ w.2.2 = nfk a ∧ lw_tbl[d]? = some (.fieldLink q.1.cls idx (w.2.1 b).1 (w.2.1 b).2.1 (w.2.1 b).2.2.1) ∧ fldFin a b = (w.2.1 b).2.2.2 ∧ fldOwn a b = (w.2.1 b).1 ∧
    (∀ j, j < w.2.2 → parseFieldDescriptor (w.2.1 j).2.2.1 = some (ftk a j)) ∧ (∀ x, x < w.2.2 → ∀ y, y < w.2.2 → x ≠ y → (w.2.1 x).2.1 ≠ (w.2.1 y).2.1) := by
  unfold fldW at h
  split at h
  · rename_i w hw
    rw [Bool.and_eq_true] at h
    obtain ⟨t1, t2, t3⟩ := vw_ty a w hw
    exact ⟨w, hw, of_decide_eq_true h.1, t3, of_decide_eq_true h.2, by unfold fldFin; rw [hw], by unfold fldOwn; rw [hw], t1, t2⟩
  · cases h
/-- the same, of a nest mate's private field -/
def fldN (q : Mrec) (idx a b d : Nat) : Bool := match vwCl[a]? with
  | some w => decide (b < w.2.2) && decide (lw_tbl[d]? = some (.fieldLinkNest q.1.cls idx (w.2.1 b).1 (w.2.1 b).2.1 (w.2.1 b).2.2.1 "DropSwitchLaw"))
  | none => false
theorem fldN_spec {q : Mrec} {idx a b d : Nat} (h : fldN q idx a b d = true) : ∃ w : vw_C, vwCl[a]? = some w ∧ b < w.2.2 ∧ w.2.2 = nfk a ∧ lw_tbl[d]? = some (.fieldLinkNest q.1.cls idx (w.2.1 b).1 (w.2.1 b).2.1 (w.2.1 b).2.2.1 "DropSwitchLaw") := by
  unfold fldN at h
  split at h
  · rename_i w hw
    rw [Bool.and_eq_true] at h
    obtain ⟨t1, t2, t3⟩ := vw_ty a w hw
    exact ⟨w, hw, of_decide_eq_true h.1, t3, of_decide_eq_true h.2⟩
  · cases h
def okGf (q : Mrec) (idx a b c d : Nat) : Bool :=
  if c = 20 then fldN q idx a b d && ftN (ftk a b) else
  if c = 22 then fldN q idx a b d && !(ftN (ftk a b)) else
  (if c = 3 then decide (lw_tbl[d]? = some (.fieldLink q.1.cls idx "java/lang/String" "value" "[B")) else
   if c = 4 then decide (lw_tbl[d]? = some (.fieldLink q.1.cls idx "java/lang/String" "coder" "B")) else true) &&
  fldW q idx a b d && (if c = 0 ∨ c = 4 then ftN (ftk a b) else !(ftN (ftk a b)))
def okPf (q : Mrec) (idx a b c d : Nat) : Bool :=
  fldW q idx a b d && (if c = 0 ∨ c = 5 ∨ c = 6 ∨ c = 2 then !(fldFin a b) else fldFin a b && decide (q.1.name = "<init>") && decide (fldOwn a b = q.1.cls)) &&
  (if c = 0 ∨ c = 10 then decide (ftk a b = .int) else if c = 5 ∨ c = 15 then decide (ftk a b = .byte) else if c = 6 ∨ c = 16 then decide (ftk a b = .boolean) else !(ftN (ftk a b)))
theorem fit_b {x : Int} (h1 : -128 ≤ x) (h2 : x < 128) : fits .byte (.int (i32 x)) = true := by
  unfold fits
  have f1 : (-128 : Int32) ≤ i32 x := by have e9 : (-128 : Int32) = i32 (-128) := rfl
                                         rw [e9, i32_le (by unfold inI; omega) (by unfold inI; omega)]; omega
  have f2 : i32 x ≤ (127 : Int32) := by have e9 : (127 : Int32) = i32 127 := rfl
                                        rw [e9, i32_le (by unfold inI; omega) (by unfold inI; omega)]; omega
  simp [f1, f2]
theorem ft_ref {t : FieldType} (h : ftOk t = true) (h2 : ¬ ftN t = true) (a : Nat) : narrow t (.ref a) = .ref a ∧ fits t (.ref a) = true := by
  cases t <;> first | exact ⟨rfl, rfl⟩ | exact absurd rfl h2 | cases h
theorem ft_dfl {t : FieldType} (h : ftOk t = true) : defaultValue t = if ftN t = true then .int 0 else .null := by
  cases t <;> first | rfl | cases h
theorem cat_le {ad : Nat → Nat} {sp : Nat → Value} (hsp : ∀ k, (sp k).category = 1) : ∀ st : List AV, ((st.map (conc ad sp)).map fun v => v.category).sum ≤ 2 * st.length
  | [] => Nat.le_refl _
  | v :: r => by
    have h1 := cat_le (ad := ad) hsp r
    have h2 := cat_conc (ad := ad) hsp v
    simp only [List.map_cons, List.sum_cons, List.length_cons]
    rw [h2]
    split <;> omega
section MEMI
variable {p : Program} {l : Launch} {e : Env} {R : Room} {s : State} {m : MethodId} {args : Array Value} {below : List Frame} {meth : Method} {c : Code} {K : Kx} {J : Jx} {q : Mrec} {r : Nat} {Q : State → Prop} {pc pc' : Nat} {ls st ls' st' : List AV} {mem mem' : Mem}
theorem g_gf {idx a b cc d : Nat} (C : CX p l R s m args meth c K q r) (hd : decode q.2.1 pc = .ok (.getfield idx, 3)) (hw : okGf q idx a b cc d = true)
    (h : o_gf a b cc (pc + 3) ls st mem = some (.inl (pc', ls', st', mem'))) (k : GO p l e R s m args below meth c K J q Q pc' ls' st' mem') : GO p l e R s m args below meth c K J q Q pc ls st mem := by
  unfold o_gf at h
  unfold okGf at hw
  split at h
  · rename_i o rr
    split at h
    · rename_i ht
      split at h
      · rename_i hc
        obtain ⟨rfl, rfl, rfl, rfl⟩ := go_inj h
        intro ad H LS locs cells slots d0
        obtain ⟨v1, v2⟩ := vok_cons d0.2.2.2.1
        have kk := k _ _ _ _ _ _ (d0.stk (cons_vok (v := vi (mI mem' o b)) ((d0.2.2.2.2.2.2.2.1 _ _ _ ht).2.2.2 b).1 v2))
        have hcase : cc = 20 ∨ (cc = 0 ∨ cc = 4) ∧ cc ≠ 20 ∧ cc ≠ 22 := by omega
        rcases hcase with rfl | ⟨hc0, hc1, hc2⟩
        · rw [if_pos rfl, Bool.and_eq_true] at hw
          obtain ⟨w, w1, w2, w3, w4⟩ := fldN_spec hw.1
          have hv := fs_at (ad := ad) (m := mem') (o := o) (c := a) (b := b) (by omega)
          have he : fVal ad mem' o a b = .int (i32 (mI mem' o b)) := by unfold fVal; rw [if_pos hw.2]
          rw [he] at hv
          exact va_getN C.1 C.2.1 C.hts (uws_in w1) C.own C.hK d0.2.2.2.2.1 o (by rw [wld_at ht, e_obj ht]) w1 b w2 (C.w w4 rfl) (fun x hx => hx) hv hd kk
        · rw [if_neg hc1, if_neg hc2, if_pos hc0, Bool.and_eq_true, Bool.and_eq_true] at hw
          obtain ⟨w, w1, w2, w3, w4, -⟩ := fldW_spec hw.1.2
          have hv := fs_at (ad := ad) (m := mem') (o := o) (c := a) (b := b) (by omega)
          have he : fVal ad mem' o a b = .int (i32 (mI mem' o b)) := by unfold fVal; rw [if_pos hw.2]
          rw [he] at hv
          exact va_get C.1 C.2.1 C.hts (uws_in w1) C.own C.hK d0.2.2.2.2.1 o (by rw [wld_at ht, e_obj ht]) w1 b w2 (C.w w4 rfl) (fun x hx => hx) hv hd kk
      · split at h
        · rename_i hc0 hc
          split at h
          · rename_i v hv0
            obtain ⟨rfl, rfl, rfl, rfl⟩ := go_inj h
            intro ad H LS locs cells slots d0
            obtain ⟨v1, v2⟩ := vok_cons d0.2.2.2.1
            have kk := k _ _ _ _ _ _ (d0.stk (cons_vok (v := vr v) (by have := ((d0.2.2.2.2.2.2.2.1 _ _ _ ht).2.2.2 b).2; rw [hv0] at this; exact this) v2))
            have hcase : cc = 22 ∨ ¬ (cc = 0 ∨ cc = 4) ∧ cc ≠ 20 ∧ cc ≠ 22 := by omega
            rcases hcase with rfl | ⟨hc3, hc1, hc2⟩
            · rw [if_neg (by decide), if_pos rfl, Bool.and_eq_true, Bool.not_eq_true'] at hw
              obtain ⟨w, w1, w2, w3, w4⟩ := fldN_spec hw.1
              have hv := fs_at (ad := ad) (m := mem') (o := o) (c := a) (b := b) (by omega)
              have he : fVal ad mem' o a b = .ref (ad v) := by unfold fVal; rw [if_neg (by rw [hw.2]; decide), hv0]; rfl
              rw [he] at hv
              exact va_getN C.1 C.2.1 C.hts (uws_in w1) C.own C.hK d0.2.2.2.2.1 o (by rw [wld_at ht, e_obj ht]) w1 b w2 (C.w w4 rfl) (fun x hx => hx) hv hd kk
            · rw [if_neg hc1, if_neg hc2, if_neg hc3, Bool.and_eq_true, Bool.and_eq_true, Bool.not_eq_true'] at hw
              obtain ⟨w, w1, w2, w3, w4, -⟩ := fldW_spec hw.1.2
              have hv := fs_at (ad := ad) (m := mem') (o := o) (c := a) (b := b) (by omega)
              have he : fVal ad mem' o a b = .ref (ad v) := by unfold fVal; rw [if_neg (by rw [hw.2]; decide), hv0]; rfl
              rw [he] at hv
              exact va_get C.1 C.2.1 C.hts (uws_in w1) C.own C.hK d0.2.2.2.2.1 o (by rw [wld_at ht, e_obj ht]) w1 b w2 (C.w w4 rfl) (fun x hx => hx) hv hd kk
          · cases h
        · cases h
    · cases h
  · rename_i k0 rr
    split at h
    · rename_i hk
      obtain ⟨i, rfl⟩ : ∃ i, k0 = 2 * i := ⟨k0 / 2, by omega⟩
      have hi : i < 53 := by omega
      split at h
      · rename_i hc
        subst hc
        obtain ⟨rfl, rfl, rfl, rfl⟩ := go_inj h
        rw [if_neg (by decide), if_neg (by decide), if_pos rfl, Bool.and_eq_true, Bool.and_eq_true] at hw
        intro ad H LS locs cells slots d0
        obtain ⟨v1, v2⟩ := vok_cons d0.2.2.2.1
        have e1 : conc ad (ksp K) (vs (2 * i + 4)) = .ref (kad K (2 * i)) := C.kS.2.2.1 _
        have e2 : conc ad (ksp K) (vs (2 * i + 5)) = .ref (kad K (2 * i + 1)) := C.kS.2.2.1 _
        rw [List.map_cons, e1]
        refine vk_getf C.1 C.2.1 (C.old.2.1 i hi).2.2.2.1 d0.2.2.2.2.2.2.1 C.own (C.w (of_decide_eq_true hw.1.1) rfl) (fun x hx => hx) hd ?_
        have := k _ _ _ _ _ _ (d0.stk (cons_vok (v := vs (2 * i + 5)) trivial v2))
        rw [List.map_cons, e2] at this
        exact this
      · split at h
        · rename_i hc0 hc
          subst hc
          obtain ⟨rfl, rfl, rfl, rfl⟩ := go_inj h
          rw [if_neg (by decide), if_neg (by decide), if_neg (by decide), if_pos rfl, Bool.and_eq_true, Bool.and_eq_true] at hw
          intro ad H LS locs cells slots d0
          obtain ⟨v1, v2⟩ := vok_cons d0.2.2.2.1
          have e1 : conc ad (ksp K) (vs (2 * i + 4)) = .ref (kad K (2 * i)) := C.kS.2.2.1 _
          rw [List.map_cons, e1]
          refine vk_getf C.1 C.2.1 (C.old.2.1 i hi).2.2.1 d0.2.2.2.2.2.2.1 C.own (C.w (of_decide_eq_true hw.1.1) rfl) (fun x hx => hx) hd ?_
          exact k _ _ _ _ _ _ (d0.stk (cons_vok (v := vi 0) (by show inI 0; unfold inI; omega) v2))
        · cases h
    · cases h
  · cases h
theorem g_pf {idx a b cc d : Nat} (C : CX p l R s m args meth c K q r) (hd : decode q.2.1 pc = .ok (.putfield idx, 3)) (hw : okPf q idx a b cc d = true)
    (h : o_pf a b cc (pc + 3) ls st mem = some (.inl (pc', ls', st', mem'))) (k : GO p l e R s m args below meth c K J q Q pc' ls' st' mem') : GO p l e R s m args below meth c K J q Q pc ls st mem := by
  unfold okPf at hw
  rw [Bool.and_eq_true, Bool.and_eq_true] at hw
  obtain ⟨⟨hw, hw3⟩, hw2⟩ := hw
  obtain ⟨w, w1, w2, w3, w4, w5, w6, w7, w8⟩ := fldW_spec hw
  unfold o_pf at h
  split at h
  · rename_i x o rr
    split at h
    · rename_i ht
      have key : ∀ (ty : FieldType), ftk a b = ty → ftN ty = true → narrow ty (.int (i32 x)) = .int (i32 x) → fits ty (.int (i32 x)) = true → GO p l e R s m args below meth c K J q Q (pc + 3) ls rr (sI mem o b x) → GO p l e R s m args below meth c K J q Q pc ls (Sum.inl x :: Sum.inr (Sum.inr (Sum.inl o)) :: rr) mem := by
        intro ty hty hn n1 n2 k
        intro ad H LS locs cells slots d0
        obtain ⟨v1, v2⟩ := vok_cons d0.2.2.2.1
        obtain ⟨v2, v3⟩ := vok_cons v2
        have hty' : parseFieldDescriptor (w.2.1 b).2.2.1 = some ty := by rw [w7 b w2, hty]
        have hN : ftN (ftk a b) = true := by rw [hty]; exact hn
        by_cases hf : cc = 0 ∨ cc = 5 ∨ cc = 6 ∨ cc = 2
        · rw [if_pos hf, Bool.not_eq_true'] at hw3
          refine va_put C.1 C.2.1 C.hts (uws_in w1) (ftk a) w7 w8 C.own C.hK d0.2.2.2.2.1 d0.2.2.2.2.2.1 d0.2.2.2.2.2.2.1 o (by rw [wld_at ht, e_obj ht]) w1 b w2 (C.w w4 rfl) (fun x hx => hx) (by rw [← w5]; exact hw3) hty' (v := .int (i32 x)) n1 n2 (by simp; omega) hd ?_
          intro H1 locs1 a1 a2 a3
          rw [← wld_pI ht hN] at a1 a2
          exact k _ _ _ _ _ _ (d0.mem (mem' := sI mem o b x) rfl v3 a1 a2 a3 (WF_sI d0.2.2.2.2.2.2.2.1 ht v1) rfl rfl)
        · rw [if_neg hf, Bool.and_eq_true, Bool.and_eq_true] at hw3
          refine va_putF C.1 C.2.1 C.hts (uws_in w1) (ftk a) w7 w8 C.own C.hK d0.2.2.2.2.1 d0.2.2.2.2.2.1 d0.2.2.2.2.2.2.1 o (by rw [wld_at ht, e_obj ht]) w1 b w2 (C.w w4 rfl) (fun x hx => hx) (by rw [← w5]; exact hw3.1.1) (C.2.2.2.2.2.2.2.2.2.1.trans (of_decide_eq_true hw3.1.2)) (by rw [← w6]; exact of_decide_eq_true hw3.2) hty' (v := .int (i32 x)) n1 n2 (by simp; omega) hd ?_
          intro H1 locs1 a1 a2 a3
          rw [← wld_pI ht hN] at a1 a2
          exact k _ _ _ _ _ _ (d0.mem (mem' := sI mem o b x) rfl v3 a1 a2 a3 (WF_sI d0.2.2.2.2.2.2.2.1 ht v1) rfl rfl)
      split at h
      · rename_i hc
        obtain ⟨rfl, rfl, rfl, rfl⟩ := go_inj h
        rw [if_pos hc] at hw2
        exact key .int (of_decide_eq_true hw2) rfl rfl rfl k
      · rename_i hc1
        rw [if_neg hc1] at hw2
        split at h
        · rename_i hc
          obtain ⟨rfl, rfl, rfl, rfl⟩ := go_inj h
          rw [if_pos hc.1] at hw2
          obtain ⟨-, x1, x2⟩ := hc
          have hx : (Int8.ofInt x).toInt32 = i32 x := i8_i32 ⟨x1, x2⟩
          refine key .byte (of_decide_eq_true hw2) rfl ?_ (fit_b x1 x2) k
          show Value.int (vp_nar .byte (i32 x)) = _
          rw [nar_byte (by unfold inI; omega)]
          have : wb x = x := by unfold wb; omega
          rw [this]
        · rename_i hc2
          split at h
          · rename_i hc
            obtain ⟨rfl, rfl, rfl, rfl⟩ := go_inj h
            rw [if_neg (by omega), if_pos hc.1] at hw2
            obtain ⟨-, x1, x2⟩ := hc
            have hx : x = 0 ∨ x = 1 := by omega
            exact key .boolean (of_decide_eq_true hw2) rfl (by rcases hx with rfl | rfl <;> rfl) (by rcases hx with rfl | rfl <;> rfl) k
          · cases h
    · cases h
  · rename_i v o rr
    split at h
    · rename_i hh
      obtain ⟨ht, hc⟩ := hh
      obtain ⟨rfl, rfl, rfl, rfl⟩ := go_inj h
      rw [if_neg (by omega), if_neg (by omega), if_neg (by omega), Bool.not_eq_true'] at hw2
      have hi : ¬ ftN (ftk a b) = true := by rw [hw2]; decide
      have n12 := ft_ref (ft_all a b) hi
      have n1 := fun x => (n12 x).1
      have n2 := fun x => (n12 x).2
      intro ad H LS locs cells slots d0
      obtain ⟨v1, v2⟩ := vok_cons d0.2.2.2.1
      obtain ⟨v2, v3⟩ := vok_cons v2
      rcases hc with rfl | rfl
      · rw [if_pos (by decide), Bool.not_eq_true'] at hw3
        refine va_put C.1 C.2.1 C.hts (uws_in w1) (ftk a) w7 w8 C.own C.hK d0.2.2.2.2.1 d0.2.2.2.2.2.1 d0.2.2.2.2.2.2.1 o (by rw [wld_at ht, e_obj ht]) w1 b w2 (C.w w4 rfl) (fun x hx => hx) (by rw [← w5]; exact hw3) (w7 b w2) (v := .ref (ad v)) (n1 _) (n2 _) (by simp; omega) hd ?_
        intro H1 locs1 a1 a2 a3
        rw [← wld_pR ht hi] at a1 a2
        exact k _ _ _ _ _ _ (d0.mem (mem' := sR mem o b (v + 1)) rfl v3 a1 a2 a3 (WF_sR d0.2.2.2.2.2.2.2.1 v1) rfl rfl)
      · rw [if_neg (by decide), Bool.and_eq_true, Bool.and_eq_true] at hw3
        refine va_putF C.1 C.2.1 C.hts (uws_in w1) (ftk a) w7 w8 C.own C.hK d0.2.2.2.2.1 d0.2.2.2.2.2.1 d0.2.2.2.2.2.2.1 o (by rw [wld_at ht, e_obj ht]) w1 b w2 (C.w w4 rfl) (fun x hx => hx) (by rw [← w5]; exact hw3.1.1) (C.2.2.2.2.2.2.2.2.2.1.trans (of_decide_eq_true hw3.1.2)) (by rw [← w6]; exact of_decide_eq_true hw3.2) (w7 b w2) (v := .ref (ad v)) (n1 _) (n2 _) (by simp; omega) hd ?_
        intro H1 locs1 a1 a2 a3
        rw [← wld_pR ht hi] at a1 a2
        exact k _ _ _ _ _ _ (d0.mem (mem' := sR mem o b (v + 1)) rfl v3 a1 a2 a3 (WF_sR d0.2.2.2.2.2.2.2.1 v1) rfl rfl)
    · cases h
  · cases h
theorem ty_at (ca : Nat → ClassId) : (tysOf ca)[0]? = some (ca 1, .int) ∧ (tysOf ca)[1]? = some (ca 2, .long) ∧ (tysOf ca)[2]? = some (ca 3, .byte) ∧ (tysOf ca)[3]? = some (ca 4, .boolean) ∧ (tysOf ca)[4]? = some (ca 5, .object "DropSwitch$State") := ⟨rfl, rfl, rfl, rfl, rfl⟩
theorem ty_6 (ca : Nat → ClassId) : (tysOf ca)[5]? = some (ca 6, .array .int) := rfl
theorem inR_nn {i : Int} {n : Nat} (h : inR i n = true) : 0 ≤ i ∧ i < n := by unfold inR at h; simpa using h
theorem g_ia (C : CX p l R s m args meth c K q r) (hd : decode q.2.1 pc = .ok (.iaload, 1))
    (h : o_ia (kxs K) (pc + 1) ls st mem = some (.inl (pc', ls', st', mem'))) (k : GO p l e R s m args below meth c K J q Q pc' ls' st' mem') : GO p l e R s m args below meth c K J q Q pc ls st mem := by
  unfold o_ia at h
  split at h
  · rename_i i o rr
    split at h
    · rename_i n ht
      split at h
      · rename_i hi
        obtain ⟨rfl, rfl, rfl, rfl⟩ := go_inj h
        intro ad H LS locs cells slots d0
        obtain ⟨v1, v2⟩ := vok_cons d0.2.2.2.1
        obtain ⟨v2, v3⟩ := vok_cons v2
        refine va_iald C.1 C.2.1 C.hK d0.2.2.2.2.1 o 0 (by rw [wld_at ht, e_int ht (Or.inl rfl)]) (ty_at _).1 (i32_in v1 hi) hd ?_
        rw [i32_clamp v1]
        exact k _ _ _ _ _ _ (d0.stk (cons_vok (v := vi _) ((d0.2.2.2.2.2.2.2.1 _ _ _ ht).2.2.2 _).1 v3))
      · cases h
    · cases h
  · rename_i i rr
    split at h
    · rename_i hi
      obtain ⟨rfl, rfl, rfl, rfl⟩ := go_inj h
      intro ad H LS locs cells slots d0
      obtain ⟨v1, v2⟩ := vok_cons d0.2.2.2.1
      obtain ⟨v2, v3⟩ := vok_cons v2
      have e1 : conc ad (ksp K) (vs 3) = .ref (kb K) := C.kS.2.1
      have e0 : (vi i :: vs 3 :: rr).map (conc ad (ksp K)) = .int (i32 i) :: .ref (kb K) :: rr.map (conc ad (ksp K)) := by rw [List.map_cons, List.map_cons, e1]; rfl
      rw [e0]
      refine va_sld C.1 C.2.1 C.old.1 (Nat.lt_of_lt_of_le C.kS.2.2.2.2.2.1 (C.2.2.2.2.2.2.2.2.2.2.2.1)) (fun hq => absurd C.kS.2.2.2.2.2.1 (Nat.not_lt.mpr hq)) d0.2.2.2.2.2.2.1 (i32_in v1 hi) hd ?_
      rw [i32_clamp v1]
      obtain ⟨i0, i1⟩ := inR_nn hi
      refine k _ _ _ _ _ _ (d0.stk (cons_vok (v := vi _) (C.kS.2.2.2.1 _ ?_) v3))
      rw [List.getD_eq_getElem?_getD, List.getElem?_eq_getElem (by omega)]
      exact List.getElem_mem _
    · cases h
  · cases h
theorem g_ba (C : CX p l R s m args meth c K q r) (hd : decode q.2.1 pc = .ok (.baload, 1))
    (h : o_ba (pc + 1) ls st mem = some (.inl (pc', ls', st', mem'))) (k : GO p l e R s m args below meth c K J q Q pc' ls' st' mem') : GO p l e R s m args below meth c K J q Q pc ls st mem := by
  unfold o_ba at h
  split at h
  · rename_i i o rr
    split at h
    · rename_i n ht
      split at h
      · rename_i hi
        obtain ⟨rfl, rfl, rfl, rfl⟩ := go_inj h
        intro ad H LS locs cells slots d0
        obtain ⟨v1, v2⟩ := vok_cons d0.2.2.2.1
        obtain ⟨v2, v3⟩ := vok_cons v2
        refine va_bald C.1 C.2.1 C.hK d0.2.2.2.2.1 o 2 (by rw [wld_at ht, e_int ht (Or.inr (Or.inl rfl))]) (ty_at _).2.2.1 (i32_in v1 hi) hd ?_
        rw [i32_clamp v1]
        exact k _ _ _ _ _ _ (d0.stk (cons_vok (v := vi _) (by have h9 : -128 ≤ mI mem' o i.toNat ∧ mI mem' o i.toNat < 128 := ((d0.2.2.2.2.2.2.2.1 _ _ _ ht).2.2.2 i.toNat).1; show inI _; unfold inI; omega) v3))
      · cases h
    · rename_i n ht
      split at h
      · rename_i hi
        obtain ⟨rfl, rfl, rfl, rfl⟩ := go_inj h
        intro ad H LS locs cells slots d0
        obtain ⟨v1, v2⟩ := vok_cons d0.2.2.2.1
        obtain ⟨v2, v3⟩ := vok_cons v2
        refine va_zald C.1 C.2.1 C.hK d0.2.2.2.2.1 o 3 (by rw [wld_at ht, e_int ht (Or.inr (Or.inr rfl))]) (ty_at _).2.2.2.1 (i32_in v1 hi) hd ?_
        rw [i32_clamp v1]
        exact k _ _ _ _ _ _ (d0.stk (cons_vok (v := vi _) (by have h9 : 0 ≤ mI mem' o i.toNat ∧ mI mem' o i.toNat < 2 := ((d0.2.2.2.2.2.2.2.1 _ _ _ ht).2.2.2 i.toNat).1; show inI _; unfold inI; omega) v3))
      · cases h
    · cases h
  · rename_i i k0 rr
    split at h
    · rename_i hk
      obtain ⟨hk1, hk2, hi⟩ := hk
      obtain ⟨j, rfl⟩ : ∃ j, k0 = 2 * j + 1 := ⟨k0 / 2, by omega⟩
      have ej : (2 * j + 1) / 2 = j := by omega
      rw [ej] at hi h
      have hj : j < 55 := by omega
      obtain ⟨rfl, rfl, rfl, rfl⟩ := go_inj h
      intro ad H LS locs cells slots d0
      obtain ⟨v1, v2⟩ := vok_cons d0.2.2.2.1
      obtain ⟨v2, v3⟩ := vok_cons v2
      have e1 : conc ad (ksp K) (vs (2 * j + 1 + 4)) = .ref (kad K (2 * j + 1)) := C.kS.2.2.1 _
      have e0 : (vi i :: vs (2 * j + 1 + 4) :: rr).map (conc ad (ksp K)) = .int (i32 i) :: .ref (kad K (2 * j + 1)) :: rr.map (conc ad (ksp K)) := by rw [List.map_cons, List.map_cons, e1]; rfl
      rw [e0]
      refine va_tb C.1 C.2.1 (cx_row C j hj) d0.2.2.2.2.2.2.1 (i32_in v1 hi) rfl hd ?_
      rw [i32_clamp v1]
      refine k _ _ _ _ _ _ (d0.stk (cons_vok (v := vi _) ?_ v3))
      have : ∀ t ∈ stb, ∀ x ∈ t, 0 ≤ x ∧ x < 128 := by decide +kernel
      show inI _
      rw [List.getD_eq_getElem?_getD]
      cases e9 : (stb.getD j [])[i.toNat]? with
      | none => show inI 0; unfold inI; omega
      | some x =>
        have hx := List.mem_of_getElem? e9
        have hs : stb.getD j [] ∈ stb := by
          rw [List.getD_eq_getElem?_getD] at hx ⊢
          cases e8 : stb[j]? with
          | none => rw [e8] at hx; cases hx
          | some y => exact List.mem_of_getElem? e8
        have := this _ hs x hx
        show inI x
        unfold inI; omega
    · cases h
  · cases h
theorem g_la (C : CX p l R s m args meth c K q r) (hd : decode q.2.1 pc = .ok (.laload, 1))
    (h : o_la (pc + 1) ls st mem = some (.inl (pc', ls', st', mem'))) (k : GO p l e R s m args below meth c K J q Q pc' ls' st' mem') : GO p l e R s m args below meth c K J q Q pc ls st mem := by
  unfold o_la at h
  split at h
  · rename_i i o rr
    split at h
    · rename_i n ht
      split at h
      · rename_i hi
        obtain ⟨rfl, rfl, rfl, rfl⟩ := go_inj h
        intro ad H LS locs cells slots d0
        obtain ⟨v1, v2⟩ := vok_cons d0.2.2.2.1
        obtain ⟨v2, v3⟩ := vok_cons v2
        refine va_lald C.1 C.2.1 C.hK d0.2.2.2.2.1 o 1 (by rw [wld_at ht, e_lng ht]) (ty_at _).2.1 (i32_in v1 hi) hd ?_
        rw [i32_clamp v1]
        exact k _ _ _ _ _ _ (d0.stk (cons_vok (v := vl _) ((d0.2.2.2.2.2.2.2.1 _ _ _ ht).2.2.2 _).1 v3))
      · cases h
    · cases h
  · cases h
theorem aald6 {cc : ByteArray} {H : Heap} {locs : List Loc} {cells slots : Nat} {ls : Array Slot} {rest : List Value} {D : va_G} {cl : List vw_C} {a : Nat} {tys : List (ClassId × FieldType)} {ws : va_W} (hexec : p.tables.exec = Jvm.exec) (hb : c.code = cc) (hK : va_K D cl tys s) (hP : va_P D cl ws H) (q0 t0 : Nat) {cA : ClassId} {n : Nat} {f : Nat → Option Nat} (ha : ws[q0]? = some (a, .inl (cA, n, .inr (.inr (.inr (.inr f)))))) (ht : tys[t0]? = some (cA, .array .int)) {i : Int32} (hin : vp_in i n) (hdg : decode cc pc = .ok (.aaload, 1))
    (kk : W p l e R s m args below meth c H locs cells slots Q (F0 m (pc + 1) ls (va_rf (f i.toNatClampNeg) :: rest))) : W p l e R s m args below meth c H locs cells slots Q (F0 m pc ls (.int i :: .ref a :: rest)) := by
  have hlt : i.toNatClampNeg < n := Nat.not_le.mp fun q => hin (Or.inr q)
  exact W.aald (v := va_rf (f i.toNatClampNeg)) (ty := .array .int) hexec hb (hP q0 _ ha) ((hK.2 t0 _ ht).1 n (fun j => va_rf (f j))) rfl (fun q => by cases q) (by show ¬ (i < 0 ∨ (arrV _ _ _).slots.size ≤ _); rw [arrV_size]; exact hin) (by show (arrV _ _ _).slots[_]? = _; rw [arrV_read _ _ hlt]) rfl rfl hdg kk
theorem g_aa (C : CX p l R s m args meth c K q r) (hd : decode q.2.1 pc = .ok (.aaload, 1))
    (h : o_aa (pc + 1) ls st mem = some (.inl (pc', ls', st', mem'))) (k : GO p l e R s m args below meth c K J q Q pc' ls' st' mem') : GO p l e R s m args below meth c K J q Q pc ls st mem := by
  unfold o_aa at h
  split at h
  · rename_i i o rr
    split at h
    · rename_i n ht
      split at h
      · rename_i hi
        split at h
        · rename_i v hv
          obtain ⟨rfl, rfl, rfl, rfl⟩ := go_inj h
          intro ad H LS locs cells slots d0
          obtain ⟨v1, v2⟩ := vok_cons d0.2.2.2.1
          obtain ⟨v2, v3⟩ := vok_cons v2
          refine va_aldq C.1 C.2.1 C.hK d0.2.2.2.2.1 o 4 (by rw [wld_at ht, e_ref ht]) (ty_at _).2.2.2.2 (i32_in v1 hi) hd ?_
          rw [i32_clamp v1, hv]
          exact k _ _ _ _ _ _ (d0.stk (cons_vok (v := vr v) (by have := ((d0.2.2.2.2.2.2.2.1 _ _ _ ht).2.2.2 i.toNat).2; rw [hv] at this; exact this) v3))
        · cases h
      · cases h
    · rename_i n ht
      split at h
      · rename_i hi
        split at h
        · rename_i v hv
          obtain ⟨rfl, rfl, rfl, rfl⟩ := go_inj h
          intro ad H LS locs cells slots d0
          obtain ⟨v1, v2⟩ := vok_cons d0.2.2.2.1
          obtain ⟨v2, v3⟩ := vok_cons v2
          refine aald6 C.1 C.2.1 C.hK d0.2.2.2.2.1 o 5 (by rw [wld_at ht, e_ref6 ht]) (ty_6 _) (i32_in v1 hi) hd ?_
          rw [i32_clamp v1, hv]
          exact k _ _ _ _ _ _ (d0.stk (cons_vok (v := vr v) (by have := ((d0.2.2.2.2.2.2.2.1 _ _ _ ht).2.2.2 i.toNat).2; rw [hv] at this; exact this) v3))
        · cases h
      · cases h
    · cases h
  · cases h
theorem g_iS (C : CX p l R s m args meth c K q r) (hd : decode q.2.1 pc = .ok (.iastore, 1))
    (h : o_iS (pc + 1) ls st mem = some (.inl (pc', ls', st', mem'))) (k : GO p l e R s m args below meth c K J q Q pc' ls' st' mem') : GO p l e R s m args below meth c K J q Q pc ls st mem := by
  unfold o_iS at h
  split at h
  · rename_i x i o rr
    split at h
    · rename_i n ht
      split at h
      · rename_i hi
        obtain ⟨rfl, rfl, rfl, rfl⟩ := go_inj h
        intro ad H LS locs cells slots d0
        obtain ⟨v0, v1⟩ := vok_cons d0.2.2.2.1
        obtain ⟨v1, v2⟩ := vok_cons v1
        obtain ⟨v2, v3⟩ := vok_cons v2
        refine va_iast C.1 C.2.1 C.hK d0.2.2.2.2.1 d0.2.2.2.2.2.1 d0.2.2.2.2.2.2.1 o 0 (by rw [wld_at ht, e_int ht (Or.inl rfl)]) (ty_at _).1 (i32_in v1 hi) hd ?_
        intro H1 locs1 a1 a2 a3
        rw [i32_clamp v1, ← wld_aI ht (Or.inl rfl)] at a1 a2
        exact k _ _ _ _ _ _ (d0.mem (mem' := sI mem o i.toNat x) rfl v3 a1 a2 a3 (WF_sI d0.2.2.2.2.2.2.2.1 ht v0) rfl rfl)
      · cases h
    · cases h
  · cases h
theorem g_bS (C : CX p l R s m args meth c K q r) (hd : decode q.2.1 pc = .ok (.bastore, 1))
    (h : o_bS (pc + 1) ls st mem = some (.inl (pc', ls', st', mem'))) (k : GO p l e R s m args below meth c K J q Q pc' ls' st' mem') : GO p l e R s m args below meth c K J q Q pc ls st mem := by
  unfold o_bS at h
  split at h
  · rename_i x i o rr
    split at h
    · rename_i n ht
      split at h
      · rename_i hi
        obtain ⟨rfl, rfl, rfl, rfl⟩ := go_inj h
        intro ad H LS locs cells slots d0
        obtain ⟨v0, v1⟩ := vok_cons d0.2.2.2.1
        obtain ⟨v1, v2⟩ := vok_cons v1
        obtain ⟨v2, v3⟩ := vok_cons v2
        refine va_bast C.1 C.2.1 C.hK d0.2.2.2.2.1 d0.2.2.2.2.2.1 d0.2.2.2.2.2.2.1 o 2 (by rw [wld_at ht, e_int ht (Or.inr (Or.inl rfl))]) (ty_at _).2.2.1 (i32_in v1 hi) hd ?_
        intro H1 locs1 a1 a2 a3
        rw [i32_clamp v1, nar_byte v0, ← wld_aI ht (Or.inr (Or.inl rfl))] at a1 a2
        exact k _ _ _ _ _ _ (d0.mem (mem' := sI mem o i.toNat (wb x)) rfl v3 a1 a2 a3 (WF_sI d0.2.2.2.2.2.2.2.1 ht (wb_in x)) rfl rfl)
      · cases h
    · rename_i n ht
      split at h
      · rename_i hi
        obtain ⟨rfl, rfl, rfl, rfl⟩ := go_inj h
        intro ad H LS locs cells slots d0
        obtain ⟨v0, v1⟩ := vok_cons d0.2.2.2.1
        obtain ⟨v1, v2⟩ := vok_cons v1
        obtain ⟨v2, v3⟩ := vok_cons v2
        refine va_zast C.1 C.2.1 C.hK d0.2.2.2.2.1 d0.2.2.2.2.2.1 d0.2.2.2.2.2.2.1 o 3 (by rw [wld_at ht, e_int ht (Or.inr (Or.inr rfl))]) (ty_at _).2.2.2.1 (i32_in v1 hi) hd ?_
        intro H1 locs1 a1 a2 a3
        rw [i32_clamp v1, nar_bool x, ← wld_aI ht (Or.inr (Or.inr rfl))] at a1 a2
        exact k _ _ _ _ _ _ (d0.mem (mem' := sI mem o i.toNat (x % 2)) rfl v3 a1 a2 a3 (WF_sI d0.2.2.2.2.2.2.2.1 ht (by show 0 ≤ x % 2 ∧ x % 2 < 2; omega)) rfl rfl)
      · cases h
    · cases h
  · cases h
theorem g_lS (C : CX p l R s m args meth c K q r) (hd : decode q.2.1 pc = .ok (.lastore, 1))
    (h : o_lS (pc + 1) ls st mem = some (.inl (pc', ls', st', mem'))) (k : GO p l e R s m args below meth c K J q Q pc' ls' st' mem') : GO p l e R s m args below meth c K J q Q pc ls st mem := by
  unfold o_lS at h
  split at h
  · rename_i x i o rr
    split at h
    · rename_i n ht
      split at h
      · rename_i hi
        obtain ⟨rfl, rfl, rfl, rfl⟩ := go_inj h
        intro ad H LS locs cells slots d0
        obtain ⟨v0, v1⟩ := vok_cons d0.2.2.2.1
        obtain ⟨v1, v2⟩ := vok_cons v1
        obtain ⟨v2, v3⟩ := vok_cons v2
        refine va_last C.1 C.2.1 C.hK d0.2.2.2.2.1 d0.2.2.2.2.2.1 d0.2.2.2.2.2.2.1 o 1 (by rw [wld_at ht, e_lng ht]) (ty_at _).2.1 (i32_in v1 hi) hd ?_
        intro H1 locs1 a1 a2 a3
        rw [i32_clamp v1, ← wld_aL ht] at a1 a2
        exact k _ _ _ _ _ _ (d0.mem (mem' := sI mem o i.toNat x) rfl v3 a1 a2 a3 (WF_sI d0.2.2.2.2.2.2.2.1 ht v0) rfl rfl)
      · cases h
    · cases h
  · cases h
theorem g_aS (C : CX p l R s m args meth c K q r) (hd : decode q.2.1 pc = .ok (.aastore, 1))
    (h : o_aS (pc + 1) ls st mem = some (.inl (pc', ls', st', mem'))) (k : GO p l e R s m args below meth c K J q Q pc' ls' st' mem') : GO p l e R s m args below meth c K J q Q pc ls st mem := by
  unfold o_aS at h
  split at h
  · rename_i v i o rr
    split at h
    · rename_i n ht
      split at h
      · rename_i hi
        obtain ⟨hi, hv⟩ := hi
        obtain ⟨rfl, rfl, rfl, rfl⟩ := go_inj h
        intro ad H LS locs cells slots d0
        obtain ⟨v0, v1⟩ := vok_cons d0.2.2.2.1
        obtain ⟨v1, v2⟩ := vok_cons v1
        obtain ⟨v2, v3⟩ := vok_cons v2
        refine va_astq C.1 C.2.1 C.hK d0.2.2.2.2.1 d0.2.2.2.2.2.1 d0.2.2.2.2.2.2.1 o 4 v 7 (r := (RX7, TX7, 9)) (by rw [wld_at ht, e_ref ht]) (ty_at _).2.2.2.2 (by rw [wld_at hv, e_obj hv]) rfl (i32_in v1 hi) hd ?_
        intro H1 locs1 a1 a2 a3
        rw [i32_clamp v1, ← wld_aR ht] at a1 a2
        exact k _ _ _ _ _ _ (d0.mem (mem' := sR mem o i.toNat (v + 1)) rfl v3 a1 a2 a3 (WF_sR d0.2.2.2.2.2.2.2.1 v0) rfl rfl)
      · cases h
    · cases h
  · cases h
end MEMI
