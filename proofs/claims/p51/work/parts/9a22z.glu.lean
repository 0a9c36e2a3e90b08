/-! the glue -/
theorem glue (hAM : AMLAW) {p : Program} {e : Env} {s : State} {m : MethodId} {below : List Frame} {meth : Method} {c : Code} (l : Launch) (hflags : l.flags = flags0) {b L : Nat} {xs : Nat → Int32} (hL : L ≤ 260) (hnm : meth.name = "law") (htb : c.exceptionTable.toList = []) (C0 : lw_At p s m meth c b L xs) : W p l e room_1 s m #[Value.ref b] below meth c s.heap [] 0 0 (lw_Z below #[Value.ref b] s) (entryFrame m ([Value.ref b] : List Value).toArray 15) := by
  obtain ⟨hx, hb, hr, hml, hown, hts, hX, hbl, hlocks, hgv⟩ := C0
  have hl : l.stackTraces = false := by unfold Launch.stackTraces; rw [hflags]; decide
  have hm : ∀ {w : Cond}, w ∈ prem → w.before #[Value.ref b] s = true := fun h => flat_of_before _ hgv _ h
  have hf : ∀ {k : Nat} {w : Cond}, prem[k]? = some w → w.before #[Value.ref b] s = true := fun h => flat_of_before _ hgv _ (List.mem_of_getElem? h)
  have hA : ∀ a : Nat, a < s.heap.size → ¬ (s.heap.size ≤ a) := fun a h => Nat.not_le.mpr h
  -- classes
  obtain ⟨D, hD⟩ := Classical.axiomOfChoice (α := Nat) (β := fun _ => ClassId × (Nat → Nat)) (r := fun a x => ∀ q : vw_C, vwCl[a]? = some q → u_Kn s q.1 q.2.1 q.2.2 x.1 x.2) (fun a => by
    cases hq : vwCl[a]? with
    | none => exact ⟨(0, fun _ => 0), fun q h => by cases h⟩
    | some q =>
      have ha : a < 14 := (List.getElem?_eq_some_iff.mp hq).1
      have hi := insw_ok a ha
      rw [hq] at hi
      obtain ⟨cC, iS, h⟩ := u_known (N := q.2.2) (n := q.2.2) hts (fun w hw => (List.mem_filter.mp (uws_in hq w hw)).1) (hts _ (List.mem_of_getElem? (of_decide_eq_true hi)))
      exact ⟨(cC, iS), fun q' h' => by cases h'; exact h⟩)
  -- arrays
  have hts' : ∀ w ∈ lw_tbl, w.onTables = true → w.before #[] s = true := fun w hw ho => va_tabs ho rfl (hts w hw)
  obtain ⟨c1, r1⟩ := arr_k (ty := .int) (fun C h => by cases h) (mv_word (a' := #[]) (State.WarmedH.refl s) rfl (hts _ (List.mem_of_getElem? acw_1)))
  obtain ⟨c2, r2⟩ := arr_k (ty := .long) (fun C h => by cases h) (mv_word (a' := #[]) (State.WarmedH.refl s) rfl (hts _ (List.mem_of_getElem? acw_2)))
  obtain ⟨c3, r3⟩ := arr_k (ty := .byte) (fun C h => by cases h) (mv_word (a' := #[]) (State.WarmedH.refl s) rfl (hts _ (List.mem_of_getElem? acw_3)))
  obtain ⟨c4, r4⟩ := arr_k (ty := .boolean) (fun C h => by cases h) (mv_word (a' := #[]) (State.WarmedH.refl s) rfl (hts _ (List.mem_of_getElem? acw_4)))
  have hAO : va_AO "DropSwitch$State" s := va_AO.of (hts _ (List.mem_of_getElem? aow))
  obtain ⟨c5, r5⟩ := arr_o hAO
  obtain ⟨c6, cI, k6, r6, r6', m1, m2, m3, m4⟩ := arr_oo (hts _ (List.mem_of_getElem? aiw))
  obtain ⟨cA1, kA1, comp1, w1, w2, w3⟩ := Cond.arrayClass_spec (mv_word (a' := #[]) (State.WarmedH.refl s) rfl (hts _ (List.mem_of_getElem? acw_1)))
  have n1 : "[" ++ FieldType.int.toString = "[I" := by decide +kernel
  have hcI : cI = c1 := by
    have h1 : s.vm.findClass "[I" = some c1 := va_nm_int r1.2
    exact Option.some.inj (m3.symm.trans h1)
  have hcA : cA1 = c1 := by
    have h1 : s.vm.findClass "[I" = some c1 := va_nm_int r1.2
    rw [n1] at w1
    exact Option.some.inj (w1.symm.trans h1)
  subst hcI
  subst hcA
  -- Integer's rows
  obtain ⟨t1, ht1, hT1⟩ := dg_row (nm := "DigitOnes") (i := 53) (A := fun x => s.heap.size ≤ x) (fun h => hm (dg_in1 h)) (by decide) hA
  obtain ⟨t2, ht2, hT2⟩ := dg_row (nm := "DigitTens") (i := 54) (A := fun x => s.heap.size ≤ x) (fun h => hm (dg_in2 h)) (by decide) hA
  -- strings
  obtain ⟨ad, had⟩ := Classical.axiomOfChoice (α := Nat) (β := fun _ => Nat × Nat) (r := fun i q => i < 53 → vk_R (stq i).1 (stq i).2.1 (stq i).2.2 q.1 s ∧ va_O "java/lang/String" q.1 (fun x => s.heap.size ≤ x) s s.heap ∧
    va_OF "java/lang/String" "coder" "B" (.int 0) q.1 (fun x => s.heap.size ≤ x) s s.heap ∧ va_OF "java/lang/String" "value" "[B" (.ref q.2) q.1 (fun x => s.heap.size ≤ x) s s.heap ∧
    va_T .byte q.2 (stl i) (fun j => .int (i32 ((stb.getD i []).getD j 0))) (fun x => s.heap.size ≤ x) s s.heap) (fun i => by
    by_cases hi : i < 53
    · obtain ⟨a, c, cA, kA, q1, q2, q3, q4, q5, q6, -⟩ := Cond.exactly_spec (args := #[Value.ref b]) (first := s) (o := none) (s := s) (idx := []) (t := stT i) (cls := "java/lang/String") (hm (stw_x hi))
      obtain ⟨t, ht, hT⟩ := va_Tof (f := fun j => .int (i32 ((stb.getD i []).getD j 0))) (A := fun x => s.heap.size ≤ x) (stl_s i hi) (hm (stw_a hi)) (va_eqt (hm (stw_l hi))) (fun j hj => va_eqt (hm (stw_e hi hj))) hA
      exact ⟨(a, t), fun _ => ⟨vk_R.of (hts _ (List.mem_of_getElem? (stw_R i hi))) q1, ⟨cA, q3, q5, by rw [q6]; exact q2, hA a (Array.getElem?_eq_some_iff.mp q3).1⟩, vk_OFof q1 (va_eqt (hm (stw_c hi))) hA, vk_OFof q1 ht hA, hT⟩⟩
    · exact ⟨(0, 0), fun h => absurd h hi⟩)
  -- the formatter
  obtain ⟨vF, hF1, hF2⟩ := Cond.isRef_spec (hf fmv1)
  have hF3 : vF.category = 1 := by cases vF <;> first | rfl | cases hF2
  let kd : Nat → Nat := fun k => if k = 107 then t1 else if k = 109 then t2 else if k % 2 = 0 then (ad (k / 2)).1 else (ad (k / 2)).2
  let sp : Nat → Value := fun k => match k with
    | 1 => vF
    | 3 => .ref b
    | n + 4 => .ref (kd n)
    | _ => .null
  let ca : Nat → ClassId := fun k => match k with
    | 1 => cA1
    | 2 => c2
    | 3 => c3
    | 4 => c4
    | 5 => c5
    | _ => c6
  let K : Kx := (ca, ((fun a => (D a).1), (fun a => (D a).2)), sp, kd, b, (List.range L).map (fun j => (xs j).toInt), s.heap.size)
  have e0 : ∀ i, kad K (2 * i) = (ad i).1 := fun i => by
    show (if 2 * i = 107 then t1 else if 2 * i = 109 then t2 else if 2 * i % 2 = 0 then (ad (2 * i / 2)).1 else (ad (2 * i / 2)).2) = _
    rw [if_neg (by omega), if_neg (by omega), if_pos (by omega), show 2 * i / 2 = i by omega]
  have e1 : ∀ i, i < 53 → kad K (2 * i + 1) = (ad i).2 := fun i hi => by
    show (if 2 * i + 1 = 107 then t1 else if 2 * i + 1 = 109 then t2 else if (2 * i + 1) % 2 = 0 then (ad ((2 * i + 1) / 2)).1 else (ad ((2 * i + 1) / 2)).2) = _
    rw [if_neg (by omega), if_neg (by omega), if_neg (by omega), show (2 * i + 1) / 2 = i by omega]
  have hxs : ∀ x ∈ kxs K, inI x := fun x hx => by
    obtain ⟨j, -, rfl⟩ := List.mem_map.mp hx
    exact toInt_in _
  have hlen : (kxs K).length = L := by show ((List.range L).map _).length = L; simp
  have hK : KSp K := ⟨fun k => by
    match k with
    | 0 => rfl
    | 1 => exact hF3
    | 2 => rfl
    | 3 => rfl
    | n + 4 => rfl, rfl, fun _ => rfl, hxs, by rw [hlen]; omega, hbl, rfl⟩
  have hOLD : OLD K s := by
    refine ⟨?_, fun i hi => ?_, va_Zof (hts _ (List.mem_of_getElem? csw)) (hts _ (List.mem_of_getElem? in_s)) (va_eqt (hf csv)) hA, va_Zof (hts _ (List.mem_of_getElem? fmw)) (hts _ (List.mem_of_getElem? in_p)) hF1 hA, vx_Zqof (hts _ (List.mem_of_getElem? unw)) (hts _ (List.mem_of_getElem? in_t)) (hf unv) hA, vx_Zqof (hts _ (List.mem_of_getElem? suw)) (hts _ (List.mem_of_getElem? in_t)) (hf suv) hA, hAO, fun y hy => ?_, ⟨fun i h1 h2 => ?_, va_Zof (hts _ (List.mem_of_getElem? dow)) (hts _ (List.mem_of_getElem? in_i)) ht1 hA, va_Zof (hts _ (List.mem_of_getElem? dtw)) (hts _ (List.mem_of_getElem? in_i)) ht2 hA⟩, ⟨k6, kA1, comp1, m1, m2, m4, w2, w3⟩⟩
    · rw [hlen]
      obtain ⟨scr, g1, g2, g3, g4, g5⟩ := hX
      refine ⟨scr, g1, g2, g3, g4, fun j hj => ?_⟩
      rw [g5 j hj]
      have : (kxs K).getD j 0 = (xs j).toInt := by
        show ((List.range L).map (fun j => (xs j).toInt)).getD j 0 = _
        rw [List.getD_eq_getElem?_getD, List.getElem?_map, List.getElem?_range hj]
        rfl
      show some (Value.int (xs j)) = some (Value.int (i32 ((kxs K).getD j 0)))
      rw [this, i32_of]
    · rw [e0, e1 i hi]
      exact had i hi
    · obtain ⟨i, hi, rfl⟩ := privY_all hy
      have hc := privY_c i hi
      exact va_Nw.of rfl (sel_p ⟨by rw [hc]; decide, by rw [hc]; decide⟩ (by rw [hc]; rfl) (hts _ (List.mem_of_getElem? slw)) (hts _ (List.mem_of_getElem? (pvw i hi).1)) (hts _ (List.mem_of_getElem? (pvw i hi).2)))
    · have hi : i = 53 ∨ i = 54 := by omega
      rcases hi with rfl | rfl
      · exact hT1
      · exact hT2
  have hVK : va_K (kD K) vwCl (tysOf (kca K)) s := ⟨fun a q hq => hD a q hq, fun k q hq => by
    rcases k with _ | _ | _ | _ | _ | _ | k
    · cases hq; exact r1
    · cases hq; exact r2
    · cases hq; exact r3
    · cases hq; exact r4
    · cases hq; exact r5
    · cases hq; exact ⟨r6, r6'⟩
    · simp [tysOf] at hq⟩
  obtain ⟨q, q0, q1, q2, q3, q4, q5⟩ := law_rec
  have hml9 : c.maxLocals = q.2.2.1 := by rw [hml, q3]
  have hC : CX p l room_1 s m #[Value.ref b] meth c K q 36 := by
    refine ⟨hx, by rw [hb, q2], hml9, by rw [q1]; exact hown, fun w hw => hts w (List.mem_filter.mp hw).1, hVK, hOLD, by rw [hr, q4], hlocks, ?_, ?_, Nat.le_refl _, hl, Nat.le_of_ble_eq_true rfl, Nat.le_of_ble_eq_true rfl, hK⟩
    · rw [hnm, q1]
    · rw [htb, q5]; rfl
  have hwf : WF lawM0 := fun a k n h => by simp [mT, lawM0] at h
  obtain ⟨n, o, hrun, ho⟩ := hAM (kxs K) hxs (by rw [hlen]; exact hL)
  obtain ⟨o, m1⟩ := o
  have ho : o = .inl (some (vi 1)) := ho
  subst ho
  rw [law_rk] at hrun
  have hd := DX.start (s := s) (m1 := m1) (K := K) (q := q) (M := 344) (ad := fun _ => 0) (as := [vs 3]) (mem := lawM0) hK q0 (fun k x h => by simp [wld, lawM0] at h) ⟨fun i j x y h => by simp [wld, lawM0] at h, fun k x h => by simp [wld, lawM0] at h⟩ hwf (fun v hv => by rw [List.mem_singleton.mp hv]; trivial) (by rw [q3]; exact Nat.le_of_ble_eq_true rfl)
  have hg := SND CHKT_ok hl hK n 344 36 0 (entryL 344 [vs 3]) [] lawM0 _ m1 hrun (Nat.le_refl _) (p := p) (e := e) (below := below) q0 hC (J := ((fun _ => 0), lawM0.1.length, mC lawM0, mS lawM0, mC m1, mS m1)) rfl rfl ⟨by show 600086 ≤ 600086 + _; omega, by show 7301442 ≤ 7301442 + _; omega⟩ _ _ _ _ _ _ hd
  rw [lg_entry_eq, ← q3]
  have eas : ([vs 3] : List AV).map (conc (fun _ => 0) (ksp K)) = [Value.ref b] := rfl
  rw [eas] at hg
  intro T hT X
  obtain ⟨t, st, h9⟩ := hg T hT X
  refine ⟨t, st, ?_⟩
  obtain ⟨oc, g1, g2, g3⟩ := h9
  refine ⟨oc, g1, g2, ?_⟩
  rcases g3 with ⟨⟨ad', w1, w2, w3⟩, LL, ⟨f1, f2, f3⟩, f4⟩ | ⟨qx, -, E, ce, L9, hX9, -⟩
  · refine ⟨w2, f1, f2, sbn_forget f3 (fun z hz => f4 z hz) ?_ ?_⟩
    · show 600086 - _ ≤ 600086
      omega
    · show 7301442 - _ ≤ 7301442
      omega
  · exact hX9.elim
