/-! soundness: the whole run -/
section SNDR
variable {p : Program} {l : Launch} {e : Env} {R : Room} {s : State} {m : MethodId} {args : Array Value} {below : List Frame} {meth : Method} {c : Code} {K : Kx} {J : Jx} {q : Mrec} {r M : Nat} {Q : State → Prop} {pc : Nat} {ls st : List AV} {mem m1 : Mem} {o : Res}
/-- a contract out of the body's walk -/
theorem CON_of (CH : CHKT) (hl : l.stackTraces = false) (hne : M ≠ 344) (hM : mtb[M]? = some q) {ad : Nat → Nat} {as : List AV} (hK : KSp K) (hW : WF mem) (hv : ∀ v ∈ as, vok mem.1.length v) (hlen : (lex as).length ≤ q.2.2.1) (hmn : MN mem m1)
    (body : ∀ (p : Program) (e : Env) (s : State) (m : MethodId) (args : Array Value) (below : List Frame) (meth : Method) (c : Code), CX p l (rmA r (mC mem - mC m1) (mS mem - mS m1)) s m args meth c K q r →
      GO p l e (rmA r (mC mem - mC m1) (mS mem - mS m1)) s m args below meth c K (ad, mem.1.length, mC mem, mS mem, mC m1, mS m1) q (QE K (ad, mem.1.length, mC mem, mS mem, mC m1, mS m1) below args s o m1) 0 (entryL M as) [] mem) :
    CON l K q r as ad mem o m1 := by
  obtain ⟨k1, k2, k3, k4, k5, k6, k7, k8, k9⟩ := okM_spec (CH.1.1 M q hne hM)
  have fin : ∀ p e s m args below meth c s₁, BodyLoose p l q.1 (headSpec [cwq q] (rmA r (mC mem - mC m1) (mS mem - mS m1))) q.2.1 q.2.2.1 q.2.2.2.1 e s m args below meth c s₁ → c.maxLocals = q.2.2.1 → c.exceptionTable.toList = tableOf q.2.2.2.2.1 → PcA K ad mem as args s →
      W p l e (headSpec [cwq q] (rmA r (mC mem - mC m1) (mS mem - mS m1))).room s m args below meth c s.heap [] 0 0 (vx_MQ below (QcA K ad mem.1.length o m1) (XcA K ad mem.1.length o m1) args s (mC mem - mC m1) (mS mem - mS m1) (kA K)) (entryFrame m args q.2.2.1) := by
    intro p e s m args below meth c s₁ B hml htab hP
    obtain ⟨p1, p2, p3, p4⟩ := hP
    have hC : CX p l (rmA r (mC mem - mC m1) (mS mem - mS m1)) s m args meth c K q r :=
      ⟨B.exec, B.bytes, hml, findClass_of_methodNamed B.named, fun w hw => mv_word (State.WarmedH.refl s) (GWs_mv hw) (p2.1 w hw), p2.2.1, p2.2.2.1, B.returns, B.notSynchronized, (name_of_methodNamed B.named B.method).1, htab, p2.2.2.2, hl, Nat.le_refl _, Nat.le_refl _, hK⟩
    have h9 := body p e s m args below meth c hC ad s.heap _ [] 0 0 (DX.start hK hM p3 p4 hW hv hlen)
    subst p1
    rw [lg_entry_eq]
    exact h9
  unfold CON
  by_cases h2 : q.2.2.2.2.2.1 = 2
  · have ew : [cwq q] = .codeWith q.1 q.2.1 q.2.2.1 q.2.2.2.1 q.2.2.2.2.1 :: [] := by unfold cwq; rw [if_pos h2]
    refine vx_ofWH k1 ew fun p e s m args below meth c s₁ B hml hP => fin p e s m args below meth c s₁ B hml ?_ hP
    exact vx_table (x := q.1) B (atoms_spec (ws := [cwq q]) B.pre _ (by rw [ew]; exact List.mem_cons_self))
  · have ew : [cwq q] = .code q.1 q.2.1 q.2.2.1 q.2.2.2.1 :: [] := by unfold cwq; rw [if_neg h2]
    have hh : q.2.2.2.2.1 = [] := k8.resolve_left h2
    refine vx_ofW k1 ew fun p e s m args below meth c s₁ B hml ht hP => fin p e s m args below meth c s₁ B hml ?_ hP
    rw [hh]
    cases hx : c.exceptionTable.toList with
    | nil => rfl
    | cons a b => exact (ht a (by rw [hx]; exact List.mem_cons_self)).elim
theorem np_spec {y : MethodName} {n : Nat} (h : n = np y) : ∀ sig, parseMethodDescriptor y.desc = some sig → n = sig.parameters.length := by
  intro sig hs
  unfold np at h
  rw [hs] at h
  exact h
theorem iv_inv {b j : Nat} {st : List AV} {j' : Nat} {as rest : List AV} (h : o_iv b j st = some (.inr (.inl (j', as, rest)))) : j' = j ∧ st = as.reverse ++ rest ∧ as.length = b ∧ (rest.length ≤ 4 ∨ (rest.length ≤ 8 ∧ rest.all cls1 = true)) ∧ (lex as).length ≤ mxl j ∧ (st.take b).reverse = as := by
  unfold o_iv at h
  split at h
  · rename_i hh
    cases h
    refine ⟨rfl, ?_, ?_, hh.2.1, hh.2.2, rfl⟩
    · rw [List.reverse_reverse, List.take_append_drop]
    · rw [List.length_reverse, List.length_take]; omega
  · cases h
theorem cat_le1 {ad : Nat → Nat} {sp : Nat → Value} (hsp : ∀ k, (sp k).category = 1) : ∀ st : List AV, st.all cls1 = true → ((st.map (conc ad sp)).map fun v => v.category).sum ≤ st.length
  | [], _ => Nat.le_refl _
  | v :: r, h => by
    rw [List.all_cons, Bool.and_eq_true] at h
    have h1 := cat_le1 (ad := ad) hsp r h.2
    have h2 := cat_conc (ad := ad) hsp v
    simp only [List.map_cons, List.sum_cons, List.length_cons]
    have h3 : lgS v = false := by
      have := h.1
      unfold cls1 at this
      unfold lgS
      split at this <;> simp_all
    rw [h2, h3, if_neg (by decide)]
    omega
theorem sum4w (C : CX p l R s m args meth c K q r) (ad : Nat → Nat) {rr : List AV} (h : rr.length ≤ 4 ∨ (rr.length ≤ 8 ∧ rr.all cls1 = true)) : ((rr.map (conc ad (ksp K))).map fun v => v.category).sum ≤ 8 := by
  rcases h with h | ⟨h, h2⟩
  · exact sum4 C ad h
  · have := cat_le1 (ad := ad) C.kS.1 rr h2
    omega
theorem rm_lt {r' : Nat} (C : CX p l R s m args meth c K q r) (h : r' < r) {k : Nat} (hk : k ≤ 60) : rmF r' + 1 ≤ R.frames ∧ 8 + (k + 11) + rmL r' ≤ R.locals := by
  have h1 := C.frm
  have h2 := C.lcl
  unfold rmF at h1 ⊢
  unfold rmL at h2 ⊢
  have : (r' + 13) * 100 ≤ (r + 12) * 100 := Nat.mul_le_mul_right 100 (by omega)
  omega
theorem cw_code {y : Mrec} (h : y.2.2.2.2.2.1 ≠ 2) : cwq y = .code y.1 y.2.1 y.2.2.1 y.2.2.2.1 := by unfold cwq; rw [if_neg h]
theorem cw_with {y : Mrec} (h : y.2.2.2.2.2.1 = 2) : cwq y = .codeWith y.1 y.2.1 y.2.2.1 y.2.2.2.1 y.2.2.2.2.1 := by unfold cwq; rw [if_pos h]
theorem cw_mv (y : Mrec) : mvW (cwq y) = true := by
  unfold cwq
  split <;> rfl
theorem callB (CH : CHKT) (C : CX p l R s m args meth c K q r) {idx d j r' n mc ms : Nat} {y : Mrec} (hj : j ≠ 344) (hy : mtb[j]? = some y) (hr : r' < r) (h2 : y.2.2.2.2.2.1 ≠ 2) (hn : n = np y.1) (hl : lw_tbl[d]? = some (.methodLink q.1.cls idx y.1)) :
    CallB R s args q.1.cls idx y.1 y.2.1 y.2.2.1 y.2.2.2.1 [cwq y] (rmA r' mc ms) mc ms n := by
  obtain ⟨k1, k2, k3, k4, k5, k6, k7, k8, k9⟩ := okM_spec (CH.1.1 j y hj hy)
  obtain ⟨f1, f2⟩ := rm_lt C hr k3
  have hc := C.w k5 (cw_mv y)
  refine ⟨rfl, rfl, f1, f2, ?_, ?_, ?_, C.w k4 rfl, k2, np_spec hn, C.w hl rfl⟩
  · intro w hw a' U hW
    rw [List.mem_singleton.mp hw]
    exact mv_word hW (cw_mv y) hc
  · rw [cw_code h2]; exact List.mem_cons_self
  · rw [← cw_code h2]; exact hc
theorem lnk_ne {j : Nat} (h : j ≠ 344) : lnkOf j ≠ 344 := by
  unfold lnkOf
  split
  · decide
  · exact h
set_option maxHeartbeats 4000000 in
/-- a call -/
theorem g_call {en : Ent} {j : Nat} {as rest : List AV} (CH : CHKT) (C : CX p l R s m args meth c K q r) (hd : decode q.2.1 pc = .ok (en.1, en.2.1)) (ok : okX q pc en = true) (hJ : J.2.2.1 ≤ R.cells + mC m1 ∧ J.2.2.2.1 ≤ R.slots + mS m1)
    (h : am_ins (kxs K) en pc ls st mem = some (.inr (.inl (j, as, rest)))) (hr : rkA j as < r) (hj : j ≠ 344) (hmn : MN mem m1)
    (hcon : ∀ (y : Mrec) (ad : Nat → Nat), mtb[j]? = some y → WF mem → (∀ v ∈ as, vok mem.1.length v) → (lex as).length ≤ y.2.2.1 → CON l K y (rkA j as) as ad mem o m1)
    (kk : ∀ ov, o = .inl ov → GO p l e R s m args below meth c K J q Q (pc + 3) ls (ov.toList ++ rest) m1) (kx : ∀ x, o = .inr x → x < 4 → GX p l e R s m args below meth c K J q Q pc ls x m1) :
    GO p l e R s m args below meth c K J q Q pc ls st mem := by
  have hfix : CallFix p m c q.2.1 q.2.2.1 s args GWs q.1.cls := ⟨C.1, C.2.1, C.2.2.1, C.own, C.hts⟩
  unfold am_ins at h
  split at h
  all_goals try (exfalso; (try simp only [go, jmp, fin, o_ld, o_ll, o_al, o_is, o_ls, o_as, o_b, o_d, o_u, o_bl, o_dl, o_sl, o_if, o_ic, o_ia, o_ba, o_la, o_aa, o_iS, o_bS, o_lS, o_aS, o_len, o_gf, o_pf, o_na, o_cp, o_mn, o_sw, o_dup, o_dup2, o_pop, o_inc, o_oi, o_gs, o_l2i, o_i2l, o_lc, o_ir, o_ar, o_lr, o_rt, o_nw, o_lk, o_cc, o_ma, o_mx, o_dx1, o_nn] at h); (repeat' split at h) <;> cases h; done)
  · rename_i idx k1 a b cc d hz
    rw [okX, Bool.and_eq_true] at ok
    have e1 := of_decide_eq_true ok.1
    subst e1
    have ok2 := ok.2
    unfold o_ivv at h
    split at h
    · unfold o_cl go at h
      split at h
      · split at h
        · split at h <;> cases h
        · cases h
      · cases h
    · split at h
      · rename_i hc8 hh
        obtain ⟨hc, hrecv⟩ := hh
        rw [if_pos hc] at ok2
        obtain ⟨rfl, hst, hlen, hrest, hlex, htk⟩ := iv_inv h
        unfold okIv at ok2
        split at ok2
        · cases ok2
        · rename_i y hy
          obtain ⟨k1, k2, k3, k4, k5, k6, k7, k8, k9⟩ := okM_spec (CH.1.1 _ y hj hy)
          intro ad H LS locs cells slots d0
          have hd11 := d0.2.2.2.2.2.2.2.2.2.2.1
          have hd12 := d0.2.2.2.2.2.2.2.2.2.2.2
          have hvs := d0.2.2.2.1
          rw [hst] at hvs
          have hva : ∀ v ∈ as, vok mem.1.length v := fun v hv => hvs v (List.mem_append_left _ (List.mem_reverse.mpr hv))
          have hvr : ∀ v ∈ rest, vok mem.1.length v := fun v hv => hvs v (List.mem_append_right _ hv)
          have hmx : (lex as).length ≤ y.2.2.1 := by unfold mxl at hlex; rw [hy] at hlex; exact hlex
          have hM := hcon y ad hy d0.2.2.2.2.2.2.2.1 hva hmx
          have hs4 := sum4w C ad hrest
          have hsz : LS.size = q.2.2.1 := d0.1.1
          have hf : cells + (mC mem - mC m1) ≤ R.cells ∧ slots + (mS mem - mS m1) ≤ R.slots := ⟨by have := hmn.1; omega, by have := hmn.2.1; omega⟩
          have hcw := C.w k5 (cw_mv y)
          have ec := cw_code k9
          obtain ⟨f1, f2⟩ := rm_lt C hr k3
          have hws : ∀ w ∈ [cwq y], ∀ (a' : Array Value) (U : State), s.WarmedH U.vm → w.before a' U = true := fun w hw a' U hW => by
            rw [List.mem_singleton.mp hw]
            exact mv_word hW (cw_mv y) hcw
          have hcm : Cond.code y.1 y.2.1 y.2.2.1 y.2.2.2.1 ∈ [cwq y] := by rw [ec]; exact List.mem_cons_self
          have hcb : (Cond.code y.1 y.2.1 y.2.2.1 y.2.2.2.1).before args s = true := by rw [← ec]; exact hcw
          unfold recvOk at hrecv
          rw [htk] at hrecv
          rcases hc with rfl | rfl
          · rw [if_neg (by decide), if_neg (by decide), if_neg (by decide), if_neg (by decide), if_pos rfl] at ok2
            simp only [Bool.and_eq_true, decide_eq_true_eq] at ok2
            obtain ⟨o1, ⟨⟨⟨o2, o3⟩, o4⟩, o6⟩, o5⟩ := ok2
            have k6a := k6 o3
            have key : ∀ (v : AV) (As : List AV) (b0 : Nat), as = v :: As → conc ad (ksp K) v = .ref b0 → (∃ cellB : Cell, H[b0]? = some cellB ∧ cellB.vm.isStatics = false ∧ s.vm.findClass y.1.cls = some cellB.cls) →
                W p l e R s m args below meth c H locs cells slots Q (F0 m pc LS (st.map (conc ad (ksp K)))) := by
              intro v As b0 has hb hcell
              refine callG (av := (Value.ref b0 :: As.map (conc ad (ksp K))).toArray) d0 hvr rfl rfl hmn ?_ kk kx
              refine vx_runV (As := As.map (conc ad (ksp K))) (b := b0) (C := y.1.cls) hfix hM ⟨callB CH C hj hy hr k9 rfl o1, C.w k6a rfl, C.w o6 rfl⟩ ⟨blindA C.kS, hcell, ?_⟩ rfl ?_ hsz ?_ ?_ hd hf
              · intro U hU hW
                have := preA C d0 as hU hW
                rw [has, List.map_cons, hb] at this
                rw [has]
                exact this
              · rw [List.length_map]
                have : as.length = As.length + 1 := by rw [has]; rfl
                omega
              · show st.map (conc ad (ksp K)) = _
                rw [hst, has]
                simp [hb]
              · show 2 * 0 + _ ≤ 8
                omega
            split at hrecv
            · rename_i o0 As
              simp only [Bool.and_eq_true, decide_eq_true_eq] at hrecv
              obtain ⟨ht, hlt⟩ := hrecv
              obtain ⟨w, w1, w2⟩ := vw_all _ hlt
              refine key _ As (ad o0) rfl rfl ?_
              rw [o5, w1]
              exact va_recv C.hK d0.2.2.2.2.1 w1 (by rw [wld_at ht, e_obj ht])
            · rename_i k0 As
              simp only [decide_eq_true_eq] at hrecv
              obtain ⟨hk1, hk2, hk3⟩ := hrecv
              obtain ⟨i, rfl⟩ : ∃ i, k0 = 2 * i := ⟨k0 / 2, by omega⟩
              refine key _ As (kad K (2 * i)) rfl (C.kS.2.2.1 _) ?_
              rw [o5, hk3]
              obtain ⟨cell, g1, g2, g3, -⟩ := ((C.old.2.1 i (by omega)).2.1).kept d0.2.2.2.2.2.2.1.2.1
              exact ⟨cell, g1, g2, g3⟩
            · cases hrecv
          · rw [if_pos rfl] at ok2
            split at ok2
            · cases ok2
            · rename_i x hx
              have hlx : lnkOf _ ≠ 344 := lnk_ne hj
              obtain ⟨x1, x2, x3, x4, x5, x6, x7, x8, x9⟩ := okM_spec (CH.1.1 _ x hlx hx)
              simp only [Bool.and_eq_true, Bool.or_eq_true, decide_eq_true_eq] at ok2
              obtain ⟨⟨⟨⟨⟨⟨⟨⟨o1, o2⟩, o3⟩, o4⟩, o5⟩, o6⟩, o7⟩, o8⟩, o9⟩ := ok2
              have hsel : (Cond.selects sbN x.1 y.1).before args s = true := by
                rcases o9 with o9 | ⟨o9, o10⟩
                · exact C.w o9 rfl
                · rw [o9]
                  exact mv_word (State.WarmedH.refl s) rfl (C.old.2.2.2.2.2.2.2.1 y.1 o10)
              have hxc : (Cond.code x.1 x.2.1 x.2.2.1 x.2.2.2.1).before args s = true := by rw [← cw_code x9]; exact C.w x5 (cw_mv x)
              have hxe : x.1 = ⟨abN, x.1.name, x.1.desc⟩ := by rw [← o5]
              split at hrecv
              · rename_i o0 As
                simp only [Bool.and_eq_true, decide_eq_true_eq] at hrecv
                obtain ⟨ht, hlt⟩ := hrecv
                rw [o6] at ht
                have hcell : ∃ cellB : Cell, H[ad o0]? = some cellB ∧ cellB.vm.isStatics = false ∧ s.vm.findClass sbN = some cellB.cls := va_recv C.hK d0.2.2.2.2.1 (show vwCl[13]? = some (RJ4, TJ4, 4) from rfl) (by rw [wld_at ht, e_obj ht])
                refine callG (av := (Value.ref (ad o0) :: As.map (conc ad (ksp K))).toArray) d0 hvr rfl rfl hmn ?_ kk kx
                refine vx_runU (As := As.map (conc ad (ksp K))) (b := ad o0) (C := sbN) (owner := abN) (x := x.1) (bytes := y.2.1) (maxL := y.2.2.1) (ret := y.2.2.2.1) (n := As.length) hfix hM ⟨⟨rfl, rfl, f1, f2, hws, hcm⟩, hcb, C.w k4 rfl, ⟨by decide, by decide⟩, fun sig hs => ?_, C.w o1 rfl, by rw [o5]; exact C.w o8 rfl, by rw [← hxe]; exact va_Decl.of (C.w (x6 o4) rfl) hxc, hsel, C.w (k6 o3) rfl⟩ ⟨blindA C.kS, hcell, fun U hU hW => preA C d0 (Sum.inr (Sum.inr (Sum.inl o0)) :: As) hU hW⟩ rfl (List.length_map ..) hsz ?_ ?_ hd hf
                · have hlen' : As.length + 1 = _ := hlen
                  exact np_spec (by omega) sig hs
                · show st.map (conc ad (ksp K)) = _
                  rw [hst]; simp; rfl
                · show 2 * 0 + _ ≤ 8
                  omega
              · rename_i k0 As
                simp only [decide_eq_true_eq] at hrecv
                omega
              · cases hrecv
      · cases h
  · rename_i idx k1 a b cc d hz
    rw [okX, Bool.and_eq_true] at ok
    have e1 := of_decide_eq_true ok.1
    subst e1
    have ok2 := ok.2
    unfold o_ivs at h
    split at h
    · rename_i hc
      rw [if_neg (by omega), if_neg (by omega), if_neg (by omega), if_pos hc] at ok2
      obtain ⟨rfl, hst, hlen, hrest, hlex, htk⟩ := iv_inv h
      unfold okIv at ok2
      split at ok2
      · cases ok2
      · rename_i y hy
        obtain ⟨k1, k2, k3, k4, k5, k6, k7, k8, k9⟩ := okM_spec (CH.1.1 _ y hj hy)
        intro ad H LS locs cells slots d0
        have hd11 := d0.2.2.2.2.2.2.2.2.2.2.1
        have hd12 := d0.2.2.2.2.2.2.2.2.2.2.2
        have hvs := d0.2.2.2.1
        rw [hst] at hvs
        have hva : ∀ v ∈ as, vok mem.1.length v := fun v hv => hvs v (List.mem_append_left _ (List.mem_reverse.mpr hv))
        have hvr : ∀ v ∈ rest, vok mem.1.length v := fun v hv => hvs v (List.mem_append_right _ hv)
        have hmx : (lex as).length ≤ y.2.2.1 := by unfold mxl at hlex; rw [hy] at hlex; exact hlex
        have hM := hcon y ad hy d0.2.2.2.2.2.2.2.1 hva hmx
        have hs4 := sum4w C ad hrest
        have hsz : LS.size = q.2.2.1 := d0.1.1
        have hf : cells + (mC mem - mC m1) ≤ R.cells ∧ slots + (mS mem - mS m1) ≤ R.slots := ⟨by have := hmn.1; omega, by have := hmn.2.1; omega⟩
        have hcw := C.w k5 (cw_mv y)
        have ec := cw_code k9
        obtain ⟨f1, f2⟩ := rm_lt C hr k3
        have hws : ∀ w ∈ [cwq y], ∀ (a' : Array Value) (U : State), s.WarmedH U.vm → w.before a' U = true := fun w hw a' U hW => by
          rw [List.mem_singleton.mp hw]
          exact mv_word hW (cw_mv y) hcw
        have hcm : Cond.code y.1 y.2.1 y.2.2.1 y.2.2.2.1 ∈ [cwq y] := by rw [ec]; exact List.mem_cons_self
        have hcb : (Cond.code y.1 y.2.1 y.2.2.1 y.2.2.2.1).before args s = true := by rw [← ec]; exact hcw
        have hstk : (F0 m pc LS (st.map (conc ad (ksp K)))).stack = (as.map (conc ad (ksp K))).reverse ++ rest.map (conc ad (ksp K)) := by
          show st.map (conc ad (ksp K)) = _
          rw [hst]; simp
        rcases hc with rfl | rfl
        · rw [if_neg (by decide), if_neg (by decide), if_neg (by decide), if_neg (by decide), if_neg (by decide), if_pos (Or.inl rfl)] at ok2
          simp only [Bool.and_eq_true, decide_eq_true_eq] at ok2
          obtain ⟨o1, o2, o3⟩ := ok2
          refine callG (av := (as.map (conc ad (ksp K))).toArray) d0 hvr rfl rfl hmn ?_ kk kx
          exact vx_runS (As := as.map (conc ad (ksp K))) hfix hM ⟨callB CH C hj hy hr k9 o2 o1, C.w (k7 (by omega)) rfl⟩ ⟨blindA C.kS, fun U hU hW => preA C d0 as hU hW⟩ rfl (by rw [List.length_map]; exact hlen) hsz hstk (by show 2 * 0 + _ ≤ 8; omega) hd hf
        · rw [if_neg (by decide), if_neg (by decide), if_neg (by decide), if_pos rfl, if_neg (by decide), if_pos (Or.inr rfl)] at ok2
          simp only [Bool.and_eq_true, decide_eq_true_eq] at ok2
          obtain ⟨o1, o2, o3⟩ := ok2
          refine callG (av := (as.map (conc ad (ksp K))).toArray) d0 hvr rfl rfl hmn ?_ kk kx
          exact vx_runSN (As := as.map (conc ad (ksp K))) (bytes := y.2.1) (maxL := y.2.2.1) (ret := y.2.2.2.1) (n := as.length) (host := "DropSwitchLaw") hfix hM ⟨⟨⟨rfl, rfl, f1, f2, hws, hcm⟩, hcb, C.w k4 rfl, k2, np_spec (hlen.trans o2), C.w o1 rfl⟩, C.w (k7 (by omega)) rfl⟩ ⟨blindA C.kS, fun U hU hW => preA C d0 as hU hW⟩ rfl (List.length_map ..) hsz hstk (by show 2 * 0 + _ ≤ 8; omega) hd hf
    · split at h
      · unfold o_mn go at h
        split at h
        · split at h <;> cases h
        · cases h
      · split at h
        · unfold o_mx go at h
          split at h
          · split at h <;> cases h
          · cases h
        · split at h
          · unfold o_cp go at h
            split at h
            · split at h
              · split at h <;> cases h
              · cases h
            · split at h
              · split at h <;> cases h
              · cases h
            · cases h
          · cases h
  · rename_i idx k1 a b cc d hz
    rw [okX, Bool.and_eq_true] at ok
    have e1 := of_decide_eq_true ok.1
    subst e1
    have ok2 := ok.2
    unfold o_ivp at h
    split at h
    · rename_i hh
      obtain ⟨hc, hrecv⟩ := hh
      rw [if_neg (by omega), if_pos (by omega)] at ok2
      obtain ⟨rfl, hst, hlen, hrest, hlex, htk⟩ := iv_inv h
      unfold okIv at ok2
      split at ok2
      · cases ok2
      · rename_i y hy
        obtain ⟨k1, k2, k3, k4, k5, k6, k7, k8, k9⟩ := okM_spec (CH.1.1 _ y hj hy)
        intro ad H LS locs cells slots d0
        have hd11 := d0.2.2.2.2.2.2.2.2.2.2.1
        have hd12 := d0.2.2.2.2.2.2.2.2.2.2.2
        have hvs := d0.2.2.2.1
        rw [hst] at hvs
        have hva : ∀ v ∈ as, vok mem.1.length v := fun v hv => hvs v (List.mem_append_left _ (List.mem_reverse.mpr hv))
        have hvr : ∀ v ∈ rest, vok mem.1.length v := fun v hv => hvs v (List.mem_append_right _ hv)
        have hmx : (lex as).length ≤ y.2.2.1 := by unfold mxl at hlex; rw [hy] at hlex; exact hlex
        have hM := hcon y ad hy d0.2.2.2.2.2.2.2.1 hva hmx
        have hs4 := sum4w C ad hrest
        have hsz : LS.size = q.2.2.1 := d0.1.1
        have hf : cells + (mC mem - mC m1) ≤ R.cells ∧ slots + (mS mem - mS m1) ≤ R.slots := ⟨by have := hmn.1; omega, by have := hmn.2.1; omega⟩
        have hcw := C.w k5 (cw_mv y)
        have ec := cw_code k9
        obtain ⟨f1, f2⟩ := rm_lt C hr k3
        have hws : ∀ w ∈ [cwq y], ∀ (a' : Array Value) (U : State), s.WarmedH U.vm → w.before a' U = true := fun w hw a' U hW => by
          rw [List.mem_singleton.mp hw]
          exact mv_word hW (cw_mv y) hcw
        have hcm : Cond.code y.1 y.2.1 y.2.2.1 y.2.2.2.1 ∈ [cwq y] := by rw [ec]; exact List.mem_cons_self
        have hcb : (Cond.code y.1 y.2.1 y.2.2.1 y.2.2.2.1).before args s = true := by rw [← ec]; exact hcw
        unfold recvO at hrecv
        rw [htk] at hrecv
        split at hrecv
        · rename_i o0 As
          have hstk : (F0 m pc LS (st.map (conc ad (ksp K)))).stack = (As.map (conc ad (ksp K))).reverse ++ .ref (ad o0) :: rest.map (conc ad (ksp K)) := by
            show st.map (conc ad (ksp K)) = _
            rw [hst]; simp; rfl
          have hpre : ∀ U : State, U.heap = H → s.WarmedH U.vm → PcA K ad mem (Sum.inr (Sum.inr (Sum.inl o0)) :: As) (Value.ref (ad o0) :: As.map (conc ad (ksp K))).toArray U := fun U hU hW => preA C d0 (Sum.inr (Sum.inr (Sum.inl o0)) :: As) hU hW
          have hn1 : (As.map (conc ad (ksp K))).length = As.length := List.length_map ..
          have hlen' : As.length + 1 = _ := hlen
          rcases hc with rfl | rfl | ⟨rfl, hrc⟩
          · rw [if_neg (by decide), if_neg (by decide), if_neg (by decide), if_neg (by decide), if_neg (by decide), if_neg (by decide)] at ok2
            simp only [Bool.and_eq_true, decide_eq_true_eq] at ok2
            obtain ⟨o1, ⟨⟨o2, o3⟩, o4⟩, o5⟩ := ok2
            have hcb := callB (mc := mC mem - mC m1) (ms := mS mem - mS m1) (n := As.length) CH C hj hy hr k9 (by omega) o1
            rw [o5] at hcb
            refine callG (av := (Value.ref (ad o0) :: As.map (conc ad (ksp K))).toArray) d0 hvr rfl rfl hmn ?_ kk kx
            exact vx_runI (As := As.map (conc ad (ksp K))) (b := ad o0) hfix hM ⟨hcb, o4, C.w (k6 o3) rfl⟩ ⟨blindA C.kS, hpre⟩ rfl hn1 hsz hstk (by show 2 * 0 + _ ≤ 8; omega) hd hf
          · rw [if_neg (by decide), if_neg (by decide), if_pos rfl, if_neg (by decide), if_neg (by decide)] at ok2
            simp only [Bool.and_eq_true, decide_eq_true_eq] at ok2
            obtain ⟨o1, ⟨⟨o2, o3⟩, o4⟩, o5⟩ := ok2
            rw [o5] at hcm hcb
            refine callG (av := (Value.ref (ad o0) :: As.map (conc ad (ksp K))).toArray) d0 hvr rfl rfl hmn ?_ kk kx
            exact vx_runIN (As := As.map (conc ad (ksp K))) (b := ad o0) (bytes := y.2.1) (maxL := y.2.2.1) (n := As.length) (host := "DropSwitch") hfix hM ⟨⟨⟨rfl, rfl, f1, f2, hws, hcm⟩, hcb, C.w k4 rfl, k2, np_spec (by omega), C.w o1 rfl⟩, o4, C.w (k6 o3) rfl⟩ ⟨blindA C.kS, hpre⟩ rfl hn1 hsz hstk (by show 2 * 0 + _ ≤ 8; omega) hd hf
          · rw [if_neg (by decide), if_pos rfl] at ok2
            simp only [Bool.and_eq_true, decide_eq_true_eq] at ok2
            obtain ⟨⟨⟨⟨⟨⟨⟨o1, o2⟩, o3⟩, o4⟩, o5⟩, o6⟩, o7⟩, o8⟩ := ok2
            unfold recvOk at hrc
            rw [htk] at hrc
            simp only [Bool.and_eq_true, decide_eq_true_eq] at hrc
            obtain ⟨ht, hlt⟩ := hrc
            rw [o7] at ht
            have hcell : ∃ cellB : Cell, H[ad o0]? = some cellB ∧ cellB.vm.isStatics = false ∧ s.vm.findClass sbN = some cellB.cls := va_recv C.hK d0.2.2.2.2.1 (show vwCl[13]? = some (RJ4, TJ4, 4) from rfl) (by rw [wld_at ht, e_obj ht])
            have hye : y.1.cls = abN := o5
            refine callG (av := (Value.ref (ad o0) :: As.map (conc ad (ksp K))).toArray) d0 hvr rfl rfl hmn ?_ kk kx
            exact vx_runSU (As := As.map (conc ad (ksp K))) (b := ad o0) (C := sbN) (bytes := y.2.1) (maxL := y.2.2.1) (ret := y.2.2.2.1) (n := As.length) (C.hK.1 13 (RJ4, TJ4, 4) rfl).2 hfix hM ⟨⟨rfl, rfl, f1, f2, hws, hcm⟩, C.w o1 rfl, by rw [hye]; exact C.w o8 rfl, by rw [o6, hye]; exact C.w sup_w rfl, C.w (k6 o3) rfl, C.w k4 rfl, hcb, o4, np_spec (by omega)⟩ ⟨blindA C.kS, hcell, hpre⟩ rfl hn1 hsz hstk (by show 2 * 0 + _ ≤ 8; omega) hd hf
        · cases hrecv
    · split at h
      · unfold o_oi go at h
        split at h
        · split at h <;> cases h
        · cases h
      · cases h
end SNDR
