/-! soundness: what the abstract machine comes to, the machine comes to -/
def CHKS : Prop := (∀ (M : Nat) (q : Mrec), M ≠ 344 → mtb[M]? = some q → okM q = true) ∧ ∀ (M : Nat) (q : Mrec) (pc : Nat) (en : Ent), mtb[M]? = some q → look M pc = some en → okE q pc en = true
def icX : List Nat := [71, 69, 72, 70]
theorem icX_ok : ∀ a, a < 4 → lw_tbl[icX.getD a 0]? = some (.initialized (exn a)) := by decide +kernel
def atX (a : Nat) : List Cond := vx_at0 "DropSwitch" (icOf a) (exn a) ["java/lang/RuntimeException", "java/lang/Exception"]
theorem atX_in : ∀ a, a < 4 → ∀ w ∈ atX a, w ∈ GWs := by decide +kernel
theorem atX_ot : ∀ a, a < 4 → ∀ ik, ∀ w ∈ Cond.classLink "DropSwitch" ik (exn a) :: Cond.initialized (exn a) :: atX a, vx_ot w = true := by
  intro a ha ik w hw
  rcases List.mem_cons.mp hw with rfl | hw
  · rfl
  · rcases List.mem_cons.mp hw with rfl | hw
    · rfl
    · have : ∀ a, a < 4 → ∀ w ∈ atX a, vx_ot w = true := by decide +kernel
      exact this a ha w hw
theorem fit_ok : ∀ a, a < 4 → Bundle.fit (exn a) = true := by decide +kernel
theorem fit_nm : ∀ n ∈ ["java/lang/RuntimeException", "java/lang/Exception"], Bundle.fit n = true := by decide +kernel
section SNDS
variable {p : Program} {l : Launch} {e : Env} {R : Room} {s : State} {m : MethodId} {args : Array Value} {below : List Frame} {meth : Method} {c : Code} {K : Kx} {J : Jx} {q : Mrec} {r : Nat} {Q : State → Prop} {pc : Nat} {ls st : List AV} {mem m1 : Mem} {o : Res}
theorem wP_kept {D : va_G} {cl : List vw_C} {ws : va_W} {H H1 : Heap} (h : va_P D cl ws H) (hq : ∀ q : Nat, q < H.size → H1[q]? = H[q]?) : va_P D cl ws H1 := h.kept (fun k x hx => hq x.1 ((h k x hx).lt))
/-- the end of a method that has thrown -/
abbrev QE (K : Kx) (J : Jx) (below : List Frame) (args : Array Value) (s : State) (o : Res) (m1 : Mem) : State → Prop := vx_MQ below (QcA K J.1 J.2.1 o m1) (XcA K J.1 J.2.1 o m1) args s (J.2.2.1 - mC m1) (J.2.2.2.1 - mS m1) (kA K)
theorem g_th {idx a d : Nat} (C : CX p l R s m args meth c K q r) (hd : decode q.2.1 pc = .ok (.new idx, 3)) (hw : okTh q pc idx a d = true) (hJ : J.2.2.1 ≤ R.cells + mC (mB mem 1 6) ∧ J.2.2.2.1 ≤ R.slots + mS (mB mem 1 6))
    (h1 : 1 ≤ mC mem) (h6 : 6 ≤ mS mem) (h4 : st.length ≤ 4) : GO p l e R s m args below meth c K J q (QE K J below args s (.inr a) (mB mem 1 6)) pc ls st mem := by
  unfold okTh at hw
  simp only [Bool.and_eq_true, decide_eq_true_eq] at hw
  obtain ⟨⟨⟨⟨⟨⟨ha, hcls⟩, hlk⟩, hhh⟩, d3⟩, d4⟩, d7⟩ := hw
  intro ad H LS locs cells slots d0
  have hs4 := sum4 C ad h4
  obtain ⟨rF, rLo⟩ := rL C
  have rF2 := C.frm
  unfold rmF at rF2
  have hown := C.own
  rw [hcls] at hown
  have hd11 := d0.2.2.2.2.2.2.2.2.2.2.1
  have hd12 := d0.2.2.2.2.2.2.2.2.2.2.2
  have e1 : mC (mB mem 1 6) = mC mem - 1 := rfl
  have e2 : mS (mB mem 1 6) = mS mem - 6 := rfl
  have hml : LS.size = c.maxLocals := by rw [C.2.2.1]; exact d0.1.1
  have hlk' := C.w hlk rfl
  rw [hcls] at hlk'
  refine vx_throw0 (A := kA K) (names := ["java/lang/RuntimeException", "java/lang/Exception"]) C.1 C.2.1 C.2.2.2.2.2.2.2.2.2.2.2.2.1 hown (fit_ok a ha) fit_nm hlk' (C.w (icX_ok a ha) rfl) (fun w hw => C.hts w (atX_in a ha w hw)) (atX_ot a ha idx) C.old.2.2.2.2.1 C.old.2.2.2.2.2.1 d0.2.2.2.2.2.2.1 hml hd d3 d4 d7 ?_ ?_ ?_ ?_ ?_ C.2.2.2.2.2.2.2.2.1 ?_ (fun z hz => d0.2.2.2.2.2.2.1.2.2 z hz) ?_ ?_
  · intro x hx
    rw [C.2.2.2.2.2.2.2.2.2.2.1, hhh] at hx
    cases hx
  · show 2 + 3 < _
    omega
  · show _ + (13 * (2 + 1) + 42) ≤ _
    omega
  · omega
  · omega
  · intro t hal hz hq
    refine ⟨rfl, ha, ad, d0.2.2.2.2.2.2.2.2.1, ?_, d0.2.2.2.2.2.1, ⟨?_, ?_⟩, WF_mB d0.2.2.2.2.2.2.2.1, d0.2.2.2.2.2.2.2.2.2.1⟩
    · rw [wld_mB]; exact wP_kept d0.2.2.2.2.1 hq
    · exact Nat.le_trans d0.2.2.2.2.2.2.1.1 hz
    · intro x hx hA
      rw [hq x (Nat.lt_of_lt_of_le hx d0.2.2.2.2.2.2.1.1)]
      exact d0.2.2.2.2.2.2.1.2.1 x hx hA
  · omega
  · omega
theorem EndW.of {ad : Nat → Nat} {H : Heap} {LS : Array Slot} {locs : List Loc} {cells slots : Nat} (d0 : DX s K J q ad H LS locs mem ls st cells slots) {t : State} (ht : t.heap = H) : EndW K J.1 J.2.1 mem s t ad :=
  ⟨d0.2.2.2.2.2.2.2.2.1, by rw [ht]; exact d0.2.2.2.2.1, d0.2.2.2.2.2.1, d0.2.2.2.2.2.2.1.F ht, d0.2.2.2.2.2.2.2.1, d0.2.2.2.2.2.2.2.2.2.1⟩
set_option maxHeartbeats 4000000 in
theorem g_rt {en : Ent} {xs : List Int} (C : CX p l R s m args meth c K q r) (hd : decode q.2.1 pc = .ok (en.1, en.2.1)) (ok : okX q pc en = true) (hJ : J.2.2.1 ≤ R.cells + mC m1 ∧ J.2.2.2.1 ≤ R.slots + mS m1)
    (h : am_ins xs en pc ls st mem = some (.inr (.inr (o, m1)))) : GO p l e R s m args below meth c K J q (QE K J below args s o m1) pc ls st mem := by
  have rF := rL C
  unfold am_ins at h
  split at h
  all_goals try (exfalso; (try simp only [go, jmp, o_ld, o_ll, o_al, o_is, o_ls, o_as, o_b, o_d, o_u, o_bl, o_dl, o_sl, o_if, o_ic, o_ia, o_ba, o_la, o_aa, o_iS, o_bS, o_lS, o_aS, o_len, o_gf, o_pf, o_na, o_iv, o_cp, o_mn, o_sw, o_dup, o_dup2, o_pop, o_inc, o_ivv, o_ivs, o_oi, o_ivp, o_gs, o_l2i, o_i2l, o_lc, o_lk, o_cl, o_cc, o_ma, o_mx, o_dx1, o_nn] at h); (repeat' split at h) <;> cases h; done)
  · rename_i idx k1 a b cc d hz
    rw [okX, Bool.and_eq_true] at ok
    have e1 := of_decide_eq_true ok.1
    subst e1
    have ok2 := ok.2
    unfold o_nw fin go at h
    split at h
    · split at h <;> cases h
    · rename_i hc
      rw [if_neg hc] at ok2
      split at h
      · split at h
        · rename_i hh
          cases h
          exact g_th C hd ok2 hJ hh.1 hh.2.1 hh.2.2
        · cases h
      · cases h
  · rename_i k1 a b cc tl hz
    rw [okX, Bool.and_eq_true] at ok
    have e1 := of_decide_eq_true ok.1
    subst e1
    have ok2 := ok.2
    unfold okRet at ok2
    unfold o_ir fin at h
    split at h
    · rename_i x
      split at h
      · rename_i hc
        cases h
        intro ad H LS locs cells slots d0
        have hd11 := d0.2.2.2.2.2.2.2.2.2.2.1
        have hd12 := d0.2.2.2.2.2.2.2.2.2.2.2
        obtain ⟨v1, v2⟩ := vok_cons d0.2.2.2.1
        have q1 : J.2.2.1 - mC mem = cells := by omega
        have q2 : J.2.2.2.1 - mS mem = slots := by omega
        have hQ : ∀ t : State, t.heap = H → s.WarmedH t.vm → QcA K J.1 J.2.1 (.inl (some (vi x))) mem args s (.returned (some (.int (i32 x)))) t := fun t ht _ => ⟨ad, EndW.of d0 ht, rfl, fun v hv => by cases hv; exact v1⟩
        show W p l e R s m args below meth c H locs cells slots (vx_MQ below (QcA K J.1 J.2.1 (.inl (some (vi x))) mem) (XcA K J.1 J.2.1 (.inl (some (vi x))) mem) args s (J.2.2.1 - mC mem) (J.2.2.2.1 - mS mem) (kA K)) (F0 m pc LS [.int (i32 x)])
        rw [q1, q2]
        refine vx_ret ?_
        have hret := C.2.2.2.2.2.2.2.1
        have hlk := C.2.2.2.2.2.2.2.2.1
        rcases hc with rfl | ⟨rfl, hx⟩ | ⟨rfl, hx⟩ | ⟨rfl, hx⟩
        · rw [if_pos rfl] at ok2
          exact W.iret C.1 C.2.1 (hret.trans (of_decide_eq_true ok2)) hQ (fun z hz => d0.2.2.2.2.2.2.1.2.2 z hz) hd hlk
        · rw [if_neg (by decide), if_pos rfl] at ok2
          refine W.zret C.1 C.2.1 (hret.trans (of_decide_eq_true ok2)) ?_ hQ (fun z hz => d0.2.2.2.2.2.2.1.2.2 z hz) hd hlk
          have h8 : x = 0 ∨ x = 1 := by omega
          rcases h8 with rfl | rfl <;> rfl
        · rw [if_neg (by decide), if_neg (by decide), if_pos rfl] at ok2
          refine W.zret C.1 C.2.1 (hret.trans (of_decide_eq_true ok2)) ?_ hQ (fun z hz => d0.2.2.2.2.2.2.1.2.2 z hz) hd hlk
          show Value.int (i32 x).toUInt32.toUInt16.toUInt32.toInt32 = _
          have e9 : (i32 x).toUInt32.toUInt16.toUInt32 = (i32 x).toUInt32 % 65536 := by
            apply UInt32.toNat_inj.mp
            simp
          rw [e9, i32_char, Int.emod_eq_of_lt hx.1 hx.2]
        · rw [if_neg (by decide), if_neg (by decide), if_neg (by decide)] at ok2
          refine W.zret C.1 C.2.1 (hret.trans (of_decide_eq_true ok2)) ?_ hQ (fun z hz => d0.2.2.2.2.2.2.1.2.2 z hz) hd hlk
          show Value.int (i32 x).toInt8.toInt32 = _
          rw [i32_i8 v1]
          have : wb x = x := by unfold wb; omega
          rw [this]
      · cases h
    · cases h
  · rename_i tl
    obtain ⟨k1, tl⟩ := tl
    rw [okX, Bool.and_eq_true] at ok
    have e1 : k1 = 1 := of_decide_eq_true ok.1
    subst e1
    have ok2 := ok.2
    unfold o_ar fin at h
    have hret := C.2.2.2.2.2.2.2.1
    have hlk := C.2.2.2.2.2.2.2.2.1
    unfold okAr at ok2
    have hrt : ∃ rt, q.2.2.2.1 = some rt ∧ ((∃ n, rt = .object n) ∨ ∃ t, rt = .array t) := by
      split at ok2
      · rename_i n hn; exact ⟨_, hn, Or.inl ⟨n, rfl⟩⟩
      · rename_i n hn; exact ⟨_, hn, Or.inr ⟨n, rfl⟩⟩
      · cases ok2
    obtain ⟨rt, hrt1, hrt2⟩ := hrt
    split at h
    · rename_i x
      cases h
      intro ad H LS locs cells slots d0
      have hd11 := d0.2.2.2.2.2.2.2.2.2.2.1
      have hd12 := d0.2.2.2.2.2.2.2.2.2.2.2
      obtain ⟨v1, v2⟩ := vok_cons d0.2.2.2.1
      have q1 : J.2.2.1 - mC mem = cells := by omega
      have q2 : J.2.2.2.1 - mS mem = slots := by omega
      show W p l e R s m args below meth c H locs cells slots (vx_MQ below (QcA K J.1 J.2.1 (.inl (some (vr x))) mem) (XcA K J.1 J.2.1 (.inl (some (vr x))) mem) args s (J.2.2.1 - mC mem) (J.2.2.2.1 - mS mem) (kA K)) (F0 m pc LS [.ref (ad x)])
      rw [q1, q2]
      refine vx_ret (W.aret C.1 C.2.1 (hret.trans hrt1) hrt2 (Or.inr ⟨_, rfl⟩) (fun t ht _ => ⟨ad, EndW.of d0 ht, rfl, fun v hv => by cases hv; exact v1⟩) (fun z hz => d0.2.2.2.2.2.2.1.2.2 z hz) hd hlk)
    · rename_i x
      cases h
      intro ad H LS locs cells slots d0
      have hd11 := d0.2.2.2.2.2.2.2.2.2.2.1
      have hd12 := d0.2.2.2.2.2.2.2.2.2.2.2
      have q1 : J.2.2.1 - mC mem = cells := by omega
      have q2 : J.2.2.2.1 - mS mem = slots := by omega
      obtain ⟨ra, hra⟩ := sp3 C.kS x
      have e5 : conc ad (ksp K) (vs (x + 3)) = .ref ra := hra
      have e6 : [vs (x + 3)].map (conc ad (ksp K)) = [.ref ra] := by rw [List.map_cons, e5]; rfl
      show W p l e R s m args below meth c H locs cells slots (vx_MQ below (QcA K J.1 J.2.1 (.inl (some (vs (x + 3)))) mem) (XcA K J.1 J.2.1 (.inl (some (vs (x + 3)))) mem) args s (J.2.2.1 - mC mem) (J.2.2.2.1 - mS mem) (kA K)) (F0 m pc LS ([vs (x + 3)].map (conc ad (ksp K))))
      rw [q1, q2, e6]
      refine vx_ret (W.aret C.1 C.2.1 (hret.trans hrt1) hrt2 (Or.inr ⟨_, rfl⟩) (fun t ht _ => ⟨ad, EndW.of d0 ht, by rw [Option.map_some, e5], fun v hv => by cases hv; trivial⟩) (fun z hz => d0.2.2.2.2.2.2.1.2.2 z hz) hd hlk)
    · cases h
  · rename_i tl
    obtain ⟨k1, tl⟩ := tl
    rw [okX, Bool.and_eq_true] at ok
    have e1 : k1 = 1 := of_decide_eq_true ok.1
    subst e1
    have ok2 := of_decide_eq_true ok.2
    unfold o_lr fin at h
    have hret := C.2.2.2.2.2.2.2.1
    have hlk := C.2.2.2.2.2.2.2.2.1
    split at h
    · rename_i x
      cases h
      intro ad H LS locs cells slots d0
      have hd11 := d0.2.2.2.2.2.2.2.2.2.2.1
      have hd12 := d0.2.2.2.2.2.2.2.2.2.2.2
      obtain ⟨v1, v2⟩ := vok_cons d0.2.2.2.1
      have q1 : J.2.2.1 - mC mem = cells := by omega
      have q2 : J.2.2.2.1 - mS mem = slots := by omega
      show W p l e R s m args below meth c H locs cells slots (vx_MQ below (QcA K J.1 J.2.1 (.inl (some (vl x))) mem) (XcA K J.1 J.2.1 (.inl (some (vl x))) mem) args s (J.2.2.1 - mC mem) (J.2.2.2.1 - mS mem) (kA K)) (F0 m pc LS [.long (i64 x)])
      rw [q1, q2]
      exact vx_ret (W.lret C.1 C.2.1 (hret.trans ok2) (fun t ht _ => ⟨ad, EndW.of d0 ht, rfl, fun v hv => by cases hv; exact v1⟩) (fun z hz => d0.2.2.2.2.2.2.1.2.2 z hz) hd hlk)
    · cases h
  · rename_i tl
    obtain ⟨k1, tl⟩ := tl
    rw [okX, Bool.and_eq_true] at ok
    have e1 : k1 = 1 := of_decide_eq_true ok.1
    subst e1
    have ok2 := of_decide_eq_true ok.2
    unfold o_rt fin at h
    have hret := C.2.2.2.2.2.2.2.1
    have hlk := C.2.2.2.2.2.2.2.2.1
    split at h
    · cases h
      intro ad H LS locs cells slots d0
      have hd11 := d0.2.2.2.2.2.2.2.2.2.2.1
      have hd12 := d0.2.2.2.2.2.2.2.2.2.2.2
      have q1 : J.2.2.1 - mC mem = cells := by omega
      have q2 : J.2.2.2.1 - mS mem = slots := by omega
      show W p l e R s m args below meth c H locs cells slots (vx_MQ below (QcA K J.1 J.2.1 (.inl none) mem) (XcA K J.1 J.2.1 (.inl none) mem) args s (J.2.2.1 - mC mem) (J.2.2.2.1 - mS mem) (kA K)) (F0 m pc LS [])
      rw [q1, q2]
      exact vx_ret (W.vret C.1 C.2.1 (hret.trans ok2) (fun t ht _ => ⟨ad, EndW.of d0 ht, rfl, fun v hv => by cases hv⟩) (fun z hz => d0.2.2.2.2.2.2.1.2.2 z hz) hd hlk)
    · cases h
end SNDS
