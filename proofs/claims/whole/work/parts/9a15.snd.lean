/-! soundness: calls, handlers, the whole run -/
def ctW (ct : Nat) : Nat := if ct = 13 then 814 else if ct = 19 then 1040 else if ct = 25 then 1063 else 1064
def csX : List Nat := [1075, 975, 1098, 1047]
theorem ctW_ok : ∀ ct ∈ [13, 19, 25, 27], ctx ct < 4 ∧ ct ≠ 0 ∧ lw_tbl[ctW ct]? = some (.classLink "DropSwitchLaw" ct (exn (ctx ct))) := by decide +kernel
theorem csX_ok : ∀ a, a < 4 → lw_tbl[csX.getD a 0]? = some (.castable (exn a) (exn a)) := by decide +kernel
def okH (q : Mrec) : Bool := q.2.2.2.2.1.all (fun h => decide (h.2.2.2 ∈ [13, 19, 25, 27])) && (decide (q.2.2.2.2.1 = []) || decide (q.1.cls = "DropSwitchLaw"))
def CHKT : Prop := CHKS ∧ ∀ (M : Nat) (q : Mrec), mtb[M]? = some q → okH q = true
section SNDC
variable {p : Program} {l : Launch} {e : Env} {R : Room} {s : State} {m : MethodId} {args : Array Value} {below : List Frame} {meth : Method} {c : Code} {K : Kx} {J : Jx} {q : Mrec} {r M : Nat} {Q : State → Prop} {pc : Nat} {ls st : List AV} {mem m1 : Mem} {o : Res}
theorem hTab_eq (hq : mtb[M]? = some q) : hTab M = q.2.2.2.2.1 := by unfold hTab; rw [hq]
theorem g_hx (CH : CHKT) (hq : mtb[M]? = some q) (C : CX p l R s m args meth c K q r) {x : Nat} (hx : x < 4)
    (hn : hfind M pc x = none → o = .inr x ∧ m1 = mem) (hs : ∀ h k h', hfind M pc x = some h → hst M h.2.2.1 = some (k, h') → (k < ls.length ∧ prevOk ls k = true) ∧ GO p l e R s m args below meth c K J q (QE K J below args s o m1) h' (ls.set k (vs 2)) [] mem) (hs2 : ∀ h, hfind M pc x = some h → hst M h.2.2.1 ≠ none) :
    GX p l e R s m args below meth c K J q (QE K J below args s o m1) pc ls x mem := by
  intro ad H LS locs cells slots rest q9 ce d hc1 hc2 hc3
  have okh := CH.2 M q hq
  unfold okH at okh
  rw [Bool.and_eq_true] at okh
  have hall : ∀ h ∈ q.2.2.2.2.1, h.2.2.2 ∈ [13, 19, 25, 27] := fun h hh => of_decide_eq_true (List.all_eq_true.mp okh.1 h hh)
  have hcl : ∀ h ∈ q.2.2.2.2.1, q.1.cls = "DropSwitchLaw" := fun h hh => by
    have := okh.2
    rw [Bool.or_eq_true, decide_eq_true_eq, decide_eq_true_eq] at this
    rcases this with g | g
    · rw [g] at hh; cases hh
    · exact g
  have htab : c.exceptionTable.toList = tableOf q.2.2.2.2.1 := C.2.2.2.2.2.2.2.2.2.2.1
  have hpassG : ∀ h ∈ q.2.2.2.2.1, (decide (h.1 ≤ pc) && decide (pc < h.2.1) && decide (ctx h.2.2.2 = x)) = false →
      covers ⟨h.1, h.2.1, h.2.2.1, h.2.2.2⟩ pc = false ∨ (h.2.2.2 ≠ 0 ∧ ∃ nm : String, (Cond.classLink q.1.cls h.2.2.2 nm).before args s = true ∧ va_Nc (exn x) nm s) := by
    intro h hh hf
    obtain ⟨c1, c2, c3⟩ := ctW_ok _ (hall h hh)
    by_cases hc : covers ⟨h.1, h.2.1, h.2.2.1, h.2.2.2⟩ pc = true
    · refine Or.inr ⟨c2, _, ?_, C.old.2.2.2.2.2.2.2 x (ctx h.2.2.2) hx c1 ?_⟩
      · rw [hcl h hh]; exact C.w c3 rfl
      · intro he
        have hc' : (decide (h.1 ≤ pc) && decide (pc < h.2.1)) = true := hc
        rw [hc'] at hf
        simp [he] at hf
    · exact Or.inl (by simpa using hc)
  cases hf : hfind M pc x with
  | none =>
    obtain ⟨rfl, rfl⟩ := hn hf
    unfold hfind at hf
    rw [hTab_eq hq, List.find?_eq_none] at hf
    have hd11 := d.2.2.2.2.2.2.2.2.2.2.1
    have hd12 := d.2.2.2.2.2.2.2.2.2.2.2
    refine vx_outP C.own C.2.2.2.2.2.2.2.2.1 ?_ hc1 hc2 hc3 (fun t ht _ => ⟨rfl, hx, ad, EndW.of d ht⟩) (fun z hz => d.2.2.2.2.2.2.1.2.2 z hz) (by omega) (by omega)
    intro z hz
    rw [htab] at hz
    obtain ⟨h, hh, rfl⟩ := List.mem_map.mp hz
    exact hpassG h hh (by simpa using hf h hh)
  | some h =>
    cases hk : hst M h.2.2.1 with
    | none => exact absurd hk (hs2 h hf)
    | some w =>
      obtain ⟨k, h'⟩ := w
      obtain ⟨⟨k1, k2⟩, kg⟩ := hs h k h' hf hk
      unfold hfind at hf
      rw [hTab_eq hq, List.find?_eq_some_iff_append] at hf
      obtain ⟨hp, as, bs, hab, hno⟩ := hf
      simp only [Bool.and_eq_true, decide_eq_true_eq] at hp
      have hmem : h ∈ q.2.2.2.2.1 := by rw [hab]; simp
      obtain ⟨c1, c2, c3⟩ := ctW_ok _ (hall h hmem)
      have hcls := hcl h hmem
      rw [hp.2] at c3
      refine vx_catch (name := exn x) C.own (tableOf as) ⟨h.1, h.2.1, h.2.2.1, h.2.2.2⟩ (tableOf bs) (by rw [htab, hab]; simp [tableOf]) ?_ ?_ c2 (by rw [hcls]; exact C.w c3 rfl) (C.w (csX_ok x hx) rfl) hc1 hc2 hc3 ?_
      · intro z hz
        obtain ⟨g, hg, rfl⟩ := List.mem_map.mp hz
        exact hpassG g (by rw [hab]; simp [hg]) (by have h9 := hno g hg; rw [Bool.not_eq_true'] at h9; exact h9)
      · show (decide (h.1 ≤ pc) && decide (pc < h.2.1)) = true
        simp [hp.1.1, hp.1.2]
      · show W p l e R s m args below meth c H locs cells slots _ (F0 m h.2.2.1 LS [.ref q9])
        have hnL : k < q.2.2.1 := by rw [← d.2.1]; exact k1
        have fin : ∀ LS' : Array Slot, lv_has LS' q.2.2.1 ((k, Value.ref q9) :: (lsl ad (ksp K) ls).filter (fun q => !(q.1 == k) && !(q.1 + 1 == k && q.2.category == 2))) → W p l e R s m args below meth c H locs cells slots (QE K J below args s o m1) (F0 m h' LS' []) := fun LS' hl =>
          kg ad H LS' locs cells slots (d.set (lsl_set1 C.kS.1 k2 (Or.inl rfl) hl) (List.length_set ..) (set_vok (v := vs 2) trivial d.2.2.1) (fun _ h => by cases h))
        unfold hst at hk
        split at hk
        · rename_i k0 n tl hlk
          cases hk
          have ok := CH.1.2 M q _ _ hq hlk
          unfold okE at ok
          rw [Bool.and_eq_true] at ok
          have hd := of_decide_eq_true ok.1
          have en : n = 2 := of_decide_eq_true ok.2
          subst en
          exact lv_astore C.1 C.2.1 hd d.1 hnL rfl fin
        · rename_i k0 n tl hlk
          cases hk
          have ok := CH.1.2 M q _ _ hq hlk
          unfold okE at ok
          rw [Bool.and_eq_true] at ok
          have hd := of_decide_eq_true ok.1
          have en : n = 1 := of_decide_eq_true ok.2
          subst en
          exact lv_astore_n C.1 C.2.1 hd rfl d.1 hnL rfl fin
        · cases hk
theorem lex_len {ad : Nat → Nat} {sp : Nat → Value} (hsp : ∀ k, (sp k).category = 1) : ∀ as : List AV, (lg_sl (as.map (conc ad sp))).length = (lex as).length
  | [] => rfl
  | v :: r => by
    have h1 := lex_len (ad := ad) hsp r
    have h2 := cat_conc (ad := ad) hsp v
    unfold lg_sl at h1 ⊢
    rw [List.map_cons, List.flatMap_cons, List.length_append, h1, lex, h2]
    cases hl : lgS v
    · simp; omega
    · simp; omega
theorem lex_at {ad : Nat → Nat} {sp : Nat → Value} (hsp : ∀ k, (sp k).category = 1) : ∀ (as : List AV) (n i : Nat) (v : AV), (lex as)[i]? = some v → v ≠ vs 2 → (n + i, conc ad sp v) ∈ lv_args n (as.map (conc ad sp))
  | [], n, i, v, h, _ => by simp [lex] at h
  | w :: r, n, i, v, h, hn => by
    have h2 := cat_conc (ad := ad) hsp w
    rw [List.map_cons, lv_args, h2]
    rw [lex] at h
    cases hl : lgS w
    · rw [hl, if_neg (by decide)] at h
      cases i with
      | zero =>
        cases h
        exact List.mem_cons_self
      | succ i =>
        have := lex_at (ad := ad) hsp r (n + 1) i v h hn
        rw [show n + 1 + i = n + (i + 1) by omega] at this
        exact List.mem_cons_of_mem _ this
    · rw [hl, if_pos rfl] at h
      rw [if_pos rfl, if_pos rfl]
      cases i with
      | zero =>
        cases h
        exact List.mem_cons_self
      | succ i =>
        cases i with
        | zero => cases h; exact absurd rfl hn
        | succ i =>
          have := lex_at (ad := ad) hsp r (n + 2) i v h hn
          rw [show n + 2 + i = n + (i + 1 + 1) by omega] at this
          exact List.mem_cons_of_mem _ this
theorem lex_vok {L : Nat} : ∀ {as : List AV}, (∀ v ∈ as, vok L v) → ∀ v ∈ lex as, vok L v
  | [], _, v, h => by cases h
  | w :: r, ha, v, h => by
    have hr := lex_vok (as := r) (fun v hv => ha v (List.mem_cons_of_mem _ hv))
    rw [lex] at h
    split at h
    · rcases List.mem_cons.mp h with rfl | h
      · exact ha _ List.mem_cons_self
      · rcases List.mem_cons.mp h with rfl | h
        · trivial
        · exact hr v h
    · rcases List.mem_cons.mp h with rfl | h
      · exact ha _ List.mem_cons_self
      · exact hr v h
theorem entry_len (C : q.2.2.1 = mxl M) (as : List AV) (h : (lex as).length ≤ q.2.2.1) : (entryL M as).length = q.2.2.1 := by
  unfold entryL
  rw [← C]
  simp
  omega
/-- at the start of a method -/
theorem DX.start {ad : Nat → Nat} {as : List AV} (hK : KSp K) (hM : mtb[M]? = some q) (hP : va_P (kD K) vwCl (wld (kca K) ad mem) s.heap) (hD : va_D (kA K) (wld (kca K) ad mem)) (hW : WF mem) (hv : ∀ v ∈ as, vok mem.1.length v) (hl : (lex as).length ≤ q.2.2.1) :
    DX s K (ad, mem.1.length, mC mem, mS mem, mC m1, mS m1) q ad s.heap ((lg_sl (as.map (conc ad (ksp K))) ++ List.replicate (q.2.2.1 - (lg_sl (as.map (conc ad (ksp K)))).length) Slot.unset).toArray) [] mem (entryL M as) [] 0 0 := by
  have hmx : q.2.2.1 = mxl M := by unfold mxl; rw [hM]
  refine ⟨?_, entry_len hmx as hl, ?_, (fun _ h => absurd h List.not_mem_nil), hP, hD, va_S.rf, hW, fun _ _ => rfl, Nat.le_refl _, Nat.zero_add _, Nat.zero_add _⟩
  · refine has_sub (lv_entry _ (by rw [lex_len hK.1]; exact hl)) fun w hw => ?_
    obtain ⟨v, h1, h2, h3⟩ := mem_lsl.mp hw
    unfold entryL at h1
    by_cases hi : w.1 < (lex as).length
    · rw [List.getElem?_append_left hi] at h1
      have := lex_at (ad := ad) hK.1 as 0 w.1 v h1 h2
      rw [Nat.zero_add, ← h3] at this
      exact this
    · rw [List.getElem?_append_right (by omega)] at h1
      have := List.mem_of_getElem? h1
      exact absurd (List.eq_of_mem_replicate this) h2
  · intro v hv'
    unfold entryL at hv'
    rcases List.mem_append.mp hv' with h | h
    · exact lex_vok hv v h
    · rw [List.eq_of_mem_replicate h]; trivial
end SNDC
