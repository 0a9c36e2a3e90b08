/-! soundness: calls, handlers, the whole run -/
def CHKT : Prop := CHKS ∧ ∀ (M : Nat) (q : Mrec), mtb[M]? = some q → q.2.2.2.2.1 = []
section SNDC
variable {p : Program} {l : Launch} {e : Env} {R : Room} {s : State} {m : MethodId} {args : Array Value} {below : List Frame} {meth : Method} {c : Code} {K : Kx} {J : Jx} {q : Mrec} {r M : Nat} {Q : State → Prop} {pc : Nat} {ls st : List AV} {mem m1 : Mem} {o : Res}
theorem hTab_eq (hq : mtb[M]? = some q) : hTab M = q.2.2.2.2.1 := by unfold hTab; rw [hq]
theorem g_hx (CH : CHKT) (hq : mtb[M]? = some q) (C : CX p l R s m args meth c K q r) {x : Nat} (hx : x < 4)
    (hn : hfind M pc x = none → o = .inr x ∧ m1 = mem) (hs : ∀ h k h', hfind M pc x = some h → hst M h.2.2.1 = some (k, h') → (k < ls.length ∧ prevOk ls k = true) ∧ GO p l e R s m args below meth c K J q (QE K J below args s o m1) h' (ls.set k (vs 2)) [] mem) (hs2 : ∀ h, hfind M pc x = some h → hst M h.2.2.1 ≠ none) :
    GX p l e R s m args below meth c K J q (QE K J below args s o m1) pc ls x mem := by
  intro ad H LS locs cells slots rest q9 ce d hc1 hc2 hc3
  have hh := CH.2 M q hq
  have hf : hfind M pc x = none := by unfold hfind; rw [hTab_eq hq, hh]; rfl
  obtain ⟨rfl, rfl⟩ := hn hf
  have htab : c.exceptionTable.toList = [] := by rw [C.2.2.2.2.2.2.2.2.2.2.1, hh]; rfl
  have hd11 := d.2.2.2.2.2.2.2.2.2.2.1
  have hd12 := d.2.2.2.2.2.2.2.2.2.2.2
  refine vx_outP C.own C.2.2.2.2.2.2.2.2.1 ?_ hc1 hc2 hc3 (fun t ht _ => ⟨rfl, hx, ad, EndW.of d ht⟩) (fun z hz => d.2.2.2.2.2.2.1.2.2 z hz) (by omega) (by omega)
  intro z hz
  rw [htab] at hz
  cases hz
theorem lex_len {ad : Nat → Nat} {sp : Nat → Value} (hsp : ∀ k, (sp k).category = 1) : ∀ as : List AV, (lg_sl (as.map (conc ad sp))).length = (lex as).length
  | [] => rfl
  | v :: r => by
    have h1 := lex_len (ad := ad) hsp r
    have h2 := cat_conc (ad := ad) hsp v
    unfold lg_sl at h1 ⊢
    rw [List.map_cons, List.flatMap_cons, List.length_append, h1, lex, h2]
    cases hl : lgS v
    · simp; omega
    · simp; omega
theorem lex_at {ad : Nat → Nat} {sp : Nat → Value} (hsp : ∀ k, (sp k).category = 1) : ∀ (as : List AV) (n i : Nat) (v : AV), (lex as)[i]? = some v → v ≠ vs 2 → (n + i, conc ad sp v) ∈ lv_args n (as.map (conc ad sp))
  | [], n, i, v, h, _ => by simp [lex] at h
  | w :: r, n, i, v, h, hn => by
    have h2 := cat_conc (ad := ad) hsp w
    rw [List.map_cons, lv_args, h2]
    rw [lex] at h
    cases hl : lgS w
    · rw [hl, if_neg (by decide)] at h
      cases i with
      | zero =>
        cases h
        exact List.mem_cons_self
      | succ i =>
        have := lex_at (ad := ad) hsp r (n + 1) i v h hn
        rw [show n + 1 + i = n + (i + 1) by omega] at this
        exact List.mem_cons_of_mem _ this
    · rw [hl, if_pos rfl] at h
      rw [if_pos rfl, if_pos rfl]
      cases i with
      | zero =>
        cases h
        exact List.mem_cons_self
      | succ i =>
        cases i with
        | zero => cases h; exact absurd rfl hn
        | succ i =>
          have := lex_at (ad := ad) hsp r (n + 2) i v h hn
          rw [show n + 2 + i = n + (i + 1 + 1) by omega] at this
          exact List.mem_cons_of_mem _ this
theorem lex_vok {L : Nat} : ∀ {as : List AV}, (∀ v ∈ as, vok L v) → ∀ v ∈ lex as, vok L v
  | [], _, v, h => by cases h
  | w :: r, ha, v, h => by
    have hr := lex_vok (as := r) (fun v hv => ha v (List.mem_cons_of_mem _ hv))
    rw [lex] at h
    split at h
    · rcases List.mem_cons.mp h with rfl | h
      · exact ha _ List.mem_cons_self
      · rcases List.mem_cons.mp h with rfl | h
        · trivial
        · exact hr v h
    · rcases List.mem_cons.mp h with rfl | h
      · exact ha _ List.mem_cons_self
      · exact hr v h
theorem entry_len (C : q.2.2.1 = mxl M) (as : List AV) (h : (lex as).length ≤ q.2.2.1) : (entryL M as).length = q.2.2.1 := by
  unfold entryL
  rw [← C]
  simp
  omega
/-- at the start of a method -/
theorem DX.start {ad : Nat → Nat} {as : List AV} (hK : KSp K) (hM : mtb[M]? = some q) (hP : va_P (kD K) vwCl (wld (kca K) ad mem) s.heap) (hD : va_D (kA K) (wld (kca K) ad mem)) (hW : WF mem) (hv : ∀ v ∈ as, vok mem.1.length v) (hl : (lex as).length ≤ q.2.2.1) :
    DX s K (ad, mem.1.length, mC mem, mS mem, mC m1, mS m1) q ad s.heap ((lg_sl (as.map (conc ad (ksp K))) ++ List.replicate (q.2.2.1 - (lg_sl (as.map (conc ad (ksp K)))).length) Slot.unset).toArray) [] mem (entryL M as) [] 0 0 := by
  have hmx : q.2.2.1 = mxl M := by unfold mxl; rw [hM]
  refine ⟨?_, entry_len hmx as hl, ?_, (fun _ h => absurd h List.not_mem_nil), hP, hD, va_S.rf, hW, fun _ _ => rfl, Nat.le_refl _, Nat.zero_add _, Nat.zero_add _⟩
  · refine has_sub (lv_entry _ (by rw [lex_len hK.1]; exact hl)) fun w hw => ?_
    obtain ⟨v, h1, h2, h3⟩ := mem_lsl.mp hw
    unfold entryL at h1
    by_cases hi : w.1 < (lex as).length
    · rw [List.getElem?_append_left hi] at h1
      have := lex_at (ad := ad) hK.1 as 0 w.1 v h1 h2
      rw [Nat.zero_add, ← h3] at this
      exact this
    · rw [List.getElem?_append_right (by omega)] at h1
      have := List.mem_of_getElem? h1
      exact absurd (List.eq_of_mem_replicate this) h2
  · intro v hv'
    unfold entryL at hv'
    rcases List.mem_append.mp hv' with h | h
    · exact lex_vok hv v h
    · rw [List.eq_of_mem_replicate h]; trivial
end SNDC
