/-! SOUNDNESS: a run of the abstract machine is met by the machine -/
theorem rk_l (as : List AV) : rkA 344 as = 36 := rfl
theorem SND {l : Launch} {K : Kx} (CH : CHKT) (hl : l.stackTraces = false) (hK : KSp K) : ∀ (n M r pc : Nat) (ls st : List AV) (mem : Mem) (o : Res) (m1 : Mem), am_run (kxs K) n M r pc ls st mem = some (o, m1) → r ≤ 36 →
    ∀ {p : Program} {e : Env} {R : Room} {s : State} {m : MethodId} {args : Array Value} {below : List Frame} {meth : Method} {c : Code} {J : Jx} {q : Mrec}, mtb[M]? = some q → CX p l R s m args meth c K q r → J.2.2.2.2.1 = mC m1 → J.2.2.2.2.2 = mS m1 → (J.2.2.1 ≤ R.cells + mC m1 ∧ J.2.2.2.1 ≤ R.slots + mS m1) →
    GO p l e R s m args below meth c K J q (QE K J below args s o m1) pc ls st mem
  | 0, _, _, _, _, _, _, _, _, h, _ => by cases h
  | n + 1, M, r, pc, ls, st, mem, o, m1, h, h35 => by
    rename_i p e R s m args below meth c J q
    intro hq C j5 j6 hJ
    rw [am_run] at h
    cases hlk : look M pc with
    | none => rw [hlk] at h; cases h
    | some en =>
      rw [hlk] at h
      simp only at h
      have ok := CH.1.2 M q pc en hq hlk
      cases hi : am_ins (kxs K) en pc ls st mem with
      | none => rw [hi] at h; cases h
      | some w =>
        rw [hi] at h
        rcases w with ⟨pc', ls', st', mem'⟩ | ⟨j, as, rest⟩ | w
        · have hmn := run_mn n M r pc' ls' st' mem' h
          exact STEP C ok (by rw [j5, j6]; exact hJ) (by rw [j5, j6]; exact ⟨hmn.1, hmn.2.1⟩) hi (SND CH hl hK n M r pc' ls' st' mem' o m1 h h35 hq C j5 j6 hJ)
        · simp only at h
          split at h
          · rename_i hr
            unfold okE at ok
            rw [Bool.and_eq_true] at ok
            have hd := of_decide_eq_true ok.1
            cases hc : am_run (kxs K) n j (rkA j as) 0 (entryL j as) [] mem with
            | none => rw [hc] at h; cases h
            | some w =>
              obtain ⟨w1, mc⟩ := w
              have hmc : MN mem mc := run_mn n _ _ _ _ _ _ hc
              have hj : j ≠ 344 := fun e => by
                rw [e, rk_l] at hr
                omega
              have hcon : ∀ (y : Mrec) (ad : Nat → Nat), mtb[j]? = some y → WF mem → (∀ v ∈ as, vok mem.1.length v) → (lex as).length ≤ y.2.2.1 → CON l K y (rkA j as) as ad mem w1 mc := by
                intro y ad hy hW hv hlen
                refine CON_of CH hl hj hy hK hW hv hlen hmc fun p e s m args below meth c hC => ?_
                exact SND CH hl hK n j (rkA j as) 0 (entryL j as) [] mem w1 mc hc (by omega) hy hC rfl rfl ⟨by show mC mem ≤ mC mem - mC mc + mC mc; omega, by show mS mem ≤ mS mem - mS mc + mS mc; omega⟩
              rw [hc] at h
              rcases w1 with v | x
              · have hmn : MN mc m1 := run_mn n _ _ _ _ _ _ h
                refine g_call CH C hd ok.2 ⟨by have := hmn.1; have := hJ.1; omega, by have := hmn.2.1; have := hJ.2; omega⟩ hi hr hj hmc hcon (fun ov hov => ?_) (fun x hx => by cases hx)
                cases hov
                exact SND CH hl hK n M r (pc + 3) ls (v.toList ++ rest) mc o m1 h h35 hq C j5 j6 hJ
              · simp only at h
                have hmn : MN mc m1 := by
                  cases hf : hfind M pc x with
                  | none => rw [hf] at h; cases h; exact MN.rf _
                  | some hh =>
                    rw [hf] at h
                    simp only at h
                    cases hs : hst M hh.2.2.1 with
                    | none => rw [hs] at h; cases h
                    | some w =>
                      rw [hs] at h
                      obtain ⟨k1, h1'⟩ := w
                      simp only at h
                      split at h
                      · exact run_mn n _ _ _ _ _ _ h
                      · cases h
                refine g_call CH C hd ok.2 ⟨by have := hmn.1; have := hJ.1; omega, by have := hmn.2.1; have := hJ.2; omega⟩ hi hr hj hmc hcon (fun ov hov => by cases hov) (fun x' hx hx4 => ?_)
                cases hx
                refine g_hx CH hq C hx4 (fun hf => ?_) (fun hh k h' hf hs => ?_) (fun hh hf hs => ?_)
                · rw [hf] at h; cases h; exact ⟨rfl, rfl⟩
                · rw [hf] at h
                  simp only [hs] at h
                  split at h
                  · rename_i hk
                    exact ⟨hk, SND CH hl hK n M r h' _ [] mc o m1 h h35 hq C j5 j6 hJ⟩
                  · cases h
                · rw [hf] at h
                  simp only [hs] at h
                  cases h
          · cases h
        · simp only at h
          cases h
          unfold okE at ok
          rw [Bool.and_eq_true] at ok
          exact g_rt C (of_decide_eq_true ok.1) ok.2 hJ hi
