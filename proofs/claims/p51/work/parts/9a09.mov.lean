/-! what stays while the machine runs on; what only grows; the static check of the tables -/
theorem mv_word {args a' : Array Value} {s U : State} {w : Cond} (hW : s.WarmedH U.vm) (g : mvW w = true) (h : w.before args s = true) : w.before a' U = true := by
  unfold mvW at g
  rw [Bool.or_eq_true] at g
  rcases g with g | g
  · exact word_at hW (good_of_word g) h
  · cases w <;> first
      | exact va_Nw.use rfl (va_Nw.warmC hW (va_Nw.of rfl h))
      | exact va_Nw.use rfl (va_Nw.warmD hW (va_Nw.of rfl h))
      | exact va_Nw.use rfl (va_Nw.warmM hW (va_Nw.of rfl h))
      | exact va_Nw.use rfl (va_Nw.warmF hW (va_Nw.of rfl h))
      | (cases g; done)
/-- what a callee is told of the machine -/
def PD (K : Kx) (U : State) : Prop := (∀ w ∈ GWs, va_Nw w U) ∧ va_K (kD K) vwCl (tysOf (kca K)) U ∧ OLD K U ∧ kB K ≤ U.heap.size
theorem GWs_mv {w : Cond} (h : w ∈ GWs) : mvW w = true := (List.mem_filter.mp h).2
theorem OLD.mv {K : Kx} {s U : State} (hK : KSp K) (hB : kB K ≤ s.heap.size) (hW : s.WarmedH U.vm) (hq : ∀ a : Nat, a < s.heap.size → ¬ kA K a → U.heap[a]? = s.heap[a]?) (h : OLD K s) : OLD K U := by
  obtain ⟨h1, h2, h3, h4, h5, h6, h7, h8, h9, kc, k1, c0, g1, g2, g3, g4, g5⟩ := h
  have hal := hW.alike
  have hb : kb K < kB K := hK.2.2.2.2.2.1
  refine ⟨(h1.moved hal).kept (hq _ (by omega) (Nat.not_le.mpr hb)), fun i hi => ?_, (h3.moved hal).kept hq, (h4.moved hal).kept hq, (h5.moved hal).kept hq, (h6.moved hal).kept hq, h7.moved hal, fun y hy => mv_word (args := #[]) hW rfl (h8 y hy), ⟨fun i a b => ((h9.1 i a b).moved hal).kept hq, (h9.2.1.moved hal).kept hq, (h9.2.2.moved hal).kept hq⟩, ?_⟩
  · obtain ⟨g1, g2, g3, g4, g5⟩ := h2 i hi
    exact ⟨g1.warm hW, (g2.moved hal).kept hq, (g3.moved hal).kept hq, (g4.moved hal).kept hq, (g5.moved hal).kept hq⟩
  · obtain ⟨kc2, w1, w2⟩ := hal.2.2 _ _ g1
    obtain ⟨k12, w3, w4⟩ := hal.2.2 _ _ g4
    exact ⟨kc2, k12, c0, w1, by rw [w2]; exact g2, by rw [hal.findClass]; exact g3, w3, by rw [w4]; exact g5⟩
theorem PD.mv {K : Kx} {s U : State} {args : Array Value} (hK : KSp K) (hB : kB K ≤ s.heap.size) (hW : s.WarmedH U.vm) (hz : s.heap.size ≤ U.heap.size) (hq : ∀ a : Nat, a < s.heap.size → ¬ kA K a → U.heap[a]? = s.heap[a]?)
    (h1 : ∀ w ∈ GWs, w.before args s = true) (h2 : va_K (kD K) vwCl (tysOf (kca K)) s) (h3 : OLD K s) : PD K U :=
  ⟨fun w hw => mv_word hW (GWs_mv hw) (h1 w hw), h2.moved hW.alike, h3.mv hK hB hW hq, Nat.le_trans hB hz⟩
/-- budgets only fall, objects only come -/
def MN (m m' : Mem) : Prop := mC m' ≤ mC m ∧ mS m' ≤ mS m ∧ m.1.length ≤ m'.1.length
theorem MN.rf (m : Mem) : MN m m := ⟨Nat.le_refl _, Nat.le_refl _, Nat.le_refl _⟩
theorem MN.tr {a b c : Mem} (h1 : MN a b) (h2 : MN b c) : MN a c := ⟨Nat.le_trans h2.1 h1.1, Nat.le_trans h2.2.1 h1.2.1, Nat.le_trans h1.2.2 h2.2.2⟩
theorem MN.n (m : Mem) (k n z : Nat) : MN m (mN m k n z) := ⟨Nat.sub_le _ _, Nat.sub_le _ _, by rw [len_mN]; omega⟩
theorem MN.b (m : Mem) (c s : Nat) : MN m (mB m c s) := ⟨Nat.sub_le _ _, Nat.sub_le _ _, Nat.le_refl _⟩
theorem MN.cl (m : Mem) (o n : Nat) : MN m (mCl m o n) := ⟨Nat.sub_le _ _, Nat.sub_le _ _, by simp [mCl]⟩
theorem mnA_mn (m : Mem) (o w : Nat) : ∀ k, MN m (mnA m o w k)
  | 0 => MN.rf _
  | k + 1 => MN.tr (mnA_mn m o w k) (MN.n (mnA m o w k) 1 w w)
theorem MN.ma (m : Mem) (o w n k : Nat) : MN m (mnA (mN m 6 n n) o w k) := MN.tr (MN.n ..) (mnA_mn _ _ _ _)
def MO (m : Mem) (o : Out) : Prop := match o with
  | .inl (_, _, _, m') => MN m m'
  | .inr (.inl _) => True
  | .inr (.inr (_, m')) => MN m m'
set_option maxHeartbeats 4000000 in
theorem ins_mn {xs : List Int} {e : Ent} {pc : Nat} {ls st : List AV} {m : Mem} {o : Out} (h : am_ins xs e pc ls st m = some o) : MO m o := by
  unfold am_ins at h
  split at h
  all_goals (
    try simp only [go, fin, jmp, o_ld, o_ll, o_al, o_is, o_ls, o_as, o_b, o_d, o_u, o_bl, o_dl, o_sl, o_if, o_ic, o_ia, o_ba, o_la, o_aa, o_iS, o_bS, o_lS, o_aS, o_len, o_gf, o_pf, o_na, o_iv, o_cp, o_mn, o_sw, o_ir, o_ar, o_lr, o_nw, o_dup, o_dup2, o_pop, o_inc, o_ivv, o_ivs, o_oi, o_ivp, o_gs, o_l2i, o_i2l, o_lc, o_rt, o_lk, o_cl, o_cc, o_ma, o_mx, o_dx1, o_nn] at h
    (try (repeat' split at h))
    all_goals first
      | (cases h; done)
      | (cases h; first | exact MN.rf _ | exact MN.n .. | exact MN.b .. | exact MN.cl .. | exact MN.ma .. | trivial))
theorem run_mn {xs : List Int} {o : Res × Mem} : ∀ (n M r pc : Nat) (ls st : List AV) (m : Mem), am_run xs n M r pc ls st m = some o → MN m o.2
  | 0, _, _, _, _, _, _, h => by cases h
  | n + 1, M, r, pc, ls, st, m, h => by
    rw [am_run] at h
    cases hl : look M pc with
    | none => rw [hl] at h; cases h
    | some e =>
      rw [hl] at h
      simp only at h
      cases hi : am_ins xs e pc ls st m with
      | none => rw [hi] at h; cases h
      | some q =>
        have hm := ins_mn hi
        rw [hi] at h
        rcases q with ⟨pc', ls', st', m'⟩ | ⟨j, as, rest⟩ | q
        · exact MN.tr hm (run_mn n M r pc' ls' st' m' h)
        · simp only at h
          split at h
          · rename_i hr
            cases hc : am_run xs n j (rkA j as) 0 (entryL j as) [] m with
            | none => rw [hc] at h; cases h
            | some w =>
              have h1 := run_mn n _ _ _ _ _ _ hc
              rw [hc] at h
              obtain ⟨w1, m1⟩ := w
              rcases w1 with v | x
              · exact MN.tr h1 (run_mn n M r _ _ _ _ h)
              · simp only at h
                cases hf : hfind M pc x with
                | none => rw [hf] at h; cases h; exact h1
                | some hh =>
                  rw [hf] at h
                  simp only at h
                  cases hs : hst M hh.2.2.1 with
                  | none => rw [hs] at h; cases h
                  | some w =>
                    rw [hs] at h
                    obtain ⟨k1, h1'⟩ := w
                    simp only at h
                    split at h
                    · exact MN.tr h1 (run_mn n M r _ _ _ _ h)
                    · cases h
          · cases h
        · simp only at h
          cases h
          exact hm
