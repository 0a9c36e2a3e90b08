/-! what is counted: an arrival -/
section ACD
variable {n e m : Nat} {ar : Nat → Nat} {r : Ra} {h : Hi} {l : Li} {way : Nat → Bool} {j : Nat}
theorem AC_mono (H : AC n (e + 1) m ar r) : AC n (e + 1) (m + 1) ar r := by
  obtain ⟨h1, h2, h3, h4, h5, h6, h7⟩ := H
  refine ⟨uq_mono h1 (Nat.le_succ m), h2, fun p => ?_, fun k s hk => h4 k s (by omega), h5, h6, h7⟩
  rw [h3 p, cN_s, h4 m (p + 1) (Nat.le_refl m)]
  rfl
theorem AC_q {B : Sa} (hq : ∀ y, sQ B y = sQ r.1 y) (H : AC n (e + 1) m ar r) : AC n (e + 1) m ar (B, r.2) := by
  unfold AC uq at H ⊢
  simp only [hq]
  exact H
theorem AC_dr (H : AC n (e + 1) m ar r) {k p c : Nat} (hk : k < m) (hf : fresh k p r) (h0 : r.2.2.1 k (p + 1) = 0) (hp : p < n) (ha : ar k ≤ e) (hc : c = 6 ∨ c = 7) : AC n (e + 1) m ar (r.1, addDr r.2 e k ((p : Nat) : Int) c (-1)) := by
  obtain ⟨h1, h2, h3, h4, h5, h6, h7⟩ := H
  have hfa : ∀ k' s, (addDr r.2 e k ((p : Nat) : Int) c (-1)).2.1 k' s = fu2 r.2.2.1 k (p + 1) 3 k' s := fun k' s => rfl
  obtain ⟨d1, d2⟩ := drs_add (n := n) (e := e) (ar := ar) (d := (e, k, ((p : Nat) : Int), c, (-1 : Int))) h6 h7 ⟨Nat.lt_succ_self e, ha, Or.inr ⟨Int.natCast_nonneg p, Int.ofNat_lt.mpr hp, by show 6 ≤ c; omega, by show c ≤ 10; omega, by show c = 8 ↔ 0 ≤ (-1 : Int); omega⟩⟩ rfl
  refine ⟨uq_dr h1 hk (by omega) (fun p' hp' c' hc' => ?_) hf.2, fun k' y => ?_, fun y => ?_, fun k' s hk' => ?_, h5, d1, d2⟩
  · have : p' = p := by omega
    rw [this] at hc'
    exact hf.1 c' hc'
  · show (addDr r.2 e k ((p : Nat) : Int) c (-1)).2.1 k' (y + 1) = 1 ↔ ∃ c, c ∈ sQ r.1 y ∧ c.1 = k'
    rw [hfa]
    by_cases hky : k' = k ∧ y + 1 = p + 1
    · have hyp : y = p := by omega
      subst hyp
      rw [hky.1, fu2_e]
      exact ⟨fun q => absurd q (by decide), fun ⟨c', g1, g2⟩ => absurd g2 (hf.1 c' g1)⟩
    · rw [fu2_o hky]; exact h2 k' y
  · show r.2.2.2 y = cN (fun k' => decide ((addDr r.2 e k ((p : Nat) : Int) c (-1)).2.1 k' (y + 1) = 2)) m
    rw [h3 y]
    refine cN_cg m (fun k' hk' => ?_)
    rw [hfa]
    by_cases hky : k' = k ∧ y + 1 = p + 1
    · have hyp : y = p := by omega
      subst hyp
      rw [hky.1, fu2_e, h0]
      rfl
    · rw [fu2_o hky]
  · show (addDr r.2 e k ((p : Nat) : Int) c (-1)).2.1 k' s = 0
    rw [hfa, fu2_o (fun q => by omega)]
    exact h4 k' s hk'
theorem AC_ref (H : AC n (e + 1) m ar r) {k c : Nat} {x : Int} (hk : k < m) (hf : ∀ d, d ∈ r.2.1 → ¬ (d.2.1 = k ∧ d.2.2.1 = -1)) (ha : ar k ≤ e) (hc : 1 ≤ c ∧ c ≤ 5 ∧ (0 ≤ x → c = 2)) : AC n (e + 1) m ar (r.1, addDr r.2 e k (-1) c x) := by
  obtain ⟨h1, h2, h3, h4, h5, h6, h7⟩ := H
  have hfa : ∀ k' s, (addDr r.2 e k (-1) c x).2.1 k' s = fu2 r.2.2.1 k 0 3 k' s := fun k' s => rfl
  obtain ⟨d1, d2⟩ := drs_add (n := n) (e := e) (ar := ar) (d := (e, k, (-1 : Int), c, x)) h6 h7 ⟨Nat.lt_succ_self e, ha, Or.inl ⟨rfl, hc.1, hc.2.1, hc.2.2⟩⟩ rfl
  refine ⟨uq_dr h1 hk (Int.le_refl _) (fun p' hp' => absurd hp' (by omega)) hf, fun k' y => ?_, fun y => ?_, fun k' s hk' => ?_, h5, d1, d2⟩
  · show (addDr r.2 e k (-1) c x).2.1 k' (y + 1) = 1 ↔ ∃ c, c ∈ sQ r.1 y ∧ c.1 = k'
    rw [hfa, fu2_o (fun q => by omega)]
    exact h2 k' y
  · show r.2.2.2 y = cN (fun k' => decide ((addDr r.2 e k (-1) c x).2.1 k' (y + 1) = 2)) m
    rw [h3 y]
    refine cN_cg m (fun k' hk' => ?_)
    rw [hfa, fu2_o (fun q => by omega)]
  · show (addDr r.2 e k (-1) c x).2.1 k' s = 0
    rw [hfa, fu2_o (fun q => by omega)]
    exact h4 k' s hk'
theorem AC_put (H : AC n (e + 1) m ar r) {k p : Nat} (hk : k < m) (hf : fresh k p r) (h0 : r.2.2.1 k (p + 1) = 0) (hp : p < n) : AC n (e + 1) m ar (putEnd e k p r) := by
  obtain ⟨h1, h2, h3, h4, h5, h6, h7⟩ := H
  have hfa : ∀ k' s, (putEnd e k p r).2.2.1 k' s = fu2 r.2.2.1 k (p + 1) 1 k' s := fun k' s => rfl
  have hqa : ∀ y, sQ (putEnd e k p r).1 y = if y = p then sQ r.1 p ++ [(k, sTime r.1)] else sQ r.1 y := fun y => sQ_set
  refine ⟨uq_put h1 hk hf, fun k' y => ?_, fun y => ?_, fun k' s hk' => ?_, fun y c' hc' => ?_, h6, h7⟩
  · rw [hfa, hqa]
    by_cases hy : y = p
    · subst hy
      rw [if_pos rfl]
      by_cases hkk : k' = k
      · subst hkk
        rw [fu2_e]
        exact ⟨fun _ => ⟨(k', sTime r.1), List.mem_append.mpr (Or.inr (List.mem_singleton.mpr rfl)), rfl⟩, fun _ => rfl⟩
      · rw [fu2_o (fun q => hkk q.1), h2]
        refine ⟨fun ⟨c', g1, g2⟩ => ⟨c', List.mem_append.mpr (Or.inl g1), g2⟩, fun ⟨c', g1, g2⟩ => ?_⟩
        rcases List.mem_append.mp g1 with g1 | g1
        · exact ⟨c', g1, g2⟩
        · rw [List.mem_singleton.mp g1] at g2
          exact absurd g2.symm hkk
    · rw [if_neg hy, fu2_o (fun q => hy (by omega))]
      exact h2 k' y
  · show r.2.2.2 y = cN (fun k' => decide ((putEnd e k p r).2.2.1 k' (y + 1) = 2)) m
    rw [h3 y]
    refine cN_cg m (fun k' hk' => ?_)
    rw [hfa]
    by_cases hky : k' = k ∧ y + 1 = p + 1
    · have hyp : y = p := by omega
      subst hyp
      rw [hky.1, fu2_e, h0]
      rfl
    · rw [fu2_o hky]
  · rw [hfa, fu2_o (fun q => by omega)]
    exact h4 k' s hk'
  · rw [hqa] at hc'
    split at hc'
    · rename_i hy
      rw [hy]; exact hp
    · exact h5 y c' hc'
/-- the packet m is under way: the ports below j are done -/
def WW (n e m : Nat) (ar : Nat → Nat) (way : Nat → Bool) (j : Nat) (r : Ra) : Prop := AC n (e + 1) (m + 1) ar r ∧ FF n m r ∧ r.2.2.1 m 0 = 0 ∧ (∀ p, j ≤ p → fresh m p r ∧ r.2.2.1 m (p + 1) = 0) ∧ ∀ p, p < j → way p = true → r.2.2.1 m (p + 1) ≠ 0
theorem WW_out (W : WW n e m ar way j r) (har : ∀ k, k < m + 1 → ar k ≤ e) {i : Nat} (hi : i < (sQ r.1 j).length) : WW n e m ar way j (outDr e j i 8 ((m : Nat) : Int) r) := by
  obtain ⟨w1, w2, w3, w4, w5⟩ := W
  have hk0 : ((sQ r.1 j).getD i (0, 0)).1 ≠ m := (w4 j (Nat.le_refl j)).1.1 _ (mem_g hi)
  have hfa : ∀ s, (outDr e j i 8 ((m : Nat) : Int) r).2.2.1 m s = r.2.2.1 m s := fun s => fu2_o (fun q => hk0 q.1.symm)
  refine ⟨AC_out w1 har hi ⟨by decide, by decide, fun _ => Int.natCast_nonneg m, fun _ => rfl⟩, FF_out w2 w1 hi, (hfa 0).trans w3, fun p hp => ⟨fresh_out hi (w4 p hp).1 (Decidable.em _), (hfa _).trans (w4 p hp).2⟩, fun p hp hw => ?_⟩
  rw [hfa]
  exact w5 p hp hw
theorem WW_push {cap siz j : Nat} (har : ∀ k, k < m + 1 → ar k ≤ e) : ∀ z (r : Ra), (sQ r.1 j).length = z → WW n e m ar way j r → WW n e m ar way j (pushA h cap siz e m j z r)
  | 0, _, _, W => W
  | z + 1, r, hz, W => by
    unfold pushA
    split
    · exact W
    · have hi := loK_lt (rkQ h (sQ r.1 j)) (sQ r.1 j).length (by omega)
      exact WW_push har z _ (by
        show (sQ (setQ r.1 j _) j).length = z
        rw [sQ_set, if_pos rfl, len_e hi]
        omega) (WW_out W har hi)
theorem WW_putA (W : WW n e m ar way j r) (har : ∀ k, k < m + 1 → ar k ≤ e) (hj : j < n) : WW n e m ar way (j + 1) (putA h l e m j r).1 := by
  have hm : m < m + 1 := Nat.lt_succ_self m
  have hdr : ∀ c, c = 6 ∨ c = 7 → WW n e m ar way (j + 1) (r.1, addDr r.2 e m ((j : Nat) : Int) c (-1)) := by
    intro c hc
    obtain ⟨w1, w2, w3, w4, w5⟩ := W
    have hfa : ∀ k' s, (addDr r.2 e m ((j : Nat) : Int) c (-1)).2.1 k' s = fu2 r.2.2.1 m (j + 1) 3 k' s := fun k' s => rfl
    refine ⟨AC_dr w1 hm (w4 j (Nat.le_refl j)).1 (w4 j (Nat.le_refl j)).2 hj (har m hm) hc, fun k hk => ?_, ?_, fun p hp => ⟨⟨(w4 p (by omega)).1.1, fun d hd => ?_⟩, ?_⟩, fun p hp hw => ?_⟩
    · have e1 : ∀ s, (addDr r.2 e m ((j : Nat) : Int) c (-1)).2.1 k s = r.2.2.1 k s := fun s => by rw [hfa, fu2_o (fun q => by omega)]
      show ((addDr r.2 e m ((j : Nat) : Int) c (-1)).2.1 k 0 = 3 ∧ ∀ y, y < n → (addDr r.2 e m ((j : Nat) : Int) c (-1)).2.1 k (y + 1) = 0) ∨ ((addDr r.2 e m ((j : Nat) : Int) c (-1)).2.1 k 0 = 0 ∧ ∃ y, y < n ∧ (addDr r.2 e m ((j : Nat) : Int) c (-1)).2.1 k (y + 1) ≠ 0)
      simp only [e1]
      exact w2 k hk
    · show (addDr r.2 e m ((j : Nat) : Int) c (-1)).2.1 m 0 = 0
      rw [hfa, fu2_o (fun q => by omega)]; exact w3
    · have hd' : d ∈ r.2.1 ++ [(e, m, ((j : Nat) : Int), c, (-1 : Int))] := hd
      rcases List.mem_append.mp hd' with hd1 | hd1
      · exact (w4 p (by omega)).1.2 d hd1
      · rw [List.mem_singleton] at hd1
        subst hd1
        intro q
        have h9 : ((j : Nat) : Int) = (p : Int) := q.2
        omega
    · show (addDr r.2 e m ((j : Nat) : Int) c (-1)).2.1 m (p + 1) = 0
      rw [hfa, fu2_o (fun q => by omega)]; exact (w4 p (by omega)).2
    · show (addDr r.2 e m ((j : Nat) : Int) c (-1)).2.1 m (p + 1) ≠ 0
      rw [hfa]
      by_cases hpj : p = j
      · rw [hpj, fu2_e]; decide
      · rw [fu2_o (fun q => by omega)]; exact w5 p (by omega) hw
  unfold putA
  split
  · exact hdr 6 (Or.inl rfl)
  · split
    · exact hdr 7 (Or.inr rfl)
    · obtain ⟨w1, w2, w3, w4, w5⟩ := WW_push (h := h) (cap := lCap l j) (siz := hSiz h m) har _ r rfl W
      generalize pushA h (lCap l j) (hSiz h m) e m j (sQ r.1 j).length r = r at w1 w2 w3 w4 w5 ⊢
      have hfa : ∀ k' s, (putEnd e m j r).2.2.1 k' s = fu2 r.2.2.1 m (j + 1) 1 k' s := fun k' s => rfl
      refine ⟨AC_put w1 hm (w4 j (Nat.le_refl j)).1 (w4 j (Nat.le_refl j)).2 hj, fun k hk => ?_, ?_, fun p hp => ⟨⟨fun c' hc' => ?_, (w4 p (by omega)).1.2⟩, ?_⟩, fun p hp hw => ?_⟩
      · have e1 : ∀ s, (putEnd e m j r).2.2.1 k s = r.2.2.1 k s := fun s => by rw [hfa, fu2_o (fun q => by omega)]
        simp only [e1]
        exact w2 k hk
      · rw [hfa, fu2_o (fun q => by omega)]; exact w3
      · change c' ∈ sQ (setQ _ j _) p at hc'
        rw [sQ_set, if_neg (by omega)] at hc'
        exact (w4 p (by omega)).1.1 c' hc'
      · rw [hfa, fu2_o (fun q => by omega)]; exact (w4 p (by omega)).2
      · rw [hfa]
        by_cases hpj : p = j
        · rw [hpj, fu2_e]; decide
        · rw [fu2_o (fun q => by omega)]; exact w5 p (by omega) hw
theorem WW_puts (W : WW n e m ar way 0 r) (har : ∀ k, k < m + 1 → ar k ≤ e) : ∀ z, z ≤ n → WW n e m ar way z (putsA h l e m way z r).1
  | 0, _ => W
  | z + 1, hz => by
    have g := WW_puts W har z (by omega)
    cases hw : way z
    · rw [puts_f hw]
      obtain ⟨w1, w2, w3, w4, w5⟩ := g
      refine ⟨w1, w2, w3, fun p hp => w4 p (by omega), fun p hp hwp => ?_⟩
      by_cases hpz : p = z
      · rw [hpz, hw] at hwp; cases hwp
      · exact w5 p (by omega) hwp
    · rw [puts_t hw]
      exact WW_putA g har (by omega)
theorem WW_end (W : WW n e m ar way n r) (hw : ∃ p, p < n ∧ way p = true) : AC n (e + 1) (m + 1) ar r ∧ FF n (m + 1) r := by
  obtain ⟨w1, w2, w3, w4, w5⟩ := W
  obtain ⟨p, hp, hw⟩ := hw
  refine ⟨w1, fun k hk => ?_⟩
  by_cases hkm : k = m
  · subst hkm
    exact Or.inr ⟨w3, p, hp, w5 p hp hw⟩
  · exact w2 k (by omega)
theorem WW_beg (H : AC n (e + 1) m ar r) (F : FF n m r) : WW n e m ar way 0 r := ⟨AC_mono H, F, H.2.2.2.1 m 0 (Nat.le_refl m), fun p _ => ⟨uq_fresh H.1 p, H.2.2.2.1 m (p + 1) (Nat.le_refl m)⟩, fun p hp => absurd hp (Nat.not_lt_zero p)⟩
theorem AC_refA (H : AC n (e + 1) m ar r) (F : FF n m r) (ha : ar m ≤ e) {c : Nat} {x : Int} (hc : 1 ≤ c ∧ c ≤ 5 ∧ (0 ≤ x → c = 2)) : AC n (e + 1) (m + 1) ar (refA e m c x r).1 ∧ FF n (m + 1) (refA e m c x r).1 := by
  refine ⟨AC_ref (AC_mono H) (Nat.lt_succ_self m) (fun d hd q => by have := (H.1.2.2.1 d hd).1; omega) ha hc, fun k hk => ?_⟩
  have hfa : ∀ k' s, (refA e m c x r).1.2.2.1 k' s = fu2 r.2.2.1 m 0 3 k' s := fun k' s => rfl
  simp only [hfa]
  by_cases hkm : k = m
  · subst hkm
    refine Or.inl ⟨fu2_e, fun p hp => ?_⟩
    rw [fu2_o (fun q => by omega)]
    exact H.2.2.2.1 k _ (Nat.le_refl k)
  · have e1 : ∀ s, fu2 r.2.2.1 m 0 3 k s = r.2.2.1 k s := fun s => fu2_o (fun q => hkm q.1)
    simp only [e1]
    exact F k (by omega)
theorem AC_arrive {p : Nat} (H : AC (lPorts l) (e + 1) m ar r) (F : FF (lPorts l) m r) (hT : okT l r.1) (hp : p < lPorts l) (har : ∀ k, k < m + 1 → ar k ≤ e) : AC (lPorts l) (e + 1) (m + 1) ar (arriveA h l e p m r).1 ∧ FF (lPorts l) (m + 1) (arriveA h l e p m r).1 := by
  have hm := har m (Nat.lt_succ_self m)
  unfold arriveA
  split
  · exact AC_refA H F hm ⟨by decide, by decide, fun q => absurd q (by decide)⟩
  · split
    · exact AC_refA H F hm ⟨by decide, by decide, fun _ => rfl⟩
    · split
      · exact AC_refA H F hm ⟨by decide, by decide, fun q => absurd q (by decide)⟩
      · rename_i s1 hs
        have hq : ∀ y, sQ (setTab s1 (hSrc h m) (some (p, sTime s1))) y = sQ r.1 y := by
          intro y
          unfold policeA at hs
          split at hs
          · injection hs with e; subst e; rfl
          · split at hs
            · cases hs
            · injection hs with e; subst e; rfl
        have hT1 : okT l s1 := by
          unfold policeA at hs
          split at hs
          · injection hs with e; subst e; exact hT
          · split at hs
            · cases hs
            · injection hs with e; subst e; exact okT_of hT rfl
        have hT2 : okT l (setTab s1 (hSrc h m) (some (p, sTime s1))) := okT_tab hT1 hp
        have H2 : AC (lPorts l) (e + 1) m ar (setTab s1 (hSrc h m) (some (p, sTime s1)), r.2) := AC_q hq H
        have F2 : FF (lPorts l) m (setTab s1 (hSrc h m) (some (p, sTime s1)), r.2) := F
        simp only
        split
        · rename_i w hv
          split
          · exact AC_refA H2 F2 hm ⟨by decide, by decide, fun q => absurd q (by decide)⟩
          · refine WW_end (WW_puts (WW_beg H2 F2) har _ (Nat.le_refl _)) ⟨w, ?_, beq_self_eq_true w⟩
            unfold validA at hv
            split at hv
            · rename_i p2 t2 htab
              split at hv
              · cases hv
                exact hT2 _ _ _ htab
              · cases hv
            · cases hv
        · split
          · exact AC_refA H2 F2 hm ⟨by decide, by decide, fun q => absurd q (by decide)⟩
          · rename_i hall
            refine WW_end (WW_puts (WW_beg H2 F2) har _ (Nat.le_refl _)) ?_
            refine Classical.byContradiction fun hno => hall ?_
            rw [List.all_eq_true]
            intro o ho
            have ho := List.mem_range.mp ho
            cases hb : (o == p || !sUp (setTab s1 (hSrc h m) (some (p, sTime s1))) o)
            · exfalso
              rw [Bool.or_eq_false_iff] at hb
              refine hno ⟨o, ho, ?_⟩
              have h1 : (o != p) = true := by unfold bne; rw [hb.1]; rfl
              have h2 : sUp (setTab s1 (hSrc h m) (some (p, sTime s1))) o = true := by have := hb.2; simpa using this
              rw [h1, h2]; rfl
            · rfl
end ACD
