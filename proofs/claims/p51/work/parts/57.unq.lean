/-! each copy is in one place at most: fates and drops agree -/
def uq (m : Nat) (r : Ra) : Prop :=
  (∀ p, ((sQ r.1 p).map Prod.fst).Nodup) ∧ (∀ p c, c ∈ sQ r.1 p → c.1 < m) ∧
  (∀ d, d ∈ r.2.1 → d.2.1 < m ∧ -1 ≤ d.2.2.1 ∧ ∀ p : Nat, d.2.2.1 = (p : Int) → ∀ c, c ∈ sQ r.1 p → c.1 ≠ d.2.1) ∧
  (∀ k (P : Int), -1 ≤ P → (r.2.2.1 k (P + 1).toNat = 3 ↔ ∃ d, d ∈ r.2.1 ∧ d.2.1 = k ∧ d.2.2.1 = P)) ∧ (r.2.1.map (fun d => (d.2.1, d.2.2.1))).Nodup
def fresh (k p : Nat) (r : Ra) : Prop := (∀ c, c ∈ sQ r.1 p → c.1 ≠ k) ∧ ∀ d, d ∈ r.2.1 → ¬ (d.2.1 = k ∧ d.2.2.1 = (p : Int))
theorem nd_er {q : List Cp} {i : Nat} (hn : (q.map Prod.fst).Nodup) (hi : i < q.length) : ((q.eraseIdx i).map Prod.fst).Nodup ∧ ∀ c, c ∈ q.eraseIdx i → c.1 ≠ (q.getD i (0, 0)).1 := by
  induction q generalizing i with
  | nil => cases hi
  | cons a r ih =>
    rw [List.map_cons, List.nodup_cons] at hn
    cases i with
    | zero => exact ⟨hn.2, fun c hc e => hn.1 (e ▸ List.mem_map_of_mem hc)⟩
    | succ i =>
      have hi' : i < r.length := by simpa using hi
      obtain ⟨h1, h2⟩ := ih hn.2 hi'
      refine ⟨?_, fun c hc => ?_⟩
      · show ((a :: r.eraseIdx i).map Prod.fst).Nodup
        rw [List.map_cons, List.nodup_cons]
        refine ⟨fun q => ?_, h1⟩
        obtain ⟨c, hc, e⟩ := List.mem_map.mp q
        exact hn.1 (List.mem_map.mpr ⟨c, List.mem_of_mem_eraseIdx hc, e⟩)
      · have hc' : c ∈ a :: r.eraseIdx i := hc
        show c.1 ≠ (r.getD i (0, 0)).1
        rcases List.mem_cons.mp hc' with e | hc2
        · intro q
          exact hn.1 (List.mem_map.mpr ⟨r.getD i (0, 0), mem_g hi', by rw [← q, e]⟩)
        · exact h2 c hc2
section UNQ
variable {m : Nat} {r : Ra}
theorem uq_mono {m' : Nat} (H : uq m r) (h : m ≤ m') : uq m' r := ⟨H.1, fun p c hc => Nat.lt_of_lt_of_le (H.2.1 p c hc) h, fun d hd => ⟨Nat.lt_of_lt_of_le (H.2.2.1 d hd).1 h, (H.2.2.1 d hd).2⟩, H.2.2.2.1, H.2.2.2.2⟩
theorem uq_fresh (H : uq m r) (p : Nat) : fresh m p r := ⟨fun c hc e => by have := H.2.1 p c hc; omega, fun d hd e => by have := (H.2.2.1 d hd).1; omega⟩
theorem uq_out (H : uq m r) {e p i c : Nat} {x : Int} (hi : i < (sQ r.1 p).length) : uq m (outDr e p i c x r) := by
  obtain ⟨h1, h2, h3, h4, h5⟩ := H
  obtain ⟨n1, n2⟩ := nd_er (h1 p) hi
  have hm0 := mem_g hi
  refine ⟨fun y => ?_, fun y c' hc' => ?_, fun d hd => ?_, fun k P hP => ?_, ?_⟩
  · show ((sQ (setQ r.1 p _) y).map Prod.fst).Nodup
    rw [sQ_set]
    split
    · exact n1
    · exact h1 y
  · change c' ∈ sQ (setQ r.1 p _) y at hc'
    rw [sQ_set] at hc'
    split at hc'
    · exact h2 p c' (List.mem_of_mem_eraseIdx hc')
    · exact h2 y c' hc'
  · have hd' : d ∈ r.2.1 ++ [(e, ((sQ r.1 p).getD i (0, 0)).1, ((p : Nat) : Int), c, x)] := hd
    rcases List.mem_append.mp hd' with hd1 | hd1
    · obtain ⟨g1, g2, g3⟩ := h3 d hd1
      refine ⟨g1, g2, fun y hy c' hc' => ?_⟩
      change c' ∈ sQ (setQ r.1 p _) y at hc'
      rw [sQ_set] at hc'
      split at hc'
      · rename_i hyp
        exact g3 p (by rw [hy, hyp]) c' (List.mem_of_mem_eraseIdx hc')
      · exact g3 y hy c' hc'
    · rw [List.mem_singleton] at hd1
      subst hd1
      refine ⟨h2 p _ hm0, by show (-1 : Int) ≤ ((p : Nat) : Int); omega, fun y hy c' hc' => ?_⟩
      have hyp : y = p := by
        have h9 : ((p : Nat) : Int) = (y : Int) := hy
        omega
      change c' ∈ sQ (setQ r.1 p _) y at hc'
      rw [sQ_set, if_pos hyp] at hc'
      exact n2 c' hc'
  · show (if k = ((sQ r.1 p).getD i (0, 0)).1 ∧ (P + 1).toNat = (((p : Nat) : Int) + 1).toNat then 3 else r.2.2.1 k (P + 1).toNat) = 3 ↔ ∃ d, d ∈ r.2.1 ++ [(e, ((sQ r.1 p).getD i (0, 0)).1, ((p : Nat) : Int), c, x)] ∧ d.2.1 = k ∧ d.2.2.1 = P
    by_cases hk : k = ((sQ r.1 p).getD i (0, 0)).1 ∧ P = (p : Int)
    · rw [if_pos ⟨hk.1, by rw [hk.2]⟩]
      exact ⟨fun _ => ⟨_, List.mem_append.mpr (Or.inr (List.mem_singleton.mpr rfl)), hk.1.symm, hk.2.symm⟩, fun _ => rfl⟩
    · rw [if_neg (fun q => hk ⟨q.1, by omega⟩), h4 k P hP]
      refine ⟨fun ⟨d, g1, g2⟩ => ⟨d, List.mem_append.mpr (Or.inl g1), g2⟩, fun ⟨d, g1, g2, g3⟩ => ?_⟩
      rcases List.mem_append.mp g1 with g1 | g1
      · exact ⟨d, g1, g2, g3⟩
      · rw [List.mem_singleton] at g1
        subst g1
        exact absurd ⟨g2.symm, g3.symm⟩ hk
  · show ((r.2.1 ++ [(e, ((sQ r.1 p).getD i (0, 0)).1, ((p : Nat) : Int), c, x)]).map (fun d : Dr => (d.2.1, d.2.2.1))).Nodup
    rw [List.map_append, List.nodup_append]
    refine ⟨h5, by simp, fun u hu v hv q => ?_⟩
    obtain ⟨d, g1, g2⟩ := List.mem_map.mp hu
    have hv' : v = (((sQ r.1 p).getD i (0, 0)).1, ((p : Nat) : Int)) := by simpa using hv
    rw [hv', ← g2] at q
    injection q with q1 q2
    exact (h3 d g1).2.2 p q2 _ hm0 q1.symm
theorem uq_del (H : uq m r) {p i : Nat} (hi : i < (sQ r.1 p).length) : uq m (setQ r.1 p ((sQ r.1 p).eraseIdx i), addDel r.2 ((sQ r.1 p).getD i (0, 0)).1 p) := by
  obtain ⟨h1, h2, h3, h4, h5⟩ := H
  obtain ⟨n1, n2⟩ := nd_er (h1 p) hi
  have hm0 := mem_g hi
  refine ⟨fun y => ?_, fun y c' hc' => ?_, fun d hd => ?_, fun k P hP => ?_, h5⟩
  · show ((sQ (setQ r.1 p _) y).map Prod.fst).Nodup
    rw [sQ_set]
    split
    · exact n1
    · exact h1 y
  · change c' ∈ sQ (setQ r.1 p _) y at hc'
    rw [sQ_set] at hc'
    split at hc'
    · exact h2 p c' (List.mem_of_mem_eraseIdx hc')
    · exact h2 y c' hc'
  · have hd1 : d ∈ r.2.1 := hd
    obtain ⟨g1, g2, g3⟩ := h3 d hd1
    refine ⟨g1, g2, fun y hy c' hc' => ?_⟩
    change c' ∈ sQ (setQ r.1 p _) y at hc'
    rw [sQ_set] at hc'
    split at hc'
    · rename_i hyp
      exact g3 p (by rw [hy, hyp]) c' (List.mem_of_mem_eraseIdx hc')
    · exact g3 y hy c' hc'
  · show (if k = ((sQ r.1 p).getD i (0, 0)).1 ∧ (P + 1).toNat = p + 1 then 2 else r.2.2.1 k (P + 1).toNat) = 3 ↔ ∃ d, d ∈ r.2.1 ∧ d.2.1 = k ∧ d.2.2.1 = P
    by_cases hk : k = ((sQ r.1 p).getD i (0, 0)).1 ∧ (P + 1).toNat = p + 1
    · rw [if_pos hk]
      refine ⟨fun q => absurd q (by decide), fun ⟨d, g1, g2, g3⟩ => ?_⟩
      exact absurd (hk.1.symm.trans g2.symm) ((h3 d g1).2.2 p (by rw [g3]; omega) _ hm0)
    · rw [if_neg hk]
      exact h4 k P hP
theorem uq_dr (H : uq m r) {e k c : Nat} {Q x : Int} (hk : k < m) (hQ : -1 ≤ Q) (hq : ∀ p : Nat, Q = (p : Int) → ∀ c, c ∈ sQ r.1 p → c.1 ≠ k) (hd : ∀ d, d ∈ r.2.1 → ¬ (d.2.1 = k ∧ d.2.2.1 = Q)) : uq m (r.1, addDr r.2 e k Q c x) := by
  obtain ⟨h1, h2, h3, h4, h5⟩ := H
  refine ⟨h1, h2, fun d hd => ?_, fun k' P hP => ?_, ?_⟩
  · have hd' : d ∈ r.2.1 ++ [(e, k, Q, c, x)] := hd
    rcases List.mem_append.mp hd' with hd1 | hd1
    · exact h3 d hd1
    · rw [List.mem_singleton] at hd1
      subst hd1
      exact ⟨hk, hQ, hq⟩
  · show (if k' = k ∧ (P + 1).toNat = (Q + 1).toNat then 3 else r.2.2.1 k' (P + 1).toNat) = 3 ↔ ∃ d, d ∈ r.2.1 ++ [(e, k, Q, c, x)] ∧ d.2.1 = k' ∧ d.2.2.1 = P
    by_cases hk' : k' = k ∧ P = Q
    · rw [if_pos ⟨hk'.1, by rw [hk'.2]⟩]
      exact ⟨fun _ => ⟨_, List.mem_append.mpr (Or.inr (List.mem_singleton.mpr rfl)), hk'.1.symm, hk'.2.symm⟩, fun _ => rfl⟩
    · rw [if_neg (fun q => hk' ⟨q.1, by omega⟩), h4 k' P hP]
      refine ⟨fun ⟨d, g1, g2⟩ => ⟨d, List.mem_append.mpr (Or.inl g1), g2⟩, fun ⟨d, g1, g2, g3⟩ => ?_⟩
      rcases List.mem_append.mp g1 with g1 | g1
      · exact ⟨d, g1, g2, g3⟩
      · rw [List.mem_singleton] at g1
        subst g1
        exact absurd ⟨g2.symm, g3.symm⟩ hk'
  · show ((r.2.1 ++ [(e, k, Q, c, x)]).map (fun d : Dr => (d.2.1, d.2.2.1))).Nodup
    rw [List.map_append, List.nodup_append]
    refine ⟨h5, by simp, fun u hu v hv q => ?_⟩
    obtain ⟨d, g1, g2⟩ := List.mem_map.mp hu
    have hv' : v = (k, Q) := by simpa using hv
    rw [hv', ← g2] at q
    injection q with q1 q2
    exact hd d g1 ⟨q1, q2⟩
theorem uq_put (H : uq m r) {e k p : Nat} (hk : k < m) (hf : fresh k p r) : uq m (putEnd e k p r) := by
  obtain ⟨h1, h2, h3, h4, h5⟩ := H
  refine ⟨fun y => ?_, fun y c' hc' => ?_, fun d hd => ?_, fun k' P hP => ?_, h5⟩
  · show ((sQ (setQ r.1 p _) y).map Prod.fst).Nodup
    rw [sQ_set]
    split
    · rw [List.map_append, List.nodup_append]
      refine ⟨h1 p, by simp, fun a ha b hb => ?_⟩
      have hb' : b = k := by simpa using hb
      obtain ⟨c', hc', e'⟩ := List.mem_map.mp ha
      rw [hb', ← e']
      exact hf.1 c' hc'
    · exact h1 y
  · change c' ∈ sQ (setQ r.1 p _) y at hc'
    rw [sQ_set] at hc'
    split at hc'
    · rcases List.mem_append.mp hc' with g | g
      · exact h2 p c' g
      · rw [List.mem_singleton] at g
        rw [g]; exact hk
    · exact h2 y c' hc'
  · have hd1 : d ∈ r.2.1 := hd
    obtain ⟨g1, g2, g3⟩ := h3 d hd1
    refine ⟨g1, g2, fun y hy c' hc' => ?_⟩
    change c' ∈ sQ (setQ r.1 p _) y at hc'
    rw [sQ_set] at hc'
    split at hc'
    · rename_i hyp
      rcases List.mem_append.mp hc' with g | g
      · exact g3 p (by rw [hy, hyp]) c' g
      · rw [List.mem_singleton] at g
        rw [g]
        exact fun q => hf.2 d hd1 ⟨q.symm, by rw [hy, hyp]⟩
    · exact g3 y hy c' hc'
  · show (if k' = k ∧ (P + 1).toNat = p + 1 then 1 else r.2.2.1 k' (P + 1).toNat) = 3 ↔ ∃ d, d ∈ r.2.1 ∧ d.2.1 = k' ∧ d.2.2.1 = P
    by_cases hk' : k' = k ∧ (P + 1).toNat = p + 1
    · rw [if_pos hk']
      refine ⟨fun q => absurd q (by decide), fun ⟨d, g1, g2, g3⟩ => ?_⟩
      exact absurd ⟨g2.trans hk'.1, by rw [g3]; omega⟩ (hf.2 d g1)
    · rw [if_neg hk']
      exact h4 k' P hP
theorem fresh_out {e p i c k p' : Nat} {x : Int} (hi : i < (sQ r.1 p).length) (hf : fresh k p' r) (hne : p' = p ∨ p' ≠ p) : fresh k p' (outDr e p i c x r) := by
  refine ⟨fun c' hc' => ?_, fun d hd => ?_⟩
  · change c' ∈ sQ (setQ r.1 p _) p' at hc'
    rw [sQ_set] at hc'
    split at hc'
    · rename_i h9
      rw [h9] at hf
      exact hf.1 c' (List.mem_of_mem_eraseIdx hc')
    · exact hf.1 c' hc'
  · have hd' : d ∈ r.2.1 ++ [(e, ((sQ r.1 p).getD i (0, 0)).1, ((p : Nat) : Int), c, x)] := hd
    rcases List.mem_append.mp hd' with hd1 | hd1
    · exact hf.2 d hd1
    · rw [List.mem_singleton] at hd1
      subst hd1
      intro q
      have h9 : ((p : Nat) : Int) = (p' : Int) := q.2
      have h8 : p' = p := by omega
      rw [h8] at hf
      exact hf.1 _ (mem_g hi) q.1
theorem uq_push {h : Hi} {cap siz e k p : Nat} : ∀ n (r : Ra), (sQ r.1 p).length = n → uq m r → (∀ p', fresh k p' r → fresh k p' (pushA h cap siz e k p n r)) ∧ uq m (pushA h cap siz e k p n r)
  | 0, _, _, H => ⟨fun _ h => h, H⟩
  | n + 1, r, hn, H => by
    unfold pushA
    split
    · exact ⟨fun _ h => h, H⟩
    · have hi := loK_lt (rkQ h (sQ r.1 p)) (sQ r.1 p).length (by omega)
      obtain ⟨g1, g2⟩ := uq_push (h := h) (cap := cap) (siz := siz) (e := e) (k := k) (p := p) n (outDr e p (loK (rkQ h (sQ r.1 p)) (sQ r.1 p).length) 8 k r) (by
        show (sQ (setQ r.1 p _) p).length = n
        rw [sQ_set, if_pos rfl, len_e hi]
        omega) (uq_out H hi)
      exact ⟨fun p' hf => g1 p' (fresh_out hi hf (Decidable.em _)), g2⟩
theorem uq_putA {h : Hi} {l : Li} {e k p : Nat} (H : uq m r) (hk : k < m) (hf : fresh k p r) : uq m (putA h l e k p r).1 ∧ ∀ p', p' ≠ p → fresh k p' r → fresh k p' (putA h l e k p r).1 := by
  have hdr : ∀ c, uq m (r.1, addDr r.2 e k ((p : Nat) : Int) c (-1)) ∧ ∀ p', p' ≠ p → fresh k p' r → fresh k p' (r.1, addDr r.2 e k ((p : Nat) : Int) c (-1)) := by
    intro c
    refine ⟨uq_dr H hk (by omega) (fun p' hp' c' hc' => ?_) hf.2, fun p' hp' hf' => ⟨hf'.1, fun d hd => ?_⟩⟩
    · have : p' = p := by omega
      rw [this] at hc'
      exact hf.1 c' hc'
    · have hd' : d ∈ r.2.1 ++ [(e, k, ((p : Nat) : Int), c, (-1 : Int))] := hd
      rcases List.mem_append.mp hd' with hd1 | hd1
      · exact hf'.2 d hd1
      · rw [List.mem_singleton] at hd1
        subst hd1
        intro q
        have h9 : ((p : Nat) : Int) = (p' : Int) := q.2
        omega
  unfold putA
  split
  · exact hdr 6
  · split
    · exact hdr 7
    · obtain ⟨g1, g2⟩ := uq_push (h := h) (cap := lCap l p) (siz := hSiz h k) (e := e) (k := k) (p := p) _ r rfl H
      refine ⟨uq_put (e := e) g2 hk (g1 p hf), fun p' hp' hf' => ?_⟩
      have hf2 := g1 p' hf'
      refine ⟨fun c' hc' => ?_, hf2.2⟩
      change c' ∈ sQ (setQ _ p _) p' at hc'
      rw [sQ_set, if_neg hp'] at hc'
      exact hf2.1 c' hc'
theorem uq_puts {h : Hi} {l : Li} {e k : Nat} {way : Nat → Bool} (H : uq m r) (hk : k < m) (hf : ∀ p, fresh k p r) : ∀ n, uq m (putsA h l e k way n r).1 ∧ ∀ p, n ≤ p → fresh k p (putsA h l e k way n r).1
  | 0 => ⟨H, fun p _ => hf p⟩
  | n + 1 => by
    obtain ⟨g1, g2⟩ := uq_puts (h := h) (l := l) (e := e) (way := way) H hk hf n
    cases hw : way n
    · rw [puts_f hw]; exact ⟨g1, fun p hp => g2 p (by omega)⟩
    · rw [puts_t hw]
      obtain ⟨k1, k2⟩ := uq_putA (h := h) (l := l) (e := e) g1 hk (g2 n (Nat.le_refl _))
      exact ⟨k1, fun p hp => k2 p (by omega) (g2 p (by omega))⟩
theorem uq_arrive {h : Hi} {l : Li} {e p : Nat} (H : uq m r) : uq (m + 1) (arriveA h l e p m r).1 := by
  have hf := uq_fresh H
  have H1 : uq (m + 1) r := uq_mono H (Nat.le_succ m)
  have hm : m < m + 1 := Nat.lt_succ_self m
  have hR : ∀ (r' : Ra) c d, r'.2 = r.2 → uq (m + 1) r' → uq (m + 1) (refA e m c d r').1 := fun r' c d e' H' => uq_dr H' hm (Int.le_refl _) (fun p hp => absurd hp (by omega)) (fun d hd q => by rw [e'] at hd; have := (H.2.2.1 d hd).1; omega)
  unfold arriveA
  split
  · exact hR _ _ _ rfl H1
  · split
    · exact hR _ _ _ rfl H1
    · split
      · exact hR _ _ _ rfl H1
      · rename_i s1 hs
        have hq : ∀ y, sQ (setTab s1 (hSrc h m) (some (p, sTime s1))) y = sQ r.1 y := by
          intro y
          unfold policeA at hs
          split at hs
          · injection hs with e; subst e; rfl
          · split at hs
            · cases hs
            · injection hs with e; subst e; rfl
        have H2 : uq (m + 1) (setTab s1 (hSrc h m) (some (p, sTime s1)), r.2) := by
          obtain ⟨h1, h2, h3, h4, h5⟩ := H1
          refine ⟨fun y => by show ((sQ (setTab s1 _ _) y).map Prod.fst).Nodup; rw [hq]; exact h1 y, fun y c hc => h2 y c (by rw [← hq]; exact hc), fun d hd => ⟨(h3 d hd).1, (h3 d hd).2.1, fun y hy c hc => (h3 d hd).2.2 y hy c (by rw [← hq]; exact hc)⟩, h4, h5⟩
        have hf2 : ∀ y, fresh m y (setTab s1 (hSrc h m) (some (p, sTime s1)), r.2) := fun y => ⟨fun c hc => (hf y).1 c (by rw [← hq]; exact hc), (hf y).2⟩
        simp only
        split
        · split
          · exact hR _ _ _ rfl H2
          · exact (uq_puts H2 hm hf2 _).1
        · split
          · exact hR _ _ _ rfl H2
          · exact (uq_puts H2 hm hf2 _).1
theorem uq_delA {h : Hi} {p : Nat} : ∀ d (r : Ra), d ≤ (sQ r.1 p).length → uq m r → uq m (delA h p d r)
  | 0, _, _, H => H
  | d + 1, r, hd, H => by
    have hi := hiK_lt (rkQ h (sQ r.1 p)) (sQ r.1 p).length (by omega)
    exact uq_delA d (setQ r.1 p ((sQ r.1 p).eraseIdx (hiK (rkQ h (sQ r.1 p)) (sQ r.1 p).length)), addDel r.2 ((sQ r.1 p).getD (hiK (rkQ h (sQ r.1 p)) (sQ r.1 p).length) (0, 0)).1 p) (by
      show d ≤ (sQ (setQ r.1 p _) p).length
      rw [sQ_set, if_pos rfl, len_e hi]
      omega) (uq_del H hi)
theorem uq_dels {h : Hi} {l : Li} (H : uq m r) : ∀ n, uq m (delsA h l n r).1
  | 0 => H
  | n + 1 => by
    have g := uq_dels (h := h) (l := l) H n
    cases hw : sUp (delsA h l n r).1.1 n
    · rw [dels_f hw]; exact g
    · rw [dels_t hw]; exact uq_delA _ _ (Nat.min_le_right _ _) g
/-- what outDr keeps, going stale keeps -/
theorem stale_keep {P : Ra → Prop} {l : Li} {e p : Nat} (hP : ∀ r i, P r → i < (sQ r.1 p).length → P (outDr e p i 9 (-1) r)) : ∀ (rest kept : List Cp) (r : Ra), sQ r.1 p = kept ++ rest → P r → P (staleB l e p kept rest r)
  | [], kept, r, hq, H => by
    have hE : staleB l e p kept [] r = r := by
      unfold staleB
      show (setQ r.1 p (kept ++ []), r.2) = r
      rw [← hq, setQ_id]
    rw [hE]; exact H
  | c :: rest, kept, r, hq, H => by
    cases hc : isStale l r.1 c
    · rw [← staleB_0 hc]
      exact stale_keep hP rest (kept ++ [c]) r (by rw [hq, List.append_assoc]; rfl) H
    · rw [← staleB_1 hq hc]
      refine stale_keep hP rest kept _ ?_ (hP r _ H (by rw [hq, List.length_append]; show kept.length < kept.length + (rest.length + 1); omega))
      show sQ (setQ r.1 p _) p = _
      rw [sQ_set, if_pos rfl, hq, er_mid]
theorem lose_keep {P : Ra → Prop} {e p : Nat} (hP : ∀ r i, P r → i < (sQ r.1 p).length → P (outDr e p i 10 (-1) r)) (hE : ∀ r, P r → P (setUp (forgetS r.1 p) p false, r.2)) : ∀ (q : List Cp) (r : Ra), sQ r.1 p = q → P r → P (loseB e p q r)
  | [], r, hq, H => by
    have h0 : setQ r.1 p [] = r.1 := by rw [← hq, setQ_id]
    show P (setUp (forgetS (setQ r.1 p []) p) p false, r.2)
    rw [h0]
    exact hE r H
  | c :: q, r, hq, H => by
    rw [← loseB_1 hq]
    refine lose_keep hP hE q _ ?_ (hP r 0 H (by rw [hq]; exact Nat.succ_pos _))
    show sQ (setQ r.1 p _) p = _
    rw [sQ_set, if_pos rfl, hq]; rfl
theorem uq_stales {l : Li} {e : Nat} (H : uq m r) : ∀ n, uq m (stalesA l e n r)
  | 0 => H
  | n + 1 => stale_keep (P := uq m) (fun r i H hi => uq_out H hi) _ [] (stalesA l e n r) rfl (uq_stales H n)
def arr (h : Hi) : Nat → Nat
  | 0 => 0
  | e + 1 => if hKind h e = 0 then arr h e + 1 else arr h e
theorem uq_step {h : Hi} {l : Li} {e : Nat} (H : uq (arr h e) r) (hk : hKind h e = 0 → hPk h e = arr h e) (h3 : hKind h e ≤ 3) : uq (arr h (e + 1)) (stepA h l e r).1 := by
  rcases (show hKind h e = 0 ∨ hKind h e = 1 ∨ hKind h e = 2 ∨ hKind h e = 3 by omega) with hk0 | hk0 | hk0 | hk0
  · rw [step_0 hk0, hk hk0, show arr h (e + 1) = arr h e + 1 from if_pos hk0]
    exact uq_arrive H
  · rw [step_1 hk0, show arr h (e + 1) = arr h e from if_neg (by omega)]
    have g := uq_stales (e := e) (l := l) (uq_dels (h := h) (l := l) H (lPorts l)) (lPorts l)
    exact ⟨g.1, g.2.1, g.2.2.1, g.2.2.2.1, g.2.2.2.2⟩
  · rw [step_2 hk0, show arr h (e + 1) = arr h e from if_neg (by omega)]
    exact ⟨H.1, H.2.1, H.2.2.1, H.2.2.2.1, H.2.2.2.2⟩
  · rw [step_3 hk0, show arr h (e + 1) = arr h e from if_neg (by omega)]
    exact lose_keep (P := uq (arr h e)) (fun r i H hi => uq_out H hi) (fun r H => ⟨H.1, H.2.1, H.2.2.1, H.2.2.2.1, H.2.2.2.2⟩) (sQ r.1 (hPort h e)) r rfl H
theorem uq_new {A : Sa} {g : Lo} (H : uq m (A, g)) : uq m (A, lo0) :=
  ⟨H.1, H.2.1, fun d hd => (by cases hd), fun k P _ => ⟨fun q => absurd q (show (0 : Nat) ≠ 3 by decide), fun ⟨d, hd, _⟩ => (by cases hd)⟩, List.nodup_nil⟩
def okPk (h : Hi) (ne : Nat) : Prop := ∀ e, e < ne → (hKind h e = 0 → hPk h e = arr h e) ∧ hKind h e ≤ 3
theorem arr_le {h : Hi} {e : Nat} : arr h e ≤ arr h (e + 1) := by
  show arr h e ≤ (if hKind h e = 0 then arr h e + 1 else arr h e)
  split <;> omega
theorem uq_run {h : Hi} {l : Li} {ne : Nat} (hp : okPk h ne) {out : Nat → Bool} : ∀ e, e ≤ ne → uq (arr h e) (runA h l out e)
  | 0, _ => ⟨fun _ => List.nodup_nil, fun _ _ hc => (by cases hc), fun d hd => (by cases hd), fun k P _ => ⟨fun q => absurd q (show (0 : Nat) ≠ 3 by decide), fun ⟨d, hd, _⟩ => (by cases hd)⟩, List.nodup_nil⟩
  | e + 1, he => by
    have g := uq_run (l := l) (out := out) hp e (by omega)
    have k := hp e (by omega)
    unfold runA
    split
    · exact uq_mono g arr_le
    · exact uq_step g k.1 k.2
end UNQ
