/-! rows of rows of numbers -/
theorem mnA_spec {S : List (Nat × Nat)} {I : Ix} {T : Nat → Nat → Nat} {cc zz o w : Nat} (ho : o < S.length) : ∀ k, ∃ I1 T1, mnA (S, I, T, cc, zz) o w k = (S ++ List.replicate k (1, w), I1, T1, cc - k, zz - k * w) ∧ (∀ z y, z < S.length → I1 z y = I z y) ∧ (∀ z y, S.length ≤ z → z < S.length + k → I1 z y = 0) ∧ (∀ j, j < k → T1 o j = S.length + j + 1) ∧ (∀ z y, z < S.length → z ≠ o → T1 z y = T z y)
  | 0 => ⟨I, T, by simp [mnA], fun _ _ _ => rfl, fun z _ h1 h2 => by omega, fun j hj => absurd hj (Nat.not_lt_zero j), fun _ _ _ _ => rfl⟩
  | k + 1 => by
    obtain ⟨I1, T1, e, f1, f2, f3, f4⟩ := mnA_spec (I := I) (T := T) (cc := cc) (zz := zz) (w := w) ho k
    have hl : (S ++ List.replicate k (1, w)).length = S.length + k := by rw [List.length_append, List.length_replicate]
    have hk1 : (k + 1) * w = k * w + w := Nat.succ_mul k w
    refine ⟨zr (S.length + k) I1, ut (zt (S.length + k) T1) o k (S.length + k + 1), ?_, fun z y hz => ?_, fun z y h1 h2 => ?_, fun j hj => ?_, fun z y hz hzo => ?_⟩
    · show sR (mN (mnA (S, I, T, cc, zz) o w k) 1 w w) o k ((mnA (S, I, T, cc, zz) o w k).1.length + 1) = _
      rw [e]
      show ((S ++ List.replicate k (1, w)) ++ [(1, w)], zr (S ++ List.replicate k (1, w)).length I1, ut (zt (S ++ List.replicate k (1, w)).length T1) o k ((S ++ List.replicate k (1, w)).length + 1), cc - k - 1, zz - k * w - w) = _
      rw [hl, List.append_assoc, ← List.replicate_succ', hk1, show cc - k - 1 = cc - (k + 1) by omega, show zz - k * w - w = zz - (k * w + w) by omega]
    · rw [zr_o (by omega)]; exact f1 z y hz
    · by_cases hz : z = S.length + k
      · rw [hz, zr_e]
      · rw [zr_o hz]; exact f2 z y h1 (by omega)
    · by_cases hjk : j = k
      · rw [hjk, ut_e]
      · rw [ut_o (fun q => hjk q.2), zt_o (by omega)]; exact f3 j (by omega)
    · rw [ut_o (fun q => hzo q.1), zt_o (by omega)]; exact f4 z y hz hzo
section WMA
variable {xs : List Int} {M r pc : Nat} {ls st : List AV} {S : List (Nat × Nat)} {I : Ix} {T : Nat → Nat → Nat} {cc zz : Nat} {Q : Res → Mem → Prop}
theorem w_ma {idx dims k n w : Nat} {tl : Nat × Nat × Nat × Nat} (h : look M pc = some (.multianewarray idx dims, k, tl)) (hn : n ≤ 1000) (hw : w ≤ 1000) (h1 : n + 1 ≤ cc) (h2 : n + n * w ≤ zz)
    (kk : ∀ I1 T1, (∀ z y, z < S.length → I1 z y = I z y ∧ T1 z y = T z y) → (∀ j y, j < n → I1 (S.length + 1 + j) y = 0) → (∀ j, j < n → T1 S.length j = S.length + 1 + j + 1) → WP xs M r (pc + k) ls (vr S.length :: st) (S ++ [(6, n)] ++ List.replicate n (1, w), I1, T1, cc - 1 - n, zz - n - n * w) Q) : WP xs M r pc ls (vi ((w : Nat) : Int) :: vi ((n : Nat) : Int) :: st) (S, I, T, cc, zz) Q :=
  WP_at h (by
    show WPo xs M r pc ls _ Q (o_ma (pc + k) ls (vi ((w : Nat) : Int) :: vi ((n : Nat) : Int) :: st) (S, I, T, cc, zz))
    unfold o_ma
    simp only []
    have hc : mC (S, I, T, cc, zz) = cc := rfl
    have hs : mS (S, I, T, cc, zz) = zz := rfl
    rw [hc, hs, if_pos ⟨by omega, by omega, by omega, by omega, by show n + 1 ≤ cc; exact h1, by show n + n * w ≤ zz; exact h2⟩]
    have hl : (S ++ [(6, n)]).length = S.length + 1 := by simp
    obtain ⟨I1, T1, e, f1, f2, f3, f4⟩ := mnA_spec (S := S ++ [(6, n)]) (I := zr S.length I) (T := zt S.length T) (cc := cc - 1) (zz := zz - n) (o := S.length) (w := w) (by rw [hl]; omega) n
    rw [hl] at f1 f2 f3 f4
    show WP xs M r (pc + k) ls (vr S.length :: st) (mnA (S ++ [(6, n)], zr S.length I, zt S.length T, cc - 1, zz - n) S.length w n) Q
    rw [e]
    refine kk I1 T1 (fun z y hz => ⟨?_, ?_⟩) (fun j y hj => f2 _ y (by omega) (by omega)) (fun j hj => f3 j hj)
    · rw [f1 z y (by omega), zr_o (by omega)]
    · rw [f4 z y (by omega) (by omega), zt_o (by omega)])
theorem w_aa6 {k o n v : Nat} {tl : Nat × Nat × Nat × Nat} {i : Int} (j : Nat) (h : look M pc = some (.aaload, k, tl)) (hs : S[o]? = some (6, n)) (hi : i = j) (hj : j < n) (hv : T o j = v + 1) (kk : WP xs M r (pc + k) ls (vr v :: st) (S, I, T, cc, zz) Q) : WP xs M r pc ls (vi i :: vr o :: st) (S, I, T, cc, zz) Q :=
  WP_at h (by
    show WPo xs M r pc ls _ Q (o_aa (pc + k) ls (vi i :: vr o :: st) (S, I, T, cc, zz))
    have e1 : mT (S, I, T, cc, zz) o = some (6, n) := hs
    unfold o_aa
    simp only [e1]
    subst hi
    have e2 : mR (S, I, T, cc, zz) o ((j : Nat) : Int).toNat = v + 1 := hv
    rw [if_pos (inR_of j rfl hj), e2]
    exact kk)
theorem numB_p (v : Nat) : 1 ≤ (numB v).length := by
  unfold numB
  rw [List.length_append]
  show 1 ≤ _ + 1
  omega
theorem dropB_7 {nm : Nat → List Nat} {d : Dr} (h : 1 ≤ d.2.2.2.1 ∧ d.2.2.2.1 ≤ 10) : 7 ≤ (dropB nm d).length := by
  have h1 := numB_p d.2.1
  have h2 := numB_p d.1
  have h3 := str_3 (16 + d.2.2.2.1) (by omega) (by omega)
  unfold dropB
  simp only [List.length_append, List.length_cons, List.length_nil]
  omega
end WMA
