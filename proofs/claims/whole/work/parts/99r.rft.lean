/-! the reference's reader: bytes, words -/
/-- a byte as the reference sees it -/
def ub (v : Int) : Int := if v < 0 then v + 256 else v
def ubA (t : Nat → Int) (n i : Nat) : Int := if i < n then ub (t i) else -1
theorem ub_255 : ∀ k : Nat, k < 256 → a2 (fun x y => x &&& y) ((k : Int) - 128) 255 = ub ((k : Int) - 128) := by decide +kernel
theorem ub_a {v : Int} (h : -128 ≤ v ∧ v ≤ 127) : a2 (fun x y => x &&& y) v 255 = ub v := by
  have h1 := ub_255 (v + 128).toNat (by omega)
  rw [show (((v + 128).toNat : Nat) : Int) - 128 = v by omega] at h1
  exact h1
/-- the text that the reference reads -/
def mTx (I : Ix) (s : Nat) (t : Nat → Int) (n : Nat) : Prop := I s 21 = (n : Int) ∧ n ≤ 600 ∧ ∀ j, j < n → I (s + 12) j = t j ∧ -128 ≤ t j ∧ t j ≤ 127
theorem ubA_c {I : Ix} {s n i : Nat} {t : Nat → Int} (H : mTx I s t n) {c : Int} (hc : 0 ≤ c ∧ c < 128) : ubA t n i = c ↔ i < n ∧ t i = c := by
  unfold ubA ub
  by_cases h : i < n
  · have h1 := H.2.2 i h
    rw [if_pos h]
    split
    · constructor
      · intro q; omega
      · intro q; omega
    · exact ⟨fun q => ⟨h, q⟩, fun q => q.2⟩
  · rw [if_neg h]
    exact ⟨fun q => by omega, fun q => by omega⟩
theorem ubA_r {I : Ix} {s n i : Nat} {t : Nat → Int} (H : mTx I s t n) {a b : Int} (ha : 0 ≤ a) (hb : b < 128) : (a ≤ ubA t n i ∧ ubA t n i ≤ b) ↔ i < n ∧ a ≤ t i ∧ t i ≤ b := by
  unfold ubA ub
  by_cases h : i < n
  · have h1 := H.2.2 i h
    rw [if_pos h]
    split
    · exact ⟨fun q => by omega, fun q => by omega⟩
    · exact ⟨fun q => ⟨h, q⟩, fun q => q.2⟩
  · rw [if_neg h]
    exact ⟨fun q => by omega, fun q => by omega⟩
theorem ubA_b {I : Ix} {s n i : Nat} {t : Nat → Int} (H : mTx I s t n) : -1 ≤ ubA t n i ∧ ubA t n i ≤ 255 := by
  unfold ubA ub
  by_cases h : i < n
  · have h1 := H.2.2 i h
    rw [if_pos h]
    split <;> omega
  · rw [if_neg h]; omega
theorem ubA_lo {t : Nat → Int} {n i : Nat} (h : i < n) (h0 : 0 ≤ t i) : ubA t n i = t i := by
  unfold ubA ub
  rw [if_pos h, if_neg (by omega)]
theorem skw_id {t : Nat → Int} {n i : Nat} : skw t n (skw t n i) = skw t n i := by
  refine skw_f fun q => ?_
  have h1 := runX_stop (f := isWs) (t := t) (n := n) (n - i) i (by omega) q.1
  have h2 : isWs (t (skw t n i)) = false := h1
  unfold isWs at h2
  simp only [Bool.or_eq_false_iff, decide_eq_false_iff_not] at h2
  omega
/-- all but the reader's place -/
def f22 (I J : Ix) (s : Nat) : Prop := ∀ z w, (z = s → w ≠ 22) → J z w = I z w
theorem f22.rf (I : Ix) (s : Nat) : f22 I I s := fun _ _ _ => rfl
theorem f22.tr {I J K : Ix} {s : Nat} (f : f22 I J s) (g : f22 J K s) : f22 I K s := fun z w h => (g z w h).trans (f z w h)
theorem f22.up {I J : Ix} {s : Nat} {v : Int} (f : f22 I J s) : f22 I (up J s 22 v) s := fun z w h => (up_out (by omega)).trans (f z w h)
/-- all but the reader's place and its error -/
def fT (I J : Ix) (s : Nat) : Prop := ∀ z w, (z = s → w ≠ 22 ∧ w ≠ 23 ∧ w ≠ 24) → J z w = I z w
theorem fT.rf (I : Ix) (s : Nat) : fT I I s := fun _ _ _ => rfl
theorem fT.tr {I J K : Ix} {s : Nat} (f : fT I J s) (g : fT J K s) : fT I K s := fun z w h => (g z w h).trans (f z w h)
theorem f22.T {I J : Ix} {s : Nat} (f : f22 I J s) : fT I J s := fun z w h => f z w (fun e => (h e).1)
theorem fT.up {I J : Ix} {s j : Nat} {v : Int} (f : fT I J s) (hj : j = 22 ∨ j = 23 ∨ j = 24) : fT I (up J s j v) s := fun z w h => (up_out (by omega)).trans (f z w h)
theorem mTx.fT {I J : Ix} {s n : Nat} {t : Nat → Int} (H : mTx I s t n) (f : fT I J s) : mTx J s t n := ⟨(f s 21 (fun _ => by decide)).trans H.1, H.2.1, fun j hj => ⟨(f (s + 12) j (fun e => by omega)).trans (H.2.2 j hj).1, (H.2.2 j hj).2⟩⟩
section RFT
variable {xs : List Int} {S : List (Nat × Nat)} {T : Nat → Nat → Nat} {cc zz s : Nat} {I I' : Ix} {t : Nat → Int} {n : Nat}

theorem mx_173 : mxl 173 = 2 := by decide +kernel
theorem mt_173 : mtc 173 = 10 := by decide +kernel
theorem rk_173 (as : List AV) : rkA 173 as = 0 := rfl
theorem l_173_0 : look 173 0 = some (.iload_n 1, 1, 0, 0, 0, 0) := by decide +kernel
theorem l_173_1 : look 173 1 = some (.aload_n 0, 1, 0, 0, 0, 0) := by decide +kernel
theorem l_173_2 : look 173 2 = some (.getfield 158, 3, 10, 21, 0, 1522) := by decide +kernel
theorem l_173_5 : look 173 5 = some (.if_icmp .ge 16, 3, 0, 0, 0, 0) := by decide +kernel
theorem l_173_8 : look 173 8 = some (.aload_n 0, 1, 0, 0, 0, 0) := by decide +kernel
theorem l_173_9 : look 173 9 = some (.getfield 55, 3, 10, 19, 2, 1520) := by decide +kernel
theorem l_173_12 : look 173 12 = some (.iload_n 1, 1, 0, 0, 0, 0) := by decide +kernel
theorem l_173_13 : look 173 13 = some (.baload, 1, 0, 0, 0, 0) := by decide +kernel
theorem l_173_14 : look 173 14 = some (.sipush 255, 3, 0, 0, 0, 0) := by decide +kernel
theorem l_173_17 : look 173 17 = some (.iand, 1, 0, 0, 0, 0) := by decide +kernel
theorem l_173_18 : look 173 18 = some (.goto 4, 3, 0, 0, 0, 0) := by decide +kernel
theorem l_173_21 : look 173 21 = some (.iconst (-1), 1, 0, 0, 0, 0) := by decide +kernel
theorem l_173_22 : look 173 22 = some (.ireturn, 1, 0, 0, 0, 0) := by decide +kernel

theorem s_173 (hm : oModel S T s) (H : mTx I s t n) {i : Nat} : CL xs 173 [vr s, vi ((i : Nat) : Int)] (S, I, T, cc, zz) (FN (some (vi (ubA t n i))) (S, I, T, cc, zz)) := by
  refine CL_start (r := 0) (ls := [vr s, vi ((i : Nat) : Int)]) (rk_173 _) rfl ?_
  have h600 := H.2.1
  refine w_iln l_173_0 rfl ?_
  refine w_aln l_173_1 rfl ?_
  refine w_gi ((n : Nat) : Int) l_173_2 (oModel_sh hm) H.1 ?_
  refine w_cge 21 l_173_5 (by decide) (fun h1 => ?_) (fun h1 => ?_)
  · skip
    refine w_ic l_173_21 (by decide) ?_
    refine w_ir l_173_22 (Or.inl rfl) ?_
    rw [show ubA t n i = -1 from if_neg (by omega)]
    exact ⟨rfl, rfl⟩
  · skip
    refine w_aln l_173_8 rfl ?_
    refine w_gr l_173_9 (oModel_sh hm) (oModel_r19 hm) ?_
    refine w_iln l_173_12 rfl ?_
    refine w_ba i (t i) l_173_13 (Or.inl (oModel_s19 hm)) rfl (by omega) ((H.2.2 i (by omega)).1) ?_
    refine w_sp l_173_14 (by decide) ?_
    refine w_and (ub (t i)) l_173_17 (ub_a (H.2.2 i (by omega)).2) ?_
    refine w_go 22 l_173_18 (by decide) ?_
    refine w_ir l_173_22 (Or.inl rfl) ?_
    rw [show ubA t n i = ub (t i) from if_pos (by omega)]
    exact ⟨rfl, rfl⟩

theorem mx_174 : mxl 174 = 1 := by decide +kernel
theorem mt_174 : mtc 174 = 10 := by decide +kernel
theorem rk_174 (as : List AV) : rkA 174 as = 1 := rfl
theorem l_174_0 : look 174 0 = some (.aload_n 0, 1, 0, 0, 0, 0) := by decide +kernel
theorem l_174_1 : look 174 1 = some (.aload_n 0, 1, 0, 0, 0, 0) := by decide +kernel
theorem l_174_2 : look 174 2 = some (.getfield 161, 3, 10, 22, 0, 1523) := by decide +kernel
theorem l_174_5 : look 174 5 = some (.invokevirtual 164, 3, 173, 2, 0, 1758) := by decide +kernel
theorem l_174_8 : look 174 8 = some (.bipush 9, 2, 0, 0, 0, 0) := by decide +kernel
theorem l_174_10 : look 174 10 = some (.if_icmp .eq 29, 3, 0, 0, 0, 0) := by decide +kernel
theorem l_174_13 : look 174 13 = some (.aload_n 0, 1, 0, 0, 0, 0) := by decide +kernel
theorem l_174_14 : look 174 14 = some (.aload_n 0, 1, 0, 0, 0, 0) := by decide +kernel
theorem l_174_15 : look 174 15 = some (.getfield 161, 3, 10, 22, 0, 1523) := by decide +kernel
theorem l_174_18 : look 174 18 = some (.invokevirtual 164, 3, 173, 2, 0, 1758) := by decide +kernel
theorem l_174_21 : look 174 21 = some (.bipush 10, 2, 0, 0, 0, 0) := by decide +kernel
theorem l_174_23 : look 174 23 = some (.if_icmp .eq 16, 3, 0, 0, 0, 0) := by decide +kernel
theorem l_174_26 : look 174 26 = some (.aload_n 0, 1, 0, 0, 0, 0) := by decide +kernel
theorem l_174_27 : look 174 27 = some (.aload_n 0, 1, 0, 0, 0, 0) := by decide +kernel
theorem l_174_28 : look 174 28 = some (.getfield 161, 3, 10, 22, 0, 1523) := by decide +kernel
theorem l_174_31 : look 174 31 = some (.invokevirtual 164, 3, 173, 2, 0, 1758) := by decide +kernel
theorem l_174_34 : look 174 34 = some (.bipush 32, 2, 0, 0, 0, 0) := by decide +kernel
theorem l_174_36 : look 174 36 = some (.if_icmp .ne 16, 3, 0, 0, 0, 0) := by decide +kernel
theorem l_174_39 : look 174 39 = some (.aload_n 0, 1, 0, 0, 0, 0) := by decide +kernel
theorem l_174_40 : look 174 40 = some (.dup, 1, 0, 0, 0, 0) := by decide +kernel
theorem l_174_41 : look 174 41 = some (.getfield 161, 3, 10, 22, 0, 1523) := by decide +kernel
theorem l_174_44 : look 174 44 = some (.iconst 1, 1, 0, 0, 0, 0) := by decide +kernel
theorem l_174_45 : look 174 45 = some (.iadd, 1, 0, 0, 0, 0) := by decide +kernel
theorem l_174_46 : look 174 46 = some (.putfield 161, 3, 10, 22, 0, 1523) := by decide +kernel
theorem l_174_49 : look 174 49 = some (.goto (-49), 3, 0, 0, 0, 0) := by decide +kernel
theorem l_174_52 : look 174 52 = some (.aload_n 0, 1, 0, 0, 0, 0) := by decide +kernel
theorem l_174_53 : look 174 53 = some (.aload_n 0, 1, 0, 0, 0, 0) := by decide +kernel
theorem l_174_54 : look 174 54 = some (.getfield 161, 3, 10, 22, 0, 1523) := by decide +kernel
theorem l_174_57 : look 174 57 = some (.invokevirtual 164, 3, 173, 2, 0, 1758) := by decide +kernel
theorem l_174_60 : look 174 60 = some (.ireturn, 1, 0, 0, 0, 0) := by decide +kernel

theorem lp_174 (hm : oModel S T s) (H : mTx I s t n) {K : Nat} : ∀ d i J, n + 1 ≤ i + d → i ≤ n → skw t n i = K → f22 I J s → J s 22 = ((i : Nat) : Int) → WP xs 174 1 0 [vr s] [] (S, J, T, cc, zz) (RP S T cc zz (fun v I' => v = some (vi (ubA t n K)) ∧ I' s 22 = ((K : Nat) : Int) ∧ f22 I I' s)) := by
  intro d
  induction d with
  | zero =>
    intro i J hd hi
    omega
  | succ d ih =>
    intro i J hd hi hK f h22
    have h600 := H.2.1
    have hu : ∀ {c : Int}, (0 ≤ c ∧ c < 128) → (ubA t n i = c ↔ i < n ∧ t i = c) := fun hc => ubA_c H hc
    refine w_aln l_174_0 rfl ?_
    refine w_aln l_174_1 rfl ?_
    refine w_gi ((i : Nat) : Int) l_174_2 (oModel_sh hm) h22 ?_
    refine q_iv [vi ((i : Nat) : Int)] [] l_174_5 rfl rfl (Nat.le_of_ble_eq_true rfl) (by rw [mx_173]; exact Nat.le_of_ble_eq_true rfl) (by rw [mt_173]; exact oModel_sh hm) (by rw [mt_173]; decide) (by rw [rk_173]; decide) (s_173 hm (H.fT f.T)) ?_
    refine w_bp l_174_8 (by decide) ?_
    refine w_ceq 39 l_174_10 (by decide) (fun h1 => ?_) (fun h1 => ?_)
    · skip
      refine w_aln l_174_39 rfl ?_
      refine w_dup l_174_40 rfl ?_
      refine w_gi ((i : Nat) : Int) l_174_41 (oModel_sh hm) h22 ?_
      refine w_ic l_174_44 (by decide) ?_
      refine w_add (((i + 1) : Nat) : Int) l_174_45 (by unfold wr; omega) ?_
      refine w_pi l_174_46 (oModel_sh hm) ?_
      refine w_go 0 l_174_49 (by decide) ?_
      exact ih (i + 1) _ (by omega) (by have := (hu (c := 9) (by decide)).1; have := (hu (c := 10) (by decide)).1; have := (hu (c := 32) (by decide)).1; omega) (by rw [← skw_t (by have := (hu (c := 9) (by decide)).1; have := (hu (c := 10) (by decide)).1; have := (hu (c := 32) (by decide)).1; omega) (by have := (hu (c := 9) (by decide)).1; have := (hu (c := 10) (by decide)).1; have := (hu (c := 32) (by decide)).1; omega)]; exact hK) f.up up_eq
    · skip
      refine w_aln l_174_13 rfl ?_
      refine w_aln l_174_14 rfl ?_
      refine w_gi ((i : Nat) : Int) l_174_15 (oModel_sh hm) h22 ?_
      refine q_iv [vi ((i : Nat) : Int)] [] l_174_18 rfl rfl (Nat.le_of_ble_eq_true rfl) (by rw [mx_173]; exact Nat.le_of_ble_eq_true rfl) (by rw [mt_173]; exact oModel_sh hm) (by rw [mt_173]; decide) (by rw [rk_173]; decide) (s_173 hm (H.fT f.T)) ?_
      refine w_bp l_174_21 (by decide) ?_
      refine w_ceq 39 l_174_23 (by decide) (fun h2 => ?_) (fun h2 => ?_)
      · skip
        refine w_aln l_174_39 rfl ?_
        refine w_dup l_174_40 rfl ?_
        refine w_gi ((i : Nat) : Int) l_174_41 (oModel_sh hm) h22 ?_
        refine w_ic l_174_44 (by decide) ?_
        refine w_add (((i + 1) : Nat) : Int) l_174_45 (by unfold wr; omega) ?_
        refine w_pi l_174_46 (oModel_sh hm) ?_
        refine w_go 0 l_174_49 (by decide) ?_
        exact ih (i + 1) _ (by omega) (by have := (hu (c := 9) (by decide)).1; have := (hu (c := 10) (by decide)).1; have := (hu (c := 32) (by decide)).1; omega) (by rw [← skw_t (by have := (hu (c := 9) (by decide)).1; have := (hu (c := 10) (by decide)).1; have := (hu (c := 32) (by decide)).1; omega) (by have := (hu (c := 9) (by decide)).1; have := (hu (c := 10) (by decide)).1; have := (hu (c := 32) (by decide)).1; omega)]; exact hK) f.up up_eq
      · skip
        refine w_aln l_174_26 rfl ?_
        refine w_aln l_174_27 rfl ?_
        refine w_gi ((i : Nat) : Int) l_174_28 (oModel_sh hm) h22 ?_
        refine q_iv [vi ((i : Nat) : Int)] [] l_174_31 rfl rfl (Nat.le_of_ble_eq_true rfl) (by rw [mx_173]; exact Nat.le_of_ble_eq_true rfl) (by rw [mt_173]; exact oModel_sh hm) (by rw [mt_173]; decide) (by rw [rk_173]; decide) (s_173 hm (H.fT f.T)) ?_
        refine w_bp l_174_34 (by decide) ?_
        refine w_cne 52 l_174_36 (by decide) (fun h3 => ?_) (fun h3 => ?_)
        · skip
          refine w_aln l_174_52 rfl ?_
          refine w_aln l_174_53 rfl ?_
          refine w_gi ((i : Nat) : Int) l_174_54 (oModel_sh hm) h22 ?_
          refine q_iv [vi ((i : Nat) : Int)] [] l_174_57 rfl rfl (Nat.le_of_ble_eq_true rfl) (by rw [mx_173]; exact Nat.le_of_ble_eq_true rfl) (by rw [mt_173]; exact oModel_sh hm) (by rw [mt_173]; decide) (by rw [rk_173]; decide) (s_173 hm (H.fT f.T)) ?_
          refine w_ir l_174_60 (Or.inl rfl) ?_
          have hKi : i = K := by
            rw [← hK]
            refine (skw_f fun q => ?_).symm
            have g1 := (hu (c := 9) (by decide)).2
            have g2 := (hu (c := 10) (by decide)).2
            have g3 := (hu (c := 32) (by decide)).2
            rcases q with ⟨q1, q2 | q2 | q2⟩
            · exact absurd (g3 ⟨q1, q2⟩) (by omega)
            · exact absurd (g1 ⟨q1, q2⟩) (by omega)
            · exact absurd (g2 ⟨q1, q2⟩) (by omega)
          subst hKi
          exact ⟨_, _, rfl, rfl, rfl, h22, f⟩
        · skip
          refine w_aln l_174_39 rfl ?_
          refine w_dup l_174_40 rfl ?_
          refine w_gi ((i : Nat) : Int) l_174_41 (oModel_sh hm) h22 ?_
          refine w_ic l_174_44 (by decide) ?_
          refine w_add (((i + 1) : Nat) : Int) l_174_45 (by unfold wr; omega) ?_
          refine w_pi l_174_46 (oModel_sh hm) ?_
          refine w_go 0 l_174_49 (by decide) ?_
          exact ih (i + 1) _ (by omega) (by have := (hu (c := 9) (by decide)).1; have := (hu (c := 10) (by decide)).1; have := (hu (c := 32) (by decide)).1; omega) (by rw [← skw_t (by have := (hu (c := 9) (by decide)).1; have := (hu (c := 10) (by decide)).1; have := (hu (c := 32) (by decide)).1; omega) (by have := (hu (c := 9) (by decide)).1; have := (hu (c := 10) (by decide)).1; have := (hu (c := 32) (by decide)).1; omega)]; exact hK) f.up up_eq
theorem s_174 (hm : oModel S T s) (H : mTx I s t n) {i : Nat} (h22 : I s 22 = ((i : Nat) : Int)) (hi : i ≤ n) : CL xs 174 [vr s] (S, I, T, cc, zz) (RP S T cc zz (fun v I' => v = some (vi (ubA t n (skw t n i))) ∧ I' s 22 = ((skw t n i : Nat) : Int) ∧ f22 I I' s)) := by
  refine CL_start (r := 1) (ls := [vr s]) (rk_174 _) rfl ?_
  exact lp_174 hm H (n + 1) i I (by omega) hi rfl (f22.rf I s) h22

theorem mx_175 : mxl 175 = 1 := by decide +kernel
theorem mt_175 : mtc 175 = 10 := by decide +kernel
theorem rk_175 (as : List AV) : rkA 175 as = 0 := rfl
theorem l_175_0 : look 175 0 = some (.aload_n 0, 1, 0, 0, 0, 0) := by decide +kernel
theorem l_175_1 : look 175 1 = some (.getfield 168, 3, 10, 24, 0, 1525) := by decide +kernel
theorem l_175_4 : look 175 4 = some (.ifCond .eq 7, 3, 0, 0, 0, 0) := by decide +kernel
theorem l_175_7 : look 175 7 = some (.iconst 1, 1, 0, 0, 0, 0) := by decide +kernel
theorem l_175_8 : look 175 8 = some (.goto 4, 3, 0, 0, 0, 0) := by decide +kernel
theorem l_175_11 : look 175 11 = some (.iconst 0, 1, 0, 0, 0, 0) := by decide +kernel
theorem l_175_12 : look 175 12 = some (.ireturn, 1, 0, 0, 1, 0) := by decide +kernel

theorem s_175_0 (hm : oModel S T s) (h24 : I s 24 = 0) : CL xs 175 [vr s] (S, I, T, cc, zz) (FN (some (vi 0)) (S, I, T, cc, zz)) := by
  refine CL_start (r := 0) (ls := [vr s]) (rk_175 _) rfl ?_
  refine w_aln l_175_0 rfl ?_
  refine w_gi 0 l_175_1 (oModel_sh hm) h24 ?_
  refine w_zeq 11 l_175_4 (by decide) (fun _ => ?_) (fun hx => absurd hx (by decide))
  refine w_ic l_175_11 (by decide) ?_
  refine w_ir l_175_12 (by decide) ?_
  exact ⟨rfl, rfl⟩

theorem s_175_1 (hm : oModel S T s) {k : Int} (h24 : I s 24 = k) (hk : k ≠ 0) : CL xs 175 [vr s] (S, I, T, cc, zz) (FN (some (vi 1)) (S, I, T, cc, zz)) := by
  refine CL_start (r := 0) (ls := [vr s]) (rk_175 _) rfl ?_
  refine w_aln l_175_0 rfl ?_
  refine w_gi k l_175_1 (oModel_sh hm) h24 ?_
  refine w_zeq 11 l_175_4 (by decide) (fun hx => absurd hx (by omega)) (fun _ => ?_)
  refine w_ic l_175_7 (by decide) ?_
  refine w_go 12 l_175_8 (by decide) ?_
  refine w_ir l_175_12 (by decide) ?_
  exact ⟨rfl, rfl⟩

theorem mx_176 : mxl 176 = 3 := by decide +kernel
theorem mt_176 : mtc 176 = 10 := by decide +kernel
theorem rk_176 (as : List AV) : rkA 176 as = 0 := rfl
theorem l_176_0 : look 176 0 = some (.aload_n 0, 1, 0, 0, 0, 0) := by decide +kernel
theorem l_176_1 : look 176 1 = some (.getfield 168, 3, 10, 24, 0, 1525) := by decide +kernel
theorem l_176_4 : look 176 4 = some (.ifCond .ne 13, 3, 0, 0, 0, 0) := by decide +kernel
theorem l_176_7 : look 176 7 = some (.aload_n 0, 1, 0, 0, 0, 0) := by decide +kernel
theorem l_176_8 : look 176 8 = some (.iload_n 1, 1, 0, 0, 0, 0) := by decide +kernel
theorem l_176_9 : look 176 9 = some (.putfield 168, 3, 10, 24, 0, 1525) := by decide +kernel
theorem l_176_12 : look 176 12 = some (.aload_n 0, 1, 0, 0, 0, 0) := by decide +kernel
theorem l_176_13 : look 176 13 = some (.iload_n 2, 1, 0, 0, 0, 0) := by decide +kernel
theorem l_176_14 : look 176 14 = some (.putfield 59, 3, 10, 23, 0, 1524) := by decide +kernel
theorem l_176_17 : look 176 17 = some (.return_, 1, 0, 0, 0, 0) := by decide +kernel

theorem s_176 (hm : oModel S T s) (h24 : I s 24 = 0) {k p : Nat} : CL xs 176 [vr s, vi ((k : Nat) : Int), vi ((p : Nat) : Int)] (S, I, T, cc, zz) (FN none (S, up (up I s 24 ((k : Nat) : Int)) s 23 ((p : Nat) : Int), T, cc, zz)) := by
  refine CL_start (r := 0) (ls := [vr s, vi ((k : Nat) : Int), vi ((p : Nat) : Int)]) (rk_176 _) rfl ?_
  refine w_aln l_176_0 rfl ?_
  refine w_gi 0 l_176_1 (oModel_sh hm) h24 ?_
  refine w_zne 17 l_176_4 (by decide) (fun hx => absurd hx (by decide)) (fun _ => ?_)
  refine w_aln l_176_7 rfl ?_
  refine w_iln l_176_8 rfl ?_
  refine w_pi l_176_9 (oModel_sh hm) ?_
  refine w_aln l_176_12 rfl ?_
  refine w_iln l_176_13 rfl ?_
  refine w_pi l_176_14 (oModel_sh hm) ?_
  refine w_vr l_176_17 ?_
  exact ⟨rfl, rfl⟩

theorem mx_177 : mxl 177 = 2 := by decide +kernel
theorem mt_177 : mtc 177 = 10 := by decide +kernel
theorem rk_177 (as : List AV) : rkA 177 as = 2 := rfl
theorem l_177_0 : look 177 0 = some (.aload_n 0, 1, 0, 0, 0, 0) := by decide +kernel
theorem l_177_1 : look 177 1 = some (.invokevirtual 171, 3, 174, 1, 0, 1754) := by decide +kernel
theorem l_177_4 : look 177 4 = some (.pop, 1, 0, 0, 0, 0) := by decide +kernel
theorem l_177_5 : look 177 5 = some (.aload_n 0, 1, 0, 0, 0, 0) := by decide +kernel
theorem l_177_6 : look 177 6 = some (.getfield 161, 3, 10, 22, 0, 1523) := by decide +kernel
theorem l_177_9 : look 177 9 = some (.istore_n 1, 1, 0, 0, 0, 0) := by decide +kernel
theorem l_177_10 : look 177 10 = some (.aload_n 0, 1, 0, 0, 0, 0) := by decide +kernel
theorem l_177_11 : look 177 11 = some (.iload_n 1, 1, 0, 0, 0, 0) := by decide +kernel
theorem l_177_12 : look 177 12 = some (.invokevirtual 164, 3, 173, 2, 0, 1758) := by decide +kernel
theorem l_177_15 : look 177 15 = some (.bipush 97, 2, 0, 0, 0, 0) := by decide +kernel
theorem l_177_17 : look 177 17 = some (.bipush 122, 2, 0, 0, 0, 0) := by decide +kernel
theorem l_177_19 : look 177 19 = some (.invokestatic 175, 3, 169, 3, 1, 1775) := by decide +kernel
theorem l_177_22 : look 177 22 = some (.ifCond .eq 9, 3, 0, 0, 0, 0) := by decide +kernel
theorem l_177_25 : look 177 25 = some (.iinc 1 1, 3, 0, 0, 0, 0) := by decide +kernel
theorem l_177_28 : look 177 28 = some (.goto (-18), 3, 0, 0, 0, 0) := by decide +kernel
theorem l_177_31 : look 177 31 = some (.iload_n 1, 1, 0, 0, 0, 0) := by decide +kernel
theorem l_177_32 : look 177 32 = some (.ireturn, 1, 0, 0, 0, 0) := by decide +kernel

theorem lp_177 (hm : oModel S T s) (H : mTx I s t n) {p : Nat} {J : Ix} (f : f22 I J s) (h22 : J s 22 = ((p : Nat) : Int)) : ∀ d i, n + 1 ≤ i + d → i ≤ n → wEnd t n i = wEnd t n p → WP xs 177 2 10 [vr s, vi ((i : Nat) : Int)] [] (S, J, T, cc, zz) (RP S T cc zz (fun v I' => v = some (vi ((wEnd t n p : Nat) : Int)) ∧ I' s 22 = ((p : Nat) : Int) ∧ f22 I I' s)) := by
  intro d
  induction d with
  | zero =>
    intro i hd hi
    omega
  | succ d ih =>
    intro i hd hi hK
    have h600 := H.2.1
    have hu : ((97 : Int) ≤ ubA t n i ∧ ubA t n i ≤ 122) ↔ i < n ∧ 97 ≤ t i ∧ t i ≤ 122 := ubA_r H (by decide) (by decide)
    refine w_aln l_177_10 rfl ?_
    refine w_iln l_177_11 rfl ?_
    refine q_iv [vi ((i : Nat) : Int)] [] l_177_12 rfl rfl (Nat.le_of_ble_eq_true rfl) (by rw [mx_173]; exact Nat.le_of_ble_eq_true rfl) (by rw [mt_173]; exact oModel_sh hm) (by rw [mt_173]; decide) (by rw [rk_173]; decide) (s_173 hm (H.fT f.T)) ?_
    refine w_bp l_177_15 (by decide) ?_
    refine w_bp l_177_17 (by decide) ?_
    refine q_st [vi (ubA t n i), vi 97, vi 122] [] l_177_19 (by decide) rfl rfl (Nat.le_of_ble_eq_true rfl) (by rw [mx_169]; exact Nat.le_of_ble_eq_true rfl) (by rw [rk_169]; decide) (s_169) ?_
    refine w_beq 31 l_177_22 (by decide) (fun h1 => ?_) (fun h1 => ?_)
    · skip
      refine w_iln l_177_31 rfl ?_
      refine w_ir l_177_32 (Or.inl rfl) ?_
      have hKi : i = wEnd t n p := by
        rw [← hK]
        refine (wEnd_f fun q => ?_).symm
        have g1 := hu.2 q
        have g2 : decide ((97 : Int) ≤ ubA t n i ∧ ubA t n i ≤ 122) = true := decide_eq_true g1
        exact Bool.noConfusion (g2.symm.trans h1)
      rw [hKi]
      exact ⟨_, _, rfl, rfl, rfl, h22, f⟩
    · skip
      refine w_inc ((i + 1 : Nat) : Int) l_177_25 rfl rfl (by unfold wr; omega) ?_
      refine w_go 10 l_177_28 (by decide) ?_
      have hi9 := (hu).1 (of_decide_eq_true (by assumption))
      exact ih (i + 1) (by omega) (by omega) (by rw [← wEnd_t hi9.1 hi9.2]; exact hK)
theorem s_177 (hm : oModel S T s) (H : mTx I s t n) {i : Nat} (h22 : I s 22 = ((i : Nat) : Int)) (hi : i ≤ n) : CL xs 177 [vr s] (S, I, T, cc, zz) (RP S T cc zz (fun v I' => v = some (vi ((wEnd t n (skw t n i) : Nat) : Int)) ∧ I' s 22 = ((skw t n i : Nat) : Int) ∧ f22 I I' s)) := by
  refine CL_start (r := 2) (ls := [vr s, vs 2]) (rk_177 _) rfl ?_
  refine w_aln l_177_0 rfl ?_
  refine p_iv [] [] l_177_1 rfl rfl (Nat.le_of_ble_eq_true rfl) (by rw [mx_174]; exact Nat.le_of_ble_eq_true rfl) (by rw [mt_174]; exact oModel_sh hm) (by rw [mt_174]; decide) (by rw [rk_174]; decide) (s_174 hm H h22 hi) (fun v I1 hv => ?_)
  obtain ⟨rfl, g22, f1⟩ := hv
  refine w_pop l_177_4 rfl ?_
  refine w_aln l_177_5 rfl ?_
  refine w_gi (((skw t n i) : Nat) : Int) l_177_6 (oModel_sh hm) g22 ?_
  refine w_isn l_177_9 ⟨Nat.le_of_ble_eq_true rfl, rfl⟩ ?_
  exact lp_177 hm H f1 g22 (n + 1) (skw t n i) (by omega) (skw_le hi) rfl

end RFT
