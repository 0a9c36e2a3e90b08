/-! the reference's reader: names, what it has read -/
theorem okPs_port {P : Ps} {w : List Nat} {c sp : Nat} (Z : okPs P) (h4 : lPorts P.1 < 4) (hw : okNm w) (hc : c ≤ 99) (hsp : sp ≤ 99) : okPs (psPort P w c sp) := by
  obtain ⟨o1, o2, o3, o4, o5⟩ := Z
  have hP : lPorts (psPort P w c sp).1 = lPorts P.1 + 1 := rfl
  have hq : ∀ p, p ≠ lPorts P.1 → lCap (psPort P w c sp).1 p = lCap P.1 p ∧ lSpeed (psPort P w c sp).1 p = lSpeed P.1 p ∧ lPol (psPort P w c sp).1 p = lPol P.1 p ∧ (psPort P w c sp).2.1 p = P.2.1 p := fun p hp => by
    unfold lCap lSpeed lPol psPort fu
    simp only [if_neg hp, and_self]
  have hn : lCap (psPort P w c sp).1 (lPorts P.1) = c ∧ lSpeed (psPort P w c sp).1 (lPorts P.1) = sp ∧ lPol (psPort P w c sp).1 (lPorts P.1) = none ∧ (psPort P w c sp).2.1 (lPorts P.1) = w := by
    unfold lCap lSpeed lPol psPort fu
    simp only [if_true, and_self]
  refine ⟨⟨?_, o1.2.1, fun p hp => ?_, fun p r b hp => ?_, o1.2.2.2.2⟩, fun p hp => ?_, o3, o4, fun p hp => ?_⟩
  · rw [hP]; omega
  · rw [hP] at hp
    by_cases hpn : p = lPorts P.1
    · rw [hpn, hn.1, hn.2.1]; omega
    · rw [(hq p hpn).1, (hq p hpn).2.1]; exact o1.2.2.1 p (by omega)
  · by_cases hpn : p = lPorts P.1
    · rw [hpn, hn.2.2.1] at hp; cases hp
    · rw [(hq p hpn).2.2.1] at hp; exact o1.2.2.2.1 p r b hp
  · rw [hP] at hp
    rw [(hq p (by omega)).2.2.1]
    exact o2 p (by omega)
  · rw [hP] at hp
    by_cases hpn : p = lPorts P.1
    · rw [hpn, hn.2.2.2]; exact hw
    · rw [(hq p hpn).2.2.2]; exact o5 p (by omega)
theorem okPs_pol {P : Ps} {i r b : Nat} (Z : okPs P) (hi : i < lPorts P.1) (hr : r ≤ 99) (hb : b ≤ 99) : okPs (psPol P i r b) := by
  obtain ⟨o1, o2, o3, o4, o5⟩ := Z
  have hq : ∀ p, p ≠ i → lPol (psPol P i r b).1 p = lPol P.1 p := fun p hp => by
    unfold lPol psPol fu
    simp only [if_neg hp]
  have hn : lPol (psPol P i r b).1 i = some (r, b) := by
    unfold lPol psPol fu
    simp only [if_true]
  refine ⟨⟨o1.1, o1.2.1, o1.2.2.1, fun p r' b' hp => ?_, o1.2.2.2.2⟩, fun p hp => ?_, o3, o4, o5⟩
  · by_cases hpi : p = i
    · rw [hpi, hn] at hp
      cases hp
      exact ⟨hr, hb⟩
    · rw [hq p hpi] at hp
      exact o1.2.2.2.1 p r' b' hp
  · have hp : lPorts P.1 ≤ p := hp
    rw [hq p (by omega)]
    exact o2 p hp
theorem okPs_buf {P : Ps} {v : Nat} (Z : okPs P) (hv : v ≤ 400) : okPs (psBuf P v) := ⟨⟨Z.1.1, Z.1.2.1, Z.1.2.2.1, Z.1.2.2.2.1, hv, Z.1.2.2.2.2.2⟩, Z.2⟩
theorem okPs_wait {P : Ps} {v : Nat} (Z : okPs P) (hv : v ≤ 99) : okPs (psWait P v) := ⟨⟨Z.1.1, Z.1.2.1, Z.1.2.2.1, Z.1.2.2.2.1, Z.1.2.2.2.2.1, hv, Z.1.2.2.2.2.2.2⟩, Z.2⟩
theorem okPs_age {P : Ps} {v : Nat} (Z : okPs P) (hv : v ≤ 999) : okPs (psAge P v) := ⟨⟨Z.1.1, Z.1.2.1, Z.1.2.2.1, Z.1.2.2.2.1, Z.1.2.2.2.2.1, Z.1.2.2.2.2.2.1, hv⟩, Z.2⟩
theorem okPs_rule {P : Ps} {b : Bool} {cs : Cd} (Z : okPs P) (h8 : lRules P.1 < 8) : okPs (psRule P b cs) := by
  obtain ⟨o1, o2, o3, o4, o5⟩ := Z
  have hR : lRules (psRule P b cs).1 = lRules P.1 + 1 := rfl
  have hD : ∀ r, lDrop (psRule P b cs).1 r = if r = lRules P.1 then b else lDrop P.1 r := fun r => rfl
  refine ⟨⟨o1.1, by rw [hR]; omega, o1.2.2⟩, o2, o3, fun r hr => ?_, o5⟩
  rw [hR] at hr
  rw [hD, if_neg (by omega)]
  exact o4 r (by omega)
theorem okPs_0 : okPs ps0 := ⟨⟨by decide, by decide, fun p hp => absurd hp (Nat.not_lt_zero p), fun p r b hp => (by cases hp), by decide, by decide, by decide⟩, fun p _ => rfl, fun r => rfl, fun r _ => rfl, fun p hp => absurd hp (Nat.not_lt_zero p)⟩
/-- codes of a condition as the reference's reader holds them -/
def mCs (I : Ix) (s o : Nat) (cs : Cd) : Prop := ∀ j, j < cs.length → I (s + 21) (3 * (o + j)) = ((cs.getD j (0, 0, 0)).1 : Int) ∧ I (s + 21) (3 * (o + j) + 1) = ((cs.getD j (0, 0, 0)).2.1 : Int) ∧ I (s + 21) (3 * (o + j) + 2) = ((cs.getD j (0, 0, 0)).2.2 : Int)
/-- the settings that the reference has read so far; cs the codes of a condition that is being read, behind tot codes -/
def mSU (I : Ix) (s : Nat) (P : Ps) (cs : Cd) (tot : Nat) : Prop := (I s 25 = (lPorts P.1 : Int) ∧ I s 34 = (lRules P.1 : Int) ∧ I s 31 = (lBuf P.1 : Int) ∧ I s 32 = (lAge P.1 : Int) ∧ I s 33 = (lWait P.1 : Int) ∧ I s 39 = ((tot + cs.length : Nat) : Int)) ∧
  (∀ p, p < lPorts P.1 → I (s + 13) p = ((nvR (P.2.1 p) : Nat) : Int) ∧ I (s + 14) p = (lCap P.1 p : Int) ∧ I (s + 15) p = (lSpeed P.1 p : Int) ∧ (match lPol P.1 p with
  | none => I (s + 16) p = 0 ∧ I (s + 17) p = -1
  | some (r, b) => I (s + 16) p = (r : Int) ∧ I (s + 17) p = (b : Int))) ∧ okPs P ∧
  (∀ r, r < lRules P.1 → I (s + 18) r = b2i (lDrop P.1 r) ∧ wfP (P.2.2 r) 0 ∧ ∃ o : Nat, I (s + 19) r = (o : Int) ∧ I (s + 20) r = ((o + (P.2.2 r).length : Nat) : Int) ∧ o + (P.2.2 r).length ≤ tot ∧ mCs I s o (P.2.2 r)) ∧ mCs I s tot cs
/-- all but what the reference's reader writes -/
def fP (I J : Ix) (s : Nat) : Prop := ∀ z w, (z = s → w < 22 ∨ 42 < w) → (z < s + 13 ∨ s + 22 < z) → J z w = I z w
theorem fP.rf (I : Ix) (s : Nat) : fP I I s := fun _ _ _ _ => rfl
theorem fP.tr {I J K : Ix} {s : Nat} (f : fP I J s) (g : fP J K s) : fP I K s := fun z w h h2 => (g z w h h2).trans (f z w h h2)
theorem fT.P {I J : Ix} {s : Nat} (f : fT I J s) : fP I J s := fun z w h _ => f z w (fun e => by have := h e; omega)
theorem fP.up {I J : Ix} {s z w : Nat} {v : Int} (f : fP I J s) (h : (z = s ∧ 22 ≤ w ∧ w ≤ 42) ∨ (s + 13 ≤ z ∧ z ≤ s + 22)) : fP I (up J z w v) s := fun z' w' h1 h2 => (up_out (by omega)).trans (f z' w' h1 h2)
theorem mTx.fP {I J : Ix} {s n : Nat} {t : Nat → Int} (H : mTx I s t n) (f : fP I J s) : mTx J s t n := ⟨(f s 21 (fun _ => by decide) (by omega)).trans H.1, H.2.1, fun j hj => ⟨(f (s + 12) j (fun e => by omega) (by omega)).trans (H.2.2 j hj).1, (H.2.2 j hj).2⟩⟩
theorem mSU.eq {I J : Ix} {s tot : Nat} {P : Ps} {cs : Cd} (Z : mSU I s P cs tot) (e : ∀ w, 24 < w → w < 40 → J s w = I s w) (e2 : ∀ j, 13 ≤ j → j ≤ 21 → ∀ w, J (s + j) w = I (s + j) w) : mSU J s P cs tot := by
  unfold mSU mCs at Z ⊢
  rw [e 25 (by decide) (by decide), e 34 (by decide) (by decide), e 31 (by decide) (by decide), e 32 (by decide) (by decide), e 33 (by decide) (by decide), e 39 (by decide) (by decide)]
  simp only [e2 13 (by decide) (by decide), e2 14 (by decide) (by decide), e2 15 (by decide) (by decide), e2 16 (by decide) (by decide), e2 17 (by decide) (by decide), e2 18 (by decide) (by decide), e2 19 (by decide) (by decide), e2 20 (by decide) (by decide), e2 21 (by decide) (by decide)]
  exact Z
theorem mSU.fT {I J : Ix} {s tot : Nat} {P : Ps} {cs : Cd} (Z : mSU I s P cs tot) (f : fT I J s) : mSU J s P cs tot := Z.eq (fun w h1 h2 => f s w (fun _ => by omega)) (fun j h1 h2 w => f _ w (fun e => by omega))
/-- the first i from which x is found -/
def fndZ (r : Nat → Int) (x : Int) : Nat → Nat → Int
  | 0, _ => -1
  | d + 1, i => if r i = x then (i : Int) else fndZ r x d (i + 1)
theorem fndZ_r {r : Nat → Int} {x : Int} : ∀ d i, -1 ≤ fndZ r x d i ∧ fndZ r x d i < ((i + d : Nat) : Int)
  | 0, i => by unfold fndZ; omega
  | d + 1, i => by
    unfold fndZ
    have h := fndZ_r (r := r) (x := x) d (i + 1)
    split <;> omega
theorem fndZ_eq {r : Nat → Int} {nm : Nat → List Nat} {w : List Nat} (hw : ∀ a, a ∈ w → 1 ≤ a ∧ a ≤ 26) : ∀ d i, (∀ p, i ≤ p → p < i + d → okNm (nm p) ∧ r p = ((nvR (nm p) : Nat) : Int)) → fndZ r ((nvR w : Nat) : Int) d i = match fndF nm w d i with
    | none => -1
    | some k => (k : Int)
  | 0, i, _ => rfl
  | d + 1, i, h => by
    have h1 := h i (Nat.le_refl _) (by omega)
    unfold fndZ fndF
    by_cases e : nm i = w
    · rw [if_pos (by rw [h1.2, e]), if_pos e]
    · rw [if_neg (by
        rw [h1.2]
        intro q
        exact e (nvR_inj _ _ h1.1.2 hw (by omega))), if_neg e]
      exact fndZ_eq hw d (i + 1) fun p hp hp2 => h p (by omega) (by omega)
theorem cmpL_0 {x y : Int} : cmpL x y = 0 ↔ x = y := by
  unfold cmpL
  split
  · constructor
    · intro q; cases q
    · intro q; omega
  · split
    · exact ⟨fun _ => by assumption, fun _ => rfl⟩
    · constructor
      · intro q; cases q
      · intro q; omega
section RFV
variable {xs : List Int} {S : List (Nat × Nat)} {T : Nat → Nat → Nat} {cc zz s : Nat} {I I' : Ix} {t : Nat → Int} {n : Nat}

theorem mx_181 : mxl 181 = 5 := by decide +kernel
theorem mt_181 : mtc 181 = 10 := by decide +kernel
theorem rk_181 (as : List AV) : rkA 181 as = 3 := rfl
theorem l_181_0 : look 181 0 = some (.aload_n 0, 1, 0, 0, 0, 0) := by decide +kernel
theorem l_181_1 : look 181 1 = some (.invokevirtual 179, 3, 177, 1, 0, 1771) := by decide +kernel
theorem l_181_4 : look 181 4 = some (.istore_n 1, 1, 0, 0, 0, 0) := by decide +kernel
theorem l_181_5 : look 181 5 = some (.aload_n 0, 1, 0, 0, 0, 0) := by decide +kernel
theorem l_181_6 : look 181 6 = some (.invokevirtual 182, 3, 175, 1, 0, 1750) := by decide +kernel
theorem l_181_9 : look 181 9 = some (.ifCond .ne 31, 3, 0, 0, 0, 0) := by decide +kernel
theorem l_181_12 : look 181 12 = some (.iload_n 1, 1, 0, 0, 0, 0) := by decide +kernel
theorem l_181_13 : look 181 13 = some (.aload_n 0, 1, 0, 0, 0, 0) := by decide +kernel
theorem l_181_14 : look 181 14 = some (.getfield 161, 3, 10, 22, 0, 1523) := by decide +kernel
theorem l_181_17 : look 181 17 = some (.if_icmp .eq 14, 3, 0, 0, 0, 0) := by decide +kernel
theorem l_181_20 : look 181 20 = some (.iload_n 1, 1, 0, 0, 0, 0) := by decide +kernel
theorem l_181_21 : look 181 21 = some (.aload_n 0, 1, 0, 0, 0, 0) := by decide +kernel
theorem l_181_22 : look 181 22 = some (.getfield 161, 3, 10, 22, 0, 1523) := by decide +kernel
theorem l_181_25 : look 181 25 = some (.isub, 1, 0, 0, 0, 0) := by decide +kernel
theorem l_181_26 : look 181 26 = some (.bipush 6, 2, 0, 0, 0, 0) := by decide +kernel
theorem l_181_28 : look 181 28 = some (.if_icmp .le 12, 3, 0, 0, 0, 0) := by decide +kernel
theorem l_181_31 : look 181 31 = some (.aload_n 0, 1, 0, 0, 0, 0) := by decide +kernel
theorem l_181_32 : look 181 32 = some (.iconst 1, 1, 0, 0, 0, 0) := by decide +kernel
theorem l_181_33 : look 181 33 = some (.aload_n 0, 1, 0, 0, 0, 0) := by decide +kernel
theorem l_181_34 : look 181 34 = some (.getfield 161, 3, 10, 22, 0, 1523) := by decide +kernel
theorem l_181_37 : look 181 37 = some (.invokevirtual 198, 3, 176, 3, 0, 1782) := by decide +kernel
theorem l_181_40 : look 181 40 = some (.lconst 0, 1, 0, 0, 0, 0) := by decide +kernel
theorem l_181_41 : look 181 41 = some (.lstore_n 2, 1, 0, 0, 0, 0) := by decide +kernel
theorem l_181_42 : look 181 42 = some (.aload_n 0, 1, 0, 0, 0, 0) := by decide +kernel
theorem l_181_43 : look 181 43 = some (.getfield 161, 3, 10, 22, 0, 1523) := by decide +kernel
theorem l_181_46 : look 181 46 = some (.istore 4, 2, 0, 0, 0, 0) := by decide +kernel
theorem l_181_48 : look 181 48 = some (.iload 4, 2, 0, 0, 0, 0) := by decide +kernel
theorem l_181_50 : look 181 50 = some (.iload_n 1, 1, 0, 0, 0, 0) := by decide +kernel
theorem l_181_51 : look 181 51 = some (.if_icmp .ge 34, 3, 0, 0, 0, 0) := by decide +kernel
theorem l_181_54 : look 181 54 = some (.aload_n 0, 1, 0, 0, 0, 0) := by decide +kernel
theorem l_181_55 : look 181 55 = some (.invokevirtual 182, 3, 175, 1, 0, 1750) := by decide +kernel
theorem l_181_58 : look 181 58 = some (.ifCond .ne 27, 3, 0, 0, 0, 0) := by decide +kernel
theorem l_181_61 : look 181 61 = some (.lload_n 2, 1, 0, 0, 0, 0) := by decide +kernel
theorem l_181_62 : look 181 62 = some (.ldc2_w 202, 3, 32, 0, 0, 1798) := by decide +kernel
theorem l_181_65 : look 181 65 = some (.lmul, 1, 0, 0, 0, 0) := by decide +kernel
theorem l_181_66 : look 181 66 = some (.aload_n 0, 1, 0, 0, 0, 0) := by decide +kernel
theorem l_181_67 : look 181 67 = some (.iload 4, 2, 0, 0, 0, 0) := by decide +kernel
theorem l_181_69 : look 181 69 = some (.invokevirtual 164, 3, 173, 2, 0, 1758) := by decide +kernel
theorem l_181_72 : look 181 72 = some (.i2l, 1, 0, 0, 0, 0) := by decide +kernel
theorem l_181_73 : look 181 73 = some (.ladd, 1, 0, 0, 0, 0) := by decide +kernel
theorem l_181_74 : look 181 74 = some (.ldc2_w 204, 3, 96, 0, 0, 1799) := by decide +kernel
theorem l_181_77 : look 181 77 = some (.lsub, 1, 0, 0, 0, 0) := by decide +kernel
theorem l_181_78 : look 181 78 = some (.lstore_n 2, 1, 0, 0, 0, 0) := by decide +kernel
theorem l_181_79 : look 181 79 = some (.iinc 4 1, 3, 0, 0, 0, 0) := by decide +kernel
theorem l_181_82 : look 181 82 = some (.goto (-34), 3, 0, 0, 0, 0) := by decide +kernel
theorem l_181_85 : look 181 85 = some (.lload_n 2, 1, 0, 0, 0, 0) := by decide +kernel
theorem l_181_86 : look 181 86 = some (.lreturn, 1, 0, 0, 0, 0) := by decide +kernel

theorem nvR_s {p k : Nat} : nvR (nmL t p (k + 1)) = (t (p + k) - 96).toNat + 32 * nvR (nmL t p k) := rfl
theorem lp_181 (hm : oModel S T s) (H : mTx I s t n) {p e : Nat} (k24 : I s 24 = 0) (he6 : e ≤ 6) (hpe : p + e ≤ n) (hlo : ∀ j, j < e → 97 ≤ t (p + j) ∧ t (p + j) ≤ 122) : ∀ d k, k + d = e → WP xs 181 3 48 [vr s, vi (((p + e) : Nat) : Int), vl (((nvR (nmL t p k)) : Nat) : Int), vs 2, vi (((p + k) : Nat) : Int)] [] (S, I, T, cc, zz) (FN (some (vl ((nvR (nmL t p e) : Nat) : Int))) (S, I, T, cc, zz)) := by
  intro d
  have h600 := H.2.1
  have hbd : ∀ k, k ≤ e → nvR (nmL t p k) < 1073741824 := fun k hk => by
    have h1 := nvR_lt (nmL t p k) (nmL_ok k fun j hj => hlo j (by omega))
    rw [nmL_len] at h1
    exact Nat.lt_of_lt_of_le h1 (Nat.pow_le_pow_right (n := 32) (j := 6) (by decide) (by omega))
  induction d with
  | zero =>
    intro k hk
    refine w_il l_181_48 rfl ?_
    refine w_iln l_181_50 rfl ?_
    refine w_cge 85 l_181_51 (by decide) (fun _ => ?_) (fun hx => absurd hx (by omega))
    refine w_lln l_181_85 rfl ?_
    refine w_lr l_181_86 ?_
    rw [show e = k by omega]
    exact ⟨rfl, rfl⟩
  | succ d ih =>
    intro k hk
    have hb9 := hbd k (by omega)
    refine w_il l_181_48 rfl ?_
    refine w_iln l_181_50 rfl ?_
    refine w_cge 85 l_181_51 (by decide) (fun hx => absurd hx (by omega)) (fun _ => ?_)
    refine w_aln l_181_54 rfl ?_
    refine q_iv [] [] l_181_55 rfl rfl (Nat.le_of_ble_eq_true rfl) (by rw [mx_175]; exact Nat.le_of_ble_eq_true rfl) (by rw [mt_175]; exact oModel_sh hm) (by rw [mt_175]; decide) (by rw [rk_175]; decide) (s_175_0 hm k24) ?_
    refine w_zne 85 l_181_58 (by decide) (fun hx => absurd hx (by decide)) (fun _ => ?_)
    refine w_lln l_181_61 rfl ?_
    refine w_ldc2 l_181_62 (by decide) ?_
    refine w_lmul ((((nvR (nmL t p k)) * 32) : Nat) : Int) l_181_65 (by unfold wl; omega) ?_
    refine w_aln l_181_66 rfl ?_
    refine w_il l_181_67 rfl ?_
    refine q_iv [vi (((p + k) : Nat) : Int)] [vl ((((nvR (nmL t p k)) * 32) : Nat) : Int)] l_181_69 rfl rfl (Nat.le_of_ble_eq_true rfl) (by rw [mx_173]; exact Nat.le_of_ble_eq_true rfl) (by rw [mt_173]; exact oModel_sh hm) (by rw [mt_173]; decide) (by rw [rk_173]; decide) ((by have g9 := s_173 (xs := xs) (cc := cc) (zz := zz) hm H (i := p + k); rw [ubA_lo (by omega) (by have := hlo k (by omega); omega)] at g9; exact g9)) ?_
    refine w_i2l l_181_72 ?_
    refine w_ladd ((((nvR (nmL t p k)) * 32 : Nat) : Int) + t (p + k)) l_181_73 (by have := hlo k (by omega); unfold wl; omega) ?_
    refine w_ldc2 l_181_74 (by decide) ?_
    refine w_lsub (((nvR (nmL t p (k + 1))) : Nat) : Int) l_181_77 (by have := hlo k (by omega); rw [nvR_s]; unfold wl; omega) ?_
    refine w_lsn l_181_78 ⟨Nat.le_of_ble_eq_true rfl, rfl⟩ ?_
    refine w_inc (((p + k + 1) : Nat) : Int) l_181_79 rfl rfl (by unfold wr; omega) ?_
    refine w_go 48 l_181_82 (by decide) ?_
    exact ih (k + 1) (by omega)

theorem s_181 (hm : oModel S T s) (H : mTx I s t n) {p : Nat} (A : mAt I s t n p) (h24 : I s 24 = 0) : CL xs 181 [vr s] (S, I, T, cc, zz) (RP S T cc zz (fun v I' => (∃ z : Int, v = some (vl z)) ∧ fT I I' s ∧ I' s 22 = ((p : Nat) : Int) ∧ mRO I s I' (nameR t n p) (fun w => v = some (vl ((nvR w : Nat) : Int))))) := by
  obtain ⟨i, h22, hi, hp⟩ := A
  have h600 := H.2.1
  have hpn : p ≤ n := by rw [← hp]; exact skw_le hi
  have hwl : wEnd t n p ≤ n := wEnd_le hpn
  have hwg : p ≤ wEnd t n p := wEnd_ge
  by_cases hk1 : tkk t n p ≠ 1
  · have hwe : wEnd t n p = p := wEnd_f fun q => hk1 (tkk_1.mpr q)
    refine CL_start (r := 3) (ls := [vr s, vs 2, vs 2, vs 2, vs 2]) (rk_181 _) rfl ?_
    refine w_aln l_181_0 rfl ?_
    refine p_iv [] [] l_181_1 rfl rfl (Nat.le_of_ble_eq_true rfl) (by rw [mx_177]; exact Nat.le_of_ble_eq_true rfl) (by rw [mt_177]; exact oModel_sh hm) (by rw [mt_177]; decide) (by rw [rk_177]; decide) (by have g9 := s_177 (xs := xs) (cc := cc) (zz := zz) hm H h22 hi; rw [hp] at g9; exact g9) (fun v I1 hv => ?_)
    obtain ⟨rfl, g22, f1⟩ := hv
    have H1 := H.fT f1.T
    have k24 : I1 s 24 = 0 := (f1 s 24 (fun _ => by decide)).trans h24
    refine w_isn l_181_4 ⟨Nat.le_of_ble_eq_true rfl, rfl⟩ ?_
    refine w_aln l_181_5 rfl ?_
    refine q_iv [] [] l_181_6 rfl rfl (Nat.le_of_ble_eq_true rfl) (by rw [mx_175]; exact Nat.le_of_ble_eq_true rfl) (by rw [mt_175]; exact oModel_sh hm) (by rw [mt_175]; decide) (by rw [rk_175]; decide) (s_175_0 hm k24) ?_
    refine w_zne 40 l_181_9 (by decide) (fun hx => absurd hx (by decide)) (fun _ => ?_)
    refine w_iln l_181_12 rfl ?_
    refine w_aln l_181_13 rfl ?_
    refine w_gi ((p : Nat) : Int) l_181_14 (oModel_sh hm) g22 ?_
    refine w_ceq 31 l_181_17 (by decide) (fun _ => ?_) (fun hx => absurd hx (by omega))
    refine w_aln l_181_31 rfl ?_
    refine w_ic l_181_32 (by decide) ?_
    refine w_aln l_181_33 rfl ?_
    refine w_gi ((p : Nat) : Int) l_181_34 (oModel_sh hm) g22 ?_
    refine q_iv [vi 1, vi ((p : Nat) : Int)] [] l_181_37 rfl rfl (Nat.le_of_ble_eq_true rfl) (by rw [mx_176]; exact Nat.le_of_ble_eq_true rfl) (by rw [mt_176]; exact oModel_sh hm) (by rw [mt_176]; decide) (by rw [rk_176]; decide) (s_176 hm k24 (k := 1)) ?_
    refine w_lc l_181_40 ?_
    refine w_lsn l_181_41 ⟨Nat.le_of_ble_eq_true rfl, rfl⟩ ?_
    refine w_aln l_181_42 rfl ?_
    refine w_gi ((p : Nat) : Int) l_181_43 (oModel_sh hm) ((up_nj (by omega)).trans ((up_nj (by omega)).trans (g22))) ?_
    refine w_is l_181_46 ⟨Nat.le_of_ble_eq_true rfl, rfl⟩ ?_
    refine w_il l_181_48 rfl ?_
    refine w_iln l_181_50 rfl ?_
    refine w_cge 85 l_181_51 (by decide) (fun _ => ?_) (fun hx => absurd hx (by omega))
    refine w_lln l_181_85 rfl ?_
    refine w_lr l_181_86 ?_
    have hR : nameR t n p = .inl (1, p) := by
      unfold nameR
      rw [if_pos (by exact Or.inl hk1)]
    exact ⟨_, _, rfl, rfl, ⟨_, rfl⟩, (f1.T.up (Or.inr (Or.inr rfl))).up (Or.inr (Or.inl rfl)), (up_nj (by decide)).trans ((up_nj (by decide)).trans g22), by rw [hR]; exact ⟨Nat.le_refl 1, (up_nj (by decide)).trans up_eq, up_eq⟩⟩
  · have hk1 : tkk t n p = 1 := Classical.not_not.mp hk1
    have hgt : p < wEnd t n p := wEnd_gt (tkk_1.mp hk1).1 (tkk_1.mp hk1).2
    by_cases h6 : 6 < wEnd t n p - p
    · skip
      refine CL_start (r := 3) (ls := [vr s, vs 2, vs 2, vs 2, vs 2]) (rk_181 _) rfl ?_
      refine w_aln l_181_0 rfl ?_
      refine p_iv [] [] l_181_1 rfl rfl (Nat.le_of_ble_eq_true rfl) (by rw [mx_177]; exact Nat.le_of_ble_eq_true rfl) (by rw [mt_177]; exact oModel_sh hm) (by rw [mt_177]; decide) (by rw [rk_177]; decide) (by have g9 := s_177 (xs := xs) (cc := cc) (zz := zz) hm H h22 hi; rw [hp] at g9; exact g9) (fun v I1 hv => ?_)
      obtain ⟨rfl, g22, f1⟩ := hv
      have H1 := H.fT f1.T
      have k24 : I1 s 24 = 0 := (f1 s 24 (fun _ => by decide)).trans h24
      refine w_isn l_181_4 ⟨Nat.le_of_ble_eq_true rfl, rfl⟩ ?_
      refine w_aln l_181_5 rfl ?_
      refine q_iv [] [] l_181_6 rfl rfl (Nat.le_of_ble_eq_true rfl) (by rw [mx_175]; exact Nat.le_of_ble_eq_true rfl) (by rw [mt_175]; exact oModel_sh hm) (by rw [mt_175]; decide) (by rw [rk_175]; decide) (s_175_0 hm k24) ?_
      refine w_zne 40 l_181_9 (by decide) (fun hx => absurd hx (by decide)) (fun _ => ?_)
      refine w_iln l_181_12 rfl ?_
      refine w_aln l_181_13 rfl ?_
      refine w_gi ((p : Nat) : Int) l_181_14 (oModel_sh hm) g22 ?_
      refine w_ceq 31 l_181_17 (by decide) (fun hx => absurd hx (by omega)) (fun _ => ?_)
      refine w_iln l_181_20 rfl ?_
      refine w_aln l_181_21 rfl ?_
      refine w_gi ((p : Nat) : Int) l_181_22 (oModel_sh hm) g22 ?_
      refine w_sub (((wEnd t n p - p) : Nat) : Int) l_181_25 (by unfold wr; omega) ?_
      refine w_bp l_181_26 (by decide) ?_
      refine w_cle 40 l_181_28 (by decide) (fun hx => absurd hx (by omega)) (fun _ => ?_)
      refine w_aln l_181_31 rfl ?_
      refine w_ic l_181_32 (by decide) ?_
      refine w_aln l_181_33 rfl ?_
      refine w_gi ((p : Nat) : Int) l_181_34 (oModel_sh hm) g22 ?_
      refine q_iv [vi 1, vi ((p : Nat) : Int)] [] l_181_37 rfl rfl (Nat.le_of_ble_eq_true rfl) (by rw [mx_176]; exact Nat.le_of_ble_eq_true rfl) (by rw [mt_176]; exact oModel_sh hm) (by rw [mt_176]; decide) (by rw [rk_176]; decide) (s_176 hm k24 (k := 1)) ?_
      refine w_lc l_181_40 ?_
      refine w_lsn l_181_41 ⟨Nat.le_of_ble_eq_true rfl, rfl⟩ ?_
      refine w_aln l_181_42 rfl ?_
      refine w_gi ((p : Nat) : Int) l_181_43 (oModel_sh hm) ((up_nj (by omega)).trans ((up_nj (by omega)).trans (g22))) ?_
      refine w_is l_181_46 ⟨Nat.le_of_ble_eq_true rfl, rfl⟩ ?_
      refine w_il l_181_48 rfl ?_
      refine w_iln l_181_50 rfl ?_
      refine w_cge 85 l_181_51 (by decide) (fun hx => absurd hx (by omega)) (fun _ => ?_)
      refine w_aln l_181_54 rfl ?_
      refine q_iv [] [] l_181_55 rfl rfl (Nat.le_of_ble_eq_true rfl) (by rw [mx_175]; exact Nat.le_of_ble_eq_true rfl) (by rw [mt_175]; exact oModel_sh hm) (by rw [mt_175]; decide) (by rw [rk_175]; decide) (s_175_1 (k := 1) hm (by rw [up_nj (by decide), up_eq]; rfl) (by decide)) ?_
      refine w_zne 85 l_181_58 (by decide) (fun _ => ?_) (fun hx => absurd hx (by decide))
      refine w_lln l_181_85 rfl ?_
      refine w_lr l_181_86 ?_
      have hR : nameR t n p = .inl (1, p) := by
        unfold nameR
        rw [if_pos (by exact Or.inr (by omega))]
      exact ⟨_, _, rfl, rfl, ⟨_, rfl⟩, (f1.T.up (Or.inr (Or.inr rfl))).up (Or.inr (Or.inl rfl)), (up_nj (by decide)).trans ((up_nj (by decide)).trans g22), by rw [hR]; exact ⟨Nat.le_refl 1, (up_nj (by decide)).trans up_eq, up_eq⟩⟩
    · skip
      refine CL_start (r := 3) (ls := [vr s, vs 2, vs 2, vs 2, vs 2]) (rk_181 _) rfl ?_
      refine w_aln l_181_0 rfl ?_
      refine p_iv [] [] l_181_1 rfl rfl (Nat.le_of_ble_eq_true rfl) (by rw [mx_177]; exact Nat.le_of_ble_eq_true rfl) (by rw [mt_177]; exact oModel_sh hm) (by rw [mt_177]; decide) (by rw [rk_177]; decide) (by have g9 := s_177 (xs := xs) (cc := cc) (zz := zz) hm H h22 hi; rw [hp] at g9; exact g9) (fun v I1 hv => ?_)
      obtain ⟨rfl, g22, f1⟩ := hv
      have H1 := H.fT f1.T
      have k24 : I1 s 24 = 0 := (f1 s 24 (fun _ => by decide)).trans h24
      refine w_isn l_181_4 ⟨Nat.le_of_ble_eq_true rfl, rfl⟩ ?_
      refine w_aln l_181_5 rfl ?_
      refine q_iv [] [] l_181_6 rfl rfl (Nat.le_of_ble_eq_true rfl) (by rw [mx_175]; exact Nat.le_of_ble_eq_true rfl) (by rw [mt_175]; exact oModel_sh hm) (by rw [mt_175]; decide) (by rw [rk_175]; decide) (s_175_0 hm k24) ?_
      refine w_zne 40 l_181_9 (by decide) (fun hx => absurd hx (by decide)) (fun _ => ?_)
      refine w_iln l_181_12 rfl ?_
      refine w_aln l_181_13 rfl ?_
      refine w_gi ((p : Nat) : Int) l_181_14 (oModel_sh hm) g22 ?_
      refine w_ceq 31 l_181_17 (by decide) (fun hx => absurd hx (by omega)) (fun _ => ?_)
      refine w_iln l_181_20 rfl ?_
      refine w_aln l_181_21 rfl ?_
      refine w_gi ((p : Nat) : Int) l_181_22 (oModel_sh hm) g22 ?_
      refine w_sub (((wEnd t n p - p) : Nat) : Int) l_181_25 (by unfold wr; omega) ?_
      refine w_bp l_181_26 (by decide) ?_
      refine w_cle 40 l_181_28 (by decide) (fun _ => ?_) (fun hx => absurd hx (by omega))
      refine w_lc l_181_40 ?_
      refine w_lsn l_181_41 ⟨Nat.le_of_ble_eq_true rfl, rfl⟩ ?_
      refine w_aln l_181_42 rfl ?_
      refine w_gi ((p : Nat) : Int) l_181_43 (oModel_sh hm) g22 ?_
      refine w_is l_181_46 ⟨Nat.le_of_ble_eq_true rfl, rfl⟩ ?_
      have hR : nameR t n p = .inr (nmL t p (wEnd t n p - p)) := by
        unfold nameR
        rw [if_neg (by omega)]
      have hpe : p + (wEnd t n p - p) = wEnd t n p := by omega
      have g9 := lp_181 (xs := xs) (cc := cc) (zz := zz) hm H1 (p := p) (e := wEnd t n p - p) k24 (by omega) (by omega) (fun j hj => isLo_iff.mp (runX_all (f := isLo) (n - p) p (p + j) (by omega) (by show p + j < wEnd t n p; omega)).1) _ 0 (Nat.zero_add _)
      rw [hpe] at g9
      refine WP_mono g9 (FN.up ?_)
      exact ⟨_, _, rfl, rfl, ⟨_, rfl⟩, f1.T, g22, by rw [hR]; exact ⟨⟨k24, f1 s 23 (fun _ => by decide)⟩, rfl⟩⟩

theorem mx_182 : mxl 182 = 4 := by decide +kernel
theorem mt_182 : mtc 182 = 10 := by decide +kernel
theorem rk_182 (as : List AV) : rkA 182 as = 0 := rfl
theorem l_182_0 : look 182 0 = some (.iconst 0, 1, 0, 0, 0, 0) := by decide +kernel
theorem l_182_1 : look 182 1 = some (.istore_n 3, 1, 0, 0, 0, 0) := by decide +kernel
theorem l_182_2 : look 182 2 = some (.iload_n 3, 1, 0, 0, 0, 0) := by decide +kernel
theorem l_182_3 : look 182 3 = some (.aload_n 0, 1, 0, 0, 0, 0) := by decide +kernel
theorem l_182_4 : look 182 4 = some (.getfield 206, 3, 10, 25, 0, 1526) := by decide +kernel
theorem l_182_7 : look 182 7 = some (.if_icmp .ge 22, 3, 0, 0, 0, 0) := by decide +kernel
theorem l_182_10 : look 182 10 = some (.aload_n 0, 1, 0, 0, 0, 0) := by decide +kernel
theorem l_182_11 : look 182 11 = some (.getfield 62, 3, 10, 26, 2, 1527) := by decide +kernel
theorem l_182_14 : look 182 14 = some (.iload_n 3, 1, 0, 0, 0, 0) := by decide +kernel
theorem l_182_15 : look 182 15 = some (.laload, 1, 0, 0, 0, 0) := by decide +kernel
theorem l_182_16 : look 182 16 = some (.lload_n 1, 1, 0, 0, 0, 0) := by decide +kernel
theorem l_182_17 : look 182 17 = some (.lcmp, 1, 0, 0, 0, 0) := by decide +kernel
theorem l_182_18 : look 182 18 = some (.ifCond .ne 5, 3, 0, 0, 0, 0) := by decide +kernel
theorem l_182_21 : look 182 21 = some (.iload_n 3, 1, 0, 0, 0, 0) := by decide +kernel
theorem l_182_22 : look 182 22 = some (.ireturn, 1, 0, 0, 0, 0) := by decide +kernel
theorem l_182_23 : look 182 23 = some (.iinc 3 1, 3, 0, 0, 0, 0) := by decide +kernel
theorem l_182_26 : look 182 26 = some (.goto (-24), 3, 0, 0, 0, 0) := by decide +kernel
theorem l_182_29 : look 182 29 = some (.iconst (-1), 1, 0, 0, 0, 0) := by decide +kernel
theorem l_182_30 : look 182 30 = some (.ireturn, 1, 0, 0, 0, 0) := by decide +kernel

theorem lp_182 (hm : oModel S T s) {np : Nat} (hnp : I s 25 = ((np : Nat) : Int)) (h4 : np ≤ 4) {x : Int} : ∀ d i, i + d = np → WP xs 182 0 2 [vr s, vl x, vs 2, vi ((i : Nat) : Int)] [] (S, I, T, cc, zz) (FN (some (vi (fndZ (I (s + 13)) x d i))) (S, I, T, cc, zz)) := by
  intro d
  induction d with
  | zero =>
    intro i hi
    refine w_iln l_182_2 rfl ?_
    refine w_aln l_182_3 rfl ?_
    refine w_gi ((np : Nat) : Int) l_182_4 (oModel_sh hm) hnp ?_
    refine w_cge 29 l_182_7 (by decide) (fun _ => ?_) (fun hx => absurd hx (by omega))
    refine w_ic l_182_29 (by decide) ?_
    refine w_ir l_182_30 (Or.inl rfl) ?_
    exact ⟨rfl, rfl⟩
  | succ d ih =>
    intro i hi
    refine w_iln l_182_2 rfl ?_
    refine w_aln l_182_3 rfl ?_
    refine w_gi ((np : Nat) : Int) l_182_4 (oModel_sh hm) hnp ?_
    refine w_cge 29 l_182_7 (by decide) (fun hx => absurd hx (by omega)) (fun _ => ?_)
    refine w_aln l_182_10 rfl ?_
    refine w_gr l_182_11 (oModel_sh hm) (oModel_r26 hm) ?_
    refine w_iln l_182_14 rfl ?_
    refine w_la i (I (s + 13) i) l_182_15 (oModel_s26 hm) rfl (by omega) rfl ?_
    refine w_lln l_182_16 rfl ?_
    refine w_lcmp l_182_17 ?_
    refine w_zne 23 l_182_18 (by decide) (fun h1 => ?_) (fun h1 => ?_)
    · skip
      refine w_inc (((i + 1) : Nat) : Int) l_182_23 rfl rfl (by unfold wr; omega) ?_
      refine w_go 2 l_182_26 (by decide) ?_
      rw [show fndZ (I (s + 13)) x (d + 1) i = fndZ (I (s + 13)) x d (i + 1) from if_neg (fun q => by have := cmpL_0.mpr q; omega)]
      exact ih (i + 1) (by omega)
    · skip
      refine w_iln l_182_21 rfl ?_
      refine w_ir l_182_22 (Or.inl rfl) ?_
      rw [show fndZ (I (s + 13)) x (d + 1) i = (i : Int) from if_pos (cmpL_0.mp (by omega))]
      exact ⟨rfl, rfl⟩
theorem s_182 (hm : oModel S T s) {np : Nat} (hnp : I s 25 = ((np : Nat) : Int)) (h4 : np ≤ 4) {x : Int} : CL xs 182 [vr s, vl x] (S, I, T, cc, zz) (FN (some (vi (fndZ (I (s + 13)) x np 0))) (S, I, T, cc, zz)) := by
  refine CL_start (r := 0) (ls := [vr s, vl x, vs 2, vs 2]) (rk_182 _) rfl ?_
  refine w_ic l_182_0 (by decide) ?_
  refine w_isn l_182_1 ⟨Nat.le_of_ble_eq_true rfl, rfl⟩ ?_
  exact lp_182 hm hnp h4 np 0 (Nat.zero_add _)

end RFV
