/-! the reference's reader: ports, policers -/
theorem nameR_w {t : Nat → Int} {n p : Nat} {w : List Nat} (h : nameR t n p = .inr w) : tkk t n p = 1 ∧ okNm w := by
  unfold nameR at h
  split at h
  · cases h
  · rename_i h1
    have hk : tkk t n p = 1 := Classical.not_not.mp fun q => h1 (Or.inl q)
    have h6 : ¬ 6 < wEnd t n p - p := fun q => h1 (Or.inr q)
    cases h
    have hk2 := tkk_1.mp hk
    refine ⟨hk, by rw [nmL_len]; omega, nmL_ok _ fun j hj => isLo_iff.mp (runX_all (f := isLo) (n - p) p (p + j) (by omega) (by show p + j < wEnd t n p; omega)).1⟩
theorem mAt.le {J : Ix} {s n p : Nat} {t : Nat → Int} (A : mAt J s t n p) : p ≤ n := by
  obtain ⟨i, h22, hi, rfl⟩ := A
  exact skw_le hi
theorem mAt.id {J : Ix} {s n p : Nat} {t : Nat → Int} (A : mAt J s t n p) : skw t n p = p := by
  obtain ⟨i, h22, hi, rfl⟩ := A
  exact skw_id
theorem mAt.at {J : Ix} {s n p : Nat} {t : Nat → Int} (h : J s 22 = ((p : Nat) : Int)) (hp : p ≤ n) (hs : skw t n p = p) : mAt J s t n p := ⟨p, h, hp, hs⟩
theorem mSU.fnd {I : Ix} {s tot : Nat} {P : Ps} {cs : Cd} (Z : mSU I s P cs tot) {w : List Nat} (hw : okNm w) : fndZ (I (s + 13)) ((nvR w : Nat) : Int) (lPorts P.1) 0 = match fnd P w with
    | none => -1
    | some k => (k : Int) := fndZ_eq hw.2 _ 0 fun p _ hp => ⟨Z.2.2.1.2.2.2.2 p (by omega), (Z.2.1 p (by omega)).1⟩
section RFW
variable {xs : List Int} {S : List (Nat × Nat)} {T : Nat → Nat → Nat} {cc zz s : Nat} {I I' : Ix} {t : Nat → Int} {n : Nat}
theorem s_174A (hm : oModel S T s) (H : mTx I s t n) {p : Nat} (A : mAt I s t n p) : CL xs 174 [vr s] (S, I, T, cc, zz) (RP S T cc zz (fun v I' => v = some (vi (ubA t n p)) ∧ I' s 22 = ((p : Nat) : Int) ∧ f22 I I' s)) := by
  obtain ⟨i, h22, hi, rfl⟩ := A
  exact s_174 hm H h22 hi
theorem s_177A (hm : oModel S T s) (H : mTx I s t n) {p : Nat} (A : mAt I s t n p) : CL xs 177 [vr s] (S, I, T, cc, zz) (RP S T cc zz (fun v I' => v = some (vi ((wEnd t n p : Nat) : Int)) ∧ I' s 22 = ((p : Nat) : Int) ∧ f22 I I' s)) := by
  obtain ⟨i, h22, hi, rfl⟩ := A
  exact s_177 hm H h22 hi
theorem s_178A (hm : oModel S T s) (H : mTx I s t n) {p : Nat} (A : mAt I s t n p) (h24 : I s 24 = 0) {q : Nat} (hq53 : q < 53) : CL xs 178 [vr s, vs (2 * q + 4)] (S, I, T, cc, zz) (RP S T cc zz (fun v I' => v = some (vi (b2i (isWL t n (strB q) p))) ∧ I' s 22 = ((p : Nat) : Int) ∧ f22 I I' s)) := by
  obtain ⟨i, h22, hi, rfl⟩ := A
  exact s_178 hm H h22 hi h24 hq53
theorem s_179A (hm : oModel S T s) (H : mTx I s t n) {p : Nat} (A : mAt I s t n p) (h24 : I s 24 = 0) {q : Nat} (hq53 : q < 53) : CL xs 179 [vr s, vs (2 * q + 4)] (S, I, T, cc, zz) (RP S T cc zz (fun v I' => v = some (vi (b2i (isWL t n (strB q) p))) ∧ mAt I' s t n (if isWL t n (strB q) p = true then nxt t n p else p) ∧ f22 I I' s)) := by
  obtain ⟨i, h22, hi, rfl⟩ := A
  refine CL_mono (s_179 hm H h22 hi h24 hq53) ?_
  rintro o m' ⟨v, J, rfl, rfl, rfl, g22, f⟩
  refine ⟨_, _, rfl, rfl, rfl, ⟨_, g22, ?_, ?_⟩, f⟩
  · split
    · exact tEnd_le (skw_le hi)
    · exact skw_le hi
  · split
    · rfl
    · exact skw_id
theorem s_180A (hm : oModel S T s) (H : mTx I s t n) {p : Nat} (A : mAt I s t n p) (h24 : I s 24 = 0) {lo hi : Nat} : CL xs 180 [vr s, vi ((lo : Nat) : Int), vi ((hi : Nat) : Int)] (S, I, T, cc, zz) (RP S T cc zz (fun v I' => (∃ z : Int, v = some (vi z)) ∧ fT I I' s ∧ mRO I s I' (numR t n lo hi p) (fun a => v = some (vi ((a.1 : Nat) : Int)) ∧ mAt I' s t n a.2))) := by
  obtain ⟨i, h22, hi9, rfl⟩ := A
  exact s_180 hm H h22 hi9 h24

theorem mx_184 : mxl 184 = 2 := by decide +kernel
theorem mt_184 : mtc 184 = 10 := by decide +kernel
theorem rk_184 (as : List AV) : rkA 184 as = 4 := rfl
theorem l_184_0 : look 184 0 = some (.aload_n 0, 1, 0, 0, 0, 0) := by decide +kernel
theorem l_184_1 : look 184 1 = some (.aload_n 0, 1, 0, 0, 0, 0) := by decide +kernel
theorem l_184_2 : look 184 2 = some (.invokevirtual 209, 3, 181, 1, 0, 1794) := by decide +kernel
theorem l_184_5 : look 184 5 = some (.invokevirtual 213, 3, 182, 2, 0, 1800) := by decide +kernel
theorem l_184_8 : look 184 8 = some (.istore_n 1, 1, 0, 0, 0, 0) := by decide +kernel
theorem l_184_9 : look 184 9 = some (.aload_n 0, 1, 0, 0, 0, 0) := by decide +kernel
theorem l_184_10 : look 184 10 = some (.invokevirtual 182, 3, 175, 1, 0, 1750) := by decide +kernel
theorem l_184_13 : look 184 13 = some (.ifCond .ne 17, 3, 0, 0, 0, 0) := by decide +kernel
theorem l_184_16 : look 184 16 = some (.iload_n 1, 1, 0, 0, 0, 0) := by decide +kernel
theorem l_184_17 : look 184 17 = some (.iconst (-1), 1, 0, 0, 0, 0) := by decide +kernel
theorem l_184_18 : look 184 18 = some (.if_icmp .ne 12, 3, 0, 0, 0, 0) := by decide +kernel
theorem l_184_21 : look 184 21 = some (.aload_n 0, 1, 0, 0, 0, 0) := by decide +kernel
theorem l_184_22 : look 184 22 = some (.iconst 3, 1, 0, 0, 0, 0) := by decide +kernel
theorem l_184_23 : look 184 23 = some (.aload_n 0, 1, 0, 0, 0, 0) := by decide +kernel
theorem l_184_24 : look 184 24 = some (.getfield 161, 3, 10, 22, 0, 1523) := by decide +kernel
theorem l_184_27 : look 184 27 = some (.invokevirtual 198, 3, 176, 3, 0, 1782) := by decide +kernel
theorem l_184_30 : look 184 30 = some (.aload_n 0, 1, 0, 0, 0, 0) := by decide +kernel
theorem l_184_31 : look 184 31 = some (.aload_n 0, 1, 0, 0, 0, 0) := by decide +kernel
theorem l_184_32 : look 184 32 = some (.invokevirtual 182, 3, 175, 1, 0, 1750) := by decide +kernel
theorem l_184_35 : look 184 35 = some (.ifCond .eq 10, 3, 0, 0, 0, 0) := by decide +kernel
theorem l_184_38 : look 184 38 = some (.aload_n 0, 1, 0, 0, 0, 0) := by decide +kernel
theorem l_184_39 : look 184 39 = some (.getfield 161, 3, 10, 22, 0, 1523) := by decide +kernel
theorem l_184_42 : look 184 42 = some (.goto 7, 3, 0, 0, 0, 0) := by decide +kernel
theorem l_184_45 : look 184 45 = some (.aload_n 0, 1, 0, 0, 0, 0) := by decide +kernel
theorem l_184_46 : look 184 46 = some (.invokevirtual 179, 3, 177, 1, 0, 1771) := by decide +kernel
theorem l_184_49 : look 184 49 = some (.putfield 161, 3, 10, 22, 0, 1523) := by decide +kernel
theorem l_184_52 : look 184 52 = some (.aload_n 0, 1, 0, 0, 0, 0) := by decide +kernel
theorem l_184_53 : look 184 53 = some (.invokevirtual 182, 3, 175, 1, 0, 1750) := by decide +kernel
theorem l_184_56 : look 184 56 = some (.ifCond .eq 7, 3, 0, 0, 0, 0) := by decide +kernel
theorem l_184_59 : look 184 59 = some (.iconst 0, 1, 0, 0, 0, 0) := by decide +kernel
theorem l_184_60 : look 184 60 = some (.goto 4, 3, 0, 0, 0, 0) := by decide +kernel
theorem l_184_63 : look 184 63 = some (.iload_n 1, 1, 0, 0, 0, 0) := by decide +kernel
theorem l_184_64 : look 184 64 = some (.ireturn, 1, 0, 0, 0, 0) := by decide +kernel

theorem wEnd_t1 {p : Nat} (h : tkk t n p = 1) : tEnd t n p = wEnd t n p := by
  have h1 := tkk_1.mp h
  unfold tEnd
  rw [if_pos h1.1, if_pos (isLo_iff.mpr h1.2)]
theorem s_184 (hm : oModel S T s) (H : mTx I s t n) {P : Ps} {cs : Cd} {tot : Nat} (Z : mSU I s P cs tot) {p : Nat} (A : mAt I s t n p) (h24 : I s 24 = 0) : CL xs 184 [vr s] (S, I, T, cc, zz) (RP S T cc zz (fun v I' => (∃ z : Int, v = some (vi z)) ∧ fT I I' s ∧ mRO I s I' (portR t n P p) (fun a => v = some (vi ((a.1 : Nat) : Int)) ∧ mAt I' s t n a.2))) := by
  cases hn1 : nameR t n p with
  | inl e9 =>
    refine CL_start (r := 4) (ls := [vr s, vs 2]) (rk_184 _) rfl ?_
    refine w_aln l_184_0 rfl ?_
    refine w_aln l_184_1 rfl ?_
    refine p_iv [] [vr s] l_184_2 rfl rfl (Nat.le_of_ble_eq_true rfl) (by rw [mx_181]; exact Nat.le_of_ble_eq_true rfl) (by rw [mt_181]; exact oModel_sh hm) (by rw [mt_181]; decide) (by rw [rk_181]; decide) (by have g9 := s_181 (xs := xs) (cc := cc) (zz := zz) hm H A h24; rw [hn1] at g9; exact g9) (fun v I1 hv => ?_)
    obtain ⟨⟨z1, rfl⟩, f1, g221, he, e24, e23⟩ := hv
    have H1 := H.fT f1
    have Z1 := Z.fT f1
    refine q_iv [vl z1] [] l_184_5 rfl rfl (Nat.le_of_ble_eq_true rfl) (by rw [mx_182]; exact Nat.le_of_ble_eq_true rfl) (by rw [mt_182]; exact oModel_sh hm) (by rw [mt_182]; decide) (by rw [rk_182]; decide) ((by have g9 := s_182 (xs := xs) (T := T) (cc := cc) (zz := zz) (x := z1) hm Z1.1.1 Z1.2.2.1.1.1; skip; exact g9)) ?_
    refine w_isn l_184_8 ⟨Nat.le_of_ble_eq_true rfl, rfl⟩ ?_
    refine w_aln l_184_9 rfl ?_
    refine q_iv [] [] l_184_10 rfl rfl (Nat.le_of_ble_eq_true rfl) (by rw [mx_175]; exact Nat.le_of_ble_eq_true rfl) (by rw [mt_175]; exact oModel_sh hm) (by rw [mt_175]; decide) (by rw [rk_175]; decide) (s_175_1 (k := ((e9.1 : Nat) : Int)) hm e24 (by omega)) ?_
    refine w_zne 30 l_184_13 (by decide) (fun _ => ?_) (fun hx => absurd hx (by decide))
    refine w_aln l_184_30 rfl ?_
    refine w_aln l_184_31 rfl ?_
    refine q_iv [] [vr s] l_184_32 rfl rfl (Nat.le_of_ble_eq_true rfl) (by rw [mx_175]; exact Nat.le_of_ble_eq_true rfl) (by rw [mt_175]; exact oModel_sh hm) (by rw [mt_175]; decide) (by rw [rk_175]; decide) (s_175_1 (k := ((e9.1 : Nat) : Int)) hm e24 (by omega)) ?_
    refine w_zeq 45 l_184_35 (by decide) (fun hx => absurd hx (by decide)) (fun _ => ?_)
    refine w_aln l_184_38 rfl ?_
    refine w_gi ((p : Nat) : Int) l_184_39 (oModel_sh hm) g221 ?_
    refine w_go 49 l_184_42 (by decide) ?_
    refine w_pi l_184_49 (oModel_sh hm) ?_
    refine w_aln l_184_52 rfl ?_
    refine q_iv [] [] l_184_53 rfl rfl (Nat.le_of_ble_eq_true rfl) (by rw [mx_175]; exact Nat.le_of_ble_eq_true rfl) (by rw [mt_175]; exact oModel_sh hm) (by rw [mt_175]; decide) (by rw [rk_175]; decide) (s_175_1 (k := ((e9.1 : Nat) : Int)) hm ((up_nj (by decide)).trans e24) (by omega)) ?_
    refine w_zeq 63 l_184_56 (by decide) (fun hx => absurd hx (by decide)) (fun _ => ?_)
    refine w_ic l_184_59 (by decide) ?_
    refine w_go 64 l_184_60 (by decide) ?_
    refine w_ir l_184_64 (Or.inl rfl) ?_
    have hR : portR t n P p = .inl e9 := by
      unfold portR
      rw [hn1]
    exact ⟨_, _, rfl, rfl, ⟨_, rfl⟩, f1.up (Or.inl rfl), by rw [hR]; exact ⟨he, (up_nj (by decide)).trans e24, (up_nj (by decide)).trans e23⟩⟩
  | inr w =>
    have hnw := nameR_w hn1
    cases hf : fnd P w with
    | none =>
      refine CL_start (r := 4) (ls := [vr s, vs 2]) (rk_184 _) rfl ?_
      refine w_aln l_184_0 rfl ?_
      refine w_aln l_184_1 rfl ?_
      refine p_iv [] [vr s] l_184_2 rfl rfl (Nat.le_of_ble_eq_true rfl) (by rw [mx_181]; exact Nat.le_of_ble_eq_true rfl) (by rw [mt_181]; exact oModel_sh hm) (by rw [mt_181]; decide) (by rw [rk_181]; decide) (by have g9 := s_181 (xs := xs) (cc := cc) (zz := zz) hm H A h24; rw [hn1] at g9; exact g9) (fun v I1 hv => ?_)
      obtain ⟨_, f1, g221, ⟨k241, k231⟩, rfl⟩ := hv
      have H1 := H.fT f1
      have Z1 := Z.fT f1
      refine q_iv [vl (((nvR w) : Nat) : Int)] [] l_184_5 rfl rfl (Nat.le_of_ble_eq_true rfl) (by rw [mx_182]; exact Nat.le_of_ble_eq_true rfl) (by rw [mt_182]; exact oModel_sh hm) (by rw [mt_182]; decide) (by rw [rk_182]; decide) ((by have g9 := s_182 (xs := xs) (T := T) (cc := cc) (zz := zz) (x := (((nvR w) : Nat) : Int)) hm Z1.1.1 Z1.2.2.1.1.1; have g8 : fndZ (I1 (s + 13)) ((nvR w : Nat) : Int) (lPorts P.1) 0 = (-1) := (by rw [Z1.fnd hnw.2, hf]); rw [g8] at g9; exact g9)) ?_
      refine w_isn l_184_8 ⟨Nat.le_of_ble_eq_true rfl, rfl⟩ ?_
      refine w_aln l_184_9 rfl ?_
      refine q_iv [] [] l_184_10 rfl rfl (Nat.le_of_ble_eq_true rfl) (by rw [mx_175]; exact Nat.le_of_ble_eq_true rfl) (by rw [mt_175]; exact oModel_sh hm) (by rw [mt_175]; decide) (by rw [rk_175]; decide) (s_175_0 hm k241) ?_
      refine w_zne 30 l_184_13 (by decide) (fun hx => absurd hx (by decide)) (fun _ => ?_)
      refine w_iln l_184_16 rfl ?_
      refine w_ic l_184_17 (by decide) ?_
      refine w_cne 30 l_184_18 (by decide) (fun hx => absurd hx (by decide)) (fun _ => ?_)
      refine w_aln l_184_21 rfl ?_
      refine w_ic l_184_22 (by decide) ?_
      refine w_aln l_184_23 rfl ?_
      refine w_gi ((p : Nat) : Int) l_184_24 (oModel_sh hm) g221 ?_
      refine q_iv [vi 3, vi ((p : Nat) : Int)] [] l_184_27 rfl rfl (Nat.le_of_ble_eq_true rfl) (by rw [mx_176]; exact Nat.le_of_ble_eq_true rfl) (by rw [mt_176]; exact oModel_sh hm) (by rw [mt_176]; decide) (by rw [rk_176]; decide) (s_176 hm k241 (k := 3)) ?_
      refine w_aln l_184_30 rfl ?_
      refine w_aln l_184_31 rfl ?_
      refine q_iv [] [vr s] l_184_32 rfl rfl (Nat.le_of_ble_eq_true rfl) (by rw [mx_175]; exact Nat.le_of_ble_eq_true rfl) (by rw [mt_175]; exact oModel_sh hm) (by rw [mt_175]; decide) (by rw [rk_175]; decide) (s_175_1 (k := 3) hm (by repeat (first | exact up_eq | rw [up_nj (by decide)])) (by decide)) ?_
      refine w_zeq 45 l_184_35 (by decide) (fun hx => absurd hx (by decide)) (fun _ => ?_)
      refine w_aln l_184_38 rfl ?_
      refine w_gi ((p : Nat) : Int) l_184_39 (oModel_sh hm) ((up_nj (by omega)).trans ((up_nj (by omega)).trans (g221))) ?_
      refine w_go 49 l_184_42 (by decide) ?_
      refine w_pi l_184_49 (oModel_sh hm) ?_
      refine w_aln l_184_52 rfl ?_
      refine q_iv [] [] l_184_53 rfl rfl (Nat.le_of_ble_eq_true rfl) (by rw [mx_175]; exact Nat.le_of_ble_eq_true rfl) (by rw [mt_175]; exact oModel_sh hm) (by rw [mt_175]; decide) (by rw [rk_175]; decide) (s_175_1 (k := 3) hm (by repeat (first | exact up_eq | rw [up_nj (by decide)])) (by decide)) ?_
      refine w_zeq 63 l_184_56 (by decide) (fun hx => absurd hx (by decide)) (fun _ => ?_)
      refine w_ic l_184_59 (by decide) ?_
      refine w_go 64 l_184_60 (by decide) ?_
      refine w_ir l_184_64 (Or.inl rfl) ?_
      have hR : portR t n P p = .inl (3, p) := by
        unfold portR
        rw [hn1]
        simp only [hf]
      exact ⟨_, _, rfl, rfl, ⟨_, rfl⟩, ((f1.up (Or.inr (Or.inr rfl))).up (Or.inr (Or.inl rfl))).up (Or.inl rfl), by rw [hR]; exact ⟨(show (1 : Nat) ≤ 3 by decide), (up_nj (by decide)).trans ((up_nj (by decide)).trans up_eq), (up_nj (by decide)).trans up_eq⟩⟩
    | some k =>
      refine CL_start (r := 4) (ls := [vr s, vs 2]) (rk_184 _) rfl ?_
      refine w_aln l_184_0 rfl ?_
      refine w_aln l_184_1 rfl ?_
      refine p_iv [] [vr s] l_184_2 rfl rfl (Nat.le_of_ble_eq_true rfl) (by rw [mx_181]; exact Nat.le_of_ble_eq_true rfl) (by rw [mt_181]; exact oModel_sh hm) (by rw [mt_181]; decide) (by rw [rk_181]; decide) (by have g9 := s_181 (xs := xs) (cc := cc) (zz := zz) hm H A h24; rw [hn1] at g9; exact g9) (fun v I1 hv => ?_)
      obtain ⟨_, f1, g221, ⟨k241, k231⟩, rfl⟩ := hv
      have H1 := H.fT f1
      have Z1 := Z.fT f1
      refine q_iv [vl (((nvR w) : Nat) : Int)] [] l_184_5 rfl rfl (Nat.le_of_ble_eq_true rfl) (by rw [mx_182]; exact Nat.le_of_ble_eq_true rfl) (by rw [mt_182]; exact oModel_sh hm) (by rw [mt_182]; decide) (by rw [rk_182]; decide) ((by have g9 := s_182 (xs := xs) (T := T) (cc := cc) (zz := zz) (x := (((nvR w) : Nat) : Int)) hm Z1.1.1 Z1.2.2.1.1.1; have g8 : fndZ (I1 (s + 13)) ((nvR w : Nat) : Int) (lPorts P.1) 0 = ((k : Nat) : Int) := (by rw [Z1.fnd hnw.2, hf]); rw [g8] at g9; exact g9)) ?_
      refine w_isn l_184_8 ⟨Nat.le_of_ble_eq_true rfl, rfl⟩ ?_
      refine w_aln l_184_9 rfl ?_
      refine q_iv [] [] l_184_10 rfl rfl (Nat.le_of_ble_eq_true rfl) (by rw [mx_175]; exact Nat.le_of_ble_eq_true rfl) (by rw [mt_175]; exact oModel_sh hm) (by rw [mt_175]; decide) (by rw [rk_175]; decide) (s_175_0 hm k241) ?_
      refine w_zne 30 l_184_13 (by decide) (fun hx => absurd hx (by decide)) (fun _ => ?_)
      refine w_iln l_184_16 rfl ?_
      refine w_ic l_184_17 (by decide) ?_
      refine w_cne 30 l_184_18 (by decide) (fun _ => ?_) (fun hx => absurd hx (by omega))
      refine w_aln l_184_30 rfl ?_
      refine w_aln l_184_31 rfl ?_
      refine q_iv [] [vr s] l_184_32 rfl rfl (Nat.le_of_ble_eq_true rfl) (by rw [mx_175]; exact Nat.le_of_ble_eq_true rfl) (by rw [mt_175]; exact oModel_sh hm) (by rw [mt_175]; decide) (by rw [rk_175]; decide) (s_175_0 hm k241) ?_
      refine w_zeq 45 l_184_35 (by decide) (fun _ => ?_) (fun hx => absurd hx (by decide))
      refine w_aln l_184_45 rfl ?_
      refine p_iv [] [vr s] l_184_46 rfl rfl (Nat.le_of_ble_eq_true rfl) (by rw [mx_177]; exact Nat.le_of_ble_eq_true rfl) (by rw [mt_177]; exact oModel_sh hm) (by rw [mt_177]; decide) (by rw [rk_177]; decide) (s_177A hm H1 (mAt.at g221 A.le A.id)) (fun v I2 hv => ?_)
      obtain ⟨rfl, g222, f2⟩ := hv
      have k242 : I2 s 24 = 0 := (f2 s 24 (fun _ => by decide)).trans k241
      refine w_pi l_184_49 (oModel_sh hm) ?_
      refine w_aln l_184_52 rfl ?_
      refine q_iv [] [] l_184_53 rfl rfl (Nat.le_of_ble_eq_true rfl) (by rw [mx_175]; exact Nat.le_of_ble_eq_true rfl) (by rw [mt_175]; exact oModel_sh hm) (by rw [mt_175]; decide) (by rw [rk_175]; decide) (s_175_0 hm ((up_nj (by decide)).trans k242)) ?_
      refine w_zeq 63 l_184_56 (by decide) (fun _ => ?_) (fun hx => absurd hx (by decide))
      refine w_iln l_184_63 rfl ?_
      refine w_ir l_184_64 (Or.inl rfl) ?_
      have hR : portR t n P p = .inr (k, nxt t n p) := by
        unfold portR
        rw [hn1]
        simp only [hf]
      exact ⟨_, _, rfl, rfl, ⟨_, rfl⟩, (f1.tr f2.T).up (Or.inl rfl), by rw [hR]; exact ⟨⟨(up_nj (by decide)).trans k242, (up_nj (by decide)).trans ((f2 s 23 (fun _ => by decide)).trans k231)⟩, rfl, wEnd t n p, up_eq, wEnd_le A.le, by unfold nxt; rw [wEnd_t1 hnw.1]⟩⟩

end RFW
