/-! the reference: suppositions are made -/
/-- all but what questions and suppositions may change -/
def mfo (I J : Ix) (s : Nat) : Prop := ∀ y z, (y = s → z ≠ 0 ∧ (z < 44 ∨ z = 48 ∨ z = 49 ∨ z = 54 ∨ (56 ≤ z ∧ z ≤ 65) ∨ (70 ≤ z ∧ z ≠ 72 ∧ z ≠ 73))) → (s < y → y < s + 23 ∨ s + 38 < y) → J y z = I y z
theorem mfo.tr {I J K : Ix} {s : Nat} (h1 : mfo I J s) (h2 : mfo J K s) : mfo I K s := fun y z a b => (h2 y z a b).trans (h1 y z a b)
theorem mfk.o {I J : Ix} {s : Nat} (f : mfk I J s) : mfo I J s := fun y z a b => f y z (fun e => by have := a e; omega) (fun e => by have := b e; omega)
theorem mfu.o {I J : Ix} {s : Nat} (f : mfu I J s) : mfo I J s := fun y z a b => f y z (fun e => by have := a e; omega) ⟨fun e => by have := b (by omega); omega, fun e => by have := b (by omega); omega⟩
theorem mfo.u {I : Ix} {s j : Nat} {v : Int} (hj : 44 ≤ j ∧ j ≤ 47) : mfo I (up I s j v) s := fun y z a b => by
  by_cases hy : y = s
  · have := a hy
    rw [hy, up_nj (by omega)]
  · rw [up_no hy]
theorem mfo.w {I : Ix} {s b j : Nat} {v : Int} (hb : b = s + 23 ∨ b = s + 24) : mfo I (up I b j v) s := fun y z a c => up_no (by intro e; have := c (by omega); omega)
theorem MP.o {I J : Ix} {s : Nat} {h : Hi} {l : Li} {a : Nat → Nat} {ne np : Nat} {cd : Nat → Cd} (B : MP I s h l a ne np cd) (f : mfo I J s) : MP J s h l a ne np cd := by
  obtain ⟨b1, b2, b3, b4, b5, b6, b7, b8, b9⟩ := B
  have e0 : ∀ j, 0 < j ∧ j < 44 → J s j = I s j := fun j hj => f s j (fun _ => ⟨by omega, Or.inl hj.2⟩) (fun e => absurd e (Nat.lt_irrefl s))
  have e : ∀ j, j ≤ 22 ∧ 0 < j → ∀ z, J (s + j) z = I (s + j) z := fun j hj z => f (s + j) z (fun e => by omega) (fun _ => by omega)
  refine ⟨?_, ?_, ?_, b4, b5, b6, fun k hk => by rw [e 10 (by decide)]; exact b7 k hk, by rw [e0 15 (by decide)]; exact b8, by rw [e0 16 (by decide)]; exact b9⟩
  · unfold mH at b1 ⊢
    simp only [e 10 (by decide), e 11 (by decide)]
    exact b1
  · unfold nB at b2 ⊢
    simp only [e0 1 (by decide), e0 7 (by decide), e0 8 (by decide), e0 9 (by decide), e0 10 (by decide), e 2 (by decide), e 3 (by decide), e 4 (by decide), e 5 (by decide), e 6 (by decide)]
    exact b2
  · unfold nC codesAt at b3 ⊢
    simp only [e 7 (by decide), e 8 (by decide), e 9 (by decide)]
    exact b3
/-- suppositions made -/
def suCap (su : Su) (p v : Nat) : Su := (fu su.1 p (some v), su.2)
def suBuf (su : Su) (v : Nat) : Su := (su.1, (some v, su.2.1.2), su.2.2)
def suWait (su : Su) (v : Nat) : Su := (su.1, (su.2.1.1, some v, su.2.1.2.2), su.2.2)
def suAge (su : Su) (v : Nat) : Su := (su.1, (su.2.1.1, su.2.1.2.1, some v), su.2.2)
def suRule (su : Su) (q : Nat) : Su := (su.1, su.2.1, fu su.2.2.1 q true, su.2.2.2)
def suOut (su : Su) (e : Nat) : Su := (su.1, su.2.1, su.2.2.1, fu su.2.2.2 e true)
def orb (d q : Nat) : Nat := if bt d q = 0 then d + 2 ^ q else d
theorem orb8 : ∀ d : Nat, d < 256 → ∀ q : Nat, q < 8 → a2 (fun x y => x ||| y) (d : Int) ((2 ^ q : Nat) : Int) = ((orb d q : Nat) : Int) ∧ orb d q < 256 := by decide +kernel
theorem orb_bt : ∀ d : Nat, d < 256 → ∀ q : Nat, q < 8 → ∀ r : Nat, r < 8 → (bt (orb d q) r ≠ 0 ↔ (r = q ∨ bt d r ≠ 0)) := by decide +kernel
section RH
variable {xs : List Int} {S : List (Nat × Nat)} {T : Nat → Nat → Nat} {cc zz s : Nat} {h : Hi} {l : Li} {r : Ra} {g : Lo} {I I' : Ix}

theorem nSu_cap {su : Su} (hS : nSu I s su) {p v : Nat} : nSu (up I (s + 23) p (v : Int)) s (suCap su p v) := by
  obtain ⟨q1, q2, q3, q4, ⟨d, d1, d2, d3⟩, q6⟩ := hS
  refine ⟨fun x hx => ?_, by rw [up_no (by omega)]; exact q2, by rw [up_no (by omega)]; exact q3, by rw [up_no (by omega)]; exact q4, ⟨d, by rw [up_no (by omega)]; exact d1, d2, d3⟩, fun e he => by rw [up_no (by omega)]; exact q6 e he⟩
  show _ = oI (if x = p then some v else su.1 x)
  by_cases hxp : x = p
  · rw [if_pos hxp, hxp, up_eq]; rfl
  · rw [if_neg hxp, up_nj hxp]; exact q1 x hx
theorem nSu_out {su : Su} (hS : nSu I s su) {e : Nat} : nSu (up I (s + 24) e 1) s (suOut su e) := by
  obtain ⟨q1, q2, q3, q4, ⟨d, d1, d2, d3⟩, q6⟩ := hS
  refine ⟨fun x hx => by rw [up_no (by omega)]; exact q1 x hx, by rw [up_no (by omega)]; exact q2, by rw [up_no (by omega)]; exact q3, by rw [up_no (by omega)]; exact q4, ⟨d, by rw [up_no (by omega)]; exact d1, d2, d3⟩, fun x hx => ?_⟩
  show _ = b2i (if x = e then true else su.2.2.2 x)
  by_cases hxe : x = e
  · rw [if_pos hxe, hxe, up_eq]; rfl
  · rw [if_neg hxe, up_nj hxe]; exact q6 x hx
theorem nSu_buf {su : Su} (hS : nSu I s su) {v : Nat} : nSu (up I s 44 (v : Int)) s (suBuf su v) := by
  obtain ⟨q1, q2, q3, q4, ⟨d, d1, d2, d3⟩, q6⟩ := hS
  exact ⟨fun x hx => by rw [up_no (by omega)]; exact q1 x hx, up_eq, by rw [up_nj (by decide)]; exact q3, by rw [up_nj (by decide)]; exact q4, ⟨d, by rw [up_nj (by decide)]; exact d1, d2, d3⟩, fun x hx => by rw [up_no (by omega)]; exact q6 x hx⟩
theorem nSu_wait {su : Su} (hS : nSu I s su) {v : Nat} : nSu (up I s 45 (v : Int)) s (suWait su v) := by
  obtain ⟨q1, q2, q3, q4, ⟨d, d1, d2, d3⟩, q6⟩ := hS
  exact ⟨fun x hx => by rw [up_no (by omega)]; exact q1 x hx, by rw [up_nj (by decide)]; exact q2, up_eq, by rw [up_nj (by decide)]; exact q4, ⟨d, by rw [up_nj (by decide)]; exact d1, d2, d3⟩, fun x hx => by rw [up_no (by omega)]; exact q6 x hx⟩
theorem nSu_age {su : Su} (hS : nSu I s su) {v : Nat} : nSu (up I s 46 (v : Int)) s (suAge su v) := by
  obtain ⟨q1, q2, q3, q4, ⟨d, d1, d2, d3⟩, q6⟩ := hS
  exact ⟨fun x hx => by rw [up_no (by omega)]; exact q1 x hx, by rw [up_nj (by decide)]; exact q2, by rw [up_nj (by decide)]; exact q3, up_eq, ⟨d, by rw [up_nj (by decide)]; exact d1, d2, d3⟩, fun x hx => by rw [up_no (by omega)]; exact q6 x hx⟩
theorem nSu_rule {su : Su} (hS : nSu I s su) {d q : Nat} (d1 : I s 47 = (d : Int)) (d2 : d < 256) (hq : q < 8) : nSu (up I s 47 ((orb d q : Nat) : Int)) s (suRule su q) := by
  obtain ⟨q1, q2, q3, q4, ⟨d', d1', d2', d3⟩, q6⟩ := hS
  have e : d' = d := by omega
  subst e
  refine ⟨fun x hx => by rw [up_no (by omega)]; exact q1 x hx, by rw [up_nj (by decide)]; exact q2, by rw [up_nj (by decide)]; exact q3, by rw [up_nj (by decide)]; exact q4, ⟨orb d' q, up_eq, (orb8 d' d2 q hq).2, fun r hr => ?_⟩, fun x hx => by rw [up_no (by omega)]; exact q6 x hx⟩
  rw [orb_bt d' d2 q hq r hr]
  show _ ↔ (if r = q then true else su.2.2.1 r) = true
  by_cases hrq : r = q
  · rw [if_pos hrq]; exact ⟨fun _ => rfl, fun _ => Or.inl hrq⟩
  · rw [if_neg hrq, ← d3 r hr]
    exact ⟨fun h => h.resolve_left hrq, Or.inr⟩

theorem mx_270 : mxl 270 = 2 := by decide +kernel
theorem mt_270 : mtc 270 = 10 := by decide +kernel
theorem rk_270 (as : List AV) : rkA 270 as = 2 := rfl
theorem l_270_0 : look 270 0 = some (.aload_n 0, 1, 0, 0, 0, 0) := by decide +kernel
theorem l_270_1 : look 270 1 = some (.aload_n 0, 1, 0, 0, 0, 0) := by decide +kernel
theorem l_270_2 : look 270 2 = some (.iload_n 1, 1, 0, 0, 0, 0) := by decide +kernel
theorem l_270_3 : look 270 3 = some (.invokevirtual 456, 3, 231, 2, 0, 2016) := by decide +kernel
theorem l_270_6 : look 270 6 = some (.ifCond .eq 7, 3, 0, 0, 0, 0) := by decide +kernel
theorem l_270_9 : look 270 9 = some (.iconst 0, 1, 0, 0, 0, 0) := by decide +kernel
theorem l_270_10 : look 270 10 = some (.goto 4, 3, 0, 0, 0, 0) := by decide +kernel
theorem l_270_13 : look 270 13 = some (.iconst 1, 1, 0, 0, 0, 0) := by decide +kernel
theorem l_270_14 : look 270 14 = some (.putfield 152, 3, 10, 0, 0, 1501) := by decide +kernel
theorem l_270_17 : look 270 17 = some (.aload_n 0, 1, 0, 0, 0, 0) := by decide +kernel
theorem l_270_18 : look 270 18 = some (.getfield 152, 3, 10, 0, 0, 1501) := by decide +kernel
theorem l_270_21 : look 270 21 = some (.ifCond .le 5, 3, 0, 0, 0, 0) := by decide +kernel
theorem l_270_24 : look 270 24 = some (.iconst 0, 1, 0, 0, 0, 0) := by decide +kernel
theorem l_270_25 : look 270 25 = some (.ireturn, 1, 0, 0, 0, 0) := by decide +kernel
theorem l_270_26 : look 270 26 = some (.aload_n 0, 1, 0, 0, 0, 0) := by decide +kernel
theorem l_270_27 : look 270 27 = some (.getfield 104, 3, 10, 48, 2, 1549) := by decide +kernel
theorem l_270_30 : look 270 30 = some (.iload_n 1, 1, 0, 0, 0, 0) := by decide +kernel
theorem l_270_31 : look 270 31 = some (.iconst 1, 1, 0, 0, 0, 0) := by decide +kernel
theorem l_270_32 : look 270 32 = some (.bastore, 1, 0, 0, 0, 0) := by decide +kernel
theorem l_270_33 : look 270 33 = some (.aload_n 0, 1, 0, 0, 0, 0) := by decide +kernel
theorem l_270_34 : look 270 34 = some (.invokevirtual 490, 3, 269, 1, 0, 2149) := by decide +kernel
theorem l_270_37 : look 270 37 = some (.ireturn, 1, 0, 0, 0, 0) := by decide +kernel

theorem s_270 (hm : oModel S T s) {ne np : Nat} {a : Nat → Nat} {cd : Nat → Cd} (B : MP I s h l a ne np cd) {e : Nat} (he : e < ne) {su : Su} (hS : nSu I s su) : CL xs 270 [vr s, vi ((e : Nat) : Int)] (S, I, T, cc, zz) (RP S T cc zz (fun w9 I' => w9 = some (vi ((outN (suOut su e) : Nat) : Int)) ∧ I' s 0 = 0 ∧ nSu I' s (suOut su e) ∧ mfo I I' s)) := by
  refine CL_start (r := 2) (ls := [vr s, vi ((e : Nat) : Int)]) (rk_270 _) rfl ?_
  have hl4 := B.2.2.2.2.1.1
  have hne := B.1.1
  have hnp := B.1.2.1
  have hok := (B.run noOut (Nat.le_refl ne)).1
  have hlen : (runA h l noOut ne).2.1.length ≤ 360 := by
    have h8 := hok.2.2
    unfold tot at h8
    omega
  refine w_aln l_270_0 rfl ?_
  refine w_aln l_270_1 rfl ?_
  refine w_iln l_270_2 rfl ?_
  refine q_iv [vi ((e : Nat) : Int)] [vr s] l_270_3 rfl rfl (Nat.le_of_ble_eq_true rfl) (by rw [mx_231]; exact Nat.le_of_ble_eq_true rfl) (by rw [mt_231]; exact oModel_sh hm) (by rw [mt_231]; decide) (by rw [rk_231]; decide) (s_231 hm B) ?_
  refine w_beq 13 l_270_6 (by decide) (fun hx => absurd hx (by rw [decide_eq_true (by omega)]; decide)) (fun _ => ?_)
  refine w_ic l_270_9 (by decide) ?_
  refine w_go 14 l_270_10 (by decide) ?_
  refine w_pi l_270_14 (oModel_sh hm) ?_
  refine w_aln l_270_17 rfl ?_
  refine w_gi 0 l_270_18 (oModel_sh hm) up_eq ?_
  refine w_zle 26 l_270_21 (by decide) (fun _ => ?_) (fun hx => absurd hx (by decide))
  refine w_aln l_270_26 rfl ?_
  refine w_gr l_270_27 (oModel_sh hm) (oModel_r48 hm) ?_
  refine w_iln l_270_30 rfl ?_
  refine w_ic l_270_31 (by decide) ?_
  refine w_zS e 1 l_270_32 (oModel_s48 hm) rfl (by omega) (by decide) ?_
  refine w_aln l_270_33 rfl ?_
  refine q_iv [] [] l_270_34 rfl rfl (Nat.le_of_ble_eq_true rfl) (by rw [mx_269]; exact Nat.le_of_ble_eq_true rfl) (by rw [mt_269]; exact oModel_sh hm) (by rw [mt_269]; decide) (by rw [rk_269]; decide) (s_269 hm (nSu_out (hS.k (mfk.u (Or.inl rfl))))) ?_
  refine w_ir l_270_37 (Or.inl rfl) ?_
  exact ⟨_, _, rfl, rfl, rfl, by rw [up_no (by omega), up_eq], nSu_out (hS.k (mfk.u (Or.inl rfl))), (mfk.u (Or.inl rfl)).o.tr (mfo.w (Or.inr rfl))⟩

theorem s_270n (hm : oModel S T s) {ne np : Nat} {a : Nat → Nat} {cd : Nat → Cd} (B : MP I s h l a ne np cd) {p : Int} (hp : ¬ (0 ≤ p ∧ p ≤ ((ne : Nat) : Int) - 1)): CL xs 270 [vr s, vi p] (S, I, T, cc, zz) (RP S T cc zz (fun v I' => v = some (vi 0) ∧ I' s 0 = 1 ∧ mfk I I' s)) := by
  refine CL_start (r := 2) (ls := [vr s, vi p]) (rk_270 _) rfl ?_
  refine w_aln l_270_0 rfl ?_
  refine w_aln l_270_1 rfl ?_
  refine w_iln l_270_2 rfl ?_
  refine q_iv [vi p] [vr s] l_270_3 rfl rfl (Nat.le_of_ble_eq_true rfl) (by rw [mx_231]; exact Nat.le_of_ble_eq_true rfl) (by rw [mt_231]; exact oModel_sh hm) (by rw [mt_231]; decide) (by rw [rk_231]; decide) (s_231 hm B) ?_
  refine w_beq 13 l_270_6 (by decide) (fun _ => ?_) (fun hx => absurd hx (by rw [decide_eq_false hp]; decide))
  refine w_ic l_270_13 (by decide) ?_
  refine w_pi l_270_14 (oModel_sh hm) ?_
  refine w_aln l_270_17 rfl ?_
  refine w_gi 1 l_270_18 (oModel_sh hm) up_eq ?_
  refine w_zle 26 l_270_21 (by decide) (fun hx => absurd hx (by decide)) (fun _ => ?_)
  refine w_ic l_270_24 (by decide) ?_
  refine w_ir l_270_25 (Or.inl rfl) ?_
  exact ⟨_, _, rfl, rfl, rfl, up_eq, (mfk.u (Or.inl rfl))⟩

theorem mx_271 : mxl 271 = 2 := by decide +kernel
theorem mt_271 : mtc 271 = 10 := by decide +kernel
theorem rk_271 (as : List AV) : rkA 271 as = 1 := rfl
theorem l_271_0 : look 271 0 = some (.aload_n 0, 1, 0, 0, 0, 0) := by decide +kernel
theorem l_271_1 : look 271 1 = some (.iconst 0, 1, 0, 0, 0, 0) := by decide +kernel
theorem l_271_2 : look 271 2 = some (.putfield 152, 3, 10, 0, 0, 1501) := by decide +kernel
theorem l_271_5 : look 271 5 = some (.aload_n 0, 1, 0, 0, 0, 0) := by decide +kernel
theorem l_271_6 : look 271 6 = some (.invokevirtual 487, 3, 266, 1, 0, 2141) := by decide +kernel
theorem l_271_9 : look 271 9 = some (.aload_n 0, 1, 0, 0, 0, 0) := by decide +kernel
theorem l_271_10 : look 271 10 = some (.invokevirtual 490, 3, 269, 1, 0, 2149) := by decide +kernel
theorem l_271_13 : look 271 13 = some (.iadd, 1, 0, 0, 0, 0) := by decide +kernel
theorem l_271_14 : look 271 14 = some (.istore_n 1, 1, 0, 0, 0, 0) := by decide +kernel
theorem l_271_15 : look 271 15 = some (.aload_n 0, 1, 0, 0, 0, 0) := by decide +kernel
theorem l_271_16 : look 271 16 = some (.invokevirtual 336, 3, 201, 1, 0, 1870) := by decide +kernel
theorem l_271_19 : look 271 19 = some (.iload_n 1, 1, 0, 0, 0, 0) := by decide +kernel
theorem l_271_20 : look 271 20 = some (.ireturn, 1, 0, 0, 0, 0) := by decide +kernel

theorem s_271 (hm : oModel S T s) {ne np : Nat} {a : Nat → Nat} {cd : Nat → Cd} (B : MP I s h l a ne np cd) {su : Su} (hS : nSu I s su) : CL xs 271 [vr s] (S, I, T, cc, zz) (RP S T cc zz (fun w9 I' => w9 = some (vi ((setN su + outN su : Nat) : Int)) ∧ I' s 0 = 0 ∧ nSu I' s su0 ∧ mfo I I' s)) := by
  refine CL_start (r := 1) (ls := [vr s, vs 2]) (rk_271 _) rfl ?_
  have hb1 := sumN_le (f := fun p => oN (su.1 p)) (fun k => oN_le _) 4
  have hb2 := sumN_le (f := fun r => b2n (su.2.2.1 r)) (fun k => b2n_le _) 8
  have hb3 : outN su ≤ 120 := sumN_le (f := fun e => b2n (su.2.2.2 e)) (fun k => b2n_le _) 120
  have hb4 : setN su ≤ 15 := by
    have := oN_le su.2.1.1
    have := oN_le su.2.1.2.1
    have := oN_le su.2.1.2.2
    unfold setN
    omega
  refine w_aln l_271_0 rfl ?_
  refine w_ic l_271_1 (by decide) ?_
  refine w_pi l_271_2 (oModel_sh hm) ?_
  refine w_aln l_271_5 rfl ?_
  refine q_iv [] [] l_271_6 rfl rfl (Nat.le_of_ble_eq_true rfl) (by rw [mx_266]; exact Nat.le_of_ble_eq_true rfl) (by rw [mt_266]; exact oModel_sh hm) (by rw [mt_266]; decide) (by rw [rk_266]; decide) (s_266 hm (hS.k (mfk.u (Or.inl rfl)))) ?_
  refine w_aln l_271_9 rfl ?_
  refine q_iv [] [vi (((setN su) : Nat) : Int)] l_271_10 rfl rfl (Nat.le_of_ble_eq_true rfl) (by rw [mx_269]; exact Nat.le_of_ble_eq_true rfl) (by rw [mt_269]; exact oModel_sh hm) (by rw [mt_269]; decide) (by rw [rk_269]; decide) (s_269 hm (hS.k (mfk.u (Or.inl rfl)))) ?_
  refine w_add (((setN su) + (outN su) : Nat) : Int) l_271_13 (by unfold wr; omega) ?_
  refine w_isn l_271_14 ⟨Nat.le_of_ble_eq_true rfl, rfl⟩ ?_
  refine w_aln l_271_15 rfl ?_
  refine p_iv [] [] l_271_16 rfl rfl (Nat.le_of_ble_eq_true rfl) (by rw [mx_201]; exact Nat.le_of_ble_eq_true rfl) (by rw [mt_201]; exact oModel_sh hm) (by rw [mt_201]; decide) (by rw [rk_201]; decide) (r_ends hm) (fun v I1 hv => ?_)
  obtain ⟨rfl, k1, f1⟩ := hv
  refine w_iln l_271_19 rfl ?_
  refine w_ir l_271_20 (Or.inl rfl) ?_
  exact ⟨_, _, rfl, rfl, rfl, by rw [f1 s 0 (fun _ => by omega) (by omega), up_eq], k1, (mfk.u (Or.inl rfl)).o.tr f1.o⟩

theorem mx_267 : mxl 267 = 2 := by decide +kernel
theorem mt_267 : mtc 267 = 10 := by decide +kernel
theorem rk_267 (as : List AV) : rkA 267 as = 1 := rfl
theorem l_267_0 : look 267 0 = some (.iload_n 0, 1, 0, 0, 0, 0) := by decide +kernel
theorem l_267_1 : look 267 1 = some (.tableswitch 57 0 3 #[31, 39, 31, 48], 31, 0, 0, 0, 0) := by decide +kernel
theorem l_267_32 : look 267 32 = some (.iload_n 1, 1, 0, 0, 0, 0) := by decide +kernel
theorem l_267_33 : look 267 33 = some (.iconst 1, 1, 0, 0, 0, 0) := by decide +kernel
theorem l_267_34 : look 267 34 = some (.bipush 99, 2, 0, 0, 0, 0) := by decide +kernel
theorem l_267_36 : look 267 36 = some (.invokestatic 175, 3, 169, 3, 1, 1775) := by decide +kernel
theorem l_267_39 : look 267 39 = some (.ireturn, 1, 0, 0, 1, 0) := by decide +kernel
theorem l_267_40 : look 267 40 = some (.iload_n 1, 1, 0, 0, 0, 0) := by decide +kernel
theorem l_267_41 : look 267 41 = some (.iconst 1, 1, 0, 0, 0, 0) := by decide +kernel
theorem l_267_42 : look 267 42 = some (.sipush 400, 3, 0, 0, 0, 0) := by decide +kernel
theorem l_267_45 : look 267 45 = some (.invokestatic 175, 3, 169, 3, 1, 1775) := by decide +kernel
theorem l_267_48 : look 267 48 = some (.ireturn, 1, 0, 0, 1, 0) := by decide +kernel
theorem l_267_49 : look 267 49 = some (.iload_n 1, 1, 0, 0, 0, 0) := by decide +kernel
theorem l_267_50 : look 267 50 = some (.iconst 0, 1, 0, 0, 0, 0) := by decide +kernel
theorem l_267_51 : look 267 51 = some (.sipush 999, 3, 0, 0, 0, 0) := by decide +kernel
theorem l_267_54 : look 267 54 = some (.invokestatic 175, 3, 169, 3, 1, 1775) := by decide +kernel
theorem l_267_57 : look 267 57 = some (.ireturn, 1, 0, 0, 1, 0) := by decide +kernel
theorem l_267_58 : look 267 58 = some (.iconst 1, 1, 0, 0, 0, 0) := by decide +kernel
theorem l_267_59 : look 267 59 = some (.ireturn, 1, 0, 0, 1, 0) := by decide +kernel

theorem s_267_0 {I : Ix} {v : Int} : CL xs 267 [vi 0, vi v] (S, I, T, cc, zz) (FN (some (vi (b2i (decide (1 ≤ v ∧ v ≤ 99))))) (S, I, T, cc, zz)) := by
  refine CL_start (r := 1) (ls := [vi 0, vi v]) (rk_267 _) rfl ?_
  refine w_iln l_267_0 rfl ?_
  refine w_swi 32 l_267_1 (by decide) rfl (by decide) ?_
  refine w_iln l_267_32 rfl ?_
  refine w_ic l_267_33 (by decide) ?_
  refine w_bp l_267_34 (by decide) ?_
  refine q_st [vi v, vi 1, vi 99] [] l_267_36 (by decide) rfl rfl (Nat.le_of_ble_eq_true rfl) (by rw [mx_169]; exact Nat.le_of_ble_eq_true rfl) (by rw [rk_169]; decide) (s_169) ?_
  refine w_ir l_267_39 (Or.inr (Or.inl ⟨rfl, (b2i_r _).1, (b2i_r _).2⟩)) ?_
  exact ⟨rfl, rfl⟩

theorem s_267_1 {I : Ix} {v : Int} : CL xs 267 [vi 1, vi v] (S, I, T, cc, zz) (FN (some (vi (b2i (decide (1 ≤ v ∧ v ≤ 400))))) (S, I, T, cc, zz)) := by
  refine CL_start (r := 1) (ls := [vi 1, vi v]) (rk_267 _) rfl ?_
  refine w_iln l_267_0 rfl ?_
  refine w_swi 40 l_267_1 (by decide) rfl (by decide) ?_
  refine w_iln l_267_40 rfl ?_
  refine w_ic l_267_41 (by decide) ?_
  refine w_sp l_267_42 (by decide) ?_
  refine q_st [vi v, vi 1, vi 400] [] l_267_45 (by decide) rfl rfl (Nat.le_of_ble_eq_true rfl) (by rw [mx_169]; exact Nat.le_of_ble_eq_true rfl) (by rw [rk_169]; decide) (s_169) ?_
  refine w_ir l_267_48 (Or.inr (Or.inl ⟨rfl, (b2i_r _).1, (b2i_r _).2⟩)) ?_
  exact ⟨rfl, rfl⟩

theorem s_267_2 {I : Ix} {v : Int} : CL xs 267 [vi 2, vi v] (S, I, T, cc, zz) (FN (some (vi (b2i (decide (1 ≤ v ∧ v ≤ 99))))) (S, I, T, cc, zz)) := by
  refine CL_start (r := 1) (ls := [vi 2, vi v]) (rk_267 _) rfl ?_
  refine w_iln l_267_0 rfl ?_
  refine w_swi 32 l_267_1 (by decide) rfl (by decide) ?_
  refine w_iln l_267_32 rfl ?_
  refine w_ic l_267_33 (by decide) ?_
  refine w_bp l_267_34 (by decide) ?_
  refine q_st [vi v, vi 1, vi 99] [] l_267_36 (by decide) rfl rfl (Nat.le_of_ble_eq_true rfl) (by rw [mx_169]; exact Nat.le_of_ble_eq_true rfl) (by rw [rk_169]; decide) (s_169) ?_
  refine w_ir l_267_39 (Or.inr (Or.inl ⟨rfl, (b2i_r _).1, (b2i_r _).2⟩)) ?_
  exact ⟨rfl, rfl⟩

theorem s_267_3 {I : Ix} {v : Int} : CL xs 267 [vi 3, vi v] (S, I, T, cc, zz) (FN (some (vi (b2i (decide (0 ≤ v ∧ v ≤ 999))))) (S, I, T, cc, zz)) := by
  refine CL_start (r := 1) (ls := [vi 3, vi v]) (rk_267 _) rfl ?_
  refine w_iln l_267_0 rfl ?_
  refine w_swi 49 l_267_1 (by decide) rfl (by decide) ?_
  refine w_iln l_267_49 rfl ?_
  refine w_ic l_267_50 (by decide) ?_
  refine w_sp l_267_51 (by decide) ?_
  refine q_st [vi v, vi 0, vi 999] [] l_267_54 (by decide) rfl rfl (Nat.le_of_ble_eq_true rfl) (by rw [mx_169]; exact Nat.le_of_ble_eq_true rfl) (by rw [rk_169]; decide) (s_169) ?_
  refine w_ir l_267_57 (Or.inr (Or.inl ⟨rfl, (b2i_r _).1, (b2i_r _).2⟩)) ?_
  exact ⟨rfl, rfl⟩

theorem s_267_4 {I : Ix} {v : Int} : CL xs 267 [vi 4, vi v] (S, I, T, cc, zz) (FN (some (vi 1)) (S, I, T, cc, zz)) := by
  refine CL_start (r := 1) (ls := [vi 4, vi v]) (rk_267 _) rfl ?_
  refine w_iln l_267_0 rfl ?_
  refine w_swd 58 l_267_1 (by decide) (by decide) ?_
  refine w_ic l_267_58 (by decide) ?_
  refine w_ir l_267_59 (by decide) ?_
  exact ⟨rfl, rfl⟩

theorem mx_268 : mxl 268 = 5 := by decide +kernel
theorem mt_268 : mtc 268 = 10 := by decide +kernel
theorem rk_268 (as : List AV) : rkA 268 as = 2 := rfl
theorem l_268_0 : look 268 0 = some (.iload_n 1, 1, 0, 0, 0, 0) := by decide +kernel
theorem l_268_1 : look 268 1 = some (.ifCond .ne 11, 3, 0, 0, 0, 0) := by decide +kernel
theorem l_268_4 : look 268 4 = some (.aload_n 0, 1, 0, 0, 0, 0) := by decide +kernel
theorem l_268_5 : look 268 5 = some (.iload_n 2, 1, 0, 0, 0, 0) := by decide +kernel
theorem l_268_6 : look 268 6 = some (.invokevirtual 449, 3, 228, 2, 0, 1889) := by decide +kernel
theorem l_268_9 : look 268 9 = some (.goto 21, 3, 0, 0, 0, 0) := by decide +kernel
theorem l_268_12 : look 268 12 = some (.iload_n 1, 1, 0, 0, 0, 0) := by decide +kernel
theorem l_268_13 : look 268 13 = some (.iconst 4, 1, 0, 0, 0, 0) := by decide +kernel
theorem l_268_14 : look 268 14 = some (.if_icmp .ne 11, 3, 0, 0, 0, 0) := by decide +kernel
theorem l_268_17 : look 268 17 = some (.aload_n 0, 1, 0, 0, 0, 0) := by decide +kernel
theorem l_268_18 : look 268 18 = some (.iload_n 2, 1, 0, 0, 0, 0) := by decide +kernel
theorem l_268_19 : look 268 19 = some (.invokevirtual 478, 3, 229, 2, 0, 2102) := by decide +kernel
theorem l_268_22 : look 268 22 = some (.ifCond .eq 7, 3, 0, 0, 0, 0) := by decide +kernel
theorem l_268_25 : look 268 25 = some (.iconst 1, 1, 0, 0, 0, 0) := by decide +kernel
theorem l_268_26 : look 268 26 = some (.goto 4, 3, 0, 0, 0, 0) := by decide +kernel
theorem l_268_29 : look 268 29 = some (.iconst 0, 1, 0, 0, 0, 0) := by decide +kernel
theorem l_268_30 : look 268 30 = some (.istore 4, 2, 0, 0, 0, 0) := by decide +kernel
theorem l_268_32 : look 268 32 = some (.aload_n 0, 1, 0, 0, 0, 0) := by decide +kernel
theorem l_268_33 : look 268 33 = some (.iload_n 1, 1, 0, 0, 0, 0) := by decide +kernel
theorem l_268_34 : look 268 34 = some (.iconst 0, 1, 0, 0, 0, 0) := by decide +kernel
theorem l_268_35 : look 268 35 = some (.iconst 4, 1, 0, 0, 0, 0) := by decide +kernel
theorem l_268_36 : look 268 36 = some (.invokestatic 175, 3, 169, 3, 1, 1775) := by decide +kernel
theorem l_268_39 : look 268 39 = some (.ifCond .ne 7, 3, 0, 0, 0, 0) := by decide +kernel
theorem l_268_42 : look 268 42 = some (.iconst 1, 1, 0, 0, 0, 0) := by decide +kernel
theorem l_268_43 : look 268 43 = some (.goto 25, 3, 0, 0, 0, 0) := by decide +kernel
theorem l_268_46 : look 268 46 = some (.iload 4, 2, 0, 0, 0, 0) := by decide +kernel
theorem l_268_48 : look 268 48 = some (.ifCond .ne 7, 3, 0, 0, 0, 0) := by decide +kernel
theorem l_268_51 : look 268 51 = some (.iconst 2, 1, 0, 0, 0, 0) := by decide +kernel
theorem l_268_52 : look 268 52 = some (.goto 16, 3, 0, 0, 0, 0) := by decide +kernel
theorem l_268_55 : look 268 55 = some (.iload_n 1, 1, 0, 0, 0, 0) := by decide +kernel
theorem l_268_56 : look 268 56 = some (.iload_n 3, 1, 0, 0, 0, 0) := by decide +kernel
theorem l_268_57 : look 268 57 = some (.invokestatic 484, 3, 267, 2, 1, 2138) := by decide +kernel
theorem l_268_60 : look 268 60 = some (.ifCond .ne 7, 3, 0, 0, 0, 0) := by decide +kernel
theorem l_268_63 : look 268 63 = some (.iconst 3, 1, 0, 0, 0, 0) := by decide +kernel
theorem l_268_64 : look 268 64 = some (.goto 4, 3, 0, 0, 0, 0) := by decide +kernel
theorem l_268_67 : look 268 67 = some (.iconst 0, 1, 0, 0, 0, 0) := by decide +kernel
theorem l_268_68 : look 268 68 = some (.putfield 152, 3, 10, 0, 0, 1501) := by decide +kernel
theorem l_268_71 : look 268 71 = some (.aload_n 0, 1, 0, 0, 0, 0) := by decide +kernel
theorem l_268_72 : look 268 72 = some (.getfield 152, 3, 10, 0, 0, 1501) := by decide +kernel
theorem l_268_75 : look 268 75 = some (.ifCond .le 5, 3, 0, 0, 0, 0) := by decide +kernel
theorem l_268_78 : look 268 78 = some (.iconst 0, 1, 0, 0, 0, 0) := by decide +kernel
theorem l_268_79 : look 268 79 = some (.ireturn, 1, 0, 0, 0, 0) := by decide +kernel
theorem l_268_80 : look 268 80 = some (.iload_n 1, 1, 0, 0, 0, 0) := by decide +kernel
theorem l_268_81 : look 268 81 = some (.tableswitch 65 0 3 #[31, 41, 49, 57], 31, 0, 0, 0, 0) := by decide +kernel
theorem l_268_112 : look 268 112 = some (.aload_n 0, 1, 0, 0, 0, 0) := by decide +kernel
theorem l_268_113 : look 268 113 = some (.getfield 92, 3, 10, 43, 2, 1544) := by decide +kernel
theorem l_268_116 : look 268 116 = some (.iload_n 2, 1, 0, 0, 0, 0) := by decide +kernel
theorem l_268_117 : look 268 117 = some (.iload_n 3, 1, 0, 0, 0, 0) := by decide +kernel
theorem l_268_118 : look 268 118 = some (.iastore, 1, 0, 0, 0, 0) := by decide +kernel
theorem l_268_119 : look 268 119 = some (.goto 39, 3, 0, 0, 0, 0) := by decide +kernel
theorem l_268_122 : look 268 122 = some (.aload_n 0, 1, 0, 0, 0, 0) := by decide +kernel
theorem l_268_123 : look 268 123 = some (.iload_n 3, 1, 0, 0, 0, 0) := by decide +kernel
theorem l_268_124 : look 268 124 = some (.putfield 95, 3, 10, 44, 0, 1545) := by decide +kernel
theorem l_268_127 : look 268 127 = some (.goto 31, 3, 0, 0, 0, 0) := by decide +kernel
theorem l_268_130 : look 268 130 = some (.aload_n 0, 1, 0, 0, 0, 0) := by decide +kernel
theorem l_268_131 : look 268 131 = some (.iload_n 3, 1, 0, 0, 0, 0) := by decide +kernel
theorem l_268_132 : look 268 132 = some (.putfield 98, 3, 10, 45, 0, 1546) := by decide +kernel
theorem l_268_135 : look 268 135 = some (.goto 23, 3, 0, 0, 0, 0) := by decide +kernel
theorem l_268_138 : look 268 138 = some (.aload_n 0, 1, 0, 0, 0, 0) := by decide +kernel
theorem l_268_139 : look 268 139 = some (.iload_n 3, 1, 0, 0, 0, 0) := by decide +kernel
theorem l_268_140 : look 268 140 = some (.putfield 101, 3, 10, 46, 0, 1547) := by decide +kernel
theorem l_268_143 : look 268 143 = some (.goto 15, 3, 0, 0, 0, 0) := by decide +kernel
theorem l_268_146 : look 268 146 = some (.aload_n 0, 1, 0, 0, 0, 0) := by decide +kernel
theorem l_268_147 : look 268 147 = some (.dup, 1, 0, 0, 0, 0) := by decide +kernel
theorem l_268_148 : look 268 148 = some (.getfield 339, 3, 10, 47, 0, 1548) := by decide +kernel
theorem l_268_151 : look 268 151 = some (.iconst 1, 1, 0, 0, 0, 0) := by decide +kernel
theorem l_268_152 : look 268 152 = some (.iload_n 2, 1, 0, 0, 0, 0) := by decide +kernel
theorem l_268_153 : look 268 153 = some (.ishl, 1, 0, 0, 0, 0) := by decide +kernel
theorem l_268_154 : look 268 154 = some (.ior, 1, 0, 0, 0, 0) := by decide +kernel
theorem l_268_155 : look 268 155 = some (.putfield 339, 3, 10, 47, 0, 1548) := by decide +kernel
theorem l_268_158 : look 268 158 = some (.aload_n 0, 1, 0, 0, 0, 0) := by decide +kernel
theorem l_268_159 : look 268 159 = some (.invokevirtual 487, 3, 266, 1, 0, 2141) := by decide +kernel
theorem l_268_162 : look 268 162 = some (.ireturn, 1, 0, 0, 0, 0) := by decide +kernel

theorem s_268_0 (hm : oModel S T s) {ne np : Nat} {a : Nat → Nat} {cd : Nat → Cd} (B : MP I s h l a ne np cd) {p v : Nat} (hp : p < lPorts l) (hv : 1 ≤ v ∧ v ≤ 99) {su : Su} (hS : nSu I s su) : CL xs 268 [vr s, vi 0, vi ((p : Nat) : Int), vi ((v : Nat) : Int)] (S, I, T, cc, zz) (RP S T cc zz (fun w9 I' => w9 = some (vi ((setN (suCap su p v) : Nat) : Int)) ∧ I' s 0 = 0 ∧ nSu I' s (suCap su p v) ∧ mfo I I' s)) := by
  refine CL_start (r := 2) (ls := [vr s, vi 0, vi ((p : Nat) : Int), vi ((v : Nat) : Int), vs 2]) (rk_268 _) rfl ?_
  have hl4 := B.2.2.2.2.1.1
  have hne := B.1.1
  have hnp := B.1.2.1
  have hok := (B.run noOut (Nat.le_refl ne)).1
  have hlen : (runA h l noOut ne).2.1.length ≤ 360 := by
    have h8 := hok.2.2
    unfold tot at h8
    omega
  refine w_iln l_268_0 rfl ?_
  refine w_zne 12 l_268_1 (by decide) (fun hx => absurd hx (by decide)) (fun _ => ?_)
  refine w_aln l_268_4 rfl ?_
  refine w_iln l_268_5 rfl ?_
  refine q_iv [vi ((p : Nat) : Int)] [] l_268_6 rfl rfl (Nat.le_of_ble_eq_true rfl) (by rw [mx_228]; exact Nat.le_of_ble_eq_true rfl) (by rw [mt_228]; exact oModel_sh hm) (by rw [mt_228]; decide) (by rw [rk_228]; decide) (s_228 hm B) ?_
  refine w_go 30 l_268_9 (by decide) ?_
  refine w_is l_268_30 ⟨Nat.le_of_ble_eq_true rfl, rfl⟩ ?_
  refine w_aln l_268_32 rfl ?_
  refine w_iln l_268_33 rfl ?_
  refine w_ic l_268_34 (by decide) ?_
  refine w_ic l_268_35 (by decide) ?_
  refine q_st [vi 0, vi 0, vi 4] [vr s] l_268_36 (by decide) rfl rfl (Nat.le_of_ble_eq_true rfl) (by rw [mx_169]; exact Nat.le_of_ble_eq_true rfl) (by rw [rk_169]; decide) (s_169) ?_
  refine w_bne 46 l_268_39 (by decide) (fun _ => ?_) (fun hx => absurd hx (by rw [decide_eq_true (by omega)]; decide))
  refine w_il l_268_46 rfl ?_
  refine w_bne 55 l_268_48 (by decide) (fun _ => ?_) (fun hx => absurd hx (by rw [decide_eq_true (by omega)]; decide))
  refine w_iln l_268_55 rfl ?_
  refine w_iln l_268_56 rfl ?_
  refine q_st [vi 0, vi ((v : Nat) : Int)] [vr s] l_268_57 (by decide) rfl rfl (Nat.le_of_ble_eq_true rfl) (by rw [mx_267]; exact Nat.le_of_ble_eq_true rfl) (by rw [rk_267]; decide) (s_267_0 (xs := xs) (S := S) (T := T) (cc := cc) (zz := zz)) ?_
  refine w_bne 67 l_268_60 (by decide) (fun _ => ?_) (fun hx => absurd hx (by rw [decide_eq_true (by omega)]; decide))
  refine w_ic l_268_67 (by decide) ?_
  refine w_pi l_268_68 (oModel_sh hm) ?_
  refine w_aln l_268_71 rfl ?_
  refine w_gi 0 l_268_72 (oModel_sh hm) up_eq ?_
  refine w_zle 80 l_268_75 (by decide) (fun _ => ?_) (fun hx => absurd hx (by decide))
  refine w_iln l_268_80 rfl ?_
  refine w_swi 112 l_268_81 (by decide) rfl (by decide) ?_
  refine w_aln l_268_112 rfl ?_
  refine w_gr l_268_113 (oModel_sh hm) (oModel_r43 hm) ?_
  refine w_iln l_268_116 rfl ?_
  refine w_iln l_268_117 rfl ?_
  refine w_iS p l_268_118 (oModel_s43 hm) rfl (by omega) ?_
  refine w_go 158 l_268_119 (by decide) ?_
  refine w_aln l_268_158 rfl ?_
  refine q_iv [] [] l_268_159 rfl rfl (Nat.le_of_ble_eq_true rfl) (by rw [mx_266]; exact Nat.le_of_ble_eq_true rfl) (by rw [mt_266]; exact oModel_sh hm) (by rw [mt_266]; decide) (by rw [rk_266]; decide) (s_266 hm (nSu_cap (hS.k (mfk.u (Or.inl rfl))))) ?_
  refine w_ir l_268_162 (Or.inl rfl) ?_
  exact ⟨_, _, rfl, rfl, rfl, by rw [up_no (by omega), up_eq], (nSu_cap (hS.k (mfk.u (Or.inl rfl)))), (mfk.u (Or.inl rfl)).o.tr (mfo.w (Or.inl rfl))⟩

theorem s_268_1 (hm : oModel S T s) {ne np : Nat} {a : Nat → Nat} {cd : Nat → Cd} (B : MP I s h l a ne np cd) {p : Int} {v : Nat} (hv : 1 ≤ v ∧ v ≤ 400) {su : Su} (hS : nSu I s su) : CL xs 268 [vr s, vi 1, vi p, vi ((v : Nat) : Int)] (S, I, T, cc, zz) (RP S T cc zz (fun w9 I' => w9 = some (vi ((setN (suBuf su v) : Nat) : Int)) ∧ I' s 0 = 0 ∧ nSu I' s (suBuf su v) ∧ mfo I I' s)) := by
  refine CL_start (r := 2) (ls := [vr s, vi 1, vi p, vi ((v : Nat) : Int), vs 2]) (rk_268 _) rfl ?_
  have hl4 := B.2.2.2.2.1.1
  have hne := B.1.1
  have hnp := B.1.2.1
  have hok := (B.run noOut (Nat.le_refl ne)).1
  have hlen : (runA h l noOut ne).2.1.length ≤ 360 := by
    have h8 := hok.2.2
    unfold tot at h8
    omega
  refine w_iln l_268_0 rfl ?_
  refine w_zne 12 l_268_1 (by decide) (fun _ => ?_) (fun hx => absurd hx (by decide))
  refine w_iln l_268_12 rfl ?_
  refine w_ic l_268_13 (by decide) ?_
  refine w_cne 25 l_268_14 (by decide) (fun _ => ?_) (fun hx => absurd hx (by decide))
  refine w_ic l_268_25 (by decide) ?_
  refine w_go 30 l_268_26 (by decide) ?_
  refine w_is l_268_30 ⟨Nat.le_of_ble_eq_true rfl, rfl⟩ ?_
  refine w_aln l_268_32 rfl ?_
  refine w_iln l_268_33 rfl ?_
  refine w_ic l_268_34 (by decide) ?_
  refine w_ic l_268_35 (by decide) ?_
  refine q_st [vi 1, vi 0, vi 4] [vr s] l_268_36 (by decide) rfl rfl (Nat.le_of_ble_eq_true rfl) (by rw [mx_169]; exact Nat.le_of_ble_eq_true rfl) (by rw [rk_169]; decide) (s_169) ?_
  refine w_bne 46 l_268_39 (by decide) (fun _ => ?_) (fun hx => absurd hx (by rw [decide_eq_true (by omega)]; decide))
  refine w_il l_268_46 rfl ?_
  refine w_zne 55 l_268_48 (by decide) (fun _ => ?_) (fun hx => absurd hx (by decide))
  refine w_iln l_268_55 rfl ?_
  refine w_iln l_268_56 rfl ?_
  refine q_st [vi 1, vi ((v : Nat) : Int)] [vr s] l_268_57 (by decide) rfl rfl (Nat.le_of_ble_eq_true rfl) (by rw [mx_267]; exact Nat.le_of_ble_eq_true rfl) (by rw [rk_267]; decide) (s_267_1 (xs := xs) (S := S) (T := T) (cc := cc) (zz := zz)) ?_
  refine w_bne 67 l_268_60 (by decide) (fun _ => ?_) (fun hx => absurd hx (by rw [decide_eq_true (by omega)]; decide))
  refine w_ic l_268_67 (by decide) ?_
  refine w_pi l_268_68 (oModel_sh hm) ?_
  refine w_aln l_268_71 rfl ?_
  refine w_gi 0 l_268_72 (oModel_sh hm) up_eq ?_
  refine w_zle 80 l_268_75 (by decide) (fun _ => ?_) (fun hx => absurd hx (by decide))
  refine w_iln l_268_80 rfl ?_
  refine w_swi 122 l_268_81 (by decide) rfl (by decide) ?_
  refine w_aln l_268_122 rfl ?_
  refine w_iln l_268_123 rfl ?_
  refine w_pi l_268_124 (oModel_sh hm) ?_
  refine w_go 158 l_268_127 (by decide) ?_
  refine w_aln l_268_158 rfl ?_
  refine q_iv [] [] l_268_159 rfl rfl (Nat.le_of_ble_eq_true rfl) (by rw [mx_266]; exact Nat.le_of_ble_eq_true rfl) (by rw [mt_266]; exact oModel_sh hm) (by rw [mt_266]; decide) (by rw [rk_266]; decide) (s_266 hm (nSu_buf (hS.k (mfk.u (Or.inl rfl))))) ?_
  refine w_ir l_268_162 (Or.inl rfl) ?_
  exact ⟨_, _, rfl, rfl, rfl, by rw [up_nj (by decide), up_eq], (nSu_buf (hS.k (mfk.u (Or.inl rfl)))), (mfk.u (Or.inl rfl)).o.tr (mfo.u (by decide))⟩

theorem s_268_2 (hm : oModel S T s) {ne np : Nat} {a : Nat → Nat} {cd : Nat → Cd} (B : MP I s h l a ne np cd) {p : Int} {v : Nat} (hv : 1 ≤ v ∧ v ≤ 99) {su : Su} (hS : nSu I s su) : CL xs 268 [vr s, vi 2, vi p, vi ((v : Nat) : Int)] (S, I, T, cc, zz) (RP S T cc zz (fun w9 I' => w9 = some (vi ((setN (suWait su v) : Nat) : Int)) ∧ I' s 0 = 0 ∧ nSu I' s (suWait su v) ∧ mfo I I' s)) := by
  refine CL_start (r := 2) (ls := [vr s, vi 2, vi p, vi ((v : Nat) : Int), vs 2]) (rk_268 _) rfl ?_
  have hl4 := B.2.2.2.2.1.1
  have hne := B.1.1
  have hnp := B.1.2.1
  have hok := (B.run noOut (Nat.le_refl ne)).1
  have hlen : (runA h l noOut ne).2.1.length ≤ 360 := by
    have h8 := hok.2.2
    unfold tot at h8
    omega
  refine w_iln l_268_0 rfl ?_
  refine w_zne 12 l_268_1 (by decide) (fun _ => ?_) (fun hx => absurd hx (by decide))
  refine w_iln l_268_12 rfl ?_
  refine w_ic l_268_13 (by decide) ?_
  refine w_cne 25 l_268_14 (by decide) (fun _ => ?_) (fun hx => absurd hx (by decide))
  refine w_ic l_268_25 (by decide) ?_
  refine w_go 30 l_268_26 (by decide) ?_
  refine w_is l_268_30 ⟨Nat.le_of_ble_eq_true rfl, rfl⟩ ?_
  refine w_aln l_268_32 rfl ?_
  refine w_iln l_268_33 rfl ?_
  refine w_ic l_268_34 (by decide) ?_
  refine w_ic l_268_35 (by decide) ?_
  refine q_st [vi 2, vi 0, vi 4] [vr s] l_268_36 (by decide) rfl rfl (Nat.le_of_ble_eq_true rfl) (by rw [mx_169]; exact Nat.le_of_ble_eq_true rfl) (by rw [rk_169]; decide) (s_169) ?_
  refine w_bne 46 l_268_39 (by decide) (fun _ => ?_) (fun hx => absurd hx (by rw [decide_eq_true (by omega)]; decide))
  refine w_il l_268_46 rfl ?_
  refine w_zne 55 l_268_48 (by decide) (fun _ => ?_) (fun hx => absurd hx (by decide))
  refine w_iln l_268_55 rfl ?_
  refine w_iln l_268_56 rfl ?_
  refine q_st [vi 2, vi ((v : Nat) : Int)] [vr s] l_268_57 (by decide) rfl rfl (Nat.le_of_ble_eq_true rfl) (by rw [mx_267]; exact Nat.le_of_ble_eq_true rfl) (by rw [rk_267]; decide) (s_267_2 (xs := xs) (S := S) (T := T) (cc := cc) (zz := zz)) ?_
  refine w_bne 67 l_268_60 (by decide) (fun _ => ?_) (fun hx => absurd hx (by rw [decide_eq_true (by omega)]; decide))
  refine w_ic l_268_67 (by decide) ?_
  refine w_pi l_268_68 (oModel_sh hm) ?_
  refine w_aln l_268_71 rfl ?_
  refine w_gi 0 l_268_72 (oModel_sh hm) up_eq ?_
  refine w_zle 80 l_268_75 (by decide) (fun _ => ?_) (fun hx => absurd hx (by decide))
  refine w_iln l_268_80 rfl ?_
  refine w_swi 130 l_268_81 (by decide) rfl (by decide) ?_
  refine w_aln l_268_130 rfl ?_
  refine w_iln l_268_131 rfl ?_
  refine w_pi l_268_132 (oModel_sh hm) ?_
  refine w_go 158 l_268_135 (by decide) ?_
  refine w_aln l_268_158 rfl ?_
  refine q_iv [] [] l_268_159 rfl rfl (Nat.le_of_ble_eq_true rfl) (by rw [mx_266]; exact Nat.le_of_ble_eq_true rfl) (by rw [mt_266]; exact oModel_sh hm) (by rw [mt_266]; decide) (by rw [rk_266]; decide) (s_266 hm (nSu_wait (hS.k (mfk.u (Or.inl rfl))))) ?_
  refine w_ir l_268_162 (Or.inl rfl) ?_
  exact ⟨_, _, rfl, rfl, rfl, by rw [up_nj (by decide), up_eq], (nSu_wait (hS.k (mfk.u (Or.inl rfl)))), (mfk.u (Or.inl rfl)).o.tr (mfo.u (by decide))⟩

theorem s_268_3 (hm : oModel S T s) {ne np : Nat} {a : Nat → Nat} {cd : Nat → Cd} (B : MP I s h l a ne np cd) {p : Int} {v : Nat} (hv : v ≤ 999) {su : Su} (hS : nSu I s su) : CL xs 268 [vr s, vi 3, vi p, vi ((v : Nat) : Int)] (S, I, T, cc, zz) (RP S T cc zz (fun w9 I' => w9 = some (vi ((setN (suAge su v) : Nat) : Int)) ∧ I' s 0 = 0 ∧ nSu I' s (suAge su v) ∧ mfo I I' s)) := by
  refine CL_start (r := 2) (ls := [vr s, vi 3, vi p, vi ((v : Nat) : Int), vs 2]) (rk_268 _) rfl ?_
  have hl4 := B.2.2.2.2.1.1
  have hne := B.1.1
  have hnp := B.1.2.1
  have hok := (B.run noOut (Nat.le_refl ne)).1
  have hlen : (runA h l noOut ne).2.1.length ≤ 360 := by
    have h8 := hok.2.2
    unfold tot at h8
    omega
  refine w_iln l_268_0 rfl ?_
  refine w_zne 12 l_268_1 (by decide) (fun _ => ?_) (fun hx => absurd hx (by decide))
  refine w_iln l_268_12 rfl ?_
  refine w_ic l_268_13 (by decide) ?_
  refine w_cne 25 l_268_14 (by decide) (fun _ => ?_) (fun hx => absurd hx (by decide))
  refine w_ic l_268_25 (by decide) ?_
  refine w_go 30 l_268_26 (by decide) ?_
  refine w_is l_268_30 ⟨Nat.le_of_ble_eq_true rfl, rfl⟩ ?_
  refine w_aln l_268_32 rfl ?_
  refine w_iln l_268_33 rfl ?_
  refine w_ic l_268_34 (by decide) ?_
  refine w_ic l_268_35 (by decide) ?_
  refine q_st [vi 3, vi 0, vi 4] [vr s] l_268_36 (by decide) rfl rfl (Nat.le_of_ble_eq_true rfl) (by rw [mx_169]; exact Nat.le_of_ble_eq_true rfl) (by rw [rk_169]; decide) (s_169) ?_
  refine w_bne 46 l_268_39 (by decide) (fun _ => ?_) (fun hx => absurd hx (by rw [decide_eq_true (by omega)]; decide))
  refine w_il l_268_46 rfl ?_
  refine w_zne 55 l_268_48 (by decide) (fun _ => ?_) (fun hx => absurd hx (by decide))
  refine w_iln l_268_55 rfl ?_
  refine w_iln l_268_56 rfl ?_
  refine q_st [vi 3, vi ((v : Nat) : Int)] [vr s] l_268_57 (by decide) rfl rfl (Nat.le_of_ble_eq_true rfl) (by rw [mx_267]; exact Nat.le_of_ble_eq_true rfl) (by rw [rk_267]; decide) (s_267_3 (xs := xs) (S := S) (T := T) (cc := cc) (zz := zz)) ?_
  refine w_bne 67 l_268_60 (by decide) (fun _ => ?_) (fun hx => absurd hx (by rw [decide_eq_true (by omega)]; decide))
  refine w_ic l_268_67 (by decide) ?_
  refine w_pi l_268_68 (oModel_sh hm) ?_
  refine w_aln l_268_71 rfl ?_
  refine w_gi 0 l_268_72 (oModel_sh hm) up_eq ?_
  refine w_zle 80 l_268_75 (by decide) (fun _ => ?_) (fun hx => absurd hx (by decide))
  refine w_iln l_268_80 rfl ?_
  refine w_swi 138 l_268_81 (by decide) rfl (by decide) ?_
  refine w_aln l_268_138 rfl ?_
  refine w_iln l_268_139 rfl ?_
  refine w_pi l_268_140 (oModel_sh hm) ?_
  refine w_go 158 l_268_143 (by decide) ?_
  refine w_aln l_268_158 rfl ?_
  refine q_iv [] [] l_268_159 rfl rfl (Nat.le_of_ble_eq_true rfl) (by rw [mx_266]; exact Nat.le_of_ble_eq_true rfl) (by rw [mt_266]; exact oModel_sh hm) (by rw [mt_266]; decide) (by rw [rk_266]; decide) (s_266 hm (nSu_age (hS.k (mfk.u (Or.inl rfl))))) ?_
  refine w_ir l_268_162 (Or.inl rfl) ?_
  exact ⟨_, _, rfl, rfl, rfl, by rw [up_nj (by decide), up_eq], (nSu_age (hS.k (mfk.u (Or.inl rfl)))), (mfk.u (Or.inl rfl)).o.tr (mfo.u (by decide))⟩

theorem s_268_4 (hm : oModel S T s) {ne np : Nat} {a : Nat → Nat} {cd : Nat → Cd} (B : MP I s h l a ne np cd) {p : Nat} {v : Int} (hp : p < lRules l) {su : Su} (hS : nSu I s su) : CL xs 268 [vr s, vi 4, vi ((p : Nat) : Int), vi v] (S, I, T, cc, zz) (RP S T cc zz (fun w9 I' => w9 = some (vi ((setN (suRule su p) : Nat) : Int)) ∧ I' s 0 = 0 ∧ nSu I' s (suRule su p) ∧ mfo I I' s)) := by
  refine CL_start (r := 2) (ls := [vr s, vi 4, vi ((p : Nat) : Int), vi v, vs 2]) (rk_268 _) rfl ?_
  have hl4 := B.2.2.2.2.1.1
  have hne := B.1.1
  have hnp := B.1.2.1
  have hok := (B.run noOut (Nat.le_refl ne)).1
  have hlen : (runA h l noOut ne).2.1.length ≤ 360 := by
    have h8 := hok.2.2
    unfold tot at h8
    omega
  have hp8 : p < 8 := by have := B.2.2.2.2.1.2.1; omega
  obtain ⟨d, d1, d2, _⟩ := hS.2.2.2.2.1
  refine w_iln l_268_0 rfl ?_
  refine w_zne 12 l_268_1 (by decide) (fun _ => ?_) (fun hx => absurd hx (by decide))
  refine w_iln l_268_12 rfl ?_
  refine w_ic l_268_13 (by decide) ?_
  refine w_cne 25 l_268_14 (by decide) (fun hx => absurd hx (by decide)) (fun _ => ?_)
  refine w_aln l_268_17 rfl ?_
  refine w_iln l_268_18 rfl ?_
  refine q_iv [vi ((p : Nat) : Int)] [] l_268_19 rfl rfl (Nat.le_of_ble_eq_true rfl) (by rw [mx_229]; exact Nat.le_of_ble_eq_true rfl) (by rw [mt_229]; exact oModel_sh hm) (by rw [mt_229]; decide) (by rw [rk_229]; decide) (s_229 hm B) ?_
  refine w_beq 29 l_268_22 (by decide) (fun hx => absurd hx (by rw [decide_eq_true (by omega)]; decide)) (fun _ => ?_)
  refine w_ic l_268_25 (by decide) ?_
  refine w_go 30 l_268_26 (by decide) ?_
  refine w_is l_268_30 ⟨Nat.le_of_ble_eq_true rfl, rfl⟩ ?_
  refine w_aln l_268_32 rfl ?_
  refine w_iln l_268_33 rfl ?_
  refine w_ic l_268_34 (by decide) ?_
  refine w_ic l_268_35 (by decide) ?_
  refine q_st [vi 4, vi 0, vi 4] [vr s] l_268_36 (by decide) rfl rfl (Nat.le_of_ble_eq_true rfl) (by rw [mx_169]; exact Nat.le_of_ble_eq_true rfl) (by rw [rk_169]; decide) (s_169) ?_
  refine w_bne 46 l_268_39 (by decide) (fun _ => ?_) (fun hx => absurd hx (by rw [decide_eq_true (by omega)]; decide))
  refine w_il l_268_46 rfl ?_
  refine w_zne 55 l_268_48 (by decide) (fun _ => ?_) (fun hx => absurd hx (by decide))
  refine w_iln l_268_55 rfl ?_
  refine w_iln l_268_56 rfl ?_
  refine q_st [vi 4, vi v] [vr s] l_268_57 (by decide) rfl rfl (Nat.le_of_ble_eq_true rfl) (by rw [mx_267]; exact Nat.le_of_ble_eq_true rfl) (by rw [rk_267]; decide) (s_267_4 (xs := xs) (S := S) (T := T) (cc := cc) (zz := zz)) ?_
  refine w_zne 67 l_268_60 (by decide) (fun _ => ?_) (fun hx => absurd hx (by decide))
  refine w_ic l_268_67 (by decide) ?_
  refine w_pi l_268_68 (oModel_sh hm) ?_
  refine w_aln l_268_71 rfl ?_
  refine w_gi 0 l_268_72 (oModel_sh hm) up_eq ?_
  refine w_zle 80 l_268_75 (by decide) (fun _ => ?_) (fun hx => absurd hx (by decide))
  refine w_iln l_268_80 rfl ?_
  refine w_swd 146 l_268_81 (by decide) (by decide) ?_
  refine w_aln l_268_146 rfl ?_
  refine w_dup l_268_147 rfl ?_
  refine w_gi ((d : Nat) : Int) l_268_148 (oModel_sh hm) ((up_nj (by omega)).trans (d1)) ?_
  refine w_ic l_268_151 (by decide) ?_
  refine w_iln l_268_152 rfl ?_
  refine w_shl (((2 ^ p) : Nat) : Int) l_268_153 (shl1 p (by omega)) ?_
  refine w_or (((orb d p) : Nat) : Int) l_268_154 (orb8 d d2 p hp8).1 ?_
  refine w_pi l_268_155 (oModel_sh hm) ?_
  refine w_aln l_268_158 rfl ?_
  refine q_iv [] [] l_268_159 rfl rfl (Nat.le_of_ble_eq_true rfl) (by rw [mx_266]; exact Nat.le_of_ble_eq_true rfl) (by rw [mt_266]; exact oModel_sh hm) (by rw [mt_266]; decide) (by rw [rk_266]; decide) (s_266 hm (nSu_rule (hS.k (mfk.u (Or.inl rfl))) (by rw [up_nj (by decide)]; exact d1) d2 hp8)) ?_
  refine w_ir l_268_162 (Or.inl rfl) ?_
  exact ⟨_, _, rfl, rfl, rfl, by rw [up_nj (by decide), up_eq], (nSu_rule (hS.k (mfk.u (Or.inl rfl))) (by rw [up_nj (by decide)]; exact d1) d2 hp8), (mfk.u (Or.inl rfl)).o.tr (mfo.u (by decide))⟩

theorem s_268_0i (hm : oModel S T s) {ne np : Nat} {a : Nat → Nat} {cd : Nat → Cd} (B : MP I s h l a ne np cd) {p v : Int} (hp : ¬ (0 ≤ p ∧ p ≤ ((lPorts l : Nat) : Int) - 1)): CL xs 268 [vr s, vi 0, vi p, vi v] (S, I, T, cc, zz) (RP S T cc zz (fun v I' => v = some (vi 0) ∧ I' s 0 = 2 ∧ mfk I I' s)) := by
  refine CL_start (r := 2) (ls := [vr s, vi 0, vi p, vi v, vs 2]) (rk_268 _) rfl ?_
  have hl4 := B.2.2.2.2.1.1
  have hne := B.1.1
  have hnp := B.1.2.1
  have hok := (B.run noOut (Nat.le_refl ne)).1
  have hlen : (runA h l noOut ne).2.1.length ≤ 360 := by
    have h8 := hok.2.2
    unfold tot at h8
    omega
  refine w_iln l_268_0 rfl ?_
  refine w_zne 12 l_268_1 (by decide) (fun hx => absurd hx (by decide)) (fun _ => ?_)
  refine w_aln l_268_4 rfl ?_
  refine w_iln l_268_5 rfl ?_
  refine q_iv [vi p] [] l_268_6 rfl rfl (Nat.le_of_ble_eq_true rfl) (by rw [mx_228]; exact Nat.le_of_ble_eq_true rfl) (by rw [mt_228]; exact oModel_sh hm) (by rw [mt_228]; decide) (by rw [rk_228]; decide) (s_228 hm B) ?_
  refine w_go 30 l_268_9 (by decide) ?_
  refine w_is l_268_30 ⟨Nat.le_of_ble_eq_true rfl, rfl⟩ ?_
  refine w_aln l_268_32 rfl ?_
  refine w_iln l_268_33 rfl ?_
  refine w_ic l_268_34 (by decide) ?_
  refine w_ic l_268_35 (by decide) ?_
  refine q_st [vi 0, vi 0, vi 4] [vr s] l_268_36 (by decide) rfl rfl (Nat.le_of_ble_eq_true rfl) (by rw [mx_169]; exact Nat.le_of_ble_eq_true rfl) (by rw [rk_169]; decide) (s_169) ?_
  refine w_bne 46 l_268_39 (by decide) (fun _ => ?_) (fun hx => absurd hx (by rw [decide_eq_true (by omega)]; decide))
  refine w_il l_268_46 rfl ?_
  refine w_bne 55 l_268_48 (by decide) (fun hx => absurd hx (by rw [decide_eq_false hp]; decide)) (fun _ => ?_)
  refine w_ic l_268_51 (by decide) ?_
  refine w_go 68 l_268_52 (by decide) ?_
  refine w_pi l_268_68 (oModel_sh hm) ?_
  refine w_aln l_268_71 rfl ?_
  refine w_gi 2 l_268_72 (oModel_sh hm) up_eq ?_
  refine w_zle 80 l_268_75 (by decide) (fun hx => absurd hx (by decide)) (fun _ => ?_)
  refine w_ic l_268_78 (by decide) ?_
  refine w_ir l_268_79 (Or.inl rfl) ?_
  exact ⟨_, _, rfl, rfl, rfl, up_eq, (mfk.u (Or.inl rfl))⟩

theorem s_268_0v (hm : oModel S T s) {ne np : Nat} {a : Nat → Nat} {cd : Nat → Cd} (B : MP I s h l a ne np cd) {p v : Int} (hp : 0 ≤ p ∧ p ≤ ((lPorts l : Nat) : Int) - 1) (hv : ¬ (1 ≤ v ∧ v ≤ 99)): CL xs 268 [vr s, vi 0, vi p, vi v] (S, I, T, cc, zz) (RP S T cc zz (fun v I' => v = some (vi 0) ∧ I' s 0 = 3 ∧ mfk I I' s)) := by
  refine CL_start (r := 2) (ls := [vr s, vi 0, vi p, vi v, vs 2]) (rk_268 _) rfl ?_
  have hl4 := B.2.2.2.2.1.1
  have hne := B.1.1
  have hnp := B.1.2.1
  have hok := (B.run noOut (Nat.le_refl ne)).1
  have hlen : (runA h l noOut ne).2.1.length ≤ 360 := by
    have h8 := hok.2.2
    unfold tot at h8
    omega
  refine w_iln l_268_0 rfl ?_
  refine w_zne 12 l_268_1 (by decide) (fun hx => absurd hx (by decide)) (fun _ => ?_)
  refine w_aln l_268_4 rfl ?_
  refine w_iln l_268_5 rfl ?_
  refine q_iv [vi p] [] l_268_6 rfl rfl (Nat.le_of_ble_eq_true rfl) (by rw [mx_228]; exact Nat.le_of_ble_eq_true rfl) (by rw [mt_228]; exact oModel_sh hm) (by rw [mt_228]; decide) (by rw [rk_228]; decide) (s_228 hm B) ?_
  refine w_go 30 l_268_9 (by decide) ?_
  refine w_is l_268_30 ⟨Nat.le_of_ble_eq_true rfl, rfl⟩ ?_
  refine w_aln l_268_32 rfl ?_
  refine w_iln l_268_33 rfl ?_
  refine w_ic l_268_34 (by decide) ?_
  refine w_ic l_268_35 (by decide) ?_
  refine q_st [vi 0, vi 0, vi 4] [vr s] l_268_36 (by decide) rfl rfl (Nat.le_of_ble_eq_true rfl) (by rw [mx_169]; exact Nat.le_of_ble_eq_true rfl) (by rw [rk_169]; decide) (s_169) ?_
  refine w_bne 46 l_268_39 (by decide) (fun _ => ?_) (fun hx => absurd hx (by rw [decide_eq_true (by omega)]; decide))
  refine w_il l_268_46 rfl ?_
  refine w_bne 55 l_268_48 (by decide) (fun _ => ?_) (fun hx => absurd hx (by rw [decide_eq_true hp]; decide))
  refine w_iln l_268_55 rfl ?_
  refine w_iln l_268_56 rfl ?_
  refine q_st [vi 0, vi v] [vr s] l_268_57 (by decide) rfl rfl (Nat.le_of_ble_eq_true rfl) (by rw [mx_267]; exact Nat.le_of_ble_eq_true rfl) (by rw [rk_267]; decide) (s_267_0 (xs := xs) (S := S) (T := T) (cc := cc) (zz := zz)) ?_
  refine w_bne 67 l_268_60 (by decide) (fun hx => absurd hx (by rw [decide_eq_false hv]; decide)) (fun _ => ?_)
  refine w_ic l_268_63 (by decide) ?_
  refine w_go 68 l_268_64 (by decide) ?_
  refine w_pi l_268_68 (oModel_sh hm) ?_
  refine w_aln l_268_71 rfl ?_
  refine w_gi 3 l_268_72 (oModel_sh hm) up_eq ?_
  refine w_zle 80 l_268_75 (by decide) (fun hx => absurd hx (by decide)) (fun _ => ?_)
  refine w_ic l_268_78 (by decide) ?_
  refine w_ir l_268_79 (Or.inl rfl) ?_
  exact ⟨_, _, rfl, rfl, rfl, up_eq, (mfk.u (Or.inl rfl))⟩

theorem s_268_1v (hm : oModel S T s) {ne np : Nat} {a : Nat → Nat} {cd : Nat → Cd} (B : MP I s h l a ne np cd) {p v : Int} (hv : ¬ (1 ≤ v ∧ v ≤ 400)): CL xs 268 [vr s, vi 1, vi p, vi v] (S, I, T, cc, zz) (RP S T cc zz (fun v I' => v = some (vi 0) ∧ I' s 0 = 3 ∧ mfk I I' s)) := by
  refine CL_start (r := 2) (ls := [vr s, vi 1, vi p, vi v, vs 2]) (rk_268 _) rfl ?_
  have hl4 := B.2.2.2.2.1.1
  have hne := B.1.1
  have hnp := B.1.2.1
  have hok := (B.run noOut (Nat.le_refl ne)).1
  have hlen : (runA h l noOut ne).2.1.length ≤ 360 := by
    have h8 := hok.2.2
    unfold tot at h8
    omega
  refine w_iln l_268_0 rfl ?_
  refine w_zne 12 l_268_1 (by decide) (fun _ => ?_) (fun hx => absurd hx (by decide))
  refine w_iln l_268_12 rfl ?_
  refine w_ic l_268_13 (by decide) ?_
  refine w_cne 25 l_268_14 (by decide) (fun _ => ?_) (fun hx => absurd hx (by decide))
  refine w_ic l_268_25 (by decide) ?_
  refine w_go 30 l_268_26 (by decide) ?_
  refine w_is l_268_30 ⟨Nat.le_of_ble_eq_true rfl, rfl⟩ ?_
  refine w_aln l_268_32 rfl ?_
  refine w_iln l_268_33 rfl ?_
  refine w_ic l_268_34 (by decide) ?_
  refine w_ic l_268_35 (by decide) ?_
  refine q_st [vi 1, vi 0, vi 4] [vr s] l_268_36 (by decide) rfl rfl (Nat.le_of_ble_eq_true rfl) (by rw [mx_169]; exact Nat.le_of_ble_eq_true rfl) (by rw [rk_169]; decide) (s_169) ?_
  refine w_bne 46 l_268_39 (by decide) (fun _ => ?_) (fun hx => absurd hx (by rw [decide_eq_true (by omega)]; decide))
  refine w_il l_268_46 rfl ?_
  refine w_zne 55 l_268_48 (by decide) (fun _ => ?_) (fun hx => absurd hx (by decide))
  refine w_iln l_268_55 rfl ?_
  refine w_iln l_268_56 rfl ?_
  refine q_st [vi 1, vi v] [vr s] l_268_57 (by decide) rfl rfl (Nat.le_of_ble_eq_true rfl) (by rw [mx_267]; exact Nat.le_of_ble_eq_true rfl) (by rw [rk_267]; decide) (s_267_1 (xs := xs) (S := S) (T := T) (cc := cc) (zz := zz)) ?_
  refine w_bne 67 l_268_60 (by decide) (fun hx => absurd hx (by rw [decide_eq_false hv]; decide)) (fun _ => ?_)
  refine w_ic l_268_63 (by decide) ?_
  refine w_go 68 l_268_64 (by decide) ?_
  refine w_pi l_268_68 (oModel_sh hm) ?_
  refine w_aln l_268_71 rfl ?_
  refine w_gi 3 l_268_72 (oModel_sh hm) up_eq ?_
  refine w_zle 80 l_268_75 (by decide) (fun hx => absurd hx (by decide)) (fun _ => ?_)
  refine w_ic l_268_78 (by decide) ?_
  refine w_ir l_268_79 (Or.inl rfl) ?_
  exact ⟨_, _, rfl, rfl, rfl, up_eq, (mfk.u (Or.inl rfl))⟩

theorem s_268_2v (hm : oModel S T s) {ne np : Nat} {a : Nat → Nat} {cd : Nat → Cd} (B : MP I s h l a ne np cd) {p v : Int} (hv : ¬ (1 ≤ v ∧ v ≤ 99)): CL xs 268 [vr s, vi 2, vi p, vi v] (S, I, T, cc, zz) (RP S T cc zz (fun v I' => v = some (vi 0) ∧ I' s 0 = 3 ∧ mfk I I' s)) := by
  refine CL_start (r := 2) (ls := [vr s, vi 2, vi p, vi v, vs 2]) (rk_268 _) rfl ?_
  have hl4 := B.2.2.2.2.1.1
  have hne := B.1.1
  have hnp := B.1.2.1
  have hok := (B.run noOut (Nat.le_refl ne)).1
  have hlen : (runA h l noOut ne).2.1.length ≤ 360 := by
    have h8 := hok.2.2
    unfold tot at h8
    omega
  refine w_iln l_268_0 rfl ?_
  refine w_zne 12 l_268_1 (by decide) (fun _ => ?_) (fun hx => absurd hx (by decide))
  refine w_iln l_268_12 rfl ?_
  refine w_ic l_268_13 (by decide) ?_
  refine w_cne 25 l_268_14 (by decide) (fun _ => ?_) (fun hx => absurd hx (by decide))
  refine w_ic l_268_25 (by decide) ?_
  refine w_go 30 l_268_26 (by decide) ?_
  refine w_is l_268_30 ⟨Nat.le_of_ble_eq_true rfl, rfl⟩ ?_
  refine w_aln l_268_32 rfl ?_
  refine w_iln l_268_33 rfl ?_
  refine w_ic l_268_34 (by decide) ?_
  refine w_ic l_268_35 (by decide) ?_
  refine q_st [vi 2, vi 0, vi 4] [vr s] l_268_36 (by decide) rfl rfl (Nat.le_of_ble_eq_true rfl) (by rw [mx_169]; exact Nat.le_of_ble_eq_true rfl) (by rw [rk_169]; decide) (s_169) ?_
  refine w_bne 46 l_268_39 (by decide) (fun _ => ?_) (fun hx => absurd hx (by rw [decide_eq_true (by omega)]; decide))
  refine w_il l_268_46 rfl ?_
  refine w_zne 55 l_268_48 (by decide) (fun _ => ?_) (fun hx => absurd hx (by decide))
  refine w_iln l_268_55 rfl ?_
  refine w_iln l_268_56 rfl ?_
  refine q_st [vi 2, vi v] [vr s] l_268_57 (by decide) rfl rfl (Nat.le_of_ble_eq_true rfl) (by rw [mx_267]; exact Nat.le_of_ble_eq_true rfl) (by rw [rk_267]; decide) (s_267_2 (xs := xs) (S := S) (T := T) (cc := cc) (zz := zz)) ?_
  refine w_bne 67 l_268_60 (by decide) (fun hx => absurd hx (by rw [decide_eq_false hv]; decide)) (fun _ => ?_)
  refine w_ic l_268_63 (by decide) ?_
  refine w_go 68 l_268_64 (by decide) ?_
  refine w_pi l_268_68 (oModel_sh hm) ?_
  refine w_aln l_268_71 rfl ?_
  refine w_gi 3 l_268_72 (oModel_sh hm) up_eq ?_
  refine w_zle 80 l_268_75 (by decide) (fun hx => absurd hx (by decide)) (fun _ => ?_)
  refine w_ic l_268_78 (by decide) ?_
  refine w_ir l_268_79 (Or.inl rfl) ?_
  exact ⟨_, _, rfl, rfl, rfl, up_eq, (mfk.u (Or.inl rfl))⟩

theorem s_268_3v (hm : oModel S T s) {ne np : Nat} {a : Nat → Nat} {cd : Nat → Cd} (B : MP I s h l a ne np cd) {p v : Int} (hv : ¬ (0 ≤ v ∧ v ≤ 999)): CL xs 268 [vr s, vi 3, vi p, vi v] (S, I, T, cc, zz) (RP S T cc zz (fun v I' => v = some (vi 0) ∧ I' s 0 = 3 ∧ mfk I I' s)) := by
  refine CL_start (r := 2) (ls := [vr s, vi 3, vi p, vi v, vs 2]) (rk_268 _) rfl ?_
  have hl4 := B.2.2.2.2.1.1
  have hne := B.1.1
  have hnp := B.1.2.1
  have hok := (B.run noOut (Nat.le_refl ne)).1
  have hlen : (runA h l noOut ne).2.1.length ≤ 360 := by
    have h8 := hok.2.2
    unfold tot at h8
    omega
  refine w_iln l_268_0 rfl ?_
  refine w_zne 12 l_268_1 (by decide) (fun _ => ?_) (fun hx => absurd hx (by decide))
  refine w_iln l_268_12 rfl ?_
  refine w_ic l_268_13 (by decide) ?_
  refine w_cne 25 l_268_14 (by decide) (fun _ => ?_) (fun hx => absurd hx (by decide))
  refine w_ic l_268_25 (by decide) ?_
  refine w_go 30 l_268_26 (by decide) ?_
  refine w_is l_268_30 ⟨Nat.le_of_ble_eq_true rfl, rfl⟩ ?_
  refine w_aln l_268_32 rfl ?_
  refine w_iln l_268_33 rfl ?_
  refine w_ic l_268_34 (by decide) ?_
  refine w_ic l_268_35 (by decide) ?_
  refine q_st [vi 3, vi 0, vi 4] [vr s] l_268_36 (by decide) rfl rfl (Nat.le_of_ble_eq_true rfl) (by rw [mx_169]; exact Nat.le_of_ble_eq_true rfl) (by rw [rk_169]; decide) (s_169) ?_
  refine w_bne 46 l_268_39 (by decide) (fun _ => ?_) (fun hx => absurd hx (by rw [decide_eq_true (by omega)]; decide))
  refine w_il l_268_46 rfl ?_
  refine w_zne 55 l_268_48 (by decide) (fun _ => ?_) (fun hx => absurd hx (by decide))
  refine w_iln l_268_55 rfl ?_
  refine w_iln l_268_56 rfl ?_
  refine q_st [vi 3, vi v] [vr s] l_268_57 (by decide) rfl rfl (Nat.le_of_ble_eq_true rfl) (by rw [mx_267]; exact Nat.le_of_ble_eq_true rfl) (by rw [rk_267]; decide) (s_267_3 (xs := xs) (S := S) (T := T) (cc := cc) (zz := zz)) ?_
  refine w_bne 67 l_268_60 (by decide) (fun hx => absurd hx (by rw [decide_eq_false hv]; decide)) (fun _ => ?_)
  refine w_ic l_268_63 (by decide) ?_
  refine w_go 68 l_268_64 (by decide) ?_
  refine w_pi l_268_68 (oModel_sh hm) ?_
  refine w_aln l_268_71 rfl ?_
  refine w_gi 3 l_268_72 (oModel_sh hm) up_eq ?_
  refine w_zle 80 l_268_75 (by decide) (fun hx => absurd hx (by decide)) (fun _ => ?_)
  refine w_ic l_268_78 (by decide) ?_
  refine w_ir l_268_79 (Or.inl rfl) ?_
  exact ⟨_, _, rfl, rfl, rfl, up_eq, (mfk.u (Or.inl rfl))⟩

theorem s_268_4i (hm : oModel S T s) {ne np : Nat} {a : Nat → Nat} {cd : Nat → Cd} (B : MP I s h l a ne np cd) {p v : Int} (hp : ¬ (0 ≤ p ∧ p ≤ ((lRules l : Nat) : Int) - 1)): CL xs 268 [vr s, vi 4, vi p, vi v] (S, I, T, cc, zz) (RP S T cc zz (fun v I' => v = some (vi 0) ∧ I' s 0 = 2 ∧ mfk I I' s)) := by
  refine CL_start (r := 2) (ls := [vr s, vi 4, vi p, vi v, vs 2]) (rk_268 _) rfl ?_
  have hl4 := B.2.2.2.2.1.1
  have hne := B.1.1
  have hnp := B.1.2.1
  have hok := (B.run noOut (Nat.le_refl ne)).1
  have hlen : (runA h l noOut ne).2.1.length ≤ 360 := by
    have h8 := hok.2.2
    unfold tot at h8
    omega
  refine w_iln l_268_0 rfl ?_
  refine w_zne 12 l_268_1 (by decide) (fun _ => ?_) (fun hx => absurd hx (by decide))
  refine w_iln l_268_12 rfl ?_
  refine w_ic l_268_13 (by decide) ?_
  refine w_cne 25 l_268_14 (by decide) (fun hx => absurd hx (by decide)) (fun _ => ?_)
  refine w_aln l_268_17 rfl ?_
  refine w_iln l_268_18 rfl ?_
  refine q_iv [vi p] [] l_268_19 rfl rfl (Nat.le_of_ble_eq_true rfl) (by rw [mx_229]; exact Nat.le_of_ble_eq_true rfl) (by rw [mt_229]; exact oModel_sh hm) (by rw [mt_229]; decide) (by rw [rk_229]; decide) (s_229 hm B) ?_
  refine w_beq 29 l_268_22 (by decide) (fun _ => ?_) (fun hx => absurd hx (by rw [decide_eq_false hp]; decide))
  refine w_ic l_268_29 (by decide) ?_
  refine w_is l_268_30 ⟨Nat.le_of_ble_eq_true rfl, rfl⟩ ?_
  refine w_aln l_268_32 rfl ?_
  refine w_iln l_268_33 rfl ?_
  refine w_ic l_268_34 (by decide) ?_
  refine w_ic l_268_35 (by decide) ?_
  refine q_st [vi 4, vi 0, vi 4] [vr s] l_268_36 (by decide) rfl rfl (Nat.le_of_ble_eq_true rfl) (by rw [mx_169]; exact Nat.le_of_ble_eq_true rfl) (by rw [rk_169]; decide) (s_169) ?_
  refine w_bne 46 l_268_39 (by decide) (fun _ => ?_) (fun hx => absurd hx (by rw [decide_eq_true (by omega)]; decide))
  refine w_il l_268_46 rfl ?_
  refine w_zne 55 l_268_48 (by decide) (fun hx => absurd hx (by decide)) (fun _ => ?_)
  refine w_ic l_268_51 (by decide) ?_
  refine w_go 68 l_268_52 (by decide) ?_
  refine w_pi l_268_68 (oModel_sh hm) ?_
  refine w_aln l_268_71 rfl ?_
  refine w_gi 2 l_268_72 (oModel_sh hm) up_eq ?_
  refine w_zle 80 l_268_75 (by decide) (fun hx => absurd hx (by decide)) (fun _ => ?_)
  refine w_ic l_268_78 (by decide) ?_
  refine w_ir l_268_79 (Or.inl rfl) ?_
  exact ⟨_, _, rfl, rfl, rfl, up_eq, (mfk.u (Or.inl rfl))⟩

theorem s_268_n (hm : oModel S T s) {ne np : Nat} {a : Nat → Nat} {cd : Nat → Cd} (B : MP I s h l a ne np cd) {w p v : Int} (hw : ¬ (0 ≤ w ∧ w ≤ 4)): CL xs 268 [vr s, vi w, vi p, vi v] (S, I, T, cc, zz) (RP S T cc zz (fun v I' => v = some (vi 0) ∧ I' s 0 = 1 ∧ mfk I I' s)) := by
  refine CL_start (r := 2) (ls := [vr s, vi w, vi p, vi v, vs 2]) (rk_268 _) rfl ?_
  have hl4 := B.2.2.2.2.1.1
  have hne := B.1.1
  have hnp := B.1.2.1
  have hok := (B.run noOut (Nat.le_refl ne)).1
  have hlen : (runA h l noOut ne).2.1.length ≤ 360 := by
    have h8 := hok.2.2
    unfold tot at h8
    omega
  refine w_iln l_268_0 rfl ?_
  refine w_zne 12 l_268_1 (by decide) (fun _ => ?_) (fun hx => absurd hx (by omega))
  refine w_iln l_268_12 rfl ?_
  refine w_ic l_268_13 (by decide) ?_
  refine w_cne 25 l_268_14 (by decide) (fun _ => ?_) (fun hx => absurd hx (by omega))
  refine w_ic l_268_25 (by decide) ?_
  refine w_go 30 l_268_26 (by decide) ?_
  refine w_is l_268_30 ⟨Nat.le_of_ble_eq_true rfl, rfl⟩ ?_
  refine w_aln l_268_32 rfl ?_
  refine w_iln l_268_33 rfl ?_
  refine w_ic l_268_34 (by decide) ?_
  refine w_ic l_268_35 (by decide) ?_
  refine q_st [vi w, vi 0, vi 4] [vr s] l_268_36 (by decide) rfl rfl (Nat.le_of_ble_eq_true rfl) (by rw [mx_169]; exact Nat.le_of_ble_eq_true rfl) (by rw [rk_169]; decide) (s_169) ?_
  refine w_bne 46 l_268_39 (by decide) (fun hx => absurd hx (by rw [decide_eq_false hw]; decide)) (fun _ => ?_)
  refine w_ic l_268_42 (by decide) ?_
  refine w_go 68 l_268_43 (by decide) ?_
  refine w_pi l_268_68 (oModel_sh hm) ?_
  refine w_aln l_268_71 rfl ?_
  refine w_gi 1 l_268_72 (oModel_sh hm) up_eq ?_
  refine w_zle 80 l_268_75 (by decide) (fun hx => absurd hx (by decide)) (fun _ => ?_)
  refine w_ic l_268_78 (by decide) ?_
  refine w_ir l_268_79 (Or.inl rfl) ?_
  exact ⟨_, _, rfl, rfl, rfl, up_eq, (mfk.u (Or.inl rfl))⟩

end RH
