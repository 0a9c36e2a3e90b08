/-! the reference: a copy is put; what a rule tells -/
abbrev Cd : Type := List (Nat × Nat × Nat)
def factOf (h : Hi) (k f : Nat) : Nat := if f = 0 then hSrc h k else if f = 1 then hTgt h k else if f = 2 then hSiz h k else hRnk h k
def tellP (h : Hi) (a : Nat → Nat) (k : Nat) (c : Nat × Nat × Nat) : Bool :=
  if c.1 = 1 then decide (factOf h k c.2.2 < c.2.1) else if c.1 = 2 then decide (factOf h k c.2.2 = c.2.1) else if c.1 = 3 then decide (c.2.1 < factOf h k c.2.2) else if c.1 = 4 then decide (hPort h (a k) = c.2.1) else true
def stepP (h : Hi) (a : Nat → Nat) (k : Nat) (c : Nat × Nat × Nat) (st : List Bool) : List Bool :=
  if c.1 = 6 then (match st with
    | b :: r => (!b) :: r
    | [] => []) else if c.1 = 7 then (match st with
    | b :: b' :: r => (b' && b) :: r
    | r => r) else if c.1 = 8 then (match st with
    | b :: b' :: r => (b' || b) :: r
    | r => r) else tellP h a k c :: st
def evalP (h : Hi) (a : Nat → Nat) (k : Nat) : Cd → List Bool → List Bool
  | [], st => st
  | c :: r, st => evalP h a k r (stepP h a k c st)
/-- from a depth n on the codes keep within 1 and 31, and end at 1 -/
def wfP : Cd → Nat → Prop
  | [], n => n = 1
  | c :: r, n => if c.1 = 6 then 1 ≤ n ∧ wfP r n else if c.1 = 7 ∨ c.1 = 8 then 2 ≤ n ∧ wfP r (n - 1) else c.1 ≤ 5 ∧ c.2.1 ≤ 999 ∧ c.2.2 ≤ 3 ∧ n < 31 ∧ wfP r (n + 1)
def hHold (h : Hi) (a : Nat → Nat) (k : Nat) (cs : Cd) : Bool := (evalP h a k cs []).headD false
def codesAt (I : Ix) (s o : Nat) (cs : Cd) : Prop := ∀ j, j < cs.length → I (s + 9) (3 * (o + j)) = ((cs.getD j (0, 0, 0)).1 : Int) ∧ I (s + 9) (3 * (o + j) + 1) = ((cs.getD j (0, 0, 0)).2.1 : Int) ∧ I (s + 9) (3 * (o + j) + 2) = ((cs.getD j (0, 0, 0)).2.2 : Int)
/-- the reference's rules -/
def nC (I : Ix) (s : Nat) (h : Hi) (l : Li) (a : Nat → Nat) (np : Nat) (cd : Nat → Cd) : Prop := ∀ r, r < lRules l → (∃ o : Nat, I (s + 7) r = (o : Int) ∧ I (s + 8) r = ((o + (cd r).length : Nat) : Int) ∧ o + (cd r).length ≤ 300 ∧ codesAt I s o (cd r)) ∧ wfP (cd r) 0 ∧ ∀ k, k < np → hHol h k r = hHold h a k (cd r)
theorem nC.fr {I J : Ix} {s : Nat} {h : Hi} {l : Li} {a : Nat → Nat} {np : Nat} {cd : Nat → Cd} (H : nC I s h l a np cd) (f : mfr I J s) : nC J s h l a np cd := by
  have e : ∀ j, j ≤ 26 ∧ 0 < j → ∀ z, J (s + j) z = I (s + j) z := fun j hj z => f (s + j) z (fun e => by omega) (fun _ => by omega)
  unfold nC codesAt at H ⊢
  simp only [e 7 (by decide), e 8 (by decide), e 9 (by decide)]
  exact H
/-- the truths of the stack, the top one last -/
def stkAt (I : Ix) (s : Nat) : List Bool → Prop
  | [] => True
  | b :: r => I (s + 37) r.length = b2i b ∧ stkAt I s r
theorem stk_up {I : Ix} {s j : Nat} {v : Int} : ∀ st : List Bool, st.length ≤ j → stkAt I s st → stkAt (up I (s + 37) j v) s st
  | [], _, _ => trivial
  | b :: r, h, ⟨h1, h2⟩ => by
    have h3 : r.length + 1 ≤ j := h
    exact ⟨by rw [up_nj (by omega)]; exact h1, stk_up r (by omega) h2⟩
section REI
variable {xs : List Int} {S : List (Nat × Nat)} {T : Nat → Nat → Nat} {cc zz s : Nat} {h : Hi} {l : Li} {r : Ra} {I I' : Ix}

theorem s_225 (hm : oModel S T s) {e ne np u : Nat} {a : Nat → Nat} (E : ME I s e h l a ne np) (hR : nR I s l r) (hok : okR h l np u r) {p k : Nat} (hp : p < lPorts l) (hk : k < np) (hu : u < 360) : CL xs 225 [vr s, vi ((p : Nat) : Int), vi ((k : Nat) : Int)] (S, I, T, cc, zz) (RP S T cc zz (fun v I' => v = none ∧ nR I' s l (putA h l e k p r).1 ∧ mfc I I' s (((putA h l e k p r).2 : Nat) : Int) 0)) := by
  refine CL_start (r := 5) (ls := [vr s, vi ((p : Nat) : Int), vi ((k : Nat) : Int), vs 2, vs 2]) (rk_225 _) rfl ?_
  have hp4 := E.p4 hp
  have hb1 := hok.2.1 p
  have hb2 := (E.ok k).1
  have hb3 := (E.okl.2.2.1 p hp).1
  have hb4 := fillN_le hok (lPorts l)
  have hb9 : fillAll h (lPorts l) r.1 = fillN h r.1 (lPorts l) := rfl
  have hb5 := E.okl.1
  have hb6 := ok_lt hok hp4
  have hb7 := below_le E.ok (hRnk h k) (sQ r.1 p)
  have hb8 := ok_len hok E.ok p
  refine w_aln l_225_0 rfl ?_
  refine w_iln l_225_1 rfl ?_
  refine q_iv [vi ((k : Nat) : Int)] [] l_225_2 rfl rfl (Nat.le_of_ble_eq_true rfl) (by rw [mx_207]; exact Nat.le_of_ble_eq_true rfl) (by rw [mt_207]; exact oModel_sh hm) (by rw [mt_207]; decide) (by rw [rk_207]; decide) (s_207 hm E.H hk) ?_
  refine w_isn l_225_5 ⟨Nat.le_of_ble_eq_true rfl, rfl⟩ ?_
  refine w_aln l_225_6 rfl ?_
  refine w_iln l_225_7 rfl ?_
  refine q_iv [vi ((k : Nat) : Int)] [] l_225_8 rfl rfl (Nat.le_of_ble_eq_true rfl) (by rw [mx_208]; exact Nat.le_of_ble_eq_true rfl) (by rw [mt_208]; exact oModel_sh hm) (by rw [mt_208]; decide) (by rw [rk_208]; decide) (s_208 hm E.H hk) ?_
  refine w_is l_225_11 ⟨Nat.le_of_ble_eq_true rfl, rfl⟩ ?_
  refine w_aln l_225_13 rfl ?_
  refine q_iv [] [] l_225_14 rfl rfl (Nat.le_of_ble_eq_true rfl) (by rw [mx_210]; exact Nat.le_of_ble_eq_true rfl) (by rw [mt_210]; exact oModel_sh hm) (by rw [mt_210]; decide) (by rw [rk_210]; decide) (s_210 hm E hR hok) ?_
  refine w_iln l_225_17 rfl ?_
  refine w_add (((fillAll h (lPorts l) r.1) + (hSiz h k) : Nat) : Int) l_225_18 (by unfold wr; omega) ?_
  refine w_aln l_225_19 rfl ?_
  refine w_gi (((lBuf l) : Nat) : Int) l_225_20 (oModel_sh hm) E.L.2.2.1 ?_
  refine w_cle 36 l_225_23 (by decide) (fun h1 => ?_) (fun h1 => ?_)
  · skip
    refine w_aln l_225_36 rfl ?_
    refine w_iln l_225_37 rfl ?_
    refine q_iv [vi ((p : Nat) : Int)] [] l_225_38 rfl rfl (Nat.le_of_ble_eq_true rfl) (by rw [mx_209]; exact Nat.le_of_ble_eq_true rfl) (by rw [mt_209]; exact oModel_sh hm) (by rw [mt_209]; decide) (by rw [rk_209]; decide) (r_fillOf hm E hR hok hp4) ?_
    refine w_iln l_225_41 rfl ?_
    refine w_add (((fillP h r.1 p) + (hSiz h k) : Nat) : Int) l_225_42 (by unfold wr; omega) ?_
    refine w_aln l_225_43 rfl ?_
    refine w_iln l_225_44 rfl ?_
    refine w_il l_225_45 rfl ?_
    refine q_iv [vi ((p : Nat) : Int), vi (((hRnk h k) : Nat) : Int)] [vi (((fillP h r.1 p) + (hSiz h k) : Nat) : Int)] l_225_47 rfl rfl (Nat.le_of_ble_eq_true rfl) (by rw [mx_224]; exact Nat.le_of_ble_eq_true rfl) (by rw [mt_224]; exact oModel_sh hm) (by rw [mt_224]; decide) (by rw [rk_224]; decide) (s_224 hm E hR hok hp4) ?_
    refine w_sub ((((fillP h r.1 p) + (hSiz h k) : Nat) : Int) - (((belowQ h (hRnk h k) (sQ r.1 p)) : Nat) : Int)) l_225_50 (by unfold wr; omega) ?_
    refine w_aln l_225_51 rfl ?_
    refine w_gr l_225_52 (oModel_sh hm) (oModel_r49 hm) ?_
    refine w_iln l_225_55 rfl ?_
    refine w_ia p (((lCap l p) : Nat) : Int) l_225_56 (oModel_s49 hm) rfl (by omega) ((E.L.2.1 p hp).1) ?_
    refine w_cle 70 l_225_57 (by decide) (fun h2 => ?_) (fun h2 => ?_)
    · skip
      rw [show putA h l e k p r = (putEnd e k p (pushA h (lCap l p) (hSiz h k) e k p (sQ r.1 p).length r), 1) by unfold putA; rw [if_neg (by omega), if_neg (by omega)]]
      exact lp_225 hm E hp hk (by omega) _ I r rfl hR hok (mfc.rf _ _) (by omega) rfl
    · skip
      refine w_aln l_225_60 rfl ?_
      refine w_iln l_225_61 rfl ?_
      refine w_iln l_225_62 rfl ?_
      refine w_bp l_225_63 (by decide) ?_
      refine w_ic l_225_65 (by decide) ?_
      refine p_iv [vi ((k : Nat) : Int), vi ((p : Nat) : Int), vi 7, vi (-1)] [] l_225_66 rfl rfl (Nat.le_of_ble_eq_true rfl) (by rw [mx_211]; exact Nat.le_of_ble_eq_true rfl) (by rw [mt_211]; exact oModel_sh hm) (by rw [mt_211]; decide) (by rw [rk_211]; decide) (r_drops1 hm hR E.ev (E.np hk) (by omega) hp4) (fun v I1 hv => ?_)
      obtain ⟨rfl, hR1, f1⟩ := hv
      refine w_vr l_225_69 ?_
      rw [show putA h l e k p r = ((r.1, addDr r.2 e k p 7 (-1)), 0) by unfold putA; rw [if_neg (by omega), if_pos (by omega)]]
      exact ⟨_, _, rfl, rfl, rfl, hR1, f1⟩
  · skip
    refine w_aln l_225_26 rfl ?_
    refine w_iln l_225_27 rfl ?_
    refine w_iln l_225_28 rfl ?_
    refine w_bp l_225_29 (by decide) ?_
    refine w_ic l_225_31 (by decide) ?_
    refine p_iv [vi ((k : Nat) : Int), vi ((p : Nat) : Int), vi 6, vi (-1)] [] l_225_32 rfl rfl (Nat.le_of_ble_eq_true rfl) (by rw [mx_211]; exact Nat.le_of_ble_eq_true rfl) (by rw [mt_211]; exact oModel_sh hm) (by rw [mt_211]; decide) (by rw [rk_211]; decide) (r_drops1 hm hR E.ev (E.np hk) (by omega) hp4) (fun v I1 hv => ?_)
    obtain ⟨rfl, hR1, f1⟩ := hv
    refine w_vr l_225_35 ?_
    rw [show putA h l e k p r = ((r.1, addDr r.2 e k p 6 (-1)), 0) by unfold putA; rw [if_pos (by omega)]]
    exact ⟨_, _, rfl, rfl, rfl, hR1, f1⟩

theorem r_fact (hm : oModel S T s) {ne np : Nat} {a : Nat → Nat} (H : mH I s h a ne np) {k f : Nat} (hk : k < np) (hf : f ≤ 3) : CL xs 206 [vr s, vi ((k : Nat) : Int), vi ((2 + f : Nat) : Int)] (S, I, T, cc, zz) (FN (some (vi ((factOf h k f : Nat) : Int))) (S, I, T, cc, zz)) := by
  have g := H.2.2.2 k hk
  have h9 := s_206 (xs := xs) (T := T) (cc := cc) (zz := zz) hm (j := 2 + f) g.1 (by have := g.2.1; have := H.1; omega) (by have := H.1; have := H.2.1; omega) (by omega)
  have e : I (s + 10) (7 * a k + (2 + f)) = ((factOf h k f : Nat) : Int) := by
    rcases (show f = 0 ∨ f = 1 ∨ f = 2 ∨ f = 3 by omega) with rfl | rfl | rfl | rfl
    · exact g.2.2.1
    · exact g.2.2.2.1
    · exact g.2.2.2.2.1
    · exact g.2.2.2.2.2
  rw [e] at h9
  exact h9
theorem r_port (hm : oModel S T s) {ne np : Nat} {a : Nat → Nat} (H : mH I s h a ne np) {k : Nat} (hk : k < np) (hz : I (s + 10) (7 * a k + 1) = ((hPort h (a k) : Nat) : Int)) : CL xs 206 [vr s, vi ((k : Nat) : Int), vi 1] (S, I, T, cc, zz) (FN (some (vi ((hPort h (a k) : Nat) : Int))) (S, I, T, cc, zz)) := by
  have g := H.2.2.2 k hk
  have h9 := s_206 (xs := xs) (T := T) (cc := cc) (zz := zz) hm (j := 1) g.1 (by have := g.2.1; have := H.1; omega) (by have := H.1; have := H.2.1; omega) (by decide)
  rw [hz] at h9
  exact h9

theorem mx_218 : mxl 218 = 5 := by decide +kernel
theorem mt_218 : mtc 218 = 10 := by decide +kernel
theorem rk_218 (as : List AV) : rkA 218 as = 2 := rfl
theorem l_218_0 : look 218 0 = some (.aload_n 0, 1, 0, 0, 0, 0) := by decide +kernel
theorem l_218_1 : look 218 1 = some (.getfield 46, 3, 10, 14, 2, 1515) := by decide +kernel
theorem l_218_4 : look 218 4 = some (.iconst 3, 1, 0, 0, 0, 0) := by decide +kernel
theorem l_218_5 : look 218 5 = some (.iload_n 1, 1, 0, 0, 0, 0) := by decide +kernel
theorem l_218_6 : look 218 6 = some (.imul, 1, 0, 0, 0, 0) := by decide +kernel
theorem l_218_7 : look 218 7 = some (.iconst 1, 1, 0, 0, 0, 0) := by decide +kernel
theorem l_218_8 : look 218 8 = some (.iadd, 1, 0, 0, 0, 0) := by decide +kernel
theorem l_218_9 : look 218 9 = some (.iaload, 1, 0, 0, 0, 0) := by decide +kernel
theorem l_218_10 : look 218 10 = some (.istore_n 3, 1, 0, 0, 0, 0) := by decide +kernel
theorem l_218_11 : look 218 11 = some (.aload_n 0, 1, 0, 0, 0, 0) := by decide +kernel
theorem l_218_12 : look 218 12 = some (.iload_n 2, 1, 0, 0, 0, 0) := by decide +kernel
theorem l_218_13 : look 218 13 = some (.iconst 2, 1, 0, 0, 0, 0) := by decide +kernel
theorem l_218_14 : look 218 14 = some (.aload_n 0, 1, 0, 0, 0, 0) := by decide +kernel
theorem l_218_15 : look 218 15 = some (.getfield 46, 3, 10, 14, 2, 1515) := by decide +kernel
theorem l_218_18 : look 218 18 = some (.iconst 3, 1, 0, 0, 0, 0) := by decide +kernel
theorem l_218_19 : look 218 19 = some (.iload_n 1, 1, 0, 0, 0, 0) := by decide +kernel
theorem l_218_20 : look 218 20 = some (.imul, 1, 0, 0, 0, 0) := by decide +kernel
theorem l_218_21 : look 218 21 = some (.iconst 2, 1, 0, 0, 0, 0) := by decide +kernel
theorem l_218_22 : look 218 22 = some (.iadd, 1, 0, 0, 0, 0) := by decide +kernel
theorem l_218_23 : look 218 23 = some (.iaload, 1, 0, 0, 0, 0) := by decide +kernel
theorem l_218_24 : look 218 24 = some (.iadd, 1, 0, 0, 0, 0) := by decide +kernel
theorem l_218_25 : look 218 25 = some (.invokevirtual 360, 3, 206, 3, 0, 1944) := by decide +kernel
theorem l_218_28 : look 218 28 = some (.istore 4, 2, 0, 0, 0, 0) := by decide +kernel
theorem l_218_30 : look 218 30 = some (.aload_n 0, 1, 0, 0, 0, 0) := by decide +kernel
theorem l_218_31 : look 218 31 = some (.getfield 46, 3, 10, 14, 2, 1515) := by decide +kernel
theorem l_218_34 : look 218 34 = some (.iconst 3, 1, 0, 0, 0, 0) := by decide +kernel
theorem l_218_35 : look 218 35 = some (.iload_n 1, 1, 0, 0, 0, 0) := by decide +kernel
theorem l_218_36 : look 218 36 = some (.imul, 1, 0, 0, 0, 0) := by decide +kernel
theorem l_218_37 : look 218 37 = some (.iaload, 1, 0, 0, 0, 0) := by decide +kernel
theorem l_218_38 : look 218 38 = some (.tableswitch 82 1 4 #[30, 42, 54, 66], 30, 0, 0, 0, 0) := by decide +kernel
theorem l_218_68 : look 218 68 = some (.iload 4, 2, 0, 0, 0, 0) := by decide +kernel
theorem l_218_70 : look 218 70 = some (.iload_n 3, 1, 0, 0, 0, 0) := by decide +kernel
theorem l_218_71 : look 218 71 = some (.if_icmp .ge 7, 3, 0, 0, 0, 0) := by decide +kernel
theorem l_218_74 : look 218 74 = some (.iconst 1, 1, 0, 0, 0, 0) := by decide +kernel
theorem l_218_75 : look 218 75 = some (.goto 4, 3, 0, 0, 0, 0) := by decide +kernel
theorem l_218_78 : look 218 78 = some (.iconst 0, 1, 0, 0, 0, 0) := by decide +kernel
theorem l_218_79 : look 218 79 = some (.ireturn, 1, 0, 0, 1, 0) := by decide +kernel
theorem l_218_80 : look 218 80 = some (.iload 4, 2, 0, 0, 0, 0) := by decide +kernel
theorem l_218_82 : look 218 82 = some (.iload_n 3, 1, 0, 0, 0, 0) := by decide +kernel
theorem l_218_83 : look 218 83 = some (.if_icmp .ne 7, 3, 0, 0, 0, 0) := by decide +kernel
theorem l_218_86 : look 218 86 = some (.iconst 1, 1, 0, 0, 0, 0) := by decide +kernel
theorem l_218_87 : look 218 87 = some (.goto 4, 3, 0, 0, 0, 0) := by decide +kernel
theorem l_218_90 : look 218 90 = some (.iconst 0, 1, 0, 0, 0, 0) := by decide +kernel
theorem l_218_91 : look 218 91 = some (.ireturn, 1, 0, 0, 1, 0) := by decide +kernel
theorem l_218_92 : look 218 92 = some (.iload 4, 2, 0, 0, 0, 0) := by decide +kernel
theorem l_218_94 : look 218 94 = some (.iload_n 3, 1, 0, 0, 0, 0) := by decide +kernel
theorem l_218_95 : look 218 95 = some (.if_icmp .le 7, 3, 0, 0, 0, 0) := by decide +kernel
theorem l_218_98 : look 218 98 = some (.iconst 1, 1, 0, 0, 0, 0) := by decide +kernel
theorem l_218_99 : look 218 99 = some (.goto 4, 3, 0, 0, 0, 0) := by decide +kernel
theorem l_218_102 : look 218 102 = some (.iconst 0, 1, 0, 0, 0, 0) := by decide +kernel
theorem l_218_103 : look 218 103 = some (.ireturn, 1, 0, 0, 1, 0) := by decide +kernel
theorem l_218_104 : look 218 104 = some (.aload_n 0, 1, 0, 0, 0, 0) := by decide +kernel
theorem l_218_105 : look 218 105 = some (.iload_n 2, 1, 0, 0, 0, 0) := by decide +kernel
theorem l_218_106 : look 218 106 = some (.iconst 1, 1, 0, 0, 0, 0) := by decide +kernel
theorem l_218_107 : look 218 107 = some (.invokevirtual 360, 3, 206, 3, 0, 1944) := by decide +kernel
theorem l_218_110 : look 218 110 = some (.iload_n 3, 1, 0, 0, 0, 0) := by decide +kernel
theorem l_218_111 : look 218 111 = some (.if_icmp .ne 7, 3, 0, 0, 0, 0) := by decide +kernel
theorem l_218_114 : look 218 114 = some (.iconst 1, 1, 0, 0, 0, 0) := by decide +kernel
theorem l_218_115 : look 218 115 = some (.goto 4, 3, 0, 0, 0, 0) := by decide +kernel
theorem l_218_118 : look 218 118 = some (.iconst 0, 1, 0, 0, 0, 0) := by decide +kernel
theorem l_218_119 : look 218 119 = some (.ireturn, 1, 0, 0, 1, 0) := by decide +kernel
theorem l_218_120 : look 218 120 = some (.iconst 1, 1, 0, 0, 0, 0) := by decide +kernel
theorem l_218_121 : look 218 121 = some (.ireturn, 1, 0, 0, 1, 0) := by decide +kernel

theorem s_218 (hm : oModel S T s) {ne np o k : Nat} {a : Nat → Nat} {c : Nat × Nat × Nat} (H : mH I s h a ne np) (hk : k < np) (ho : o < 300) (g1 : I (s + 9) (3 * o) = (c.1 : Int)) (g2 : I (s + 9) (3 * o + 1) = (c.2.1 : Int)) (g3 : I (s + 9) (3 * o + 2) = (c.2.2 : Int)) (hf : c.2.2 ≤ 3) (hc5 : c.1 ≤ 5) (hz : I (s + 10) (7 * a k + 1) = ((hPort h (a k) : Nat) : Int)) :
    CL xs 218 [vr s, vi ((o : Nat) : Int), vi ((k : Nat) : Int)] (S, I, T, cc, zz) (FN (some (vi (b2i (tellP h a k c)))) (S, I, T, cc, zz)) := by
  have hk120 : k < 120 := by have := H.1; have := H.2.1; omega
  rcases (show c.1 = 1 ∨ c.1 = 2 ∨ c.1 = 3 ∨ c.1 = 4 ∨ (c.1 = 0 ∨ c.1 = 5) by omega) with hc | hc | hc | hc | hc
  · have hc0 : c.1 = 1 := hc
    refine CL_start (r := 2) (ls := [vr s, vi ((o : Nat) : Int), vi ((k : Nat) : Int), vs 2, vs 2]) (rk_218 _) rfl ?_
    rw [show tellP h a k c = _ from if_pos hc0]
    refine w_aln l_218_0 rfl ?_
    refine w_gr l_218_1 (oModel_sh hm) (oModel_r14 hm) ?_
    refine w_ic l_218_4 (by decide) ?_
    refine w_iln l_218_5 rfl ?_
    refine w_mul ((3 * o : Nat) : Int) l_218_6 (by unfold wr; omega) ?_
    refine w_ic l_218_7 (by decide) ?_
    refine w_add ((3 * o + 1 : Nat) : Int) l_218_8 (by unfold wr; omega) ?_
    refine w_ia (3 * o + 1) ((c.2.1 : Nat) : Int) l_218_9 (oModel_s14 hm) rfl (by omega) g2 ?_
    refine w_isn l_218_10 ⟨Nat.le_of_ble_eq_true rfl, rfl⟩ ?_
    refine w_aln l_218_11 rfl ?_
    refine w_iln l_218_12 rfl ?_
    refine w_ic l_218_13 (by decide) ?_
    refine w_aln l_218_14 rfl ?_
    refine w_gr l_218_15 (oModel_sh hm) (oModel_r14 hm) ?_
    refine w_ic l_218_18 (by decide) ?_
    refine w_iln l_218_19 rfl ?_
    refine w_mul ((3 * o : Nat) : Int) l_218_20 (by unfold wr; omega) ?_
    refine w_ic l_218_21 (by decide) ?_
    refine w_add ((3 * o + 2 : Nat) : Int) l_218_22 (by unfold wr; omega) ?_
    refine w_ia (3 * o + 2) ((c.2.2 : Nat) : Int) l_218_23 (oModel_s14 hm) rfl (by omega) g3 ?_
    refine w_add ((2 + c.2.2 : Nat) : Int) l_218_24 (by unfold wr; omega) ?_
    refine q_iv [vi ((k : Nat) : Int), vi ((2 + c.2.2 : Nat) : Int)] [] l_218_25 rfl rfl (Nat.le_of_ble_eq_true rfl) (by rw [mx_206]; exact Nat.le_of_ble_eq_true rfl) (by rw [mt_206]; exact oModel_sh hm) (by rw [mt_206]; decide) (by rw [rk_206]; decide) (r_fact hm H hk hf) ?_
    refine w_is l_218_28 ⟨Nat.le_of_ble_eq_true rfl, rfl⟩ ?_
    refine w_aln l_218_30 rfl ?_
    refine w_gr l_218_31 (oModel_sh hm) (oModel_r14 hm) ?_
    refine w_ic l_218_34 (by decide) ?_
    refine w_iln l_218_35 rfl ?_
    refine w_mul ((3 * o : Nat) : Int) l_218_36 (by unfold wr; omega) ?_
    refine w_ia (3 * o) 1 l_218_37 (oModel_s14 hm) rfl (by omega) (g1.trans (by rw [hc0]; rfl)) ?_
    refine w_swi 68 l_218_38 (by decide) rfl (by decide) ?_
    refine w_il l_218_68 rfl ?_
    refine w_iln l_218_70 rfl ?_
    refine w_cge 78 l_218_71 (by decide) (fun h1 => ?_) (fun h1 => ?_)
    · skip
      refine w_ic l_218_78 (by decide) ?_
      refine w_ir l_218_79 (by decide) ?_
      first
        | (rw [show decide ((factOf h k c.2.2) < c.2.1) = true from decide_eq_true (by omega)]; exact ⟨rfl, rfl⟩)
        | (rw [show decide ((factOf h k c.2.2) < c.2.1) = false from decide_eq_false (by omega)]; exact ⟨rfl, rfl⟩)
    · skip
      refine w_ic l_218_74 (by decide) ?_
      refine w_go 79 l_218_75 (by decide) ?_
      refine w_ir l_218_79 (by decide) ?_
      first
        | (rw [show decide ((factOf h k c.2.2) < c.2.1) = true from decide_eq_true (by omega)]; exact ⟨rfl, rfl⟩)
        | (rw [show decide ((factOf h k c.2.2) < c.2.1) = false from decide_eq_false (by omega)]; exact ⟨rfl, rfl⟩)
  · have hc0 : c.1 = 2 := hc
    refine CL_start (r := 2) (ls := [vr s, vi ((o : Nat) : Int), vi ((k : Nat) : Int), vs 2, vs 2]) (rk_218 _) rfl ?_
    rw [show tellP h a k c = _ from (if_neg (by omega)).trans (if_pos hc0)]
    refine w_aln l_218_0 rfl ?_
    refine w_gr l_218_1 (oModel_sh hm) (oModel_r14 hm) ?_
    refine w_ic l_218_4 (by decide) ?_
    refine w_iln l_218_5 rfl ?_
    refine w_mul ((3 * o : Nat) : Int) l_218_6 (by unfold wr; omega) ?_
    refine w_ic l_218_7 (by decide) ?_
    refine w_add ((3 * o + 1 : Nat) : Int) l_218_8 (by unfold wr; omega) ?_
    refine w_ia (3 * o + 1) ((c.2.1 : Nat) : Int) l_218_9 (oModel_s14 hm) rfl (by omega) g2 ?_
    refine w_isn l_218_10 ⟨Nat.le_of_ble_eq_true rfl, rfl⟩ ?_
    refine w_aln l_218_11 rfl ?_
    refine w_iln l_218_12 rfl ?_
    refine w_ic l_218_13 (by decide) ?_
    refine w_aln l_218_14 rfl ?_
    refine w_gr l_218_15 (oModel_sh hm) (oModel_r14 hm) ?_
    refine w_ic l_218_18 (by decide) ?_
    refine w_iln l_218_19 rfl ?_
    refine w_mul ((3 * o : Nat) : Int) l_218_20 (by unfold wr; omega) ?_
    refine w_ic l_218_21 (by decide) ?_
    refine w_add ((3 * o + 2 : Nat) : Int) l_218_22 (by unfold wr; omega) ?_
    refine w_ia (3 * o + 2) ((c.2.2 : Nat) : Int) l_218_23 (oModel_s14 hm) rfl (by omega) g3 ?_
    refine w_add ((2 + c.2.2 : Nat) : Int) l_218_24 (by unfold wr; omega) ?_
    refine q_iv [vi ((k : Nat) : Int), vi ((2 + c.2.2 : Nat) : Int)] [] l_218_25 rfl rfl (Nat.le_of_ble_eq_true rfl) (by rw [mx_206]; exact Nat.le_of_ble_eq_true rfl) (by rw [mt_206]; exact oModel_sh hm) (by rw [mt_206]; decide) (by rw [rk_206]; decide) (r_fact hm H hk hf) ?_
    refine w_is l_218_28 ⟨Nat.le_of_ble_eq_true rfl, rfl⟩ ?_
    refine w_aln l_218_30 rfl ?_
    refine w_gr l_218_31 (oModel_sh hm) (oModel_r14 hm) ?_
    refine w_ic l_218_34 (by decide) ?_
    refine w_iln l_218_35 rfl ?_
    refine w_mul ((3 * o : Nat) : Int) l_218_36 (by unfold wr; omega) ?_
    refine w_ia (3 * o) 2 l_218_37 (oModel_s14 hm) rfl (by omega) (g1.trans (by rw [hc0]; rfl)) ?_
    refine w_swi 80 l_218_38 (by decide) rfl (by decide) ?_
    refine w_il l_218_80 rfl ?_
    refine w_iln l_218_82 rfl ?_
    refine w_cne 90 l_218_83 (by decide) (fun h1 => ?_) (fun h1 => ?_)
    · skip
      refine w_ic l_218_90 (by decide) ?_
      refine w_ir l_218_91 (by decide) ?_
      first
        | (rw [show decide ((factOf h k c.2.2) = c.2.1) = true from decide_eq_true (by omega)]; exact ⟨rfl, rfl⟩)
        | (rw [show decide ((factOf h k c.2.2) = c.2.1) = false from decide_eq_false (by omega)]; exact ⟨rfl, rfl⟩)
    · skip
      refine w_ic l_218_86 (by decide) ?_
      refine w_go 91 l_218_87 (by decide) ?_
      refine w_ir l_218_91 (by decide) ?_
      first
        | (rw [show decide ((factOf h k c.2.2) = c.2.1) = true from decide_eq_true (by omega)]; exact ⟨rfl, rfl⟩)
        | (rw [show decide ((factOf h k c.2.2) = c.2.1) = false from decide_eq_false (by omega)]; exact ⟨rfl, rfl⟩)
  · have hc0 : c.1 = 3 := hc
    refine CL_start (r := 2) (ls := [vr s, vi ((o : Nat) : Int), vi ((k : Nat) : Int), vs 2, vs 2]) (rk_218 _) rfl ?_
    rw [show tellP h a k c = _ from (if_neg (by omega)).trans ((if_neg (by omega)).trans (if_pos hc0))]
    refine w_aln l_218_0 rfl ?_
    refine w_gr l_218_1 (oModel_sh hm) (oModel_r14 hm) ?_
    refine w_ic l_218_4 (by decide) ?_
    refine w_iln l_218_5 rfl ?_
    refine w_mul ((3 * o : Nat) : Int) l_218_6 (by unfold wr; omega) ?_
    refine w_ic l_218_7 (by decide) ?_
    refine w_add ((3 * o + 1 : Nat) : Int) l_218_8 (by unfold wr; omega) ?_
    refine w_ia (3 * o + 1) ((c.2.1 : Nat) : Int) l_218_9 (oModel_s14 hm) rfl (by omega) g2 ?_
    refine w_isn l_218_10 ⟨Nat.le_of_ble_eq_true rfl, rfl⟩ ?_
    refine w_aln l_218_11 rfl ?_
    refine w_iln l_218_12 rfl ?_
    refine w_ic l_218_13 (by decide) ?_
    refine w_aln l_218_14 rfl ?_
    refine w_gr l_218_15 (oModel_sh hm) (oModel_r14 hm) ?_
    refine w_ic l_218_18 (by decide) ?_
    refine w_iln l_218_19 rfl ?_
    refine w_mul ((3 * o : Nat) : Int) l_218_20 (by unfold wr; omega) ?_
    refine w_ic l_218_21 (by decide) ?_
    refine w_add ((3 * o + 2 : Nat) : Int) l_218_22 (by unfold wr; omega) ?_
    refine w_ia (3 * o + 2) ((c.2.2 : Nat) : Int) l_218_23 (oModel_s14 hm) rfl (by omega) g3 ?_
    refine w_add ((2 + c.2.2 : Nat) : Int) l_218_24 (by unfold wr; omega) ?_
    refine q_iv [vi ((k : Nat) : Int), vi ((2 + c.2.2 : Nat) : Int)] [] l_218_25 rfl rfl (Nat.le_of_ble_eq_true rfl) (by rw [mx_206]; exact Nat.le_of_ble_eq_true rfl) (by rw [mt_206]; exact oModel_sh hm) (by rw [mt_206]; decide) (by rw [rk_206]; decide) (r_fact hm H hk hf) ?_
    refine w_is l_218_28 ⟨Nat.le_of_ble_eq_true rfl, rfl⟩ ?_
    refine w_aln l_218_30 rfl ?_
    refine w_gr l_218_31 (oModel_sh hm) (oModel_r14 hm) ?_
    refine w_ic l_218_34 (by decide) ?_
    refine w_iln l_218_35 rfl ?_
    refine w_mul ((3 * o : Nat) : Int) l_218_36 (by unfold wr; omega) ?_
    refine w_ia (3 * o) 3 l_218_37 (oModel_s14 hm) rfl (by omega) (g1.trans (by rw [hc0]; rfl)) ?_
    refine w_swi 92 l_218_38 (by decide) rfl (by decide) ?_
    refine w_il l_218_92 rfl ?_
    refine w_iln l_218_94 rfl ?_
    refine w_cle 102 l_218_95 (by decide) (fun h1 => ?_) (fun h1 => ?_)
    · skip
      refine w_ic l_218_102 (by decide) ?_
      refine w_ir l_218_103 (by decide) ?_
      first
        | (rw [show decide (c.2.1 < (factOf h k c.2.2)) = true from decide_eq_true (by omega)]; exact ⟨rfl, rfl⟩)
        | (rw [show decide (c.2.1 < (factOf h k c.2.2)) = false from decide_eq_false (by omega)]; exact ⟨rfl, rfl⟩)
    · skip
      refine w_ic l_218_98 (by decide) ?_
      refine w_go 103 l_218_99 (by decide) ?_
      refine w_ir l_218_103 (by decide) ?_
      first
        | (rw [show decide (c.2.1 < (factOf h k c.2.2)) = true from decide_eq_true (by omega)]; exact ⟨rfl, rfl⟩)
        | (rw [show decide (c.2.1 < (factOf h k c.2.2)) = false from decide_eq_false (by omega)]; exact ⟨rfl, rfl⟩)
  · have hc0 : c.1 = 4 := hc
    refine CL_start (r := 2) (ls := [vr s, vi ((o : Nat) : Int), vi ((k : Nat) : Int), vs 2, vs 2]) (rk_218 _) rfl ?_
    rw [show tellP h a k c = _ from (if_neg (by omega)).trans ((if_neg (by omega)).trans ((if_neg (by omega)).trans (if_pos hc0)))]
    refine w_aln l_218_0 rfl ?_
    refine w_gr l_218_1 (oModel_sh hm) (oModel_r14 hm) ?_
    refine w_ic l_218_4 (by decide) ?_
    refine w_iln l_218_5 rfl ?_
    refine w_mul ((3 * o : Nat) : Int) l_218_6 (by unfold wr; omega) ?_
    refine w_ic l_218_7 (by decide) ?_
    refine w_add ((3 * o + 1 : Nat) : Int) l_218_8 (by unfold wr; omega) ?_
    refine w_ia (3 * o + 1) ((c.2.1 : Nat) : Int) l_218_9 (oModel_s14 hm) rfl (by omega) g2 ?_
    refine w_isn l_218_10 ⟨Nat.le_of_ble_eq_true rfl, rfl⟩ ?_
    refine w_aln l_218_11 rfl ?_
    refine w_iln l_218_12 rfl ?_
    refine w_ic l_218_13 (by decide) ?_
    refine w_aln l_218_14 rfl ?_
    refine w_gr l_218_15 (oModel_sh hm) (oModel_r14 hm) ?_
    refine w_ic l_218_18 (by decide) ?_
    refine w_iln l_218_19 rfl ?_
    refine w_mul ((3 * o : Nat) : Int) l_218_20 (by unfold wr; omega) ?_
    refine w_ic l_218_21 (by decide) ?_
    refine w_add ((3 * o + 2 : Nat) : Int) l_218_22 (by unfold wr; omega) ?_
    refine w_ia (3 * o + 2) ((c.2.2 : Nat) : Int) l_218_23 (oModel_s14 hm) rfl (by omega) g3 ?_
    refine w_add ((2 + c.2.2 : Nat) : Int) l_218_24 (by unfold wr; omega) ?_
    refine q_iv [vi ((k : Nat) : Int), vi ((2 + c.2.2 : Nat) : Int)] [] l_218_25 rfl rfl (Nat.le_of_ble_eq_true rfl) (by rw [mx_206]; exact Nat.le_of_ble_eq_true rfl) (by rw [mt_206]; exact oModel_sh hm) (by rw [mt_206]; decide) (by rw [rk_206]; decide) (r_fact hm H hk hf) ?_
    refine w_is l_218_28 ⟨Nat.le_of_ble_eq_true rfl, rfl⟩ ?_
    refine w_aln l_218_30 rfl ?_
    refine w_gr l_218_31 (oModel_sh hm) (oModel_r14 hm) ?_
    refine w_ic l_218_34 (by decide) ?_
    refine w_iln l_218_35 rfl ?_
    refine w_mul ((3 * o : Nat) : Int) l_218_36 (by unfold wr; omega) ?_
    refine w_ia (3 * o) 4 l_218_37 (oModel_s14 hm) rfl (by omega) (g1.trans (by rw [hc0]; rfl)) ?_
    refine w_swi 104 l_218_38 (by decide) rfl (by decide) ?_
    refine w_aln l_218_104 rfl ?_
    refine w_iln l_218_105 rfl ?_
    refine w_ic l_218_106 (by decide) ?_
    refine q_iv [vi ((k : Nat) : Int), vi 1] [] l_218_107 rfl rfl (Nat.le_of_ble_eq_true rfl) (by rw [mx_206]; exact Nat.le_of_ble_eq_true rfl) (by rw [mt_206]; exact oModel_sh hm) (by rw [mt_206]; decide) (by rw [rk_206]; decide) (r_port hm H hk hz) ?_
    refine w_iln l_218_110 rfl ?_
    refine w_cne 118 l_218_111 (by decide) (fun h1 => ?_) (fun h1 => ?_)
    · skip
      refine w_ic l_218_118 (by decide) ?_
      refine w_ir l_218_119 (by decide) ?_
      first
        | (rw [show decide (hPort h (a k) = c.2.1) = true from decide_eq_true (by omega)]; exact ⟨rfl, rfl⟩)
        | (rw [show decide (hPort h (a k) = c.2.1) = false from decide_eq_false (by omega)]; exact ⟨rfl, rfl⟩)
    · skip
      refine w_ic l_218_114 (by decide) ?_
      refine w_go 119 l_218_115 (by decide) ?_
      refine w_ir l_218_119 (by decide) ?_
      first
        | (rw [show decide (hPort h (a k) = c.2.1) = true from decide_eq_true (by omega)]; exact ⟨rfl, rfl⟩)
        | (rw [show decide (hPort h (a k) = c.2.1) = false from decide_eq_false (by omega)]; exact ⟨rfl, rfl⟩)
  · have hc9 := hc
    have hc1 : c.1 = 0 ∨ c.1 = 5 := by omega
    rcases hc1 with hc0 | hc0
    · refine CL_start (r := 2) (ls := [vr s, vi ((o : Nat) : Int), vi ((k : Nat) : Int), vs 2, vs 2]) (rk_218 _) rfl ?_
      rw [show tellP h a k c = _ from (if_neg (by omega)).trans ((if_neg (by omega)).trans ((if_neg (by omega)).trans (if_neg (by omega))))]
      refine w_aln l_218_0 rfl ?_
      refine w_gr l_218_1 (oModel_sh hm) (oModel_r14 hm) ?_
      refine w_ic l_218_4 (by decide) ?_
      refine w_iln l_218_5 rfl ?_
      refine w_mul ((3 * o : Nat) : Int) l_218_6 (by unfold wr; omega) ?_
      refine w_ic l_218_7 (by decide) ?_
      refine w_add ((3 * o + 1 : Nat) : Int) l_218_8 (by unfold wr; omega) ?_
      refine w_ia (3 * o + 1) ((c.2.1 : Nat) : Int) l_218_9 (oModel_s14 hm) rfl (by omega) g2 ?_
      refine w_isn l_218_10 ⟨Nat.le_of_ble_eq_true rfl, rfl⟩ ?_
      refine w_aln l_218_11 rfl ?_
      refine w_iln l_218_12 rfl ?_
      refine w_ic l_218_13 (by decide) ?_
      refine w_aln l_218_14 rfl ?_
      refine w_gr l_218_15 (oModel_sh hm) (oModel_r14 hm) ?_
      refine w_ic l_218_18 (by decide) ?_
      refine w_iln l_218_19 rfl ?_
      refine w_mul ((3 * o : Nat) : Int) l_218_20 (by unfold wr; omega) ?_
      refine w_ic l_218_21 (by decide) ?_
      refine w_add ((3 * o + 2 : Nat) : Int) l_218_22 (by unfold wr; omega) ?_
      refine w_ia (3 * o + 2) ((c.2.2 : Nat) : Int) l_218_23 (oModel_s14 hm) rfl (by omega) g3 ?_
      refine w_add ((2 + c.2.2 : Nat) : Int) l_218_24 (by unfold wr; omega) ?_
      refine q_iv [vi ((k : Nat) : Int), vi ((2 + c.2.2 : Nat) : Int)] [] l_218_25 rfl rfl (Nat.le_of_ble_eq_true rfl) (by rw [mx_206]; exact Nat.le_of_ble_eq_true rfl) (by rw [mt_206]; exact oModel_sh hm) (by rw [mt_206]; decide) (by rw [rk_206]; decide) (r_fact hm H hk hf) ?_
      refine w_is l_218_28 ⟨Nat.le_of_ble_eq_true rfl, rfl⟩ ?_
      refine w_aln l_218_30 rfl ?_
      refine w_gr l_218_31 (oModel_sh hm) (oModel_r14 hm) ?_
      refine w_ic l_218_34 (by decide) ?_
      refine w_iln l_218_35 rfl ?_
      refine w_mul ((3 * o : Nat) : Int) l_218_36 (by unfold wr; omega) ?_
      refine w_ia (3 * o) 0 l_218_37 (oModel_s14 hm) rfl (by omega) (g1.trans (by rw [hc0]; rfl)) ?_
      refine w_swd 120 l_218_38 (by decide) (by decide) ?_
      refine w_ic l_218_120 (by decide) ?_
      refine w_ir l_218_121 (by decide) ?_
      exact ⟨rfl, rfl⟩
    · refine CL_start (r := 2) (ls := [vr s, vi ((o : Nat) : Int), vi ((k : Nat) : Int), vs 2, vs 2]) (rk_218 _) rfl ?_
      rw [show tellP h a k c = _ from (if_neg (by omega)).trans ((if_neg (by omega)).trans ((if_neg (by omega)).trans (if_neg (by omega))))]
      refine w_aln l_218_0 rfl ?_
      refine w_gr l_218_1 (oModel_sh hm) (oModel_r14 hm) ?_
      refine w_ic l_218_4 (by decide) ?_
      refine w_iln l_218_5 rfl ?_
      refine w_mul ((3 * o : Nat) : Int) l_218_6 (by unfold wr; omega) ?_
      refine w_ic l_218_7 (by decide) ?_
      refine w_add ((3 * o + 1 : Nat) : Int) l_218_8 (by unfold wr; omega) ?_
      refine w_ia (3 * o + 1) ((c.2.1 : Nat) : Int) l_218_9 (oModel_s14 hm) rfl (by omega) g2 ?_
      refine w_isn l_218_10 ⟨Nat.le_of_ble_eq_true rfl, rfl⟩ ?_
      refine w_aln l_218_11 rfl ?_
      refine w_iln l_218_12 rfl ?_
      refine w_ic l_218_13 (by decide) ?_
      refine w_aln l_218_14 rfl ?_
      refine w_gr l_218_15 (oModel_sh hm) (oModel_r14 hm) ?_
      refine w_ic l_218_18 (by decide) ?_
      refine w_iln l_218_19 rfl ?_
      refine w_mul ((3 * o : Nat) : Int) l_218_20 (by unfold wr; omega) ?_
      refine w_ic l_218_21 (by decide) ?_
      refine w_add ((3 * o + 2 : Nat) : Int) l_218_22 (by unfold wr; omega) ?_
      refine w_ia (3 * o + 2) ((c.2.2 : Nat) : Int) l_218_23 (oModel_s14 hm) rfl (by omega) g3 ?_
      refine w_add ((2 + c.2.2 : Nat) : Int) l_218_24 (by unfold wr; omega) ?_
      refine q_iv [vi ((k : Nat) : Int), vi ((2 + c.2.2 : Nat) : Int)] [] l_218_25 rfl rfl (Nat.le_of_ble_eq_true rfl) (by rw [mx_206]; exact Nat.le_of_ble_eq_true rfl) (by rw [mt_206]; exact oModel_sh hm) (by rw [mt_206]; decide) (by rw [rk_206]; decide) (r_fact hm H hk hf) ?_
      refine w_is l_218_28 ⟨Nat.le_of_ble_eq_true rfl, rfl⟩ ?_
      refine w_aln l_218_30 rfl ?_
      refine w_gr l_218_31 (oModel_sh hm) (oModel_r14 hm) ?_
      refine w_ic l_218_34 (by decide) ?_
      refine w_iln l_218_35 rfl ?_
      refine w_mul ((3 * o : Nat) : Int) l_218_36 (by unfold wr; omega) ?_
      refine w_ia (3 * o) 5 l_218_37 (oModel_s14 hm) rfl (by omega) (g1.trans (by rw [hc0]; rfl)) ?_
      refine w_swd 120 l_218_38 (by decide) (by decide) ?_
      refine w_ic l_218_120 (by decide) ?_
      refine w_ir l_218_121 (by decide) ?_
      exact ⟨rfl, rfl⟩

end REI
