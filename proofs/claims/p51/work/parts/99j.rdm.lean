/-! the class's reader: names, ports, limits -/
def okPs (P : Ps) : Prop := okLi P.1 ∧ (∀ p, lPorts P.1 ≤ p → lPol P.1 p = none) ∧ (∀ r, lIdle P.1 r = false) ∧ (∀ r, lRules P.1 ≤ r → lDrop P.1 r = false) ∧ ∀ p, p < lPorts P.1 → okNm (P.2.1 p)
/-- the settings that the class has read so far, at y; cs the codes of a condition that is being read, behind tot codes -/
def SU (I : Ix) (y : Nat) (P : Ps) (cs : Cd) (tot : Nat) : Prop := cLi I (y + 1) P.1 ∧ I y 2 = ((lRules P.1 : Nat) : Int) ∧ (∀ p, p < lPorts P.1 → I (y + 6) p = ((nvR (P.2.1 p) : Nat) : Int)) ∧ okPs P ∧ cC I y P.1 P.2.2 ∧ I (y + 7) (lRules P.1) = (tot : Int) ∧ I y 5 = ((tot + cs.length : Nat) : Int) ∧ (∀ j, j < cs.length → I (y + 8) (tot + j) = ((itemOf (cs.getD j (0, 0, 0)) : Nat) : Int) ∧ 1 ≤ (cs.getD j (0, 0, 0)).1) ∧ ∀ r, r ≤ lRules P.1 → I (y + 7) r ≤ (tot : Int)
/-- all but the reader's fields and the settings being read -/
def fR (I J : Ix) (s y : Nat) : Prop := ∀ z w, (z = s → w = 0 ∨ w = 3 ∨ w = 4) → (z < y ∨ y + 8 < z ∨ (z = y + 7 ∧ w = 0)) → J z w = I z w
theorem fR.rf (I : Ix) (s y : Nat) : fR I I s y := fun _ _ _ _ => rfl
theorem fR.tr {I J K : Ix} {s y : Nat} (f : fR I J s y) (g : fR J K s y) : fR I K s y := fun z w h h2 => (g z w h h2).trans (f z w h h2)
theorem fS.R {I J : Ix} {s : Nat} (f : fS I J s) (y : Nat) : fR I J s y := fun z w h _ => f z w h
theorem fR.u {I : Ix} {s y j k : Nat} {v : Int} (h : (j = s ∧ k ≠ 0 ∧ k ≠ 3 ∧ k ≠ 4) ∨ (y ≤ j ∧ j ≤ y + 8 ∧ (j = y + 7 → k ≠ 0))) : fR I (up I j k v) s y := fun z w h1 h2 => up_out (by omega)
theorem rTx.fR {I J : Ix} {s x y : Nat} {t : Nat → Int} {n : Nat} (H : rTx I s x t n) (hx : x ≠ s) (hxy : x < y ∧ s < y) (f : fR I J s y) : rTx J s x t n := ⟨(f s 4 (fun _ => by decide) (by omega)).trans H.1, H.2.1, fun j hj => (f x j (fun e => absurd e hx) (by omega)).trans (H.2.2 j hj)⟩
theorem SU.eq {I J : Ix} {y tot : Nat} {P : Ps} {cs : Cd} (Z : SU I y P cs tot) (e : ∀ j, j ≤ 8 → ∀ w, J (y + j) w = I (y + j) w) : SU J y P cs tot := by
  obtain ⟨z1, z2, z3, z4, z5, z6, z7, z8⟩ := Z
  exact ⟨cLi_eq z1 fun j hj w => by rw [Nat.add_assoc]; exact e (1 + j) (by omega) w, (e 0 (by decide) 2).trans z2, fun p hp => (e 6 (by decide) p).trans (z3 p hp), z4, z5.eq e, (e 7 (by decide) _).trans z6, (e 0 (by decide) 5).trans z7, fun j hj => ⟨(e 8 (by decide) _).trans (z8.1 j hj).1, (z8.1 j hj).2⟩, fun r hr => by rw [e 7 (by decide)]; exact z8.2 r hr⟩
theorem SU.fS {I J : Ix} {s y tot : Nat} {P : Ps} {cs : Cd} (Z : SU I y P cs tot) (hs : s < y) (f : fS I J s) : SU J y P cs tot := Z.eq fun j hj w => f _ w (fun e => by omega)
theorem fndF_lt {nm : Nat → List Nat} {w : List Nat} : ∀ d i k, fndF nm w d i = some k → i ≤ k ∧ k < i + d
  | 0, _, _, h => by cases h
  | d + 1, i, k, h => by
    unfold fndF at h
    split at h
    · cases h; omega
    · have := fndF_lt d (i + 1) k h
      omega
section GRN
variable (t : Nat → Int) (n : Nat)
/-- a new port's name -/
def newR (P : Ps) (p : Nat) : PR (List Nat × Nat) := match nameR t n p with
  | .inl e => .inl e
  | .inr w => if (fnd P w).isSome then .inl (3, p) else .inr (w, nxt t n p)
end GRN
theorem portL_new {t : Nat → Int} {n : Nat} {P : Ps} {p : Nat} (h4 : ¬ 4 ≤ lPorts P.1) : portL t n P p = match newR t n P (nxt t n p) with
  | .inl e => .inl e
  | .inr (x, p2) => match numR t n 1 99 p2 with
    | .inl e => .inl e
    | .inr (c, p3) => match numR t n 0 9 p3 with
      | .inl e => .inl e
      | .inr (sp, p4) => .inr (psPort P x c sp, p4) := by
  unfold portL newR
  rw [if_neg h4]
  cases nameR t n (nxt t n p) with
  | inl e => rfl
  | inr w =>
    simp only []
    split <;> rfl
section RDM
variable {xs : List Int} {S : List (Nat × Nat)} {T : Nat → Nat → Nat} {cc zz s x y : Nat} {I I' : Ix} {t : Nat → Int} {n : Nat}

theorem mx_66 : mxl 66 = 1 := by decide +kernel
theorem mt_66 : mtc 66 = 6 := by decide +kernel
theorem rk_66 (as : List AV) : rkA 66 as = 1 := rfl
theorem l_66_0 : look 66 0 = some (.aload_n 0, 1, 0, 0, 0, 0) := by decide +kernel
theorem l_66_1 : look 66 1 = some (.getfield 12, 3, 6, 0, 2, 438) := by decide +kernel
theorem l_66_4 : look 66 4 = some (.invokevirtual 31, 3, 8, 1, 0, 434) := by decide +kernel
theorem l_66_7 : look 66 7 = some (.aload_n 0, 1, 0, 0, 0, 0) := by decide +kernel
theorem l_66_8 : look 66 8 = some (.iconst 0, 1, 0, 0, 0, 0) := by decide +kernel
theorem l_66_9 : look 66 9 = some (.putfield 32, 3, 6, 2, 0, 442) := by decide +kernel
theorem l_66_12 : look 66 12 = some (.aload_n 0, 1, 0, 0, 0, 0) := by decide +kernel
theorem l_66_13 : look 66 13 = some (.iconst 0, 1, 0, 0, 0, 0) := by decide +kernel
theorem l_66_14 : look 66 14 = some (.putfield 36, 3, 6, 5, 0, 447) := by decide +kernel
theorem l_66_17 : look 66 17 = some (.return_, 1, 0, 0, 0, 0) := by decide +kernel
theorem mx_68 : mxl 68 = 3 := by decide +kernel
theorem mt_68 : mtc 68 = 6 := by decide +kernel
theorem rk_68 (as : List AV) : rkA 68 as = 0 := rfl
theorem l_68_0 : look 68 0 = some (.iconst 0, 1, 0, 0, 0, 0) := by decide +kernel
theorem l_68_1 : look 68 1 = some (.istore_n 2, 1, 0, 0, 0, 0) := by decide +kernel
theorem l_68_2 : look 68 2 = some (.iload_n 2, 1, 0, 0, 0, 0) := by decide +kernel
theorem l_68_3 : look 68 3 = some (.aload_n 0, 1, 0, 0, 0, 0) := by decide +kernel
theorem l_68_4 : look 68 4 = some (.getfield 12, 3, 6, 0, 2, 438) := by decide +kernel
theorem l_68_7 : look 68 7 = some (.getfield 39, 3, 1, 0, 0, 376) := by decide +kernel
theorem l_68_10 : look 68 10 = some (.if_icmp .ge 21, 3, 0, 0, 0, 0) := by decide +kernel
theorem l_68_13 : look 68 13 = some (.aload_n 0, 1, 0, 0, 0, 0) := by decide +kernel
theorem l_68_14 : look 68 14 = some (.getfield 18, 3, 6, 1, 2, 441) := by decide +kernel
theorem l_68_17 : look 68 17 = some (.iload_n 2, 1, 0, 0, 0, 0) := by decide +kernel
theorem l_68_18 : look 68 18 = some (.iaload, 1, 0, 0, 0, 0) := by decide +kernel
theorem l_68_19 : look 68 19 = some (.iload_n 1, 1, 0, 0, 0, 0) := by decide +kernel
theorem l_68_20 : look 68 20 = some (.if_icmp .ne 5, 3, 0, 0, 0, 0) := by decide +kernel
theorem l_68_23 : look 68 23 = some (.iload_n 2, 1, 0, 0, 0, 0) := by decide +kernel
theorem l_68_24 : look 68 24 = some (.ireturn, 1, 0, 0, 0, 0) := by decide +kernel
theorem l_68_25 : look 68 25 = some (.iinc 2 1, 3, 0, 0, 0, 0) := by decide +kernel
theorem l_68_28 : look 68 28 = some (.goto (-26), 3, 0, 0, 0, 0) := by decide +kernel
theorem l_68_31 : look 68 31 = some (.iconst (-1), 1, 0, 0, 0, 0) := by decide +kernel
theorem l_68_32 : look 68 32 = some (.ireturn, 1, 0, 0, 0, 0) := by decide +kernel
theorem lp_68 (os : oSetup S T y) {np : Nat} {nm : Nat → List Nat} {w : List Nat} (hnp : I (y + 1) 0 = ((np : Nat) : Int)) (hnp4 : np ≤ 4) (hN : ∀ p, p < np → okNm (nm p) ∧ I (y + 6) p = ((nvR (nm p) : Nat) : Int)) (hw : ∀ a, a ∈ w → 1 ≤ a ∧ a ≤ 26) : ∀ d i, i + d = np → WP xs 68 0 2 [vr y, vi (((nvR w) : Nat) : Int), vi ((i : Nat) : Int)] [] (S, I, T, cc, zz) (FN (some (vi (ruleI (fndF nm w d i)))) (S, I, T, cc, zz)) := by
  intro d
  induction d with
  | zero =>
    intro i hi
    refine w_iln l_68_2 rfl ?_
    refine w_aln l_68_3 rfl ?_
    refine w_gr l_68_4 (oSetup_sh os) (oSetup_r0 os) ?_
    refine w_gi ((np : Nat) : Int) l_68_7 (oLimits_sh (oSetup_o0 os)) hnp ?_
    refine w_cge 31 l_68_10 (by decide) (fun _ => ?_) (fun hx => absurd hx (by omega))
    refine w_ic l_68_31 (by decide) ?_
    refine w_ir l_68_32 (Or.inl rfl) ?_
    exact ⟨rfl, rfl⟩
  | succ d ih =>
    intro i hi
    refine w_iln l_68_2 rfl ?_
    refine w_aln l_68_3 rfl ?_
    refine w_gr l_68_4 (oSetup_sh os) (oSetup_r0 os) ?_
    refine w_gi ((np : Nat) : Int) l_68_7 (oLimits_sh (oSetup_o0 os)) hnp ?_
    refine w_cge 31 l_68_10 (by decide) (fun hx => absurd hx (by omega)) (fun _ => ?_)
    refine w_aln l_68_13 rfl ?_
    refine w_gr l_68_14 (oSetup_sh os) (oSetup_r1 os) ?_
    refine w_iln l_68_17 rfl ?_
    refine w_ia i (((nvR (nm i)) : Nat) : Int) l_68_18 (oSetup_s1 os) rfl (by omega) ((hN i (by omega)).2) ?_
    refine w_iln l_68_19 rfl ?_
    refine w_cne 25 l_68_20 (by decide) (fun h1 => ?_) (fun h1 => ?_)
    · skip
      refine w_inc ((i + 1 : Nat) : Int) l_68_25 rfl rfl (by unfold wr; omega) ?_
      refine w_go 2 l_68_28 (by decide) ?_
      rw [show fndF nm w (d + 1) i = fndF nm w d (i + 1) by
        show (if nm i = w then some i else fndF nm w d (i + 1)) = _
        rw [if_neg (fun q => h1 (by rw [q]))]]
      exact ih (i + 1) (by omega)
    · skip
      refine w_iln l_68_23 rfl ?_
      refine w_ir l_68_24 (Or.inl rfl) ?_
      have e9 : nm i = w := nvR_inj _ _ (hN i (by omega)).1.2 hw (by omega)
      rw [show fndF nm w (d + 1) i = some i by unfold fndF; rw [if_pos e9]]
      exact ⟨rfl, rfl⟩
theorem s_68 (os : oSetup S T y) {np : Nat} {nm : Nat → List Nat} {w : List Nat} (hnp : I (y + 1) 0 = ((np : Nat) : Int)) (hnp4 : np ≤ 4) (hN : ∀ p, p < np → okNm (nm p) ∧ I (y + 6) p = ((nvR (nm p) : Nat) : Int)) (hw : ∀ a, a ∈ w → 1 ≤ a ∧ a ≤ 26) : CL xs 68 [vr y, vi (((nvR w) : Nat) : Int)] (S, I, T, cc, zz) (FN (some (vi (ruleI (fndF nm w np 0)))) (S, I, T, cc, zz)) := by
  refine CL_start (r := 0) (ls := [vr y, vi (((nvR w) : Nat) : Int), vs 2]) (rk_68 _) rfl ?_
  refine w_ic l_68_0 (by decide) ?_
  refine w_isn l_68_1 ⟨Nat.le_of_ble_eq_true rfl, rfl⟩ ?_
  exact lp_68 os hnp hnp4 hN hw np 0 (Nat.zero_add _)

theorem mx_38 : mxl 38 = 3 := by decide +kernel
theorem mt_38 : mtc 38 = 4 := by decide +kernel
theorem rk_38 (as : List AV) : rkA 38 as = 1 := rfl
theorem l_38_0 : look 38 0 = some (.aload_n 0, 1, 0, 0, 0, 0) := by decide +kernel
theorem l_38_1 : look 38 1 = some (.getfield 47, 3, 4, 7, 0, 471) := by decide +kernel
theorem l_38_4 : look 38 4 = some (.iconst 1, 1, 0, 0, 0, 0) := by decide +kernel
theorem l_38_5 : look 38 5 = some (.if_icmp .ne 17, 3, 0, 0, 0, 0) := by decide +kernel
theorem l_38_8 : look 38 8 = some (.aload_n 0, 1, 0, 0, 0, 0) := by decide +kernel
theorem l_38_9 : look 38 9 = some (.getfield 38, 3, 4, 5, 0, 469) := by decide +kernel
theorem l_38_12 : look 38 12 = some (.aload_n 0, 1, 0, 0, 0, 0) := by decide +kernel
theorem l_38_13 : look 38 13 = some (.getfield 79, 3, 4, 6, 0, 470) := by decide +kernel
theorem l_38_16 : look 38 16 = some (.isub, 1, 0, 0, 0, 0) := by decide +kernel
theorem l_38_17 : look 38 17 = some (.bipush 6, 2, 0, 0, 0, 0) := by decide +kernel
theorem l_38_19 : look 38 19 = some (.if_icmp .le 9, 3, 0, 0, 0, 0) := by decide +kernel
theorem l_38_22 : look 38 22 = some (.aload_n 0, 1, 0, 0, 0, 0) := by decide +kernel
theorem l_38_23 : look 38 23 = some (.iconst 1, 1, 0, 0, 0, 0) := by decide +kernel
theorem l_38_24 : look 38 24 = some (.invokevirtual 94, 3, 33, 2, 0, 1066) := by decide +kernel
theorem l_38_27 : look 38 27 = some (.ireturn, 1, 0, 0, 1, 0) := by decide +kernel
theorem l_38_28 : look 38 28 = some (.aload_n 0, 1, 0, 0, 0, 0) := by decide +kernel
theorem l_38_29 : look 38 29 = some (.iconst 0, 1, 0, 0, 0, 0) := by decide +kernel
theorem l_38_30 : look 38 30 = some (.putfield 103, 3, 4, 8, 0, 472) := by decide +kernel
theorem l_38_33 : look 38 33 = some (.aload_n 0, 1, 0, 0, 0, 0) := by decide +kernel
theorem l_38_34 : look 38 34 = some (.getfield 79, 3, 4, 6, 0, 470) := by decide +kernel
theorem l_38_37 : look 38 37 = some (.istore_n 2, 1, 0, 0, 0, 0) := by decide +kernel
theorem l_38_38 : look 38 38 = some (.iload_n 2, 1, 0, 0, 0, 0) := by decide +kernel
theorem l_38_39 : look 38 39 = some (.aload_n 0, 1, 0, 0, 0, 0) := by decide +kernel
theorem l_38_40 : look 38 40 = some (.getfield 38, 3, 4, 5, 0, 469) := by decide +kernel
theorem l_38_43 : look 38 43 = some (.if_icmp .ge 31, 3, 0, 0, 0, 0) := by decide +kernel
theorem l_38_46 : look 38 46 = some (.aload_n 0, 1, 0, 0, 0, 0) := by decide +kernel
theorem l_38_47 : look 38 47 = some (.aload_n 0, 1, 0, 0, 0, 0) := by decide +kernel
theorem l_38_48 : look 38 48 = some (.getfield 103, 3, 4, 8, 0, 472) := by decide +kernel
theorem l_38_51 : look 38 51 = some (.iconst 5, 1, 0, 0, 0, 0) := by decide +kernel
theorem l_38_52 : look 38 52 = some (.ishl, 1, 0, 0, 0, 0) := by decide +kernel
theorem l_38_53 : look 38 53 = some (.aload_n 0, 1, 0, 0, 0, 0) := by decide +kernel
theorem l_38_54 : look 38 54 = some (.getfield 25, 3, 4, 3, 2, 467) := by decide +kernel
theorem l_38_57 : look 38 57 = some (.iload_n 2, 1, 0, 0, 0, 0) := by decide +kernel
theorem l_38_58 : look 38 58 = some (.baload, 1, 0, 0, 0, 0) := by decide +kernel
theorem l_38_59 : look 38 59 = some (.bipush 97, 2, 0, 0, 0, 0) := by decide +kernel
theorem l_38_61 : look 38 61 = some (.isub, 1, 0, 0, 0, 0) := by decide +kernel
theorem l_38_62 : look 38 62 = some (.iconst 1, 1, 0, 0, 0, 0) := by decide +kernel
theorem l_38_63 : look 38 63 = some (.iadd, 1, 0, 0, 0, 0) := by decide +kernel
theorem l_38_64 : look 38 64 = some (.ior, 1, 0, 0, 0, 0) := by decide +kernel
theorem l_38_65 : look 38 65 = some (.putfield 103, 3, 4, 8, 0, 472) := by decide +kernel
theorem l_38_68 : look 38 68 = some (.iinc 2 1, 3, 0, 0, 0, 0) := by decide +kernel
theorem l_38_71 : look 38 71 = some (.goto (-33), 3, 0, 0, 0, 0) := by decide +kernel
theorem l_38_74 : look 38 74 = some (.aload_n 0, 1, 0, 0, 0, 0) := by decide +kernel
theorem l_38_75 : look 38 75 = some (.aload_n 0, 1, 0, 0, 0, 0) := by decide +kernel
theorem l_38_76 : look 38 76 = some (.getfield 12, 3, 4, 0, 2, 461) := by decide +kernel
theorem l_38_79 : look 38 79 = some (.aload_n 0, 1, 0, 0, 0, 0) := by decide +kernel
theorem l_38_80 : look 38 80 = some (.getfield 103, 3, 4, 8, 0, 472) := by decide +kernel
theorem l_38_83 : look 38 83 = some (.invokevirtual 106, 3, 68, 2, 0, 1074) := by decide +kernel
theorem l_38_86 : look 38 86 = some (.putfield 110, 3, 4, 9, 0, 473) := by decide +kernel
theorem l_38_89 : look 38 89 = some (.iload_n 1, 1, 0, 0, 0, 0) := by decide +kernel
theorem l_38_90 : look 38 90 = some (.ifCond .eq 14, 3, 0, 0, 0, 0) := by decide +kernel
theorem l_38_93 : look 38 93 = some (.aload_n 0, 1, 0, 0, 0, 0) := by decide +kernel
theorem l_38_94 : look 38 94 = some (.getfield 110, 3, 4, 9, 0, 473) := by decide +kernel
theorem l_38_97 : look 38 97 = some (.iconst (-1), 1, 0, 0, 0, 0) := by decide +kernel
theorem l_38_98 : look 38 98 = some (.if_icmp .eq 20, 3, 0, 0, 0, 0) := by decide +kernel
theorem l_38_101 : look 38 101 = some (.goto 11, 3, 0, 0, 0, 0) := by decide +kernel
theorem l_38_104 : look 38 104 = some (.aload_n 0, 1, 0, 0, 0, 0) := by decide +kernel
theorem l_38_105 : look 38 105 = some (.getfield 110, 3, 4, 9, 0, 473) := by decide +kernel
theorem l_38_108 : look 38 108 = some (.iconst (-1), 1, 0, 0, 0, 0) := by decide +kernel
theorem l_38_109 : look 38 109 = some (.if_icmp .ne 9, 3, 0, 0, 0, 0) := by decide +kernel
theorem l_38_112 : look 38 112 = some (.aload_n 0, 1, 0, 0, 0, 0) := by decide +kernel
theorem l_38_113 : look 38 113 = some (.iconst 3, 1, 0, 0, 0, 0) := by decide +kernel
theorem l_38_114 : look 38 114 = some (.invokevirtual 94, 3, 33, 2, 0, 1066) := by decide +kernel
theorem l_38_117 : look 38 117 = some (.ireturn, 1, 0, 0, 1, 0) := by decide +kernel
theorem l_38_118 : look 38 118 = some (.aload_n 0, 1, 0, 0, 0, 0) := by decide +kernel
theorem l_38_119 : look 38 119 = some (.invokevirtual 44, 3, 32, 1, 0, 1051) := by decide +kernel
theorem l_38_122 : look 38 122 = some (.iconst 1, 1, 0, 0, 0, 0) := by decide +kernel
theorem l_38_123 : look 38 123 = some (.ireturn, 1, 0, 0, 1, 0) := by decide +kernel
theorem lp_38 (o : oReader S T s x y) {p : Nat} (H : RT I s x t n p) {u : Int} {e : Nat} {Q : Res → Mem → Prop} (he3 : e ≤ 6) (hte : tEnd t n p = p + e) (hlt : ∀ j, j < e → 97 ≤ t (p + j) ∧ t (p + j) ≤ 122) (kk : ∀ J l3, J s 8 = ((nvR (nmL t p e) : Nat) : Int) → (∀ z w, (z = s → w ≠ 8) → J z w = I z w) → WP xs 38 1 74 [vr s, vi u, vi l3] [] (S, J, T, cc, zz) Q) : ∀ d j J, j + d = e → J s 8 = ((nvR (nmL t p j) : Nat) : Int) → (∀ z w, (z = s → w ≠ 8) → J z w = I z w) → WP xs 38 1 38 [vr s, vi u, vi (((p + j) : Nat) : Int)] [] (S, J, T, cc, zz) Q := by
  intro d
  have hpn := H.2.2.2.2
  have h600 := H.1.2.1
  have hten := tEnd_le (t := t) (n := n) (p := p) hpn
  induction d with
  | zero =>
    intro j J hj h10 f
    refine w_iln l_38_38 rfl ?_
    refine w_aln l_38_39 rfl ?_
    refine w_gi (((tEnd t n p) : Nat) : Int) l_38_40 (oReader_sh o) ((f s 5 (fun _ => by decide)).trans H.2.1) ?_
    refine w_cge 74 l_38_43 (by decide) (fun _ => ?_) (fun hx => absurd hx (by omega))
    have e9 : j = e := by omega
    rw [e9] at h10
    exact kk J _ h10 f
  | succ d ih =>
    intro j J hj h10 f
    have hb := nvR_lt (nmL t p j) (nmL_ok j (fun i hi => hlt i (by omega)))
    rw [nmL_len] at hb
    have hb2 : 32 ^ j ≤ 32 ^ 5 := Nat.pow_le_pow_right (by decide) (by omega)
    have hd1 := hlt j (by omega)
    refine w_iln l_38_38 rfl ?_
    refine w_aln l_38_39 rfl ?_
    refine w_gi (((tEnd t n p) : Nat) : Int) l_38_40 (oReader_sh o) ((f s 5 (fun _ => by decide)).trans H.2.1) ?_
    refine w_cge 74 l_38_43 (by decide) (fun hx => absurd hx (by omega)) (fun _ => ?_)
    refine w_aln l_38_46 rfl ?_
    refine w_aln l_38_47 rfl ?_
    refine w_gi (((nvR (nmL t p j)) : Nat) : Int) l_38_48 (oReader_sh o) h10 ?_
    refine w_ic l_38_51 (by decide) ?_
    refine w_shl (((nvR (nmL t p j) * 2 ^ 5) : Nat) : Int) l_38_52 (shl_n (k := 5) (by decide) (by omega)) ?_
    refine w_aln l_38_53 rfl ?_
    refine w_gr l_38_54 (oReader_sh o) (oReader_r3 o) ?_
    refine w_iln l_38_57 rfl ?_
    refine w_ba (p + j) (t (p + j)) l_38_58 (Or.inl (oReader_s3 o)) rfl (by omega) ((f x _ (fun e => absurd e (oReader_ne o))).trans (H.1.2.2 (p + j) (by omega))) ?_
    refine w_bp l_38_59 (by decide) ?_
    refine w_sub (t (p + j) - 97) l_38_61 (by unfold wr; omega) ?_
    refine w_ic l_38_62 (by decide) ?_
    refine w_add ((((t (p + j) - 96).toNat) : Nat) : Int) l_38_63 (by unfold wr; omega) ?_
    refine w_or (((nvR (nmL t p (j + 1))) : Nat) : Int) l_38_64 (by
        rw [or_nn (by omega) (by omega)]
        congr 1
        have e8 := Nat.shiftLeft_add_eq_or_of_lt (i := 5) (show (t (p + j) - 96).toNat < 2 ^ 5 by omega) (nvR (nmL t p j))
        rw [Nat.shiftLeft_eq] at e8
        rw [← e8]
        show nvR (nmL t p j) * 2 ^ 5 + _ = (t (p + j) - 96).toNat + 32 * nvR (nmL t p j)
        omega) ?_
    refine w_pi l_38_65 (oReader_sh o) ?_
    refine w_inc (((p + j) + 1 : Nat) : Int) l_38_68 rfl rfl (by unfold wr; omega) ?_
    refine w_go 38 l_38_71 (by decide) ?_
    exact ih (j + 1) _ (by omega) up_eq (fun z w h => (up_out (by have := h; omega)).trans (f z w h))
theorem s_38_1 (o : oReader S T s x y) {p : Nat} (H : RT I s x t n p) (hsy : s < y) {P : Ps} {cs : Cd} {tot : Nat} (Z : SU I y P cs tot) : CL xs 38 [vr s, vi 1] (S, I, T, cc, zz) (RP S T cc zz (fun v I' => fS I I' s ∧ RO I s v I' (newR t n P p) (fun a => rTk I' s t n a.2 ∧ I' s 8 = ((nvR a.1 : Nat) : Int) ∧ okNm a.1))) := by
  refine CL_start (r := 1) (ls := [vr s, vi 1, vs 2]) (rk_38 _) rfl ?_
  have hpn := H.2.2.2.2
  have h600 := H.1.2.1
  have hte := tEnd_le (t := t) (n := n) (p := p) hpn
  have htg := tEnd_ge (t := t) (n := n) (p := p)
  refine w_aln l_38_0 rfl ?_
  refine w_gi (((tkk t n p) : Nat) : Int) l_38_1 (oReader_sh o) H.2.2.2.1 ?_
  refine w_ic l_38_4 (by decide) ?_
  refine w_cne 22 l_38_5 (by decide) (fun h1 => ?_) (fun h1 => ?_)
  · skip
    refine w_aln l_38_22 rfl ?_
    refine w_ic l_38_23 (by decide) ?_
    refine q_iv [vi 1] [] l_38_24 rfl rfl (Nat.le_of_ble_eq_true rfl) (by rw [mx_33]; exact Nat.le_of_ble_eq_true rfl) (by rw [mt_33]; exact oReader_sh o) (by rw [mt_33]; decide) (by rw [rk_33]; decide) (s_33 (k := 1) o H.2.2.1) ?_
    refine w_ir l_38_27 (by decide) ?_
    have hr : newR t n P p = .inl (1, p) := by
      have hnm : nameR t n p = .inl (1, p) := by
        unfold nameR
        rw [if_pos (by
          by_cases q : tkk t n p = 1
          · have hk2 := tkk_1.mp q
            have hwe : wEnd t n p = tEnd t n p := by
              unfold tEnd
              rw [if_pos hk2.1, if_pos (isLo_iff.mpr hk2.2)]
            rw [hwe]
            omega
          · exact Or.inl q)]
      unfold newR
      rw [hnm]
    exact ⟨_, _, rfl, rfl, ((fS.rf I s).up (by decide)).up (by decide), by rw [hr]; exact ⟨rfl, (up_nj (by decide)).trans up_eq, up_eq⟩⟩
  · skip
    refine w_aln l_38_8 rfl ?_
    refine w_gi (((tEnd t n p) : Nat) : Int) l_38_9 (oReader_sh o) H.2.1 ?_
    refine w_aln l_38_12 rfl ?_
    refine w_gi ((p : Nat) : Int) l_38_13 (oReader_sh o) H.2.2.1 ?_
    refine w_sub (((tEnd t n p - p) : Nat) : Int) l_38_16 (by unfold wr; omega) ?_
    refine w_bp l_38_17 (by decide) ?_
    refine w_cle 28 l_38_19 (by decide) (fun h2 => ?_) (fun h2 => ?_)
    · skip
      have hk2 := tkk_1.mp (show tkk t n p = 1 by omega)
      have hwe : wEnd t n p = tEnd t n p := by
        unfold tEnd
        rw [if_pos hk2.1, if_pos (isLo_iff.mpr hk2.2)]
      have hlt : ∀ j, j < tEnd t n p - p → 97 ≤ t (p + j) ∧ t (p + j) ≤ 122 := fun j hj => isLo_iff.mp (runX_all _ _ _ (by omega) (show p + j < wEnd t n p by omega)).1
      have hok : okNm (nmL t p (tEnd t n p - p)) := ⟨by rw [nmL_len]; omega, nmL_ok _ hlt⟩
      have hnm : nameR t n p = .inr (nmL t p (tEnd t n p - p)) := by
        unfold nameR
        rw [if_neg (by rw [hwe]; omega), hwe]
      refine w_aln l_38_28 rfl ?_
      refine w_ic l_38_29 (by decide) ?_
      refine w_pi l_38_30 (oReader_sh o) ?_
      refine w_aln l_38_33 rfl ?_
      refine w_gi ((p : Nat) : Int) l_38_34 (oReader_sh o) ((up_nj (by omega)).trans (H.2.2.1)) ?_
      refine w_isn l_38_37 ⟨Nat.le_of_ble_eq_true rfl, rfl⟩ ?_
      refine lp_38 (u := 1) (e := tEnd t n p - p) (I := I) o H (by omega) (by omega) hlt (fun J l3 h10 f => ?_) (tEnd t n p - p) 0 _ (Nat.zero_add _) up_eq (fun z w h => up_out (by have := h; omega))
      refine w_aln l_38_74 rfl ?_
      refine w_aln l_38_75 rfl ?_
      refine w_gr l_38_76 (oReader_sh o) (oReader_r0 o) ?_
      refine w_aln l_38_79 rfl ?_
      refine w_gi (((nvR (nmL t p (tEnd t n p - p))) : Nat) : Int) l_38_80 (oReader_sh o) h10 ?_
      refine q_iv [vi (((nvR (nmL t p (tEnd t n p - p))) : Nat) : Int)] [vr s] l_38_83 rfl rfl (Nat.le_of_ble_eq_true rfl) (by rw [mx_68]; exact Nat.le_of_ble_eq_true rfl) (by rw [mt_68]; exact oSetup_sh (oReader_o0 o)) (by rw [mt_68]; decide) (by rw [rk_68]; decide) (s_68 (oReader_o0 o) (nm := P.2.1) (w := (nmL t p (tEnd t n p - p))) ((f _ _ (fun e => by omega)).trans Z.1.1) Z.2.2.2.1.1.1 (fun p hp => ⟨Z.2.2.2.1.2.2.2.2 p hp, (f _ _ (fun e => by omega)).trans (Z.2.2.1 p hp)⟩) hok.2) ?_
      refine w_pi l_38_86 (oReader_sh o) ?_
      refine w_iln l_38_89 rfl ?_
      refine w_zeq 104 l_38_90 (by decide) (fun hx => absurd hx (by decide)) (fun _ => ?_)
      refine w_aln l_38_93 rfl ?_
      refine w_gi (ruleI (fndF P.2.1 (nmL t p (tEnd t n p - p)) (lPorts P.1) 0)) l_38_94 (oReader_sh o) up_eq ?_
      refine w_ic l_38_97 (by decide) ?_
      refine w_ceq 118 l_38_98 (by decide) (fun h3 => ?_) (fun h3 => ?_)
      · skip
        refine w_aln l_38_118 rfl ?_
        refine p_iv [] [] l_38_119 rfl rfl (Nat.le_of_ble_eq_true rfl) (by rw [mx_32]; exact Nat.le_of_ble_eq_true rfl) (by rw [mt_32]; exact oReader_sh o) (by rw [mt_32]; decide) (by rw [rk_32]; decide) (s_32 o (H.1.fS (oReader_ne o) (fun z w h => (up_out (by have := h; omega)).trans (f z w (fun e => by have := h e; omega)))) hte ((up_nj (by decide)).trans ((f s 5 (fun _ => by decide)).trans H.2.1))) (fun v I1 hv => ?_)
        obtain ⟨rfl, hk, f1⟩ := hv
        refine w_ic l_38_122 (by decide) ?_
        refine w_ir l_38_123 (by decide) ?_
        have hr : newR t n P p = .inr ((nmL t p (tEnd t n p - p)), nxt t n p) := by
          unfold newR
          rw [hnm]
          show (if (fnd P (nmL t p (tEnd t n p - p))).isSome then _ else _) = _
          rw [if_neg (by
            cases hf : fnd P (nmL t p (tEnd t n p - p)) with
            | none => decide
            | some i =>
              exfalso
              rw [show fndF P.2.1 (nmL t p (tEnd t n p - p)) (lPorts P.1) 0 = some i from hf] at h3
              have h3 : ((i : Nat) : Int) = -1 := h3
              omega)]
        exact ⟨_, _, rfl, rfl, fun z w h => (f1 z w (fun e => by have := h e; omega)).trans ((up_out (by have := h; omega)).trans (f z w (fun e => by have := h e; omega))), by rw [hr]; exact ⟨rfl, ⟨(f1 s 1 (fun _ => by decide)).trans ((up_nj (by decide)).trans (f s 1 (fun _ => by decide))), (f1 s 2 (fun _ => by decide)).trans ((up_nj (by decide)).trans (f s 2 (fun _ => by decide)))⟩, hk, (f1 s 8 (fun _ => by decide)).trans ((up_nj (by decide)).trans h10), hok⟩⟩
      · skip
        refine w_go 112 l_38_101 (by decide) ?_
        refine w_aln l_38_112 rfl ?_
        refine w_ic l_38_113 (by decide) ?_
        refine q_iv [vi 3] [] l_38_114 rfl rfl (Nat.le_of_ble_eq_true rfl) (by rw [mx_33]; exact Nat.le_of_ble_eq_true rfl) (by rw [mt_33]; exact oReader_sh o) (by rw [mt_33]; decide) (by rw [rk_33]; decide) (s_33 (k := 3) o ((up_nj (by decide)).trans ((f s 6 (fun _ => by decide)).trans H.2.2.1))) ?_
        refine w_ir l_38_117 (by decide) ?_
        have hr : newR t n P p = .inl (3, p) := by
          unfold newR
          rw [hnm]
          show (if (fnd P (nmL t p (tEnd t n p - p))).isSome then _ else _) = _
          rw [if_pos (by cases hf : fnd P (nmL t p (tEnd t n p - p)) with | none => (exfalso; rw [show fndF P.2.1 (nmL t p (tEnd t n p - p)) (lPorts P.1) 0 = none from hf] at h3; exact h3 rfl) | some i => rfl)]
        exact ⟨_, _, rfl, rfl, fun z w h => (up_out (by have := h; omega)).trans ((up_out (by have := h; omega)).trans ((up_out (by have := h; omega)).trans (f z w (fun e => by have := h e; omega)))), by rw [hr]; exact ⟨rfl, (up_nj (by decide)).trans up_eq, up_eq⟩⟩
    · skip
      refine w_aln l_38_22 rfl ?_
      refine w_ic l_38_23 (by decide) ?_
      refine q_iv [vi 1] [] l_38_24 rfl rfl (Nat.le_of_ble_eq_true rfl) (by rw [mx_33]; exact Nat.le_of_ble_eq_true rfl) (by rw [mt_33]; exact oReader_sh o) (by rw [mt_33]; decide) (by rw [rk_33]; decide) (s_33 (k := 1) o H.2.2.1) ?_
      refine w_ir l_38_27 (by decide) ?_
      have hr : newR t n P p = .inl (1, p) := by
        have hnm : nameR t n p = .inl (1, p) := by
          unfold nameR
          rw [if_pos (by
            by_cases q : tkk t n p = 1
            · have hk2 := tkk_1.mp q
              have hwe : wEnd t n p = tEnd t n p := by
                unfold tEnd
                rw [if_pos hk2.1, if_pos (isLo_iff.mpr hk2.2)]
              rw [hwe]
              omega
            · exact Or.inl q)]
        unfold newR
        rw [hnm]
      exact ⟨_, _, rfl, rfl, ((fS.rf I s).up (by decide)).up (by decide), by rw [hr]; exact ⟨rfl, (up_nj (by decide)).trans up_eq, up_eq⟩⟩

theorem s_38_0 (o : oReader S T s x y) {p : Nat} (H : RT I s x t n p) (hsy : s < y) {P : Ps} {cs : Cd} {tot : Nat} (Z : SU I y P cs tot) : CL xs 38 [vr s, vi 0] (S, I, T, cc, zz) (RP S T cc zz (fun v I' => fS I I' s ∧ RO I s v I' (portR t n P p) (fun a => rTk I' s t n a.2 ∧ I' s 9 = ((a.1 : Nat) : Int) ∧ a.1 < lPorts P.1))) := by
  refine CL_start (r := 1) (ls := [vr s, vi 0, vs 2]) (rk_38 _) rfl ?_
  have hpn := H.2.2.2.2
  have h600 := H.1.2.1
  have hte := tEnd_le (t := t) (n := n) (p := p) hpn
  have htg := tEnd_ge (t := t) (n := n) (p := p)
  refine w_aln l_38_0 rfl ?_
  refine w_gi (((tkk t n p) : Nat) : Int) l_38_1 (oReader_sh o) H.2.2.2.1 ?_
  refine w_ic l_38_4 (by decide) ?_
  refine w_cne 22 l_38_5 (by decide) (fun h1 => ?_) (fun h1 => ?_)
  · skip
    refine w_aln l_38_22 rfl ?_
    refine w_ic l_38_23 (by decide) ?_
    refine q_iv [vi 1] [] l_38_24 rfl rfl (Nat.le_of_ble_eq_true rfl) (by rw [mx_33]; exact Nat.le_of_ble_eq_true rfl) (by rw [mt_33]; exact oReader_sh o) (by rw [mt_33]; decide) (by rw [rk_33]; decide) (s_33 (k := 1) o H.2.2.1) ?_
    refine w_ir l_38_27 (by decide) ?_
    have hr : portR t n P p = .inl (1, p) := by
      have hnm : nameR t n p = .inl (1, p) := by
        unfold nameR
        rw [if_pos (by
          by_cases q : tkk t n p = 1
          · have hk2 := tkk_1.mp q
            have hwe : wEnd t n p = tEnd t n p := by
              unfold tEnd
              rw [if_pos hk2.1, if_pos (isLo_iff.mpr hk2.2)]
            rw [hwe]
            omega
          · exact Or.inl q)]
      unfold portR
      rw [hnm]
    exact ⟨_, _, rfl, rfl, ((fS.rf I s).up (by decide)).up (by decide), by rw [hr]; exact ⟨rfl, (up_nj (by decide)).trans up_eq, up_eq⟩⟩
  · skip
    refine w_aln l_38_8 rfl ?_
    refine w_gi (((tEnd t n p) : Nat) : Int) l_38_9 (oReader_sh o) H.2.1 ?_
    refine w_aln l_38_12 rfl ?_
    refine w_gi ((p : Nat) : Int) l_38_13 (oReader_sh o) H.2.2.1 ?_
    refine w_sub (((tEnd t n p - p) : Nat) : Int) l_38_16 (by unfold wr; omega) ?_
    refine w_bp l_38_17 (by decide) ?_
    refine w_cle 28 l_38_19 (by decide) (fun h2 => ?_) (fun h2 => ?_)
    · skip
      have hk2 := tkk_1.mp (show tkk t n p = 1 by omega)
      have hwe : wEnd t n p = tEnd t n p := by
        unfold tEnd
        rw [if_pos hk2.1, if_pos (isLo_iff.mpr hk2.2)]
      have hlt : ∀ j, j < tEnd t n p - p → 97 ≤ t (p + j) ∧ t (p + j) ≤ 122 := fun j hj => isLo_iff.mp (runX_all _ _ _ (by omega) (show p + j < wEnd t n p by omega)).1
      have hok : okNm (nmL t p (tEnd t n p - p)) := ⟨by rw [nmL_len]; omega, nmL_ok _ hlt⟩
      have hnm : nameR t n p = .inr (nmL t p (tEnd t n p - p)) := by
        unfold nameR
        rw [if_neg (by rw [hwe]; omega), hwe]
      refine w_aln l_38_28 rfl ?_
      refine w_ic l_38_29 (by decide) ?_
      refine w_pi l_38_30 (oReader_sh o) ?_
      refine w_aln l_38_33 rfl ?_
      refine w_gi ((p : Nat) : Int) l_38_34 (oReader_sh o) ((up_nj (by omega)).trans (H.2.2.1)) ?_
      refine w_isn l_38_37 ⟨Nat.le_of_ble_eq_true rfl, rfl⟩ ?_
      refine lp_38 (u := 0) (e := tEnd t n p - p) (I := I) o H (by omega) (by omega) hlt (fun J l3 h10 f => ?_) (tEnd t n p - p) 0 _ (Nat.zero_add _) up_eq (fun z w h => up_out (by have := h; omega))
      refine w_aln l_38_74 rfl ?_
      refine w_aln l_38_75 rfl ?_
      refine w_gr l_38_76 (oReader_sh o) (oReader_r0 o) ?_
      refine w_aln l_38_79 rfl ?_
      refine w_gi (((nvR (nmL t p (tEnd t n p - p))) : Nat) : Int) l_38_80 (oReader_sh o) h10 ?_
      refine q_iv [vi (((nvR (nmL t p (tEnd t n p - p))) : Nat) : Int)] [vr s] l_38_83 rfl rfl (Nat.le_of_ble_eq_true rfl) (by rw [mx_68]; exact Nat.le_of_ble_eq_true rfl) (by rw [mt_68]; exact oSetup_sh (oReader_o0 o)) (by rw [mt_68]; decide) (by rw [rk_68]; decide) (s_68 (oReader_o0 o) (nm := P.2.1) (w := (nmL t p (tEnd t n p - p))) ((f _ _ (fun e => by omega)).trans Z.1.1) Z.2.2.2.1.1.1 (fun p hp => ⟨Z.2.2.2.1.2.2.2.2 p hp, (f _ _ (fun e => by omega)).trans (Z.2.2.1 p hp)⟩) hok.2) ?_
      refine w_pi l_38_86 (oReader_sh o) ?_
      refine w_iln l_38_89 rfl ?_
      refine w_zeq 104 l_38_90 (by decide) (fun _ => ?_) (fun hx => absurd hx (by decide))
      refine w_aln l_38_104 rfl ?_
      refine w_gi (ruleI (fndF P.2.1 (nmL t p (tEnd t n p - p)) (lPorts P.1) 0)) l_38_105 (oReader_sh o) up_eq ?_
      refine w_ic l_38_108 (by decide) ?_
      refine w_cne 118 l_38_109 (by decide) (fun h3 => ?_) (fun h3 => ?_)
      · skip
        refine w_aln l_38_118 rfl ?_
        refine p_iv [] [] l_38_119 rfl rfl (Nat.le_of_ble_eq_true rfl) (by rw [mx_32]; exact Nat.le_of_ble_eq_true rfl) (by rw [mt_32]; exact oReader_sh o) (by rw [mt_32]; decide) (by rw [rk_32]; decide) (s_32 o (H.1.fS (oReader_ne o) (fun z w h => (up_out (by have := h; omega)).trans (f z w (fun e => by have := h e; omega)))) hte ((up_nj (by decide)).trans ((f s 5 (fun _ => by decide)).trans H.2.1))) (fun v I1 hv => ?_)
        obtain ⟨rfl, hk, f1⟩ := hv
        refine w_ic l_38_122 (by decide) ?_
        refine w_ir l_38_123 (by decide) ?_
        cases hf : fnd P (nmL t p (tEnd t n p - p)) with
        | none =>
          exfalso
          rw [show fndF P.2.1 (nmL t p (tEnd t n p - p)) (lPorts P.1) 0 = none from hf] at h3
          exact h3 rfl
        | some i =>
          have hf2 : fndF P.2.1 (nmL t p (tEnd t n p - p)) (lPorts P.1) 0 = some i := hf
          have hr : portR t n P p = .inr (i, nxt t n p) := by
            unfold portR
            rw [hnm]
            show (match fnd P (nmL t p (tEnd t n p - p)) with | none => _ | some i => _) = _
            rw [hf]
          have h9 := (f1 s 9 (fun _ => by decide)).trans up_eq
          rw [hf2] at h9
          exact ⟨_, _, rfl, rfl, fun z w h => (f1 z w (fun e => by have := h e; omega)).trans ((up_out (by have := h; omega)).trans (f z w (fun e => by have := h e; omega))), by rw [hr]; exact ⟨rfl, ⟨(f1 s 1 (fun _ => by decide)).trans ((up_nj (by decide)).trans (f s 1 (fun _ => by decide))), (f1 s 2 (fun _ => by decide)).trans ((up_nj (by decide)).trans (f s 2 (fun _ => by decide)))⟩, hk, h9, by have := fndF_lt _ _ _ hf2; omega⟩⟩
      · skip
        refine w_aln l_38_112 rfl ?_
        refine w_ic l_38_113 (by decide) ?_
        refine q_iv [vi 3] [] l_38_114 rfl rfl (Nat.le_of_ble_eq_true rfl) (by rw [mx_33]; exact Nat.le_of_ble_eq_true rfl) (by rw [mt_33]; exact oReader_sh o) (by rw [mt_33]; decide) (by rw [rk_33]; decide) (s_33 (k := 3) o ((up_nj (by decide)).trans ((f s 6 (fun _ => by decide)).trans H.2.2.1))) ?_
        refine w_ir l_38_117 (by decide) ?_
        have hr : portR t n P p = .inl (3, p) := by
          unfold portR
          rw [hnm]
          show (match fnd P (nmL t p (tEnd t n p - p)) with | none => _ | some i => _) = _
          cases hf : fnd P (nmL t p (tEnd t n p - p)) with
          | none => rfl
          | some i =>
            exfalso
            rw [show fndF P.2.1 (nmL t p (tEnd t n p - p)) (lPorts P.1) 0 = some i from hf] at h3
            have h3 : ((i : Nat) : Int) = -1 := h3
            omega
        exact ⟨_, _, rfl, rfl, fun z w h => (up_out (by have := h; omega)).trans ((up_out (by have := h; omega)).trans ((up_out (by have := h; omega)).trans (f z w (fun e => by have := h e; omega)))), by rw [hr]; exact ⟨rfl, (up_nj (by decide)).trans up_eq, up_eq⟩⟩
    · skip
      refine w_aln l_38_22 rfl ?_
      refine w_ic l_38_23 (by decide) ?_
      refine q_iv [vi 1] [] l_38_24 rfl rfl (Nat.le_of_ble_eq_true rfl) (by rw [mx_33]; exact Nat.le_of_ble_eq_true rfl) (by rw [mt_33]; exact oReader_sh o) (by rw [mt_33]; decide) (by rw [rk_33]; decide) (s_33 (k := 1) o H.2.2.1) ?_
      refine w_ir l_38_27 (by decide) ?_
      have hr : portR t n P p = .inl (1, p) := by
        have hnm : nameR t n p = .inl (1, p) := by
          unfold nameR
          rw [if_pos (by
            by_cases q : tkk t n p = 1
            · have hk2 := tkk_1.mp q
              have hwe : wEnd t n p = tEnd t n p := by
                unfold tEnd
                rw [if_pos hk2.1, if_pos (isLo_iff.mpr hk2.2)]
              rw [hwe]
              omega
            · exact Or.inl q)]
        unfold portR
        rw [hnm]
      exact ⟨_, _, rfl, rfl, ((fS.rf I s).up (by decide)).up (by decide), by rw [hr]; exact ⟨rfl, (up_nj (by decide)).trans up_eq, up_eq⟩⟩

end RDM
