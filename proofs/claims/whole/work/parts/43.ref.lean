/-! the reference: queues and drops -/

def ME (I : Ix) (s e : Nat) (h : Hi) (l : Li) (a : Nat → Nat) (ne np : Nat) : Prop := mH I s h a ne np ∧ nLi I s l ∧ I s 67 = (e : Int) ∧ okHi h ∧ okLi l
theorem ME.H {I : Ix} {s e : Nat} {h : Hi} {l : Li} {a : Nat → Nat} {ne np : Nat} (E : ME I s e h l a ne np) : mH I s h a ne np := E.1
theorem ME.L {I : Ix} {s e : Nat} {h : Hi} {l : Li} {a : Nat → Nat} {ne np : Nat} (E : ME I s e h l a ne np) : nLi I s l := E.2.1
theorem ME.ev {I : Ix} {s e : Nat} {h : Hi} {l : Li} {a : Nat → Nat} {ne np : Nat} (E : ME I s e h l a ne np) : I s 67 = (e : Int) := E.2.2.1
theorem ME.ok {I : Ix} {s e : Nat} {h : Hi} {l : Li} {a : Nat → Nat} {ne np : Nat} (E : ME I s e h l a ne np) : okHi h := E.2.2.2.1
theorem ME.okl {I : Ix} {s e : Nat} {h : Hi} {l : Li} {a : Nat → Nat} {ne np : Nat} (E : ME I s e h l a ne np) : okLi l := E.2.2.2.2
theorem ME.fr {I J : Ix} {s e : Nat} {h : Hi} {l : Li} {a : Nat → Nat} {ne np : Nat} (E : ME I s e h l a ne np) (f : mfr I J s) : ME J s e h l a ne np :=
  ⟨E.H.fr f, E.L.fr f, (f s 67 (fun _ => by decide) (fun e => absurd e (Nat.lt_irrefl s))).trans E.ev, E.ok, E.okl⟩
theorem ME.p4 {I : Ix} {s e : Nat} {h : Hi} {l : Li} {a : Nat → Nat} {ne np p : Nat} (E : ME I s e h l a ne np) (hp : p < lPorts l) : p < 4 := Nat.lt_of_lt_of_le hp E.okl.1
theorem ME.np {I : Ix} {s e : Nat} {h : Hi} {l : Li} {a : Nat → Nat} {ne np k : Nat} (E : ME I s e h l a ne np) (hk : k < np) : k < 120 := by
  have h1 := E.H.1
  have h2 := E.H.2.1
  omega
theorem shift2 {I : Ix} {a b sp n : Nat} (h : a ≠ b) : up (up (cpy (cpy I a (sp + 1) a sp n) b (sp + 1) b sp n) a (sp + n) (I a (sp + n + 1))) b (sp + n) (I b (sp + n + 1)) = cpy (cpy I a (sp + 1) a sp (n + 1)) b (sp + 1) b sp (n + 1) := by
  rw [← cpy_cm h, cpy_s]
  have e : I b (sp + n + 1) = cpy I a (sp + 1) a sp (n + 1) b (sp + n + 1) := (cpy_no (fun q => h q.symm)).symm
  rw [e, cpy_s]
theorem nS_Q {I I' : Ix} {s p : Nat} {l : Li} {A : Sa} {q : List Cp} (hA : nS I s l A) (e0 : I' s 55 = I s 55) (e1 : ∀ y, I' (s + 27) y = I (s + 27) y) (e2 : ∀ y, I' (s + 31) y = I (s + 31) y) (e3 : ∀ y, I' (s + 32) y = I (s + 32) y) (e4 : ∀ y, I' (s + 33) y = I (s + 33) y)
    (e5 : ∀ y, y ≠ p → I' (s + 30) y = I (s + 30) y) (e6 : ∀ y, (y < 100 * p ∨ 100 * p + 100 ≤ y) → I' (s + 28) y = I (s + 28) y ∧ I' (s + 29) y = I (s + 29) y) (g : mQ I' s p q) : nS I' s l (setQ A p q) := by
  obtain ⟨h1, h2, h3, h4, h5⟩ := hA
  refine ⟨by rw [e0]; exact h1, fun x hx => by rw [e1]; exact h2 x hx, fun x hx => ?_, fun x hx => by rw [e2]; exact h4 x hx, fun x hx => ?_⟩
  · rw [sQ_set]
    by_cases hxp : x = p
    · rw [if_pos hxp, hxp]; exact g
    · rw [if_neg hxp]
      obtain ⟨b1, b2, b3⟩ := h3 x hx
      refine ⟨by rw [e5 x hxp]; exact b1, b2, fun k hk => ?_⟩
      have e := e6 (100 * x + k) (by omega)
      rw [e.1, e.2]
      exact b3 k hk
  · have g := h5 x hx
    unfold nT at g ⊢
    rw [e3, e4]
    exact g
section REF
variable {xs : List Int} {S : List (Nat × Nat)} {T : Nat → Nat → Nat} {cc zz s : Nat} {h : Hi} {l : Li} {r : Ra} {I I' : Ix}

theorem mx_212 : mxl 212 = 5 := by decide +kernel
theorem mt_212 : mtc 212 = 10 := by decide +kernel
theorem rk_212 (as : List AV) : rkA 212 as = 0 := rfl
theorem l_212_0 : look 212 0 = some (.aload_n 0, 1, 0, 0, 0, 0) := by decide +kernel
theorem l_212_1 : look 212 1 = some (.getfield 116, 3, 10, 57, 2, 1558) := by decide +kernel
theorem l_212_4 : look 212 4 = some (.bipush 100, 2, 0, 0, 0, 0) := by decide +kernel
theorem l_212_6 : look 212 6 = some (.iload_n 1, 1, 0, 0, 0, 0) := by decide +kernel
theorem l_212_7 : look 212 7 = some (.imul, 1, 0, 0, 0, 0) := by decide +kernel
theorem l_212_8 : look 212 8 = some (.iload_n 2, 1, 0, 0, 0, 0) := by decide +kernel
theorem l_212_9 : look 212 9 = some (.iadd, 1, 0, 0, 0, 0) := by decide +kernel
theorem l_212_10 : look 212 10 = some (.iaload, 1, 0, 0, 0, 0) := by decide +kernel
theorem l_212_11 : look 212 11 = some (.istore_n 3, 1, 0, 0, 0, 0) := by decide +kernel
theorem l_212_12 : look 212 12 = some (.iload_n 2, 1, 0, 0, 0, 0) := by decide +kernel
theorem l_212_13 : look 212 13 = some (.istore 4, 2, 0, 0, 0, 0) := by decide +kernel
theorem l_212_15 : look 212 15 = some (.iload 4, 2, 0, 0, 0, 0) := by decide +kernel
theorem l_212_17 : look 212 17 = some (.iconst 1, 1, 0, 0, 0, 0) := by decide +kernel
theorem l_212_18 : look 212 18 = some (.iadd, 1, 0, 0, 0, 0) := by decide +kernel
theorem l_212_19 : look 212 19 = some (.aload_n 0, 1, 0, 0, 0, 0) := by decide +kernel
theorem l_212_20 : look 212 20 = some (.getfield 122, 3, 10, 59, 2, 1560) := by decide +kernel
theorem l_212_23 : look 212 23 = some (.iload_n 1, 1, 0, 0, 0, 0) := by decide +kernel
theorem l_212_24 : look 212 24 = some (.iaload, 1, 0, 0, 0, 0) := by decide +kernel
theorem l_212_25 : look 212 25 = some (.if_icmp .ge 61, 3, 0, 0, 0, 0) := by decide +kernel
theorem l_212_28 : look 212 28 = some (.aload_n 0, 1, 0, 0, 0, 0) := by decide +kernel
theorem l_212_29 : look 212 29 = some (.getfield 116, 3, 10, 57, 2, 1558) := by decide +kernel
theorem l_212_32 : look 212 32 = some (.bipush 100, 2, 0, 0, 0, 0) := by decide +kernel
theorem l_212_34 : look 212 34 = some (.iload_n 1, 1, 0, 0, 0, 0) := by decide +kernel
theorem l_212_35 : look 212 35 = some (.imul, 1, 0, 0, 0, 0) := by decide +kernel
theorem l_212_36 : look 212 36 = some (.iload 4, 2, 0, 0, 0, 0) := by decide +kernel
theorem l_212_38 : look 212 38 = some (.iadd, 1, 0, 0, 0, 0) := by decide +kernel
theorem l_212_39 : look 212 39 = some (.aload_n 0, 1, 0, 0, 0, 0) := by decide +kernel
theorem l_212_40 : look 212 40 = some (.getfield 116, 3, 10, 57, 2, 1558) := by decide +kernel
theorem l_212_43 : look 212 43 = some (.bipush 100, 2, 0, 0, 0, 0) := by decide +kernel
theorem l_212_45 : look 212 45 = some (.iload_n 1, 1, 0, 0, 0, 0) := by decide +kernel
theorem l_212_46 : look 212 46 = some (.imul, 1, 0, 0, 0, 0) := by decide +kernel
theorem l_212_47 : look 212 47 = some (.iload 4, 2, 0, 0, 0, 0) := by decide +kernel
theorem l_212_49 : look 212 49 = some (.iadd, 1, 0, 0, 0, 0) := by decide +kernel
theorem l_212_50 : look 212 50 = some (.iconst 1, 1, 0, 0, 0, 0) := by decide +kernel
theorem l_212_51 : look 212 51 = some (.iadd, 1, 0, 0, 0, 0) := by decide +kernel
theorem l_212_52 : look 212 52 = some (.iaload, 1, 0, 0, 0, 0) := by decide +kernel
theorem l_212_53 : look 212 53 = some (.iastore, 1, 0, 0, 0, 0) := by decide +kernel
theorem l_212_54 : look 212 54 = some (.aload_n 0, 1, 0, 0, 0, 0) := by decide +kernel
theorem l_212_55 : look 212 55 = some (.getfield 119, 3, 10, 58, 2, 1559) := by decide +kernel
theorem l_212_58 : look 212 58 = some (.bipush 100, 2, 0, 0, 0, 0) := by decide +kernel
theorem l_212_60 : look 212 60 = some (.iload_n 1, 1, 0, 0, 0, 0) := by decide +kernel
theorem l_212_61 : look 212 61 = some (.imul, 1, 0, 0, 0, 0) := by decide +kernel
theorem l_212_62 : look 212 62 = some (.iload 4, 2, 0, 0, 0, 0) := by decide +kernel
theorem l_212_64 : look 212 64 = some (.iadd, 1, 0, 0, 0, 0) := by decide +kernel
theorem l_212_65 : look 212 65 = some (.aload_n 0, 1, 0, 0, 0, 0) := by decide +kernel
theorem l_212_66 : look 212 66 = some (.getfield 119, 3, 10, 58, 2, 1559) := by decide +kernel
theorem l_212_69 : look 212 69 = some (.bipush 100, 2, 0, 0, 0, 0) := by decide +kernel
theorem l_212_71 : look 212 71 = some (.iload_n 1, 1, 0, 0, 0, 0) := by decide +kernel
theorem l_212_72 : look 212 72 = some (.imul, 1, 0, 0, 0, 0) := by decide +kernel
theorem l_212_73 : look 212 73 = some (.iload 4, 2, 0, 0, 0, 0) := by decide +kernel
theorem l_212_75 : look 212 75 = some (.iadd, 1, 0, 0, 0, 0) := by decide +kernel
theorem l_212_76 : look 212 76 = some (.iconst 1, 1, 0, 0, 0, 0) := by decide +kernel
theorem l_212_77 : look 212 77 = some (.iadd, 1, 0, 0, 0, 0) := by decide +kernel
theorem l_212_78 : look 212 78 = some (.iaload, 1, 0, 0, 0, 0) := by decide +kernel
theorem l_212_79 : look 212 79 = some (.iastore, 1, 0, 0, 0, 0) := by decide +kernel
theorem l_212_80 : look 212 80 = some (.iinc 4 1, 3, 0, 0, 0, 0) := by decide +kernel
theorem l_212_83 : look 212 83 = some (.goto (-68), 3, 0, 0, 0, 0) := by decide +kernel
theorem l_212_86 : look 212 86 = some (.aload_n 0, 1, 0, 0, 0, 0) := by decide +kernel
theorem l_212_87 : look 212 87 = some (.getfield 122, 3, 10, 59, 2, 1560) := by decide +kernel
theorem l_212_90 : look 212 90 = some (.iload_n 1, 1, 0, 0, 0, 0) := by decide +kernel
theorem l_212_91 : look 212 91 = some (.dup2, 1, 0, 0, 0, 0) := by decide +kernel
theorem l_212_92 : look 212 92 = some (.iaload, 1, 0, 0, 0, 0) := by decide +kernel
theorem l_212_93 : look 212 93 = some (.iconst 1, 1, 0, 0, 0, 0) := by decide +kernel
theorem l_212_94 : look 212 94 = some (.isub, 1, 0, 0, 0, 0) := by decide +kernel
theorem l_212_95 : look 212 95 = some (.iastore, 1, 0, 0, 0, 0) := by decide +kernel
theorem l_212_96 : look 212 96 = some (.iload_n 3, 1, 0, 0, 0, 0) := by decide +kernel
theorem l_212_97 : look 212 97 = some (.ireturn, 1, 0, 0, 0, 0) := by decide +kernel

theorem lp_212 (hm : oModel S T s) {p i c : Nat} {q : List Cp} (hp : p < 4) (hQ : mQ I s p q) (hi : i < q.length) : ∀ d m, i + m + d + 1 = q.length → WP xs 212 0 15 [vr s, vi ((p : Nat) : Int), vi ((i : Nat) : Int), vi ((c : Nat) : Int), vi (((i + m) : Nat) : Int)] [] (S, (cpy (cpy I (s + 28) (100 * p + i + 1) (s + 28) (100 * p + i) m) (s + 29) (100 * p + i + 1) (s + 29) (100 * p + i) m), T, cc, zz) (FN (some (vi ((c : Nat) : Int))) (S, up (cpy (cpy I (s + 28) (100 * p + i + 1) (s + 28) (100 * p + i) (q.length - i - 1)) (s + 29) (100 * p + i + 1) (s + 29) (100 * p + i) (q.length - i - 1)) (s + 30) p ((q.length - 1 : Nat) : Int), T, cc, zz)) := by
  intro d
  have hQ2 := hQ.2.1
  induction d with
  | zero =>
    intro m hd
    refine w_il l_212_15 rfl ?_
    refine w_ic l_212_17 (by decide) ?_
    refine w_add (((i + m) + 1 : Nat) : Int) l_212_18 (by unfold wr; omega) ?_
    refine w_aln l_212_19 rfl ?_
    refine w_gr l_212_20 (oModel_sh hm) (oModel_r59 hm) ?_
    refine w_iln l_212_23 rfl ?_
    refine w_ia p ((q.length : Nat) : Int) l_212_24 (oModel_s59 hm) rfl (by omega) ((cpy_no (by omega)).trans ((cpy_no (by omega)).trans hQ.1)) ?_
    refine w_cge 86 l_212_25 (by decide) (fun _ => ?_) (fun hx => absurd hx (by omega))
    refine w_aln l_212_86 rfl ?_
    refine w_gr l_212_87 (oModel_sh hm) (oModel_r59 hm) ?_
    refine w_iln l_212_90 rfl ?_
    refine w_dup2 l_212_91 rfl ?_
    refine w_ia p ((q.length : Nat) : Int) l_212_92 (oModel_s59 hm) rfl (by omega) ((cpy_no (by omega)).trans ((cpy_no (by omega)).trans hQ.1)) ?_
    refine w_ic l_212_93 (by decide) ?_
    refine w_sub (((q.length - 1) : Nat) : Int) l_212_94 (by unfold wr; omega) ?_
    refine w_iS p l_212_95 (oModel_s59 hm) rfl (by omega) ?_
    refine w_iln l_212_96 rfl ?_
    refine w_ir l_212_97 (Or.inl rfl) ?_
    have e9 : m = q.length - i - 1 := by omega
    rw [e9]
    exact ⟨rfl, rfl⟩
  | succ d ih =>
    intro m hd
    refine w_il l_212_15 rfl ?_
    refine w_ic l_212_17 (by decide) ?_
    refine w_add (((i + m) + 1 : Nat) : Int) l_212_18 (by unfold wr; omega) ?_
    refine w_aln l_212_19 rfl ?_
    refine w_gr l_212_20 (oModel_sh hm) (oModel_r59 hm) ?_
    refine w_iln l_212_23 rfl ?_
    refine w_ia p ((q.length : Nat) : Int) l_212_24 (oModel_s59 hm) rfl (by omega) ((cpy_no (by omega)).trans ((cpy_no (by omega)).trans hQ.1)) ?_
    refine w_cge 86 l_212_25 (by decide) (fun hx => absurd hx (by omega)) (fun _ => ?_)
    have v28 : (cpy (cpy I (s + 28) (100 * p + i + 1) (s + 28) (100 * p + i) m) (s + 29) (100 * p + i + 1) (s + 29) (100 * p + i) m) (s + 28) (100 * p + (i + m) + 1) = (I (s + 28) (100 * p + i + m + 1)) := by
      rw [show 100 * p + (i + m) + 1 = 100 * p + i + m + 1 by omega, cpy_no (by omega), cpy_nr (by omega)]
    have v29 : (cpy (cpy I (s + 28) (100 * p + i + 1) (s + 28) (100 * p + i) m) (s + 29) (100 * p + i + 1) (s + 29) (100 * p + i) m) (s + 29) (100 * p + (i + m) + 1) = (I (s + 29) (100 * p + i + m + 1)) := by
      rw [show 100 * p + (i + m) + 1 = 100 * p + i + m + 1 by omega, cpy_nr (by omega), cpy_no (by omega)]
    refine w_aln l_212_28 rfl ?_
    refine w_gr l_212_29 (oModel_sh hm) (oModel_r57 hm) ?_
    refine w_bp l_212_32 (by decide) ?_
    refine w_iln l_212_34 rfl ?_
    refine w_mul ((100 * p : Nat) : Int) l_212_35 (by unfold wr; omega) ?_
    refine w_il l_212_36 rfl ?_
    refine w_add ((100 * p + (i + m) : Nat) : Int) l_212_38 (by unfold wr; omega) ?_
    refine w_aln l_212_39 rfl ?_
    refine w_gr l_212_40 (oModel_sh hm) (oModel_r57 hm) ?_
    refine w_bp l_212_43 (by decide) ?_
    refine w_iln l_212_45 rfl ?_
    refine w_mul ((100 * p : Nat) : Int) l_212_46 (by unfold wr; omega) ?_
    refine w_il l_212_47 rfl ?_
    refine w_add ((100 * p + (i + m) : Nat) : Int) l_212_49 (by unfold wr; omega) ?_
    refine w_ic l_212_50 (by decide) ?_
    refine w_add ((100 * p + (i + m) + 1 : Nat) : Int) l_212_51 (by unfold wr; omega) ?_
    refine w_ia (100 * p + (i + m) + 1) (I (s + 28) (100 * p + i + m + 1)) l_212_52 (oModel_s57 hm) rfl (by omega) v28 ?_
    refine w_iS (100 * p + (i + m)) l_212_53 (oModel_s57 hm) rfl (by omega) ?_
    refine w_aln l_212_54 rfl ?_
    refine w_gr l_212_55 (oModel_sh hm) (oModel_r58 hm) ?_
    refine w_bp l_212_58 (by decide) ?_
    refine w_iln l_212_60 rfl ?_
    refine w_mul ((100 * p : Nat) : Int) l_212_61 (by unfold wr; omega) ?_
    refine w_il l_212_62 rfl ?_
    refine w_add ((100 * p + (i + m) : Nat) : Int) l_212_64 (by unfold wr; omega) ?_
    refine w_aln l_212_65 rfl ?_
    refine w_gr l_212_66 (oModel_sh hm) (oModel_r58 hm) ?_
    refine w_bp l_212_69 (by decide) ?_
    refine w_iln l_212_71 rfl ?_
    refine w_mul ((100 * p : Nat) : Int) l_212_72 (by unfold wr; omega) ?_
    refine w_il l_212_73 rfl ?_
    refine w_add ((100 * p + (i + m) : Nat) : Int) l_212_75 (by unfold wr; omega) ?_
    refine w_ic l_212_76 (by decide) ?_
    refine w_add ((100 * p + (i + m) + 1 : Nat) : Int) l_212_77 (by unfold wr; omega) ?_
    refine w_ia (100 * p + (i + m) + 1) (I (s + 29) (100 * p + i + m + 1)) l_212_78 (oModel_s58 hm) rfl (by omega) ((up_no (by omega)).trans (v29)) ?_
    refine w_iS (100 * p + (i + m)) l_212_79 (oModel_s58 hm) rfl (by omega) ?_
    refine w_inc (((i + (m + 1)) : Nat) : Int) l_212_80 rfl rfl (by unfold wr; omega) ?_
    refine w_go 15 l_212_83 (by decide) ?_
    have e9 := shift2 (I := I) (a := s + 28) (b := s + 29) (sp := 100 * p + i) (n := m) (by omega)
    rw [show 100 * p + (i + m) = 100 * p + i + m by omega, e9]
    exact ih (m + 1) (by omega)
theorem s_212 (hm : oModel S T s) {p i : Nat} {q : List Cp} (hp : p < 4) (hQ : mQ I s p q) (hi : i < q.length) : CL xs 212 [vr s, vi ((p : Nat) : Int), vi ((i : Nat) : Int)] (S, I, T, cc, zz) (FN (some (vi (((q.getD i (0, 0)).1 : Nat) : Int))) (S, up (cpy (cpy I (s + 28) (100 * p + i + 1) (s + 28) (100 * p + i) (q.length - i - 1)) (s + 29) (100 * p + i + 1) (s + 29) (100 * p + i) (q.length - i - 1)) (s + 30) p ((q.length - 1 : Nat) : Int), T, cc, zz)) := by
  refine CL_start (r := 0) (ls := [vr s, vi ((p : Nat) : Int), vi ((i : Nat) : Int), vs 2, vs 2]) (rk_212 _) rfl ?_
  have hQ2 := hQ.2.1
  refine w_aln l_212_0 rfl ?_
  refine w_gr l_212_1 (oModel_sh hm) (oModel_r57 hm) ?_
  refine w_bp l_212_4 (by decide) ?_
  refine w_iln l_212_6 rfl ?_
  refine w_mul ((100 * p : Nat) : Int) l_212_7 (by unfold wr; omega) ?_
  refine w_iln l_212_8 rfl ?_
  refine w_add ((100 * p + i : Nat) : Int) l_212_9 (by unfold wr; omega) ?_
  refine w_ia (100 * p + i) (((q.getD i (0, 0)).1 : Nat) : Int) l_212_10 (oModel_s57 hm) rfl (by omega) ((hQ.2.2 i hi).1) ?_
  refine w_isn l_212_11 ⟨Nat.le_of_ble_eq_true rfl, rfl⟩ ?_
  refine w_iln l_212_12 rfl ?_
  refine w_is l_212_13 ⟨Nat.le_of_ble_eq_true rfl, rfl⟩ ?_
  have e9 := lp_212 (xs := xs) (T := T) (cc := cc) (zz := zz) (c := (q.getD i (0, 0)).1) hm hp hQ hi (q.length - i - 1) 0 (by omega)
  rw [cpy_0, cpy_0] at e9
  exact e9

theorem r_takesOut (hm : oModel S T s) (hR : nR I s l r) {p i : Nat} (hp : p < 4) (hi : i < (sQ r.1 p).length) :
    CL xs 212 [vr s, vi ((p : Nat) : Int), vi ((i : Nat) : Int)] (S, I, T, cc, zz) (RP S T cc zz (fun v I' => v = some (vi ((((sQ r.1 p).getD i (0, 0)).1 : Nat) : Int)) ∧ nR I' s l (setQ r.1 p ((sQ r.1 p).eraseIdx i), r.2) ∧ mfc I I' s 0 0)) := by
  have hQ := hR.1.2.2.1 p hp
  have hQ2 := hQ.2.1
  have hle1 := len_e hi
  refine CL_mono (s_212 hm hp hQ hi) ?_
  rintro q m' ⟨rfl, rfl⟩
  refine ⟨_, _, rfl, rfl, rfl, nR_S hR (nS_Q hR.1 ?_ ?_ ?_ ?_ ?_ ?_ ?_ ⟨?_, ?_, fun k hk => ?_⟩) ?_⟩
  · rw [up_no (by omega), cpy_no (by omega), cpy_no (by omega)]
  · intro y; rw [up_no (by omega), cpy_no (by omega), cpy_no (by omega)]
  · intro y; rw [up_no (by omega), cpy_no (by omega), cpy_no (by omega)]
  · intro y; rw [up_no (by omega), cpy_no (by omega), cpy_no (by omega)]
  · intro y; rw [up_no (by omega), cpy_no (by omega), cpy_no (by omega)]
  · intro y hy; rw [up_nj hy, cpy_no (by omega), cpy_no (by omega)]
  · intro y hy
    refine ⟨?_, ?_⟩
    · rw [up_no (by omega), cpy_no (by omega), cpy_nr (by omega)]
    · rw [up_no (by omega), cpy_nr (by omega), cpy_no (by omega)]
  · rw [up_eq, hle1]
  · omega
  · have hk2 : k < (sQ r.1 p).length - 1 := by omega
    rw [getD_e hk]
    by_cases hki : k < i
    · rw [if_pos hki, up_no (by omega), up_no (by omega), cpy_no (by omega), cpy_nr (by omega), cpy_nr (by omega), cpy_no (by omega)]
      exact hQ.2.2 k (by omega)
    · rw [if_neg hki, up_no (by omega), up_no (by omega), cpy_no (by omega), cpy_in (by omega) (by omega), cpy_in (by omega) (by omega), cpy_no (by omega)]
      rw [show 100 * p + i + 1 + (100 * p + k - (100 * p + i)) = 100 * p + (k + 1) by omega]
      exact hQ.2.2 (k + 1) (by omega)
  · intro y z hy1 hy2
    rw [up_no (by intro e; have := hy2 (by omega); omega), cpy_no (by intro e; have := hy2 (by omega); omega), cpy_no (by intro e; have := hy2 (by omega); omega)]

theorem mx_211 : mxl 211 = 6 := by decide +kernel
theorem mt_211 : mtc 211 = 10 := by decide +kernel
theorem rk_211 (as : List AV) : rkA 211 as = 0 := rfl
theorem l_211_0 : look 211 0 = some (.iconst 5, 1, 0, 0, 0, 0) := by decide +kernel
theorem l_211_1 : look 211 1 = some (.aload_n 0, 1, 0, 0, 0, 0) := by decide +kernel
theorem l_211_2 : look 211 2 = some (.getfield 369, 3, 10, 66, 0, 1567) := by decide +kernel
theorem l_211_5 : look 211 5 = some (.imul, 1, 0, 0, 0, 0) := by decide +kernel
theorem l_211_6 : look 211 6 = some (.istore 5, 2, 0, 0, 0, 0) := by decide +kernel
theorem l_211_8 : look 211 8 = some (.aload_n 0, 1, 0, 0, 0, 0) := by decide +kernel
theorem l_211_9 : look 211 9 = some (.getfield 140, 3, 10, 65, 2, 1566) := by decide +kernel
theorem l_211_12 : look 211 12 = some (.iload 5, 2, 0, 0, 0, 0) := by decide +kernel
theorem l_211_14 : look 211 14 = some (.aload_n 0, 1, 0, 0, 0, 0) := by decide +kernel
theorem l_211_15 : look 211 15 = some (.getfield 372, 3, 10, 67, 0, 1568) := by decide +kernel
theorem l_211_18 : look 211 18 = some (.iastore, 1, 0, 0, 0, 0) := by decide +kernel
theorem l_211_19 : look 211 19 = some (.aload_n 0, 1, 0, 0, 0, 0) := by decide +kernel
theorem l_211_20 : look 211 20 = some (.getfield 140, 3, 10, 65, 2, 1566) := by decide +kernel
theorem l_211_23 : look 211 23 = some (.iload 5, 2, 0, 0, 0, 0) := by decide +kernel
theorem l_211_25 : look 211 25 = some (.iconst 1, 1, 0, 0, 0, 0) := by decide +kernel
theorem l_211_26 : look 211 26 = some (.iadd, 1, 0, 0, 0, 0) := by decide +kernel
theorem l_211_27 : look 211 27 = some (.iload_n 1, 1, 0, 0, 0, 0) := by decide +kernel
theorem l_211_28 : look 211 28 = some (.iastore, 1, 0, 0, 0, 0) := by decide +kernel
theorem l_211_29 : look 211 29 = some (.aload_n 0, 1, 0, 0, 0, 0) := by decide +kernel
theorem l_211_30 : look 211 30 = some (.getfield 140, 3, 10, 65, 2, 1566) := by decide +kernel
theorem l_211_33 : look 211 33 = some (.iload 5, 2, 0, 0, 0, 0) := by decide +kernel
theorem l_211_35 : look 211 35 = some (.iconst 2, 1, 0, 0, 0, 0) := by decide +kernel
theorem l_211_36 : look 211 36 = some (.iadd, 1, 0, 0, 0, 0) := by decide +kernel
theorem l_211_37 : look 211 37 = some (.iload_n 2, 1, 0, 0, 0, 0) := by decide +kernel
theorem l_211_38 : look 211 38 = some (.iastore, 1, 0, 0, 0, 0) := by decide +kernel
theorem l_211_39 : look 211 39 = some (.aload_n 0, 1, 0, 0, 0, 0) := by decide +kernel
theorem l_211_40 : look 211 40 = some (.getfield 140, 3, 10, 65, 2, 1566) := by decide +kernel
theorem l_211_43 : look 211 43 = some (.iload 5, 2, 0, 0, 0, 0) := by decide +kernel
theorem l_211_45 : look 211 45 = some (.iconst 3, 1, 0, 0, 0, 0) := by decide +kernel
theorem l_211_46 : look 211 46 = some (.iadd, 1, 0, 0, 0, 0) := by decide +kernel
theorem l_211_47 : look 211 47 = some (.iload_n 3, 1, 0, 0, 0, 0) := by decide +kernel
theorem l_211_48 : look 211 48 = some (.iastore, 1, 0, 0, 0, 0) := by decide +kernel
theorem l_211_49 : look 211 49 = some (.aload_n 0, 1, 0, 0, 0, 0) := by decide +kernel
theorem l_211_50 : look 211 50 = some (.getfield 140, 3, 10, 65, 2, 1566) := by decide +kernel
theorem l_211_53 : look 211 53 = some (.iload 5, 2, 0, 0, 0, 0) := by decide +kernel
theorem l_211_55 : look 211 55 = some (.iconst 4, 1, 0, 0, 0, 0) := by decide +kernel
theorem l_211_56 : look 211 56 = some (.iadd, 1, 0, 0, 0, 0) := by decide +kernel
theorem l_211_57 : look 211 57 = some (.iload 4, 2, 0, 0, 0, 0) := by decide +kernel
theorem l_211_59 : look 211 59 = some (.iastore, 1, 0, 0, 0, 0) := by decide +kernel
theorem l_211_60 : look 211 60 = some (.aload_n 0, 1, 0, 0, 0, 0) := by decide +kernel
theorem l_211_61 : look 211 61 = some (.dup, 1, 0, 0, 0, 0) := by decide +kernel
theorem l_211_62 : look 211 62 = some (.getfield 369, 3, 10, 66, 0, 1567) := by decide +kernel
theorem l_211_65 : look 211 65 = some (.iconst 1, 1, 0, 0, 0, 0) := by decide +kernel
theorem l_211_66 : look 211 66 = some (.iadd, 1, 0, 0, 0, 0) := by decide +kernel
theorem l_211_67 : look 211 67 = some (.putfield 369, 3, 10, 66, 0, 1567) := by decide +kernel
theorem l_211_70 : look 211 70 = some (.iload_n 2, 1, 0, 0, 0, 0) := by decide +kernel
theorem l_211_71 : look 211 71 = some (.iconst (-1), 1, 0, 0, 0, 0) := by decide +kernel
theorem l_211_72 : look 211 72 = some (.if_icmp .eq 14, 3, 0, 0, 0, 0) := by decide +kernel
theorem l_211_75 : look 211 75 = some (.aload_n 0, 1, 0, 0, 0, 0) := by decide +kernel
theorem l_211_76 : look 211 76 = some (.getfield 134, 3, 10, 63, 2, 1564) := by decide +kernel
theorem l_211_79 : look 211 79 = some (.iconst 4, 1, 0, 0, 0, 0) := by decide +kernel
theorem l_211_80 : look 211 80 = some (.iload_n 1, 1, 0, 0, 0, 0) := by decide +kernel
theorem l_211_81 : look 211 81 = some (.imul, 1, 0, 0, 0, 0) := by decide +kernel
theorem l_211_82 : look 211 82 = some (.iload_n 2, 1, 0, 0, 0, 0) := by decide +kernel
theorem l_211_83 : look 211 83 = some (.iadd, 1, 0, 0, 0, 0) := by decide +kernel
theorem l_211_84 : look 211 84 = some (.iconst 3, 1, 0, 0, 0, 0) := by decide +kernel
theorem l_211_85 : look 211 85 = some (.iastore, 1, 0, 0, 0, 0) := by decide +kernel
theorem l_211_86 : look 211 86 = some (.return_, 1, 0, 0, 0, 0) := by decide +kernel

theorem s_211_0 (hm : oModel S T s) {e k c n : Nat} {d : Int} (hk : k < 120) (hn : I s 66 = (n : Int)) (hn1 : n < 360) (hev : I s 67 = (e : Int)) : CL xs 211 [vr s, vi ((k : Nat) : Int), vi (-1), vi ((c : Nat) : Int), vi d] (S, I, T, cc, zz) (FN none (S, up (up (up (up (up (up I (s + 36) (5 * n) ((e : Nat) : Int)) (s + 36) (5 * n + 1) ((k : Nat) : Int)) (s + 36) (5 * n + 2) (-1)) (s + 36) (5 * n + 3) ((c : Nat) : Int)) (s + 36) (5 * n + 4) d) s 66 ((n + 1 : Nat) : Int), T, cc, zz)) := by
  refine CL_start (r := 0) (ls := [vr s, vi ((k : Nat) : Int), vi (-1), vi ((c : Nat) : Int), vi d, vs 2]) (rk_211 _) rfl ?_
  refine w_ic l_211_0 (by decide) ?_
  refine w_aln l_211_1 rfl ?_
  refine w_gi ((n : Nat) : Int) l_211_2 (oModel_sh hm) hn ?_
  refine w_mul ((5 * n : Nat) : Int) l_211_5 (by unfold wr; omega) ?_
  refine w_is l_211_6 ⟨Nat.le_of_ble_eq_true rfl, rfl⟩ ?_
  refine w_aln l_211_8 rfl ?_
  refine w_gr l_211_9 (oModel_sh hm) (oModel_r65 hm) ?_
  refine w_il l_211_12 rfl ?_
  refine w_aln l_211_14 rfl ?_
  refine w_gi ((e : Nat) : Int) l_211_15 (oModel_sh hm) hev ?_
  refine w_iS (5 * n) l_211_18 (oModel_s65 hm) rfl (by omega) ?_
  refine w_aln l_211_19 rfl ?_
  refine w_gr l_211_20 (oModel_sh hm) (oModel_r65 hm) ?_
  refine w_il l_211_23 rfl ?_
  refine w_ic l_211_25 (by decide) ?_
  refine w_add ((5 * n + 1 : Nat) : Int) l_211_26 (by unfold wr; omega) ?_
  refine w_iln l_211_27 rfl ?_
  refine w_iS (5 * n + 1) l_211_28 (oModel_s65 hm) rfl (by omega) ?_
  refine w_aln l_211_29 rfl ?_
  refine w_gr l_211_30 (oModel_sh hm) (oModel_r65 hm) ?_
  refine w_il l_211_33 rfl ?_
  refine w_ic l_211_35 (by decide) ?_
  refine w_add ((5 * n + 2 : Nat) : Int) l_211_36 (by unfold wr; omega) ?_
  refine w_iln l_211_37 rfl ?_
  refine w_iS (5 * n + 2) l_211_38 (oModel_s65 hm) rfl (by omega) ?_
  refine w_aln l_211_39 rfl ?_
  refine w_gr l_211_40 (oModel_sh hm) (oModel_r65 hm) ?_
  refine w_il l_211_43 rfl ?_
  refine w_ic l_211_45 (by decide) ?_
  refine w_add ((5 * n + 3 : Nat) : Int) l_211_46 (by unfold wr; omega) ?_
  refine w_iln l_211_47 rfl ?_
  refine w_iS (5 * n + 3) l_211_48 (oModel_s65 hm) rfl (by omega) ?_
  refine w_aln l_211_49 rfl ?_
  refine w_gr l_211_50 (oModel_sh hm) (oModel_r65 hm) ?_
  refine w_il l_211_53 rfl ?_
  refine w_ic l_211_55 (by decide) ?_
  refine w_add ((5 * n + 4 : Nat) : Int) l_211_56 (by unfold wr; omega) ?_
  refine w_il l_211_57 rfl ?_
  refine w_iS (5 * n + 4) l_211_59 (oModel_s65 hm) rfl (by omega) ?_
  refine w_aln l_211_60 rfl ?_
  refine w_dup l_211_61 rfl ?_
  refine w_gi ((n : Nat) : Int) l_211_62 (oModel_sh hm) ((up_no (by omega)).trans ((up_no (by omega)).trans ((up_no (by omega)).trans ((up_no (by omega)).trans ((up_no (by omega)).trans (hn)))))) ?_
  refine w_ic l_211_65 (by decide) ?_
  refine w_add ((n + 1 : Nat) : Int) l_211_66 (by unfold wr; omega) ?_
  refine w_pi l_211_67 (oModel_sh hm) ?_
  refine w_iln l_211_70 rfl ?_
  refine w_ic l_211_71 (by decide) ?_
  refine w_ceq 86 l_211_72 (by decide) (fun _ => ?_) (fun hx => absurd hx (by decide))
  refine w_vr l_211_86 ?_
  exact ⟨rfl, rfl⟩

theorem s_211_1 (hm : oModel S T s) {e k c n p : Nat} {d : Int} (hk : k < 120) (hn : I s 66 = (n : Int)) (hn1 : n < 360) (hev : I s 67 = (e : Int)) (hp : p < 4) : CL xs 211 [vr s, vi ((k : Nat) : Int), vi ((p : Nat) : Int), vi ((c : Nat) : Int), vi d] (S, I, T, cc, zz) (FN none (S, up (up (up (up (up (up (up I (s + 36) (5 * n) ((e : Nat) : Int)) (s + 36) (5 * n + 1) ((k : Nat) : Int)) (s + 36) (5 * n + 2) ((p : Nat) : Int)) (s + 36) (5 * n + 3) ((c : Nat) : Int)) (s + 36) (5 * n + 4) d) s 66 ((n + 1 : Nat) : Int)) (s + 34) (4 * k + p) 3, T, cc, zz)) := by
  refine CL_start (r := 0) (ls := [vr s, vi ((k : Nat) : Int), vi ((p : Nat) : Int), vi ((c : Nat) : Int), vi d, vs 2]) (rk_211 _) rfl ?_
  refine w_ic l_211_0 (by decide) ?_
  refine w_aln l_211_1 rfl ?_
  refine w_gi ((n : Nat) : Int) l_211_2 (oModel_sh hm) hn ?_
  refine w_mul ((5 * n : Nat) : Int) l_211_5 (by unfold wr; omega) ?_
  refine w_is l_211_6 ⟨Nat.le_of_ble_eq_true rfl, rfl⟩ ?_
  refine w_aln l_211_8 rfl ?_
  refine w_gr l_211_9 (oModel_sh hm) (oModel_r65 hm) ?_
  refine w_il l_211_12 rfl ?_
  refine w_aln l_211_14 rfl ?_
  refine w_gi ((e : Nat) : Int) l_211_15 (oModel_sh hm) hev ?_
  refine w_iS (5 * n) l_211_18 (oModel_s65 hm) rfl (by omega) ?_
  refine w_aln l_211_19 rfl ?_
  refine w_gr l_211_20 (oModel_sh hm) (oModel_r65 hm) ?_
  refine w_il l_211_23 rfl ?_
  refine w_ic l_211_25 (by decide) ?_
  refine w_add ((5 * n + 1 : Nat) : Int) l_211_26 (by unfold wr; omega) ?_
  refine w_iln l_211_27 rfl ?_
  refine w_iS (5 * n + 1) l_211_28 (oModel_s65 hm) rfl (by omega) ?_
  refine w_aln l_211_29 rfl ?_
  refine w_gr l_211_30 (oModel_sh hm) (oModel_r65 hm) ?_
  refine w_il l_211_33 rfl ?_
  refine w_ic l_211_35 (by decide) ?_
  refine w_add ((5 * n + 2 : Nat) : Int) l_211_36 (by unfold wr; omega) ?_
  refine w_iln l_211_37 rfl ?_
  refine w_iS (5 * n + 2) l_211_38 (oModel_s65 hm) rfl (by omega) ?_
  refine w_aln l_211_39 rfl ?_
  refine w_gr l_211_40 (oModel_sh hm) (oModel_r65 hm) ?_
  refine w_il l_211_43 rfl ?_
  refine w_ic l_211_45 (by decide) ?_
  refine w_add ((5 * n + 3 : Nat) : Int) l_211_46 (by unfold wr; omega) ?_
  refine w_iln l_211_47 rfl ?_
  refine w_iS (5 * n + 3) l_211_48 (oModel_s65 hm) rfl (by omega) ?_
  refine w_aln l_211_49 rfl ?_
  refine w_gr l_211_50 (oModel_sh hm) (oModel_r65 hm) ?_
  refine w_il l_211_53 rfl ?_
  refine w_ic l_211_55 (by decide) ?_
  refine w_add ((5 * n + 4 : Nat) : Int) l_211_56 (by unfold wr; omega) ?_
  refine w_il l_211_57 rfl ?_
  refine w_iS (5 * n + 4) l_211_59 (oModel_s65 hm) rfl (by omega) ?_
  refine w_aln l_211_60 rfl ?_
  refine w_dup l_211_61 rfl ?_
  refine w_gi ((n : Nat) : Int) l_211_62 (oModel_sh hm) ((up_no (by omega)).trans ((up_no (by omega)).trans ((up_no (by omega)).trans ((up_no (by omega)).trans ((up_no (by omega)).trans (hn)))))) ?_
  refine w_ic l_211_65 (by decide) ?_
  refine w_add ((n + 1 : Nat) : Int) l_211_66 (by unfold wr; omega) ?_
  refine w_pi l_211_67 (oModel_sh hm) ?_
  refine w_iln l_211_70 rfl ?_
  refine w_ic l_211_71 (by decide) ?_
  refine w_ceq 86 l_211_72 (by decide) (fun hx => absurd hx (by omega)) (fun _ => ?_)
  refine w_aln l_211_75 rfl ?_
  refine w_gr l_211_76 (oModel_sh hm) (oModel_r63 hm) ?_
  refine w_ic l_211_79 (by decide) ?_
  refine w_iln l_211_80 rfl ?_
  refine w_mul ((4 * k : Nat) : Int) l_211_81 (by unfold wr; omega) ?_
  refine w_iln l_211_82 rfl ?_
  refine w_add ((4 * k + p : Nat) : Int) l_211_83 (by unfold wr; omega) ?_
  refine w_ic l_211_84 (by decide) ?_
  refine w_iS (4 * k + p) l_211_85 (oModel_s63 hm) rfl (by omega) ?_
  refine w_vr l_211_86 ?_
  exact ⟨rfl, rfl⟩

theorem r_drops0 (hm : oModel S T s) (hR : nR I s l r) {e k c : Nat} {d : Int} (hev : I s 67 = (e : Int)) (hk : k < 120) (hn : r.2.1.length < 360) :
    CL xs 211 [vr s, vi ((k : Nat) : Int), vi (-1), vi ((c : Nat) : Int), vi d] (S, I, T, cc, zz) (RP S T cc zz (fun v I' => v = none ∧ nR I' s l (r.1, addDr r.2 e k (-1) c d) ∧ mfc I I' s 0 0)) := by
  have hL := hR.2
  refine CL_mono (s_211_0 hm hk hL.1.1 hn hev) ?_
  rintro q m' ⟨rfl, rfl⟩
  refine ⟨none, _, rfl, rfl, rfl, nR_L hR ⟨⟨?_, ?_⟩, fun j hj => ?_, fun k' hk' t ht => ?_, fun p hp' => ?_⟩ ?_⟩
  · rw [up_eq]
    show ((r.2.1.length + 1 : Nat) : Int) = ((r.2.1 ++ [(e, k, (-1), c, d)]).length : Int)
    rw [List.length_append]; rfl
  · show (r.2.1 ++ [(e, k, (-1), c, d)]).length ≤ 360
    rw [List.length_append]
    show r.2.1.length + 1 ≤ 360
    omega
  · have hj1 : j < r.2.1.length + 1 := by
      have h9 : j < (r.2.1 ++ [(e, k, (-1), c, d)]).length := hj
      rw [List.length_append] at h9
      exact h9
    have ea : (addDr r.2 e k (-1) c d).1.getD j dr0 = if j < r.2.1.length then r.2.1.getD j dr0 else (e, k, (-1), c, d) := getD_a hj1
    rw [ea]
    by_cases hj2 : j < r.2.1.length
    · rw [if_pos hj2]
      obtain ⟨q1, q2, q3, q4, q5⟩ := hL.2.1 j hj2
      refine ⟨?_, ?_, ?_, ?_, ?_⟩
      · rw [up_no (by omega), up_nj (by omega), up_nj (by omega), up_nj (by omega), up_nj (by omega), up_nj (by omega)]; exact q1
      · rw [up_no (by omega), up_nj (by omega), up_nj (by omega), up_nj (by omega), up_nj (by omega), up_nj (by omega)]; exact q2
      · rw [up_no (by omega), up_nj (by omega), up_nj (by omega), up_nj (by omega), up_nj (by omega), up_nj (by omega)]; exact q3
      · rw [up_no (by omega), up_nj (by omega), up_nj (by omega), up_nj (by omega), up_nj (by omega), up_nj (by omega)]; exact q4
      · rw [up_no (by omega), up_nj (by omega), up_nj (by omega), up_nj (by omega), up_nj (by omega), up_nj (by omega)]; exact q5
    · rw [if_neg hj2]
      have hj3 : j = r.2.1.length := by omega
      subst hj3
      refine ⟨?_, ?_, ?_, ?_, ?_⟩
      · rw [up_no (by omega), up_nj (by omega), up_nj (by omega), up_nj (by omega), up_nj (by omega), up_eq]
      · rw [up_no (by omega), up_nj (by omega), up_nj (by omega), up_nj (by omega), up_eq]
      · rw [up_no (by omega), up_nj (by omega), up_nj (by omega), up_eq]
      · rw [up_no (by omega), up_nj (by omega), up_eq]
      · rw [up_no (by omega), up_eq]
  · rw [up_no (by omega), up_no (by omega), up_no (by omega), up_no (by omega), up_no (by omega), up_no (by omega)]
    show _ = ((if k' = k ∧ t + 1 = ((-1 : Int) + 1).toNat then 3 else r.2.2.1 k' (t + 1) : Nat) : Int)
    rw [if_neg (by intro q; have h9 : ((-1 : Int) + 1).toNat = 0 := rfl; omega)]
    exact hL.2.2.1 k' hk' t ht
  · rw [up_no (by omega), up_no (by omega), up_no (by omega), up_no (by omega), up_no (by omega), up_no (by omega)]
    exact hL.2.2.2 p hp'
  · intro y z hy1 hy2
    skip
    by_cases hys : y = s
    · rw [hys, up_nj (by have := hy1 hys; omega), up_no (by omega), up_no (by omega), up_no (by omega), up_no (by omega), up_no (by omega)]
    · rw [up_no hys, up_no (by intro e; have := hy2 (by omega); omega), up_no (by intro e; have := hy2 (by omega); omega), up_no (by intro e; have := hy2 (by omega); omega), up_no (by intro e; have := hy2 (by omega); omega), up_no (by intro e; have := hy2 (by omega); omega)]

theorem r_drops1 (hm : oModel S T s) (hR : nR I s l r) {e k c p : Nat} {d : Int} (hev : I s 67 = (e : Int)) (hk : k < 120) (hn : r.2.1.length < 360) (hp : p < 4) :
    CL xs 211 [vr s, vi ((k : Nat) : Int), vi ((p : Nat) : Int), vi ((c : Nat) : Int), vi d] (S, I, T, cc, zz) (RP S T cc zz (fun v I' => v = none ∧ nR I' s l (r.1, addDr r.2 e k ((p : Nat) : Int) c d) ∧ mfc I I' s 0 0)) := by
  have hL := hR.2
  refine CL_mono (s_211_1 hm hk hL.1.1 hn hev hp) ?_
  rintro q m' ⟨rfl, rfl⟩
  refine ⟨none, _, rfl, rfl, rfl, nR_L hR ⟨⟨?_, ?_⟩, fun j hj => ?_, fun k' hk' t ht => ?_, fun p hp' => ?_⟩ ?_⟩
  · rw [up_no (by omega), up_eq]
    show ((r.2.1.length + 1 : Nat) : Int) = ((r.2.1 ++ [(e, k, ((p : Nat) : Int), c, d)]).length : Int)
    rw [List.length_append]; rfl
  · show (r.2.1 ++ [(e, k, ((p : Nat) : Int), c, d)]).length ≤ 360
    rw [List.length_append]
    show r.2.1.length + 1 ≤ 360
    omega
  · have hj1 : j < r.2.1.length + 1 := by
      have h9 : j < (r.2.1 ++ [(e, k, ((p : Nat) : Int), c, d)]).length := hj
      rw [List.length_append] at h9
      exact h9
    have ea : (addDr r.2 e k ((p : Nat) : Int) c d).1.getD j dr0 = if j < r.2.1.length then r.2.1.getD j dr0 else (e, k, ((p : Nat) : Int), c, d) := getD_a hj1
    rw [ea]
    by_cases hj2 : j < r.2.1.length
    · rw [if_pos hj2]
      obtain ⟨q1, q2, q3, q4, q5⟩ := hL.2.1 j hj2
      refine ⟨?_, ?_, ?_, ?_, ?_⟩
      · rw [up_no (by omega), up_no (by omega), up_nj (by omega), up_nj (by omega), up_nj (by omega), up_nj (by omega), up_nj (by omega)]; exact q1
      · rw [up_no (by omega), up_no (by omega), up_nj (by omega), up_nj (by omega), up_nj (by omega), up_nj (by omega), up_nj (by omega)]; exact q2
      · rw [up_no (by omega), up_no (by omega), up_nj (by omega), up_nj (by omega), up_nj (by omega), up_nj (by omega), up_nj (by omega)]; exact q3
      · rw [up_no (by omega), up_no (by omega), up_nj (by omega), up_nj (by omega), up_nj (by omega), up_nj (by omega), up_nj (by omega)]; exact q4
      · rw [up_no (by omega), up_no (by omega), up_nj (by omega), up_nj (by omega), up_nj (by omega), up_nj (by omega), up_nj (by omega)]; exact q5
    · rw [if_neg hj2]
      have hj3 : j = r.2.1.length := by omega
      subst hj3
      refine ⟨?_, ?_, ?_, ?_, ?_⟩
      · rw [up_no (by omega), up_no (by omega), up_nj (by omega), up_nj (by omega), up_nj (by omega), up_nj (by omega), up_eq]
      · rw [up_no (by omega), up_no (by omega), up_nj (by omega), up_nj (by omega), up_nj (by omega), up_eq]
      · rw [up_no (by omega), up_no (by omega), up_nj (by omega), up_nj (by omega), up_eq]
      · rw [up_no (by omega), up_no (by omega), up_nj (by omega), up_eq]
      · rw [up_no (by omega), up_no (by omega), up_eq]
  · skip
    show _ = ((if k' = k ∧ t + 1 = (((p : Nat) : Int) + 1).toNat then 3 else r.2.2.1 k' (t + 1) : Nat) : Int)
    by_cases h9 : k' = k ∧ t = p
    · rw [if_pos ⟨h9.1, by omega⟩, h9.1, h9.2, up_eq]; rfl
    · rw [if_neg (by omega), up_nj (by omega), up_no (by omega), up_no (by omega), up_no (by omega), up_no (by omega), up_no (by omega), up_no (by omega)]
      exact hL.2.2.1 k' hk' t ht
  · rw [up_no (by omega), up_no (by omega), up_no (by omega), up_no (by omega), up_no (by omega), up_no (by omega), up_no (by omega)]
    exact hL.2.2.2 p hp'
  · intro y z hy1 hy2
    rw [up_no (by intro e; have := hy2 (by omega); omega)]
    by_cases hys : y = s
    · rw [hys, up_nj (by have := hy1 hys; omega), up_no (by omega), up_no (by omega), up_no (by omega), up_no (by omega), up_no (by omega)]
    · rw [up_no hys, up_no (by intro e; have := hy2 (by omega); omega), up_no (by intro e; have := hy2 (by omega); omega), up_no (by intro e; have := hy2 (by omega); omega), up_no (by intro e; have := hy2 (by omega); omega), up_no (by intro e; have := hy2 (by omega); omega)]

end REF
