/-! the class: a run's doings -/
theorem cS.fr {I J : Ix} {s lo hi : Nat} {h : Hi} {l : Li} {A : Sa} (H : cS I s h l A) (f : fr I J lo hi) (d : hi < s ∨ s + 7 < lo) : cS J s h l A := by
  obtain ⟨h1, h2, h3, h4, h5, h6⟩ := H
  have e : ∀ j, j ≤ 7 → ∀ y, J (s + j) y = I (s + j) y := fun j hj y => f (s + j) (by omega) y
  have e0 : ∀ y, J s y = I s y := fun y => f s (by omega) y
  refine ⟨by rw [e0]; exact h1, ?_, fun p hp hl => ?_, fun p hp => ?_, fun p hp => ?_, fun a ha => ?_⟩
  · obtain ⟨d, g1, g2⟩ := h2
    exact ⟨d, by rw [e0]; exact g1, g2⟩
  · rw [e 1 (by decide)]; exact h3 p hp hl
  · rw [e 2 (by decide)]; exact h4 p hp
  · obtain ⟨g1, g2, g3, g4⟩ := h5 p hp
    exact ⟨by rw [e 3 (by decide)]; exact g1, g2, rowR_eq g3 (fun k _ => e 4 (by decide) _), rowR_eq g4 (fun k _ => e 5 (by decide) _)⟩
  · have g := h6 a ha
    unfold cT at g ⊢
    rw [e 6 (by decide), e 7 (by decide)]
    exact g
/-- what a run of the class holds -/
def cR (I : Ix) (s : Nat) (h : Hi) (l : Li) (r : Ra) : Prop := cS I (s + 6) h l r.1 ∧ cL I (s + 14) r.2
section DOI
variable {xs : List Int} {S : List (Nat × Nat)} {T : Nat → Nat → Nat} {cc zz s x : Nat}

theorem mx_53 : mxl 53 = 4 := by decide +kernel
theorem mt_53 : mtc 53 = 5 := by decide +kernel
theorem rk_53 (as : List AV) : rkA 53 as = 2 := rfl
theorem l_53_0 : look 53 0 = some (.aload_n 0, 1, 0, 0, 0, 0) := by decide +kernel
theorem l_53_1 : look 53 1 = some (.getfield 28, 3, 5, 2, 2, 450) := by decide +kernel
theorem l_53_4 : look 53 4 = some (.aload_n 0, 1, 0, 0, 0, 0) := by decide +kernel
theorem l_53_5 : look 53 5 = some (.getfield 47, 3, 5, 4, 0, 453) := by decide +kernel
theorem l_53_8 : look 53 8 = some (.iload_n 1, 1, 0, 0, 0, 0) := by decide +kernel
theorem l_53_9 : look 53 9 = some (.iconst (-1), 1, 0, 0, 0, 0) := by decide +kernel
theorem l_53_10 : look 53 10 = some (.iload_n 2, 1, 0, 0, 0, 0) := by decide +kernel
theorem l_53_11 : look 53 11 = some (.iload_n 3, 1, 0, 0, 0, 0) := by decide +kernel
theorem l_53_12 : look 53 12 = some (.invokevirtual 123, 3, 19, 6, 0, 666) := by decide +kernel
theorem l_53_15 : look 53 15 = some (.iconst 0, 1, 0, 0, 0, 0) := by decide +kernel
theorem l_53_16 : look 53 16 = some (.ireturn, 1, 0, 0, 0, 0) := by decide +kernel

theorem s_53 {I : Ix} (o : oRun S T s x) {g : Lo} (hL : cL I (s + 14) g) {e k c : Nat} {d : Int} (he : I s 4 = (e : Int)) (hk : k < 120) (hn : g.1.length < 360) : CL xs 53 [vr s, vi ((k : Nat) : Int), vi ((c : Nat) : Int), vi d] (S, I, T, cc, zz) (RP S T cc zz (fun v I' => v = some (vi 0) ∧ cL I' (s + 14) (addDr g e k (-1) c d) ∧ fr I I' (s + 14) (s + 14 + 5))) := by
  refine CL_start (r := 2) (ls := [vr s, vi ((k : Nat) : Int), vi ((c : Nat) : Int), vi d]) (rk_53 _) rfl ?_
  refine w_aln l_53_0 rfl ?_
  refine w_gr l_53_1 (oRun_sh o) (oRun_r2 o) ?_
  refine w_aln l_53_4 rfl ?_
  refine w_gi ((e : Nat) : Int) l_53_5 (oRun_sh o) he ?_
  refine w_iln l_53_8 rfl ?_
  refine w_ic l_53_9 (by decide) ?_
  refine w_iln l_53_10 rfl ?_
  refine w_iln l_53_11 rfl ?_
  refine p_iv [vi ((e : Nat) : Int), vi ((k : Nat) : Int), vi (-1), vi ((c : Nat) : Int), vi d] [] l_53_12 rfl rfl (Nat.le_of_ble_eq_true rfl) (by rw [mx_19]; exact Nat.le_of_ble_eq_true rfl) (by rw [mt_19]; exact oLog_sh (oRun_o2 o)) (by rw [mt_19]; decide) (by rw [rk_19]; decide) (l_addDrop (oRun_o2 o) hL (by omega) hk hn) (fun v I1 hv => ?_)
  obtain ⟨rfl, hL1, hf1⟩ := hv
  refine w_ic l_53_15 (by decide) ?_
  refine w_ir l_53_16 (Or.inl rfl) ?_
  exact ⟨_, _, rfl, rfl, rfl, hL1, hf1⟩

end DOI
