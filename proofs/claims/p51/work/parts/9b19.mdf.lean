/-! contract: the maker's constructor -/
section MDF
variable {xs : List Int} {I : Ix} {T : Nat → Nat → Nat} {cc zz : Nat}

theorem c_167 (hc : 40000 ≤ cc) (hz : 200000 ≤ zz) : CL xs 167 [vr 1, vr 0] ([(0, 11), (0, 10)], I, T, cc, zz) (RX (fun r m1 => r = none ∧ ∃ S1 I1 T1 c1 z1, m1 = (S1, I1, T1, c1, z1) ∧ MPO S1 I1 T1 ∧ cc ≤ c1 + 10000 ∧ zz ≤ z1 + 50000)) := by
  refine CL_mono (Q := RX (fun r m1 => r = none ∧ ∃ S1 I1 T1 c1 z1, m1 = (S1, I1, T1, c1, z1) ∧ MPO S1 I1 T1 ∧ cc - 200 ≤ c1 + 5000 ∧ zz - 25000 ≤ z1 + 10000)) ?_ (fun q m1 ⟨v, h1, h2, S1, I1, T1, c1, z1, h3, h4, h5, h6⟩ => ⟨v, h1, h2, S1, I1, T1, c1, z1, h3, h4, by omega, by omega⟩)
  refine CL_start (r := 35) (ls := [vr 1, vr 0, vs 2, vs 2]) (rk_167 _) rfl ?_
  refine pr_167 (by omega) (by omega) (fun S I T c1 z1 ports hp hM => ?_)
  refine w_ic l_167_41 (by decide) ?_
  refine w_isn l_167_42 ⟨Nat.le_of_ble_eq_true rfl, rfl⟩ ?_
  refine lp1_167 hp (by omega) (fun S I T cc zz C t P m hM hA N => ?_) ports 0 (by omega) (by omega) _ _ _ _ _ _ [] ps0 0 hM PAR.nil ⟨rfl, rfl, fun i hi => absurd hi (Nat.not_lt_zero i), fun i hi => absurd hi (Nat.not_lt_zero i)⟩
  refine md_167 hp (by omega) (fun S I T cc zz space t P m hs hM hA N hbu => ?_) hM hA N
  refine w_aln l_167_223 rfl ?_
  refine w_aln l_167_224 rfl ?_
  refine w_ic l_167_225 (by decide) ?_
  refine m_nx (n := 3) hM l_167_226 rfl (by decide) ⟨Nat.le_of_ble_eq_true rfl, rfl⟩ (by decide) (fun rules I hrules hM => ?_)
  refine w_pif l_167_229 hM.b0.2.1 ?_
  replace hM := hM.f1 (j := 2) (x := ((rules : Nat) : Int)) (by simp)
  refine w_ic l_167_232 (by decide) ?_
  refine w_isn l_167_233 ⟨Nat.le_of_ble_eq_true rfl, rfl⟩ ?_
  exact lp2_167 (rules := rules) hp (by omega) (by omega) (fun S I T cc zz t P m hM hA N hbu => en_167 hp (by omega) (by omega) hM hA N hbu) rules 0 (by omega) (by omega) _ _ _ _ _ _ P m (hM.lo (by omega) (by omega) (by omega)) hA N hbu

end MDF
