/-! the maker's constructor: the ports -/
section MDB
variable {xs : List Int} {Q : Res → Mem → Prop} {ports : Nat} {cb zb : Nat}

theorem abcl : (stb.getD 28 []).length = 4 := by decide +kernel
theorem abcd : ∀ p, p < 4 → (stb.getD 28 []).getD p 0 = ((97 + p : Nat) : Int) := by decide +kernel
theorem lp1_167 (hp : 2 ≤ ports ∧ ports ≤ 4) (hb : 10000 ≤ zb ∧ 5000 ≤ cb) (KK : ∀ S I T cc zz C t P m, MS [(1, ((ports : Nat) : Int))] C ports t (14 * ports) cb zb S I T cc zz → PAR t P m → NMP P ports 0 C → WP xs 167 35 119 [vr 1, vr 0, vr 166, vi ((ports : Nat) : Int)] [] (S, I, T, cc, zz) Q) :
    ∀ (d p : Nat), ports ≤ p + d → p ≤ ports → ∀ S I T cc zz C t P m, MS [(1, ((ports : Nat) : Int))] C p t (14 * p) cb zb S I T cc zz → PAR t P m → NMP P p 0 C → WP xs 167 35 43 [vr 1, vr 0, vr 166, vi ((p : Nat) : Int)] [] (S, I, T, cc, zz) Q := by
  intro d
  induction d with
  | zero =>
    intro p h1 h2 S I T cc zz C t P m hM hA N
    have hpp : p = ports := by omega
    subst hpp
    refine w_iln l_167_43 rfl ?_
    refine w_aln l_167_44 rfl ?_
    refine w_gin ((p : Nat) : Int) l_167_45 (by decide) hM.b0.2.1 (hM.fx (by simp)) ?_
    exact w_cge 119 l_167_48 (by decide) (fun _ => KK S I T cc zz C t P m hM hA N) (fun hx => absurd hx (by omega))
  | succ d ih =>
    intro p h1 h2 S I T cc zz C t P m hM hA N
    refine w_iln l_167_43 rfl ?_
    refine w_aln l_167_44 rfl ?_
    refine w_gin ((ports : Nat) : Int) l_167_45 (by decide) hM.b0.2.1 (hM.fx (by simp)) ?_
    by_cases hpp : p = ports
    · subst hpp
      exact w_cge 119 l_167_48 (by decide) (fun _ => KK S I T cc zz C t P m hM hA N) (fun hx => absurd hx (by omega))
    refine w_cge 119 l_167_48 (by decide) (fun hx => absurd hx (by omega)) (fun _ => ?_)
    refine w_aln l_167_51 rfl ?_
    refine w_gr l_167_52 hM.b0.2.1 hM.b0.2.2.2.2.1 ?_
    refine w_iln l_167_55 rfl ?_
    refine w_ic l_167_56 (by decide) ?_
    refine w_aln l_167_57 rfl ?_
    refine w_bp l_167_58 (by decide) ?_
    refine m_nx (n := 12) hM l_167_60 rfl (by decide) ⟨Nat.le_of_ble_eq_true rfl, rfl⟩ (by decide) (fun j I hj hM => ?_)
    refine w_add ((3 + j : Nat) : Int) l_167_63 (by unfold wr; omega) ?_
    refine w_iS p l_167_64 hM.b0.2.2.1 rfl (by omega) ?_
    replace hM := hM.c1 (x := 3 + j)
    refine w_aln l_167_65 rfl ?_
    refine w_ldc l_167_66 (by decide) ?_
    refine m_as (q := 27) 6 hM l_167_68 rfl ⟨Nat.le_of_ble_eq_true rfl, rfl⟩ (by rw [rk_196]; decide) (by decide) (by decide) (by omega) hb (fun S I T cc zz hM => ?_)
    refine w_ldc l_167_71 (by decide) ?_
    refine w_iln l_167_73 rfl ?_
    refine q_ivs [vi ((p : Nat) : Int)] [vr 166] l_167_74 rfl rfl (Nat.le_of_ble_eq_true rfl) (by rw [mx_300]; exact Nat.le_of_ble_eq_true rfl) (by decide) mt_300 (by rw [rk_300]; decide) (s_300 (q := 28) (i := p) (b := 97 + p) (by decide) (by rw [abcl]; omega) (abcd p (by omega)) (by omega)) ?_
    refine m_ac (x := 97 + p) hM l_167_77 rfl ⟨Nat.le_of_ble_eq_true rfl, rfl⟩ (by rw [rk_197]; decide) (by omega) (by omega) hb (fun S I T cc zz hM => ?_)
    refine w_ldc l_167_80 (by decide) ?_
    refine m_as (q := 29) 1 hM l_167_82 rfl ⟨Nat.le_of_ble_eq_true rfl, rfl⟩ (by rw [rk_196]; decide) (by decide) (by decide) (by omega) hb (fun S I T cc zz hM => ?_)
    refine w_aln l_167_85 rfl ?_
    refine w_gr l_167_86 hM.b0.2.1 hM.b0.2.2.2.2.1 ?_
    refine w_iln l_167_89 rfl ?_
    refine w_ia p ((3 + j : Nat) : Int) l_167_90 hM.b0.2.2.1 rfl (by omega) (by rw [hM.cx (by omega), fu_e]) ?_
    refine m_an (x := 3 + j) hM l_167_91 rfl ⟨Nat.le_of_ble_eq_true rfl, rfl⟩ (by rw [rk_198]; decide) (by omega) (by omega) hb (fun S I T cc zz hM => ?_)
    refine w_ldc l_167_94 (by decide) ?_
    refine m_as (q := 29) 1 hM l_167_96 rfl ⟨Nat.le_of_ble_eq_true rfl, rfl⟩ (by rw [rk_196]; decide) (by decide) (by decide) (by omega) hb (fun S I T cc zz hM => ?_)
    refine w_aln l_167_99 rfl ?_
    refine w_ic l_167_100 (by decide) ?_
    refine m_nx (n := 3) hM l_167_101 rfl (by decide) ⟨Nat.le_of_ble_eq_true rfl, rfl⟩ (by decide) (fun j2 I hj2 hM => ?_)
    refine m_an (x := j2) hM l_167_104 rfl ⟨Nat.le_of_ble_eq_true rfl, rfl⟩ (by rw [rk_198]; decide) (by omega) (by omega) hb (fun S I T cc zz hM => ?_)
    refine w_ldc l_167_107 (by decide) ?_
    refine m_as (q := 30) 1 hM l_167_109 rfl ⟨Nat.le_of_ble_eq_true rfl, rfl⟩ (by rw [rk_196]; decide) (by decide) (by decide) (by omega) hb (fun S I T cc zz hM => ?_)
    refine w_pop l_167_112 rfl ?_
    refine w_inc ((p + 1 : Nat) : Int) l_167_113 rfl rfl (by unfold wr; omega) ?_
    refine w_go 43 l_167_116 (by decide) ?_
    obtain ⟨P2, hA2, N2⟩ := hA.port (c := 3 + j) (S := j2) N (by omega) (by omega) (by omega)
    have et : t ++ stb.getD 27 [] ++ [((97 + p : Nat) : Int)] ++ stb.getD 29 [] ++ dgz (3 + j) ++ stb.getD 29 [] ++ dgz j2 ++ stb.getD 30 [] = t ++ uPort p (3 + j) j2 := by unfold uPort; simp only [List.append_assoc]
    rw [et] at hM
    exact ih (p + 1) (by omega) (by omega) _ _ _ _ _ _ _ _ _ (hM.lo (Nat.le_refl _) (Nat.le_refl _) (by omega)) hA2 N2

end MDB
