/-! the maker's constructor: the settings -/
section MDC
variable {xs : List Int} {Q : Res → Mem → Prop} {ports : Nat} {cb zb : Nat}

theorem md_167 (hp : 2 ≤ ports ∧ ports ≤ 4) (hb : 10000 ≤ zb ∧ 5000 ≤ cb) {C : Nat → Nat} (KK : ∀ S I T cc zz space t P m, 8 ≤ space ∧ space < 38 → MS [(3, ((space : Nat) : Int)), (1, ((ports : Nat) : Int))] C ports t 97 cb zb S I T cc zz → PAR t P m → NMP P ports 0 C → lBuf P.1 = space → WP xs 167 35 223 [vr 1, vr 0, vr 166, vi ((ports : Nat) : Int)] [] (S, I, T, cc, zz) Q) {S : List (Nat × Nat)} {I : Ix} {T : Nat → Nat → Nat} {cc zz : Nat} {t : List Int} {P : Ps} {m : Nat} (hM : MS [(1, ((ports : Nat) : Int))] C ports t (14 * ports) cb zb S I T cc zz) (hA : PAR t P m) (N : NMP P ports 0 C) : WP xs 167 35 119 [vr 1, vr 0, vr 166, vi ((ports : Nat) : Int)] [] (S, I, T, cc, zz) Q := by
  refine w_aln l_167_119 rfl ?_
  refine w_bp l_167_120 (by decide) ?_
  refine w_aln l_167_122 rfl ?_
  refine w_bp l_167_123 (by decide) ?_
  refine m_nx (n := 30) hM l_167_125 rfl (by decide) ⟨Nat.le_of_ble_eq_true rfl, rfl⟩ (by decide) (fun j I hj hM => ?_)
  refine w_add ((8 + j : Nat) : Int) l_167_128 (by unfold wr; omega) ?_
  refine w_pif l_167_129 hM.b0.2.1 ?_
  replace hM := hM.f1 (j := 3) (x := ((8 + j : Nat) : Int)) (by simp)
  refine w_aln l_167_132 rfl ?_
  refine w_ldc l_167_133 (by decide) ?_
  refine m_as (q := 31) 7 hM l_167_135 rfl ⟨Nat.le_of_ble_eq_true rfl, rfl⟩ (by rw [rk_196]; decide) (by decide) (by decide) (by omega) hb (fun S I T cc zz hM => ?_)
  refine w_aln l_167_138 rfl ?_
  refine w_gin ((8 + j : Nat) : Int) l_167_139 (by decide) hM.b0.2.1 (hM.fx (by simp)) ?_
  refine m_an (x := 8 + j) hM l_167_142 rfl ⟨Nat.le_of_ble_eq_true rfl, rfl⟩ (by rw [rk_198]; decide) (by omega) (by omega) hb (fun S I T cc zz hM => ?_)
  refine w_ldc l_167_145 (by decide) ?_
  refine m_as (q := 32) 6 hM l_167_147 rfl ⟨Nat.le_of_ble_eq_true rfl, rfl⟩ (by rw [rk_196]; decide) (by decide) (by decide) (by omega) hb (fun S I T cc zz hM => ?_)
  refine w_ic l_167_150 (by decide) ?_
  refine w_aln l_167_151 rfl ?_
  refine w_bp l_167_152 (by decide) ?_
  refine m_nx (n := 9) hM l_167_154 rfl (by decide) ⟨Nat.le_of_ble_eq_true rfl, rfl⟩ (by decide) (fun j2 I hj2 hM => ?_)
  refine w_add ((2 + j2 : Nat) : Int) l_167_157 (by unfold wr; omega) ?_
  refine m_an (x := 2 + j2) hM l_167_158 rfl ⟨Nat.le_of_ble_eq_true rfl, rfl⟩ (by rw [rk_198]; decide) (by omega) (by omega) hb (fun S I T cc zz hM => ?_)
  refine w_ldc l_167_161 (by decide) ?_
  refine m_as (q := 33) 5 hM l_167_163 rfl ⟨Nat.le_of_ble_eq_true rfl, rfl⟩ (by rw [rk_196]; decide) (by decide) (by decide) (by omega) hb (fun S I T cc zz hM => ?_)
  refine w_aln l_167_166 rfl ?_
  refine w_bp l_167_167 (by decide) ?_
  refine m_nx (n := 12) hM l_167_169 rfl (by decide) ⟨Nat.le_of_ble_eq_true rfl, rfl⟩ (by decide) (fun j3 I hj3 hM => ?_)
  refine m_an (x := j3) hM l_167_172 rfl ⟨Nat.le_of_ble_eq_true rfl, rfl⟩ (by rw [rk_198]; decide) (by omega) (by omega) hb (fun S I T cc zz hM => ?_)
  refine w_ldc l_167_175 (by decide) ?_
  refine m_as (q := 30) 1 hM l_167_177 rfl ⟨Nat.le_of_ble_eq_true rfl, rfl⟩ (by rw [rk_196]; decide) (by decide) (by decide) (by omega) hb (fun S I T cc zz hM => ?_)
  refine w_pop l_167_180 rfl ?_
  refine w_aln l_167_181 rfl ?_
  refine w_ic l_167_182 (by decide) ?_
  refine m_nx (n := 2) hM l_167_183 rfl (by decide) ⟨Nat.le_of_ble_eq_true rfl, rfl⟩ (by decide) (fun j4 I hj4 hM => ?_)
  obtain ⟨P1, A1, N1, b1⟩ := hA.buf (V := 8 + j) N (by omega)
  obtain ⟨P2, A2, N2, b2⟩ := A1.wait (V := 2 + j2) N1 (by omega)
  obtain ⟨P3, A3, N3, b3⟩ := A2.age (V := j3) N2 (by omega)
  rw [uSet_e] at hM
  by_cases hj0 : j4 = 0
  · subst hj0
    refine w_zne 223 l_167_186 (by decide) (fun hx => absurd hx (by decide)) (fun _ => ?_)
    refine w_aln l_167_189 rfl ?_
    refine w_ldc l_167_190 (by decide) ?_
    refine m_as (q := 34) 10 hM l_167_192 rfl ⟨Nat.le_of_ble_eq_true rfl, rfl⟩ (by rw [rk_196]; decide) (by decide) (by decide) (by omega) hb (fun S I T cc zz hM => ?_)
    refine w_aln l_167_195 rfl ?_
    refine w_ic l_167_196 (by decide) ?_
    refine m_nx (n := 5) hM l_167_197 rfl (by decide) ⟨Nat.le_of_ble_eq_true rfl, rfl⟩ (by decide) (fun x I hx hM => ?_)
    refine m_an (x := x) hM l_167_200 rfl ⟨Nat.le_of_ble_eq_true rfl, rfl⟩ (by rw [rk_198]; decide) (by omega) (by omega) hb (fun S I T cc zz hM => ?_)
    refine w_ldc l_167_203 (by decide) ?_
    refine m_as (q := 29) 1 hM l_167_205 rfl ⟨Nat.le_of_ble_eq_true rfl, rfl⟩ (by rw [rk_196]; decide) (by decide) (by decide) (by omega) hb (fun S I T cc zz hM => ?_)
    refine w_aln l_167_208 rfl ?_
    refine w_bp l_167_209 (by decide) ?_
    refine m_nx (n := 15) hM l_167_211 rfl (by decide) ⟨Nat.le_of_ble_eq_true rfl, rfl⟩ (by decide) (fun y I hy hM => ?_)
    refine m_an (x := y) hM l_167_214 rfl ⟨Nat.le_of_ble_eq_true rfl, rfl⟩ (by rw [rk_198]; decide) (by omega) (by omega) hb (fun S I T cc zz hM => ?_)
    refine w_ldc l_167_217 (by decide) ?_
    refine m_as (q := 30) 1 hM l_167_219 rfl ⟨Nat.le_of_ble_eq_true rfl, rfl⟩ (by rw [rk_196]; decide) (by decide) (by decide) (by omega) hb (fun S I T cc zz hM => ?_)
    refine w_pop l_167_222 rfl ?_
    obtain ⟨P4, A4, N4, b4⟩ := A3.pol (R := x) (B := y) N3 (by omega) (by omega) (by omega)
    have et : ∀ T : List Int, T ++ stb.getD 34 [] ++ dgz x ++ stb.getD 29 [] ++ dgz y ++ stb.getD 30 [] = T ++ uPol x y := fun T => by unfold uPol; simp only [List.append_assoc]
    rw [et] at hM
    exact KK _ _ _ _ _ (8 + j) _ P4 _ (by omega) (hM.lo (Nat.le_refl _) (Nat.le_refl _) (by omega)) A4 N4 (by rw [b4, b3, b2, b1])
  · refine w_zne 223 l_167_186 (by decide) (fun _ => ?_) (fun hx => absurd hx (by omega))
    exact KK _ _ _ _ _ (8 + j) _ P3 _ (by omega) (hM.lo (Nat.le_refl _) (Nat.le_refl _) (by omega)) A3 N3 (by rw [b3, b2, b1])

end MDC
