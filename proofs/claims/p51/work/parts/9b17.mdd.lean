/-! the maker's constructor: the rules -/
section MDD
variable {xs : List Int} {Q : Res → Mem → Prop} {ports rules space : Nat} {cb zb : Nat}

theorem st_l : (stb.getD 35 []).length = 4 ∧ (stb.getD 36 []).length = 4 ∧ (stb.getD 38 []).length = 4 ∧ (stb.getD 39 []).length = 0 ∧ (stb.getD 40 []).length = 7 ∧ (stb.getD 41 []).length = 8 ∧ (stb.getD 42 []).length = 10 ∧ (stb.getD 43 []).length = 1 ∧ (stb.getD 44 []).length = 23 := by decide +kernel
theorem dgz_2 (n : Nat) : (dgz n).length ≤ 2 := by rw [dgz_l]; split <;> omega
theorem uAtom_l (sz : Bool) (x y : Nat) : (uAtom sz x y).length ≤ 23 := by
  have h := st_l
  have h1 := dgz_2 x
  have h2 := dgz_2 y
  unfold uAtom
  split
  · rw [List.length_append]; omega
  · rw [List.length_append, List.length_append, List.length_append, List.length_append]; omega

/-- from the atom's text on -/
theorem ra_167 {k : Nat} (hk : k < 2) (hp : 2 ≤ ports ∧ ports ≤ 4) (hb : 20000 ≤ zb ∧ 10000 ≤ cb) {C : Nat → Nat} {t : List Int} (ps ng sz : Bool) (x y : Nat)
    (KK : ∀ (oo : Bool) S I T cc zz, MS [(2, ((rules : Nat) : Int)), (3, ((space : Nat) : Int)), (1, ((ports : Nat) : Int))] C ports (t ++ uRule ps ng oo (uAtom sz x y)) (97 + 59 * (k + 1)) (cb - 1000 * (k + 1)) (zb - 2000 * (k + 1)) S I T cc zz → WP xs 167 35 234 [vr 1, vr 0, vr 166, vi ((k + 1 : Nat) : Int)] [] (S, I, T, cc, zz) Q) {S : List (Nat × Nat)} {I : Ix} {T : Nat → Nat → Nat} {cc zz o : Nat}
    (hM : MOz [(2, ((rules : Nat) : Int)), (3, ((space : Nat) : Int)), (1, ((ports : Nat) : Int))] C ports (t ++ stb.getD (if ps then 35 else 36) [] ++ stb.getD 37 [] ++ stb.getD (if ng then 38 else 39) []) (97 + 59 * k + 12) (cb - 1000 * k - 700) (zb - 2000 * k - 1600) o (uAtom sz x y) S I T cc zz) : WP xs 167 35 364 [vr 1, vr 0, vr 166, vi ((k : Nat) : Int)] [vr o, vr 166] (S, I, T, cc, zz) Q := by
  have hb2 : 10000 ≤ zb - 2000 * k - 1600 ∧ 5000 ≤ cb - 1000 * k - 700 := by omega
  refine m_ao (n := 23) hM l_167_364 rfl ⟨Nat.le_of_ble_eq_true rfl, rfl⟩ (by rw [rk_196]; decide) (uAtom_l sz x y) (by omega) hb2 (fun S I T cc zz hM => ?_)
  refine w_aln l_167_367 rfl ?_
  refine w_ic l_167_368 (by decide) ?_
  refine m_nx (n := 3) hM l_167_369 rfl (by decide) ⟨Nat.le_of_ble_eq_true rfl, rfl⟩ (by decide) (fun j I hj hM => ?_)
  have k382 : ∀ (oo : Bool), WP xs 167 35 382 [vr 1, vr 0, vr 166, vi ((k : Nat) : Int)] [vs (2 * (if oo then 44 else 39) + 4), vr 166] (S, I, T, cc, zz) Q := by
    intro oo
    have hl := st_l
    refine m_as (q := if oo then 44 else 39) 23 hM l_167_382 rfl ⟨Nat.le_of_ble_eq_true rfl, rfl⟩ (by rw [rk_196]; decide) (by cases oo <;> decide) (by cases oo <;> simp only [if_true, if_false, Bool.false_eq_true] <;> omega) (by omega) hb2 (fun S I T cc zz hM => ?_)
    refine w_ldc l_167_385 (by decide) ?_
    refine m_as (q := 30) 1 hM l_167_387 rfl ⟨Nat.le_of_ble_eq_true rfl, rfl⟩ (by rw [rk_196]; decide) (by decide) (by decide) (by omega) hb2 (fun S I T cc zz hM => ?_)
    refine w_pop l_167_390 rfl ?_
    refine w_inc ((k + 1 : Nat) : Int) l_167_391 rfl rfl (by unfold wr; omega) ?_
    refine w_go 234 l_167_394 (by decide) ?_
    have et : t ++ stb.getD (if ps then 35 else 36) [] ++ stb.getD 37 [] ++ stb.getD (if ng then 38 else 39) [] ++ uAtom sz x y ++ stb.getD (if oo then 44 else 39) [] ++ stb.getD 30 [] = t ++ uRule ps ng oo (uAtom sz x y) := by unfold uRule; simp only [List.append_assoc]
    rw [et] at hM
    exact KK oo _ _ _ _ _ (hM.lo (by omega) (by omega) (by omega))
  by_cases hj0 : j = 0
  · subst hj0
    refine w_zne 380 l_167_372 (by decide) (fun hx => absurd hx (by decide)) (fun _ => ?_)
    refine w_ldc l_167_375 (by decide) ?_
    refine w_go 382 l_167_377 (by decide) ?_
    exact k382 true
  · refine w_zne 380 l_167_372 (by decide) (fun _ => ?_) (fun hx => absurd hx (by omega))
    refine w_ldc l_167_380 (by decide) ?_
    exact k382 false

theorem MOz.lo {fs : List (Nat × Int)} {C : Nat → Nat} {k : Nat} {t u : List Int} {B o : Nat} {S : List (Nat × Nat)} {I : Ix} {T : Nat → Nat → Nat} {cc zz cb' zb' : Nat} (h : MOz fs C k t B cb zb o u S I T cc zz) (h1 : cb' ≤ cb) (h2 : zb' ≤ zb) : MOz fs C k t B cb' zb' o u S I T cc zz := by
  obtain ⟨N, cap, g1, g2, g3, g4, g5, g6⟩ := h
  exact ⟨N, cap, g1, g2, g3, g4, by omega, by omega⟩

/-- the atom -/
theorem at_167 {k : Nat} (hk : k < 2) (hb : 20000 ≤ zb ∧ 10000 ≤ cb) {C : Nat → Nat} {t : List Int} {B : Nat} (hB : B ≤ 200) {S : List (Nat × Nat)} {I : Ix} {T : Nat → Nat → Nat} {cc zz : Nat}
    (hM : MS [(2, ((rules : Nat) : Int)), (3, ((space : Nat) : Int)), (1, ((ports : Nat) : Int))] C ports t B (cb - 1000 * k) (zb - 2000 * k) S I T cc zz)
    (K364 : ∀ (sz : Bool) (x y : Nat), (if sz = true then 3 ≤ x ∧ x < 9 ∧ y = 0 else x < 6 ∧ y < 6) → ∀ S I T cc zz o, MOz [(2, ((rules : Nat) : Int)), (3, ((space : Nat) : Int)), (1, ((ports : Nat) : Int))] C ports t B (cb - 1000 * k - 700) (zb - 2000 * k - 1600) o (uAtom sz x y) S I T cc zz → WP xs 167 35 364 [vr 1, vr 0, vr 166, vi ((k : Nat) : Int)] [vr o, vr 166] (S, I, T, cc, zz) Q) : WP xs 167 35 284 [vr 1, vr 0, vr 166, vi ((k : Nat) : Int)] [vr 166] (S, I, T, cc, zz) Q := by
  have hl := st_l
  refine w_aln l_167_284 rfl ?_
  refine w_ic l_167_285 (by decide) ?_
  refine m_nx (n := 2) hM l_167_286 rfl (by decide) ⟨Nat.le_of_ble_eq_true rfl, rfl⟩ (by decide) (fun j I hj hM => ?_)
  by_cases hj0 : j = 0
  · subst hj0
    refine w_zne 321 l_167_289 (by decide) (fun hx => absurd hx (by decide)) (fun _ => ?_)
    refine i_new hM l_167_292 l_167_295 l_167_296 (Nat.le_of_ble_eq_true rfl) (by decide) (by omega) (fun S I T cc zz b hM => ?_)
    refine w_ldc l_167_299 (by decide) ?_
    refine i_as (q := 40) hM l_167_301 rfl ⟨Nat.le_of_ble_eq_true rfl, rfl⟩ (by rw [rk_196]; decide) (by decide) (by simp only [List.length_append, List.length_nil]; omega) (by omega) (fun S I T cc zz hM => ?_)
    refine w_ic l_167_304 (by decide) ?_
    refine w_aln l_167_305 rfl ?_
    refine w_bp l_167_306 (by decide) ?_
    refine i_nx (n := 6) hM l_167_308 rfl (by decide) ⟨Nat.le_of_ble_eq_true rfl, rfl⟩ (by decide) (fun x I hx hM => ?_)
    refine w_add ((3 + x : Nat) : Int) l_167_311 (by unfold wr; omega) ?_
    have hx2 := dgz_2 (3 + x)
    refine i_an (x := 3 + x) hM l_167_312 rfl ⟨Nat.le_of_ble_eq_true rfl, rfl⟩ (by rw [rk_198]; decide) (by omega) (by simp only [List.length_append, List.length_nil]; omega) (by omega) (fun S I T cc zz hM => ?_)
    refine i_str hM l_167_315 rfl ⟨Nat.le_of_ble_eq_true rfl, rfl⟩ (by rw [rk_199]; decide) (by simp only [List.length_append, List.length_nil]; omega) (by omega) (fun S I T cc zz o hM => ?_)
    refine w_go 364 l_167_318 (by decide) ?_
    have et : ([] : List Int) ++ stb.getD 40 [] ++ dgz (3 + x) = uAtom true (3 + x) 0 := by unfold uAtom; simp
    rw [et] at hM
    exact K364 true (3 + x) 0 (by rw [if_pos rfl]; omega) _ _ _ _ _ _ (hM.lo (by omega) (by omega))
  · refine w_zne 321 l_167_289 (by decide) (fun _ => ?_) (fun hx => absurd hx (by omega))
    refine i_new hM l_167_321 l_167_324 l_167_325 (Nat.le_of_ble_eq_true rfl) (by decide) (by omega) (fun S I T cc zz b hM => ?_)
    refine w_ldc l_167_328 (by decide) ?_
    refine i_as (q := 41) hM l_167_330 rfl ⟨Nat.le_of_ble_eq_true rfl, rfl⟩ (by rw [rk_196]; decide) (by decide) (by simp only [List.length_append, List.length_nil]; omega) (by omega) (fun S I T cc zz hM => ?_)
    refine w_aln l_167_333 rfl ?_
    refine w_bp l_167_334 (by decide) ?_
    refine i_nx (n := 6) hM l_167_336 rfl (by decide) ⟨Nat.le_of_ble_eq_true rfl, rfl⟩ (by decide) (fun x I hx hM => ?_)
    have hx2 := dgz_2 x
    refine i_an (x := x) hM l_167_339 rfl ⟨Nat.le_of_ble_eq_true rfl, rfl⟩ (by rw [rk_198]; decide) (by omega) (by simp only [List.length_append, List.length_nil]; omega) (by omega) (fun S I T cc zz hM => ?_)
    refine w_ldc l_167_342 (by decide) ?_
    refine i_as (q := 42) hM l_167_344 rfl ⟨Nat.le_of_ble_eq_true rfl, rfl⟩ (by rw [rk_196]; decide) (by decide) (by simp only [List.length_append, List.length_nil]; omega) (by omega) (fun S I T cc zz hM => ?_)
    refine w_aln l_167_347 rfl ?_
    refine w_bp l_167_348 (by decide) ?_
    refine i_nx (n := 6) hM l_167_350 rfl (by decide) ⟨Nat.le_of_ble_eq_true rfl, rfl⟩ (by decide) (fun y I hy hM => ?_)
    have hy2 := dgz_2 y
    refine i_an (x := y) hM l_167_353 rfl ⟨Nat.le_of_ble_eq_true rfl, rfl⟩ (by rw [rk_198]; decide) (by omega) (by simp only [List.length_append, List.length_nil]; omega) (by omega) (fun S I T cc zz hM => ?_)
    refine w_ldc l_167_356 (by decide) ?_
    refine i_as (q := 43) hM l_167_358 rfl ⟨Nat.le_of_ble_eq_true rfl, rfl⟩ (by rw [rk_196]; decide) (by decide) (by simp only [List.length_append, List.length_nil]; omega) (by omega) (fun S I T cc zz hM => ?_)
    refine i_str hM l_167_361 rfl ⟨Nat.le_of_ble_eq_true rfl, rfl⟩ (by rw [rk_199]; decide) (by simp only [List.length_append, List.length_nil]; omega) (by omega) (fun S I T cc zz o hM => ?_)
    have et : ([] : List Int) ++ stb.getD 41 [] ++ dgz x ++ stb.getD 42 [] ++ dgz y ++ stb.getD 43 [] = uAtom false x y := by unfold uAtom; simp
    rw [et] at hM
    exact K364 false x y (by rw [if_neg (by decide)]; omega) _ _ _ _ _ _ (hM.lo (by omega) (by omega))

theorem lp2_167 (hp : 2 ≤ ports ∧ ports ≤ 4) (hr : rules ≤ 2) (hb : 20000 ≤ zb ∧ 10000 ≤ cb) {C : Nat → Nat} (KK : ∀ S I T cc zz t P m, MS [(2, ((rules : Nat) : Int)), (3, ((space : Nat) : Int)), (1, ((ports : Nat) : Int))] C ports t (97 + 59 * rules) (cb - 1000 * rules) (zb - 2000 * rules) S I T cc zz → PAR t P m → NMP P ports rules C → lBuf P.1 = space → WP xs 167 35 397 [vr 1, vr 0, vr 166, vi ((rules : Nat) : Int)] [] (S, I, T, cc, zz) Q) :
    ∀ (d k : Nat), rules ≤ k + d → k ≤ rules → ∀ S I T cc zz t P m, MS [(2, ((rules : Nat) : Int)), (3, ((space : Nat) : Int)), (1, ((ports : Nat) : Int))] C ports t (97 + 59 * k) (cb - 1000 * k) (zb - 2000 * k) S I T cc zz → PAR t P m → NMP P ports k C → lBuf P.1 = space → WP xs 167 35 234 [vr 1, vr 0, vr 166, vi ((k : Nat) : Int)] [] (S, I, T, cc, zz) Q := by
  intro d
  induction d with
  | zero =>
    intro k h1 h2 S I T cc zz t P m hM hA N hbu
    have hkr : k = rules := by omega
    subst hkr
    refine w_iln l_167_234 rfl ?_
    refine w_aln l_167_235 rfl ?_
    refine w_gin ((k : Nat) : Int) l_167_236 (by decide) hM.b0.2.1 (hM.fx (by simp)) ?_
    exact w_cge 397 l_167_239 (by decide) (fun _ => KK S I T cc zz t P m hM hA N hbu) (fun hx => absurd hx (by omega))
  | succ d ih =>
    intro k h1 h2 S I T cc zz t P m hM hA N hbu
    refine w_iln l_167_234 rfl ?_
    refine w_aln l_167_235 rfl ?_
    refine w_gin ((rules : Nat) : Int) l_167_236 (by decide) hM.b0.2.1 (hM.fx (by simp)) ?_
    by_cases hkr : k = rules
    · subst hkr
      exact w_cge 397 l_167_239 (by decide) (fun _ => KK S I T cc zz t P m hM hA N hbu) (fun hx => absurd hx (by omega))
    refine w_cge 397 l_167_239 (by decide) (fun hx => absurd hx (by omega)) (fun _ => ?_)
    refine w_aln l_167_242 rfl ?_
    refine w_aln l_167_243 rfl ?_
    refine w_ic l_167_244 (by decide) ?_
    refine m_nx (n := 3) hM l_167_245 rfl (by decide) ⟨Nat.le_of_ble_eq_true rfl, rfl⟩ (by decide) (fun j I hj hM => ?_)
    have hb2 : 10000 ≤ zb - 2000 * k ∧ 5000 ≤ cb - 1000 * k := by omega
    have hl := st_l
    have k281 : ∀ (ps ng : Bool) S I T cc zz, MS [(2, ((rules : Nat) : Int)), (3, ((space : Nat) : Int)), (1, ((ports : Nat) : Int))] C ports (t ++ stb.getD (if ps then 35 else 36) [] ++ stb.getD 37 []) (97 + 59 * k + 8) (cb - 1000 * k) (zb - 2000 * k) S I T cc zz → WP xs 167 35 281 [vr 1, vr 0, vr 166, vi ((k : Nat) : Int)] [vs (2 * (if ng then 38 else 39) + 4), vr 166] (S, I, T, cc, zz) Q := by
      intro ps ng S I T cc zz hM
      refine m_as (q := if ng then 38 else 39) 4 hM l_167_281 rfl ⟨Nat.le_of_ble_eq_true rfl, rfl⟩ (by rw [rk_196]; decide) (by cases ng <;> decide) (by cases ng <;> simp only [if_true, if_false, Bool.false_eq_true] <;> omega) (by omega) hb2 (fun S I T cc zz hM => ?_)
      refine at_167 (by omega) hb (by omega) hM (fun sz x y hxy S I T cc zz o hM => ?_)
      refine ra_167 (by omega) hp hb ps ng sz x y (fun oo S I T cc zz hM => ?_) (o := o) hM
      obtain ⟨P2, A2, N2, b2⟩ := hA.rule N (by omega) (ck_atom (K := ports) (by omega) ps ng oo sz hxy)
      exact ih (k + 1) (by omega) (by omega) _ _ _ _ _ _ _ _ hM A2 N2 (b2.trans hbu)
    have k258 : ∀ (ps : Bool), WP xs 167 35 258 [vr 1, vr 0, vr 166, vi ((k : Nat) : Int)] [vs (2 * (if ps then 35 else 36) + 4), vr 166] (S, I, T, cc, zz) Q := by
      intro ps
      refine m_as (q := if ps then 35 else 36) 4 hM l_167_258 rfl ⟨Nat.le_of_ble_eq_true rfl, rfl⟩ (by rw [rk_196]; decide) (by cases ps <;> decide) (by cases ps <;> simp only [if_true, if_false, Bool.false_eq_true] <;> omega) (by omega) hb2 (fun S I T cc zz hM => ?_)
      refine w_ldc l_167_261 (by decide) ?_
      refine m_as (q := 37) 4 hM l_167_263 rfl ⟨Nat.le_of_ble_eq_true rfl, rfl⟩ (by rw [rk_196]; decide) (by decide) (by decide) (by omega) hb2 (fun S I T cc zz hM => ?_)
      refine w_aln l_167_266 rfl ?_
      refine w_ic l_167_267 (by decide) ?_
      refine m_nx (n := 3) hM l_167_268 rfl (by decide) ⟨Nat.le_of_ble_eq_true rfl, rfl⟩ (by decide) (fun j I hj hM => ?_)
      by_cases hj0 : j = 0
      · subst hj0
        refine w_zne 279 l_167_271 (by decide) (fun hx => absurd hx (by decide)) (fun _ => ?_)
        refine w_ldc l_167_274 (by decide) ?_
        refine w_go 281 l_167_276 (by decide) ?_
        exact k281 ps true _ _ _ _ _ hM
      · refine w_zne 279 l_167_271 (by decide) (fun _ => ?_) (fun hx => absurd hx (by omega))
        refine w_ldc l_167_279 (by decide) ?_
        exact k281 ps false _ _ _ _ _ hM
    by_cases hj0 : j = 0
    · subst hj0
      refine w_zne 256 l_167_248 (by decide) (fun hx => absurd hx (by decide)) (fun _ => ?_)
      refine w_ldc l_167_251 (by decide) ?_
      refine w_go 258 l_167_253 (by decide) ?_
      exact k258 true
    · refine w_zne 256 l_167_248 (by decide) (fun _ => ?_) (fun hx => absurd hx (by omega))
      refine w_ldc l_167_256 (by decide) ?_
      exact k258 false

end MDD
