/-! pairs of calls: questions -/
section PRA
variable {xs : List Int} {S : List (Nat × Nat)} {T : Nat → Nat → Nat} {I : Ix} {cc zz s c : Nat}

theorem pr_316 (IV : INV S T I s c) (hb : 1 ≤ cc ∧ 6 ≤ zz) (hc : c + 1 < 100000) {p : Int} : CL xs 316 [vr s, vi p, vr (s + 203)] (S, I, T, cc, zz) (PP xs S s cc zz c 243 [vi p] (fun _ => True)) := by
  obtain ⟨hm, h203, q, y, h, l, a, ne, np, su, cd, nm, L, bf, n, eo, ek, W, R⟩ := IV
  have o := W.o
  have X := W.X
  have K := X.K
  by_cases hp : 0 ≤ p ∧ p < ((lPorts l : Nat) : Int)
  · obtain ⟨p, rfl⟩ := nn hp.1
    exact PQ W hm h203 R (wk_316 o h203 (v_fn W (s_112 o K (by omega)))) (fun J R => s_243 hm R.P (by omega)) (rfl) trivial
  · exact PQX W hm h203 R (wx_316_0 o (x_th (s_112n o K hp hb))) (fun cc zz => s_243n hm R.P (by omega)) (by decide) trivial


theorem pr_317 (IV : INV S T I s c) (hb : 1 ≤ cc ∧ 6 ≤ zz) (hc : c + 1 < 100000) {p : Int} : CL xs 317 [vr s, vi p, vr (s + 203)] (S, I, T, cc, zz) (PP xs S s cc zz c 244 [vi p] (fun _ => True)) := by
  obtain ⟨hm, h203, q, y, h, l, a, ne, np, su, cd, nm, L, bf, n, eo, ek, W, R⟩ := IV
  have o := W.o
  have X := W.X
  have K := X.K
  by_cases hp : 0 ≤ p ∧ p < ((lPorts l : Nat) : Int)
  · obtain ⟨p, rfl⟩ := nn hp.1
    exact PQ W hm h203 R (wk_317 o h203 (v_fn W (s_113 o K (by omega)))) (fun J R => s_244 hm R.P (by omega)) (rfl) trivial
  · exact PQX W hm h203 R (wx_317_0 o (x_th (s_113n o K hp hb))) (fun cc zz => s_244n hm R.P (by omega)) (by decide) trivial


theorem pr_320 (IV : INV S T I s c) (hb : 1 ≤ cc ∧ 6 ≤ zz) (hc : c + 1 < 100000) {p : Int} : CL xs 320 [vr s, vi p, vr (s + 203)] (S, I, T, cc, zz) (PP xs S s cc zz c 247 [vi p] (fun _ => True)) := by
  obtain ⟨hm, h203, q, y, h, l, a, ne, np, su, cd, nm, L, bf, n, eo, ek, W, R⟩ := IV
  have o := W.o
  have X := W.X
  have K := X.K
  by_cases hp : 0 ≤ p ∧ p < ((lPorts l : Nat) : Int)
  · obtain ⟨p, rfl⟩ := nn hp.1
    exact PQ W hm h203 R (wk_320 o h203 (v_fn W (s_116 o K (by omega)))) (fun J R => s_247 hm R.P (by omega)) (rfl) trivial
  · exact PQX W hm h203 R (wx_320_0 o (x_th (s_116n o K hp hb))) (fun cc zz => s_247n hm R.P (by omega)) (by decide) trivial


theorem pr_321 (IV : INV S T I s c) (hb : 1 ≤ cc ∧ 6 ≤ zz) (hc : c + 1 < 100000) {p : Int} : CL xs 321 [vr s, vi p, vr (s + 203)] (S, I, T, cc, zz) (PP xs S s cc zz c 248 [vi p] (fun _ => True)) := by
  obtain ⟨hm, h203, q, y, h, l, a, ne, np, su, cd, nm, L, bf, n, eo, ek, W, R⟩ := IV
  have o := W.o
  have X := W.X
  have K := X.K
  by_cases hp : 0 ≤ p ∧ p ≤ 63
  · obtain ⟨p, rfl⟩ := nn hp.1
    exact PQ W hm h203 R (wk_321 o h203 (v_fn W (s_117 o K (by omega)))) (fun J R => s_248 hm R.P (by omega)) (rfl) trivial
  · exact PQX W hm h203 R (wx_321_1 o (x_th (s_117n o K hp hb))) (fun cc zz => s_248n hm R.P (by omega)) (by decide) trivial


theorem pr_322 (IV : INV S T I s c) (hb : 1 ≤ cc ∧ 6 ≤ zz) (hc : c + 1 < 100000) {p : Int} : CL xs 322 [vr s, vi p, vr (s + 203)] (S, I, T, cc, zz) (PP xs S s cc zz c 250 [vi p] (fun _ => True)) := by
  obtain ⟨hm, h203, q, y, h, l, a, ne, np, su, cd, nm, L, bf, n, eo, ek, W, R⟩ := IV
  have o := W.o
  have X := W.X
  have K := X.K
  by_cases hp : 0 ≤ p ∧ p < ((lPorts l : Nat) : Int)
  · obtain ⟨p, rfl⟩ := nn hp.1
    exact PQ W hm h203 R (wk_322 o h203 (v_fn W (s_119 o K (by omega)))) (fun J R => s_250 hm R.P (by omega)) (rfl) trivial
  · exact PQX W hm h203 R (wx_322_0 o (x_th (s_119n o K hp hb))) (fun cc zz => s_250n hm R.P (by omega)) (by decide) trivial


theorem pr_332 (IV : INV S T I s c) (hb : 1 ≤ cc ∧ 6 ≤ zz) (hc : c + 1 < 100000) {p : Int} : CL xs 332 [vr s, vi p, vr (s + 203)] (S, I, T, cc, zz) (PP xs S s cc zz c 265 [vi p] (fun _ => True)) := by
  obtain ⟨hm, h203, q, y, h, l, a, ne, np, su, cd, nm, L, bf, n, eo, ek, W, R⟩ := IV
  have o := W.o
  have X := W.X
  have K := X.K
  by_cases hp : 0 ≤ p ∧ p < ((lPorts l : Nat) : Int)
  · obtain ⟨p, rfl⟩ := nn hp.1
    exact PQ W hm h203 R (wk_332 o h203 (v_fn W (s_130 o K (by omega)))) (fun J R => s_265 hm R.P (by omega)) (rfl) trivial
  · exact PQX W hm h203 R (wx_332_0 o (x_th (s_130n o K hp hb))) (fun cc zz => s_265n hm R.P (by omega)) (by decide) trivial


theorem pr_325 (IV : INV S T I s c) (hb : 1 ≤ cc ∧ 6 ≤ zz) (hc : c + 1 < 100000) {p : Int} : CL xs 325 [vr s, vi p, vr (s + 203)] (S, I, T, cc, zz) (PP xs S s cc zz c 254 [vi p] (fun _ => True)) := by
  obtain ⟨hm, h203, q, y, h, l, a, ne, np, su, cd, nm, L, bf, n, eo, ek, W, R⟩ := IV
  have o := W.o
  have X := W.X
  have K := X.K
  by_cases hp : 0 ≤ p ∧ p < ((np : Nat) : Int)
  · obtain ⟨p, rfl⟩ := nn hp.1
    exact PQ W hm h203 R (wk_325 o h203 (v_fn W (s_122 o K (by omega)))) (fun J R => s_254 hm R.P (by omega)) (rfl) trivial
  · exact PQX W hm h203 R (wx_325_0 o (x_th (s_122n o K hp hb))) (fun cc zz => s_254n hm R.P (by omega)) (by decide) trivial


theorem pr_326 (IV : INV S T I s c) (hb : 1 ≤ cc ∧ 6 ≤ zz) (hc : c + 1 < 100000) {p : Int} : CL xs 326 [vr s, vi p, vr (s + 203)] (S, I, T, cc, zz) (PP xs S s cc zz c 257 [vi p] (fun _ => True)) := by
  obtain ⟨hm, h203, q, y, h, l, a, ne, np, su, cd, nm, L, bf, n, eo, ek, W, R⟩ := IV
  have o := W.o
  have X := W.X
  have K := X.K
  by_cases hp : 1 ≤ p ∧ p ≤ 10
  · obtain ⟨p, rfl⟩ := nn (show 0 ≤ p by omega)
    exact PQ W hm h203 R (wk_326 o h203 (v_fn W (s_123 o K (by omega)))) (fun J R => s_257 hm R.P hp) (by rw [by_R]) trivial
  · exact PQX W hm h203 R (wx_326_1 o (x_th (s_123n o K hp hb))) (fun cc zz => s_257n hm R.P hp) (by decide) trivial


theorem pr_327 (IV : INV S T I s c) (hb : 1 ≤ cc ∧ 6 ≤ zz) (hc : c + 1 < 100000) {p : Int} : CL xs 327 [vr s, vi p, vr (s + 203)] (S, I, T, cc, zz) (PP xs S s cc zz c 258 [vi p] (fun _ => True)) := by
  obtain ⟨hm, h203, q, y, h, l, a, ne, np, su, cd, nm, L, bf, n, eo, ek, W, R⟩ := IV
  have o := W.o
  have X := W.X
  have K := X.K
  by_cases hp : 0 ≤ p ∧ p < ((lRules l : Nat) : Int)
  · obtain ⟨p, rfl⟩ := nn hp.1
    exact PQ W hm h203 R (wk_327 o h203 (v_fn W (s_124 o K (by omega)))) (fun J R => s_258 hm R.P (by omega)) (by rw [byD_R hp.1]) trivial
  · exact PQX W hm h203 R (wx_327_0 o (x_th (s_124n o K hp hb))) (fun cc zz => s_258n hm R.P (by omega)) (by decide) trivial


theorem pr_328 (IV : INV S T I s c) (hb : 1 ≤ cc ∧ 6 ≤ zz) (hc : c + 1 < 100000) {p : Int} : CL xs 328 [vr s, vi p, vr (s + 203)] (S, I, T, cc, zz) (PP xs S s cc zz c 259 [vi p] (fun _ => True)) := by
  obtain ⟨hm, h203, q, y, h, l, a, ne, np, su, cd, nm, L, bf, n, eo, ek, W, R⟩ := IV
  have o := W.o
  have X := W.X
  have K := X.K
  by_cases hp : 0 ≤ p ∧ p < ((np : Nat) : Int)
  · obtain ⟨p, rfl⟩ := nn hp.1
    exact PQ W hm h203 R (wk_328 o h203 (v_fn W (s_125 o K (by omega)))) (fun J R => s_259 hm R.P (by omega)) (by rw [byD_R hp.1]) trivial
  · exact PQX W hm h203 R (wx_328_0 o (x_th (s_125n o K hp hb))) (fun cc zz => s_259n hm R.P (by omega)) (by decide) trivial


theorem pr_329 (IV : INV S T I s c) (hb : 1 ≤ cc ∧ 6 ≤ zz) (hc : c + 1 < 100000) {p : Int} : CL xs 329 [vr s, vi p, vr (s + 203)] (S, I, T, cc, zz) (PP xs S s cc zz c 262 [vi p] (fun _ => True)) := by
  obtain ⟨hm, h203, q, y, h, l, a, ne, np, su, cd, nm, L, bf, n, eo, ek, W, R⟩ := IV
  have o := W.o
  have X := W.X
  have K := X.K
  by_cases hp : 0 ≤ p ∧ p ≤ ((ne : Nat) : Int)
  · obtain ⟨p, rfl⟩ := nn hp.1
    exact PQ W hm h203 R (wk_329 o h203 (v_fn W (s_127 o K (by omega)))) (fun J R => s_262 hm R.P (by omega)) (rfl) trivial
  · exact PQX W hm h203 R (wx_329_0 o (x_th (s_127n o K hp hb))) (fun cc zz => s_262n hm R.P (by omega)) (by decide) trivial


theorem pr_313 (IV : INV S T I s c) (hb : 1 ≤ cc ∧ 6 ≤ zz) (hc : c + 1 < 100000) {p : Int} : CL xs 313 [vr s, vi p, vr (s + 203)] (S, I, T, cc, zz) (PP xs S s cc zz c 239 [vi p] (fun _ => True)) := by
  obtain ⟨hm, h203, q, y, h, l, a, ne, np, su, cd, nm, L, bf, n, eo, ek, W, R⟩ := IV
  have o := W.o
  have X := W.X
  have K := X.K
  by_cases hp : 0 ≤ p ∧ p < ((ne : Nat) : Int)
  · obtain ⟨p, rfl⟩ := nn hp.1
    exact PQ W hm h203 R (wk_313 o h203 (v_fn W (s_109 o K (by omega)))) (fun J R => s_239 hm R.P (by omega)) (rfl) trivial
  · exact PQX W hm h203 R (wx_313_0 o (x_th (s_109n o K hp hb))) (fun cc zz => s_239n hm R.P (by omega)) (by decide) trivial


theorem pr_315 (IV : INV S T I s c) (hb : 1 ≤ cc ∧ 6 ≤ zz) (hc : c + 1 < 100000) {p : Int} : CL xs 315 [vr s, vi p, vr (s + 203)] (S, I, T, cc, zz) (PP xs S s cc zz c 241 [vi p] (fun _ => True)) := by
  obtain ⟨hm, h203, q, y, h, l, a, ne, np, su, cd, nm, L, bf, n, eo, ek, W, R⟩ := IV
  have o := W.o
  have X := W.X
  have K := X.K
  by_cases hp : 0 ≤ p ∧ p < ((np : Nat) : Int)
  · obtain ⟨p, rfl⟩ := nn hp.1
    exact PQ W hm h203 R (wk_315 o h203 (v_fn W (s_111 o K (by omega)))) (fun J R => s_241 hm R.P (by omega)) (rfl) trivial
  · exact PQX W hm h203 R (wx_315_0 o (x_th (s_111n o K hp hb))) (fun cc zz => s_241n hm R.P (by omega)) (by decide) trivial


theorem pr_314 (IV : INV S T I s c) (hb : 1 ≤ cc ∧ 6 ≤ zz) (hc : c + 1 < 100000) {p : Int} : CL xs 314 [vr s, vi p, vr (s + 203)] (S, I, T, cc, zz) (PP xs S s cc zz c 240 [vi p] (fun _ => True)) := by
  obtain ⟨hm, h203, q, y, h, l, a, ne, np, su, cd, nm, L, bf, n, eo, ek, W, R⟩ := IV
  have o := W.o
  have X := W.X
  have K := X.K
  by_cases hp : 0 ≤ p ∧ p < ((ne : Nat) : Int)
  · obtain ⟨p, rfl⟩ := nn hp.1
    exact PQ W hm h203 R (wk_314 o h203 (v_fn W (s_110 o K (by omega) (X.pk p (by omega))))) (fun J R => s_240 hm R.P (by omega) (R.pk p (by omega))) rfl trivial
  · exact PQX W hm h203 R (wx_314_0 o (x_th (s_110n o K hp hb))) (fun cc zz => s_240n hm R.P (by omega)) (by decide) trivial


theorem pr_319 (IV : INV S T I s c) (hb : 1 ≤ cc ∧ 6 ≤ zz) (hc : c + 1 < 100000) {p : Int} : CL xs 319 [vr s, vi p, vr (s + 203)] (S, I, T, cc, zz) (PP xs S s cc zz c 246 [vi p] (fun b => b = 0 ∨ b = 1)) := by
  obtain ⟨hm, h203, q, y, h, l, a, ne, np, su, cd, nm, L, bf, n, eo, ek, W, R⟩ := IV
  have o := W.o
  have X := W.X
  have K := X.K
  by_cases hp : 0 ≤ p ∧ p < ((lPorts l : Nat) : Int)
  · obtain ⟨p, rfl⟩ := nn hp.1
    have hV : ∀ b : Bool, b2i b = 0 ∨ b2i b = 1 := fun b => by cases b; exact Or.inl rfl; exact Or.inr rfl
    exact PQ W hm h203 R (wk_319 o h203 (fun V I1 T1 hh => by rw [hh.1]; exact hV _) (v_fn W (s_115 o K (by omega)))) (fun J R => s_246 hm R.P (by omega)) rfl (hV _)
  · exact PQX W hm h203 R (wx_319_0 o (x_th (s_115n o K hp hb))) (fun cc zz => s_246n hm R.P (by omega)) (by decide) (Or.inl rfl)


theorem pr_318 (IV : INV S T I s c) (hb : 1 ≤ cc ∧ 6 ≤ zz) (hc : c + 1 < 100000) {p k : Int} : CL xs 318 [vr s, vi p, vi k, vr (s + 203)] (S, I, T, cc, zz) (PP xs S s cc zz c 245 [vi p, vi k] (fun _ => True)) := by
  obtain ⟨hm, h203, q, y, h, l, a, ne, np, su, cd, nm, L, bf, n, eo, ek, W, R⟩ := IV
  have o := W.o
  have X := W.X
  have K := X.K
  by_cases hp : 0 ≤ p ∧ p < ((lPorts l : Nat) : Int)
  · obtain ⟨p, rfl⟩ := nn hp.1
    by_cases hk : 0 ≤ k ∧ k < (((sQ (runA h l noOut ne).1 p).length : Nat) : Int)
    · obtain ⟨k, rfl⟩ := nn hk.1
      exact PQ W hm h203 R (wk_318 o h203 (v_fn W (s_114 o K (by omega) (by omega)))) (fun J R => s_245 hm R.P (by omega) (by omega)) rfl trivial
    · exact PQ W hm h203 R (wk_318 o h203 (v_fn W (s_114o o K (by omega) hk))) (fun J R => s_245o hm R.P (by omega) hk) rfl trivial
  · exact PQX W hm h203 R (wx_318_0 o (x_th (s_114n o K hp hb))) (fun cc zz => s_245n hm R.P (by omega)) (by decide) trivial


theorem pr_323 (IV : INV S T I s c) (hb : 1 ≤ cc ∧ 6 ≤ zz) (hc : c + 1 < 100000) {k p : Int} : CL xs 323 [vr s, vi k, vi p, vr (s + 203)] (S, I, T, cc, zz) (PP xs S s cc zz c 251 [vi k, vi p] (fun _ => True)) := by
  obtain ⟨hm, h203, q, y, h, l, a, ne, np, su, cd, nm, L, bf, n, eo, ek, W, R⟩ := IV
  have o := W.o
  have X := W.X
  have K := X.K
  by_cases hk : 0 ≤ k ∧ k < ((np : Nat) : Int)
  · obtain ⟨k, rfl⟩ := nn hk.1
    by_cases hp : 0 ≤ p ∧ p < ((lPorts l : Nat) : Int)
    · obtain ⟨p, rfl⟩ := nn hp.1
      exact PQ W hm h203 R (wk_323 o h203 (v_fn W (s_120 o K (by omega) (by omega)))) (fun J R => s_251 hm R.P (by omega) (by omega)) rfl trivial
    · exact PQX W hm h203 R (wx_323_0 o (x_th (s_120o o K (by omega) hp hb))) (fun cc zz => s_251n hm R.P (by omega)) (by decide) trivial
  · exact PQX W hm h203 R (wx_323_0 o (x_th (s_120n o K hk hb))) (fun cc zz => s_251n hm R.P (by omega)) (by decide) trivial


theorem pr_324 (IV : INV S T I s c) (hb : 1 ≤ cc ∧ 6 ≤ zz) (hc : c + 1 < 100000) {k j : Int} : CL xs 324 [vr s, vi k, vi j, vr (s + 203)] (S, I, T, cc, zz) (PP xs S s cc zz c 253 [vi k, vi j] (fun _ => True)) := by
  obtain ⟨hm, h203, q, y, h, l, a, ne, np, su, cd, nm, L, bf, n, eo, ek, W, R⟩ := IV
  have o := W.o
  have X := W.X
  have K := X.K
  by_cases hk : 0 ≤ k ∧ k < (((runA h l noOut ne).2.1.length : Nat) : Int)
  · obtain ⟨k, rfl⟩ := nn hk.1
    by_cases hj : 0 ≤ j ∧ j < 5
    · obtain ⟨j, rfl⟩ := nn hj.1
      exact PQ W hm h203 R (wk_324 o h203 (v_fn W (s_121 o K (by omega) (by omega)))) (fun J R => s_253 hm R.P (by omega) (by omega)) rfl trivial
    · exact PQX W hm h203 R (wx_324_3 o (x_th (s_121m o K (by omega) hj hb))) (fun cc zz => s_253o hm R.P (by omega) (by omega)) (by decide) trivial
  · exact PQX W hm h203 R (wx_324_0 o (x_th (s_121n o K hk hb))) (fun cc zz => s_253n hm R.P hk) (by decide) trivial


theorem pr_308 (IV : INV S T I s c) (hb : 1 ≤ cc ∧ 6 ≤ zz) (hc : c + 1 < 100000) {p : Int} : CL xs 308 [vr s, vi p, vr (s + 203)] (S, I, T, cc, zz) (PP xs S s cc zz c 238 [vi p] (fun _ => True)) := by
  obtain ⟨hm, h203, q, y, h, l, a, ne, np, su, cd, nm, L, bf, n, eo, ek, W, R⟩ := IV
  have o := W.o
  have X := W.X
  have K := X.K
  by_cases h0 : p = 0
  · subst h0
    exact PQ W hm h203 R (wk_308 o h203 (v_fn W (s_104_0 o K))) (fun J R => s_238_0 hm R.P) rfl trivial
  by_cases h1 : p = 1
  · subst h1
    exact PQ W hm h203 R (wk_308 o h203 (v_fn W (s_104_1 o K))) (fun J R => s_238_1 hm R.P) rfl trivial
  by_cases h2 : p = 2
  · subst h2
    exact PQ W hm h203 R (wk_308 o h203 (v_fn W (s_104_2 o K))) (fun J R => s_238_2 hm R.P) rfl trivial
  by_cases h3 : p = 3
  · subst h3
    exact PQ W hm h203 R (wk_308 o h203 (v_fn W (s_104_3 o K))) (fun J R => s_238_3 hm R.P) rfl trivial
  by_cases h4 : p = 4
  · subst h4
    exact PQ W hm h203 R (wk_308 o h203 (v_fn W (s_104_4 o K))) (fun J R => s_238_4 hm R.P) rfl trivial
  by_cases h5 : p = 5
  · subst h5
    exact PQ W hm h203 R (wk_308 o h203 (v_fn W (s_104_5 o K))) (fun J R => s_238_5 hm R.P) rfl trivial
  exact PQX W hm h203 R (wx_308_3 o (x_th (s_104n (by omega) hb))) (fun cc zz => s_238n hm R.P (by omega)) (by decide) trivial


theorem pr_330 (IV : INV S T I s c) (hb : 1 ≤ cc ∧ 6 ≤ zz) (hc : c + 1 < 100000) {e p : Int} : CL xs 330 [vr s, vi e, vi p, vr (s + 203)] (S, I, T, cc, zz) (PP xs S s cc zz c 263 [vi e, vi p] (fun _ => True)) := by
  obtain ⟨hm, h203, q, y, h, l, a, ne, np, su, cd, nm, L, bf, n, eo, ek, W, R⟩ := IV
  have o := W.o
  have X := W.X
  have K := X.K
  by_cases he : 0 ≤ e ∧ e ≤ ((ne : Nat) : Int)
  · obtain ⟨e, rfl⟩ := nn he.1
    by_cases hp : 0 ≤ p ∧ p < ((lPorts l : Nat) : Int)
    · obtain ⟨p, rfl⟩ := nn hp.1
      exact PQ W hm h203 R (wk_330 o h203 (v_rp (s_128 X.hq W.ck o K X.B X.C (by omega) (by omega)) (fun I1 hq => ⟨W.t hq.1 hq.2, fun b z h1 => hq.1 b (by omega) z⟩))) (fun J R => s_263 hm R.P (by omega) (by omega)) rfl trivial
    · exact PQX W hm h203 R (wx_330_0 o (x_th (s_128m o K (by omega) hp hb))) (fun cc zz => s_263n hm R.P (by omega)) (by decide) trivial
  · exact PQX W hm h203 R (wx_330_0 o (x_th (s_128n o K he hb))) (fun cc zz => s_263n hm R.P (by omega)) (by decide) trivial


theorem pr_331 (IV : INV S T I s c) (hb : 1 ≤ cc ∧ 6 ≤ zz) (hc : c + 1 < 100000) {e p : Int} : CL xs 331 [vr s, vi e, vi p, vr (s + 203)] (S, I, T, cc, zz) (PP xs S s cc zz c 264 [vi e, vi p] (fun _ => True)) := by
  obtain ⟨hm, h203, q, y, h, l, a, ne, np, su, cd, nm, L, bf, n, eo, ek, W, R⟩ := IV
  have o := W.o
  have X := W.X
  have K := X.K
  by_cases he : 0 ≤ e ∧ e ≤ ((ne : Nat) : Int)
  · by_cases hp : 0 ≤ p ∧ p ≤ 63
    · obtain ⟨e, rfl⟩ := nn he.1
      obtain ⟨p, rfl⟩ := nn hp.1
      exact PQ W hm h203 R (wk_331 o h203 (v_rp (s_129 X.hq W.ck o K X.B X.C (by omega) (by omega)) (fun I1 hq => ⟨W.t hq.1 hq.2, fun b z h1 => hq.1 b (by omega) z⟩))) (fun J R => s_264 hm R.P (by omega) (by omega)) rfl trivial
    · obtain ⟨e, rfl⟩ := nn he.1
      exact PQX W hm h203 R (wx_331_1 o (x_th (s_129m o K (by omega) hp hb))) (fun cc zz => s_264o hm R.P he hp) (by decide) trivial
  · exact PQX W hm h203 R (wx_331_0 o (x_th (s_129n o K he hb))) (fun cc zz => s_264n hm R.P he) (by decide) trivial


end PRA
