/-! pairs of calls: suppositions asked, explanations, texts -/
/-- the reference's format tells its text ahead of what was thrown -/
theorem r_ch2 {xs : List Int} {s : Nat} {S : List (Nat × Nat)} {T : Nat → Nat → Nat} {cc zz jr : Nat} {as : List AV} {V0 V1 : Int} {h' : Hi} {l' : Li} {a' : Nat → Nat} {ne' np' : Nat} {su' : Su} {cd' : Nat → Cd} {nm' : Nat → List Nat} {L' : List Nat} {bf' : Nat → Int} {n' : Nat} {eo' ek' : Int} {J : Ix} {G : List Nat} {Q : Ix → Prop} (sp : CL xs jr as (S, J, T, cc, zz) (RP S T cc zz (fun v J' => v = some (vi V1) ∧ mlS J' (s + 163) G ∧ J' (s + 163) 0 = 0 ∧ Q J'))) (hv : V1 = V0) (kk : ∀ J', mlS J' (s + 163) G ∧ Q J' → RW J' (s + 163) h' l' a' ne' np' su' cd' nm' L' bf' n' eo' ek' ∧ ∀ b z, (b < s + 163 ∨ b = s + 203) → J' b z = J b z) : CL xs jr as (S, J, T, cc, zz) (RP S T cc zz (fun v J' => v = some (vi V0) ∧ J' (s + 163) 0 = 0 ∧ RW J' (s + 163) h' l' a' ne' np' su' cd' nm' L' bf' n' eo' ek' ∧ ∀ b z, (b < s + 163 ∨ b = s + 203) → J' b z = J b z)) :=
  r_ch (Q := fun J' => mlS J' (s + 163) G ∧ Q J') (CL_mono sp fun r m1 ⟨v, I1, e1, e2, e3, e4, e5, hq⟩ => ⟨v, I1, e1, e2, e3, e5, e4, hq⟩) hv kk
section PRB
variable {xs : List Int} {S : List (Nat × Nat)} {T : Nat → Nat → Nat} {I : Ix} {cc zz s c : Nat}

theorem pr_335 (IV : INV S T I s c) (hb : 1 ≤ cc ∧ 6 ≤ zz) (hc : c + 1 < 100000) {p : Int} : CL xs 335 [vr s, vi p, vr (s + 203)] (S, I, T, cc, zz) (PP xs S s cc zz c 274 [vi p] (fun _ => True)) := by
  obtain ⟨hm, h203, q, y, h, l, a, ne, np, su, cd, nm, L, bf, n, eo, ek, W, R⟩ := IV
  have o := W.o
  have X := W.X
  have K := X.K
  by_cases hp : 1 ≤ p ∧ p ≤ 10
  · obtain ⟨p, rfl⟩ := nn (show 0 ≤ p by omega)
    exact PQ W hm h203 R (wk_335 o h203 (v_rp (s_135 o K X.Z (by omega)) (fun I1 hq => ⟨W.g hq.1 hq.2.1 hq.2.2, fun b z h1 => hq.2.2 b z (by omega) (by omega)⟩))) (fun J R => s_274 hm R.P hp R.sup X.Z.2.2.2.1) (by rw [by_R]) trivial
  · exact PQX W hm h203 R (wx_335_1 o (x_th (s_135n o K hp hb))) (fun cc zz => s_274n hm R.P hp) (by decide) trivial


theorem pr_336 (IV : INV S T I s c) (hb : 1 ≤ cc ∧ 6 ≤ zz) (hc : c + 1 < 100000) {k p : Int} : CL xs 336 [vr s, vi k, vi p, vr (s + 203)] (S, I, T, cc, zz) (PP xs S s cc zz c 275 [vi k, vi p] (fun _ => True)) := by
  obtain ⟨hm, h203, q, y, h, l, a, ne, np, su, cd, nm, L, bf, n, eo, ek, W, R⟩ := IV
  have o := W.o
  have X := W.X
  have K := X.K
  by_cases hk : 0 ≤ k ∧ k < ((np : Nat) : Int)
  · obtain ⟨k, rfl⟩ := nn hk.1
    by_cases hp : 0 ≤ p ∧ p < ((lPorts l : Nat) : Int)
    · obtain ⟨p, rfl⟩ := nn hp.1
      exact PQ W hm h203 R (wk_336 o h203 (v_rp (s_136 o K X.Z (by omega) (by omega)) (fun I1 hq => ⟨W.g hq.1 hq.2.1 hq.2.2, fun b z h1 => hq.2.2 b z (by omega) (by omega)⟩))) (fun J R => s_275 hm R.P (by omega) (by omega) R.sup X.Z.2.2.2.1) rfl trivial
    · exact PQX W hm h203 R (wx_336_0 o (x_th (s_136m o K (by omega) hp hb))) (fun cc zz => s_275n hm R.P (by omega)) (by decide) trivial
  · exact PQX W hm h203 R (wx_336_0 o (x_th (s_136n o K hk hb))) (fun cc zz => s_275n hm R.P (by omega)) (by decide) trivial


theorem pr_337 (IV : INV S T I s c) (hb : 1 ≤ cc ∧ 6 ≤ zz) (hc : c + 1 < 100000) {p : Int} : CL xs 337 [vr s, vi p, vr (s + 203)] (S, I, T, cc, zz) (PP xs S s cc zz c 276 [vi p] (fun _ => True)) := by
  obtain ⟨hm, h203, q, y, h, l, a, ne, np, su, cd, nm, L, bf, n, eo, ek, W, R⟩ := IV
  have o := W.o
  have X := W.X
  have K := X.K
  by_cases hp : 0 ≤ p ∧ p < ((lPorts l : Nat) : Int)
  · obtain ⟨p, rfl⟩ := nn hp.1
    exact PQ W hm h203 R (wk_337 o h203 (v_rp (s_137 o K X.Z (by omega)) (fun I1 hq => ⟨W.g hq.1 hq.2.1 hq.2.2, fun b z h1 => hq.2.2 b z (by omega) (by omega)⟩))) (fun J R => s_276 hm R.P (by omega) R.sup X.Z.2.2.2.1) rfl trivial
  · exact PQX W hm h203 R (wx_337_0 o (x_th (s_137n o K hp hb))) (fun cc zz => s_276n hm R.P (by omega)) (by decide) trivial


theorem pr_338 (IV : INV S T I s c) (hb : 1 ≤ cc ∧ 6 ≤ zz) (hc : c + 1 < 100000) {k : Int} : CL xs 338 [vr s, vi k, vr (s + 203)] (S, I, T, cc, zz) (PP xs S s cc zz c 285 [vi k] (fun _ => True)) := by
  obtain ⟨hm, h203, q, y, h, l, a, ne, np, su, cd, nm, L, bf, n, eo, ek, W, R⟩ := IV
  have o := W.o
  have X := W.X
  have K := X.K
  by_cases hk : 0 ≤ k ∧ k < (((runA h l noOut ne).2.1.length : Nat) : Int)
  · obtain ⟨k, rfl⟩ := nn hk.1
    exact PQ W hm h203 R (wk_338 o h203 (v_rp (s_140 X.hq W.ck o K X.B X.C X.E (by omega)) (fun I1 hq => ⟨W.v hq.2 hq.1, fun b z h1 => hq.2 b z (by omega) (by omega) (by omega)⟩))) (fun J R => s_285 hm R.P (by omega)) rfl trivial
  · exact PQX W hm h203 R (wx_338_0 o (x_th (s_140n o K hk hb))) (fun cc zz => s_285n hm R.P hk) (by decide) trivial


theorem pr_339 (IV : INV S T I s c) (hb : 1 ≤ cc ∧ 6 ≤ zz) (hc : c + 1 < 100000) {k j : Int} : CL xs 339 [vr s, vi k, vi j, vr (s + 203)] (S, I, T, cc, zz) (PP xs S s cc zz c 286 [vi k, vi j] (fun _ => True)) := by
  obtain ⟨hm, h203, q, y, h, l, a, ne, np, su, cd, nm, L, bf, n, eo, ek, W, R⟩ := IV
  have o := W.o
  have X := W.X
  have K := X.K
  by_cases hk : 0 ≤ k ∧ k < (((runA h l noOut ne).2.1.length : Nat) : Int)
  · obtain ⟨k, rfl⟩ := nn hk.1
    by_cases hj : 0 ≤ j
    · exact PQ W hm h203 R (wk_339 o h203 (v_rp (s_141 X.hq W.ck o K X.B X.C X.E (by omega)) (fun I1 hq => ⟨W.v hq.2 hq.1, fun b z h1 => hq.2 b z (by omega) (by omega) (by omega)⟩))) (fun J R => s_286 hm R.P (by omega) hj) (evG_F (ev := evB h l ne ((runA h l noOut ne).2.1.getD k dr0)) (by omega) ne 0 0).symm trivial
    · exact PQ W hm h203 R (wk_339 o h203 (v_rp (s_141 X.hq W.ck o K X.B X.C X.E (by omega)) (fun I1 hq => ⟨W.v hq.2 hq.1, fun b z h1 => hq.2 b z (by omega) (by omega) (by omega)⟩))) (fun J R => s_286m hm R.P (by omega) (by omega)) (evG_neg (ev := evB h l ne ((runA h l noOut ne).2.1.getD k dr0)) (by omega) ne 0 0).symm trivial
  · exact PQX W hm h203 R (wx_339_0 o (x_th (s_141n o K hk hb))) (fun cc zz => s_286n hm R.P hk) (by decide) trivial


theorem pr_340 (IV : INV S T I s c) (hb : 1 ≤ cc ∧ 6 ≤ zz) (hc : c + 1 < 100000) {k : Int} : CL xs 340 [vr s, vi k, vr (s + 203)] (S, I, T, cc, zz) (PP xs S s cc zz c 287 [vi k] (fun _ => True)) := by
  obtain ⟨hm, h203, q, y, h, l, a, ne, np, su, cd, nm, L, bf, n, eo, ek, W, R⟩ := IV
  have o := W.o
  have X := W.X
  have K := X.K
  by_cases hk : 0 ≤ k ∧ k < (((runA h l noOut ne).2.1.length : Nat) : Int)
  · obtain ⟨k, rfl⟩ := nn hk.1
    have hk' : k < (runA h l noOut ne).2.1.length := by omega
    have hd := run_okD K.2.2.2.2.2.2.2.1 K.2.2.2.2.2.2.2.2.1 K.2.2.2.2.2.2.2.2.2 K.2.2.1.2.2.1 K.2.2.1.2.2.2.1 hk'
    by_cases hP : ((runA h l noOut ne).2.1.getD k dr0).2.2.1 = -1
    · exact PQ W hm h203 R (wk_340 o h203 (v_rp (s_142m X.hq o K X.B X.E hk' hP) (fun I1 hq => ⟨W.v hq.2 hq.1, fun b z h1 => hq.2 b z (by omega) (by omega) (by omega)⟩))) (fun J R => s_287m hm R.P hk' hP) rfl trivial
    · have hd3 := hd.2.2.1
      obtain ⟨p, hp⟩ := nn (show 0 ≤ ((runA h l noOut ne).2.1.getD k dr0).2.2.1 by omega)
      have hp' : p < lPorts l := by omega
      exact PQ W hm h203 R (wk_340 o h203 (v_rp (s_142 X.hq o K X.B X.E hk' hp' hp) (fun I1 hq => ⟨W.v hq.2 hq.1, fun b z h1 => hq.2 b z (by omega) (by omega) (by omega)⟩))) (fun J R => s_287 hm R.P hk' hp' hp) rfl trivial
  · exact PQX W hm h203 R (wx_340_0 o (x_th (s_142n o K hk hb))) (fun cc zz => s_287n hm R.P hk) (by decide) trivial


theorem pr_341 (IV : INV S T I s c) (hb : 1 ≤ cc ∧ 6 ≤ zz) (hc : c + 1 < 100000) {k : Int} : CL xs 341 [vr s, vi k, vr (s + 203)] (S, I, T, cc, zz) (PP xs S s cc zz c 288 [vi k] (fun _ => True)) := by
  obtain ⟨hm, h203, q, y, h, l, a, ne, np, su, cd, nm, L, bf, n, eo, ek, W, R⟩ := IV
  have o := W.o
  have X := W.X
  have K := X.K
  by_cases hk : 0 ≤ k ∧ k < (((runA h l noOut ne).2.1.length : Nat) : Int)
  · obtain ⟨k, rfl⟩ := nn hk.1
    exact PQ W hm h203 R (wk_341 o h203 (v_rp (s_143 X.hq o K X.B X.E (by omega)) (fun I1 hq => ⟨W.v hq.2 hq.1, fun b z h1 => hq.2 b z (by omega) (by omega) (by omega)⟩))) (fun J R => s_288 hm R.P (by omega)) rfl trivial
  · exact PQX W hm h203 R (wx_341_0 o (x_th (s_143n o K hk hb))) (fun cc zz => s_288n hm R.P hk) (by decide) trivial


theorem pr_342 (IV : INV S T I s c) (hb : 1 ≤ cc ∧ 6 ≤ zz) (hc : c + 1 < 100000) {k : Int} : CL xs 342 [vr s, vi k, vr (s + 203)] (S, I, T, cc, zz) (PP xs S s cc zz c 294 [vi k] (fun _ => True)) := by
  obtain ⟨hm, h203, q, y, h, l, a, ne, np, su, cd, nm, L, bf, n, eo, ek, W, R⟩ := IV
  have o := W.o
  have X := W.X
  have K := X.K
  by_cases hk : 0 ≤ k ∧ k < (((runA h l noOut ne).2.1.length : Nat) : Int)
  · obtain ⟨k, rfl⟩ := nn hk.1
    exact PG h203 R (wk_342 o h203 (v_ch hm (s_144 X.hq o K W.nam (by omega)) (fun I1 hq => ⟨W.line hq.1 hq.2, fun b z h1 => hq.2 b (by omega) z⟩))) (fun J T1 R hm => r_ch2 (s_294 hm R.P K.2.2.2.2.2.2.2.2.2 R.nam (by omega)) rfl (fun J1 hq => ⟨R.line hq.1 hq.2, fun b z h1 => hq.2 b z (by omega) (by omega)⟩)) (Nat.le_succ c) trivial
  · exact PQX W hm h203 R (wx_342_0 o (x_th (s_144n o K hk hb))) (fun cc zz => s_294n hm R.P hk) (by decide) trivial


theorem pr_343 (IV : INV S T I s c) (hb : 1 ≤ cc ∧ 6 ≤ zz) (hc : c + 1 < 100000) {p : Int} : CL xs 343 [vr s, vi p, vr (s + 203)] (S, I, T, cc, zz) (PP xs S s cc zz c 295 [vi p] (fun _ => True)) := by
  obtain ⟨hm, h203, q, y, h, l, a, ne, np, su, cd, nm, L, bf, n, eo, ek, W, R⟩ := IV
  have o := W.o
  have X := W.X
  have K := X.K
  by_cases hp : 0 ≤ p ∧ p < ((lPorts l : Nat) : Int)
  · obtain ⟨p, rfl⟩ := nn hp.1
    exact PG h203 R (wk_343 o h203 (v_ch hm (s_145 X.hq o K W.nam (by omega)) (fun I1 hq => ⟨W.line hq.1 hq.2, fun b z h1 => hq.2 b (by omega) z⟩))) (fun J T1 R hm => r_ch2 (s_295 hm R.P R.nam (by omega)) rfl (fun J1 hq => ⟨R.line hq.1 hq.2, fun b z h1 => hq.2 b z (by omega) (by omega)⟩)) (Nat.le_succ c) trivial
  · exact PQX W hm h203 R (wx_343_0 o (x_th (s_145n o K hp hb))) (fun cc zz => s_295n hm R.P (by omega)) (by decide) trivial


end PRB
