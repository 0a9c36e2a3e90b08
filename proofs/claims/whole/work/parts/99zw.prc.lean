/-! pairs of calls: those that change the state -/
theorem okSu_cap {su : Su} {p v : Nat} (h : okSu su) (hv : v ≤ 99) : okSu (suCap su p v) := ⟨fun p' v' hv' => by
  have e : fu su.1 p (some v) p' = some v' := hv'
  unfold fu at e
  split at e
  · cases e; exact hv
  · exact h.1 p' v' e, h.2⟩
theorem okSu_buf {su : Su} {v : Nat} (h : okSu su) (hv : v ≤ 400) : okSu (suBuf su v) := ⟨h.1, fun v' e => by cases e; exact hv, h.2.2⟩
theorem okSu_wait {su : Su} {v : Nat} (h : okSu su) (hv : v ≤ 99) : okSu (suWait su v) := ⟨h.1, h.2.1, fun v' e => by cases e; exact hv, h.2.2.2⟩
theorem okSu_age {su : Su} {v : Nat} (h : okSu su) (hv : v ≤ 999) : okSu (suAge su v) := ⟨h.1, h.2.1, h.2.2.1, fun v' e => by cases e; exact hv⟩
theorem okSu_rule {su : Su} {q : Nat} (h : okSu su) : okSu (suRule su q) := h
theorem okSu_out {su : Su} {e : Nat} (h : okSu su) : okSu (suOut su e) := h
theorem MP.lo2 {I J : Ix} {m : Nat} {h : Hi} {l : Li} {a : Nat → Nat} {ne np : Nat} {cd : Nat → Cd} (B : MP I m h l a ne np cd) (e0 : ∀ j, 0 < j ∧ j < 20 → J m j = I m j) (e : ∀ j, 0 < j ∧ j ≤ 11 → ∀ z, J (m + j) z = I (m + j) z) : MP J m h l a ne np cd := by
  obtain ⟨b1, b2, b3, b4, b5, b6, b7, b8, b9⟩ := B
  refine ⟨?_, ?_, ?_, b4, b5, b6, fun k hk => by rw [e 10 (by decide)]; exact b7 k hk, by rw [e0 15 (by decide)]; exact b8, by rw [e0 16 (by decide)]; exact b9⟩
  · unfold mH at b1 ⊢
    simp only [e 10 (by decide), e 11 (by decide)]
    exact b1
  · unfold nB at b2 ⊢
    simp only [e0 1 (by decide), e0 7 (by decide), e0 8 (by decide), e0 9 (by decide), e0 10 (by decide), e 2 (by decide), e 3 (by decide), e 4 (by decide), e 5 (by decide), e 6 (by decide)]
    exact b2
  · unfold nC codesAt at b3 ⊢
    simp only [e 7 (by decide), e 8 (by decide), e 9 (by decide)]
    exact b3
theorem oModel_T {S : List (Nat × Nat)} {T T2 : Nat → Nat → Nat} {m : Nat} (h : oModel S T m) (f : ∀ w, T2 m w = T m w) : oModel S T2 m := by
  unfold oModel at h ⊢
  simp only [f]
  exact h
theorem pkO_E {h : Hi} {ne k p : Nat} (hk : k ≠ 0) : (-1 : Int) = pkO (addE h ne k p) ne ∧ ∀ e, e < ne → pkO (addE h ne k p) e = pkO h e := by
  refine ⟨?_, fun e he => ?_⟩
  · unfold pkO
    rw [addE_eq.1, if_neg hk]
  · obtain ⟨q1, q2, q3⟩ := addE_ne (h := h) (kind := k) (p := p) (e := e) (ne := ne) (by omega)
    unfold pkO
    rw [q1, q3]
theorem pkO_P {h : Hi} {a : Nat → Nat} {np ne p : Nat} {f : Nat × Nat × Nat × Nat} {cd : Nat → Cd} : ((np : Nat) : Int) = pkO (addP h a np ne p f cd) ne ∧ ∀ e, e < ne → pkO (addP h a np ne p f cd) e = pkO h e := by
  refine ⟨?_, fun e he => ?_⟩
  · unfold pkO
    rw [addP_eq.1, if_pos rfl, addP_eq.2.2]
  · obtain ⟨q1, q2, q3⟩ := addP_ne (h := h) (a := a) (np := np) (p := p) (f := f) (cd := cd) (e := e) (ne := ne) (by omega)
    unfold pkO
    rw [q1, q3]
section PRC
variable {xs : List Int} {S : List (Nat × Nat)} {T : Nat → Nat → Nat} {I : Ix} {cc zz s c : Nat}

theorem pr_309 (IV : INV S T I s c) (hb : 1 ≤ cc ∧ 6 ≤ zz) (hc : c + 1 < 100000) {p sr tg sz rn : Int} : CL xs 309 [vr s, vi p, vi sr, vi tg, vi sz, vi rn, vr (s + 203)] (S, I, T, cc, zz) (PP xs S s cc zz c 234 [vi p, vi sr, vi tg, vi sz, vi rn] (fun _ => True)) := by
  obtain ⟨hm, h203, q, y, h, l, a, ne, np, su, cd, nm, L, bf, n, eo, ek, W, R⟩ := IV
  have o := W.o
  have X := W.X
  have K := X.K
  have h120 : ne ≤ 120 := K.2.2.1.2.2.1
  by_cases hp : 0 ≤ p ∧ p < ((lPorts l : Nat) : Int)
  · obtain ⟨p, rfl⟩ := nn hp.1
    by_cases hs : 0 ≤ sr ∧ sr ≤ 63
    · obtain ⟨sr, rfl⟩ := nn hs.1
      by_cases ht : 0 ≤ tg ∧ tg ≤ 63
      · obtain ⟨tg, rfl⟩ := nn ht.1
        by_cases hz : (1 ≤ sz ∧ sz ≤ 9) ∧ (0 ≤ rn ∧ rn ≤ 3)
        · obtain ⟨sz, rfl⟩ := nn (show 0 ≤ sz by omega)
          obtain ⟨rn, rfl⟩ := nn hz.2.1
          by_cases hne : ne = 120
          · exact PQX W hm h203 R (wx_309_2 o (x_th (s_105f o K (by omega) (by omega) (by omega) (by omega) (by omega) hne hb))) (fun cc zz => s_234f hm R.P (by omega) (by omega) hne) (by decide) trivial
          · exact PG h203 R (wk_309 o h203 (v_ch hm (s_105 o W.ck X (by omega) hc (by omega) (by omega) (by omega) (by omega) (by omega)) (fun I1 hq => ⟨W.K hq.1 rfl hq.2, fun b z h1 => hq.2 b z (by omega) (by omega)⟩))) (fun J T1 R hm => r_ch (s_234 hm R.P (by omega) (by omega) (by omega) (by omega) (by omega) (by omega)) rfl (fun J1 hq => ⟨R.e hq.1 hq.2.1 hq.2.2 pkO_P.1 pkO_P.2, fun b z h1 => hq.2.1 b z (by omega) (by omega)⟩)) (Nat.le_refl _) trivial
        · exact PQX W hm h203 R (wx_309_1 o (x_th (s_105c o K (by omega) (by omega) (by omega) hz hb))) (fun cc zz => s_234o hm R.P (by omega) (by omega)) (by decide) trivial
      · exact PQX W hm h203 R (wx_309_1 o (x_th (s_105b o K (by omega) (by omega) ht hb))) (fun cc zz => s_234o hm R.P (by omega) (by omega)) (by decide) trivial
    · exact PQX W hm h203 R (wx_309_1 o (x_th (s_105a o K (by omega) hs hb))) (fun cc zz => s_234o hm R.P (by omega) (by omega)) (by decide) trivial
  · exact PQX W hm h203 R (wx_309_0 o (x_th (s_105n o K hp hb))) (fun cc zz => s_234n hm R.P (by omega)) (by decide) trivial


theorem pr_310 (IV : INV S T I s c) (hb : 1 ≤ cc ∧ 6 ≤ zz) (hc : c + 1 < 100000) : CL xs 310 [vr s, vr (s + 203)] (S, I, T, cc, zz) (PP xs S s cc zz c 235 [] (fun _ => True)) := by
  obtain ⟨hm, h203, q, y, h, l, a, ne, np, su, cd, nm, L, bf, n, eo, ek, W, R⟩ := IV
  have o := W.o
  have X := W.X
  have K := X.K
  have h120 : ne ≤ 120 := K.2.2.1.2.2.1
  by_cases hne : ne = 120
  · exact PQX W hm h203 R (wx_310_2 o (x_th (s_106n o K hne hb))) (fun cc zz => s_235n hm R.P hne) (by decide) trivial
  · exact PG h203 R (wk_310 o h203 (v_ch hm (s_106 o W.ck X (by omega) hc) (fun I1 hq => ⟨W.K hq.1 rfl hq.2, fun b z h1 => hq.2 b z (by omega) (by omega)⟩))) (fun J T1 R hm => r_ch (s_235 hm R.P (by omega)) rfl (fun J1 hq => ⟨R.e hq.1 hq.2.1 hq.2.2 (pkO_E (by decide)).1 (pkO_E (by decide)).2, fun b z h1 => hq.2.1 b z (by omega) (by omega)⟩)) (Nat.le_refl _) trivial


theorem pr_311_0 (IV : INV S T I s c) (hb : 1 ≤ cc ∧ 6 ≤ zz) (hc : c + 1 < 100000) {p : Int} : CL xs 311 [vr s, vi p, vi 0, vr (s + 203)] (S, I, T, cc, zz) (PP xs S s cc zz c 236 [vi p, vi 0] (fun _ => True)) := by
  obtain ⟨hm, h203, q, y, h, l, a, ne, np, su, cd, nm, L, bf, n, eo, ek, W, R⟩ := IV
  have o := W.o
  have X := W.X
  have K := X.K
  have h120 : ne ≤ 120 := K.2.2.1.2.2.1
  by_cases hp : 0 ≤ p ∧ p < ((lPorts l : Nat) : Int)
  · obtain ⟨p, rfl⟩ := nn hp.1
    by_cases hne : ne = 120
    · exact PQX W hm h203 R (wx_311_2 o (x_th (s_107f0 o K (by omega) hne hb))) (fun cc zz => s_236_0f hm R.P (by omega) hne) (by decide) trivial
    · have D := addE_H (h := h) (l := l) (kind := 3) (p := p) K.2.2.2.2.2.2.1 K.2.2.2.2.2.2.2.2.1 X.W (by decide) (fun _ => by omega)
      exact PG h203 R (wk_311 o h203 (v_ch hm (s_107_0 o W.ck X (by omega) hc (by omega)) (fun I1 hq => ⟨W.K hq.1 rfl hq.2, fun b z h1 => hq.2 b z (by omega) (by omega)⟩))) (fun J T1 R hm => r_ch (s_236_0 hm R.P (by omega) (by omega)) (link_3 (p := p) D K.2.2.2.2.2.2.1 K.2.2.2.2.2.2.2.1 K.2.2.2.2.2.2.2.2.1 addE_eq.1) (fun J1 hq => ⟨R.e hq.1 hq.2.1 hq.2.2 (pkO_E (by decide)).1 (pkO_E (by decide)).2, fun b z h1 => hq.2.1 b z (by omega) (by omega)⟩)) (Nat.le_refl _) trivial
  · exact PQX W hm h203 R (wx_311_0 o (x_th (s_107n0 o K hp hb))) (fun cc zz => s_236_0n hm R.P (by omega)) (by decide) trivial


theorem pr_311_1 (IV : INV S T I s c) (hb : 1 ≤ cc ∧ 6 ≤ zz) (hc : c + 1 < 100000) {p : Int} : CL xs 311 [vr s, vi p, vi 1, vr (s + 203)] (S, I, T, cc, zz) (PP xs S s cc zz c 236 [vi p, vi 1] (fun _ => True)) := by
  obtain ⟨hm, h203, q, y, h, l, a, ne, np, su, cd, nm, L, bf, n, eo, ek, W, R⟩ := IV
  have o := W.o
  have X := W.X
  have K := X.K
  have h120 : ne ≤ 120 := K.2.2.1.2.2.1
  by_cases hp : 0 ≤ p ∧ p < ((lPorts l : Nat) : Int)
  · obtain ⟨p, rfl⟩ := nn hp.1
    by_cases hne : ne = 120
    · exact PQX W hm h203 R (wx_311_2 o (x_th (s_107f1 o K (by omega) hne hb))) (fun cc zz => s_236_1f hm R.P (by omega) hne) (by decide) trivial
    · have D := addE_H (h := h) (l := l) (kind := 2) (p := p) K.2.2.2.2.2.2.1 K.2.2.2.2.2.2.2.2.1 X.W (by decide) (fun _ => by omega)
      exact PG h203 R (wk_311 o h203 (v_ch hm (s_107_1 o W.ck X (by omega) hc (by omega)) (fun I1 hq => ⟨W.K hq.1 rfl hq.2, fun b z h1 => hq.2 b z (by omega) (by omega)⟩))) (fun J T1 R hm => r_ch (s_236_1 hm R.P (by omega) (by omega)) (link_2 (p := p) D K.2.2.2.2.2.2.1 K.2.2.2.2.2.2.2.1 K.2.2.2.2.2.2.2.2.1 addE_eq.1) (fun J1 hq => ⟨R.e hq.1 hq.2.1 hq.2.2 (pkO_E (by decide)).1 (pkO_E (by decide)).2, fun b z h1 => hq.2.1 b z (by omega) (by omega)⟩)) (Nat.le_refl _) trivial
  · exact PQX W hm h203 R (wx_311_0 o (x_th (s_107n1 o K hp hb))) (fun cc zz => s_236_1n hm R.P (by omega)) (by decide) trivial


theorem pr_312 (IV : INV S T I s c) (hb : 1 ≤ cc ∧ 6 ≤ zz) (hc : c + 1 < 100000) {p : Int} : CL xs 312 [vr s, vi p, vr (s + 203)] (S, I, T, cc, zz) (PP xs S s cc zz c 237 [vi p] (fun _ => True)) := by
  obtain ⟨hm, h203, q, y, h, l, a, ne, np, su, cd, nm, L, bf, n, eo, ek, W, R⟩ := IV
  have o := W.o
  have X := W.X
  have K := X.K
  by_cases hp : 0 ≤ p ∧ p ≤ ((ne : Nat) : Int)
  · obtain ⟨p, rfl⟩ := nn hp.1
    have hp' : p ≤ ne := by omega
    exact PG h203 R (wk_312 o h203 (v_ch hm (s_108 o W.ck X hp' hc) (fun I1 hq => ⟨W.K hq.1 rfl hq.2, fun b z h1 => hq.2 b z (by omega) (by omega)⟩))) (fun J T1 R hm => r_ch (s_237 hm R.P X.W hp') rfl (fun J1 hq => ⟨R.w hq.1 hq.2.1 hp' hq.2.2, fun b z h1 => hq.2.2 b z (by omega) (by omega)⟩)) (Nat.le_refl _) trivial
  · exact PQX W hm h203 R (wx_312_1 o (x_th (s_108n o K hp hb))) (fun cc zz => s_237n hm R.P hp) (by decide) trivial


theorem pr_333 (IV : INV S T I s c) (hb : 1 ≤ cc ∧ 6 ≤ zz) (hc : c + 1 < 100000) {w p v : Int} : CL xs 333 [vr s, vi w, vi p, vi v, vr (s + 203)] (S, I, T, cc, zz) (PP xs S s cc zz c 268 [vi w, vi p, vi v] (fun _ => True)) := by
  obtain ⟨hm, h203, q, y, h, l, a, ne, np, su, cd, nm, L, bf, n, eo, ek, W, R⟩ := IV
  have o := W.o
  have X := W.X
  have K := X.K
  have hsu : okSu su := X.Z.2.2.2.1
  by_cases w0 : w = 0
  · subst w0
    by_cases hp : 0 ≤ p ∧ p < ((lPorts l : Nat) : Int)
    · obtain ⟨p, rfl⟩ := nn hp.1
      by_cases hv : 1 ≤ v ∧ v ≤ 99
      · obtain ⟨v, rfl⟩ := nn (show 0 ≤ v by omega)
        exact PG h203 R (wk_333 o h203 (v_ch hm (s_131_0 o K (by omega) (by omega) X.Z.2.2.1) (fun I1 hq => ⟨W.sp hq.1 (okSu_cap hsu (by omega)) hq.2.1 hq.2.2, fun b z h1 => hq.2.2 b z (by omega) (by omega)⟩))) (fun J T1 R hm => r_ch (s_268_0 hm R.P (by omega) (by omega) R.sup) rfl (fun J1 hq => ⟨R.o hq.1 hq.2, fun b z h1 => hq.2 b z (by omega) (by omega)⟩)) (Nat.le_succ c) trivial
      · exact PQX W hm h203 R (wx_333_1 o (x_th (s_131v0 o K (by omega) hv hb))) (fun cc zz => s_268_0v hm R.P (by omega) hv) (by decide) trivial
    · exact PQX W hm h203 R (wx_333_0 o (x_th (s_131p o K hp hb))) (fun cc zz => s_268_0i hm R.P (by omega)) (by decide) trivial
  by_cases w1 : w = 1
  · subst w1
    by_cases hv : 1 ≤ v ∧ v ≤ 400
    · obtain ⟨v, rfl⟩ := nn (show 0 ≤ v by omega)
      exact PG h203 R (wk_333 o h203 (v_ch hm (s_131_1 o K (by omega) X.Z.2.2.1) (fun I1 hq => ⟨W.sp hq.1 (okSu_buf hsu (by omega)) hq.2.1 hq.2.2, fun b z h1 => hq.2.2 b z (by omega) (by omega)⟩))) (fun J T1 R hm => r_ch (s_268_1 hm R.P (by omega) R.sup) rfl (fun J1 hq => ⟨R.o hq.1 hq.2, fun b z h1 => hq.2 b z (by omega) (by omega)⟩)) (Nat.le_succ c) trivial
    · exact PQX W hm h203 R (wx_333_1 o (x_th (s_131v1 o K hv hb))) (fun cc zz => s_268_1v hm R.P hv) (by decide) trivial
  by_cases w2 : w = 2
  · subst w2
    by_cases hv : 1 ≤ v ∧ v ≤ 99
    · obtain ⟨v, rfl⟩ := nn (show 0 ≤ v by omega)
      exact PG h203 R (wk_333 o h203 (v_ch hm (s_131_2 o K (by omega) X.Z.2.2.1) (fun I1 hq => ⟨W.sp hq.1 (okSu_wait hsu (by omega)) hq.2.1 hq.2.2, fun b z h1 => hq.2.2 b z (by omega) (by omega)⟩))) (fun J T1 R hm => r_ch (s_268_2 hm R.P (by omega) R.sup) rfl (fun J1 hq => ⟨R.o hq.1 hq.2, fun b z h1 => hq.2 b z (by omega) (by omega)⟩)) (Nat.le_succ c) trivial
    · exact PQX W hm h203 R (wx_333_1 o (x_th (s_131v2 o K hv hb))) (fun cc zz => s_268_2v hm R.P hv) (by decide) trivial
  by_cases w3 : w = 3
  · subst w3
    by_cases hv : 0 ≤ v ∧ v ≤ 999
    · obtain ⟨v, rfl⟩ := nn (show 0 ≤ v by omega)
      exact PG h203 R (wk_333 o h203 (v_ch hm (s_131_3 o K (by omega) X.Z.2.2.1) (fun I1 hq => ⟨W.sp hq.1 (okSu_age hsu (by omega)) hq.2.1 hq.2.2, fun b z h1 => hq.2.2 b z (by omega) (by omega)⟩))) (fun J T1 R hm => r_ch (s_268_3 hm R.P (by omega) R.sup) rfl (fun J1 hq => ⟨R.o hq.1 hq.2, fun b z h1 => hq.2 b z (by omega) (by omega)⟩)) (Nat.le_succ c) trivial
    · exact PQX W hm h203 R (wx_333_1 o (x_th (s_131v3 o K hv hb))) (fun cc zz => s_268_3v hm R.P hv) (by decide) trivial
  by_cases w4 : w = 4
  · subst w4
    by_cases hp : 0 ≤ p ∧ p < ((lRules l : Nat) : Int)
    · obtain ⟨p, rfl⟩ := nn hp.1
      exact PG h203 R (wk_333 o h203 (v_ch hm (s_131_4 o K (by omega) X.Z.2.2.1) (fun I1 hq => ⟨W.sp hq.1 (okSu_rule hsu) hq.2.1 hq.2.2, fun b z h1 => hq.2.2 b z (by omega) (by omega)⟩))) (fun J T1 R hm => r_ch (s_268_4 hm R.P (by omega) R.sup) rfl (fun J1 hq => ⟨R.o hq.1 hq.2, fun b z h1 => hq.2 b z (by omega) (by omega)⟩)) (Nat.le_succ c) trivial
    · exact PQX W hm h203 R (wx_333_0 o (x_th (s_131r o K hp hb))) (fun cc zz => s_268_4i hm R.P (by omega)) (by decide) trivial
  exact PQX W hm h203 R (wx_333_3 o (x_th (s_131w o K (by omega) hb))) (fun cc zz => s_268_n hm R.P (by omega)) (by decide) trivial


theorem pr_334 (IV : INV S T I s c) (hb : 1 ≤ cc ∧ 6 ≤ zz) (hc : c + 1 < 100000) {e : Int} : CL xs 334 [vr s, vi e, vr (s + 203)] (S, I, T, cc, zz) (PP xs S s cc zz c 270 [vi e] (fun _ => True)) := by
  obtain ⟨hm, h203, q, y, h, l, a, ne, np, su, cd, nm, L, bf, n, eo, ek, W, R⟩ := IV
  have o := W.o
  have X := W.X
  have K := X.K
  by_cases he : 0 ≤ e ∧ e < ((ne : Nat) : Int)
  · obtain ⟨e, rfl⟩ := nn he.1
    exact PG h203 R (wk_334 o h203 (v_ch hm (s_132 o K (by omega) X.Z.2.2.1) (fun I1 hq => ⟨W.sp hq.1 (okSu_out X.Z.2.2.2.1) hq.2.1 hq.2.2, fun b z h1 => hq.2.2 b z (by omega) (by omega)⟩))) (fun J T1 R hm => r_ch (s_270 hm R.P (by omega) R.sup) rfl (fun J1 hq => ⟨R.o hq.1 hq.2, fun b z h1 => hq.2 b z (by omega) (by omega)⟩)) (Nat.le_succ c) trivial
  · exact PQX W hm h203 R (wx_334_0 o (x_th (s_132n o K he hb))) (fun cc zz => s_270n hm R.P (by omega)) (by decide) trivial


theorem pr_307 (IV : INV S T I s c) (hb : 1 ≤ cc ∧ 6 ≤ zz) (hc : c + 1 < 100000) : CL xs 307 [vr s, vr (s + 203)] (S, I, T, cc, zz) (PP xs S s cc zz c 198 [] (fun _ => True)) := by
  obtain ⟨hm, h203, q, y, h, l, a, ne, np, su, cd, nm, L, bf, n, eo, ek, W, R⟩ := IV
  have o := W.o
  have X := W.X
  have dq := W.dq
  obtain ⟨d1, d2, d3, d4, d5⟩ := id dq
  have ok : okHi h := X.K.2.2.2.2.2.2.1
  cases hR : textR bf n with
  | inl e9 =>
    refine PX h203 hm R (wx_307_1 o (CL_mono (s_101n o dq W.inp W.y7 hR hb) fun r m1 ⟨J, e1, e2, j1, j2, j3, f⟩ => ⟨J, e1, e2, ?_⟩)) (fun J cc zz R => CL_mono (s_198n hm R.inp R.ob hR) fun r m1 ⟨v, J1, e1, e2, e3, e4, e5, e6, e7, f⟩ => ⟨v, J1, e1, e2, e3, e4, ?_⟩) (by decide) (Nat.le_succ c) trivial (q' := q) (y' := y) (h' := h) (l' := l) (a' := a) (ne' := ne) (np' := np) (su' := su) (cd' := cd) (c' := c) (nm' := nm) (L' := L) (bf' := bf) (n' := 0) (eo' := ((e9.2 : Nat) : Int)) (ek' := ((e9.1 : Nat) : Int))
    · refine ⟨⟨⟨o, W.ck, dq⟩, X.eq ⟨f s 12 (by omega) (by omega) (by omega), f s 13 (by omega) (by omega) (by omega), fun b z b1 b2 => f b z (by omega) (by omega) (by omega), fun b z b1 b2 => f b z (by omega) (by omega) (by omega), fun b z b1 b2 => f b z (by omega) (by omega) (by omega)⟩, fun p hp => ?_, ⟨j1, by decide, fun j hj => absurd hj (Nat.not_lt_zero j)⟩, ?_, ⟨j2, j3⟩, (f _ 0 (by omega) (by omega) (by omega)).trans W.q7, (f _ 0 (by omega) (by omega) (Or.inr (Or.inr ⟨rfl, rfl⟩))).trans W.y7⟩, fun b z hb => f b z (by omega) (by omega) (by omega)⟩
      · rw [f _ p (by omega) (by omega) (by omega)]; exact W.nam p hp
      · obtain ⟨i1, i2, i3⟩ := W.ln
        exact ⟨(f _ 1 (by omega) (by omega) (by omega)).trans i1, i2, fun j hj => (f _ j (by omega) (by omega) (by omega)).trans (i3 j hj)⟩
    · refine ⟨⟨R.P.lo2 (fun j hj => f _ j (by omega) (by omega)) (fun j hj z => f _ z (by omega) (by omega)), R.sup.lo (fun j hj => f _ j (by omega) (by omega)) (fun j hj z => f _ z (by omega) (by omega)), fun p hp => ?_, ⟨e5, by decide, fun j hj => absurd hj (Nat.not_lt_zero j)⟩, ?_, ⟨e7, e6⟩, fun x hx => ?_, okB_0 bf⟩, fun b z hb => f b z (by omega) (by omega)⟩
      · rw [f _ p (by omega) (by omega)]; exact R.nam p hp
      · obtain ⟨i1, i2, i3⟩ := R.ln
        exact ⟨(f _ 75 (by omega) (by omega)).trans i1, i2, fun j hj => (f _ j (by omega) (by omega)).trans (i3 j hj)⟩
      · exact (f _ _ (by omega) (by omega)).trans (R.pk x hx)
  | inr P =>
    refine PG h203 R (wk_307 o h203 (CL_mono (s_101 o dq W.inp W.y7 W.ck hR (h2 := h) (a2 := a) X hc ok) fun r m1 ⟨T2, J, e1, e2, o2, ck2, t, X2, okp, nam, j1, j2, j3, f⟩ => ⟨_, J, T2, e1, e2, rfl, ?_, oModel_T hm (fun w => t _ w (by omega)), fun b z hb => f b z (by omega) (by omega) (by omega) (by omega) (by omega)⟩)) (fun J T1 R hm1 => CL_mono (s_198 hm1 R.inp R.ob hR ok (a := a)) fun r m1 ⟨v, J1, e1, e2, e3, MP1, su1, nam1, okp, z1, f⟩ => ⟨v, J1, e1, e2, e3, z1.1, ⟨MP1, su1, nam1, ⟨z1.2.1, by decide, fun j hj => absurd hj (Nat.not_lt_zero j)⟩, ?_, ⟨z1.2.2.2, z1.2.2.1⟩, fun x hx => absurd hx (Nat.not_lt_zero x), okB_0 bf⟩, fun b z hb => f b z (by omega) (by omega)⟩) (Nat.le_refl _) trivial (q' := y) (y' := q) (h' := h) (l' := P.1) (a' := a) (ne' := 0) (np' := 0) (su' := su0) (cd' := P.2.2) (c' := c + 1) (nm' := P.2.1) (L' := L) (bf' := bf) (n' := 0) (eo' := -1) (ek' := 0)
    · refine ⟨⟨o2, ck2, d2, d1, d4, d3, by omega⟩, X2, nam, ⟨j1, by decide, fun j hj => absurd hj (Nat.not_lt_zero j)⟩, ?_, ⟨j2, j3⟩, (f _ 0 (by omega) (by omega) (by omega) (Or.inr (Or.inr ⟨rfl, rfl⟩)) (by omega)).trans W.y7, (f _ 0 (by omega) (by omega) (by omega) (by omega) (by omega)).trans W.q7⟩
      obtain ⟨i1, i2, i3⟩ := W.ln
      exact ⟨(f _ 1 (by omega) (by omega) (by omega) (by omega) (by omega)).trans i1, i2, fun j hj => (f _ j (by omega) (by omega) (by omega) (by omega) (by omega)).trans (i3 j hj)⟩
    · obtain ⟨i1, i2, i3⟩ := R.ln
      exact ⟨(f _ 75 (by omega) (by omega)).trans i1, i2, fun j hj => (f _ j (by omega) (by omega)).trans (i3 j hj)⟩

end PRC
