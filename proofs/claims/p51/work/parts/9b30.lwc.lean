/-! the law: the drops, one by one (their counts) -/
section LWC
variable {xs : List Int} {Q : Res → Mem → Prop} {S : List (Nat × Nat)} {T : Nat → Nat → Nat} {cc zz ports rules space ne np c w1 w2 w3 iv : Nat} {l : Li} {h : Hi} {a : Nat → Nat} {cd : Nat → Cd} {q y : Nat} {nm : Nat → List Nat} {bf : Nat → Int}

theorem cntK_b {f : Dr → Bool} {g : List Dr} : ∀ d, cntK f g d ≤ d
  | 0 => Nat.le_refl _
  | d + 1 => by
    have := cntK_b (f := f) (g := g) d
    show (if f (g.getD d dr0) then cntK f g d + 1 else cntK f g d) ≤ d + 1
    split <;> omega
theorem d1_344 (hne : ne ≤ 40) (hlp : lPorts l = ports ∧ 2 ≤ ports ∧ ports ≤ 4) (hS : SHP np ports w1 w2 w3 S T) (R : RUN l h a ne np) (h360 : (runA h l noOut ne).2.1.length ≤ 360)
    (KK : ∀ (I : Ix) (bv : Nat) (v11 v12 v13 v14 : AV), LOK2 ports rules space l h a ne np c cd q y nm bf S I T → CTD l h ne np ports w1 w2 w3 (runA h l noOut ne).2.1.length I → WP xs 344 36 351 [vs 3, vr 0, vr 1, vr 2, vi ((np : Nat) : Int), vi (((runA h l noOut ne).2.1.length : Nat) : Int), vr w1, vr w2, vr w3, vi ((bv : Nat) : Int), vi (((runA h l noOut ne).2.1.length : Nat) : Int), v11, v12, v13, v14] [] (S, I, T, cc, zz) Q) :
    ∀ (z d : Nat), d + z = (runA h l noOut ne).2.1.length → ∀ (I : Ix) (bv : Nat) (v11 v12 v13 v14 : AV), LOK2 ports rules space l h a ne np c cd q y nm bf S I T → CTD l h ne np ports w1 w2 w3 d I → (∀ j, d = j + 1 → bv = ((runA h l noOut ne).2.1.getD j dr0).1) → (d = 0 → bv = 0) → WP xs 344 36 140 [vs 3, vr 0, vr 1, vr 2, vi ((np : Nat) : Int), vi (((runA h l noOut ne).2.1.length : Nat) : Int), vr w1, vr w2, vr w3, vi ((bv : Nat) : Int), vi ((d : Nat) : Int), v11, v12, v13, v14] [] (S, I, T, cc, zz) Q := by
  intro z
  induction z with
  | zero =>
    intro d hz I bv v11 v12 v13 v14 H C hb1 hb0
    have e : d = (runA h l noOut ne).2.1.length := by omega
    subst e
    refine w_il l_344_140 rfl ?_
    refine w_il l_344_142 rfl ?_
    exact w_cge 351 l_344_144 (by decide) (fun _ => KK I bv v11 v12 v13 v14 H C) (fun hx => absurd hx (by omega))
  | succ z ih0 =>
    intro d hz I bv v11 v12 v13 v14 H C hb1 hb0
    have ih := fun (d : Nat) (hd : d + z = (runA h l noOut ne).2.1.length) => ih0 d hd
    have hd : d < (runA h l noOut ne).2.1.length := by omega
    have H0 := H
    obtain ⟨hm, L, W⟩ := H0
    have hdd := dr_in hd
    obtain ⟨o1, o2, o3⟩ := R.1.2.2.2.2.2.1 _ hdd
    have hpk := (R.1.1.2.2.1 _ hdd).1
    obtain ⟨hl, hp2, hp4⟩ := hlp
    rw [hl] at o3
    have hS5 := hS.2.2.2.2
    have hbv : bv ≤ ((runA h l noOut ne).2.1.getD d dr0).1 := by
      by_cases e : d = 0
      · rw [hb0 e]; exact Nat.zero_le _
      · rw [hb1 (d - 1) (by omega)]
        exact dr_le R.1.2.2.2.2.2.2 (by omega) hd
    refine w_il l_344_140 rfl ?_
    refine w_il l_344_142 rfl ?_
    refine w_cge 351 l_344_144 (by decide) (fun hx => absurd hx (by omega)) (fun _ => ?_)
    refine w_aln l_344_147 rfl ?_
    refine w_il l_344_148 rfl ?_
    refine w_ic l_344_150 (by decide) ?_
    refine q_iv [vi ((d : Nat) : Int), vi 0] [] l_344_151 rfl rfl (Nat.le_of_ble_eq_true rfl) (by rw [mx_121]; exact Nat.le_of_ble_eq_true rfl) (by rw [mt_121]; exact oDropSwitch_sh W.o) (by rw [mt_121]; decide) (by rw [rk_121]; decide) (s_121_0 W.o W.X.K hd) ?_
    refine w_is l_344_154 ⟨Nat.le_of_ble_eq_true rfl, rfl⟩ ?_
    refine w_aln l_344_156 rfl ?_
    refine w_il l_344_157 rfl ?_
    refine w_ic l_344_159 (by decide) ?_
    refine q_iv [vi ((d : Nat) : Int), vi 1] [] l_344_160 rfl rfl (Nat.le_of_ble_eq_true rfl) (by rw [mx_121]; exact Nat.le_of_ble_eq_true rfl) (by rw [mt_121]; exact oDropSwitch_sh W.o) (by rw [mt_121]; decide) (by rw [rk_121]; decide) (s_121_1 W.o W.X.K hd) ?_
    refine w_is l_344_163 ⟨Nat.le_of_ble_eq_true rfl, rfl⟩ ?_
    refine w_aln l_344_165 rfl ?_
    refine w_il l_344_166 rfl ?_
    refine w_ic l_344_168 (by decide) ?_
    refine q_iv [vi ((d : Nat) : Int), vi 2] [] l_344_169 rfl rfl (Nat.le_of_ble_eq_true rfl) (by rw [mx_121]; exact Nat.le_of_ble_eq_true rfl) (by rw [mt_121]; exact oDropSwitch_sh W.o) (by rw [mt_121]; decide) (by rw [rk_121]; decide) (s_121_2 W.o W.X.K hd) ?_
    refine w_is l_344_172 ⟨Nat.le_of_ble_eq_true rfl, rfl⟩ ?_
    refine w_aln l_344_174 rfl ?_
    refine w_il l_344_175 rfl ?_
    refine w_ic l_344_177 (by decide) ?_
    refine q_iv [vi ((d : Nat) : Int), vi 3] [] l_344_178 rfl rfl (Nat.le_of_ble_eq_true rfl) (by rw [mx_121]; exact Nat.le_of_ble_eq_true rfl) (by rw [mt_121]; exact oDropSwitch_sh W.o) (by rw [mt_121]; decide) (by rw [rk_121]; decide) (s_121_3 W.o W.X.K hd) ?_
    refine w_is l_344_181 ⟨Nat.le_of_ble_eq_true rfl, rfl⟩ ?_
    refine w_il l_344_183 rfl ?_
    refine w_il l_344_185 rfl ?_
    refine w_clt 211 l_344_187 (by decide) (fun hx => absurd hx (by omega)) (fun _ => ?_)
    refine w_il l_344_190 rfl ?_
    refine w_aln l_344_192 rfl ?_
    refine w_ic l_344_193 (by decide) ?_
    refine q_iv [vi 2] [vi ((((runA h l noOut ne).2.1.getD d dr0).1 : Nat) : Int)] l_344_194 rfl rfl (Nat.le_of_ble_eq_true rfl) (by rw [mx_104]; exact Nat.le_of_ble_eq_true rfl) (by rw [mt_104]; exact oDropSwitch_sh W.o) (by rw [mt_104]; decide) (by rw [rk_104]; decide) (s_104_2 W.o W.X.K) ?_
    refine w_cge 211 l_344_197 (by decide) (fun hx => absurd hx (by omega)) (fun _ => ?_)
    refine w_aln l_344_200 rfl ?_
    refine w_il l_344_201 rfl ?_
    refine q_iv [vi ((((runA h l noOut ne).2.1.getD d dr0).2.1 : Nat) : Int)] [] l_344_203 rfl rfl (Nat.le_of_ble_eq_true rfl) (by rw [mx_111]; exact Nat.le_of_ble_eq_true rfl) (by rw [mt_111]; exact oDropSwitch_sh W.o) (by rw [mt_111]; decide) (by rw [rk_111]; decide) (s_111 W.o W.X.K hpk) ?_
    refine w_il l_344_206 rfl ?_
    refine w_cle 213 l_344_208 (by decide) (fun _ => ?_) (fun hx => absurd hx (by omega))
    refine w_il l_344_213 rfl ?_
    refine w_is l_344_215 ⟨Nat.le_of_ble_eq_true rfl, rfl⟩ ?_
    refine w_al l_344_217 rfl ?_
    refine w_il l_344_219 rfl ?_
    refine w_dup2 l_344_221 rfl ?_
    refine w_ia ((runA h l noOut ne).2.1.getD d dr0).2.2.2.1 ((cntK (isBy ((((runA h l noOut ne).2.1.getD d dr0).2.2.2.1 : Nat) : Int)) (runA h l noOut ne).2.1 d : Nat) : Int) l_344_222 hS.2.2.2.1 rfl (by omega) (C.2.2 _ (by omega)) ?_
    refine w_ic l_344_223 (by decide) ?_
    refine w_add ((cntK (isBy ((((runA h l noOut ne).2.1.getD d dr0).2.2.2.1 : Nat) : Int)) (runA h l noOut ne).2.1 d + 1 : Nat) : Int) l_344_224 (by have := cntK_b (f := isBy ((((runA h l noOut ne).2.1.getD d dr0).2.2.2.1 : Nat) : Int)) (g := (runA h l noOut ne).2.1) d; unfold wr; omega) ?_
    refine w_iS ((runA h l noOut ne).2.1.getD d dr0).2.2.2.1 l_344_225 hS.2.2.2.1 rfl (by omega) ?_
    have e281 := fun (J : Ix) (H1 : LOK2 ports rules space l h a ne np c cd q y nm bf S J T) (C1 : CTD l h ne np ports w1 w2 w3 (d + 1) J) => d2_344 (Q := Q) hne hS R hd h360 H1 (fun J2 H2 f2 => ih (d + 1) (by omega) _ _ _ _ _ _ H2 ⟨fun k hk => (f2 _ _ (by omega)).trans (C1.1 k hk), fun k hk p hp => (f2 _ _ (by omega)).trans (C1.2.1 k hk p hp), fun x hx => (f2 _ _ (by omega)).trans (C1.2.2 x hx)⟩ (fun j hj => by rw [show j = d by omega]) (fun e => by omega))
    have hby : ∀ x : Nat, (if isBy (x : Int) ((runA h l noOut ne).2.1.getD d dr0) then (1 : Int) else 0) = if x = ((runA h l noOut ne).2.1.getD d dr0).2.2.2.1 then 1 else 0 := fun x => by
      unfold isBy
      by_cases e : x = ((runA h l noOut ne).2.1.getD d dr0).2.2.2.1
      · rw [if_pos e, e, decide_eq_true rfl, if_pos rfl]
      · rw [if_neg e, decide_eq_false (by omega), if_neg (by decide)]
    have fby : ∀ (J : Ix) x, up J w3 ((runA h l noOut ne).2.1.getD d dr0).2.2.2.1 ((cntK (isBy ((((runA h l noOut ne).2.1.getD d dr0).2.2.2.1 : Nat) : Int)) (runA h l noOut ne).2.1 d + 1 : Nat) : Int) w3 x = if x = ((runA h l noOut ne).2.1.getD d dr0).2.2.2.1 then ((cntK (isBy ((((runA h l noOut ne).2.1.getD d dr0).2.2.2.1 : Nat) : Int)) (runA h l noOut ne).2.1 d + 1 : Nat) : Int) else J w3 x := fun J x => by
      by_cases e : x = ((runA h l noOut ne).2.1.getD d dr0).2.2.2.1
      · rw [if_pos e, e, up_eq]
      · rw [if_neg e, up_nj e]
    by_cases hport : ((runA h l noOut ne).2.1.getD d dr0).2.2.1 = -1
    · refine w_il l_344_226 rfl ?_
      refine w_zge 235 l_344_228 (by decide) (fun hx => absurd hx (by omega)) (fun _ => ?_)
      refine w_ic l_344_231 (by decide) ?_
      refine w_go 236 l_344_232 (by decide) ?_
      refine w_il l_344_236 rfl ?_
      refine w_ic l_344_238 (by decide) ?_
      refine w_cgt 246 l_344_239 (by decide) (fun hx => absurd hx (by omega)) (fun _ => ?_)
      refine w_ic l_344_242 (by decide) ?_
      refine w_go 247 l_344_243 (by decide) ?_
      refine w_ceq 252 l_344_247 (by decide) (fun _ => ?_) (fun hx => absurd rfl hx)
      refine w_il l_344_252 rfl ?_
      refine w_zge 269 l_344_254 (by decide) (fun hx => absurd hx (by omega)) (fun _ => ?_)
      refine w_al l_344_257 rfl ?_
      refine w_il l_344_259 rfl ?_
      refine w_dup2 l_344_261 rfl ?_
      refine w_ia ((runA h l noOut ne).2.1.getD d dr0).2.1 ((cntK (isKP ((runA h l noOut ne).2.1.getD d dr0).2.1 (-1)) (runA h l noOut ne).2.1 d : Nat) : Int) l_344_262 hS.1 rfl hpk ((up_no (by omega)).trans (C.1 _ hpk)) ?_
      refine w_ic l_344_263 (by decide) ?_
      refine w_add ((cntK (isKP ((runA h l noOut ne).2.1.getD d dr0).2.1 (-1)) (runA h l noOut ne).2.1 d + 1 : Nat) : Int) l_344_264 (by have := cntK_b (f := isKP ((runA h l noOut ne).2.1.getD d dr0).2.1 (-1)) (g := (runA h l noOut ne).2.1) d; unfold wr; omega) ?_
      refine w_iS ((runA h l noOut ne).2.1.getD d dr0).2.1 l_344_265 hS.1 rfl hpk ?_
      refine w_go 281 l_344_266 (by decide) ?_
      have hkp : ∀ (k : Nat) (p : Int), (if isKP k p ((runA h l noOut ne).2.1.getD d dr0) then (1 : Int) else 0) = if k = ((runA h l noOut ne).2.1.getD d dr0).2.1 ∧ p = -1 then 1 else 0 := fun k p => by
        unfold isKP
        by_cases e : k = ((runA h l noOut ne).2.1.getD d dr0).2.1 ∧ p = -1
        · rw [if_pos e, e.1, e.2, ← hport, decide_eq_true rfl, if_pos rfl]
        · rw [if_neg e, decide_eq_false (fun q => e (by injection q with q1 q2; exact ⟨q1.symm, by rw [← q2]; exact hport⟩)), if_neg (by decide)]
      refine e281 _ ((H.up (by omega)).up (by omega)) (C.st hS (fun k hk => ?_) (fun k hk p hp => ?_) (fun x hx => ?_))
      · rw [hkp]
        by_cases e : k = ((runA h l noOut ne).2.1.getD d dr0).2.1
        · rw [if_pos ⟨e, rfl⟩, e, up_eq, C.1 _ hpk]; rfl
        · rw [if_neg (fun q => e q.1), up_nj e, up_no (by omega)]; omega
      · rw [hkp, if_neg (fun q => by omega), up_no (by omega), up_no (by omega)]; omega
      · rw [hby, up_no (by omega), fby]
        by_cases e : x = ((runA h l noOut ne).2.1.getD d dr0).2.2.2.1
        · rw [if_pos e, if_pos e, e, C.2.2 _ (by omega)]; rfl
        · rw [if_neg e, if_neg e]; omega
    · obtain ⟨p, ep⟩ := Int.eq_ofNat_of_zero_le (show 0 ≤ ((runA h l noOut ne).2.1.getD d dr0).2.2.1 by omega)
      have hp9 : p < ports := by omega
      refine w_il l_344_226 rfl ?_
      refine w_zge 235 l_344_228 (by decide) (fun _ => ?_) (fun hx => absurd hx (by omega))
      refine w_ic l_344_235 (by decide) ?_
      refine w_il l_344_236 rfl ?_
      refine w_ic l_344_238 (by decide) ?_
      refine w_cgt 246 l_344_239 (by decide) (fun _ => ?_) (fun hx => absurd hx (by omega))
      refine w_ic l_344_246 (by decide) ?_
      refine w_ceq 252 l_344_247 (by decide) (fun _ => ?_) (fun hx => absurd rfl hx)
      refine w_il l_344_252 rfl ?_
      refine w_zge 269 l_344_254 (by decide) (fun _ => ?_) (fun hx => absurd hx (by omega))
      refine w_al l_344_269 rfl ?_
      refine w_il l_344_271 rfl ?_
      refine w_aa6 ((runA h l noOut ne).2.1.getD d dr0).2.1 l_344_273 hS.2.1 rfl hpk (hS.2.2.1 _ hpk).2 ?_
      refine w_il l_344_274 rfl ?_
      refine w_dup2 l_344_276 rfl ?_
      rw [ep]
      refine w_ia p ((cntK (isKP ((runA h l noOut ne).2.1.getD d dr0).2.1 (p : Int)) (runA h l noOut ne).2.1 d : Nat) : Int) l_344_277 (hS.2.2.1 _ hpk).1 rfl hp9 ((up_no (by omega)).trans (C.2.1 _ hpk p hp9)) ?_
      refine w_ic l_344_278 (by decide) ?_
      refine w_add ((cntK (isKP ((runA h l noOut ne).2.1.getD d dr0).2.1 (p : Int)) (runA h l noOut ne).2.1 d + 1 : Nat) : Int) l_344_279 (by have := cntK_b (f := isKP ((runA h l noOut ne).2.1.getD d dr0).2.1 (p : Int)) (g := (runA h l noOut ne).2.1) d; unfold wr; omega) ?_
      refine w_iS p l_344_280 (hS.2.2.1 _ hpk).1 rfl hp9 ?_
      rw [← ep]
      have hkp : ∀ (k : Nat) (x : Int), (if isKP k x ((runA h l noOut ne).2.1.getD d dr0) then (1 : Int) else 0) = if k = ((runA h l noOut ne).2.1.getD d dr0).2.1 ∧ x = (p : Int) then 1 else 0 := fun k x => by
        unfold isKP
        by_cases e : k = ((runA h l noOut ne).2.1.getD d dr0).2.1 ∧ x = (p : Int)
        · rw [if_pos e, e.1, e.2, ← ep, decide_eq_true rfl, if_pos rfl]
        · rw [if_neg e, decide_eq_false (fun q => e (by injection q with q1 q2; exact ⟨q1.symm, by rw [← q2]; exact ep⟩)), if_neg (by decide)]
      refine e281 _ ((H.up (by omega)).up (by omega)) (C.st hS (fun k hk => ?_) (fun k hk x hx => ?_) (fun x hx => ?_))
      · rw [hkp, if_neg (fun q => by omega), up_no (by omega), up_no (by omega)]; omega
      · rw [hkp]
        by_cases e : k = ((runA h l noOut ne).2.1.getD d dr0).2.1 ∧ x = p
        · rw [if_pos ⟨e.1, by rw [e.2]⟩, e.1, e.2, up_eq, C.2.1 _ hpk p hp9, ep]; rfl
        · rw [if_neg (fun q => e ⟨q.1, by omega⟩), up_out (by omega), up_no (by omega)]; omega
      · rw [hby, up_no (by omega), fby]
        by_cases e : x = ((runA h l noOut ne).2.1.getD d dr0).2.2.2.1
        · rw [if_pos e, if_pos e, e, C.2.2 _ (by omega)]; rfl
        · rw [if_neg e, if_neg e]; omega

end LWC
