/-! the law: the drops, one by one -/
/-- the rows that the law counts in -/
def SHP (np ports w1 w2 w3 : Nat) (S : List (Nat × Nat)) (T : Nat → Nat → Nat) : Prop := S[w1]? = some (1, np) ∧ S[w2]? = some (6, np) ∧ (∀ j, j < np → S[w2 + 1 + j]? = some (1, ports) ∧ T w2 j = w2 + 1 + j + 1) ∧ S[w3]? = some (1, 11) ∧ 166 ≤ w1 ∧ w1 < w2 ∧ w2 + np < w3
/-- the class and the maker, while the law looks -/
def LOK2 (ports rules space : Nat) (l : Li) (h : Hi) (a : Nat → Nat) (ne np c : Nat) (cd : Nat → Cd) (q y : Nat) (nm : Nat → List Nat) (bf : Nat → Int) (S : List (Nat × Nat)) (I : Ix) (T : Nat → Nat → Nat) : Prop := MADE ports rules space l S I T ∧ ∃ L, CW S T I 2 q y h l a ne np su0 cd c nm L bf 0 (-1) 0
/-- what has been counted when the first d drops are through -/
def CTD (l : Li) (h : Hi) (ne np ports w1 w2 w3 d : Nat) (I : Ix) : Prop := (∀ k, k < np → I w1 k = ((cntK (isKP k (-1)) (runA h l noOut ne).2.1 d : Nat) : Int)) ∧ (∀ k, k < np → ∀ p : Nat, p < ports → I (w2 + 1 + k) p = ((cntK (isKP k (p : Int)) (runA h l noOut ne).2.1 d : Nat) : Int)) ∧ ∀ x : Nat, x < 11 → I w3 x = ((cntK (isBy (x : Int)) (runA h l noOut ne).2.1 d : Nat) : Int)
/-- the facts of the run -/
def RUN (l : Li) (h : Hi) (a : Nat → Nat) (ne np : Nat) : Prop := AC (lPorts l) ne np a (runA h l noOut ne) ∧ FF (lPorts l) np (runA h l noOut ne) ∧ FIL h l (runA h l noOut ne)
section LWB
variable {xs : List Int} {Q : Res → Mem → Prop} {S : List (Nat × Nat)} {T : Nat → Nat → Nat} {cc zz ports rules space ne np c w1 w2 w3 iv : Nat} {l : Li} {h : Hi} {a : Nat → Nat} {cd : Nat → Cd} {q y : Nat} {nm : Nat → List Nat} {bf : Nat → Int}

theorem LOK2.up {I : Ix} {z w : Nat} {v : Int} (H : LOK2 ports rules space l h a ne np c cd q y nm bf S I T) (hz : 166 ≤ z) : LOK2 ports rules space l h a ne np c cd q y nm bf S (up I z w v) T := by
  obtain ⟨hm, L, W⟩ := H
  exact ⟨hm.k (fun b x hb => up_out (by omega)), L, W.al (fun b x h1 h2 => up_out (by omega))⟩
theorem s_121_0 {I : Ix} {s : Nat} (o : oDropSwitch S T s q y) (K : KQ I s q h l a ne np) {k : Nat} (hk : k < (runA h l noOut ne).2.1.length) : CL xs 121 [vr s, vi ((k : Nat) : Int), vi 0] (S, I, T, cc, zz) (FN (some (vi ((((runA h l noOut ne).2.1.getD k dr0).1 : Nat) : Int))) (S, I, T, cc, zz)) := s_121 o K hk (j := 0) (by decide)
theorem s_121_1 {I : Ix} {s : Nat} (o : oDropSwitch S T s q y) (K : KQ I s q h l a ne np) {k : Nat} (hk : k < (runA h l noOut ne).2.1.length) : CL xs 121 [vr s, vi ((k : Nat) : Int), vi 1] (S, I, T, cc, zz) (FN (some (vi ((((runA h l noOut ne).2.1.getD k dr0).2.1 : Nat) : Int))) (S, I, T, cc, zz)) := s_121 o K hk (j := 1) (by decide)
theorem s_121_2 {I : Ix} {s : Nat} (o : oDropSwitch S T s q y) (K : KQ I s q h l a ne np) {k : Nat} (hk : k < (runA h l noOut ne).2.1.length) : CL xs 121 [vr s, vi ((k : Nat) : Int), vi 2] (S, I, T, cc, zz) (FN (some (vi (((runA h l noOut ne).2.1.getD k dr0).2.2.1))) (S, I, T, cc, zz)) := s_121 o K hk (j := 2) (by decide)
theorem s_121_3 {I : Ix} {s : Nat} (o : oDropSwitch S T s q y) (K : KQ I s q h l a ne np) {k : Nat} (hk : k < (runA h l noOut ne).2.1.length) : CL xs 121 [vr s, vi ((k : Nat) : Int), vi 3] (S, I, T, cc, zz) (FN (some (vi ((((runA h l noOut ne).2.1.getD k dr0).2.2.2.1 : Nat) : Int))) (S, I, T, cc, zz)) := s_121 o K hk (j := 3) (by decide)
theorem s_121_4 {I : Ix} {s : Nat} (o : oDropSwitch S T s q y) (K : KQ I s q h l a ne np) {k : Nat} (hk : k < (runA h l noOut ne).2.1.length) : CL xs 121 [vr s, vi ((k : Nat) : Int), vi 4] (S, I, T, cc, zz) (FN (some (vi (((runA h l noOut ne).2.1.getD k dr0).2.2.2.2))) (S, I, T, cc, zz)) := s_121 o K hk (j := 4) (by decide)
/-- one more drop is counted -/
theorem CTD.st {I J : Ix} {d : Nat} (C : CTD l h ne np ports w1 w2 w3 d I) (H : SHP np ports w1 w2 w3 S T) (f1 : ∀ k, k < np → J w1 k = I w1 k + (if isKP k (-1) ((runA h l noOut ne).2.1.getD d dr0) then 1 else 0)) (f2 : ∀ k, k < np → ∀ p : Nat, p < ports → J (w2 + 1 + k) p = I (w2 + 1 + k) p + (if isKP k (p : Int) ((runA h l noOut ne).2.1.getD d dr0) then 1 else 0)) (f3 : ∀ x : Nat, x < 11 → J w3 x = I w3 x + (if isBy (x : Int) ((runA h l noOut ne).2.1.getD d dr0) then 1 else 0)) : CTD l h ne np ports w1 w2 w3 (d + 1) J := by
  have key : ∀ f : Dr → Bool, ((cntK f (runA h l noOut ne).2.1 (d + 1) : Nat) : Int) = ((cntK f (runA h l noOut ne).2.1 d : Nat) : Int) + (if f ((runA h l noOut ne).2.1.getD d dr0) then 1 else 0) := fun f => by
    cases hf : f ((runA h l noOut ne).2.1.getD d dr0)
    · rw [cntK_f hf]; simp
    · rw [cntK_t hf]; simp
  exact ⟨fun k hk => by rw [f1 k hk, C.1 k hk, key], fun k hk p hp => by rw [f2 k hk p hp, C.2.1 k hk p hp, key], fun x hx => by rw [f3 x hx, C.2.2 x hx, key]⟩

theorem d2_344 {I : Ix} {d : Nat} (hne : ne ≤ 40) (hS : SHP np ports w1 w2 w3 S T) (R : RUN l h a ne np) (hd : d < (runA h l noOut ne).2.1.length) (h360 : (runA h l noOut ne).2.1.length ≤ 360) (H : LOK2 ports rules space l h a ne np c cd q y nm bf S I T)
    (KK : ∀ J, LOK2 ports rules space l h a ne np c cd q y nm bf S J T → (∀ z w, 166 ≤ z → J z w = I z w) → WP xs 344 36 140 [vs 3, vr 0, vr 1, vr 2, vi ((np : Nat) : Int), vi (((runA h l noOut ne).2.1.length : Nat) : Int), vr w1, vr w2, vr w3, vi (((runA h l noOut ne).2.1.getD d dr0).1 : Int), vi ((d + 1 : Nat) : Int), vi ((((runA h l noOut ne).2.1.getD d dr0).1 : Nat) : Int), vi ((((runA h l noOut ne).2.1.getD d dr0).2.1 : Nat) : Int), vi ((runA h l noOut ne).2.1.getD d dr0).2.2.1, vi ((((runA h l noOut ne).2.1.getD d dr0).2.2.2.1 : Nat) : Int)] [] (S, J, T, cc, zz) Q) : WP xs 344 36 281 [vs 3, vr 0, vr 1, vr 2, vi ((np : Nat) : Int), vi (((runA h l noOut ne).2.1.length : Nat) : Int), vr w1, vr w2, vr w3, vi (((runA h l noOut ne).2.1.getD d dr0).1 : Int), vi ((d : Nat) : Int), vi ((((runA h l noOut ne).2.1.getD d dr0).1 : Nat) : Int), vi ((((runA h l noOut ne).2.1.getD d dr0).2.1 : Nat) : Int), vi ((runA h l noOut ne).2.1.getD d dr0).2.2.1, vi ((((runA h l noOut ne).2.1.getD d dr0).2.2.2.1 : Nat) : Int)] [] (S, I, T, cc, zz) Q := by
  obtain ⟨hm, L, W⟩ := H
  have hdd := dr_in hd
  have hok := R.1.2.2.2.2.2.1 _ hdd
  have hpk := (R.1.1.2.2.1 _ hdd).1
  obtain ⟨o1, o2, o3⟩ := hok
  have k319 : WP xs 344 36 319 [vs 3, vr 0, vr 1, vr 2, vi ((np : Nat) : Int), vi (((runA h l noOut ne).2.1.length : Nat) : Int), vr w1, vr w2, vr w3, vi (((runA h l noOut ne).2.1.getD d dr0).1 : Int), vi ((d : Nat) : Int), vi ((((runA h l noOut ne).2.1.getD d dr0).1 : Nat) : Int), vi ((((runA h l noOut ne).2.1.getD d dr0).2.1 : Nat) : Int), vi ((runA h l noOut ne).2.1.getD d dr0).2.2.1, vi ((((runA h l noOut ne).2.1.getD d dr0).2.2.2.1 : Nat) : Int)] [] (S, I, T, cc, zz) Q := by
    refine w_aln l_344_319 rfl ?_
    refine w_il l_344_320 rfl ?_
    refine q_iv [vi ((((runA h l noOut ne).2.1.getD d dr0).2.1 : Nat) : Int)] [] l_344_322 rfl rfl (Nat.le_of_ble_eq_true rfl) (by rw [mx_122]; exact Nat.le_of_ble_eq_true rfl) (by rw [mt_122]; exact oDropSwitch_sh W.o) (by rw [mt_122]; decide) (by rw [rk_122]; decide) (s_122 W.o W.X.K hpk) ?_
    refine w_il l_344_325 rfl ?_
    refine w_cle 332 l_344_327 (by decide) (fun _ => ?_) (fun hx => absurd (firstK_le (k := d) (f := isPk ((((runA h l noOut ne).2.1.getD d dr0).2.1 : Nat) : Int)) (decide_eq_true rfl) (runA h l noOut ne).2.1.length 0 (Nat.zero_le d) (by omega)) (by omega))
    refine w_aln l_344_332 rfl ?_
    refine w_il l_344_333 rfl ?_
    refine p_iv [vi ((d : Nat) : Int)] [] l_344_335 rfl rfl (Nat.le_of_ble_eq_true rfl) (by rw [mx_144]; exact Nat.le_of_ble_eq_true rfl) (by rw [mt_144]; exact oDropSwitch_sh W.o) (by rw [mt_144]; decide) (by rw [rk_144]; decide) (s_144 W.X.hq W.o W.X.K W.nam hd) (fun v I9 hv => ?_)
    obtain ⟨rfl, e1, e2⟩ := hv
    have h7 : 7 ≤ (dropB nm ((runA h l noOut ne).2.1.getD d dr0)).length := dropB_7 (by omega)
    refine w_bp l_344_338 (by decide) ?_
    refine w_cge 345 l_344_340 (by decide) (fun _ => ?_) (fun hx => absurd hx (by omega))
    refine w_inc ((d + 1 : Nat) : Int) l_344_345 rfl rfl (by unfold wr; omega) ?_
    refine w_go 140 l_344_348 (by decide) ?_
    have e3 : ∀ z w, 166 ≤ z → I9 z w = I z w := fun z w hz => e2 z (by omega) w
    exact KK I9 ⟨hm.k (fun z w hz => e2 z (by omega) w), _, W.line e1 e2⟩ (fun z w hz => e3 z w (by omega))
  refine w_il l_344_281 rfl ?_
  refine w_bp l_344_283 (by decide) ?_
  by_cases h8 : ((runA h l noOut ne).2.1.getD d dr0).2.2.2.1 = 8
  · refine w_cne 292 l_344_285 (by decide) (fun hx => absurd hx (by omega)) (fun _ => ?_)
    refine w_ic l_344_288 (by decide) ?_
    refine w_go 293 l_344_289 (by decide) ?_
    refine w_aln l_344_293 rfl ?_
    refine w_il l_344_294 rfl ?_
    refine w_ic l_344_296 (by decide) ?_
    refine q_iv [vi ((d : Nat) : Int), vi 4] [vi 1] l_344_297 rfl rfl (Nat.le_of_ble_eq_true rfl) (by rw [mx_121]; exact Nat.le_of_ble_eq_true rfl) (by rw [mt_121]; exact oDropSwitch_sh W.o) (by rw [mt_121]; decide) (by rw [rk_121]; decide) (s_121_4 W.o W.X.K hd) ?_
    refine w_zlt 313 l_344_300 (by decide) (fun hx => absurd hx (by omega)) (fun _ => ?_)
    refine w_il l_344_303 rfl ?_
    refine w_ic l_344_305 (by decide) ?_
    refine w_ceq 313 l_344_306 (by decide) (fun hx => absurd hx (by omega)) (fun _ => ?_)
    refine w_ic l_344_309 (by decide) ?_
    refine w_go 314 l_344_310 (by decide) ?_
    refine w_ceq 319 l_344_314 (by decide) (fun _ => k319) (fun hx => absurd rfl hx)
  · refine w_cne 292 l_344_285 (by decide) (fun _ => ?_) (fun hx => absurd hx (by omega))
    refine w_ic l_344_292 (by decide) ?_
    refine w_aln l_344_293 rfl ?_
    refine w_il l_344_294 rfl ?_
    refine w_ic l_344_296 (by decide) ?_
    refine q_iv [vi ((d : Nat) : Int), vi 4] [vi 0] l_344_297 rfl rfl (Nat.le_of_ble_eq_true rfl) (by rw [mx_121]; exact Nat.le_of_ble_eq_true rfl) (by rw [mt_121]; exact oDropSwitch_sh W.o) (by rw [mt_121]; decide) (by rw [rk_121]; decide) (s_121_4 W.o W.X.K hd) ?_
    by_cases h0 : ((runA h l noOut ne).2.1.getD d dr0).2.2.2.2 < 0
    · refine w_zlt 313 l_344_300 (by decide) (fun _ => ?_) (fun hx => absurd hx (by omega))
      refine w_ic l_344_313 (by decide) ?_
      refine w_ceq 319 l_344_314 (by decide) (fun _ => k319) (fun hx => absurd rfl hx)
    · refine w_zlt 313 l_344_300 (by decide) (fun hx => absurd hx (by omega)) (fun _ => ?_)
      refine w_il l_344_303 rfl ?_
      refine w_ic l_344_305 (by decide) ?_
      refine w_ceq 313 l_344_306 (by decide) (fun _ => ?_) (fun hx => absurd hx (by omega))
      refine w_ic l_344_313 (by decide) ?_
      refine w_ceq 319 l_344_314 (by decide) (fun _ => k319) (fun hx => absurd rfl hx)

end LWB
