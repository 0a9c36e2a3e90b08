/-! the law: causes, ports -/
theorem cN_pos {f : Nat → Bool} : ∀ m, 0 < cN f m ↔ ∃ k, k < m ∧ f k = true
  | 0 => ⟨fun q => absurd q (Nat.lt_irrefl 0), fun ⟨k, hk, _⟩ => absurd hk (Nat.not_lt_zero k)⟩
  | m + 1 => by
    rw [cN_s]
    have ih := cN_pos (f := f) m
    cases hf : f m
    · refine ⟨fun q => ?_, fun ⟨k, hk, e⟩ => ?_⟩
      · obtain ⟨k, hk, e⟩ := ih.mp (by simpa using q)
        exact ⟨k, by omega, e⟩
      · have : k ≠ m := fun q => by rw [q, hf] at e; cases e
        have := ih.mpr ⟨k, by omega, e⟩
        omega
    · exact ⟨fun _ => ⟨m, Nat.lt_succ_self m, hf⟩, fun _ => by simp⟩
theorem cN_b {f : Nat → Bool} : ∀ m, cN f m ≤ m
  | 0 => Nat.le_refl 0
  | m + 1 => by
    rw [cN_s]
    have := cN_b (f := f) m
    split <;> omega
section LWD
variable {xs : List Int} {Q : Res → Mem → Prop} {S : List (Nat × Nat)} {T : Nat → Nat → Nat} {cc zz ports rules space ne np c w1 w2 w3 iv : Nat} {l : Li} {h : Hi} {a : Nat → Nat} {cd : Nat → Cd} {q y : Nat} {nm : Nat → List Nat} {bf : Nat → Int}
variable {I : Ix} {x9 x10 x12 x13 : Int} {v11 v12 v13 v14 : AV}

theorem d3_344 (hS : SHP np ports w1 w2 w3 S T) (H : LOK2 ports rules space l h a ne np c cd q y nm bf S I T) (C : CTD l h ne np ports w1 w2 w3 (runA h l noOut ne).2.1.length I) (KK : WP xs 344 36 383 [vs 3, vr 0, vr 1, vr 2, vi ((np : Nat) : Int), vi (((runA h l noOut ne).2.1.length : Nat) : Int), vr w1, vr w2, vr w3, vi x9, vi ((11 : Nat) : Int), v11, v12, v13, v14] [] (S, I, T, cc, zz) Q) : ∀ (z x : Nat), x + z = 11 → 1 ≤ x → WP xs 344 36 354 [vs 3, vr 0, vr 1, vr 2, vi ((np : Nat) : Int), vi (((runA h l noOut ne).2.1.length : Nat) : Int), vr w1, vr w2, vr w3, vi x9, vi ((x : Nat) : Int), v11, v12, v13, v14] [] (S, I, T, cc, zz) Q := by
  obtain ⟨hm, L, W⟩ := H
  intro z
  induction z with
  | zero =>
    intro x hz hx
    have e : x = 11 := by omega
    subst e
    refine w_il l_344_354 rfl ?_
    refine w_bp l_344_356 (by decide) ?_
    exact w_cge 383 l_344_358 (by decide) (fun _ => KK) (fun hx => absurd hx (by omega))
  | succ z ih =>
    intro x hz hx
    refine w_il l_344_354 rfl ?_
    refine w_bp l_344_356 (by decide) ?_
    refine w_cge 383 l_344_358 (by decide) (fun hx => absurd hx (by omega)) (fun _ => ?_)
    refine w_aln l_344_361 rfl ?_
    refine w_il l_344_362 rfl ?_
    refine q_iv [vi ((x : Nat) : Int)] [] l_344_364 rfl rfl (Nat.le_of_ble_eq_true rfl) (by rw [mx_123]; exact Nat.le_of_ble_eq_true rfl) (by rw [mt_123]; exact oDropSwitch_sh W.o) (by rw [mt_123]; decide) (by rw [rk_123]; decide) (s_123 W.o W.X.K (p := x) (by omega)) ?_
    refine w_al l_344_367 rfl ?_
    refine w_il l_344_369 rfl ?_
    refine w_ia x _ l_344_371 hS.2.2.2.1 rfl (by omega) (C.2.2 x (by omega)) ?_
    refine w_ceq 377 l_344_372 (by decide) (fun _ => ?_) (fun hx => absurd rfl hx)
    refine w_inc ((x + 1 : Nat) : Int) l_344_377 rfl rfl (by unfold wr; omega) ?_
    refine w_go 354 l_344_380 (by decide) ?_
    exact ih (x + 1) (by omega) (by omega)

theorem d4_344 (H : LOK2 ports rules space l h a ne np c cd q y nm bf S I T) {p : Nat} (hp : p < lPorts l) (hnp : np ≤ 120) (KK : WP xs 344 36 479 [vs 3, vr 0, vr 1, vr 2, vi ((np : Nat) : Int), vi (((runA h l noOut ne).2.1.length : Nat) : Int), vr w1, vr w2, vr w3, vi x9, vi x10, vi ((p : Nat) : Int), vi x12, vi ((cN (fun k => decide ((runA h l noOut ne).2.2.1 k (p + 1) = 2)) np : Nat) : Int), vi ((np : Nat) : Int)] [] (S, I, T, cc, zz) Q) : ∀ (z k : Nat), k + z = np → WP xs 344 36 444 [vs 3, vr 0, vr 1, vr 2, vi ((np : Nat) : Int), vi (((runA h l noOut ne).2.1.length : Nat) : Int), vr w1, vr w2, vr w3, vi x9, vi x10, vi ((p : Nat) : Int), vi x12, vi ((cN (fun k => decide ((runA h l noOut ne).2.2.1 k (p + 1) = 2)) k : Nat) : Int), vi ((k : Nat) : Int)] [] (S, I, T, cc, zz) Q := by
  obtain ⟨hm, L, W⟩ := H
  intro z
  induction z with
  | zero =>
    intro k hz
    have e : k = np := by omega
    subst e
    refine w_il l_344_444 rfl ?_
    refine w_il l_344_446 rfl ?_
    exact w_cge 479 l_344_448 (by decide) (fun _ => KK) (fun hx => absurd hx (by omega))
  | succ z ih =>
    intro k hz
    refine w_il l_344_444 rfl ?_
    refine w_il l_344_446 rfl ?_
    refine w_cge 479 l_344_448 (by decide) (fun hx => absurd hx (by omega)) (fun _ => ?_)
    refine w_il l_344_451 rfl ?_
    refine w_aln l_344_453 rfl ?_
    refine w_il l_344_454 rfl ?_
    refine w_il l_344_456 rfl ?_
    refine q_iv [vi ((k : Nat) : Int), vi ((p : Nat) : Int)] [vi ((cN (fun k => decide ((runA h l noOut ne).2.2.1 k (p + 1) = 2)) k : Nat) : Int)] l_344_458 rfl rfl (Nat.le_of_ble_eq_true rfl) (by rw [mx_120]; exact Nat.le_of_ble_eq_true rfl) (by rw [mt_120]; exact oDropSwitch_sh W.o) (by rw [mt_120]; decide) (by rw [rk_120]; decide) (s_120 W.o W.X.K (k := k) (p := p) (by omega) (by omega)) ?_
    refine w_ic l_344_461 (by decide) ?_
    have hb := cN_b (f := fun k => decide ((runA h l noOut ne).2.2.1 k (p + 1) = 2)) k
    have hs := cN_s (fun k => decide ((runA h l noOut ne).2.2.1 k (p + 1) = 2)) k
    by_cases h2 : (runA h l noOut ne).2.2.1 k (p + 1) = 2
    · rw [decide_eq_true h2] at hs
      refine w_cne 469 l_344_462 (by decide) (fun hx => absurd hx (by omega)) (fun _ => ?_)
      refine w_ic l_344_465 (by decide) ?_
      refine w_go 470 l_344_466 (by decide) ?_
      refine w_add ((cN (fun k => decide ((runA h l noOut ne).2.2.1 k (p + 1) = 2)) (k + 1) : Nat) : Int) l_344_470 (by rw [hs]; simp only [if_true, if_false, Bool.false_eq_true]; unfold wr; omega) ?_
      refine w_is l_344_471 ⟨Nat.le_of_ble_eq_true rfl, rfl⟩ ?_
      refine w_inc ((k + 1 : Nat) : Int) l_344_473 rfl rfl (by unfold wr; omega) ?_
      refine w_go 444 l_344_476 (by decide) ?_
      exact ih (k + 1) (by omega)
    · rw [decide_eq_false h2] at hs
      refine w_cne 469 l_344_462 (by decide) (fun _ => ?_) (fun hx => absurd hx (by omega))
      refine w_ic l_344_469 (by decide) ?_
      refine w_add ((cN (fun k => decide ((runA h l noOut ne).2.2.1 k (p + 1) = 2)) (k + 1) : Nat) : Int) l_344_470 (by rw [hs]; simp only [if_true, if_false, Bool.false_eq_true]; unfold wr; omega) ?_
      refine w_is l_344_471 ⟨Nat.le_of_ble_eq_true rfl, rfl⟩ ?_
      refine w_inc ((k + 1 : Nat) : Int) l_344_473 rfl rfl (by unfold wr; omega) ?_
      refine w_go 444 l_344_476 (by decide) ?_
      exact ih (k + 1) (by omega)

theorem d5_344 (H : LOK2 ports rules space l h a ne np c cd q y nm bf S I T) (A : AC (lPorts l) ne np a (runA h l noOut ne)) {p : Nat} (hp : p < lPorts l) (hql : (sQ (runA h l noOut ne).1 p).length ≤ 99) (KK : WP xs 344 36 532 [vs 3, vr 0, vr 1, vr 2, vi ((np : Nat) : Int), vi (((runA h l noOut ne).2.1.length : Nat) : Int), vr w1, vr w2, vr w3, vi x9, vi x10, vi ((p : Nat) : Int), vi x12, vi x13, vi (((sQ (runA h l noOut ne).1 p).length : Nat) : Int)] [] (S, I, T, cc, zz) Q) : ∀ (z k : Nat), k + z = (sQ (runA h l noOut ne).1 p).length → WP xs 344 36 495 [vs 3, vr 0, vr 1, vr 2, vi ((np : Nat) : Int), vi (((runA h l noOut ne).2.1.length : Nat) : Int), vr w1, vr w2, vr w3, vi x9, vi x10, vi ((p : Nat) : Int), vi x12, vi x13, vi ((k : Nat) : Int)] [] (S, I, T, cc, zz) Q := by
  obtain ⟨hm, L, W⟩ := H
  intro z
  induction z with
  | zero =>
    intro k hz
    have e : k = (sQ (runA h l noOut ne).1 p).length := by omega
    refine w_il l_344_495 rfl ?_
    refine w_aln l_344_497 rfl ?_
    refine w_il l_344_498 rfl ?_
    refine q_iv [vi ((p : Nat) : Int)] [vi ((k : Nat) : Int)] l_344_500 rfl rfl (Nat.le_of_ble_eq_true rfl) (by rw [mx_113]; exact Nat.le_of_ble_eq_true rfl) (by rw [mt_113]; exact oDropSwitch_sh W.o) (by rw [mt_113]; decide) (by rw [rk_113]; decide) (s_113 W.o W.X.K (p := p) hp) ?_
    exact w_cge 532 l_344_503 (by decide) (fun _ => by rw [e]; exact KK) (fun hx => absurd hx (by omega))
  | succ z ih =>
    intro k hz
    have hk : k < (sQ (runA h l noOut ne).1 p).length := by omega
    refine w_il l_344_495 rfl ?_
    refine w_aln l_344_497 rfl ?_
    refine w_il l_344_498 rfl ?_
    refine q_iv [vi ((p : Nat) : Int)] [vi ((k : Nat) : Int)] l_344_500 rfl rfl (Nat.le_of_ble_eq_true rfl) (by rw [mx_113]; exact Nat.le_of_ble_eq_true rfl) (by rw [mt_113]; exact oDropSwitch_sh W.o) (by rw [mt_113]; decide) (by rw [rk_113]; decide) (s_113 W.o W.X.K (p := p) hp) ?_
    refine w_cge 532 l_344_503 (by decide) (fun hx => absurd hx (by omega)) (fun _ => ?_)
    refine w_aln l_344_506 rfl ?_
    refine w_aln l_344_507 rfl ?_
    refine w_il l_344_508 rfl ?_
    refine w_il l_344_510 rfl ?_
    refine q_iv [vi ((p : Nat) : Int), vi ((k : Nat) : Int)] [vr 2] l_344_512 rfl rfl (Nat.le_of_ble_eq_true rfl) (by rw [mx_114]; exact Nat.le_of_ble_eq_true rfl) (by rw [mt_114]; exact oDropSwitch_sh W.o) (by rw [mt_114]; decide) (by rw [rk_114]; decide) (s_114 W.o W.X.K (p := p) (k := k) hp hk) ?_
    refine w_il l_344_515 rfl ?_
    have hq1 := (A.2.1 _ p).mpr ⟨_, mem_g hk, rfl⟩
    refine q_iv [vi ((((sQ (runA h l noOut ne).1 p).getD k (0, 0)).1 : Nat) : Int), vi ((p : Nat) : Int)] [] l_344_517 rfl rfl (Nat.le_of_ble_eq_true rfl) (by rw [mx_120]; exact Nat.le_of_ble_eq_true rfl) (by rw [mt_120]; exact oDropSwitch_sh W.o) (by rw [mt_120]; decide) (by rw [rk_120]; decide) (s_120 W.o W.X.K (A.1.2.1 p _ (mem_g hk)) (p := p) hp) ?_
    rw [hq1]
    refine w_ic l_344_520 (by decide) ?_
    refine w_ceq 526 l_344_521 (by decide) (fun _ => ?_) (fun hx => absurd rfl hx)
    refine w_inc ((k + 1 : Nat) : Int) l_344_526 rfl rfl (by unfold wr; omega) ?_
    refine w_go 495 l_344_529 (by decide) ?_
    exact ih (k + 1) (by omega)

theorem fa_mono {A : Sa} {x : Nat} : ∀ y, x ≤ y → fillAll h x A ≤ fillAll h y A
  | 0, hx => by rw [Nat.le_zero.mp hx]; exact Nat.le_refl _
  | y + 1, hx => by
    by_cases e : x = y + 1
    · rw [e]; exact Nat.le_refl _
    · rw [fa_s]
      exact Nat.le_trans (fa_mono y (by omega)) (Nat.le_add_right _ _)
theorem d6_344 (hlp : lPorts l = ports ∧ 2 ≤ ports ∧ ports ≤ 4) (H : LOK2 ports rules space l h a ne np c cd q y nm bf S I T) (R : RUN l h a ne np) (hnp : np ≤ 120) (KK : ∀ v12 v13 v14 : AV, WP xs 344 36 556 [vs 3, vr 0, vr 1, vr 2, vi ((np : Nat) : Int), vi (((runA h l noOut ne).2.1.length : Nat) : Int), vr w1, vr w2, vr w3, vi x9, vi ((fillAll h ports (runA h l noOut ne).1 : Nat) : Int), vi ((ports : Nat) : Int), v12, v13, v14] [] (S, I, T, cc, zz) Q) : ∀ (z p : Nat), p + z = ports → ∀ v12 v13 v14 : AV, WP xs 344 36 389 [vs 3, vr 0, vr 1, vr 2, vi ((np : Nat) : Int), vi (((runA h l noOut ne).2.1.length : Nat) : Int), vr w1, vr w2, vr w3, vi x9, vi ((fillAll h p (runA h l noOut ne).1 : Nat) : Int), vi ((p : Nat) : Int), v12, v13, v14] [] (S, I, T, cc, zz) Q := by
  obtain ⟨hm, L, W⟩ := H
  intro z
  induction z with
  | zero =>
    intro p hz v12 v13 v14
    have e : p = ports := by omega
    refine w_il l_344_389 rfl ?_
    refine w_aln l_344_391 rfl ?_
    refine w_gin ((ports : Nat) : Int) l_344_392 (by decide) hm.s1 hm.pt ?_
    exact w_cge 556 l_344_395 (by decide) (fun _ => by rw [e]; exact KK v12 v13 v14) (fun hx => absurd hx (by omega))
  | succ z ih =>
    intro p hz v12 v13 v14
    refine w_il l_344_389 rfl ?_
    refine w_aln l_344_391 rfl ?_
    refine w_gin ((ports : Nat) : Int) l_344_392 (by decide) hm.s1 hm.pt ?_
    refine w_cge 556 l_344_395 (by decide) (fun hx => absurd hx (by omega)) (fun _ => ?_)
    refine w_aln l_344_398 rfl ?_
    refine w_il l_344_399 rfl ?_
    refine q_iv [vi ((p : Nat) : Int)] [] l_344_401 rfl rfl (Nat.le_of_ble_eq_true rfl) (by rw [mx_112]; exact Nat.le_of_ble_eq_true rfl) (by rw [mt_112]; exact oDropSwitch_sh W.o) (by rw [mt_112]; decide) (by rw [rk_112]; decide) (s_112 W.o W.X.K (p := p) (by omega)) ?_
    refine w_is l_344_404 ⟨Nat.le_of_ble_eq_true rfl, rfl⟩ ?_
    refine w_il l_344_406 rfl ?_
    refine w_aln l_344_408 rfl ?_
    refine w_grn l_344_409 (by decide) hm.s1 hm.2.2.2.2.1 ?_
    refine w_il l_344_412 rfl ?_
    refine w_ia p ((lCap l p : Nat) : Int) l_344_414 hm.2.2.1 rfl (by omega) (hm.2.2.2.2.2.2.2.2.2.1 p (by omega)) ?_
    have hcap := R.2.2.1 p (by omega)
    have hlf : (sQ (runA h l noOut ne).1 p).length ≤ fillP h (runA h l noOut ne).1 p := len_fill W.X.K.2.2.2.2.2.2.1 _
    have hfa := R.2.2.2
    have hfs := fa_s (h := h) (n := p) (A := (runA h l noOut ne).1)
    have hfm : fillAll h (p + 1) (runA h l noOut ne).1 ≤ fillAll h (lPorts l) (runA h l noOut ne).1 := fa_mono _ (by omega)
    refine w_cgt 429 l_344_415 (by decide) (fun hx => absurd hx (by omega)) (fun _ => ?_)
    refine w_il l_344_418 rfl ?_
    refine w_aln l_344_420 rfl ?_
    refine w_il l_344_421 rfl ?_
    refine q_iv [vi ((p : Nat) : Int)] [vi ((fillP h (runA h l noOut ne).1 p : Nat) : Int)] l_344_423 rfl rfl (Nat.le_of_ble_eq_true rfl) (by rw [mx_113]; exact Nat.le_of_ble_eq_true rfl) (by rw [mt_113]; exact oDropSwitch_sh W.o) (by rw [mt_113]; decide) (by rw [rk_113]; decide) (s_113 W.o W.X.K (p := p) (by omega)) ?_
    refine w_cge 431 l_344_426 (by decide) (fun _ => ?_) (fun hx => absurd hx (by omega))
    refine w_il l_344_431 rfl ?_
    refine w_il l_344_433 rfl ?_
    refine w_add ((fillAll h (p + 1) (runA h l noOut ne).1 : Nat) : Int) l_344_435 (by have := W.X.K.2.2.2.2.2.2.2.1.2.2.2.2.1; unfold wr; omega) ?_
    refine w_is l_344_436 ⟨Nat.le_of_ble_eq_true rfl, rfl⟩ ?_
    refine w_ic l_344_438 (by decide) ?_
    refine w_is l_344_439 ⟨Nat.le_of_ble_eq_true rfl, rfl⟩ ?_
    refine w_ic l_344_441 (by decide) ?_
    refine w_is l_344_442 ⟨Nat.le_of_ble_eq_true rfl, rfl⟩ ?_
    have H9 : LOK2 ports rules space l h a ne np c cd q y nm bf S I T := ⟨hm, L, W⟩
    refine d4_344 H9 (p := p) (by omega) hnp ?_ np 0 (Nat.zero_add np)
    refine w_aln l_344_479 rfl ?_
    refine w_il l_344_480 rfl ?_
    refine q_iv [vi ((p : Nat) : Int)] [] l_344_482 rfl rfl (Nat.le_of_ble_eq_true rfl) (by rw [mx_119]; exact Nat.le_of_ble_eq_true rfl) (by rw [mt_119]; exact oDropSwitch_sh W.o) (by rw [mt_119]; decide) (by rw [rk_119]; decide) (s_119 W.o W.X.K (p := p) (by omega)) ?_
    refine w_il l_344_485 rfl ?_
    refine w_ceq 492 l_344_487 (by decide) (fun _ => ?_) (fun hx => absurd (by rw [R.1.2.2.1 p]) hx)
    refine w_ic l_344_492 (by decide) ?_
    refine w_is l_344_493 ⟨Nat.le_of_ble_eq_true rfl, rfl⟩ ?_
    have hql : (sQ (runA h l noOut ne).1 p).length ≤ 99 := ok_len (run_ok (out := noOut) W.X.K.2.2.2.2.2.2.1 W.X.K.2.2.2.2.2.2.2.1 W.X.K.2.2.2.2.2.2.2.2.1 ne (Nat.le_refl _)).1 W.X.K.2.2.2.2.2.2.1 p
    refine d5_344 H9 R.1 (p := p) (by omega) hql ?_ _ 0 (Nat.zero_add _)
    refine w_aln l_344_532 rfl ?_
    refine w_il l_344_533 rfl ?_
    refine w_aln l_344_535 rfl ?_
    refine w_il l_344_536 rfl ?_
    refine q_iv [vi ((p : Nat) : Int)] [vi ((p : Nat) : Int), vr 2] l_344_538 rfl rfl (Nat.le_of_ble_eq_true rfl) (by rw [mx_113]; exact Nat.le_of_ble_eq_true rfl) (by rw [mt_113]; exact oDropSwitch_sh W.o) (by rw [mt_113]; decide) (by rw [rk_113]; decide) (s_113 W.o W.X.K (p := p) (by omega)) ?_
    refine q_iv [vi ((p : Nat) : Int), vi (((sQ (runA h l noOut ne).1 p).length : Nat) : Int)] [] l_344_541 rfl rfl (Nat.le_of_ble_eq_true rfl) (by rw [mx_114]; exact Nat.le_of_ble_eq_true rfl) (by rw [mt_114]; exact oDropSwitch_sh W.o) (by rw [mt_114]; decide) (by rw [rk_114]; decide) (s_114o W.o W.X.K (p := p) (by omega) (fun q => by omega)) ?_
    refine w_ic l_344_544 (by decide) ?_
    refine w_ceq 550 l_344_545 (by decide) (fun _ => ?_) (fun hx => absurd rfl hx)
    refine w_inc ((p + 1 : Nat) : Int) l_344_550 rfl rfl (by unfold wr; omega) ?_
    refine w_go 389 l_344_553 (by decide) ?_
    exact ih (p + 1) (by omega) _ _ _

end LWD
