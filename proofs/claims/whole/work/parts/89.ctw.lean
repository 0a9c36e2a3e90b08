/-! the class: a run without an event -/
def lb (w : Int) (b : Nat) : Bool := (BitVec.ofInt 64 w).getLsbD b
def sl1 (b : Nat) : Int := l1 (fun x y => x <<< (y.toInt64 &&& 63)) 1 (b : Int)
def lor2 (w x : Int) : Int := l2 (fun x y => x ||| y) w x
def shr1 (w : Int) (b : Nat) : Int := l1 (fun x y => (x.toUInt64 >>> (y.toInt64.toUInt64 &&& Int64.toUInt64 63)).toInt64) w (b : Int)
def lan1 (w : Int) : Int := l2 (fun x y => x &&& y) w 1
theorem lb_of (x : Int64) (b : Nat) : lb x.toInt b = x.toBitVec.getLsbD b := by
  unfold lb
  rw [show BitVec.ofInt 64 x.toInt = x.toBitVec from by rw [show x.toInt = x.toBitVec.toInt from rfl, BitVec.ofInt_toInt]]
theorem lb_0 (b : Nat) : lb 0 b = false := by
  unfold lb
  rw [show BitVec.ofInt 64 0 = 0#64 from by decide]
  exact BitVec.getLsbD_zero
theorem sl1_b : ∀ b : Nat, b < 64 → sl1 b = (BitVec.twoPow 64 b).toInt := by decide +kernel
theorem lb_or {w : Int} {b : Nat} (hb : b < 64) (c : Nat) : lb (lor2 w (sl1 b)) c = (lb w c || decide (b = c)) := by
  rw [sl1_b b hb]
  unfold lor2 l2
  rw [lb_of, Int64.toBitVec_or, Int64.toBitVec_ofInt, Int64.toBitVec_ofInt, BitVec.getLsbD_or, BitVec.ofInt_toInt, BitVec.getLsbD_twoPow]
  unfold lb
  congr 1
  simp [hb]
theorem sh_u : ∀ b : Nat, b < 64 → ((Int32.ofInt (b : Int)).toInt64.toUInt64 &&& Int64.toUInt64 63) = UInt64.ofNat b := by decide +kernel
theorem lb_t {w : Int} {b : Nat} (hb : b < 64) : cmpL (lan1 (shr1 w b)) 0 = 0 ↔ lb w b = false := by
  have e1 : lan1 (shr1 w b) = if lb w b then 1 else 0 := by
    unfold lan1 l2 shr1 l1
    rw [Int64.ofInt_toInt]
    show (Int64.toInt (((Int64.ofInt w).toUInt64 >>> ((Int32.ofInt (b : Int)).toInt64.toUInt64 &&& Int64.toUInt64 63)).toInt64 &&& Int64.ofInt 1)) = _
    rw [sh_u b hb, show ∀ x : Int64, x.toInt = x.toBitVec.toInt from fun _ => rfl, Int64.toBitVec_and]
    have e2 : ((Int64.ofInt w).toUInt64 >>> UInt64.ofNat b).toInt64.toBitVec = (BitVec.ofInt 64 w) >>> b := by
      show ((Int64.ofInt w).toUInt64 >>> UInt64.ofNat b).toBitVec = _
      rw [UInt64.toBitVec_shiftRight]
      show (BitVec.ofInt 64 w) >>> ((UInt64.ofNat b).toBitVec % 64) = _
      rw [BitVec.ushiftRight_eq']
      congr 1
      show (BitVec.ofNat 64 b % 64).toNat = b
      rw [BitVec.toNat_umod]
      simp
      omega
    rw [e2, show (Int64.ofInt 1).toBitVec = 1#64 from by decide, BitVec.and_one_eq_setWidth_ofBool_getLsbD, BitVec.getLsbD_ushiftRight, Nat.add_zero]
    show _ = if (BitVec.ofInt 64 w).getLsbD b then _ else _
    cases (BitVec.ofInt 64 w).getLsbD b <;> decide
  rw [e1]
  cases lb w b <;> decide
/-! PURE -/
theorem KQ.fr {I J : Ix} {s q lo hi : Nat} {h : Hi} {l : Li} {a : Nat → Nat} {ne np : Nat} (hq : s < q ∧ q + 8 < s + 21) (K : KQ I s q h l a ne np) (f : fr I J lo hi) (d : s + 51 < lo) : KQ J s q h l a ne np := by
  obtain ⟨k1, k2, k3, k4, k5, k6, k7⟩ := K
  exact ⟨k1.fr f (Or.inr (by omega)), (f q (Or.inl (by omega)) 2).trans k2, k3.fr f (Or.inr (by omega)), ⟨k4.1.fr f (Or.inr (by omega)), k4.2.fr f (Or.inr (by omega))⟩, k5.fr f (Or.inr (by omega)), k6.fr f (Or.inr (by omega)), k7⟩
theorem uq_F {h : Hi} {l : Li} {ne : Nat} (hp : okPk h ne) {out out' : Nat → Bool} {f : Nat} : ∀ n, f + n ≤ ne → uq (arr h (f + n)) (runF h l out' ((runA h l out f).1, lo0) f n)
  | 0, he => uq_new (uq_run (l := l) (out := out) hp f he)
  | n + 1, he => by
    have g := uq_F (l := l) (out := out) (out' := out') (f := f) hp n (by omega)
    have k := hp (f + n) (by omega)
    unfold runF
    split
    · exact uq_mono g arr_le
    · exact uq_step g k.1 k.2
def oneOut (e : Nat) : Nat → Bool := fun o => o == e
def trF (h : Hi) (l : Li) (ne e : Nat) : Ra := runF h l (oneOut e) ((runA h l noOut (ltC e ne)).1, lo0) (ltC e ne) (ne - ltC e ne)
/-- what the class keeps of a run without an event -/
def svB (h : Hi) (l : Li) (ne e : Nat) (d : Dr) : Bool := decide (ltC e ne ≤ d.1) && !hasF (trF h l ne e).2 d.2.1 d.2.2.1
/-- the event is evidence for the drop -/
def evB (h : Hi) (l : Li) (ne : Nat) (d : Dr) (e : Nat) : Bool := !still (runA h l (oneOut e) ne).2.1 (d.2.1 : Int) d.2.2.1
theorem still_has {G : List Dr} {k : Nat} {Q : Int} : still G (k : Int) Q = true ↔ has G k Q := by
  unfold still
  rw [decide_eq_true_iff]
  have h0 := cntK_0 (f := isPP (k : Int) Q) (g := G)
  constructor
  · intro hn
    refine Classical.byContradiction fun hc => hn (h0.mpr fun d hd => ?_)
    unfold isPP
    refine Bool.eq_false_iff.mpr fun ht => hc ⟨d, hd, ?_⟩
    rw [Bool.and_eq_true, decide_eq_true_iff, decide_eq_true_iff] at ht
    exact ⟨by omega, ht.2⟩
  · rintro ⟨d, hd, e1, e2⟩ hz
    have h1 := h0.mp hz d hd
    unfold isPP at h1
    rw [e1, e2] at h1
    simp at h1
theorem out_pre {h : Hi} {l : Li} {e f : Nat} (hf : f ≤ e) : runA h l (oneOut e) f = runA h l noOut f := run_ext f fun k hk => by
  show (k == e) = false
  rw [beq_eq_false_iff_ne]
  omega
theorem ev_late {h : Hi} {l : Li} {ne e : Nat} (hp : okPk h ne) (he : e ≤ ne) {d : Dr} (hd : d ∈ (runA h l noOut ne).2.1) (hl : d.1 < e) : evB h l ne d e = false := by
  unfold evB
  rw [Bool.not_eq_false', still_has]
  obtain ⟨D, g1, g2⟩ := run_pre (h := h) (l := l) (out := noOut) (f := e) (ne - e) (fun x hx => (hp x (by omega)).2)
  obtain ⟨D', g3, _⟩ := run_pre (h := h) (l := l) (out := oneOut e) (f := e) (ne - e) (fun x hx => (hp x (by omega)).2)
  rw [show e + (ne - e) = ne by omega] at g1 g2 g3
  rw [g1] at hd
  rw [out_pre (Nat.le_refl e)] at g3
  rcases List.mem_append.mp hd with hd | hd
  · exact ⟨d, by rw [g3]; exact List.mem_append.mpr (Or.inl hd), rfl, rfl⟩
  · have := (g2 d hd).1
    omega
theorem sv_ev {h : Hi} {l : Li} {ne e : Nat} (hp : okPk h ne) (he : e < ne) {d : Dr} (hd : d ∈ (runA h l noOut ne).2.1) : svB h l ne e d = evB h l ne d e := by
  have hf : ltC e ne ≤ e := ltC_le
  have hfn : ltC e ne + (ne - ltC e ne) = ne := by omega
  obtain ⟨_, hB⟩ := replay (h := h) (l := l) (out := oneOut e) (f := ltC e ne) (n := ne - ltC e ne) (fun x hx => (hp x (by omega)).2)
  obtain ⟨D, g1, g2⟩ := run_pre (h := h) (l := l) (out := noOut) (f := ltC e ne) (ne - ltC e ne) (fun x hx => (hp x (by omega)).2)
  rw [hfn] at hB g1 g2
  rw [out_pre hf] at hB
  have hB : (runA h l (oneOut e) ne).2.1 = (runA h l noOut (ltC e ne)).2.1 ++ (trF h l ne e).2.1 := hB
  have hu : uq (arr h (ltC e ne + (ne - ltC e ne))) (trF h l ne e) := uq_F hp (ne - ltC e ne) (by omega)
  have hn := uq_run (l := l) (out := noOut) hp ne (Nat.le_refl ne)
  have hP := (hn.2.2.1 d hd).2.1
  have hF := has_fate hu (k := d.2.1) hP
  have hH : hasF (trF h l ne e).2 d.2.1 d.2.2.1 = true ↔ has (trF h l ne e).2.1 d.2.1 d.2.2.1 := by
    unfold hasF
    rw [decide_eq_true_iff]
    exact hF
  have hnd := hn.2.2.2.2
  rw [g1, List.map_append, List.nodup_append] at hnd
  rw [g1] at hd
  unfold svB evB
  rcases List.mem_append.mp hd with hd1 | hd1
  · have h1 := run_ev (h := h) (l := l) (out := noOut) (n := ltC e ne) (fun x hx => (hp x (by omega)).2) d hd1
    have h2 : still (runA h l (oneOut e) ne).2.1 (d.2.1 : Int) d.2.2.1 = true := still_has.mpr ⟨d, by rw [hB]; exact List.mem_append.mpr (Or.inl hd1), rfl, rfl⟩
    rw [h2, decide_eq_false (by omega)]
    rfl
  · have h1 := (g2 d hd1).1
    rw [decide_eq_true h1, Bool.true_and]
    congr 1
    refine Bool.eq_iff_iff.mpr (hH.trans (Iff.trans ?_ still_has.symm))
    rw [hB]
    constructor
    · rintro ⟨d', h3, h4⟩
      exact ⟨d', List.mem_append.mpr (Or.inr h3), h4⟩
    · rintro ⟨d', h3, h4, h5⟩
      rcases List.mem_append.mp h3 with h3 | h3
      · exact absurd (show (d'.2.1, d'.2.2.1) = (d.2.1, d.2.2.1) by rw [h4, h5]) (hnd.2.2 _ (List.mem_map.mpr ⟨d', h3, rfl⟩) _ (List.mem_map.mpr ⟨d, hd1, rfl⟩))
      · exact ⟨d', h3, h4, h5⟩
section CTW
variable {xs : List Int} {S : List (Nat × Nat)} {T : Nat → Nat → Nat} {cc zz s q y : Nat} {h : Hi} {l : Li} {I I' : Ix}
theorem rep_ok1 {h : Hi} {l : Li} {ne np e : Nat} (ok : okHi h) (okl : okLi l) (hev : okEv h l ne np) {f : Nat} (n : Nat) (hn : f + n ≤ ne) : okR h l np (3 * (f + n)) (runF h l (oneOut e) ((runA h l noOut f).1, lo0) f n) ∧ sTime (runF h l (oneOut e) ((runA h l noOut f).1, lo0) f n).1 ≤ f + n :=
  have g := rep_ok ok okl hev (out := noOut) (out' := oneOut e) (f := f) n hn
  ⟨g.1, g.2.2⟩

theorem mx_163 : mxl 163 = 5 := by decide +kernel
theorem mt_163 : mtc 163 = 9 := by decide +kernel
theorem rk_163 (as : List AV) : rkA 163 as = 5 := rfl
theorem l_163_0 : look 163 0 = some (.aload_n 0, 1, 0, 0, 0, 0) := by decide +kernel
theorem l_163_1 : look 163 1 = some (.getfield 80, 3, 9, 14, 2, 552) := by decide +kernel
theorem l_163_4 : look 163 4 = some (.iload_n 1, 1, 0, 0, 0, 0) := by decide +kernel
theorem l_163_5 : look 163 5 = some (.iaload, 1, 0, 0, 0, 0) := by decide +kernel
theorem l_163_6 : look 163 6 = some (.aload_n 0, 1, 0, 0, 0, 0) := by decide +kernel
theorem l_163_7 : look 163 7 = some (.getfield 74, 3, 9, 12, 0, 550) := by decide +kernel
theorem l_163_10 : look 163 10 = some (.if_icmp .ne 4, 3, 0, 0, 0, 0) := by decide +kernel
theorem l_163_13 : look 163 13 = some (.return_, 1, 0, 0, 0, 0) := by decide +kernel
theorem l_163_14 : look 163 14 = some (.aload_n 0, 1, 0, 0, 0, 0) := by decide +kernel
theorem l_163_15 : look 163 15 = some (.getfield 80, 3, 9, 14, 2, 552) := by decide +kernel
theorem l_163_18 : look 163 18 = some (.iload_n 1, 1, 0, 0, 0, 0) := by decide +kernel
theorem l_163_19 : look 163 19 = some (.aload_n 0, 1, 0, 0, 0, 0) := by decide +kernel
theorem l_163_20 : look 163 20 = some (.getfield 74, 3, 9, 12, 0, 550) := by decide +kernel
theorem l_163_23 : look 163 23 = some (.iastore, 1, 0, 0, 0, 0) := by decide +kernel
theorem l_163_24 : look 163 24 = some (.aload_n 0, 1, 0, 0, 0, 0) := by decide +kernel
theorem l_163_25 : look 163 25 = some (.iload_n 1, 1, 0, 0, 0, 0) := by decide +kernel
theorem l_163_26 : look 163 26 = some (.invokevirtual 257, 3, 159, 2, 0, 1322) := by decide +kernel
theorem l_163_29 : look 163 29 = some (.istore_n 2, 1, 0, 0, 0, 0) := by decide +kernel
theorem l_163_30 : look 163 30 = some (.aload_n 0, 1, 0, 0, 0, 0) := by decide +kernel
theorem l_163_31 : look 163 31 = some (.getfield 61, 3, 9, 9, 2, 547) := by decide +kernel
theorem l_163_34 : look 163 34 = some (.getfield 218, 3, 5, 0, 2, 447) := by decide +kernel
theorem l_163_37 : look 163 37 = some (.aload_n 0, 1, 0, 0, 0, 0) := by decide +kernel
theorem l_163_38 : look 163 38 = some (.getfield 35, 3, 9, 5, 2, 543) := by decide +kernel
theorem l_163_41 : look 163 41 = some (.getfield 113, 3, 6, 0, 2, 248) := by decide +kernel
theorem l_163_44 : look 163 44 = some (.invokevirtual 297, 3, 9, 2, 0, 512) := by decide +kernel
theorem l_163_47 : look 163 47 = some (.aload_n 0, 1, 0, 0, 0, 0) := by decide +kernel
theorem l_163_48 : look 163 48 = some (.getfield 61, 3, 9, 9, 2, 547) := by decide +kernel
theorem l_163_51 : look 163 51 = some (.aload_n 0, 1, 0, 0, 0, 0) := by decide +kernel
theorem l_163_52 : look 163 52 = some (.getfield 48, 3, 9, 7, 2, 545) := by decide +kernel
theorem l_163_55 : look 163 55 = some (.iload_n 2, 1, 0, 0, 0, 0) := by decide +kernel
theorem l_163_56 : look 163 56 = some (.bipush 16, 2, 0, 0, 0, 0) := by decide +kernel
theorem l_163_58 : look 163 58 = some (.idiv, 1, 0, 0, 0, 0) := by decide +kernel
theorem l_163_59 : look 163 59 = some (.aaload, 1, 0, 0, 0, 0) := by decide +kernel
theorem l_163_60 : look 163 60 = some (.invokevirtual 356, 3, 50, 2, 0, 1338) := by decide +kernel
theorem l_163_63 : look 163 63 = some (.iload_n 2, 1, 0, 0, 0, 0) := by decide +kernel
theorem l_163_64 : look 163 64 = some (.istore_n 3, 1, 0, 0, 0, 0) := by decide +kernel
theorem l_163_65 : look 163 65 = some (.iload_n 3, 1, 0, 0, 0, 0) := by decide +kernel
theorem l_163_66 : look 163 66 = some (.aload_n 0, 1, 0, 0, 0, 0) := by decide +kernel
theorem l_163_67 : look 163 67 = some (.getfield 42, 3, 9, 6, 2, 544) := by decide +kernel
theorem l_163_70 : look 163 70 = some (.getfield 125, 3, 0, 0, 0, 316) := by decide +kernel
theorem l_163_73 : look 163 73 = some (.if_icmp .ge 23, 3, 0, 0, 0, 0) := by decide +kernel
theorem l_163_76 : look 163 76 = some (.iload_n 3, 1, 0, 0, 0, 0) := by decide +kernel
theorem l_163_77 : look 163 77 = some (.iload_n 1, 1, 0, 0, 0, 0) := by decide +kernel
theorem l_163_78 : look 163 78 = some (.if_icmp .eq 12, 3, 0, 0, 0, 0) := by decide +kernel
theorem l_163_81 : look 163 81 = some (.aload_n 0, 1, 0, 0, 0, 0) := by decide +kernel
theorem l_163_82 : look 163 82 = some (.getfield 61, 3, 9, 9, 2, 547) := by decide +kernel
theorem l_163_85 : look 163 85 = some (.iload_n 3, 1, 0, 0, 0, 0) := by decide +kernel
theorem l_163_86 : look 163 86 = some (.invokevirtual 186, 3, 51, 2, 0, 650) := by decide +kernel
theorem l_163_89 : look 163 89 = some (.pop, 1, 0, 0, 0, 0) := by decide +kernel
theorem l_163_90 : look 163 90 = some (.iinc 3 1, 3, 0, 0, 0, 0) := by decide +kernel
theorem l_163_93 : look 163 93 = some (.goto (-28), 3, 0, 0, 0, 0) := by decide +kernel
theorem l_163_96 : look 163 96 = some (.iload_n 1, 1, 0, 0, 0, 0) := by decide +kernel
theorem l_163_97 : look 163 97 = some (.bipush 6, 2, 0, 0, 0, 0) := by decide +kernel
theorem l_163_99 : look 163 99 = some (.imul, 1, 0, 0, 0, 0) := by decide +kernel
theorem l_163_100 : look 163 100 = some (.istore_n 3, 1, 0, 0, 0, 0) := by decide +kernel
theorem l_163_101 : look 163 101 = some (.iconst 0, 1, 0, 0, 0, 0) := by decide +kernel
theorem l_163_102 : look 163 102 = some (.istore 4, 2, 0, 0, 0, 0) := by decide +kernel
theorem l_163_104 : look 163 104 = some (.iload 4, 2, 0, 0, 0, 0) := by decide +kernel
theorem l_163_106 : look 163 106 = some (.bipush 6, 2, 0, 0, 0, 0) := by decide +kernel
theorem l_163_108 : look 163 108 = some (.if_icmp .ge 19, 3, 0, 0, 0, 0) := by decide +kernel
theorem l_163_111 : look 163 111 = some (.aload_n 0, 1, 0, 0, 0, 0) := by decide +kernel
theorem l_163_112 : look 163 112 = some (.getfield 84, 3, 9, 15, 2, 553) := by decide +kernel
theorem l_163_115 : look 163 115 = some (.iload_n 3, 1, 0, 0, 0, 0) := by decide +kernel
theorem l_163_116 : look 163 116 = some (.iload 4, 2, 0, 0, 0, 0) := by decide +kernel
theorem l_163_118 : look 163 118 = some (.iadd, 1, 0, 0, 0, 0) := by decide +kernel
theorem l_163_119 : look 163 119 = some (.lconst 0, 1, 0, 0, 0, 0) := by decide +kernel
theorem l_163_120 : look 163 120 = some (.lastore, 1, 0, 0, 0, 0) := by decide +kernel
theorem l_163_121 : look 163 121 = some (.iinc 4 1, 3, 0, 0, 0, 0) := by decide +kernel
theorem l_163_124 : look 163 124 = some (.goto (-20), 3, 0, 0, 0, 0) := by decide +kernel
theorem l_163_127 : look 163 127 = some (.iconst 0, 1, 0, 0, 0, 0) := by decide +kernel
theorem l_163_128 : look 163 128 = some (.istore 4, 2, 0, 0, 0, 0) := by decide +kernel
theorem l_163_130 : look 163 130 = some (.iload 4, 2, 0, 0, 0, 0) := by decide +kernel
theorem l_163_132 : look 163 132 = some (.aload_n 0, 1, 0, 0, 0, 0) := by decide +kernel
theorem l_163_133 : look 163 133 = some (.getfield 57, 3, 9, 8, 2, 546) := by decide +kernel
theorem l_163_136 : look 163 136 = some (.getfield 131, 3, 5, 2, 2, 451) := by decide +kernel
theorem l_163_139 : look 163 139 = some (.getfield 135, 3, 3, 0, 0, 425) := by decide +kernel
theorem l_163_142 : look 163 142 = some (.if_icmp .ge 70, 3, 0, 0, 0, 0) := by decide +kernel
theorem l_163_145 : look 163 145 = some (.aload_n 0, 1, 0, 0, 0, 0) := by decide +kernel
theorem l_163_146 : look 163 146 = some (.getfield 57, 3, 9, 8, 2, 546) := by decide +kernel
theorem l_163_149 : look 163 149 = some (.getfield 131, 3, 5, 2, 2, 451) := by decide +kernel
theorem l_163_152 : look 163 152 = some (.iload 4, 2, 0, 0, 0, 0) := by decide +kernel
theorem l_163_154 : look 163 154 = some (.iconst 0, 1, 0, 0, 0, 0) := by decide +kernel
theorem l_163_155 : look 163 155 = some (.invokevirtual 240, 3, 24, 3, 0, 1266) := by decide +kernel
theorem l_163_158 : look 163 158 = some (.iload_n 2, 1, 0, 0, 0, 0) := by decide +kernel
theorem l_163_159 : look 163 159 = some (.if_icmp .lt 47, 3, 0, 0, 0, 0) := by decide +kernel
theorem l_163_162 : look 163 162 = some (.aload_n 0, 1, 0, 0, 0, 0) := by decide +kernel
theorem l_163_163 : look 163 163 = some (.getfield 61, 3, 9, 9, 2, 547) := by decide +kernel
theorem l_163_166 : look 163 166 = some (.getfield 131, 3, 5, 2, 2, 451) := by decide +kernel
theorem l_163_169 : look 163 169 = some (.aload_n 0, 1, 0, 0, 0, 0) := by decide +kernel
theorem l_163_170 : look 163 170 = some (.getfield 57, 3, 9, 8, 2, 546) := by decide +kernel
theorem l_163_173 : look 163 173 = some (.getfield 131, 3, 5, 2, 2, 451) := by decide +kernel
theorem l_163_176 : look 163 176 = some (.iload 4, 2, 0, 0, 0, 0) := by decide +kernel
theorem l_163_178 : look 163 178 = some (.invokevirtual 362, 3, 27, 3, 0, 1410) := by decide +kernel
theorem l_163_181 : look 163 181 = some (.ifCond .ne 25, 3, 0, 0, 0, 0) := by decide +kernel
theorem l_163_184 : look 163 184 = some (.aload_n 0, 1, 0, 0, 0, 0) := by decide +kernel
theorem l_163_185 : look 163 185 = some (.getfield 84, 3, 9, 15, 2, 553) := by decide +kernel
theorem l_163_188 : look 163 188 = some (.iload_n 3, 1, 0, 0, 0, 0) := by decide +kernel
theorem l_163_189 : look 163 189 = some (.iload 4, 2, 0, 0, 0, 0) := by decide +kernel
theorem l_163_191 : look 163 191 = some (.bipush 64, 2, 0, 0, 0, 0) := by decide +kernel
theorem l_163_193 : look 163 193 = some (.idiv, 1, 0, 0, 0, 0) := by decide +kernel
theorem l_163_194 : look 163 194 = some (.iadd, 1, 0, 0, 0, 0) := by decide +kernel
theorem l_163_195 : look 163 195 = some (.dup2, 1, 0, 0, 0, 0) := by decide +kernel
theorem l_163_196 : look 163 196 = some (.laload, 1, 0, 0, 0, 0) := by decide +kernel
theorem l_163_197 : look 163 197 = some (.lconst 1, 1, 0, 0, 0, 0) := by decide +kernel
theorem l_163_198 : look 163 198 = some (.iload 4, 2, 0, 0, 0, 0) := by decide +kernel
theorem l_163_200 : look 163 200 = some (.bipush 64, 2, 0, 0, 0, 0) := by decide +kernel
theorem l_163_202 : look 163 202 = some (.irem, 1, 0, 0, 0, 0) := by decide +kernel
theorem l_163_203 : look 163 203 = some (.lshl, 1, 0, 0, 0, 0) := by decide +kernel
theorem l_163_204 : look 163 204 = some (.lor, 1, 0, 0, 0, 0) := by decide +kernel
theorem l_163_205 : look 163 205 = some (.lastore, 1, 0, 0, 0, 0) := by decide +kernel
theorem l_163_206 : look 163 206 = some (.iinc 4 1, 3, 0, 0, 0, 0) := by decide +kernel
theorem l_163_209 : look 163 209 = some (.goto (-79), 3, 0, 0, 0, 0) := by decide +kernel
theorem l_163_212 : look 163 212 = some (.return_, 1, 0, 0, 0, 0) := by decide +kernel

theorem lp_163 {I0 : Ix} {PQ : Ix → Prop} (o : oDropSwitch S T s q y) {ne np : Nat} {a : Nat → Nat} (K : KB I0 s h l a ne np) {e f m9 : Nat} (he : e < ne) (hm9 : f + m9 = ne) (kk : ∀ I pk, cR I (s + 52) h l (runF h l (oneOut e) ((runA h l noOut f).1, lo0) f m9) → cP I (s + 66) pk → cLi I (s + 53) l → fr I0 I (s + 52) (s + 71) → WP xs 163 5 96 [vr s, vi ((e : Nat) : Int), vi ((f : Nat) : Int), vi (((f + m9) : Nat) : Int), vs 2] [] (S, I, T, cc, zz) (RP S T cc zz (fun v I' => v = none ∧ PQ I'))) : ∀ d n I pk, n + d = m9 → cR I (s + 52) h l (runF h l (oneOut e) ((runA h l noOut f).1, lo0) f n) → cP I (s + 66) pk → cLi I (s + 53) l → fr I0 I (s + 52) (s + 71) → WP xs 163 5 65 [vr s, vi ((e : Nat) : Int), vi ((f : Nat) : Int), vi (((f + n) : Nat) : Int), vs 2] [] (S, I, T, cc, zz) (RP S T cc zz (fun v I' => v = none ∧ PQ I')) := by
  intro d
  have hne := K.1.2.2.1
  induction d with
  | zero =>
    intro n I pk hn hR hP hL fi
    have KBc := K.fr fi (by omega)
    refine w_iln l_163_65 rfl ?_
    refine w_aln l_163_66 rfl ?_
    refine w_gr l_163_67 (oDropSwitch_sh o) (oDropSwitch_r6 o) ?_
    refine w_gi ((ne : Nat) : Int) l_163_70 (oHistory_sh (oDropSwitch_o6 o)) KBc.1.1 ?_
    refine w_cge 96 l_163_73 (by decide) (fun _ => ?_) (fun hx => absurd hx (by omega))
    have e9 : m9 = n := by omega
    rw [← e9] at hR ⊢
    exact kk I _ hR hP hL fi
  | succ d ih =>
    intro n I pk hn hR hP hL fi
    have KBc := K.fr fi (by omega)
    have hLc : cLi I (s + 52 + 1) l := hL
    have hok := rep_ok1 K.2.2.1 K.2.2.2.1 K.2.2.2.2.1 (e := e) (f := f) n (by omega)
    refine w_iln l_163_65 rfl ?_
    refine w_aln l_163_66 rfl ?_
    refine w_gr l_163_67 (oDropSwitch_sh o) (oDropSwitch_r6 o) ?_
    refine w_gi ((ne : Nat) : Int) l_163_70 (oHistory_sh (oDropSwitch_o6 o)) KBc.1.1 ?_
    refine w_cge 96 l_163_73 (by decide) (fun hx => absurd hx (by omega)) (fun _ => ?_)
    refine w_iln l_163_76 rfl ?_
    refine w_iln l_163_77 rfl ?_
    refine w_ceq 90 l_163_78 (by decide) (fun h1 => ?_) (fun h1 => ?_)
    · skip
      refine w_inc (((f + n) + 1 : Nat) : Int) l_163_90 rfl rfl (by unfold wr; omega) ?_
      refine w_go 65 l_163_93 (by decide) ?_
      have e9 : runF h l (oneOut e) ((runA h l noOut f).1, lo0) f (n + 1) = (runF h l (oneOut e) ((runA h l noOut f).1, lo0) f n) := by
        rw [runF, if_pos (show oneOut e (f + n) = true from beq_iff_eq.mpr (by omega))]
      exact ih (n + 1) I _ (by omega) (by rw [e9]; exact hR) hP hL fi
    · skip
      refine w_aln l_163_81 rfl ?_
      refine w_gr l_163_82 (oDropSwitch_sh o) (oDropSwitch_r9 o) ?_
      refine w_iln l_163_85 rfl ?_
      refine p_iv [vi (((f + n) : Nat) : Int)] [] l_163_86 rfl rfl (Nat.le_of_ble_eq_true rfl) (by rw [mx_51]; exact Nat.le_of_ble_eq_true rfl) (by rw [mt_51]; exact oRun_sh (oDropSwitch_o9 o)) (by rw [mt_51]; decide) (by rw [rk_51]; decide) (s_51 (oDropSwitch_o9 o) (KBc.CB hLc (by omega) K.2.2.2.1 rfl) hR hP hok.1 (by omega) (by omega) (by omega)) (fun v I1 hv => ?_)
      obtain ⟨rfl, hR1, hP1, f1⟩ := hv
      refine w_pop l_163_89 rfl ?_
      refine w_inc (((f + n) + 1 : Nat) : Int) l_163_90 rfl rfl (by unfold wr; omega) ?_
      refine w_go 65 l_163_93 (by decide) ?_
      have e9 : runF h l (oneOut e) ((runA h l noOut f).1, lo0) f (n + 1) = (stepA h l (f + n) (runF h l (oneOut e) ((runA h l noOut f).1, lo0) f n)).1 := by
        rw [runF, if_neg (fun h9 : oneOut e (f + n) = true => h1 (by have h8 : f + n = e := beq_iff_eq.mp h9; omega))]
      exact ih (n + 1) I1 _ (by omega) (by rw [e9]; exact hR1) hP1 (hL.fr2 f1) (fi.tr f1.fr)
theorem inv_t {J : Ix} {a b k : Nat} {f : Nat → Bool} (H : ∀ k', k' < 384 → lb (J a (b + k' / 64)) (k' % 64) = (decide (k' < k) && f k')) (hf : f k = true) : ∀ k', k' < 384 → lb ((up J a (b + k / 64) (lor2 (J a (b + k / 64)) (sl1 (k % 64)))) a (b + k' / 64)) (k' % 64) = (decide (k' < k + 1) && f k') := by
  intro k' hk'
  by_cases e1 : k' / 64 = k / 64
  · rw [show b + k' / 64 = b + k / 64 by rw [e1], up_eq, lb_or (Nat.mod_lt _ (by decide)), ← e1, H k' hk']
    by_cases e2 : k' = k
    · rw [e2, hf, decide_eq_true (show k < k + 1 by omega), decide_eq_true (rfl : k % 64 = k % 64)]
      simp
    · rw [decide_eq_false (show ¬ (k % 64 = k' % 64) by omega), Bool.or_false]
      congr 1
      exact decide_eq_decide.mpr (by omega)
  · rw [up_nj (by omega), H k' hk']
    congr 1
    exact decide_eq_decide.mpr (by omega)
theorem inv_f {J : Ix} {a b k : Nat} {f : Nat → Bool} (H : ∀ k', k' < 384 → lb (J a (b + k' / 64)) (k' % 64) = (decide (k' < k) && f k')) (hf : f k = false) : ∀ k', k' < 384 → lb (J a (b + k' / 64)) (k' % 64) = (decide (k' < k + 1) && f k') := by
  intro k' hk'
  rw [H k' hk']
  by_cases e2 : k' = k
  · rw [e2, hf, Bool.and_false, Bool.and_false]
  · congr 1
    exact decide_eq_decide.mpr (by omega)
theorem z6 {J : Ix} {a b : Nat} : ∀ j, j < 6 → (up (up (up (up (up (up J a (b + 0) 0) a (b + 1) 0) a (b + 2) 0) a (b + 3) 0) a (b + 4) 0) a (b + 5) 0) a (b + j) = 0 := by
  intro j hj
  rcases (show j = 0 ∨ j = 1 ∨ j = 2 ∨ j = 3 ∨ j = 4 ∨ j = 5 by omega) with e | e | e | e | e | e <;> subst e <;> simp [up]
theorem z6o {J : Ix} {a b : Nat} : ∀ z, (z < b ∨ b + 6 ≤ z) → (up (up (up (up (up (up J a (b + 0) 0) a (b + 1) 0) a (b + 2) 0) a (b + 3) 0) a (b + 4) 0) a (b + 5) 0) a z = J a z := by
  intro z hz
  rw [up_nj (by omega), up_nj (by omega), up_nj (by omega), up_nj (by omega), up_nj (by omega), up_nj (by omega)]
theorem z6f {J : Ix} {a b : Nat} : fr J (up (up (up (up (up (up J a (b + 0) 0) a (b + 1) 0) a (b + 2) 0) a (b + 3) 0) a (b + 4) 0) a (b + 5) 0) a a := by
  have h := Nat.le_refl a
  exact ((((((fr.rf J a a).up h h).up h h).up h h).up h h).up h h).up h h

theorem lp_163c {I0 : Ix} {PQ : Ix → Prop} (o : oDropSwitch S T s q y) (hq : s < q ∧ q + 8 < s + 21) {ne np : Nat} {a : Nat → Nat} (K0 : KQ I0 s q h l a ne np) {e f : Nat} (he : e < ne) (hf : f = ltC e ne) (hT0 : cL I0 (s + 66) (trF h l ne e).2) (kk : ∀ J, fr I0 J (s + 96) (s + 96) → (∀ z, (z < e * 6 ∨ e * 6 + 6 ≤ z) → J (s + 96) z = I0 (s + 96) z) → (∀ k', k' < (runA h l noOut ne).2.1.length → lb (J (s + 96) (e * 6 + k' / 64)) (k' % 64) = svB h l ne e ((runA h l noOut ne).2.1.getD k' dr0)) → PQ J) : ∀ d k I, k + d = (runA h l noOut ne).2.1.length → fr I0 I (s + 96) (s + 96) → (∀ z, (z < e * 6 ∨ e * 6 + 6 ≤ z) → I (s + 96) z = I0 (s + 96) z) → (∀ k', k' < 384 → lb (I (s + 96) (e * 6 + k' / 64)) (k' % 64) = (decide (k' < k) && svB h l ne e ((runA h l noOut ne).2.1.getD k' dr0))) → WP xs 163 5 130 [vr s, vi ((e : Nat) : Int), vi ((f : Nat) : Int), vi (((e * 6) : Nat) : Int), vi ((k : Nat) : Int)] [] (S, I, T, cc, zz) (RP S T cc zz (fun v I' => v = none ∧ PQ I')) := by
  intro d
  have hne := K0.2.2.1.2.2.1
  have hln := K0.2.2.2.1.2.1.2
  have hdr : okDr (runA h l noOut ne).2.1 := run_okDr K0.2.2.2.2.2.2.2.1 K0.2.2.2.2.2.2.2.2.1 K0.2.2.2.2.2.2.2.2.2 hne (Nat.le_refl ne)
  induction d with
  | zero =>
    intro k I hk9 fi hrow hinv
    have K := KQ.fr hq K0 fi (by omega)
    refine w_il l_163_130 rfl ?_
    refine w_aln l_163_132 rfl ?_
    refine w_gr l_163_133 (oDropSwitch_sh o) (oDropSwitch_r8 o) ?_
    refine w_gr l_163_136 (oRun_sh (oDropSwitch_o8 o)) (oRun_r2 (oDropSwitch_o8 o)) ?_
    refine w_gi (((runA h l noOut ne).2.1.length : Nat) : Int) l_163_139 (oLog_sh (oRun_o2 (oDropSwitch_o8 o))) K.2.2.2.1.2.1.1 ?_
    refine w_cge 212 l_163_142 (by decide) (fun _ => ?_) (fun hx => absurd hx (by omega))
    refine w_vr l_163_212 ?_
    refine ⟨_, _, rfl, rfl, rfl, kk I fi hrow fun k' hk' => ?_⟩
    rw [hinv k' (by omega), decide_eq_true (by omega)]
    rfl
  | succ d ih =>
    intro k I hk9 fi hrow hinv
    have K := KQ.fr hq K0 fi (by omega)
    have hT := hT0.fr fi (Or.inr (by omega))
    have hk : k < (runA h l noOut ne).2.1.length := by omega
    refine w_il l_163_130 rfl ?_
    refine w_aln l_163_132 rfl ?_
    refine w_gr l_163_133 (oDropSwitch_sh o) (oDropSwitch_r8 o) ?_
    refine w_gr l_163_136 (oRun_sh (oDropSwitch_o8 o)) (oRun_r2 (oDropSwitch_o8 o)) ?_
    refine w_gi (((runA h l noOut ne).2.1.length : Nat) : Int) l_163_139 (oLog_sh (oRun_o2 (oDropSwitch_o8 o))) K.2.2.2.1.2.1.1 ?_
    refine w_cge 212 l_163_142 (by decide) (fun hx => absurd hx (by omega)) (fun _ => ?_)
    refine w_aln l_163_145 rfl ?_
    refine w_gr l_163_146 (oDropSwitch_sh o) (oDropSwitch_r8 o) ?_
    refine w_gr l_163_149 (oRun_sh (oDropSwitch_o8 o)) (oRun_r2 (oDropSwitch_o8 o)) ?_
    refine w_il l_163_152 rfl ?_
    refine w_ic l_163_154 (by decide) ?_
    refine q_iv [vi ((k : Nat) : Int), vi 0] [] l_163_155 rfl rfl (Nat.le_of_ble_eq_true rfl) (by rw [mx_24]; exact Nat.le_of_ble_eq_true rfl) (by rw [mt_24]; exact oLog_sh (oRun_o2 (oDropSwitch_o8 o))) (by rw [mt_24]; decide) (by rw [rk_24]; decide) (t_part0 (oRun_o2 (oDropSwitch_o8 o)) K.2.2.2.1.2 hk) ?_
    refine w_iln l_163_158 rfl ?_
    refine w_clt 206 l_163_159 (by decide) (fun h1 => ?_) (fun h1 => ?_)
    · skip
      refine w_inc ((k + 1 : Nat) : Int) l_163_206 rfl rfl (by unfold wr; omega) ?_
      refine w_go 130 l_163_209 (by decide) ?_
      have e9 : svB h l ne e ((runA h l noOut ne).2.1.getD k dr0) = false := by
        unfold svB
        first
        | (rw [decide_eq_false (by omega)]; rfl)
        | (rw [h2]; exact Bool.and_false _)
      exact ih (k + 1) I (by omega) fi hrow (inv_f (f := (fun k => svB h l ne e ((runA h l noOut ne).2.1.getD k dr0))) hinv e9)
    · skip
      refine w_aln l_163_162 rfl ?_
      refine w_gr l_163_163 (oDropSwitch_sh o) (oDropSwitch_r9 o) ?_
      refine w_gr l_163_166 (oRun_sh (oDropSwitch_o9 o)) (oRun_r2 (oDropSwitch_o9 o)) ?_
      refine w_aln l_163_169 rfl ?_
      refine w_gr l_163_170 (oDropSwitch_sh o) (oDropSwitch_r8 o) ?_
      refine w_gr l_163_173 (oRun_sh (oDropSwitch_o8 o)) (oRun_r2 (oDropSwitch_o8 o)) ?_
      refine w_il l_163_176 rfl ?_
      refine q_iv [vr (s + 32 + 14), vi ((k : Nat) : Int)] [] l_163_178 rfl rfl (Nat.le_of_ble_eq_true rfl) (by rw [mx_27]; exact Nat.le_of_ble_eq_true rfl) (by rw [mt_27]; exact oLog_sh (oRun_o2 (oDropSwitch_o9 o))) (by rw [mt_27]; decide) (by rw [rk_27]; decide) (s_27 (oRun_o2 (oDropSwitch_o9 o)) (oRun_o2 (oDropSwitch_o8 o)) hT K.2.2.2.1.2 hdr hk) ?_
      refine w_bne 206 l_163_181 (by decide) (fun h2 => ?_) (fun h2 => ?_)
      · skip
        refine w_inc ((k + 1 : Nat) : Int) l_163_206 rfl rfl (by unfold wr; omega) ?_
        refine w_go 130 l_163_209 (by decide) ?_
        have e9 : svB h l ne e ((runA h l noOut ne).2.1.getD k dr0) = false := by
          unfold svB
          first
          | (rw [decide_eq_false (by omega)]; rfl)
          | (rw [h2]; exact Bool.and_false _)
        exact ih (k + 1) I (by omega) fi hrow (inv_f (f := (fun k => svB h l ne e ((runA h l noOut ne).2.1.getD k dr0))) hinv e9)
      · skip
        refine w_aln l_163_184 rfl ?_
        refine w_gr l_163_185 (oDropSwitch_sh o) (oDropSwitch_r15 o) ?_
        refine w_iln l_163_188 rfl ?_
        refine w_il l_163_189 rfl ?_
        refine w_bp l_163_191 (by decide) ?_
        refine w_div (((k / 64) : Nat) : Int) l_163_193 (by decide) (by rw [show ((k : Nat) : Int).tdiv 64 = ((k / 64 : Nat) : Int) from rfl]; unfold wr; omega) ?_
        refine w_add (((e * 6) + (k / 64) : Nat) : Int) l_163_194 (by unfold wr; omega) ?_
        refine w_dup2 l_163_195 rfl ?_
        refine w_la ((e * 6) + (k / 64)) (I (s + 96) ((e * 6) + (k / 64))) l_163_196 (oDropSwitch_s15 o) rfl (by omega) rfl ?_
        refine w_lc l_163_197 ?_
        refine w_il l_163_198 rfl ?_
        refine w_bp l_163_200 (by decide) ?_
        refine w_rem (((k % 64) : Nat) : Int) l_163_202 (by decide) rfl ?_
        refine w_lshl (sl1 (k % 64)) l_163_203 rfl ?_
        refine w_lor (lor2 (I (s + 96) ((e * 6) + (k / 64))) (sl1 (k % 64))) l_163_204 rfl ?_
        refine w_lS ((e * 6) + (k / 64)) l_163_205 (oDropSwitch_s15 o) rfl (by omega) ?_
        refine w_inc ((k + 1 : Nat) : Int) l_163_206 rfl rfl (by unfold wr; omega) ?_
        refine w_go 130 l_163_209 (by decide) ?_
        have e9 : svB h l ne e ((runA h l noOut ne).2.1.getD k dr0) = true := by
          unfold svB
          rw [h2, decide_eq_true (by omega)]
          rfl
        exact ih (k + 1) _ (by omega) (fi.up (Nat.le_refl _) (Nat.le_refl _)) (fun z hz => (up_nj (by omega)).trans (hrow z hz)) (inv_t (f := (fun k => svB h l ne e ((runA h l noOut ne).2.1.getD k dr0))) hinv e9)
/-- what the class has tried stays right -/
def KE (I : Ix) (s : Nat) (h : Hi) (l : Li) (ne : Nat) : Prop := tmR I s ∧ (∀ e, e < 120 → 0 ≤ I (s + 95) e ∧ I (s + 95) e ≤ I s 12) ∧ ∀ e, e < ne → I (s + 95) e = I s 12 → ∀ k, k < (runA h l noOut ne).2.1.length → lb (I (s + 96) (e * 6 + k / 64)) (k % 64) = evB h l ne ((runA h l noOut ne).2.1.getD k dr0) e
def mfv (I J : Ix) (s : Nat) : Prop := ∀ y z, (y < s + 52 ∨ s + 71 < y) → y ≠ s + 95 → y ≠ s + 96 → J y z = I y z
theorem mfv.frm {I J : Ix} {s : Nat} (f : mfv I J s) : fr I J (s + 52) (s + 96) := fun x hx y => f x y (by omega) (by omega) (by omega)
theorem mfv.rf (I : Ix) (s : Nat) : mfv I I s := fun _ _ _ _ _ => rfl
theorem mfv.tr {I J K : Ix} {s : Nat} (f : mfv I J s) (g : mfv J K s) : mfv I K s := fun y z a b c => (g y z a b c).trans (f y z a b c)
theorem mfv.of {I J : Ix} {s : Nat} (f : fr I J (s + 52) (s + 71)) : mfv I J s := fun y z a _ _ => f y a z
theorem KE.fr {I J : Ix} {s ne : Nat} {h : Hi} {l : Li} (E : KE I s h l ne) (f : fr I J (s + 52) (s + 71)) (ht : tmR J s) : KE J s h l ne := ⟨ht, fun e he => by rw [f (s + 95) (by omega), f s (by omega)]; exact E.2.1 e he, fun e he hv k hk => by
  rw [f (s + 95) (by omega), f s (by omega)] at hv
  rw [f (s + 96) (by omega)]
  exact E.2.2 e he hv k hk⟩

theorem mem_gd {g : List Dr} {k : Nat} (hk : k < g.length) : g.getD k dr0 ∈ g := by
  rw [List.getD_eq_getElem?_getD, List.getElem?_eq_getElem hk]
  exact List.getElem_mem hk
theorem s_163 (hq : s < q ∧ q + 8 < s + 21) (ck : oCk S T s) (o : oDropSwitch S T s q y) {ne np : Nat} {a : Nat → Nat} (K : KQ I s q h l a ne np) (B : KB I s h l a ne np) (C : cCk I s h l ne) (E : KE I s h l ne) {e : Nat} (he : e < ne) : CL xs 163 [vr s, vi ((e : Nat) : Int)] (S, I, T, cc, zz) (RP S T cc zz (fun v I' => v = none ∧ KE I' s h l ne ∧ I' (s + 95) e = I s 12 ∧ mfv I I' s)) := by
  have hne9 := K.2.2.1.2.2.1
  by_cases hv : I (s + 95) e = I s 12
  · skip
    refine CL_start (r := 5) (ls := [vr s, vi ((e : Nat) : Int), vs 2, vs 2, vs 2]) (rk_163 _) rfl ?_
    refine w_aln l_163_0 rfl ?_
    refine w_gr l_163_1 (oDropSwitch_sh o) (oDropSwitch_r14 o) ?_
    refine w_iln l_163_4 rfl ?_
    refine w_ia e (I (s + 95) e) l_163_5 (oDropSwitch_s14 o) rfl (by omega) rfl ?_
    refine w_aln l_163_6 rfl ?_
    refine w_gi (I s 12) l_163_7 (oDropSwitch_sh o) rfl ?_
    refine w_cne 14 l_163_10 (by decide) (fun hx => absurd hx (by exact fun hh => hh hv)) (fun _ => ?_)
    refine w_vr l_163_13 ?_
    exact ⟨_, _, rfl, rfl, rfl, E, hv, mfv.rf I s⟩
  · skip
    refine CL_start (r := 5) (ls := [vr s, vi ((e : Nat) : Int), vs 2, vs 2, vs 2]) (rk_163 _) rfl ?_
    have hne := K.2.2.1.2.2.1
    have hen : e ≤ ne := Nat.le_of_lt he
    obtain ⟨c0, hc1, hc2, hc3, hc4⟩ := ltC_16 hen hne
    have hc8 : (ltC e ne / 16) < 8 := by rw [hc4]; exact hc2
    have hc9 : (ltC e ne / 16) * 16 ≤ ne - 1 := by rw [hc4]; exact hc3
    have h16 : (ltC e ne / 16) * 16 = ltC e ne := by rw [hc4]; exact hc1.symm
    have hle := ltC_le (e := e) (ne := ne)
    have fu0 : fr I (up I (s + 95) e (I s 12)) (s + 95) (s + 95) := (fr.rf I _ _).up (Nat.le_refl _) (Nat.le_refl _)
    have K1 := KQ.fr hq K fu0 (by omega)
    have B1 := B.fr fu0 (by omega)
    refine w_aln l_163_0 rfl ?_
    refine w_gr l_163_1 (oDropSwitch_sh o) (oDropSwitch_r14 o) ?_
    refine w_iln l_163_4 rfl ?_
    refine w_ia e (I (s + 95) e) l_163_5 (oDropSwitch_s14 o) rfl (by omega) rfl ?_
    refine w_aln l_163_6 rfl ?_
    refine w_gi (I s 12) l_163_7 (oDropSwitch_sh o) rfl ?_
    refine w_cne 14 l_163_10 (by decide) (fun _ => ?_) (fun hx => absurd hx (by exact hv))
    refine w_aln l_163_14 rfl ?_
    refine w_gr l_163_15 (oDropSwitch_sh o) (oDropSwitch_r14 o) ?_
    refine w_iln l_163_18 rfl ?_
    refine w_aln l_163_19 rfl ?_
    refine w_gi (I s 12) l_163_20 (oDropSwitch_sh o) rfl ?_
    refine w_iS e l_163_23 (oDropSwitch_s14 o) rfl (by omega) ?_
    refine w_aln l_163_24 rfl ?_
    refine w_iln l_163_25 rfl ?_
    refine q_iv [vi ((e : Nat) : Int)] [] l_163_26 rfl rfl (Nat.le_of_ble_eq_true rfl) (by rw [mx_159]; exact Nat.le_of_ble_eq_true rfl) (by rw [mt_159]; exact oDropSwitch_sh o) (by rw [mt_159]; decide) (by rw [rk_159]; decide) (s_159 o K1 (by omega)) ?_
    refine w_isn l_163_29 ⟨Nat.le_of_ble_eq_true rfl, rfl⟩ ?_
    refine w_aln l_163_30 rfl ?_
    refine w_gr l_163_31 (oDropSwitch_sh o) (oDropSwitch_r9 o) ?_
    refine w_gr l_163_34 (oRun_sh (oDropSwitch_o9 o)) (oRun_r0 (oDropSwitch_o9 o)) ?_
    refine w_aln l_163_37 rfl ?_
    refine w_gr l_163_38 (oDropSwitch_sh o) (oDropSwitch_r5 o) ?_
    refine w_gr l_163_41 (oSetup_sh (oDropSwitch_o5 o)) (oSetup_r0 (oDropSwitch_o5 o)) ?_
    refine p_iv [vr (q + 1)] [] l_163_44 rfl rfl (Nat.le_of_ble_eq_true rfl) (by rw [mx_9]; exact Nat.le_of_ble_eq_true rfl) (by rw [mt_9]; exact oLimits_sh (oRun_o0 (oDropSwitch_o9 o))) (by rw [mt_9]; decide) (by rw [rk_9]; decide) (t_limits (oRun_o0 (oDropSwitch_o9 o)) (oSetup_o0 (oDropSwitch_o5 o)) (by omega) K1.1 B.2.2.2.1.1) (fun v I1 hv => ?_)
    obtain ⟨rfl, hL1, f1⟩ := hv
    refine w_aln l_163_47 rfl ?_
    refine w_gr l_163_48 (oDropSwitch_sh o) (oDropSwitch_r9 o) ?_
    refine w_aln l_163_51 rfl ?_
    refine w_gr l_163_52 (oDropSwitch_sh o) (oDropSwitch_r7 o) ?_
    refine w_iln l_163_55 rfl ?_
    refine w_bp l_163_56 (by decide) ?_
    refine w_div (((ltC e ne / 16) : Nat) : Int) l_163_58 (by decide) (by rw [show ((ltC e ne : Nat) : Int).tdiv 16 = ((ltC e ne / 16 : Nat) : Int) from rfl]; unfold wr; omega) ?_
    refine w_aa (v := (s + 99 + 8 * (ltC e ne / 16))) (ltC e ne / 16) l_163_59 (oDropSwitch_s7 o) rfl (by omega) ((ck (ltC e ne / 16) hc8).1) ?_
    refine p_iv [vr (s + 99 + 8 * (ltC e ne / 16))] [] l_163_60 rfl rfl (Nat.le_of_ble_eq_true rfl) (by rw [mx_50]; exact Nat.le_of_ble_eq_true rfl) (by rw [mt_50]; exact oRun_sh (oDropSwitch_o9 o)) (by rw [mt_50]; decide) (by rw [rk_50]; decide) (s_50 (oDropSwitch_o9 o) (ck (ltC e ne / 16) hc8).2 (by omega) (((C.fr fu0 (Or.inl (by omega))).fr f1 (Or.inl (by omega))) (ltC e ne / 16) hc8 hc9)) (fun v I2 hv => ?_)
    obtain ⟨rfl, hR2, hP2, f2⟩ := hv
    refine w_iln l_163_63 rfl ?_
    refine w_isn l_163_64 ⟨Nat.le_of_ble_eq_true rfl, rfl⟩ ?_
    rw [h16] at hR2
    refine lp_163 (xs := xs) (cc := cc) (zz := zz) (I0 := (up I (s + 95) e (I s 12))) (PQ := fun I' => KE I' s h l ne ∧ I' (s + 95) e = I s 12 ∧ mfv I I' s) o B1 (f := ltC e ne) (m9 := ne - ltC e ne) he (by omega) (fun I3 pk hR3 hP3 hL3 fi => ?_) (ne - ltC e ne) 0 I2 _ (Nat.zero_add _) hR2 hP2 (hL1.fr f2 (Or.inr (by omega))) ((f1.mono (by omega) (by omega)).tr (f2.mono (by omega) (by omega)))
    refine w_iln l_163_96 rfl ?_
    refine w_bp l_163_97 (by decide) ?_
    refine w_mul ((e * 6 : Nat) : Int) l_163_99 (by unfold wr; omega) ?_
    refine w_isn l_163_100 ⟨Nat.le_of_ble_eq_true rfl, rfl⟩ ?_
    refine w_ic l_163_101 (by decide) ?_
    refine w_is l_163_102 ⟨Nat.le_of_ble_eq_true rfl, rfl⟩ ?_
    refine w_il l_163_104 rfl ?_
    refine w_bp l_163_106 (by decide) ?_
    refine w_cge 127 l_163_108 (by decide) (fun hx => absurd hx (by decide)) (fun _ => ?_)
    refine w_aln l_163_111 rfl ?_
    refine w_gr l_163_112 (oDropSwitch_sh o) (oDropSwitch_r15 o) ?_
    refine w_iln l_163_115 rfl ?_
    refine w_il l_163_116 rfl ?_
    refine w_add ((e * 6 + 0 : Nat) : Int) l_163_118 (by unfold wr; omega) ?_
    refine w_lc l_163_119 ?_
    refine w_lS (e * 6 + 0) l_163_120 (oDropSwitch_s15 o) rfl (by omega) ?_
    refine w_inc 1 l_163_121 rfl rfl (by unfold wr; omega) ?_
    refine w_go 104 l_163_124 (by decide) ?_
    refine w_il l_163_104 rfl ?_
    refine w_bp l_163_106 (by decide) ?_
    refine w_cge 127 l_163_108 (by decide) (fun hx => absurd hx (by decide)) (fun _ => ?_)
    refine w_aln l_163_111 rfl ?_
    refine w_gr l_163_112 (oDropSwitch_sh o) (oDropSwitch_r15 o) ?_
    refine w_iln l_163_115 rfl ?_
    refine w_il l_163_116 rfl ?_
    refine w_add ((e * 6 + 1 : Nat) : Int) l_163_118 (by unfold wr; omega) ?_
    refine w_lc l_163_119 ?_
    refine w_lS (e * 6 + 1) l_163_120 (oDropSwitch_s15 o) rfl (by omega) ?_
    refine w_inc 2 l_163_121 rfl rfl (by unfold wr; omega) ?_
    refine w_go 104 l_163_124 (by decide) ?_
    refine w_il l_163_104 rfl ?_
    refine w_bp l_163_106 (by decide) ?_
    refine w_cge 127 l_163_108 (by decide) (fun hx => absurd hx (by decide)) (fun _ => ?_)
    refine w_aln l_163_111 rfl ?_
    refine w_gr l_163_112 (oDropSwitch_sh o) (oDropSwitch_r15 o) ?_
    refine w_iln l_163_115 rfl ?_
    refine w_il l_163_116 rfl ?_
    refine w_add ((e * 6 + 2 : Nat) : Int) l_163_118 (by unfold wr; omega) ?_
    refine w_lc l_163_119 ?_
    refine w_lS (e * 6 + 2) l_163_120 (oDropSwitch_s15 o) rfl (by omega) ?_
    refine w_inc 3 l_163_121 rfl rfl (by unfold wr; omega) ?_
    refine w_go 104 l_163_124 (by decide) ?_
    refine w_il l_163_104 rfl ?_
    refine w_bp l_163_106 (by decide) ?_
    refine w_cge 127 l_163_108 (by decide) (fun hx => absurd hx (by decide)) (fun _ => ?_)
    refine w_aln l_163_111 rfl ?_
    refine w_gr l_163_112 (oDropSwitch_sh o) (oDropSwitch_r15 o) ?_
    refine w_iln l_163_115 rfl ?_
    refine w_il l_163_116 rfl ?_
    refine w_add ((e * 6 + 3 : Nat) : Int) l_163_118 (by unfold wr; omega) ?_
    refine w_lc l_163_119 ?_
    refine w_lS (e * 6 + 3) l_163_120 (oDropSwitch_s15 o) rfl (by omega) ?_
    refine w_inc 4 l_163_121 rfl rfl (by unfold wr; omega) ?_
    refine w_go 104 l_163_124 (by decide) ?_
    refine w_il l_163_104 rfl ?_
    refine w_bp l_163_106 (by decide) ?_
    refine w_cge 127 l_163_108 (by decide) (fun hx => absurd hx (by decide)) (fun _ => ?_)
    refine w_aln l_163_111 rfl ?_
    refine w_gr l_163_112 (oDropSwitch_sh o) (oDropSwitch_r15 o) ?_
    refine w_iln l_163_115 rfl ?_
    refine w_il l_163_116 rfl ?_
    refine w_add ((e * 6 + 4 : Nat) : Int) l_163_118 (by unfold wr; omega) ?_
    refine w_lc l_163_119 ?_
    refine w_lS (e * 6 + 4) l_163_120 (oDropSwitch_s15 o) rfl (by omega) ?_
    refine w_inc 5 l_163_121 rfl rfl (by unfold wr; omega) ?_
    refine w_go 104 l_163_124 (by decide) ?_
    refine w_il l_163_104 rfl ?_
    refine w_bp l_163_106 (by decide) ?_
    refine w_cge 127 l_163_108 (by decide) (fun hx => absurd hx (by decide)) (fun _ => ?_)
    refine w_aln l_163_111 rfl ?_
    refine w_gr l_163_112 (oDropSwitch_sh o) (oDropSwitch_r15 o) ?_
    refine w_iln l_163_115 rfl ?_
    refine w_il l_163_116 rfl ?_
    refine w_add ((e * 6 + 5 : Nat) : Int) l_163_118 (by unfold wr; omega) ?_
    refine w_lc l_163_119 ?_
    refine w_lS (e * 6 + 5) l_163_120 (oDropSwitch_s15 o) rfl (by omega) ?_
    refine w_inc 6 l_163_121 rfl rfl (by unfold wr; omega) ?_
    refine w_go 104 l_163_124 (by decide) ?_
    refine w_il l_163_104 rfl ?_
    refine w_bp l_163_106 (by decide) ?_
    refine w_cge 127 l_163_108 (by decide) (fun _ => ?_) (fun hx => absurd hx (by decide))
    refine w_ic l_163_127 (by decide) ?_
    refine w_is l_163_128 ⟨Nat.le_of_ble_eq_true rfl, rfl⟩ ?_
    have K3 := KQ.fr hq K (fu0.mono (by omega) (by omega) |>.tr (fi.mono (by omega) (by omega)) : fr I I3 (s + 52) (s + 95)) (by omega)
    refine lp_163c (I0 := I3) o hq K3 he rfl hR3.2 (fun J g1 g2 g3 => ?_) (runA h l noOut ne).2.1.length 0 _ (Nat.zero_add _) z6f z6o (fun k' hk' => ?_)
    · have fJ : ∀ y z, (y < s + 52 ∨ s + 71 < y) → y ≠ s + 96 → J y z = (up I (s + 95) e (I s 12)) y z := fun y z a b => (g1 y (by omega) z).trans (fi y a z)
      have e5 : J (s + 95) e = I s 12 := (fJ (s + 95) e (by omega) (by omega)).trans up_eq
      have e2 : ∀ z, J s z = I s z := fun z => (fJ s z (by omega) (by omega)).trans (up_no (by omega))
      refine ⟨⟨fun b hb => ?_, fun e' he' => ?_, fun e' he' hv' k hk => ?_⟩, e5, fun y z a b c => (fJ y z a c).trans (up_no b)⟩
      · obtain ⟨t, h1, h2⟩ := hR3.tim b hb
        exact ⟨t, (g1 _ (by omega) b).trans h1, h2⟩
      · rw [e2]
        have hb9 := E.2.1 e (by omega)
        by_cases hee : e' = e
        · rw [hee, e5]
          omega
        · rw [fJ (s + 95) e' (by omega) (by omega), up_nj hee]
          exact E.2.1 e' he'
      · have hln := K.2.2.2.1.2.1.2
        by_cases hee : e' = e
        · rw [hee, g3 k hk]
          exact sv_ev K.2.2.2.2.2.2.2.2.2 he (mem_gd hk)
        · rw [e2, fJ (s + 95) e' (by omega) (by omega), up_nj hee] at hv'
          rw [g2 _ (by omega), fi (s + 96) (by omega), up_no (by omega)]
          exact E.2.2 e' he' hv' k hk
    · exact ((congrArg (fun w => lb w (k' % 64)) (z6 (J := I3) (a := s + 96) (b := e * 6) (k' / 64) (by omega))).trans (lb_0 _)).trans (Bool.false_and _).symm

theorem mx_164 : mxl 164 = 3 := by decide +kernel
theorem mt_164 : mtc 164 = 9 := by decide +kernel
theorem rk_164 (as : List AV) : rkA 164 as = 0 := rfl
theorem l_164_0 : look 164 0 = some (.aload_n 0, 1, 0, 0, 0, 0) := by decide +kernel
theorem l_164_1 : look 164 1 = some (.getfield 84, 3, 9, 15, 2, 553) := by decide +kernel
theorem l_164_4 : look 164 4 = some (.iload_n 1, 1, 0, 0, 0, 0) := by decide +kernel
theorem l_164_5 : look 164 5 = some (.bipush 6, 2, 0, 0, 0, 0) := by decide +kernel
theorem l_164_7 : look 164 7 = some (.imul, 1, 0, 0, 0, 0) := by decide +kernel
theorem l_164_8 : look 164 8 = some (.iload_n 2, 1, 0, 0, 0, 0) := by decide +kernel
theorem l_164_9 : look 164 9 = some (.bipush 64, 2, 0, 0, 0, 0) := by decide +kernel
theorem l_164_11 : look 164 11 = some (.idiv, 1, 0, 0, 0, 0) := by decide +kernel
theorem l_164_12 : look 164 12 = some (.iadd, 1, 0, 0, 0, 0) := by decide +kernel
theorem l_164_13 : look 164 13 = some (.laload, 1, 0, 0, 0, 0) := by decide +kernel
theorem l_164_14 : look 164 14 = some (.iload_n 2, 1, 0, 0, 0, 0) := by decide +kernel
theorem l_164_15 : look 164 15 = some (.bipush 64, 2, 0, 0, 0, 0) := by decide +kernel
theorem l_164_17 : look 164 17 = some (.irem, 1, 0, 0, 0, 0) := by decide +kernel
theorem l_164_18 : look 164 18 = some (.lushr, 1, 0, 0, 0, 0) := by decide +kernel
theorem l_164_19 : look 164 19 = some (.lconst 1, 1, 0, 0, 0, 0) := by decide +kernel
theorem l_164_20 : look 164 20 = some (.land, 1, 0, 0, 0, 0) := by decide +kernel
theorem l_164_21 : look 164 21 = some (.lconst 0, 1, 0, 0, 0, 0) := by decide +kernel
theorem l_164_22 : look 164 22 = some (.lcmp, 1, 0, 0, 0, 0) := by decide +kernel
theorem l_164_23 : look 164 23 = some (.ifCond .eq 7, 3, 0, 0, 0, 0) := by decide +kernel
theorem l_164_26 : look 164 26 = some (.iconst 1, 1, 0, 0, 0, 0) := by decide +kernel
theorem l_164_27 : look 164 27 = some (.goto 4, 3, 0, 0, 0, 0) := by decide +kernel
theorem l_164_30 : look 164 30 = some (.iconst 0, 1, 0, 0, 0, 0) := by decide +kernel
theorem l_164_31 : look 164 31 = some (.ireturn, 1, 0, 0, 1, 0) := by decide +kernel

theorem s_164 (o : oDropSwitch S T s q y) {e k : Nat} (he : e < 120) (hk : k < 384) : CL xs 164 [vr s, vi ((e : Nat) : Int), vi ((k : Nat) : Int)] (S, I, T, cc, zz) (FN (some (vi (b2i (lb (I (s + 96) (e * 6 + k / 64)) (k % 64))))) (S, I, T, cc, zz)) := by
  refine CL_start (r := 0) (ls := [vr s, vi ((e : Nat) : Int), vi ((k : Nat) : Int)]) (rk_164 _) rfl ?_
  refine w_aln l_164_0 rfl ?_
  refine w_gr l_164_1 (oDropSwitch_sh o) (oDropSwitch_r15 o) ?_
  refine w_iln l_164_4 rfl ?_
  refine w_bp l_164_5 (by decide) ?_
  refine w_mul ((e * 6 : Nat) : Int) l_164_7 (by unfold wr; omega) ?_
  refine w_iln l_164_8 rfl ?_
  refine w_bp l_164_9 (by decide) ?_
  refine w_div (((k / 64) : Nat) : Int) l_164_11 (by decide) (by rw [show ((k : Nat) : Int).tdiv 64 = ((k / 64 : Nat) : Int) from rfl]; unfold wr; omega) ?_
  refine w_add ((e * 6 + (k / 64) : Nat) : Int) l_164_12 (by unfold wr; omega) ?_
  refine w_la (e * 6 + (k / 64)) (I (s + 96) (e * 6 + (k / 64))) l_164_13 (oDropSwitch_s15 o) rfl (by omega) rfl ?_
  refine w_iln l_164_14 rfl ?_
  refine w_bp l_164_15 (by decide) ?_
  refine w_rem (((k % 64) : Nat) : Int) l_164_17 (by decide) rfl ?_
  refine w_lushr (shr1 (I (s + 96) (e * 6 + (k / 64))) (k % 64)) l_164_18 rfl ?_
  refine w_lc l_164_19 ?_
  refine w_land (lan1 (shr1 (I (s + 96) (e * 6 + (k / 64))) (k % 64))) l_164_20 rfl ?_
  refine w_lc l_164_21 ?_
  refine w_lcmp l_164_22 ?_
  refine w_zeq 30 l_164_23 (by decide) (fun h1 => ?_) (fun h1 => ?_)
  · skip
    refine w_ic l_164_30 (by decide) ?_
    refine w_ir l_164_31 (by decide) ?_
    rw [(lb_t (Nat.mod_lt _ (by decide))).mp h1]
    exact ⟨rfl, rfl⟩
  · skip
    refine w_ic l_164_26 (by decide) ?_
    refine w_go 31 l_164_27 (by decide) ?_
    refine w_ir l_164_31 (by decide) ?_
    rw [show (lb (I (s + 96) (e * 6 + k / 64)) (k % 64)) = true from by cases hx : (lb (I (s + 96) (e * 6 + k / 64)) (k % 64)); exact absurd ((lb_t (Nat.mod_lt _ (by decide))).mpr hx) h1; rfl]
    exact ⟨rfl, rfl⟩

end CTW
