/-! contract: something happens -/
/-- the law's state: the maker's, and a run of ne events -/
def LST (ports rules space : Nat) (l : Li) (ne c : Nat) (S : List (Nat × Nat)) (I : Ix) (T : Nat → Nat → Nat) : Prop := MADE ports rules space l S I T ∧ ∃ (q y : Nat) (h : Hi) (a : Nat → Nat) (np : Nat) (cd : Nat → Cd) (nm : Nat → List Nat) (L : List Nat) (bf : Nat → Int), CW S T I 2 q y h l a ne np su0 cd c nm L bf 0 (-1) 0
section GOE
variable {xs : List Int} {S : List (Nat × Nat)} {T : Nat → Nat → Nat} {cc zz ports rules space ne c o : Nat} {l : Li} {I : Ix}
theorem MADE.k {I J : Ix} (h : MADE ports rules space l S I T) (f : ∀ z w, z = 1 ∨ z = 165 → J z w = I z w) : MADE ports rules space l S J T := by
  obtain ⟨h1, h2, h3, h4, h5, h6, h7, h8, h9, h10, h11⟩ := h
  exact ⟨h1, h2, h3, h4, h5, (f 1 _ (Or.inl rfl)).trans h6, (f 1 _ (Or.inl rfl)).trans h7, (f 1 _ (Or.inl rfl)).trans h8, (f 1 _ (Or.inl rfl)).trans h9, fun p hp => (f 165 p (Or.inr rfl)).trans (h10 p hp), h11⟩
theorem MADE.s1 (h : MADE ports rules space l S I T) : S[1]? = some (0, 10) := h.2.1
theorem MADE.t0 (h : MADE ports rules space l S I T) : T 1 0 = 2 + 1 := h.2.2.2.1
theorem MADE.pt (h : MADE ports rules space l S I T) : I 1 1 = ((ports : Nat) : Int) := h.2.2.2.2.2.1
theorem MADE.lp (h : MADE ports rules space l S I T) : lPorts l = ports ∧ 2 ≤ ports ∧ ports ≤ 4 := ⟨h.2.2.2.2.2.2.2.2.2.2.1, h.2.2.2.2.2.2.2.2.2.2.2.2.2.2.1, h.2.2.2.2.2.2.2.2.2.2.2.2.2.2.2.1⟩

theorem mx_171 : mxl 171 = 6 := by decide +kernel
theorem mt_171 : mtc 171 = 10 := by decide +kernel
theorem rk_171 (as : List AV) : rkA 171 as = 7 := rfl
theorem l_171_0 : look 171 0 = some (.aload_n 0, 1, 0, 0, 0, 0) := by decide +kernel
theorem l_171_1 : look 171 1 = some (.getfield 10, 3, 10, 0, 2, 1161) := by decide +kernel
theorem l_171_4 : look 171 4 = some (.iconst 4, 1, 0, 0, 0, 0) := by decide +kernel
theorem l_171_5 : look 171 5 = some (.invokevirtual 105, 3, 104, 2, 0, 1190) := by decide +kernel
theorem l_171_8 : look 171 8 = some (.istore_n 2, 1, 0, 0, 0, 0) := by decide +kernel
theorem l_171_9 : look 171 9 = some (.aload_n 1, 1, 0, 0, 0, 0) := by decide +kernel
theorem l_171_10 : look 171 10 = some (.bipush 10, 2, 0, 0, 0, 0) := by decide +kernel
theorem l_171_12 : look 171 12 = some (.invokevirtual 20, 3, 173, 2, 0, 776) := by decide +kernel
theorem l_171_15 : look 171 15 = some (.istore_n 3, 1, 0, 0, 0, 0) := by decide +kernel
theorem l_171_16 : look 171 16 = some (.iload_n 3, 1, 0, 0, 0, 0) := by decide +kernel
theorem l_171_17 : look 171 17 = some (.bipush 7, 2, 0, 0, 0, 0) := by decide +kernel
theorem l_171_19 : look 171 19 = some (.if_icmp .ge 90, 3, 0, 0, 0, 0) := by decide +kernel
theorem l_171_22 : look 171 22 = some (.aload_n 0, 1, 0, 0, 0, 0) := by decide +kernel
theorem l_171_23 : look 171 23 = some (.getfield 10, 3, 10, 0, 2, 1161) := by decide +kernel
theorem l_171_26 : look 171 26 = some (.iconst 3, 1, 0, 0, 0, 0) := by decide +kernel
theorem l_171_27 : look 171 27 = some (.invokevirtual 105, 3, 104, 2, 0, 1190) := by decide +kernel
theorem l_171_30 : look 171 30 = some (.istore 4, 2, 0, 0, 0, 0) := by decide +kernel
theorem l_171_32 : look 171 32 = some (.aload_n 0, 1, 0, 0, 0, 0) := by decide +kernel
theorem l_171_33 : look 171 33 = some (.getfield 10, 3, 10, 0, 2, 1161) := by decide +kernel
theorem l_171_36 : look 171 36 = some (.aload_n 1, 1, 0, 0, 0, 0) := by decide +kernel
theorem l_171_37 : look 171 37 = some (.aload_n 0, 1, 0, 0, 0, 0) := by decide +kernel
theorem l_171_38 : look 171 38 = some (.getfield 26, 3, 10, 1, 0, 1163) := by decide +kernel
theorem l_171_41 : look 171 41 = some (.invokevirtual 20, 3, 173, 2, 0, 776) := by decide +kernel
theorem l_171_44 : look 171 44 = some (.aload_n 1, 1, 0, 0, 0, 0) := by decide +kernel
theorem l_171_45 : look 171 45 = some (.bipush 6, 2, 0, 0, 0, 0) := by decide +kernel
theorem l_171_47 : look 171 47 = some (.invokevirtual 20, 3, 173, 2, 0, 776) := by decide +kernel
theorem l_171_50 : look 171 50 = some (.aload_n 1, 1, 0, 0, 0, 0) := by decide +kernel
theorem l_171_51 : look 171 51 = some (.bipush 6, 2, 0, 0, 0, 0) := by decide +kernel
theorem l_171_53 : look 171 53 = some (.invokevirtual 20, 3, 173, 2, 0, 776) := by decide +kernel
theorem l_171_56 : look 171 56 = some (.iconst 1, 1, 0, 0, 0, 0) := by decide +kernel
theorem l_171_57 : look 171 57 = some (.aload_n 1, 1, 0, 0, 0, 0) := by decide +kernel
theorem l_171_58 : look 171 58 = some (.bipush 6, 2, 0, 0, 0, 0) := by decide +kernel
theorem l_171_60 : look 171 60 = some (.invokevirtual 20, 3, 173, 2, 0, 776) := by decide +kernel
theorem l_171_63 : look 171 63 = some (.iadd, 1, 0, 0, 0, 0) := by decide +kernel
theorem l_171_64 : look 171 64 = some (.aload_n 1, 1, 0, 0, 0, 0) := by decide +kernel
theorem l_171_65 : look 171 65 = some (.iconst 4, 1, 0, 0, 0, 0) := by decide +kernel
theorem l_171_66 : look 171 66 = some (.invokevirtual 20, 3, 173, 2, 0, 776) := by decide +kernel
theorem l_171_69 : look 171 69 = some (.invokevirtual 108, 3, 105, 6, 0, 1191) := by decide +kernel
theorem l_171_72 : look 171 72 = some (.istore 5, 2, 0, 0, 0, 0) := by decide +kernel
theorem l_171_74 : look 171 74 = some (.iload 5, 2, 0, 0, 0, 0) := by decide +kernel
theorem l_171_76 : look 171 76 = some (.ifCond .lt 31, 3, 0, 0, 0, 0) := by decide +kernel
theorem l_171_79 : look 171 79 = some (.iload 5, 2, 0, 0, 0, 0) := by decide +kernel
theorem l_171_81 : look 171 81 = some (.aload_n 0, 1, 0, 0, 0, 0) := by decide +kernel
theorem l_171_82 : look 171 82 = some (.getfield 26, 3, 10, 1, 0, 1163) := by decide +kernel
theorem l_171_85 : look 171 85 = some (.if_icmp .ge 22, 3, 0, 0, 0, 0) := by decide +kernel
theorem l_171_88 : look 171 88 = some (.aload_n 0, 1, 0, 0, 0, 0) := by decide +kernel
theorem l_171_89 : look 171 89 = some (.getfield 10, 3, 10, 0, 2, 1161) := by decide +kernel
theorem l_171_92 : look 171 92 = some (.iconst 3, 1, 0, 0, 0, 0) := by decide +kernel
theorem l_171_93 : look 171 93 = some (.invokevirtual 105, 3, 104, 2, 0, 1190) := by decide +kernel
theorem l_171_96 : look 171 96 = some (.iload 4, 2, 0, 0, 0, 0) := by decide +kernel
theorem l_171_98 : look 171 98 = some (.iconst 1, 1, 0, 0, 0, 0) := by decide +kernel
theorem l_171_99 : look 171 99 = some (.iadd, 1, 0, 0, 0, 0) := by decide +kernel
theorem l_171_100 : look 171 100 = some (.if_icmp .ne 7, 3, 0, 0, 0, 0) := by decide +kernel
theorem l_171_103 : look 171 103 = some (.iconst 1, 1, 0, 0, 0, 0) := by decide +kernel
theorem l_171_104 : look 171 104 = some (.goto 4, 3, 0, 0, 0, 0) := by decide +kernel
theorem l_171_107 : look 171 107 = some (.iconst 0, 1, 0, 0, 0, 0) := by decide +kernel
theorem l_171_108 : look 171 108 = some (.ireturn, 1, 0, 0, 1, 0) := by decide +kernel
theorem l_171_109 : look 171 109 = some (.iload_n 3, 1, 0, 0, 0, 0) := by decide +kernel
theorem l_171_110 : look 171 110 = some (.bipush 9, 2, 0, 0, 0, 0) := by decide +kernel
theorem l_171_112 : look 171 112 = some (.if_icmp .ge 44, 3, 0, 0, 0, 0) := by decide +kernel
theorem l_171_115 : look 171 115 = some (.aload_n 0, 1, 0, 0, 0, 0) := by decide +kernel
theorem l_171_116 : look 171 116 = some (.getfield 10, 3, 10, 0, 2, 1161) := by decide +kernel
theorem l_171_119 : look 171 119 = some (.iconst 5, 1, 0, 0, 0, 0) := by decide +kernel
theorem l_171_120 : look 171 120 = some (.invokevirtual 105, 3, 104, 2, 0, 1190) := by decide +kernel
theorem l_171_123 : look 171 123 = some (.istore 4, 2, 0, 0, 0, 0) := by decide +kernel
theorem l_171_125 : look 171 125 = some (.aload_n 0, 1, 0, 0, 0, 0) := by decide +kernel
theorem l_171_126 : look 171 126 = some (.getfield 10, 3, 10, 0, 2, 1161) := by decide +kernel
theorem l_171_129 : look 171 129 = some (.invokevirtual 112, 3, 106, 1, 0, 1382) := by decide +kernel
theorem l_171_132 : look 171 132 = some (.ifCond .lt 22, 3, 0, 0, 0, 0) := by decide +kernel
theorem l_171_135 : look 171 135 = some (.aload_n 0, 1, 0, 0, 0, 0) := by decide +kernel
theorem l_171_136 : look 171 136 = some (.getfield 10, 3, 10, 0, 2, 1161) := by decide +kernel
theorem l_171_139 : look 171 139 = some (.iconst 5, 1, 0, 0, 0, 0) := by decide +kernel
theorem l_171_140 : look 171 140 = some (.invokevirtual 105, 3, 104, 2, 0, 1190) := by decide +kernel
theorem l_171_143 : look 171 143 = some (.iload 4, 2, 0, 0, 0, 0) := by decide +kernel
theorem l_171_145 : look 171 145 = some (.iconst 1, 1, 0, 0, 0, 0) := by decide +kernel
theorem l_171_146 : look 171 146 = some (.iadd, 1, 0, 0, 0, 0) := by decide +kernel
theorem l_171_147 : look 171 147 = some (.if_icmp .ne 7, 3, 0, 0, 0, 0) := by decide +kernel
theorem l_171_150 : look 171 150 = some (.iconst 1, 1, 0, 0, 0, 0) := by decide +kernel
theorem l_171_151 : look 171 151 = some (.goto 4, 3, 0, 0, 0, 0) := by decide +kernel
theorem l_171_154 : look 171 154 = some (.iconst 0, 1, 0, 0, 0, 0) := by decide +kernel
theorem l_171_155 : look 171 155 = some (.ireturn, 1, 0, 0, 1, 0) := by decide +kernel
theorem l_171_156 : look 171 156 = some (.aload_n 1, 1, 0, 0, 0, 0) := by decide +kernel
theorem l_171_157 : look 171 157 = some (.aload_n 0, 1, 0, 0, 0, 0) := by decide +kernel
theorem l_171_158 : look 171 158 = some (.getfield 26, 3, 10, 1, 0, 1163) := by decide +kernel
theorem l_171_161 : look 171 161 = some (.invokevirtual 20, 3, 173, 2, 0, 776) := by decide +kernel
theorem l_171_164 : look 171 164 = some (.istore 4, 2, 0, 0, 0, 0) := by decide +kernel
theorem l_171_166 : look 171 166 = some (.aload_n 1, 1, 0, 0, 0, 0) := by decide +kernel
theorem l_171_167 : look 171 167 = some (.iconst 3, 1, 0, 0, 0, 0) := by decide +kernel
theorem l_171_168 : look 171 168 = some (.invokevirtual 20, 3, 173, 2, 0, 776) := by decide +kernel
theorem l_171_171 : look 171 171 = some (.ifCond .le 7, 3, 0, 0, 0, 0) := by decide +kernel
theorem l_171_174 : look 171 174 = some (.iconst 1, 1, 0, 0, 0, 0) := by decide +kernel
theorem l_171_175 : look 171 175 = some (.goto 4, 3, 0, 0, 0, 0) := by decide +kernel
theorem l_171_178 : look 171 178 = some (.iconst 0, 1, 0, 0, 0, 0) := by decide +kernel
theorem l_171_179 : look 171 179 = some (.istore 5, 2, 0, 0, 0, 0) := by decide +kernel
theorem l_171_181 : look 171 181 = some (.aload_n 0, 1, 0, 0, 0, 0) := by decide +kernel
theorem l_171_182 : look 171 182 = some (.getfield 10, 3, 10, 0, 2, 1161) := by decide +kernel
theorem l_171_185 : look 171 185 = some (.iload 4, 2, 0, 0, 0, 0) := by decide +kernel
theorem l_171_187 : look 171 187 = some (.iload 5, 2, 0, 0, 0, 0) := by decide +kernel
theorem l_171_189 : look 171 189 = some (.invokevirtual 116, 3, 107, 3, 0, 1387) := by decide +kernel
theorem l_171_192 : look 171 192 = some (.aload_n 0, 1, 0, 0, 0, 0) := by decide +kernel
theorem l_171_193 : look 171 193 = some (.getfield 10, 3, 10, 0, 2, 1161) := by decide +kernel
theorem l_171_196 : look 171 196 = some (.iconst 4, 1, 0, 0, 0, 0) := by decide +kernel
theorem l_171_197 : look 171 197 = some (.invokevirtual 105, 3, 104, 2, 0, 1190) := by decide +kernel
theorem l_171_200 : look 171 200 = some (.iload_n 2, 1, 0, 0, 0, 0) := by decide +kernel
theorem l_171_201 : look 171 201 = some (.isub, 1, 0, 0, 0, 0) := by decide +kernel
theorem l_171_202 : look 171 202 = some (.if_icmp .ne 21, 3, 0, 0, 0, 0) := by decide +kernel
theorem l_171_205 : look 171 205 = some (.aload_n 0, 1, 0, 0, 0, 0) := by decide +kernel
theorem l_171_206 : look 171 206 = some (.getfield 10, 3, 10, 0, 2, 1161) := by decide +kernel
theorem l_171_209 : look 171 209 = some (.iload 4, 2, 0, 0, 0, 0) := by decide +kernel
theorem l_171_211 : look 171 211 = some (.invokevirtual 120, 3, 115, 2, 0, 1391) := by decide +kernel
theorem l_171_214 : look 171 214 = some (.iload 5, 2, 0, 0, 0, 0) := by decide +kernel
theorem l_171_216 : look 171 216 = some (.if_icmp .ne 7, 3, 0, 0, 0, 0) := by decide +kernel
theorem l_171_219 : look 171 219 = some (.iconst 1, 1, 0, 0, 0, 0) := by decide +kernel
theorem l_171_220 : look 171 220 = some (.goto 4, 3, 0, 0, 0, 0) := by decide +kernel
theorem l_171_223 : look 171 223 = some (.iconst 0, 1, 0, 0, 0, 0) := by decide +kernel
theorem l_171_224 : look 171 224 = some (.ireturn, 1, 0, 0, 1, 0) := by decide +kernel

theorem c_171 (H : LST ports rules space l ne c S I T) (ho : S[o]? = some (0, 11)) (ho2 : 165 < o) (hne : ne < 100) (hc : c < 1000) : CL xs 171 [vr 1, vr o] (S, I, T, cc, zz) (RX (fun r m1 => r = some (vi 1) ∧ ∃ I9, m1 = (S, I9, T, cc, zz) ∧ LST ports rules space l (ne + 1) (c + 1) S I9 T)) := by
  refine CL_start (r := 7) (ls := [vr 1, vr o, vs 2, vs 2, vs 2, vs 2]) (rk_171 _) rfl ?_
  obtain ⟨hm, q, y, h, a, np, cd, nm, L, bf, W⟩ := H
  have hlp := hm.lp
  refine w_aln l_171_0 rfl ?_
  refine w_gr l_171_1 hm.s1 hm.t0 ?_
  refine w_ic l_171_4 (by decide) ?_
  refine q_iv [vi 4] [] l_171_5 rfl rfl (Nat.le_of_ble_eq_true rfl) (by rw [mx_104]; exact Nat.le_of_ble_eq_true rfl) (by rw [mt_104]; exact oDropSwitch_sh W.o) (by rw [mt_104]; decide) (by rw [rk_104]; decide) (s_104_4 W.o W.X.K) ?_
  refine w_isn l_171_8 ⟨Nat.le_of_ble_eq_true rfl, rfl⟩ ?_
  refine w_aln l_171_9 rfl ?_
  refine w_bp l_171_10 (by decide) ?_
  refine x_iv [vi ((10 : Nat) : Int)] [] l_171_12 (Or.inl rfl) rfl rfl ⟨Nat.le_of_ble_eq_true rfl, rfl⟩ (by rw [mx_173]; exact (Nat.le_of_ble_eq_true rfl)) (by rw [mt_173]; exact ho) (by rw [mt_173]; decide) (by rw [rk_173]; decide) (c_173 ho (by decide)) (fun v m1 h1 => ?_)
  obtain ⟨w, xw, hw, rfl, rfl⟩ := h1
  replace W := W.al (J := up _ o 0 xw) (fun b z h1 h2 => up_out (by omega))
  replace hm := hm.k (J := up _ o 0 xw) (fun z w hz => up_out (by omega))
  refine w_isn l_171_15 ⟨Nat.le_of_ble_eq_true rfl, rfl⟩ ?_
  have D0 := W.X.K
  by_cases hw7 : w < 7
  · refine w_iln l_171_16 rfl ?_
    refine w_bp l_171_17 (by decide) ?_
    refine w_cge 109 l_171_19 (by decide) (fun hx => absurd hx (by omega)) (fun _ => ?_)
    refine w_aln l_171_22 rfl ?_
    refine w_gr l_171_23 hm.s1 hm.t0 ?_
    refine w_ic l_171_26 (by decide) ?_
    refine q_iv [vi 3] [] l_171_27 rfl rfl (Nat.le_of_ble_eq_true rfl) (by rw [mx_104]; exact Nat.le_of_ble_eq_true rfl) (by rw [mt_104]; exact oDropSwitch_sh W.o) (by rw [mt_104]; decide) (by rw [rk_104]; decide) (s_104_3 W.o W.X.K) ?_
    refine w_is l_171_30 ⟨Nat.le_of_ble_eq_true rfl, rfl⟩ ?_
    refine w_aln l_171_32 rfl ?_
    refine w_gr l_171_33 hm.s1 hm.t0 ?_
    refine w_aln l_171_36 rfl ?_
    refine w_aln l_171_37 rfl ?_
    refine w_gin ((ports : Nat) : Int) l_171_38 (by decide) hm.s1 hm.pt ?_
    refine x_iv [vi ((ports : Nat) : Int)] [vr 2] l_171_41 (Or.inl rfl) rfl rfl ⟨Nat.le_of_ble_eq_true rfl, rfl⟩ (by rw [mx_173]; exact (Nat.le_of_ble_eq_true rfl)) (by rw [mt_173]; exact ho) (by rw [mt_173]; decide) (by rw [rk_173]; decide) (c_173 ho (by omega)) (fun v m1 h1 => ?_)
    obtain ⟨p, xp, hp, rfl, rfl⟩ := h1
    replace W := W.al (J := up _ o 0 xp) (fun b z h1 h2 => up_out (by omega))
    replace hm := hm.k (J := up _ o 0 xp) (fun z w hz => up_out (by omega))
    refine w_aln l_171_44 rfl ?_
    refine w_bp l_171_45 (by decide) ?_
    refine x_iv [vi ((6 : Nat) : Int)] [vi ((p : Nat) : Int), vr 2] l_171_47 (Or.inl rfl) rfl rfl ⟨Nat.le_of_ble_eq_true rfl, rfl⟩ (by rw [mx_173]; exact (Nat.le_of_ble_eq_true rfl)) (by rw [mt_173]; exact ho) (by rw [mt_173]; decide) (by rw [rk_173]; decide) (c_173 ho (by decide)) (fun v m1 h1 => ?_)
    obtain ⟨sr, xsr, hsr, rfl, rfl⟩ := h1
    replace W := W.al (J := up _ o 0 xsr) (fun b z h1 h2 => up_out (by omega))
    replace hm := hm.k (J := up _ o 0 xsr) (fun z w hz => up_out (by omega))
    refine w_aln l_171_50 rfl ?_
    refine w_bp l_171_51 (by decide) ?_
    refine x_iv [vi ((6 : Nat) : Int)] [vi ((sr : Nat) : Int), vi ((p : Nat) : Int), vr 2] l_171_53 (Or.inl rfl) rfl rfl ⟨Nat.le_of_ble_eq_true rfl, rfl⟩ (by rw [mx_173]; exact (Nat.le_of_ble_eq_true rfl)) (by rw [mt_173]; exact ho) (by rw [mt_173]; decide) (by rw [rk_173]; decide) (c_173 ho (by decide)) (fun v m1 h1 => ?_)
    obtain ⟨tg, xtg, htg, rfl, rfl⟩ := h1
    replace W := W.al (J := up _ o 0 xtg) (fun b z h1 h2 => up_out (by omega))
    replace hm := hm.k (J := up _ o 0 xtg) (fun z w hz => up_out (by omega))
    refine w_ic l_171_56 (by decide) ?_
    refine w_aln l_171_57 rfl ?_
    refine w_bp l_171_58 (by decide) ?_
    refine x_iv [vi ((6 : Nat) : Int)] [vi 1, vi ((tg : Nat) : Int), vi ((sr : Nat) : Int), vi ((p : Nat) : Int), vr 2] l_171_60 (Or.inl rfl) rfl rfl ⟨Nat.le_of_ble_eq_true rfl, rfl⟩ (by rw [mx_173]; exact (Nat.le_of_ble_eq_true rfl)) (by rw [mt_173]; exact ho) (by rw [mt_173]; decide) (by rw [rk_173]; decide) (c_173 ho (by decide)) (fun v m1 h1 => ?_)
    obtain ⟨sz, xsz, hsz, rfl, rfl⟩ := h1
    replace W := W.al (J := up _ o 0 xsz) (fun b z h1 h2 => up_out (by omega))
    replace hm := hm.k (J := up _ o 0 xsz) (fun z w hz => up_out (by omega))
    refine w_add ((1 + sz : Nat) : Int) l_171_63 (by unfold wr; omega) ?_
    refine w_aln l_171_64 rfl ?_
    refine w_ic l_171_65 (by decide) ?_
    refine x_iv [vi ((4 : Nat) : Int)] [vi ((1 + sz : Nat) : Int), vi ((tg : Nat) : Int), vi ((sr : Nat) : Int), vi ((p : Nat) : Int), vr 2] l_171_66 (Or.inl rfl) rfl rfl ⟨Nat.le_of_ble_eq_true rfl, rfl⟩ (by rw [mx_173]; exact (Nat.le_of_ble_eq_true rfl)) (by rw [mt_173]; exact ho) (by rw [mt_173]; decide) (by rw [rk_173]; decide) (c_173 ho (by decide)) (fun v m1 h1 => ?_)
    obtain ⟨rn, xrn, hrn, rfl, rfl⟩ := h1
    replace W := W.al (J := up _ o 0 xrn) (fun b z h1 h2 => up_out (by omega))
    replace hm := hm.k (J := up _ o 0 xrn) (fun z w hz => up_out (by omega))
    refine p_iv [vi ((p : Nat) : Int), vi ((sr : Nat) : Int), vi ((tg : Nat) : Int), vi ((1 + sz : Nat) : Int), vi ((rn : Nat) : Int)] [] l_171_69 rfl rfl (Nat.le_of_ble_eq_true rfl) (by rw [mx_105]; exact Nat.le_of_ble_eq_true rfl) (by rw [mt_105]; exact oDropSwitch_sh W.o) (by rw [mt_105]; decide) (by rw [rk_105]; decide) (s_105 W.o W.ck W.X (p := p) (sr := sr) (tg := tg) (sz := 1 + sz) (rn := rn) (by omega) (by omega) (by omega) (by omega) (by omega) (by omega) (by omega)) (fun v I9 hv => ?_)
    obtain ⟨rfl, X9, f9⟩ := hv
    have hm9 := hm.k (J := I9) (fun z w hz => f9 z w (by omega) (by omega))
    have W9 := W.K X9 rfl f9
    have hlt : (stepA (addP h a np ne p (sr, tg, 1 + sz, rn) cd) l ne (runA (addP h a np ne p (sr, tg, 1 + sz, rn) cd) l noOut ne)).2 < ports := by
      unfold stepA
      rw [addP_eq.1, addP_eq.2.1]
      rw [← hlp.1]
      exact arrive_lt (by omega)
    refine w_is l_171_72 ⟨Nat.le_of_ble_eq_true rfl, rfl⟩ ?_
    refine w_il l_171_74 rfl ?_
    refine w_zlt 107 l_171_76 (by decide) (fun hx => absurd hx (by omega)) (fun _ => ?_)
    refine w_il l_171_79 rfl ?_
    refine w_aln l_171_81 rfl ?_
    refine w_gin ((ports : Nat) : Int) l_171_82 (by decide) hm9.s1 hm9.pt ?_
    refine w_cge 107 l_171_85 (by decide) (fun hx => absurd hx (by omega)) (fun _ => ?_)
    refine w_aln l_171_88 rfl ?_
    refine w_gr l_171_89 hm9.s1 hm9.t0 ?_
    refine w_ic l_171_92 (by decide) ?_
    refine q_iv [vi 3] [] l_171_93 rfl rfl (Nat.le_of_ble_eq_true rfl) (by rw [mx_104]; exact Nat.le_of_ble_eq_true rfl) (by rw [mt_104]; exact oDropSwitch_sh W9.o) (by rw [mt_104]; decide) (by rw [rk_104]; decide) (s_104_3 W9.o W9.X.K) ?_
    refine w_il l_171_96 rfl ?_
    refine w_ic l_171_98 (by decide) ?_
    refine w_add ((np + 1 : Nat) : Int) l_171_99 (by have := W.X.K.2.2.1.2.2.2.1; unfold wr; omega) ?_
    refine w_cne 107 l_171_100 (by decide) (fun hx => absurd rfl hx) (fun _ => ?_)
    refine w_ic l_171_103 (by decide) ?_
    refine w_go 108 l_171_104 (by decide) ?_
    refine w_ir l_171_108 (by decide) ?_
    exact ⟨_, rfl, rfl, I9, rfl, hm9, ⟨q, y, _, _, _, _, _, _, _, W9⟩⟩
  · by_cases hw9 : w < 9
    · refine w_iln l_171_16 rfl ?_
      refine w_bp l_171_17 (by decide) ?_
      refine w_cge 109 l_171_19 (by decide) (fun _ => ?_) (fun hx => absurd hx (by omega))
      refine w_iln l_171_109 rfl ?_
      refine w_bp l_171_110 (by decide) ?_
      refine w_cge 156 l_171_112 (by decide) (fun hx => absurd hx (by omega)) (fun _ => ?_)
      refine w_aln l_171_115 rfl ?_
      refine w_gr l_171_116 hm.s1 hm.t0 ?_
      refine w_ic l_171_119 (by decide) ?_
      refine q_iv [vi 5] [] l_171_120 rfl rfl (Nat.le_of_ble_eq_true rfl) (by rw [mx_104]; exact Nat.le_of_ble_eq_true rfl) (by rw [mt_104]; exact oDropSwitch_sh W.o) (by rw [mt_104]; decide) (by rw [rk_104]; decide) (s_104_5 W.o W.X.K) ?_
      refine w_is l_171_123 ⟨Nat.le_of_ble_eq_true rfl, rfl⟩ ?_
      refine w_aln l_171_125 rfl ?_
      refine w_gr l_171_126 hm.s1 hm.t0 ?_
      refine p_iv [] [] l_171_129 rfl rfl (Nat.le_of_ble_eq_true rfl) (by rw [mx_106]; exact Nat.le_of_ble_eq_true rfl) (by rw [mt_106]; exact oDropSwitch_sh W.o) (by rw [mt_106]; decide) (by rw [rk_106]; decide) (s_106 W.o W.ck W.X (by omega) (by omega)) (fun v I9 hv => ?_)
      obtain ⟨rfl, X9, f9⟩ := hv
      have hm9 := hm.k (J := I9) (fun z w hz => f9 z w (by omega) (by omega))
      have W9 := W.K X9 rfl f9
      have D := addE_H (kind := 1) (p := 0) W.X.K.2.2.2.2.2.2.1 W.X.K.2.2.2.2.2.2.2.2.1 W.X.W (by decide) (fun q => absurd rfl q)
      have hrun : runA (addE h ne 1 0) l noOut ne = runA h l noOut ne := D.run W.X.K.2.2.2.2.2.2.1 W.X.K.2.2.2.2.2.2.2.1 W.X.K.2.2.2.2.2.2.2.2.1 (Nat.le_refl _)
      have ht : sTime (runA (addE h ne 1 0) l noOut (ne + 1)).1 = sTime (runA h l noOut ne).1 + 1 := by
        rw [run_s rfl]
        unfold stepA
        rw [addE_eq.1, hrun]
        exact tick_t
      have htm := (run_ok (out := noOut) W.X.K.2.2.2.2.2.2.1 W.X.K.2.2.2.2.2.2.2.1 W.X.K.2.2.2.2.2.2.2.2.1 ne (Nat.le_refl _)).2.2
      refine w_zlt 154 l_171_132 (by decide) (fun hx => absurd hx (by omega)) (fun _ => ?_)
      refine w_aln l_171_135 rfl ?_
      refine w_gr l_171_136 hm9.s1 hm9.t0 ?_
      refine w_ic l_171_139 (by decide) ?_
      refine q_iv [vi 5] [] l_171_140 rfl rfl (Nat.le_of_ble_eq_true rfl) (by rw [mx_104]; exact Nat.le_of_ble_eq_true rfl) (by rw [mt_104]; exact oDropSwitch_sh W9.o) (by rw [mt_104]; decide) (by rw [rk_104]; decide) (s_104_5 W9.o W9.X.K) ?_
      refine w_il l_171_143 rfl ?_
      refine w_ic l_171_145 (by decide) ?_
      refine w_add ((sTime (runA h l noOut ne).1 + 1 : Nat) : Int) l_171_146 (by unfold wr; omega) ?_
      refine w_cne 154 l_171_147 (by decide) (fun hx => absurd (by rw [ht]) hx) (fun _ => ?_)
      refine w_ic l_171_150 (by decide) ?_
      refine w_go 155 l_171_151 (by decide) ?_
      refine w_ir l_171_155 (by decide) ?_
      exact ⟨_, rfl, rfl, I9, rfl, hm9, ⟨q, y, _, _, _, _, _, _, _, W9⟩⟩
    · refine w_iln l_171_16 rfl ?_
      refine w_bp l_171_17 (by decide) ?_
      refine w_cge 109 l_171_19 (by decide) (fun _ => ?_) (fun hx => absurd hx (by omega))
      refine w_iln l_171_109 rfl ?_
      refine w_bp l_171_110 (by decide) ?_
      refine w_cge 156 l_171_112 (by decide) (fun _ => ?_) (fun hx => absurd hx (by omega))
      refine w_aln l_171_156 rfl ?_
      refine w_aln l_171_157 rfl ?_
      refine w_gin ((ports : Nat) : Int) l_171_158 (by decide) hm.s1 hm.pt ?_
      refine x_iv [vi ((ports : Nat) : Int)] [] l_171_161 (Or.inl rfl) rfl rfl ⟨Nat.le_of_ble_eq_true rfl, rfl⟩ (by rw [mx_173]; exact (Nat.le_of_ble_eq_true rfl)) (by rw [mt_173]; exact ho) (by rw [mt_173]; decide) (by rw [rk_173]; decide) (c_173 ho (by omega)) (fun v m1 h1 => ?_)
      obtain ⟨p, xp, hp, rfl, rfl⟩ := h1
      replace W := W.al (J := up _ o 0 xp) (fun b z h1 h2 => up_out (by omega))
      replace hm := hm.k (J := up _ o 0 xp) (fun z w hz => up_out (by omega))
      refine w_is l_171_164 ⟨Nat.le_of_ble_eq_true rfl, rfl⟩ ?_
      refine w_aln l_171_166 rfl ?_
      refine w_ic l_171_167 (by decide) ?_
      refine x_iv [vi ((3 : Nat) : Int)] [] l_171_168 (Or.inl rfl) rfl rfl ⟨Nat.le_of_ble_eq_true rfl, rfl⟩ (by rw [mx_173]; exact (Nat.le_of_ble_eq_true rfl)) (by rw [mt_173]; exact ho) (by rw [mt_173]; decide) (by rw [rk_173]; decide) (c_173 ho (by decide)) (fun v m1 h1 => ?_)
      obtain ⟨b, xb, hb, rfl, rfl⟩ := h1
      replace W := W.al (J := up _ o 0 xb) (fun b z h1 h2 => up_out (by omega))
      replace hm := hm.k (J := up _ o 0 xb) (fun z w hz => up_out (by omega))
      by_cases hb0 : b = 0
      · subst hb0
        refine w_zle 178 l_171_171 (by decide) (fun _ => ?_) (fun hx => absurd hx (by decide))
        refine w_ic l_171_178 (by decide) ?_
        refine w_is l_171_179 ⟨Nat.le_of_ble_eq_true rfl, rfl⟩ ?_
        refine w_aln l_171_181 rfl ?_
        refine w_gr l_171_182 hm.s1 hm.t0 ?_
        refine w_il l_171_185 rfl ?_
        refine w_il l_171_187 rfl ?_
        refine p_iv [vi ((p : Nat) : Int), vi 0] [] l_171_189 rfl rfl (Nat.le_of_ble_eq_true rfl) (by rw [mx_107]; exact Nat.le_of_ble_eq_true rfl) (by rw [mt_107]; exact oDropSwitch_sh W.o) (by rw [mt_107]; decide) (by rw [rk_107]; decide) (s_107_0 W.o W.ck W.X (by omega) (by omega) (p := p) (by omega)) (fun v I9 hv => ?_)
        obtain ⟨rfl, X9, f9⟩ := hv
        have hm9 := hm.k (J := I9) (fun z w hz => f9 z w (by omega) (by omega))
        have W9 := W.K X9 rfl f9
        have D := addE_H (kind := 3) (p := p) W.X.K.2.2.2.2.2.2.1 W.X.K.2.2.2.2.2.2.2.2.1 W.X.W (by decide) (fun _ => (by omega : p < lPorts l))
        have hrun : runA (addE h ne 3 p) l noOut ne = runA h l noOut ne := D.run W.X.K.2.2.2.2.2.2.1 W.X.K.2.2.2.2.2.2.2.1 W.X.K.2.2.2.2.2.2.2.2.1 (Nat.le_refl _)
        have h360 := W9.X.K.2.2.2.1.2.1.2
        have hst : stepA (addE h ne 3 p) l ne (runA (addE h ne 3 p) l noOut ne) = loseA ne p (runA h l noOut ne) := by
          unfold stepA
          rw [addE_eq.1, addE_eq.2, hrun]
          rfl
        have hr9 : runA (addE h ne 3 p) l noOut (ne + 1) = (stepA (addE h ne 3 p) l ne (runA (addE h ne 3 p) l noOut ne)).1 := run_s rfl
        have hln := lose_len (e := ne) (p := p) (r := runA h l noOut ne)
        rw [hst] at hr9 ⊢
        rw [hr9] at h360
        refine w_aln l_171_192 rfl ?_
        refine w_gr l_171_193 hm9.s1 hm9.t0 ?_
        refine w_ic l_171_196 (by decide) ?_
        refine q_iv [vi 4] [vi _] l_171_197 rfl rfl (Nat.le_of_ble_eq_true rfl) (by rw [mx_104]; exact Nat.le_of_ble_eq_true rfl) (by rw [mt_104]; exact oDropSwitch_sh W9.o) (by rw [mt_104]; decide) (by rw [rk_104]; decide) (s_104_4 W9.o W9.X.K) ?_
        refine w_iln l_171_200 rfl ?_
        rw [hr9]
        refine w_sub (((loseA ne p (runA h l noOut ne)).2 : Nat) : Int) l_171_201 (by unfold wr; omega) ?_
        refine w_cne 223 l_171_202 (by decide) (fun hx => absurd rfl hx) (fun _ => ?_)
        refine w_aln l_171_205 rfl ?_
        refine w_gr l_171_206 hm9.s1 hm9.t0 ?_
        refine w_il l_171_209 rfl ?_
        refine q_iv [vi ((p : Nat) : Int)] [] l_171_211 rfl rfl (Nat.le_of_ble_eq_true rfl) (by rw [mx_115]; exact Nat.le_of_ble_eq_true rfl) (by rw [mt_115]; exact oDropSwitch_sh W9.o) (by rw [mt_115]; decide) (by rw [rk_115]; decide) (s_115 W9.o W9.X.K (p := p) (by omega)) ?_
        rw [hr9, show sUp ((loseA ne p (runA h l noOut ne)).1.1) p = false from lose_up]
        refine w_il l_171_214 rfl ?_
        refine w_cne 223 l_171_216 (by decide) (fun hx => absurd rfl hx) (fun _ => ?_)
        refine w_ic l_171_219 (by decide) ?_
        refine w_go 224 l_171_220 (by decide) ?_
        refine w_ir l_171_224 (by decide) ?_
        exact ⟨_, rfl, rfl, I9, rfl, hm9, ⟨q, y, _, _, _, _, _, _, _, W9⟩⟩
      · refine w_zle 178 l_171_171 (by decide) (fun hx => absurd hx (by omega)) (fun _ => ?_)
        refine w_ic l_171_174 (by decide) ?_
        refine w_go 179 l_171_175 (by decide) ?_
        refine w_is l_171_179 ⟨Nat.le_of_ble_eq_true rfl, rfl⟩ ?_
        refine w_aln l_171_181 rfl ?_
        refine w_gr l_171_182 hm.s1 hm.t0 ?_
        refine w_il l_171_185 rfl ?_
        refine w_il l_171_187 rfl ?_
        refine p_iv [vi ((p : Nat) : Int), vi 1] [] l_171_189 rfl rfl (Nat.le_of_ble_eq_true rfl) (by rw [mx_107]; exact Nat.le_of_ble_eq_true rfl) (by rw [mt_107]; exact oDropSwitch_sh W.o) (by rw [mt_107]; decide) (by rw [rk_107]; decide) (s_107_1 W.o W.ck W.X (by omega) (by omega) (p := p) (by omega)) (fun v I9 hv => ?_)
        obtain ⟨rfl, X9, f9⟩ := hv
        have hm9 := hm.k (J := I9) (fun z w hz => f9 z w (by omega) (by omega))
        have W9 := W.K X9 rfl f9
        have D := addE_H (kind := 2) (p := p) W.X.K.2.2.2.2.2.2.1 W.X.K.2.2.2.2.2.2.2.2.1 W.X.W (by decide) (fun _ => (by omega : p < lPorts l))
        have hrun : runA (addE h ne 2 p) l noOut ne = runA h l noOut ne := D.run W.X.K.2.2.2.2.2.2.1 W.X.K.2.2.2.2.2.2.2.1 W.X.K.2.2.2.2.2.2.2.2.1 (Nat.le_refl _)
        have h360 := W9.X.K.2.2.2.1.2.1.2
        have hst : stepA (addE h ne 2 p) l ne (runA (addE h ne 2 p) l noOut ne) = ((setUp (runA h l noOut ne).1 p true, (runA h l noOut ne).2), 0) := by
          unfold stepA
          rw [addE_eq.1, addE_eq.2, hrun]
          rfl
        have hr9 : runA (addE h ne 2 p) l noOut (ne + 1) = (stepA (addE h ne 2 p) l ne (runA (addE h ne 2 p) l noOut ne)).1 := run_s rfl
        skip
        rw [hst] at hr9 ⊢
        rw [hr9] at h360
        refine w_aln l_171_192 rfl ?_
        refine w_gr l_171_193 hm9.s1 hm9.t0 ?_
        refine w_ic l_171_196 (by decide) ?_
        refine q_iv [vi 4] [vi _] l_171_197 rfl rfl (Nat.le_of_ble_eq_true rfl) (by rw [mx_104]; exact Nat.le_of_ble_eq_true rfl) (by rw [mt_104]; exact oDropSwitch_sh W9.o) (by rw [mt_104]; decide) (by rw [rk_104]; decide) (s_104_4 W9.o W9.X.K) ?_
        refine w_iln l_171_200 rfl ?_
        rw [hr9]
        refine w_sub 0 l_171_201 (by show wr (((runA h l noOut ne).2.1.length : Int) - ((runA h l noOut ne).2.1.length : Int)) = 0; unfold wr; omega) ?_
        refine w_cne 223 l_171_202 (by decide) (fun hx => absurd rfl hx) (fun _ => ?_)
        refine w_aln l_171_205 rfl ?_
        refine w_gr l_171_206 hm9.s1 hm9.t0 ?_
        refine w_il l_171_209 rfl ?_
        refine q_iv [vi ((p : Nat) : Int)] [] l_171_211 rfl rfl (Nat.le_of_ble_eq_true rfl) (by rw [mx_115]; exact Nat.le_of_ble_eq_true rfl) (by rw [mt_115]; exact oDropSwitch_sh W9.o) (by rw [mt_115]; decide) (by rw [rk_115]; decide) (s_115 W9.o W9.X.K (p := p) (by omega)) ?_
        rw [hr9, show sUp ((((setUp (runA h l noOut ne).1 p true, (runA h l noOut ne).2), 0) : Ra × Nat).1.1) p = true from fu_e]
        refine w_il l_171_214 rfl ?_
        refine w_cne 223 l_171_216 (by decide) (fun hx => absurd rfl hx) (fun _ => ?_)
        refine w_ic l_171_219 (by decide) ?_
        refine w_go 224 l_171_220 (by decide) ?_
        refine w_ir l_171_224 (by decide) ?_
        exact ⟨_, rfl, rfl, I9, rfl, hm9, ⟨q, y, _, _, _, _, _, _, _, W9⟩⟩

end GOE
