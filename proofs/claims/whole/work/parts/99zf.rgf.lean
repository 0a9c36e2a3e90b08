/-! the reference's reader: lines -/
theorem strB_dis : ∀ a : Nat, a < 17 → ∀ b : Nat, b < 17 → a ≠ b → strB a ≠ strB b := by decide +kernel
theorem strB_dn {t : Nat → Int} {n p a b : Nat} (h : isWL t n (strB a) p = true) (ha : a < 17) (hb : b < 17) (hab : a ≠ b) : isWL t n (strB b) p = false := wl_ne h (strB_dis a ha b hb hab)
section RGF
variable {xs : List Int} {S : List (Nat × Nat)} {T : Nat → Nat → Nat} {cc zz s : Nat} {I I' : Ix} {t : Nat → Int} {n : Nat}

theorem mx_196 : mxl 196 = 2 := by decide +kernel
theorem mt_196 : mtc 196 = 10 := by decide +kernel
theorem rk_196 (as : List AV) : rkA 196 as = 9 := rfl
theorem l_196_0 : look 196 0 = some (.aload_n 0, 1, 0, 0, 0, 0) := by decide +kernel
theorem l_196_1 : look 196 1 = some (.invokevirtual 171, 3, 174, 1, 0, 1754) := by decide +kernel
theorem l_196_4 : look 196 4 = some (.pop, 1, 0, 0, 0, 0) := by decide +kernel
theorem l_196_5 : look 196 5 = some (.aload_n 0, 1, 0, 0, 0, 0) := by decide +kernel
theorem l_196_6 : look 196 6 = some (.ldc_w 287, 3, 27, 0, 0, 1766) := by decide +kernel
theorem l_196_9 : look 196 9 = some (.invokevirtual 194, 3, 178, 2, 0, 1767) := by decide +kernel
theorem l_196_12 : look 196 12 = some (.ifCond .ne 13, 3, 0, 0, 0, 0) := by decide +kernel
theorem l_196_15 : look 196 15 = some (.aload_n 0, 1, 0, 0, 0, 0) := by decide +kernel
theorem l_196_16 : look 196 16 = some (.ldc_w 289, 3, 28, 0, 0, 1780) := by decide +kernel
theorem l_196_19 : look 196 19 = some (.invokevirtual 194, 3, 178, 2, 0, 1767) := by decide +kernel
theorem l_196_22 : look 196 22 = some (.ifCond .eq 7, 3, 0, 0, 0, 0) := by decide +kernel
theorem l_196_25 : look 196 25 = some (.iconst 1, 1, 0, 0, 0, 0) := by decide +kernel
theorem l_196_26 : look 196 26 = some (.goto 4, 3, 0, 0, 0, 0) := by decide +kernel
theorem l_196_29 : look 196 29 = some (.iconst 0, 1, 0, 0, 0, 0) := by decide +kernel
theorem l_196_30 : look 196 30 = some (.istore_n 1, 1, 0, 0, 0, 0) := by decide +kernel
theorem l_196_31 : look 196 31 = some (.aload_n 0, 1, 0, 0, 0, 0) := by decide +kernel
theorem l_196_32 : look 196 32 = some (.ldc_w 290, 3, 29, 0, 0, 1781) := by decide +kernel
theorem l_196_35 : look 196 35 = some (.invokevirtual 194, 3, 178, 2, 0, 1767) := by decide +kernel
theorem l_196_38 : look 196 38 = some (.ifCond .eq 11, 3, 0, 0, 0, 0) := by decide +kernel
theorem l_196_41 : look 196 41 = some (.aload_n 0, 1, 0, 0, 0, 0) := by decide +kernel
theorem l_196_42 : look 196 42 = some (.getfield 206, 3, 10, 25, 0, 1526) := by decide +kernel
theorem l_196_45 : look 196 45 = some (.iconst 4, 1, 0, 0, 0, 0) := by decide +kernel
theorem l_196_46 : look 196 46 = some (.if_icmp .eq 16, 3, 0, 0, 0, 0) := by decide +kernel
theorem l_196_49 : look 196 49 = some (.iload_n 1, 1, 0, 0, 0, 0) := by decide +kernel
theorem l_196_50 : look 196 50 = some (.ifCond .eq 24, 3, 0, 0, 0, 0) := by decide +kernel
theorem l_196_53 : look 196 53 = some (.aload_n 0, 1, 0, 0, 0, 0) := by decide +kernel
theorem l_196_54 : look 196 54 = some (.getfield 281, 3, 10, 34, 0, 1535) := by decide +kernel
theorem l_196_57 : look 196 57 = some (.bipush 8, 2, 0, 0, 0, 0) := by decide +kernel
theorem l_196_59 : look 196 59 = some (.if_icmp .ne 15, 3, 0, 0, 0, 0) := by decide +kernel
theorem l_196_62 : look 196 62 = some (.aload_n 0, 1, 0, 0, 0, 0) := by decide +kernel
theorem l_196_63 : look 196 63 = some (.iconst 4, 1, 0, 0, 0, 0) := by decide +kernel
theorem l_196_64 : look 196 64 = some (.aload_n 0, 1, 0, 0, 0, 0) := by decide +kernel
theorem l_196_65 : look 196 65 = some (.getfield 161, 3, 10, 22, 0, 1523) := by decide +kernel
theorem l_196_68 : look 196 68 = some (.invokevirtual 198, 3, 176, 3, 0, 1782) := by decide +kernel
theorem l_196_71 : look 196 71 = some (.goto 156, 3, 0, 0, 0, 0) := by decide +kernel
theorem l_196_74 : look 196 74 = some (.aload_n 0, 1, 0, 0, 0, 0) := by decide +kernel
theorem l_196_75 : look 196 75 = some (.ldc_w 290, 3, 29, 0, 0, 1781) := by decide +kernel
theorem l_196_78 : look 196 78 = some (.invokevirtual 252, 3, 179, 2, 0, 1786) := by decide +kernel
theorem l_196_81 : look 196 81 = some (.ifCond .eq 10, 3, 0, 0, 0, 0) := by decide +kernel
theorem l_196_84 : look 196 84 = some (.aload_n 0, 1, 0, 0, 0, 0) := by decide +kernel
theorem l_196_85 : look 196 85 = some (.invokevirtual 292, 3, 183, 1, 0, 1790) := by decide +kernel
theorem l_196_88 : look 196 88 = some (.goto 139, 3, 0, 0, 0, 0) := by decide +kernel
theorem l_196_91 : look 196 91 = some (.aload_n 0, 1, 0, 0, 0, 0) := by decide +kernel
theorem l_196_92 : look 196 92 = some (.ldc_w 295, 3, 30, 0, 0, 1808) := by decide +kernel
theorem l_196_95 : look 196 95 = some (.invokevirtual 252, 3, 179, 2, 0, 1786) := by decide +kernel
theorem l_196_98 : look 196 98 = some (.ifCond .eq 10, 3, 0, 0, 0, 0) := by decide +kernel
theorem l_196_101 : look 196 101 = some (.aload_n 0, 1, 0, 0, 0, 0) := by decide +kernel
theorem l_196_102 : look 196 102 = some (.invokevirtual 297, 3, 185, 1, 0, 1809) := by decide +kernel
theorem l_196_105 : look 196 105 = some (.goto 122, 3, 0, 0, 0, 0) := by decide +kernel
theorem l_196_108 : look 196 108 = some (.aload_n 0, 1, 0, 0, 0, 0) := by decide +kernel
theorem l_196_109 : look 196 109 = some (.ldc_w 300, 3, 31, 0, 0, 1817) := by decide +kernel
theorem l_196_112 : look 196 112 = some (.invokevirtual 252, 3, 179, 2, 0, 1786) := by decide +kernel
theorem l_196_115 : look 196 115 = some (.ifCond .eq 18, 3, 0, 0, 0, 0) := by decide +kernel
theorem l_196_118 : look 196 118 = some (.aload_n 0, 1, 0, 0, 0, 0) := by decide +kernel
theorem l_196_119 : look 196 119 = some (.aload_n 0, 1, 0, 0, 0, 0) := by decide +kernel
theorem l_196_120 : look 196 120 = some (.iconst 1, 1, 0, 0, 0, 0) := by decide +kernel
theorem l_196_121 : look 196 121 = some (.sipush 400, 3, 0, 0, 0, 0) := by decide +kernel
theorem l_196_124 : look 196 124 = some (.invokevirtual 217, 3, 180, 3, 0, 1804) := by decide +kernel
theorem l_196_127 : look 196 127 = some (.putfield 301, 3, 10, 31, 0, 1532) := by decide +kernel
theorem l_196_130 : look 196 130 = some (.goto 97, 3, 0, 0, 0, 0) := by decide +kernel
theorem l_196_133 : look 196 133 = some (.aload_n 0, 1, 0, 0, 0, 0) := by decide +kernel
theorem l_196_134 : look 196 134 = some (.ldc_w 304, 3, 32, 0, 0, 1818) := by decide +kernel
theorem l_196_137 : look 196 137 = some (.invokevirtual 252, 3, 179, 2, 0, 1786) := by decide +kernel
theorem l_196_140 : look 196 140 = some (.ifCond .eq 18, 3, 0, 0, 0, 0) := by decide +kernel
theorem l_196_143 : look 196 143 = some (.aload_n 0, 1, 0, 0, 0, 0) := by decide +kernel
theorem l_196_144 : look 196 144 = some (.aload_n 0, 1, 0, 0, 0, 0) := by decide +kernel
theorem l_196_145 : look 196 145 = some (.iconst 0, 1, 0, 0, 0, 0) := by decide +kernel
theorem l_196_146 : look 196 146 = some (.sipush 999, 3, 0, 0, 0, 0) := by decide +kernel
theorem l_196_149 : look 196 149 = some (.invokevirtual 217, 3, 180, 3, 0, 1804) := by decide +kernel
theorem l_196_152 : look 196 152 = some (.putfield 306, 3, 10, 32, 0, 1533) := by decide +kernel
theorem l_196_155 : look 196 155 = some (.goto 72, 3, 0, 0, 0, 0) := by decide +kernel
theorem l_196_158 : look 196 158 = some (.aload_n 0, 1, 0, 0, 0, 0) := by decide +kernel
theorem l_196_159 : look 196 159 = some (.ldc_w 309, 3, 33, 0, 0, 1819) := by decide +kernel
theorem l_196_162 : look 196 162 = some (.invokevirtual 252, 3, 179, 2, 0, 1786) := by decide +kernel
theorem l_196_165 : look 196 165 = some (.ifCond .eq 17, 3, 0, 0, 0, 0) := by decide +kernel
theorem l_196_168 : look 196 168 = some (.aload_n 0, 1, 0, 0, 0, 0) := by decide +kernel
theorem l_196_169 : look 196 169 = some (.aload_n 0, 1, 0, 0, 0, 0) := by decide +kernel
theorem l_196_170 : look 196 170 = some (.iconst 1, 1, 0, 0, 0, 0) := by decide +kernel
theorem l_196_171 : look 196 171 = some (.bipush 99, 2, 0, 0, 0, 0) := by decide +kernel
theorem l_196_173 : look 196 173 = some (.invokevirtual 217, 3, 180, 3, 0, 1804) := by decide +kernel
theorem l_196_176 : look 196 176 = some (.putfield 311, 3, 10, 33, 0, 1534) := by decide +kernel
theorem l_196_179 : look 196 179 = some (.goto 48, 3, 0, 0, 0, 0) := by decide +kernel
theorem l_196_182 : look 196 182 = some (.aload_n 0, 1, 0, 0, 0, 0) := by decide +kernel
theorem l_196_183 : look 196 183 = some (.ldc_w 287, 3, 27, 0, 0, 1766) := by decide +kernel
theorem l_196_186 : look 196 186 = some (.invokevirtual 252, 3, 179, 2, 0, 1786) := by decide +kernel
theorem l_196_189 : look 196 189 = some (.ifCond .eq 11, 3, 0, 0, 0, 0) := by decide +kernel
theorem l_196_192 : look 196 192 = some (.aload_n 0, 1, 0, 0, 0, 0) := by decide +kernel
theorem l_196_193 : look 196 193 = some (.iconst 0, 1, 0, 0, 0, 0) := by decide +kernel
theorem l_196_194 : look 196 194 = some (.invokevirtual 314, 3, 195, 2, 0, 1820) := by decide +kernel
theorem l_196_197 : look 196 197 = some (.goto 30, 3, 0, 0, 0, 0) := by decide +kernel
theorem l_196_200 : look 196 200 = some (.aload_n 0, 1, 0, 0, 0, 0) := by decide +kernel
theorem l_196_201 : look 196 201 = some (.ldc_w 289, 3, 28, 0, 0, 1780) := by decide +kernel
theorem l_196_204 : look 196 204 = some (.invokevirtual 252, 3, 179, 2, 0, 1786) := by decide +kernel
theorem l_196_207 : look 196 207 = some (.ifCond .eq 11, 3, 0, 0, 0, 0) := by decide +kernel
theorem l_196_210 : look 196 210 = some (.aload_n 0, 1, 0, 0, 0, 0) := by decide +kernel
theorem l_196_211 : look 196 211 = some (.iconst 1, 1, 0, 0, 0, 0) := by decide +kernel
theorem l_196_212 : look 196 212 = some (.invokevirtual 314, 3, 195, 2, 0, 1820) := by decide +kernel
theorem l_196_215 : look 196 215 = some (.goto 12, 3, 0, 0, 0, 0) := by decide +kernel
theorem l_196_218 : look 196 218 = some (.aload_n 0, 1, 0, 0, 0, 0) := by decide +kernel
theorem l_196_219 : look 196 219 = some (.iconst 1, 1, 0, 0, 0, 0) := by decide +kernel
theorem l_196_220 : look 196 220 = some (.aload_n 0, 1, 0, 0, 0, 0) := by decide +kernel
theorem l_196_221 : look 196 221 = some (.getfield 161, 3, 10, 22, 0, 1523) := by decide +kernel
theorem l_196_224 : look 196 224 = some (.invokevirtual 198, 3, 176, 3, 0, 1782) := by decide +kernel
theorem l_196_227 : look 196 227 = some (.return_, 1, 0, 0, 0, 0) := by decide +kernel

theorem s_196 (hm : oModel S T s) {P : Ps} {tot p : Nat} (H : mTx I s t n) (A : mAt I s t n p) (h24 : I s 24 = 0) (Y : mSU I s P [] tot) (hb : 2 * tot ≤ p) : CL xs 196 [vr s] (S, I, T, cc, zz) (RP S T cc zz (fun v I' => v = none ∧ fP I I' s ∧ mRO I s I' (lineR t n P p) (fun a => mAt I' s t n a.2 ∧ ∃ tot', mSU I' s a.1 [] tot' ∧ 2 * tot' ≤ a.2))) := by
  have h600 := H.2.1
  have hpn := A.le
  have hP4 := Y.2.2.1.1.1
  have hR8 := Y.2.2.1.1.2.1
  cases hw0 : isWL t n (strB 0) p with
  | true =>
    have hw1 := strB_dn (b := 1) hw0 (by decide) (by decide) (by decide)
    have hw2 := strB_dn (b := 2) hw0 (by decide) (by decide) (by decide)
    have hw3 := strB_dn (b := 3) hw0 (by decide) (by decide) (by decide)
    have hw14 := strB_dn (b := 14) hw0 (by decide) (by decide) (by decide)
    have hw15 := strB_dn (b := 15) hw0 (by decide) (by decide) (by decide)
    have hw16 := strB_dn (b := 16) hw0 (by decide) (by decide) (by decide)
    by_cases h4 : 4 ≤ lPorts P.1
    · skip
      refine CL_start (r := 9) (ls := [vr s, vs 2]) (rk_196 _) rfl ?_
      refine w_aln l_196_0 rfl ?_
      refine p_iv [] [] l_196_1 rfl rfl (Nat.le_of_ble_eq_true rfl) (by rw [mx_174]; exact Nat.le_of_ble_eq_true rfl) (by rw [mt_174]; exact oModel_sh hm) (by rw [mt_174]; decide) (by rw [rk_174]; decide) (s_174A hm H A) (fun v I1 hv => ?_)
      obtain ⟨rfl, g221, f1⟩ := hv
      have H1 := H.fT f1.T
      have k241 : I1 s 24 = 0 := (f1 s 24 (fun _ => by decide)).trans h24
      have k231 : I1 s 23 = I s 23 := (f1 s 23 (fun _ => by decide))
      have Y1 := Y.fT f1.T
      have F1 := f1.T
      have A1 := mAt.at g221 A.le A.id
      refine w_pop l_196_4 rfl ?_
      refine w_aln l_196_5 rfl ?_
      refine w_ldcw l_196_6 (by decide) ?_
      refine p_iv [vs (2 * 27 + 4)] [] l_196_9 rfl rfl (Nat.le_of_ble_eq_true rfl) (by rw [mx_178]; exact Nat.le_of_ble_eq_true rfl) (by rw [mt_178]; exact oModel_sh hm) (by rw [mt_178]; decide) (by rw [rk_178]; decide) (by have g9 := s_178A (xs := xs) (cc := cc) (zz := zz) hm H1 A1 k241 (q := 27) (by decide); rw [strB_same.2.2.2.2.2.2.2.2.2.2.2.2.1, hw2] at g9; exact g9) (fun v I2 hv => ?_)
      obtain ⟨rfl, g222, f2⟩ := hv
      have H2 := H1.fT f2.T
      have k242 : I2 s 24 = 0 := (f2 s 24 (fun _ => by decide)).trans k241
      have k232 : I2 s 23 = I s 23 := (f2 s 23 (fun _ => by decide)).trans k231
      have Y2 := Y1.fT f2.T
      have F2 := F1.tr f2.T
      have A2 := mAt.at g222 A.le A.id
      refine w_zne 25 l_196_12 (by decide) (fun hx => absurd hx (by decide)) (fun _ => ?_)
      refine w_aln l_196_15 rfl ?_
      refine w_ldcw l_196_16 (by decide) ?_
      refine p_iv [vs (2 * 28 + 4)] [] l_196_19 rfl rfl (Nat.le_of_ble_eq_true rfl) (by rw [mx_178]; exact Nat.le_of_ble_eq_true rfl) (by rw [mt_178]; exact oModel_sh hm) (by rw [mt_178]; decide) (by rw [rk_178]; decide) (by have g9 := s_178A (xs := xs) (cc := cc) (zz := zz) hm H2 A2 k242 (q := 28) (by decide); rw [strB_same.2.2.2.2.2.2.2.2.2.2.2.2.2.1, hw3] at g9; exact g9) (fun v I3 hv => ?_)
      obtain ⟨rfl, g223, f3⟩ := hv
      have H3 := H2.fT f3.T
      have k243 : I3 s 24 = 0 := (f3 s 24 (fun _ => by decide)).trans k242
      have k233 : I3 s 23 = I s 23 := (f3 s 23 (fun _ => by decide)).trans k232
      have Y3 := Y2.fT f3.T
      have F3 := F2.tr f3.T
      have A3 := mAt.at g223 A.le A.id
      refine w_zeq 29 l_196_22 (by decide) (fun _ => ?_) (fun hx => absurd hx (by decide))
      refine w_ic l_196_29 (by decide) ?_
      refine w_isn l_196_30 ⟨Nat.le_of_ble_eq_true rfl, rfl⟩ ?_
      refine w_aln l_196_31 rfl ?_
      refine w_ldcw l_196_32 (by decide) ?_
      refine p_iv [vs (2 * 29 + 4)] [] l_196_35 rfl rfl (Nat.le_of_ble_eq_true rfl) (by rw [mx_178]; exact Nat.le_of_ble_eq_true rfl) (by rw [mt_178]; exact oModel_sh hm) (by rw [mt_178]; decide) (by rw [rk_178]; decide) (by have g9 := s_178A (xs := xs) (cc := cc) (zz := zz) hm H3 A3 k243 (q := 29) (by decide); rw [strB_same.2.2.2.2.2.2.2.2.2.2.1, hw0] at g9; exact g9) (fun v I4 hv => ?_)
      obtain ⟨rfl, g224, f4⟩ := hv
      have H4 := H3.fT f4.T
      have k244 : I4 s 24 = 0 := (f4 s 24 (fun _ => by decide)).trans k243
      have k234 : I4 s 23 = I s 23 := (f4 s 23 (fun _ => by decide)).trans k233
      have Y4 := Y3.fT f4.T
      have F4 := F3.tr f4.T
      have A4 := mAt.at g224 A.le A.id
      refine w_zeq 49 l_196_38 (by decide) (fun hx => absurd hx (by decide)) (fun _ => ?_)
      refine w_aln l_196_41 rfl ?_
      refine w_gi (((lPorts P.1) : Nat) : Int) l_196_42 (oModel_sh hm) Y4.1.1 ?_
      refine w_ic l_196_45 (by decide) ?_
      refine w_ceq 62 l_196_46 (by decide) (fun _ => ?_) (fun hx => absurd hx (by omega))
      refine w_aln l_196_62 rfl ?_
      refine w_ic l_196_63 (by decide) ?_
      refine w_aln l_196_64 rfl ?_
      refine w_gi ((p : Nat) : Int) l_196_65 (oModel_sh hm) g224 ?_
      refine q_iv [vi 4, vi ((p : Nat) : Int)] [] l_196_68 rfl rfl (Nat.le_of_ble_eq_true rfl) (by rw [mx_176]; exact Nat.le_of_ble_eq_true rfl) (by rw [mt_176]; exact oModel_sh hm) (by rw [mt_176]; decide) (by rw [rk_176]; decide) (s_176 hm k244 (k := 4)) ?_
      refine w_go 227 l_196_71 (by decide) ?_
      refine w_vr l_196_227 ?_
      have hR : lineR t n P p = .inl (4, p) := by
        unfold lineR
        rw [if_pos hw0]
        exact if_pos h4
      exact ⟨_, _, rfl, rfl, rfl, (F4.P.up (Or.inl ⟨rfl, by decide, by decide⟩)).up (Or.inl ⟨rfl, by decide, by decide⟩), by rw [hR]; exact ⟨(show (1 : Nat) ≤ 4 by decide), (up_nj (by decide)).trans up_eq, up_eq⟩⟩
    · cases hq : portM t n P (nxt t n p) with
      | inl e9 =>
        refine CL_start (r := 9) (ls := [vr s, vs 2]) (rk_196 _) rfl ?_
        refine w_aln l_196_0 rfl ?_
        refine p_iv [] [] l_196_1 rfl rfl (Nat.le_of_ble_eq_true rfl) (by rw [mx_174]; exact Nat.le_of_ble_eq_true rfl) (by rw [mt_174]; exact oModel_sh hm) (by rw [mt_174]; decide) (by rw [rk_174]; decide) (s_174A hm H A) (fun v I1 hv => ?_)
        obtain ⟨rfl, g221, f1⟩ := hv
        have H1 := H.fT f1.T
        have k241 : I1 s 24 = 0 := (f1 s 24 (fun _ => by decide)).trans h24
        have k231 : I1 s 23 = I s 23 := (f1 s 23 (fun _ => by decide))
        have Y1 := Y.fT f1.T
        have F1 := f1.T
        have A1 := mAt.at g221 A.le A.id
        refine w_pop l_196_4 rfl ?_
        refine w_aln l_196_5 rfl ?_
        refine w_ldcw l_196_6 (by decide) ?_
        refine p_iv [vs (2 * 27 + 4)] [] l_196_9 rfl rfl (Nat.le_of_ble_eq_true rfl) (by rw [mx_178]; exact Nat.le_of_ble_eq_true rfl) (by rw [mt_178]; exact oModel_sh hm) (by rw [mt_178]; decide) (by rw [rk_178]; decide) (by have g9 := s_178A (xs := xs) (cc := cc) (zz := zz) hm H1 A1 k241 (q := 27) (by decide); rw [strB_same.2.2.2.2.2.2.2.2.2.2.2.2.1, hw2] at g9; exact g9) (fun v I2 hv => ?_)
        obtain ⟨rfl, g222, f2⟩ := hv
        have H2 := H1.fT f2.T
        have k242 : I2 s 24 = 0 := (f2 s 24 (fun _ => by decide)).trans k241
        have k232 : I2 s 23 = I s 23 := (f2 s 23 (fun _ => by decide)).trans k231
        have Y2 := Y1.fT f2.T
        have F2 := F1.tr f2.T
        have A2 := mAt.at g222 A.le A.id
        refine w_zne 25 l_196_12 (by decide) (fun hx => absurd hx (by decide)) (fun _ => ?_)
        refine w_aln l_196_15 rfl ?_
        refine w_ldcw l_196_16 (by decide) ?_
        refine p_iv [vs (2 * 28 + 4)] [] l_196_19 rfl rfl (Nat.le_of_ble_eq_true rfl) (by rw [mx_178]; exact Nat.le_of_ble_eq_true rfl) (by rw [mt_178]; exact oModel_sh hm) (by rw [mt_178]; decide) (by rw [rk_178]; decide) (by have g9 := s_178A (xs := xs) (cc := cc) (zz := zz) hm H2 A2 k242 (q := 28) (by decide); rw [strB_same.2.2.2.2.2.2.2.2.2.2.2.2.2.1, hw3] at g9; exact g9) (fun v I3 hv => ?_)
        obtain ⟨rfl, g223, f3⟩ := hv
        have H3 := H2.fT f3.T
        have k243 : I3 s 24 = 0 := (f3 s 24 (fun _ => by decide)).trans k242
        have k233 : I3 s 23 = I s 23 := (f3 s 23 (fun _ => by decide)).trans k232
        have Y3 := Y2.fT f3.T
        have F3 := F2.tr f3.T
        have A3 := mAt.at g223 A.le A.id
        refine w_zeq 29 l_196_22 (by decide) (fun _ => ?_) (fun hx => absurd hx (by decide))
        refine w_ic l_196_29 (by decide) ?_
        refine w_isn l_196_30 ⟨Nat.le_of_ble_eq_true rfl, rfl⟩ ?_
        refine w_aln l_196_31 rfl ?_
        refine w_ldcw l_196_32 (by decide) ?_
        refine p_iv [vs (2 * 29 + 4)] [] l_196_35 rfl rfl (Nat.le_of_ble_eq_true rfl) (by rw [mx_178]; exact Nat.le_of_ble_eq_true rfl) (by rw [mt_178]; exact oModel_sh hm) (by rw [mt_178]; decide) (by rw [rk_178]; decide) (by have g9 := s_178A (xs := xs) (cc := cc) (zz := zz) hm H3 A3 k243 (q := 29) (by decide); rw [strB_same.2.2.2.2.2.2.2.2.2.2.1, hw0] at g9; exact g9) (fun v I4 hv => ?_)
        obtain ⟨rfl, g224, f4⟩ := hv
        have H4 := H3.fT f4.T
        have k244 : I4 s 24 = 0 := (f4 s 24 (fun _ => by decide)).trans k243
        have k234 : I4 s 23 = I s 23 := (f4 s 23 (fun _ => by decide)).trans k233
        have Y4 := Y3.fT f4.T
        have F4 := F3.tr f4.T
        have A4 := mAt.at g224 A.le A.id
        refine w_zeq 49 l_196_38 (by decide) (fun hx => absurd hx (by decide)) (fun _ => ?_)
        refine w_aln l_196_41 rfl ?_
        refine w_gi (((lPorts P.1) : Nat) : Int) l_196_42 (oModel_sh hm) Y4.1.1 ?_
        refine w_ic l_196_45 (by decide) ?_
        refine w_ceq 62 l_196_46 (by decide) (fun hx => absurd hx (by omega)) (fun _ => ?_)
        refine w_iln l_196_49 rfl ?_
        refine w_zeq 74 l_196_50 (by decide) (fun _ => ?_) (fun hx => absurd hx (by decide))
        refine w_aln l_196_74 rfl ?_
        refine w_ldcw l_196_75 (by decide) ?_
        refine p_iv [vs (2 * 29 + 4)] [] l_196_78 rfl rfl (Nat.le_of_ble_eq_true rfl) (by rw [mx_179]; exact Nat.le_of_ble_eq_true rfl) (by rw [mt_179]; exact oModel_sh hm) (by rw [mt_179]; decide) (by rw [rk_179]; decide) (s_179T hm H4 A4 k244 (q := 29) (by decide) (by rw [strB_same.2.2.2.2.2.2.2.2.2.2.1]; exact hw0)) (fun v I5 hv => ?_)
        obtain ⟨rfl, A5, f5⟩ := hv
        have H5 := H4.fT f5.T
        have k245 : I5 s 24 = 0 := (f5 s 24 (fun _ => by decide)).trans k244
        have k235 : I5 s 23 = I s 23 := (f5 s 23 (fun _ => by decide)).trans k234
        have Y5 := Y4.fT f5.T
        have F5 := F4.tr f5.T
        refine w_zeq 91 l_196_81 (by decide) (fun hx => absurd hx (by decide)) (fun _ => ?_)
        refine w_aln l_196_84 rfl ?_
        refine p_iv [] [] l_196_85 rfl rfl (Nat.le_of_ble_eq_true rfl) (by rw [mx_183]; exact Nat.le_of_ble_eq_true rfl) (by rw [mt_183]; exact oModel_sh hm) (by rw [mt_183]; decide) (by rw [rk_183]; decide) (by have g9 := s_183 (xs := xs) (cc := cc) (zz := zz) hm H5 Y5 h4 A5 k245; rw [hq] at g9; exact g9) (fun v I99 hv => ?_)
        obtain ⟨rfl, fz9, he, e24, e23⟩ := hv
        refine w_go 227 l_196_88 (by decide) ?_
        refine w_vr l_196_227 ?_
        have hR : lineR t n P p = .inl e9 := by
          unfold lineR
          rw [if_pos hw0]
          rw [portL_M h4]
          exact hq
        exact ⟨_, _, rfl, rfl, rfl, F5.P.tr fz9, by rw [hR]; exact ⟨he, e24, e23⟩⟩
      | inr a9 =>
        refine CL_start (r := 9) (ls := [vr s, vs 2]) (rk_196 _) rfl ?_
        refine w_aln l_196_0 rfl ?_
        refine p_iv [] [] l_196_1 rfl rfl (Nat.le_of_ble_eq_true rfl) (by rw [mx_174]; exact Nat.le_of_ble_eq_true rfl) (by rw [mt_174]; exact oModel_sh hm) (by rw [mt_174]; decide) (by rw [rk_174]; decide) (s_174A hm H A) (fun v I1 hv => ?_)
        obtain ⟨rfl, g221, f1⟩ := hv
        have H1 := H.fT f1.T
        have k241 : I1 s 24 = 0 := (f1 s 24 (fun _ => by decide)).trans h24
        have k231 : I1 s 23 = I s 23 := (f1 s 23 (fun _ => by decide))
        have Y1 := Y.fT f1.T
        have F1 := f1.T
        have A1 := mAt.at g221 A.le A.id
        refine w_pop l_196_4 rfl ?_
        refine w_aln l_196_5 rfl ?_
        refine w_ldcw l_196_6 (by decide) ?_
        refine p_iv [vs (2 * 27 + 4)] [] l_196_9 rfl rfl (Nat.le_of_ble_eq_true rfl) (by rw [mx_178]; exact Nat.le_of_ble_eq_true rfl) (by rw [mt_178]; exact oModel_sh hm) (by rw [mt_178]; decide) (by rw [rk_178]; decide) (by have g9 := s_178A (xs := xs) (cc := cc) (zz := zz) hm H1 A1 k241 (q := 27) (by decide); rw [strB_same.2.2.2.2.2.2.2.2.2.2.2.2.1, hw2] at g9; exact g9) (fun v I2 hv => ?_)
        obtain ⟨rfl, g222, f2⟩ := hv
        have H2 := H1.fT f2.T
        have k242 : I2 s 24 = 0 := (f2 s 24 (fun _ => by decide)).trans k241
        have k232 : I2 s 23 = I s 23 := (f2 s 23 (fun _ => by decide)).trans k231
        have Y2 := Y1.fT f2.T
        have F2 := F1.tr f2.T
        have A2 := mAt.at g222 A.le A.id
        refine w_zne 25 l_196_12 (by decide) (fun hx => absurd hx (by decide)) (fun _ => ?_)
        refine w_aln l_196_15 rfl ?_
        refine w_ldcw l_196_16 (by decide) ?_
        refine p_iv [vs (2 * 28 + 4)] [] l_196_19 rfl rfl (Nat.le_of_ble_eq_true rfl) (by rw [mx_178]; exact Nat.le_of_ble_eq_true rfl) (by rw [mt_178]; exact oModel_sh hm) (by rw [mt_178]; decide) (by rw [rk_178]; decide) (by have g9 := s_178A (xs := xs) (cc := cc) (zz := zz) hm H2 A2 k242 (q := 28) (by decide); rw [strB_same.2.2.2.2.2.2.2.2.2.2.2.2.2.1, hw3] at g9; exact g9) (fun v I3 hv => ?_)
        obtain ⟨rfl, g223, f3⟩ := hv
        have H3 := H2.fT f3.T
        have k243 : I3 s 24 = 0 := (f3 s 24 (fun _ => by decide)).trans k242
        have k233 : I3 s 23 = I s 23 := (f3 s 23 (fun _ => by decide)).trans k232
        have Y3 := Y2.fT f3.T
        have F3 := F2.tr f3.T
        have A3 := mAt.at g223 A.le A.id
        refine w_zeq 29 l_196_22 (by decide) (fun _ => ?_) (fun hx => absurd hx (by decide))
        refine w_ic l_196_29 (by decide) ?_
        refine w_isn l_196_30 ⟨Nat.le_of_ble_eq_true rfl, rfl⟩ ?_
        refine w_aln l_196_31 rfl ?_
        refine w_ldcw l_196_32 (by decide) ?_
        refine p_iv [vs (2 * 29 + 4)] [] l_196_35 rfl rfl (Nat.le_of_ble_eq_true rfl) (by rw [mx_178]; exact Nat.le_of_ble_eq_true rfl) (by rw [mt_178]; exact oModel_sh hm) (by rw [mt_178]; decide) (by rw [rk_178]; decide) (by have g9 := s_178A (xs := xs) (cc := cc) (zz := zz) hm H3 A3 k243 (q := 29) (by decide); rw [strB_same.2.2.2.2.2.2.2.2.2.2.1, hw0] at g9; exact g9) (fun v I4 hv => ?_)
        obtain ⟨rfl, g224, f4⟩ := hv
        have H4 := H3.fT f4.T
        have k244 : I4 s 24 = 0 := (f4 s 24 (fun _ => by decide)).trans k243
        have k234 : I4 s 23 = I s 23 := (f4 s 23 (fun _ => by decide)).trans k233
        have Y4 := Y3.fT f4.T
        have F4 := F3.tr f4.T
        have A4 := mAt.at g224 A.le A.id
        refine w_zeq 49 l_196_38 (by decide) (fun hx => absurd hx (by decide)) (fun _ => ?_)
        refine w_aln l_196_41 rfl ?_
        refine w_gi (((lPorts P.1) : Nat) : Int) l_196_42 (oModel_sh hm) Y4.1.1 ?_
        refine w_ic l_196_45 (by decide) ?_
        refine w_ceq 62 l_196_46 (by decide) (fun hx => absurd hx (by omega)) (fun _ => ?_)
        refine w_iln l_196_49 rfl ?_
        refine w_zeq 74 l_196_50 (by decide) (fun _ => ?_) (fun hx => absurd hx (by decide))
        refine w_aln l_196_74 rfl ?_
        refine w_ldcw l_196_75 (by decide) ?_
        refine p_iv [vs (2 * 29 + 4)] [] l_196_78 rfl rfl (Nat.le_of_ble_eq_true rfl) (by rw [mx_179]; exact Nat.le_of_ble_eq_true rfl) (by rw [mt_179]; exact oModel_sh hm) (by rw [mt_179]; decide) (by rw [rk_179]; decide) (s_179T hm H4 A4 k244 (q := 29) (by decide) (by rw [strB_same.2.2.2.2.2.2.2.2.2.2.1]; exact hw0)) (fun v I5 hv => ?_)
        obtain ⟨rfl, A5, f5⟩ := hv
        have H5 := H4.fT f5.T
        have k245 : I5 s 24 = 0 := (f5 s 24 (fun _ => by decide)).trans k244
        have k235 : I5 s 23 = I s 23 := (f5 s 23 (fun _ => by decide)).trans k234
        have Y5 := Y4.fT f5.T
        have F5 := F4.tr f5.T
        refine w_zeq 91 l_196_81 (by decide) (fun hx => absurd hx (by decide)) (fun _ => ?_)
        refine w_aln l_196_84 rfl ?_
        refine p_iv [] [] l_196_85 rfl rfl (Nat.le_of_ble_eq_true rfl) (by rw [mx_183]; exact Nat.le_of_ble_eq_true rfl) (by rw [mt_183]; exact oModel_sh hm) (by rw [mt_183]; decide) (by rw [rk_183]; decide) (by have g9 := s_183 (xs := xs) (cc := cc) (zz := zz) hm H5 Y5 h4 A5 k245; rw [hq] at g9; exact g9) (fun v I99 hv => ?_)
        obtain ⟨rfl, fz9, ⟨k24z, k23z⟩, A99, Y99⟩ := hv
        refine w_go 227 l_196_88 (by decide) ?_
        refine w_vr l_196_227 ?_
        have hR : lineR t n P p = .inr a9 := by
          unfold lineR
          rw [if_pos hw0]
          rw [portL_M h4]
          exact hq
        exact ⟨_, _, rfl, rfl, rfl, F5.P.tr fz9, by rw [hR]; exact ⟨⟨k24z, k23z.trans k235⟩, A99, tot, Y99, by have := portL_ge (t := t) (n := n) (P := P) (p := p) (a := a9) (by rw [portL_M h4]; exact hq); omega⟩⟩
  | false =>
  cases hw1 : isWL t n (strB 1) p with
  | true =>
    have hw0 := strB_dn (b := 0) hw1 (by decide) (by decide) (by decide)
    have hw2 := strB_dn (b := 2) hw1 (by decide) (by decide) (by decide)
    have hw3 := strB_dn (b := 3) hw1 (by decide) (by decide) (by decide)
    have hw14 := strB_dn (b := 14) hw1 (by decide) (by decide) (by decide)
    have hw15 := strB_dn (b := 15) hw1 (by decide) (by decide) (by decide)
    have hw16 := strB_dn (b := 16) hw1 (by decide) (by decide) (by decide)
    cases hq : polM t n P (nxt t n p) with
    | inl e9 =>
      refine CL_start (r := 9) (ls := [vr s, vs 2]) (rk_196 _) rfl ?_
      refine w_aln l_196_0 rfl ?_
      refine p_iv [] [] l_196_1 rfl rfl (Nat.le_of_ble_eq_true rfl) (by rw [mx_174]; exact Nat.le_of_ble_eq_true rfl) (by rw [mt_174]; exact oModel_sh hm) (by rw [mt_174]; decide) (by rw [rk_174]; decide) (s_174A hm H A) (fun v I1 hv => ?_)
      obtain ⟨rfl, g221, f1⟩ := hv
      have H1 := H.fT f1.T
      have k241 : I1 s 24 = 0 := (f1 s 24 (fun _ => by decide)).trans h24
      have k231 : I1 s 23 = I s 23 := (f1 s 23 (fun _ => by decide))
      have Y1 := Y.fT f1.T
      have F1 := f1.T
      have A1 := mAt.at g221 A.le A.id
      refine w_pop l_196_4 rfl ?_
      refine w_aln l_196_5 rfl ?_
      refine w_ldcw l_196_6 (by decide) ?_
      refine p_iv [vs (2 * 27 + 4)] [] l_196_9 rfl rfl (Nat.le_of_ble_eq_true rfl) (by rw [mx_178]; exact Nat.le_of_ble_eq_true rfl) (by rw [mt_178]; exact oModel_sh hm) (by rw [mt_178]; decide) (by rw [rk_178]; decide) (by have g9 := s_178A (xs := xs) (cc := cc) (zz := zz) hm H1 A1 k241 (q := 27) (by decide); rw [strB_same.2.2.2.2.2.2.2.2.2.2.2.2.1, hw2] at g9; exact g9) (fun v I2 hv => ?_)
      obtain ⟨rfl, g222, f2⟩ := hv
      have H2 := H1.fT f2.T
      have k242 : I2 s 24 = 0 := (f2 s 24 (fun _ => by decide)).trans k241
      have k232 : I2 s 23 = I s 23 := (f2 s 23 (fun _ => by decide)).trans k231
      have Y2 := Y1.fT f2.T
      have F2 := F1.tr f2.T
      have A2 := mAt.at g222 A.le A.id
      refine w_zne 25 l_196_12 (by decide) (fun hx => absurd hx (by decide)) (fun _ => ?_)
      refine w_aln l_196_15 rfl ?_
      refine w_ldcw l_196_16 (by decide) ?_
      refine p_iv [vs (2 * 28 + 4)] [] l_196_19 rfl rfl (Nat.le_of_ble_eq_true rfl) (by rw [mx_178]; exact Nat.le_of_ble_eq_true rfl) (by rw [mt_178]; exact oModel_sh hm) (by rw [mt_178]; decide) (by rw [rk_178]; decide) (by have g9 := s_178A (xs := xs) (cc := cc) (zz := zz) hm H2 A2 k242 (q := 28) (by decide); rw [strB_same.2.2.2.2.2.2.2.2.2.2.2.2.2.1, hw3] at g9; exact g9) (fun v I3 hv => ?_)
      obtain ⟨rfl, g223, f3⟩ := hv
      have H3 := H2.fT f3.T
      have k243 : I3 s 24 = 0 := (f3 s 24 (fun _ => by decide)).trans k242
      have k233 : I3 s 23 = I s 23 := (f3 s 23 (fun _ => by decide)).trans k232
      have Y3 := Y2.fT f3.T
      have F3 := F2.tr f3.T
      have A3 := mAt.at g223 A.le A.id
      refine w_zeq 29 l_196_22 (by decide) (fun _ => ?_) (fun hx => absurd hx (by decide))
      refine w_ic l_196_29 (by decide) ?_
      refine w_isn l_196_30 ⟨Nat.le_of_ble_eq_true rfl, rfl⟩ ?_
      refine w_aln l_196_31 rfl ?_
      refine w_ldcw l_196_32 (by decide) ?_
      refine p_iv [vs (2 * 29 + 4)] [] l_196_35 rfl rfl (Nat.le_of_ble_eq_true rfl) (by rw [mx_178]; exact Nat.le_of_ble_eq_true rfl) (by rw [mt_178]; exact oModel_sh hm) (by rw [mt_178]; decide) (by rw [rk_178]; decide) (by have g9 := s_178A (xs := xs) (cc := cc) (zz := zz) hm H3 A3 k243 (q := 29) (by decide); rw [strB_same.2.2.2.2.2.2.2.2.2.2.1, hw0] at g9; exact g9) (fun v I4 hv => ?_)
      obtain ⟨rfl, g224, f4⟩ := hv
      have H4 := H3.fT f4.T
      have k244 : I4 s 24 = 0 := (f4 s 24 (fun _ => by decide)).trans k243
      have k234 : I4 s 23 = I s 23 := (f4 s 23 (fun _ => by decide)).trans k233
      have Y4 := Y3.fT f4.T
      have F4 := F3.tr f4.T
      have A4 := mAt.at g224 A.le A.id
      refine w_zeq 49 l_196_38 (by decide) (fun _ => ?_) (fun hx => absurd hx (by decide))
      refine w_iln l_196_49 rfl ?_
      refine w_zeq 74 l_196_50 (by decide) (fun _ => ?_) (fun hx => absurd hx (by decide))
      refine w_aln l_196_74 rfl ?_
      refine w_ldcw l_196_75 (by decide) ?_
      refine p_iv [vs (2 * 29 + 4)] [] l_196_78 rfl rfl (Nat.le_of_ble_eq_true rfl) (by rw [mx_179]; exact Nat.le_of_ble_eq_true rfl) (by rw [mt_179]; exact oModel_sh hm) (by rw [mt_179]; decide) (by rw [rk_179]; decide) (s_179F hm H4 A4 k244 (q := 29) (by decide) (by rw [strB_same.2.2.2.2.2.2.2.2.2.2.1]; exact hw0)) (fun v I5 hv => ?_)
      obtain ⟨rfl, g225, f5⟩ := hv
      have H5 := H4.fT f5.T
      have k245 : I5 s 24 = 0 := (f5 s 24 (fun _ => by decide)).trans k244
      have k235 : I5 s 23 = I s 23 := (f5 s 23 (fun _ => by decide)).trans k234
      have Y5 := Y4.fT f5.T
      have F5 := F4.tr f5.T
      have A5 := mAt.at g225 A.le A.id
      refine w_zeq 91 l_196_81 (by decide) (fun _ => ?_) (fun hx => absurd hx (by decide))
      refine w_aln l_196_91 rfl ?_
      refine w_ldcw l_196_92 (by decide) ?_
      refine p_iv [vs (2 * 30 + 4)] [] l_196_95 rfl rfl (Nat.le_of_ble_eq_true rfl) (by rw [mx_179]; exact Nat.le_of_ble_eq_true rfl) (by rw [mt_179]; exact oModel_sh hm) (by rw [mt_179]; decide) (by rw [rk_179]; decide) (s_179T hm H5 A5 k245 (q := 30) (by decide) (by rw [strB_same.2.2.2.2.2.2.2.2.2.2.2.1]; exact hw1)) (fun v I6 hv => ?_)
      obtain ⟨rfl, A6, f6⟩ := hv
      have H6 := H5.fT f6.T
      have k246 : I6 s 24 = 0 := (f6 s 24 (fun _ => by decide)).trans k245
      have k236 : I6 s 23 = I s 23 := (f6 s 23 (fun _ => by decide)).trans k235
      have Y6 := Y5.fT f6.T
      have F6 := F5.tr f6.T
      refine w_zeq 108 l_196_98 (by decide) (fun hx => absurd hx (by decide)) (fun _ => ?_)
      refine w_aln l_196_101 rfl ?_
      refine p_iv [] [] l_196_102 rfl rfl (Nat.le_of_ble_eq_true rfl) (by rw [mx_185]; exact Nat.le_of_ble_eq_true rfl) (by rw [mt_185]; exact oModel_sh hm) (by rw [mt_185]; decide) (by rw [rk_185]; decide) (by have g9 := s_185 (xs := xs) (cc := cc) (zz := zz) hm H6 Y6 A6 k246; rw [hq] at g9; exact g9) (fun v I99 hv => ?_)
      obtain ⟨rfl, fz9, he, e24, e23⟩ := hv
      refine w_go 227 l_196_105 (by decide) ?_
      refine w_vr l_196_227 ?_
      have hR : lineR t n P p = .inl e9 := by
        unfold lineR
        rw [if_neg (by rw [hw0]; decide), if_pos hw1]
        exact hq
      exact ⟨_, _, rfl, rfl, rfl, F6.P.tr fz9, by rw [hR]; exact ⟨he, e24, e23⟩⟩
    | inr a9 =>
      refine CL_start (r := 9) (ls := [vr s, vs 2]) (rk_196 _) rfl ?_
      refine w_aln l_196_0 rfl ?_
      refine p_iv [] [] l_196_1 rfl rfl (Nat.le_of_ble_eq_true rfl) (by rw [mx_174]; exact Nat.le_of_ble_eq_true rfl) (by rw [mt_174]; exact oModel_sh hm) (by rw [mt_174]; decide) (by rw [rk_174]; decide) (s_174A hm H A) (fun v I1 hv => ?_)
      obtain ⟨rfl, g221, f1⟩ := hv
      have H1 := H.fT f1.T
      have k241 : I1 s 24 = 0 := (f1 s 24 (fun _ => by decide)).trans h24
      have k231 : I1 s 23 = I s 23 := (f1 s 23 (fun _ => by decide))
      have Y1 := Y.fT f1.T
      have F1 := f1.T
      have A1 := mAt.at g221 A.le A.id
      refine w_pop l_196_4 rfl ?_
      refine w_aln l_196_5 rfl ?_
      refine w_ldcw l_196_6 (by decide) ?_
      refine p_iv [vs (2 * 27 + 4)] [] l_196_9 rfl rfl (Nat.le_of_ble_eq_true rfl) (by rw [mx_178]; exact Nat.le_of_ble_eq_true rfl) (by rw [mt_178]; exact oModel_sh hm) (by rw [mt_178]; decide) (by rw [rk_178]; decide) (by have g9 := s_178A (xs := xs) (cc := cc) (zz := zz) hm H1 A1 k241 (q := 27) (by decide); rw [strB_same.2.2.2.2.2.2.2.2.2.2.2.2.1, hw2] at g9; exact g9) (fun v I2 hv => ?_)
      obtain ⟨rfl, g222, f2⟩ := hv
      have H2 := H1.fT f2.T
      have k242 : I2 s 24 = 0 := (f2 s 24 (fun _ => by decide)).trans k241
      have k232 : I2 s 23 = I s 23 := (f2 s 23 (fun _ => by decide)).trans k231
      have Y2 := Y1.fT f2.T
      have F2 := F1.tr f2.T
      have A2 := mAt.at g222 A.le A.id
      refine w_zne 25 l_196_12 (by decide) (fun hx => absurd hx (by decide)) (fun _ => ?_)
      refine w_aln l_196_15 rfl ?_
      refine w_ldcw l_196_16 (by decide) ?_
      refine p_iv [vs (2 * 28 + 4)] [] l_196_19 rfl rfl (Nat.le_of_ble_eq_true rfl) (by rw [mx_178]; exact Nat.le_of_ble_eq_true rfl) (by rw [mt_178]; exact oModel_sh hm) (by rw [mt_178]; decide) (by rw [rk_178]; decide) (by have g9 := s_178A (xs := xs) (cc := cc) (zz := zz) hm H2 A2 k242 (q := 28) (by decide); rw [strB_same.2.2.2.2.2.2.2.2.2.2.2.2.2.1, hw3] at g9; exact g9) (fun v I3 hv => ?_)
      obtain ⟨rfl, g223, f3⟩ := hv
      have H3 := H2.fT f3.T
      have k243 : I3 s 24 = 0 := (f3 s 24 (fun _ => by decide)).trans k242
      have k233 : I3 s 23 = I s 23 := (f3 s 23 (fun _ => by decide)).trans k232
      have Y3 := Y2.fT f3.T
      have F3 := F2.tr f3.T
      have A3 := mAt.at g223 A.le A.id
      refine w_zeq 29 l_196_22 (by decide) (fun _ => ?_) (fun hx => absurd hx (by decide))
      refine w_ic l_196_29 (by decide) ?_
      refine w_isn l_196_30 ⟨Nat.le_of_ble_eq_true rfl, rfl⟩ ?_
      refine w_aln l_196_31 rfl ?_
      refine w_ldcw l_196_32 (by decide) ?_
      refine p_iv [vs (2 * 29 + 4)] [] l_196_35 rfl rfl (Nat.le_of_ble_eq_true rfl) (by rw [mx_178]; exact Nat.le_of_ble_eq_true rfl) (by rw [mt_178]; exact oModel_sh hm) (by rw [mt_178]; decide) (by rw [rk_178]; decide) (by have g9 := s_178A (xs := xs) (cc := cc) (zz := zz) hm H3 A3 k243 (q := 29) (by decide); rw [strB_same.2.2.2.2.2.2.2.2.2.2.1, hw0] at g9; exact g9) (fun v I4 hv => ?_)
      obtain ⟨rfl, g224, f4⟩ := hv
      have H4 := H3.fT f4.T
      have k244 : I4 s 24 = 0 := (f4 s 24 (fun _ => by decide)).trans k243
      have k234 : I4 s 23 = I s 23 := (f4 s 23 (fun _ => by decide)).trans k233
      have Y4 := Y3.fT f4.T
      have F4 := F3.tr f4.T
      have A4 := mAt.at g224 A.le A.id
      refine w_zeq 49 l_196_38 (by decide) (fun _ => ?_) (fun hx => absurd hx (by decide))
      refine w_iln l_196_49 rfl ?_
      refine w_zeq 74 l_196_50 (by decide) (fun _ => ?_) (fun hx => absurd hx (by decide))
      refine w_aln l_196_74 rfl ?_
      refine w_ldcw l_196_75 (by decide) ?_
      refine p_iv [vs (2 * 29 + 4)] [] l_196_78 rfl rfl (Nat.le_of_ble_eq_true rfl) (by rw [mx_179]; exact Nat.le_of_ble_eq_true rfl) (by rw [mt_179]; exact oModel_sh hm) (by rw [mt_179]; decide) (by rw [rk_179]; decide) (s_179F hm H4 A4 k244 (q := 29) (by decide) (by rw [strB_same.2.2.2.2.2.2.2.2.2.2.1]; exact hw0)) (fun v I5 hv => ?_)
      obtain ⟨rfl, g225, f5⟩ := hv
      have H5 := H4.fT f5.T
      have k245 : I5 s 24 = 0 := (f5 s 24 (fun _ => by decide)).trans k244
      have k235 : I5 s 23 = I s 23 := (f5 s 23 (fun _ => by decide)).trans k234
      have Y5 := Y4.fT f5.T
      have F5 := F4.tr f5.T
      have A5 := mAt.at g225 A.le A.id
      refine w_zeq 91 l_196_81 (by decide) (fun _ => ?_) (fun hx => absurd hx (by decide))
      refine w_aln l_196_91 rfl ?_
      refine w_ldcw l_196_92 (by decide) ?_
      refine p_iv [vs (2 * 30 + 4)] [] l_196_95 rfl rfl (Nat.le_of_ble_eq_true rfl) (by rw [mx_179]; exact Nat.le_of_ble_eq_true rfl) (by rw [mt_179]; exact oModel_sh hm) (by rw [mt_179]; decide) (by rw [rk_179]; decide) (s_179T hm H5 A5 k245 (q := 30) (by decide) (by rw [strB_same.2.2.2.2.2.2.2.2.2.2.2.1]; exact hw1)) (fun v I6 hv => ?_)
      obtain ⟨rfl, A6, f6⟩ := hv
      have H6 := H5.fT f6.T
      have k246 : I6 s 24 = 0 := (f6 s 24 (fun _ => by decide)).trans k245
      have k236 : I6 s 23 = I s 23 := (f6 s 23 (fun _ => by decide)).trans k235
      have Y6 := Y5.fT f6.T
      have F6 := F5.tr f6.T
      refine w_zeq 108 l_196_98 (by decide) (fun hx => absurd hx (by decide)) (fun _ => ?_)
      refine w_aln l_196_101 rfl ?_
      refine p_iv [] [] l_196_102 rfl rfl (Nat.le_of_ble_eq_true rfl) (by rw [mx_185]; exact Nat.le_of_ble_eq_true rfl) (by rw [mt_185]; exact oModel_sh hm) (by rw [mt_185]; decide) (by rw [rk_185]; decide) (by have g9 := s_185 (xs := xs) (cc := cc) (zz := zz) hm H6 Y6 A6 k246; rw [hq] at g9; exact g9) (fun v I99 hv => ?_)
      obtain ⟨rfl, fz9, ⟨k24z, k23z⟩, A99, Y99⟩ := hv
      refine w_go 227 l_196_105 (by decide) ?_
      refine w_vr l_196_227 ?_
      have hR : lineR t n P p = .inr a9 := by
        unfold lineR
        rw [if_neg (by rw [hw0]; decide), if_pos hw1]
        exact hq
      exact ⟨_, _, rfl, rfl, rfl, F6.P.tr fz9, by rw [hR]; exact ⟨⟨k24z, k23z.trans k236⟩, A99, tot, Y99, by have := polL_ge (t := t) (n := n) (P := P) (p := p) (a := a9) hq; omega⟩⟩
  | false =>

  cases hw2 : isWL t n (strB 2) p with
  | true =>
    have hw0 := strB_dn (b := 0) hw2 (by decide) (by decide) (by decide)
    have hw1 := strB_dn (b := 1) hw2 (by decide) (by decide) (by decide)
    have hw3 := strB_dn (b := 3) hw2 (by decide) (by decide) (by decide)
    have hw14 := strB_dn (b := 14) hw2 (by decide) (by decide) (by decide)
    have hw15 := strB_dn (b := 15) hw2 (by decide) (by decide) (by decide)
    have hw16 := strB_dn (b := 16) hw2 (by decide) (by decide) (by decide)
    have hnx := isWL_nx (by decide) hw2
    by_cases h8 : 8 ≤ lRules P.1
    · skip
      refine CL_start (r := 9) (ls := [vr s, vs 2]) (rk_196 _) rfl ?_
      refine w_aln l_196_0 rfl ?_
      refine p_iv [] [] l_196_1 rfl rfl (Nat.le_of_ble_eq_true rfl) (by rw [mx_174]; exact Nat.le_of_ble_eq_true rfl) (by rw [mt_174]; exact oModel_sh hm) (by rw [mt_174]; decide) (by rw [rk_174]; decide) (s_174A hm H A) (fun v I1 hv => ?_)
      obtain ⟨rfl, g221, f1⟩ := hv
      have H1 := H.fT f1.T
      have k241 : I1 s 24 = 0 := (f1 s 24 (fun _ => by decide)).trans h24
      have k231 : I1 s 23 = I s 23 := (f1 s 23 (fun _ => by decide))
      have Y1 := Y.fT f1.T
      have F1 := f1.T
      have A1 := mAt.at g221 A.le A.id
      refine w_pop l_196_4 rfl ?_
      refine w_aln l_196_5 rfl ?_
      refine w_ldcw l_196_6 (by decide) ?_
      refine p_iv [vs (2 * 27 + 4)] [] l_196_9 rfl rfl (Nat.le_of_ble_eq_true rfl) (by rw [mx_178]; exact Nat.le_of_ble_eq_true rfl) (by rw [mt_178]; exact oModel_sh hm) (by rw [mt_178]; decide) (by rw [rk_178]; decide) (by have g9 := s_178A (xs := xs) (cc := cc) (zz := zz) hm H1 A1 k241 (q := 27) (by decide); rw [strB_same.2.2.2.2.2.2.2.2.2.2.2.2.1, hw2] at g9; exact g9) (fun v I2 hv => ?_)
      obtain ⟨rfl, g222, f2⟩ := hv
      have H2 := H1.fT f2.T
      have k242 : I2 s 24 = 0 := (f2 s 24 (fun _ => by decide)).trans k241
      have k232 : I2 s 23 = I s 23 := (f2 s 23 (fun _ => by decide)).trans k231
      have Y2 := Y1.fT f2.T
      have F2 := F1.tr f2.T
      have A2 := mAt.at g222 A.le A.id
      refine w_zne 25 l_196_12 (by decide) (fun _ => ?_) (fun hx => absurd hx (by decide))
      refine w_ic l_196_25 (by decide) ?_
      refine w_go 30 l_196_26 (by decide) ?_
      refine w_isn l_196_30 ⟨Nat.le_of_ble_eq_true rfl, rfl⟩ ?_
      refine w_aln l_196_31 rfl ?_
      refine w_ldcw l_196_32 (by decide) ?_
      refine p_iv [vs (2 * 29 + 4)] [] l_196_35 rfl rfl (Nat.le_of_ble_eq_true rfl) (by rw [mx_178]; exact Nat.le_of_ble_eq_true rfl) (by rw [mt_178]; exact oModel_sh hm) (by rw [mt_178]; decide) (by rw [rk_178]; decide) (by have g9 := s_178A (xs := xs) (cc := cc) (zz := zz) hm H2 A2 k242 (q := 29) (by decide); rw [strB_same.2.2.2.2.2.2.2.2.2.2.1, hw0] at g9; exact g9) (fun v I3 hv => ?_)
      obtain ⟨rfl, g223, f3⟩ := hv
      have H3 := H2.fT f3.T
      have k243 : I3 s 24 = 0 := (f3 s 24 (fun _ => by decide)).trans k242
      have k233 : I3 s 23 = I s 23 := (f3 s 23 (fun _ => by decide)).trans k232
      have Y3 := Y2.fT f3.T
      have F3 := F2.tr f3.T
      have A3 := mAt.at g223 A.le A.id
      refine w_zeq 49 l_196_38 (by decide) (fun _ => ?_) (fun hx => absurd hx (by decide))
      refine w_iln l_196_49 rfl ?_
      refine w_zeq 74 l_196_50 (by decide) (fun hx => absurd hx (by decide)) (fun _ => ?_)
      refine w_aln l_196_53 rfl ?_
      refine w_gi (((lRules P.1) : Nat) : Int) l_196_54 (oModel_sh hm) Y3.1.2.1 ?_
      refine w_bp l_196_57 (by decide) ?_
      refine w_cne 74 l_196_59 (by decide) (fun hx => absurd hx (by omega)) (fun _ => ?_)
      refine w_aln l_196_62 rfl ?_
      refine w_ic l_196_63 (by decide) ?_
      refine w_aln l_196_64 rfl ?_
      refine w_gi ((p : Nat) : Int) l_196_65 (oModel_sh hm) g223 ?_
      refine q_iv [vi 4, vi ((p : Nat) : Int)] [] l_196_68 rfl rfl (Nat.le_of_ble_eq_true rfl) (by rw [mx_176]; exact Nat.le_of_ble_eq_true rfl) (by rw [mt_176]; exact oModel_sh hm) (by rw [mt_176]; decide) (by rw [rk_176]; decide) (s_176 hm k243 (k := 4)) ?_
      refine w_go 227 l_196_71 (by decide) ?_
      refine w_vr l_196_227 ?_
      have hR : lineR t n P p = .inl (4, p) := by
        unfold lineR
        rw [if_neg (by rw [hw0]; decide), if_neg (by rw [hw1]; decide), if_pos (by rw [hw2, hw3]; rfl), hw3]
        exact if_pos h8
      exact ⟨_, _, rfl, rfl, rfl, (F3.P.up (Or.inl ⟨rfl, by decide, by decide⟩)).up (Or.inl ⟨rfl, by decide, by decide⟩), by rw [hR]; exact ⟨(show (1 : Nat) ≤ 4 by decide), (up_nj (by decide)).trans up_eq, up_eq⟩⟩
    · cases hq : rulM t n P false (nxt t n p) with
      | inl e9 =>
        refine CL_start (r := 9) (ls := [vr s, vs 2]) (rk_196 _) rfl ?_
        refine w_aln l_196_0 rfl ?_
        refine p_iv [] [] l_196_1 rfl rfl (Nat.le_of_ble_eq_true rfl) (by rw [mx_174]; exact Nat.le_of_ble_eq_true rfl) (by rw [mt_174]; exact oModel_sh hm) (by rw [mt_174]; decide) (by rw [rk_174]; decide) (s_174A hm H A) (fun v I1 hv => ?_)
        obtain ⟨rfl, g221, f1⟩ := hv
        have H1 := H.fT f1.T
        have k241 : I1 s 24 = 0 := (f1 s 24 (fun _ => by decide)).trans h24
        have k231 : I1 s 23 = I s 23 := (f1 s 23 (fun _ => by decide))
        have Y1 := Y.fT f1.T
        have F1 := f1.T
        have A1 := mAt.at g221 A.le A.id
        refine w_pop l_196_4 rfl ?_
        refine w_aln l_196_5 rfl ?_
        refine w_ldcw l_196_6 (by decide) ?_
        refine p_iv [vs (2 * 27 + 4)] [] l_196_9 rfl rfl (Nat.le_of_ble_eq_true rfl) (by rw [mx_178]; exact Nat.le_of_ble_eq_true rfl) (by rw [mt_178]; exact oModel_sh hm) (by rw [mt_178]; decide) (by rw [rk_178]; decide) (by have g9 := s_178A (xs := xs) (cc := cc) (zz := zz) hm H1 A1 k241 (q := 27) (by decide); rw [strB_same.2.2.2.2.2.2.2.2.2.2.2.2.1, hw2] at g9; exact g9) (fun v I2 hv => ?_)
        obtain ⟨rfl, g222, f2⟩ := hv
        have H2 := H1.fT f2.T
        have k242 : I2 s 24 = 0 := (f2 s 24 (fun _ => by decide)).trans k241
        have k232 : I2 s 23 = I s 23 := (f2 s 23 (fun _ => by decide)).trans k231
        have Y2 := Y1.fT f2.T
        have F2 := F1.tr f2.T
        have A2 := mAt.at g222 A.le A.id
        refine w_zne 25 l_196_12 (by decide) (fun _ => ?_) (fun hx => absurd hx (by decide))
        refine w_ic l_196_25 (by decide) ?_
        refine w_go 30 l_196_26 (by decide) ?_
        refine w_isn l_196_30 ⟨Nat.le_of_ble_eq_true rfl, rfl⟩ ?_
        refine w_aln l_196_31 rfl ?_
        refine w_ldcw l_196_32 (by decide) ?_
        refine p_iv [vs (2 * 29 + 4)] [] l_196_35 rfl rfl (Nat.le_of_ble_eq_true rfl) (by rw [mx_178]; exact Nat.le_of_ble_eq_true rfl) (by rw [mt_178]; exact oModel_sh hm) (by rw [mt_178]; decide) (by rw [rk_178]; decide) (by have g9 := s_178A (xs := xs) (cc := cc) (zz := zz) hm H2 A2 k242 (q := 29) (by decide); rw [strB_same.2.2.2.2.2.2.2.2.2.2.1, hw0] at g9; exact g9) (fun v I3 hv => ?_)
        obtain ⟨rfl, g223, f3⟩ := hv
        have H3 := H2.fT f3.T
        have k243 : I3 s 24 = 0 := (f3 s 24 (fun _ => by decide)).trans k242
        have k233 : I3 s 23 = I s 23 := (f3 s 23 (fun _ => by decide)).trans k232
        have Y3 := Y2.fT f3.T
        have F3 := F2.tr f3.T
        have A3 := mAt.at g223 A.le A.id
        refine w_zeq 49 l_196_38 (by decide) (fun _ => ?_) (fun hx => absurd hx (by decide))
        refine w_iln l_196_49 rfl ?_
        refine w_zeq 74 l_196_50 (by decide) (fun hx => absurd hx (by decide)) (fun _ => ?_)
        refine w_aln l_196_53 rfl ?_
        refine w_gi (((lRules P.1) : Nat) : Int) l_196_54 (oModel_sh hm) Y3.1.2.1 ?_
        refine w_bp l_196_57 (by decide) ?_
        refine w_cne 74 l_196_59 (by decide) (fun _ => ?_) (fun hx => absurd hx (by omega))
        refine w_aln l_196_74 rfl ?_
        refine w_ldcw l_196_75 (by decide) ?_
        refine p_iv [vs (2 * 29 + 4)] [] l_196_78 rfl rfl (Nat.le_of_ble_eq_true rfl) (by rw [mx_179]; exact Nat.le_of_ble_eq_true rfl) (by rw [mt_179]; exact oModel_sh hm) (by rw [mt_179]; decide) (by rw [rk_179]; decide) (s_179F hm H3 A3 k243 (q := 29) (by decide) (by rw [strB_same.2.2.2.2.2.2.2.2.2.2.1]; exact hw0)) (fun v I4 hv => ?_)
        obtain ⟨rfl, g224, f4⟩ := hv
        have H4 := H3.fT f4.T
        have k244 : I4 s 24 = 0 := (f4 s 24 (fun _ => by decide)).trans k243
        have k234 : I4 s 23 = I s 23 := (f4 s 23 (fun _ => by decide)).trans k233
        have Y4 := Y3.fT f4.T
        have F4 := F3.tr f4.T
        have A4 := mAt.at g224 A.le A.id
        refine w_zeq 91 l_196_81 (by decide) (fun _ => ?_) (fun hx => absurd hx (by decide))
        refine w_aln l_196_91 rfl ?_
        refine w_ldcw l_196_92 (by decide) ?_
        refine p_iv [vs (2 * 30 + 4)] [] l_196_95 rfl rfl (Nat.le_of_ble_eq_true rfl) (by rw [mx_179]; exact Nat.le_of_ble_eq_true rfl) (by rw [mt_179]; exact oModel_sh hm) (by rw [mt_179]; decide) (by rw [rk_179]; decide) (s_179F hm H4 A4 k244 (q := 30) (by decide) (by rw [strB_same.2.2.2.2.2.2.2.2.2.2.2.1]; exact hw1)) (fun v I5 hv => ?_)
        obtain ⟨rfl, g225, f5⟩ := hv
        have H5 := H4.fT f5.T
        have k245 : I5 s 24 = 0 := (f5 s 24 (fun _ => by decide)).trans k244
        have k235 : I5 s 23 = I s 23 := (f5 s 23 (fun _ => by decide)).trans k234
        have Y5 := Y4.fT f5.T
        have F5 := F4.tr f5.T
        have A5 := mAt.at g225 A.le A.id
        refine w_zeq 108 l_196_98 (by decide) (fun _ => ?_) (fun hx => absurd hx (by decide))
        refine w_aln l_196_108 rfl ?_
        refine w_ldcw l_196_109 (by decide) ?_
        refine p_iv [vs (2 * 31 + 4)] [] l_196_112 rfl rfl (Nat.le_of_ble_eq_true rfl) (by rw [mx_179]; exact Nat.le_of_ble_eq_true rfl) (by rw [mt_179]; exact oModel_sh hm) (by rw [mt_179]; decide) (by rw [rk_179]; decide) (s_179F hm H5 A5 k245 (q := 31) (by decide) (by rw [strB_same.2.2.2.2.2.2.2.2.2.2.2.2.2.2.1]; exact hw14)) (fun v I6 hv => ?_)
        obtain ⟨rfl, g226, f6⟩ := hv
        have H6 := H5.fT f6.T
        have k246 : I6 s 24 = 0 := (f6 s 24 (fun _ => by decide)).trans k245
        have k236 : I6 s 23 = I s 23 := (f6 s 23 (fun _ => by decide)).trans k235
        have Y6 := Y5.fT f6.T
        have F6 := F5.tr f6.T
        have A6 := mAt.at g226 A.le A.id
        refine w_zeq 133 l_196_115 (by decide) (fun _ => ?_) (fun hx => absurd hx (by decide))
        refine w_aln l_196_133 rfl ?_
        refine w_ldcw l_196_134 (by decide) ?_
        refine p_iv [vs (2 * 32 + 4)] [] l_196_137 rfl rfl (Nat.le_of_ble_eq_true rfl) (by rw [mx_179]; exact Nat.le_of_ble_eq_true rfl) (by rw [mt_179]; exact oModel_sh hm) (by rw [mt_179]; decide) (by rw [rk_179]; decide) (s_179F hm H6 A6 k246 (q := 32) (by decide) (by rw [strB_same.2.2.2.2.2.2.2.2.2.2.2.2.2.2.2.1]; exact hw15)) (fun v I7 hv => ?_)
        obtain ⟨rfl, g227, f7⟩ := hv
        have H7 := H6.fT f7.T
        have k247 : I7 s 24 = 0 := (f7 s 24 (fun _ => by decide)).trans k246
        have k237 : I7 s 23 = I s 23 := (f7 s 23 (fun _ => by decide)).trans k236
        have Y7 := Y6.fT f7.T
        have F7 := F6.tr f7.T
        have A7 := mAt.at g227 A.le A.id
        refine w_zeq 158 l_196_140 (by decide) (fun _ => ?_) (fun hx => absurd hx (by decide))
        refine w_aln l_196_158 rfl ?_
        refine w_ldcw l_196_159 (by decide) ?_
        refine p_iv [vs (2 * 33 + 4)] [] l_196_162 rfl rfl (Nat.le_of_ble_eq_true rfl) (by rw [mx_179]; exact Nat.le_of_ble_eq_true rfl) (by rw [mt_179]; exact oModel_sh hm) (by rw [mt_179]; decide) (by rw [rk_179]; decide) (s_179F hm H7 A7 k247 (q := 33) (by decide) (by rw [strB_same.2.2.2.2.2.2.2.2.2.2.2.2.2.2.2.2.1]; exact hw16)) (fun v I8 hv => ?_)
        obtain ⟨rfl, g228, f8⟩ := hv
        have H8 := H7.fT f8.T
        have k248 : I8 s 24 = 0 := (f8 s 24 (fun _ => by decide)).trans k247
        have k238 : I8 s 23 = I s 23 := (f8 s 23 (fun _ => by decide)).trans k237
        have Y8 := Y7.fT f8.T
        have F8 := F7.tr f8.T
        have A8 := mAt.at g228 A.le A.id
        refine w_zeq 182 l_196_165 (by decide) (fun _ => ?_) (fun hx => absurd hx (by decide))
        refine w_aln l_196_182 rfl ?_
        refine w_ldcw l_196_183 (by decide) ?_
        refine p_iv [vs (2 * 27 + 4)] [] l_196_186 rfl rfl (Nat.le_of_ble_eq_true rfl) (by rw [mx_179]; exact Nat.le_of_ble_eq_true rfl) (by rw [mt_179]; exact oModel_sh hm) (by rw [mt_179]; decide) (by rw [rk_179]; decide) (s_179T hm H8 A8 k248 (q := 27) (by decide) (by rw [strB_same.2.2.2.2.2.2.2.2.2.2.2.2.1]; exact hw2)) (fun v I9 hv => ?_)
        obtain ⟨rfl, A9, f9⟩ := hv
        have H9 := H8.fT f9.T
        have k249 : I9 s 24 = 0 := (f9 s 24 (fun _ => by decide)).trans k248
        have k239 : I9 s 23 = I s 23 := (f9 s 23 (fun _ => by decide)).trans k238
        have Y9 := Y8.fT f9.T
        have F9 := F8.tr f9.T
        refine w_zeq 200 l_196_189 (by decide) (fun hx => absurd hx (by decide)) (fun _ => ?_)
        refine w_aln l_196_192 rfl ?_
        refine w_ic l_196_193 (by decide) ?_
        refine p_iv [vi 0] [] l_196_194 rfl rfl (Nat.le_of_ble_eq_true rfl) (by rw [mx_195]; exact Nat.le_of_ble_eq_true rfl) (by rw [mt_195]; exact oModel_sh hm) (by rw [mt_195]; decide) (by rw [rk_195]; decide) (by have g9 := s_195 (xs := xs) (cc := cc) (zz := zz) (b := false) hm H9 A9 k249 Y9 h8 (by omega); rw [hq] at g9; exact g9) (fun v I99 hv => ?_)
        obtain ⟨rfl, fz9, he, e24, e23⟩ := hv
        refine w_go 227 l_196_197 (by decide) ?_
        refine w_vr l_196_227 ?_
        have hR : lineR t n P p = .inl e9 := by
          unfold lineR
          rw [if_neg (by rw [hw0]; decide), if_neg (by rw [hw1]; decide), if_pos (by rw [hw2, hw3]; rfl), hw3]
          rw [rulL_M h8]
          exact hq
        exact ⟨_, _, rfl, rfl, rfl, F9.P.tr fz9, by rw [hR]; exact ⟨he, e24, e23⟩⟩
      | inr a9 =>
        refine CL_start (r := 9) (ls := [vr s, vs 2]) (rk_196 _) rfl ?_
        refine w_aln l_196_0 rfl ?_
        refine p_iv [] [] l_196_1 rfl rfl (Nat.le_of_ble_eq_true rfl) (by rw [mx_174]; exact Nat.le_of_ble_eq_true rfl) (by rw [mt_174]; exact oModel_sh hm) (by rw [mt_174]; decide) (by rw [rk_174]; decide) (s_174A hm H A) (fun v I1 hv => ?_)
        obtain ⟨rfl, g221, f1⟩ := hv
        have H1 := H.fT f1.T
        have k241 : I1 s 24 = 0 := (f1 s 24 (fun _ => by decide)).trans h24
        have k231 : I1 s 23 = I s 23 := (f1 s 23 (fun _ => by decide))
        have Y1 := Y.fT f1.T
        have F1 := f1.T
        have A1 := mAt.at g221 A.le A.id
        refine w_pop l_196_4 rfl ?_
        refine w_aln l_196_5 rfl ?_
        refine w_ldcw l_196_6 (by decide) ?_
        refine p_iv [vs (2 * 27 + 4)] [] l_196_9 rfl rfl (Nat.le_of_ble_eq_true rfl) (by rw [mx_178]; exact Nat.le_of_ble_eq_true rfl) (by rw [mt_178]; exact oModel_sh hm) (by rw [mt_178]; decide) (by rw [rk_178]; decide) (by have g9 := s_178A (xs := xs) (cc := cc) (zz := zz) hm H1 A1 k241 (q := 27) (by decide); rw [strB_same.2.2.2.2.2.2.2.2.2.2.2.2.1, hw2] at g9; exact g9) (fun v I2 hv => ?_)
        obtain ⟨rfl, g222, f2⟩ := hv
        have H2 := H1.fT f2.T
        have k242 : I2 s 24 = 0 := (f2 s 24 (fun _ => by decide)).trans k241
        have k232 : I2 s 23 = I s 23 := (f2 s 23 (fun _ => by decide)).trans k231
        have Y2 := Y1.fT f2.T
        have F2 := F1.tr f2.T
        have A2 := mAt.at g222 A.le A.id
        refine w_zne 25 l_196_12 (by decide) (fun _ => ?_) (fun hx => absurd hx (by decide))
        refine w_ic l_196_25 (by decide) ?_
        refine w_go 30 l_196_26 (by decide) ?_
        refine w_isn l_196_30 ⟨Nat.le_of_ble_eq_true rfl, rfl⟩ ?_
        refine w_aln l_196_31 rfl ?_
        refine w_ldcw l_196_32 (by decide) ?_
        refine p_iv [vs (2 * 29 + 4)] [] l_196_35 rfl rfl (Nat.le_of_ble_eq_true rfl) (by rw [mx_178]; exact Nat.le_of_ble_eq_true rfl) (by rw [mt_178]; exact oModel_sh hm) (by rw [mt_178]; decide) (by rw [rk_178]; decide) (by have g9 := s_178A (xs := xs) (cc := cc) (zz := zz) hm H2 A2 k242 (q := 29) (by decide); rw [strB_same.2.2.2.2.2.2.2.2.2.2.1, hw0] at g9; exact g9) (fun v I3 hv => ?_)
        obtain ⟨rfl, g223, f3⟩ := hv
        have H3 := H2.fT f3.T
        have k243 : I3 s 24 = 0 := (f3 s 24 (fun _ => by decide)).trans k242
        have k233 : I3 s 23 = I s 23 := (f3 s 23 (fun _ => by decide)).trans k232
        have Y3 := Y2.fT f3.T
        have F3 := F2.tr f3.T
        have A3 := mAt.at g223 A.le A.id
        refine w_zeq 49 l_196_38 (by decide) (fun _ => ?_) (fun hx => absurd hx (by decide))
        refine w_iln l_196_49 rfl ?_
        refine w_zeq 74 l_196_50 (by decide) (fun hx => absurd hx (by decide)) (fun _ => ?_)
        refine w_aln l_196_53 rfl ?_
        refine w_gi (((lRules P.1) : Nat) : Int) l_196_54 (oModel_sh hm) Y3.1.2.1 ?_
        refine w_bp l_196_57 (by decide) ?_
        refine w_cne 74 l_196_59 (by decide) (fun _ => ?_) (fun hx => absurd hx (by omega))
        refine w_aln l_196_74 rfl ?_
        refine w_ldcw l_196_75 (by decide) ?_
        refine p_iv [vs (2 * 29 + 4)] [] l_196_78 rfl rfl (Nat.le_of_ble_eq_true rfl) (by rw [mx_179]; exact Nat.le_of_ble_eq_true rfl) (by rw [mt_179]; exact oModel_sh hm) (by rw [mt_179]; decide) (by rw [rk_179]; decide) (s_179F hm H3 A3 k243 (q := 29) (by decide) (by rw [strB_same.2.2.2.2.2.2.2.2.2.2.1]; exact hw0)) (fun v I4 hv => ?_)
        obtain ⟨rfl, g224, f4⟩ := hv
        have H4 := H3.fT f4.T
        have k244 : I4 s 24 = 0 := (f4 s 24 (fun _ => by decide)).trans k243
        have k234 : I4 s 23 = I s 23 := (f4 s 23 (fun _ => by decide)).trans k233
        have Y4 := Y3.fT f4.T
        have F4 := F3.tr f4.T
        have A4 := mAt.at g224 A.le A.id
        refine w_zeq 91 l_196_81 (by decide) (fun _ => ?_) (fun hx => absurd hx (by decide))
        refine w_aln l_196_91 rfl ?_
        refine w_ldcw l_196_92 (by decide) ?_
        refine p_iv [vs (2 * 30 + 4)] [] l_196_95 rfl rfl (Nat.le_of_ble_eq_true rfl) (by rw [mx_179]; exact Nat.le_of_ble_eq_true rfl) (by rw [mt_179]; exact oModel_sh hm) (by rw [mt_179]; decide) (by rw [rk_179]; decide) (s_179F hm H4 A4 k244 (q := 30) (by decide) (by rw [strB_same.2.2.2.2.2.2.2.2.2.2.2.1]; exact hw1)) (fun v I5 hv => ?_)
        obtain ⟨rfl, g225, f5⟩ := hv
        have H5 := H4.fT f5.T
        have k245 : I5 s 24 = 0 := (f5 s 24 (fun _ => by decide)).trans k244
        have k235 : I5 s 23 = I s 23 := (f5 s 23 (fun _ => by decide)).trans k234
        have Y5 := Y4.fT f5.T
        have F5 := F4.tr f5.T
        have A5 := mAt.at g225 A.le A.id
        refine w_zeq 108 l_196_98 (by decide) (fun _ => ?_) (fun hx => absurd hx (by decide))
        refine w_aln l_196_108 rfl ?_
        refine w_ldcw l_196_109 (by decide) ?_
        refine p_iv [vs (2 * 31 + 4)] [] l_196_112 rfl rfl (Nat.le_of_ble_eq_true rfl) (by rw [mx_179]; exact Nat.le_of_ble_eq_true rfl) (by rw [mt_179]; exact oModel_sh hm) (by rw [mt_179]; decide) (by rw [rk_179]; decide) (s_179F hm H5 A5 k245 (q := 31) (by decide) (by rw [strB_same.2.2.2.2.2.2.2.2.2.2.2.2.2.2.1]; exact hw14)) (fun v I6 hv => ?_)
        obtain ⟨rfl, g226, f6⟩ := hv
        have H6 := H5.fT f6.T
        have k246 : I6 s 24 = 0 := (f6 s 24 (fun _ => by decide)).trans k245
        have k236 : I6 s 23 = I s 23 := (f6 s 23 (fun _ => by decide)).trans k235
        have Y6 := Y5.fT f6.T
        have F6 := F5.tr f6.T
        have A6 := mAt.at g226 A.le A.id
        refine w_zeq 133 l_196_115 (by decide) (fun _ => ?_) (fun hx => absurd hx (by decide))
        refine w_aln l_196_133 rfl ?_
        refine w_ldcw l_196_134 (by decide) ?_
        refine p_iv [vs (2 * 32 + 4)] [] l_196_137 rfl rfl (Nat.le_of_ble_eq_true rfl) (by rw [mx_179]; exact Nat.le_of_ble_eq_true rfl) (by rw [mt_179]; exact oModel_sh hm) (by rw [mt_179]; decide) (by rw [rk_179]; decide) (s_179F hm H6 A6 k246 (q := 32) (by decide) (by rw [strB_same.2.2.2.2.2.2.2.2.2.2.2.2.2.2.2.1]; exact hw15)) (fun v I7 hv => ?_)
        obtain ⟨rfl, g227, f7⟩ := hv
        have H7 := H6.fT f7.T
        have k247 : I7 s 24 = 0 := (f7 s 24 (fun _ => by decide)).trans k246
        have k237 : I7 s 23 = I s 23 := (f7 s 23 (fun _ => by decide)).trans k236
        have Y7 := Y6.fT f7.T
        have F7 := F6.tr f7.T
        have A7 := mAt.at g227 A.le A.id
        refine w_zeq 158 l_196_140 (by decide) (fun _ => ?_) (fun hx => absurd hx (by decide))
        refine w_aln l_196_158 rfl ?_
        refine w_ldcw l_196_159 (by decide) ?_
        refine p_iv [vs (2 * 33 + 4)] [] l_196_162 rfl rfl (Nat.le_of_ble_eq_true rfl) (by rw [mx_179]; exact Nat.le_of_ble_eq_true rfl) (by rw [mt_179]; exact oModel_sh hm) (by rw [mt_179]; decide) (by rw [rk_179]; decide) (s_179F hm H7 A7 k247 (q := 33) (by decide) (by rw [strB_same.2.2.2.2.2.2.2.2.2.2.2.2.2.2.2.2.1]; exact hw16)) (fun v I8 hv => ?_)
        obtain ⟨rfl, g228, f8⟩ := hv
        have H8 := H7.fT f8.T
        have k248 : I8 s 24 = 0 := (f8 s 24 (fun _ => by decide)).trans k247
        have k238 : I8 s 23 = I s 23 := (f8 s 23 (fun _ => by decide)).trans k237
        have Y8 := Y7.fT f8.T
        have F8 := F7.tr f8.T
        have A8 := mAt.at g228 A.le A.id
        refine w_zeq 182 l_196_165 (by decide) (fun _ => ?_) (fun hx => absurd hx (by decide))
        refine w_aln l_196_182 rfl ?_
        refine w_ldcw l_196_183 (by decide) ?_
        refine p_iv [vs (2 * 27 + 4)] [] l_196_186 rfl rfl (Nat.le_of_ble_eq_true rfl) (by rw [mx_179]; exact Nat.le_of_ble_eq_true rfl) (by rw [mt_179]; exact oModel_sh hm) (by rw [mt_179]; decide) (by rw [rk_179]; decide) (s_179T hm H8 A8 k248 (q := 27) (by decide) (by rw [strB_same.2.2.2.2.2.2.2.2.2.2.2.2.1]; exact hw2)) (fun v I9 hv => ?_)
        obtain ⟨rfl, A9, f9⟩ := hv
        have H9 := H8.fT f9.T
        have k249 : I9 s 24 = 0 := (f9 s 24 (fun _ => by decide)).trans k248
        have k239 : I9 s 23 = I s 23 := (f9 s 23 (fun _ => by decide)).trans k238
        have Y9 := Y8.fT f9.T
        have F9 := F8.tr f9.T
        refine w_zeq 200 l_196_189 (by decide) (fun hx => absurd hx (by decide)) (fun _ => ?_)
        refine w_aln l_196_192 rfl ?_
        refine w_ic l_196_193 (by decide) ?_
        refine p_iv [vi 0] [] l_196_194 rfl rfl (Nat.le_of_ble_eq_true rfl) (by rw [mx_195]; exact Nat.le_of_ble_eq_true rfl) (by rw [mt_195]; exact oModel_sh hm) (by rw [mt_195]; decide) (by rw [rk_195]; decide) (by have g9 := s_195 (xs := xs) (cc := cc) (zz := zz) (b := false) hm H9 A9 k249 Y9 h8 (by omega); rw [hq] at g9; exact g9) (fun v I99 hv => ?_)
        obtain ⟨rfl, fz9, ⟨k24z, k23z⟩, A99, Y99⟩ := hv
        refine w_go 227 l_196_197 (by decide) ?_
        refine w_vr l_196_227 ?_
        have hR : lineR t n P p = .inr a9 := by
          unfold lineR
          rw [if_neg (by rw [hw0]; decide), if_neg (by rw [hw1]; decide), if_pos (by rw [hw2, hw3]; rfl), hw3]
          rw [rulL_M h8]
          exact hq
        exact ⟨_, _, rfl, rfl, rfl, F9.P.tr fz9, by rw [hR]; exact ⟨⟨k24z, k23z.trans k239⟩, A99, Y99⟩⟩
  | false =>

  cases hw3 : isWL t n (strB 3) p with
  | true =>
    have hw0 := strB_dn (b := 0) hw3 (by decide) (by decide) (by decide)
    have hw1 := strB_dn (b := 1) hw3 (by decide) (by decide) (by decide)
    have hw2 := strB_dn (b := 2) hw3 (by decide) (by decide) (by decide)
    have hw14 := strB_dn (b := 14) hw3 (by decide) (by decide) (by decide)
    have hw15 := strB_dn (b := 15) hw3 (by decide) (by decide) (by decide)
    have hw16 := strB_dn (b := 16) hw3 (by decide) (by decide) (by decide)
    have hnx := isWL_nx (by decide) hw3
    by_cases h8 : 8 ≤ lRules P.1
    · skip
      refine CL_start (r := 9) (ls := [vr s, vs 2]) (rk_196 _) rfl ?_
      refine w_aln l_196_0 rfl ?_
      refine p_iv [] [] l_196_1 rfl rfl (Nat.le_of_ble_eq_true rfl) (by rw [mx_174]; exact Nat.le_of_ble_eq_true rfl) (by rw [mt_174]; exact oModel_sh hm) (by rw [mt_174]; decide) (by rw [rk_174]; decide) (s_174A hm H A) (fun v I1 hv => ?_)
      obtain ⟨rfl, g221, f1⟩ := hv
      have H1 := H.fT f1.T
      have k241 : I1 s 24 = 0 := (f1 s 24 (fun _ => by decide)).trans h24
      have k231 : I1 s 23 = I s 23 := (f1 s 23 (fun _ => by decide))
      have Y1 := Y.fT f1.T
      have F1 := f1.T
      have A1 := mAt.at g221 A.le A.id
      refine w_pop l_196_4 rfl ?_
      refine w_aln l_196_5 rfl ?_
      refine w_ldcw l_196_6 (by decide) ?_
      refine p_iv [vs (2 * 27 + 4)] [] l_196_9 rfl rfl (Nat.le_of_ble_eq_true rfl) (by rw [mx_178]; exact Nat.le_of_ble_eq_true rfl) (by rw [mt_178]; exact oModel_sh hm) (by rw [mt_178]; decide) (by rw [rk_178]; decide) (by have g9 := s_178A (xs := xs) (cc := cc) (zz := zz) hm H1 A1 k241 (q := 27) (by decide); rw [strB_same.2.2.2.2.2.2.2.2.2.2.2.2.1, hw2] at g9; exact g9) (fun v I2 hv => ?_)
      obtain ⟨rfl, g222, f2⟩ := hv
      have H2 := H1.fT f2.T
      have k242 : I2 s 24 = 0 := (f2 s 24 (fun _ => by decide)).trans k241
      have k232 : I2 s 23 = I s 23 := (f2 s 23 (fun _ => by decide)).trans k231
      have Y2 := Y1.fT f2.T
      have F2 := F1.tr f2.T
      have A2 := mAt.at g222 A.le A.id
      refine w_zne 25 l_196_12 (by decide) (fun hx => absurd hx (by decide)) (fun _ => ?_)
      refine w_aln l_196_15 rfl ?_
      refine w_ldcw l_196_16 (by decide) ?_
      refine p_iv [vs (2 * 28 + 4)] [] l_196_19 rfl rfl (Nat.le_of_ble_eq_true rfl) (by rw [mx_178]; exact Nat.le_of_ble_eq_true rfl) (by rw [mt_178]; exact oModel_sh hm) (by rw [mt_178]; decide) (by rw [rk_178]; decide) (by have g9 := s_178A (xs := xs) (cc := cc) (zz := zz) hm H2 A2 k242 (q := 28) (by decide); rw [strB_same.2.2.2.2.2.2.2.2.2.2.2.2.2.1, hw3] at g9; exact g9) (fun v I3 hv => ?_)
      obtain ⟨rfl, g223, f3⟩ := hv
      have H3 := H2.fT f3.T
      have k243 : I3 s 24 = 0 := (f3 s 24 (fun _ => by decide)).trans k242
      have k233 : I3 s 23 = I s 23 := (f3 s 23 (fun _ => by decide)).trans k232
      have Y3 := Y2.fT f3.T
      have F3 := F2.tr f3.T
      have A3 := mAt.at g223 A.le A.id
      refine w_zeq 29 l_196_22 (by decide) (fun hx => absurd hx (by decide)) (fun _ => ?_)
      refine w_ic l_196_25 (by decide) ?_
      refine w_go 30 l_196_26 (by decide) ?_
      refine w_isn l_196_30 ⟨Nat.le_of_ble_eq_true rfl, rfl⟩ ?_
      refine w_aln l_196_31 rfl ?_
      refine w_ldcw l_196_32 (by decide) ?_
      refine p_iv [vs (2 * 29 + 4)] [] l_196_35 rfl rfl (Nat.le_of_ble_eq_true rfl) (by rw [mx_178]; exact Nat.le_of_ble_eq_true rfl) (by rw [mt_178]; exact oModel_sh hm) (by rw [mt_178]; decide) (by rw [rk_178]; decide) (by have g9 := s_178A (xs := xs) (cc := cc) (zz := zz) hm H3 A3 k243 (q := 29) (by decide); rw [strB_same.2.2.2.2.2.2.2.2.2.2.1, hw0] at g9; exact g9) (fun v I4 hv => ?_)
      obtain ⟨rfl, g224, f4⟩ := hv
      have H4 := H3.fT f4.T
      have k244 : I4 s 24 = 0 := (f4 s 24 (fun _ => by decide)).trans k243
      have k234 : I4 s 23 = I s 23 := (f4 s 23 (fun _ => by decide)).trans k233
      have Y4 := Y3.fT f4.T
      have F4 := F3.tr f4.T
      have A4 := mAt.at g224 A.le A.id
      refine w_zeq 49 l_196_38 (by decide) (fun _ => ?_) (fun hx => absurd hx (by decide))
      refine w_iln l_196_49 rfl ?_
      refine w_zeq 74 l_196_50 (by decide) (fun hx => absurd hx (by decide)) (fun _ => ?_)
      refine w_aln l_196_53 rfl ?_
      refine w_gi (((lRules P.1) : Nat) : Int) l_196_54 (oModel_sh hm) Y4.1.2.1 ?_
      refine w_bp l_196_57 (by decide) ?_
      refine w_cne 74 l_196_59 (by decide) (fun hx => absurd hx (by omega)) (fun _ => ?_)
      refine w_aln l_196_62 rfl ?_
      refine w_ic l_196_63 (by decide) ?_
      refine w_aln l_196_64 rfl ?_
      refine w_gi ((p : Nat) : Int) l_196_65 (oModel_sh hm) g224 ?_
      refine q_iv [vi 4, vi ((p : Nat) : Int)] [] l_196_68 rfl rfl (Nat.le_of_ble_eq_true rfl) (by rw [mx_176]; exact Nat.le_of_ble_eq_true rfl) (by rw [mt_176]; exact oModel_sh hm) (by rw [mt_176]; decide) (by rw [rk_176]; decide) (s_176 hm k244 (k := 4)) ?_
      refine w_go 227 l_196_71 (by decide) ?_
      refine w_vr l_196_227 ?_
      have hR : lineR t n P p = .inl (4, p) := by
        unfold lineR
        rw [if_neg (by rw [hw0]; decide), if_neg (by rw [hw1]; decide), if_pos (by rw [hw2, hw3]; rfl), hw3]
        exact if_pos h8
      exact ⟨_, _, rfl, rfl, rfl, (F4.P.up (Or.inl ⟨rfl, by decide, by decide⟩)).up (Or.inl ⟨rfl, by decide, by decide⟩), by rw [hR]; exact ⟨(show (1 : Nat) ≤ 4 by decide), (up_nj (by decide)).trans up_eq, up_eq⟩⟩
    · cases hq : rulM t n P true (nxt t n p) with
      | inl e9 =>
        refine CL_start (r := 9) (ls := [vr s, vs 2]) (rk_196 _) rfl ?_
        refine w_aln l_196_0 rfl ?_
        refine p_iv [] [] l_196_1 rfl rfl (Nat.le_of_ble_eq_true rfl) (by rw [mx_174]; exact Nat.le_of_ble_eq_true rfl) (by rw [mt_174]; exact oModel_sh hm) (by rw [mt_174]; decide) (by rw [rk_174]; decide) (s_174A hm H A) (fun v I1 hv => ?_)
        obtain ⟨rfl, g221, f1⟩ := hv
        have H1 := H.fT f1.T
        have k241 : I1 s 24 = 0 := (f1 s 24 (fun _ => by decide)).trans h24
        have k231 : I1 s 23 = I s 23 := (f1 s 23 (fun _ => by decide))
        have Y1 := Y.fT f1.T
        have F1 := f1.T
        have A1 := mAt.at g221 A.le A.id
        refine w_pop l_196_4 rfl ?_
        refine w_aln l_196_5 rfl ?_
        refine w_ldcw l_196_6 (by decide) ?_
        refine p_iv [vs (2 * 27 + 4)] [] l_196_9 rfl rfl (Nat.le_of_ble_eq_true rfl) (by rw [mx_178]; exact Nat.le_of_ble_eq_true rfl) (by rw [mt_178]; exact oModel_sh hm) (by rw [mt_178]; decide) (by rw [rk_178]; decide) (by have g9 := s_178A (xs := xs) (cc := cc) (zz := zz) hm H1 A1 k241 (q := 27) (by decide); rw [strB_same.2.2.2.2.2.2.2.2.2.2.2.2.1, hw2] at g9; exact g9) (fun v I2 hv => ?_)
        obtain ⟨rfl, g222, f2⟩ := hv
        have H2 := H1.fT f2.T
        have k242 : I2 s 24 = 0 := (f2 s 24 (fun _ => by decide)).trans k241
        have k232 : I2 s 23 = I s 23 := (f2 s 23 (fun _ => by decide)).trans k231
        have Y2 := Y1.fT f2.T
        have F2 := F1.tr f2.T
        have A2 := mAt.at g222 A.le A.id
        refine w_zne 25 l_196_12 (by decide) (fun hx => absurd hx (by decide)) (fun _ => ?_)
        refine w_aln l_196_15 rfl ?_
        refine w_ldcw l_196_16 (by decide) ?_
        refine p_iv [vs (2 * 28 + 4)] [] l_196_19 rfl rfl (Nat.le_of_ble_eq_true rfl) (by rw [mx_178]; exact Nat.le_of_ble_eq_true rfl) (by rw [mt_178]; exact oModel_sh hm) (by rw [mt_178]; decide) (by rw [rk_178]; decide) (by have g9 := s_178A (xs := xs) (cc := cc) (zz := zz) hm H2 A2 k242 (q := 28) (by decide); rw [strB_same.2.2.2.2.2.2.2.2.2.2.2.2.2.1, hw3] at g9; exact g9) (fun v I3 hv => ?_)
        obtain ⟨rfl, g223, f3⟩ := hv
        have H3 := H2.fT f3.T
        have k243 : I3 s 24 = 0 := (f3 s 24 (fun _ => by decide)).trans k242
        have k233 : I3 s 23 = I s 23 := (f3 s 23 (fun _ => by decide)).trans k232
        have Y3 := Y2.fT f3.T
        have F3 := F2.tr f3.T
        have A3 := mAt.at g223 A.le A.id
        refine w_zeq 29 l_196_22 (by decide) (fun hx => absurd hx (by decide)) (fun _ => ?_)
        refine w_ic l_196_25 (by decide) ?_
        refine w_go 30 l_196_26 (by decide) ?_
        refine w_isn l_196_30 ⟨Nat.le_of_ble_eq_true rfl, rfl⟩ ?_
        refine w_aln l_196_31 rfl ?_
        refine w_ldcw l_196_32 (by decide) ?_
        refine p_iv [vs (2 * 29 + 4)] [] l_196_35 rfl rfl (Nat.le_of_ble_eq_true rfl) (by rw [mx_178]; exact Nat.le_of_ble_eq_true rfl) (by rw [mt_178]; exact oModel_sh hm) (by rw [mt_178]; decide) (by rw [rk_178]; decide) (by have g9 := s_178A (xs := xs) (cc := cc) (zz := zz) hm H3 A3 k243 (q := 29) (by decide); rw [strB_same.2.2.2.2.2.2.2.2.2.2.1, hw0] at g9; exact g9) (fun v I4 hv => ?_)
        obtain ⟨rfl, g224, f4⟩ := hv
        have H4 := H3.fT f4.T
        have k244 : I4 s 24 = 0 := (f4 s 24 (fun _ => by decide)).trans k243
        have k234 : I4 s 23 = I s 23 := (f4 s 23 (fun _ => by decide)).trans k233
        have Y4 := Y3.fT f4.T
        have F4 := F3.tr f4.T
        have A4 := mAt.at g224 A.le A.id
        refine w_zeq 49 l_196_38 (by decide) (fun _ => ?_) (fun hx => absurd hx (by decide))
        refine w_iln l_196_49 rfl ?_
        refine w_zeq 74 l_196_50 (by decide) (fun hx => absurd hx (by decide)) (fun _ => ?_)
        refine w_aln l_196_53 rfl ?_
        refine w_gi (((lRules P.1) : Nat) : Int) l_196_54 (oModel_sh hm) Y4.1.2.1 ?_
        refine w_bp l_196_57 (by decide) ?_
        refine w_cne 74 l_196_59 (by decide) (fun _ => ?_) (fun hx => absurd hx (by omega))
        refine w_aln l_196_74 rfl ?_
        refine w_ldcw l_196_75 (by decide) ?_
        refine p_iv [vs (2 * 29 + 4)] [] l_196_78 rfl rfl (Nat.le_of_ble_eq_true rfl) (by rw [mx_179]; exact Nat.le_of_ble_eq_true rfl) (by rw [mt_179]; exact oModel_sh hm) (by rw [mt_179]; decide) (by rw [rk_179]; decide) (s_179F hm H4 A4 k244 (q := 29) (by decide) (by rw [strB_same.2.2.2.2.2.2.2.2.2.2.1]; exact hw0)) (fun v I5 hv => ?_)
        obtain ⟨rfl, g225, f5⟩ := hv
        have H5 := H4.fT f5.T
        have k245 : I5 s 24 = 0 := (f5 s 24 (fun _ => by decide)).trans k244
        have k235 : I5 s 23 = I s 23 := (f5 s 23 (fun _ => by decide)).trans k234
        have Y5 := Y4.fT f5.T
        have F5 := F4.tr f5.T
        have A5 := mAt.at g225 A.le A.id
        refine w_zeq 91 l_196_81 (by decide) (fun _ => ?_) (fun hx => absurd hx (by decide))
        refine w_aln l_196_91 rfl ?_
        refine w_ldcw l_196_92 (by decide) ?_
        refine p_iv [vs (2 * 30 + 4)] [] l_196_95 rfl rfl (Nat.le_of_ble_eq_true rfl) (by rw [mx_179]; exact Nat.le_of_ble_eq_true rfl) (by rw [mt_179]; exact oModel_sh hm) (by rw [mt_179]; decide) (by rw [rk_179]; decide) (s_179F hm H5 A5 k245 (q := 30) (by decide) (by rw [strB_same.2.2.2.2.2.2.2.2.2.2.2.1]; exact hw1)) (fun v I6 hv => ?_)
        obtain ⟨rfl, g226, f6⟩ := hv
        have H6 := H5.fT f6.T
        have k246 : I6 s 24 = 0 := (f6 s 24 (fun _ => by decide)).trans k245
        have k236 : I6 s 23 = I s 23 := (f6 s 23 (fun _ => by decide)).trans k235
        have Y6 := Y5.fT f6.T
        have F6 := F5.tr f6.T
        have A6 := mAt.at g226 A.le A.id
        refine w_zeq 108 l_196_98 (by decide) (fun _ => ?_) (fun hx => absurd hx (by decide))
        refine w_aln l_196_108 rfl ?_
        refine w_ldcw l_196_109 (by decide) ?_
        refine p_iv [vs (2 * 31 + 4)] [] l_196_112 rfl rfl (Nat.le_of_ble_eq_true rfl) (by rw [mx_179]; exact Nat.le_of_ble_eq_true rfl) (by rw [mt_179]; exact oModel_sh hm) (by rw [mt_179]; decide) (by rw [rk_179]; decide) (s_179F hm H6 A6 k246 (q := 31) (by decide) (by rw [strB_same.2.2.2.2.2.2.2.2.2.2.2.2.2.2.1]; exact hw14)) (fun v I7 hv => ?_)
        obtain ⟨rfl, g227, f7⟩ := hv
        have H7 := H6.fT f7.T
        have k247 : I7 s 24 = 0 := (f7 s 24 (fun _ => by decide)).trans k246
        have k237 : I7 s 23 = I s 23 := (f7 s 23 (fun _ => by decide)).trans k236
        have Y7 := Y6.fT f7.T
        have F7 := F6.tr f7.T
        have A7 := mAt.at g227 A.le A.id
        refine w_zeq 133 l_196_115 (by decide) (fun _ => ?_) (fun hx => absurd hx (by decide))
        refine w_aln l_196_133 rfl ?_
        refine w_ldcw l_196_134 (by decide) ?_
        refine p_iv [vs (2 * 32 + 4)] [] l_196_137 rfl rfl (Nat.le_of_ble_eq_true rfl) (by rw [mx_179]; exact Nat.le_of_ble_eq_true rfl) (by rw [mt_179]; exact oModel_sh hm) (by rw [mt_179]; decide) (by rw [rk_179]; decide) (s_179F hm H7 A7 k247 (q := 32) (by decide) (by rw [strB_same.2.2.2.2.2.2.2.2.2.2.2.2.2.2.2.1]; exact hw15)) (fun v I8 hv => ?_)
        obtain ⟨rfl, g228, f8⟩ := hv
        have H8 := H7.fT f8.T
        have k248 : I8 s 24 = 0 := (f8 s 24 (fun _ => by decide)).trans k247
        have k238 : I8 s 23 = I s 23 := (f8 s 23 (fun _ => by decide)).trans k237
        have Y8 := Y7.fT f8.T
        have F8 := F7.tr f8.T
        have A8 := mAt.at g228 A.le A.id
        refine w_zeq 158 l_196_140 (by decide) (fun _ => ?_) (fun hx => absurd hx (by decide))
        refine w_aln l_196_158 rfl ?_
        refine w_ldcw l_196_159 (by decide) ?_
        refine p_iv [vs (2 * 33 + 4)] [] l_196_162 rfl rfl (Nat.le_of_ble_eq_true rfl) (by rw [mx_179]; exact Nat.le_of_ble_eq_true rfl) (by rw [mt_179]; exact oModel_sh hm) (by rw [mt_179]; decide) (by rw [rk_179]; decide) (s_179F hm H8 A8 k248 (q := 33) (by decide) (by rw [strB_same.2.2.2.2.2.2.2.2.2.2.2.2.2.2.2.2.1]; exact hw16)) (fun v I9 hv => ?_)
        obtain ⟨rfl, g229, f9⟩ := hv
        have H9 := H8.fT f9.T
        have k249 : I9 s 24 = 0 := (f9 s 24 (fun _ => by decide)).trans k248
        have k239 : I9 s 23 = I s 23 := (f9 s 23 (fun _ => by decide)).trans k238
        have Y9 := Y8.fT f9.T
        have F9 := F8.tr f9.T
        have A9 := mAt.at g229 A.le A.id
        refine w_zeq 182 l_196_165 (by decide) (fun _ => ?_) (fun hx => absurd hx (by decide))
        refine w_aln l_196_182 rfl ?_
        refine w_ldcw l_196_183 (by decide) ?_
        refine p_iv [vs (2 * 27 + 4)] [] l_196_186 rfl rfl (Nat.le_of_ble_eq_true rfl) (by rw [mx_179]; exact Nat.le_of_ble_eq_true rfl) (by rw [mt_179]; exact oModel_sh hm) (by rw [mt_179]; decide) (by rw [rk_179]; decide) (s_179F hm H9 A9 k249 (q := 27) (by decide) (by rw [strB_same.2.2.2.2.2.2.2.2.2.2.2.2.1]; exact hw2)) (fun v I10 hv => ?_)
        obtain ⟨rfl, g2210, f10⟩ := hv
        have H10 := H9.fT f10.T
        have k2410 : I10 s 24 = 0 := (f10 s 24 (fun _ => by decide)).trans k249
        have k2310 : I10 s 23 = I s 23 := (f10 s 23 (fun _ => by decide)).trans k239
        have Y10 := Y9.fT f10.T
        have F10 := F9.tr f10.T
        have A10 := mAt.at g2210 A.le A.id
        refine w_zeq 200 l_196_189 (by decide) (fun _ => ?_) (fun hx => absurd hx (by decide))
        refine w_aln l_196_200 rfl ?_
        refine w_ldcw l_196_201 (by decide) ?_
        refine p_iv [vs (2 * 28 + 4)] [] l_196_204 rfl rfl (Nat.le_of_ble_eq_true rfl) (by rw [mx_179]; exact Nat.le_of_ble_eq_true rfl) (by rw [mt_179]; exact oModel_sh hm) (by rw [mt_179]; decide) (by rw [rk_179]; decide) (s_179T hm H10 A10 k2410 (q := 28) (by decide) (by rw [strB_same.2.2.2.2.2.2.2.2.2.2.2.2.2.1]; exact hw3)) (fun v I11 hv => ?_)
        obtain ⟨rfl, A11, f11⟩ := hv
        have H11 := H10.fT f11.T
        have k2411 : I11 s 24 = 0 := (f11 s 24 (fun _ => by decide)).trans k2410
        have k2311 : I11 s 23 = I s 23 := (f11 s 23 (fun _ => by decide)).trans k2310
        have Y11 := Y10.fT f11.T
        have F11 := F10.tr f11.T
        refine w_zeq 218 l_196_207 (by decide) (fun hx => absurd hx (by decide)) (fun _ => ?_)
        refine w_aln l_196_210 rfl ?_
        refine w_ic l_196_211 (by decide) ?_
        refine p_iv [vi 1] [] l_196_212 rfl rfl (Nat.le_of_ble_eq_true rfl) (by rw [mx_195]; exact Nat.le_of_ble_eq_true rfl) (by rw [mt_195]; exact oModel_sh hm) (by rw [mt_195]; decide) (by rw [rk_195]; decide) (by have g9 := s_195 (xs := xs) (cc := cc) (zz := zz) (b := true) hm H11 A11 k2411 Y11 h8 (by omega); rw [hq] at g9; exact g9) (fun v I99 hv => ?_)
        obtain ⟨rfl, fz9, he, e24, e23⟩ := hv
        refine w_go 227 l_196_215 (by decide) ?_
        refine w_vr l_196_227 ?_
        have hR : lineR t n P p = .inl e9 := by
          unfold lineR
          rw [if_neg (by rw [hw0]; decide), if_neg (by rw [hw1]; decide), if_pos (by rw [hw2, hw3]; rfl), hw3]
          rw [rulL_M h8]
          exact hq
        exact ⟨_, _, rfl, rfl, rfl, F11.P.tr fz9, by rw [hR]; exact ⟨he, e24, e23⟩⟩
      | inr a9 =>
        refine CL_start (r := 9) (ls := [vr s, vs 2]) (rk_196 _) rfl ?_
        refine w_aln l_196_0 rfl ?_
        refine p_iv [] [] l_196_1 rfl rfl (Nat.le_of_ble_eq_true rfl) (by rw [mx_174]; exact Nat.le_of_ble_eq_true rfl) (by rw [mt_174]; exact oModel_sh hm) (by rw [mt_174]; decide) (by rw [rk_174]; decide) (s_174A hm H A) (fun v I1 hv => ?_)
        obtain ⟨rfl, g221, f1⟩ := hv
        have H1 := H.fT f1.T
        have k241 : I1 s 24 = 0 := (f1 s 24 (fun _ => by decide)).trans h24
        have k231 : I1 s 23 = I s 23 := (f1 s 23 (fun _ => by decide))
        have Y1 := Y.fT f1.T
        have F1 := f1.T
        have A1 := mAt.at g221 A.le A.id
        refine w_pop l_196_4 rfl ?_
        refine w_aln l_196_5 rfl ?_
        refine w_ldcw l_196_6 (by decide) ?_
        refine p_iv [vs (2 * 27 + 4)] [] l_196_9 rfl rfl (Nat.le_of_ble_eq_true rfl) (by rw [mx_178]; exact Nat.le_of_ble_eq_true rfl) (by rw [mt_178]; exact oModel_sh hm) (by rw [mt_178]; decide) (by rw [rk_178]; decide) (by have g9 := s_178A (xs := xs) (cc := cc) (zz := zz) hm H1 A1 k241 (q := 27) (by decide); rw [strB_same.2.2.2.2.2.2.2.2.2.2.2.2.1, hw2] at g9; exact g9) (fun v I2 hv => ?_)
        obtain ⟨rfl, g222, f2⟩ := hv
        have H2 := H1.fT f2.T
        have k242 : I2 s 24 = 0 := (f2 s 24 (fun _ => by decide)).trans k241
        have k232 : I2 s 23 = I s 23 := (f2 s 23 (fun _ => by decide)).trans k231
        have Y2 := Y1.fT f2.T
        have F2 := F1.tr f2.T
        have A2 := mAt.at g222 A.le A.id
        refine w_zne 25 l_196_12 (by decide) (fun hx => absurd hx (by decide)) (fun _ => ?_)
        refine w_aln l_196_15 rfl ?_
        refine w_ldcw l_196_16 (by decide) ?_
        refine p_iv [vs (2 * 28 + 4)] [] l_196_19 rfl rfl (Nat.le_of_ble_eq_true rfl) (by rw [mx_178]; exact Nat.le_of_ble_eq_true rfl) (by rw [mt_178]; exact oModel_sh hm) (by rw [mt_178]; decide) (by rw [rk_178]; decide) (by have g9 := s_178A (xs := xs) (cc := cc) (zz := zz) hm H2 A2 k242 (q := 28) (by decide); rw [strB_same.2.2.2.2.2.2.2.2.2.2.2.2.2.1, hw3] at g9; exact g9) (fun v I3 hv => ?_)
        obtain ⟨rfl, g223, f3⟩ := hv
        have H3 := H2.fT f3.T
        have k243 : I3 s 24 = 0 := (f3 s 24 (fun _ => by decide)).trans k242
        have k233 : I3 s 23 = I s 23 := (f3 s 23 (fun _ => by decide)).trans k232
        have Y3 := Y2.fT f3.T
        have F3 := F2.tr f3.T
        have A3 := mAt.at g223 A.le A.id
        refine w_zeq 29 l_196_22 (by decide) (fun hx => absurd hx (by decide)) (fun _ => ?_)
        refine w_ic l_196_25 (by decide) ?_
        refine w_go 30 l_196_26 (by decide) ?_
        refine w_isn l_196_30 ⟨Nat.le_of_ble_eq_true rfl, rfl⟩ ?_
        refine w_aln l_196_31 rfl ?_
        refine w_ldcw l_196_32 (by decide) ?_
        refine p_iv [vs (2 * 29 + 4)] [] l_196_35 rfl rfl (Nat.le_of_ble_eq_true rfl) (by rw [mx_178]; exact Nat.le_of_ble_eq_true rfl) (by rw [mt_178]; exact oModel_sh hm) (by rw [mt_178]; decide) (by rw [rk_178]; decide) (by have g9 := s_178A (xs := xs) (cc := cc) (zz := zz) hm H3 A3 k243 (q := 29) (by decide); rw [strB_same.2.2.2.2.2.2.2.2.2.2.1, hw0] at g9; exact g9) (fun v I4 hv => ?_)
        obtain ⟨rfl, g224, f4⟩ := hv
        have H4 := H3.fT f4.T
        have k244 : I4 s 24 = 0 := (f4 s 24 (fun _ => by decide)).trans k243
        have k234 : I4 s 23 = I s 23 := (f4 s 23 (fun _ => by decide)).trans k233
        have Y4 := Y3.fT f4.T
        have F4 := F3.tr f4.T
        have A4 := mAt.at g224 A.le A.id
        refine w_zeq 49 l_196_38 (by decide) (fun _ => ?_) (fun hx => absurd hx (by decide))
        refine w_iln l_196_49 rfl ?_
        refine w_zeq 74 l_196_50 (by decide) (fun hx => absurd hx (by decide)) (fun _ => ?_)
        refine w_aln l_196_53 rfl ?_
        refine w_gi (((lRules P.1) : Nat) : Int) l_196_54 (oModel_sh hm) Y4.1.2.1 ?_
        refine w_bp l_196_57 (by decide) ?_
        refine w_cne 74 l_196_59 (by decide) (fun _ => ?_) (fun hx => absurd hx (by omega))
        refine w_aln l_196_74 rfl ?_
        refine w_ldcw l_196_75 (by decide) ?_
        refine p_iv [vs (2 * 29 + 4)] [] l_196_78 rfl rfl (Nat.le_of_ble_eq_true rfl) (by rw [mx_179]; exact Nat.le_of_ble_eq_true rfl) (by rw [mt_179]; exact oModel_sh hm) (by rw [mt_179]; decide) (by rw [rk_179]; decide) (s_179F hm H4 A4 k244 (q := 29) (by decide) (by rw [strB_same.2.2.2.2.2.2.2.2.2.2.1]; exact hw0)) (fun v I5 hv => ?_)
        obtain ⟨rfl, g225, f5⟩ := hv
        have H5 := H4.fT f5.T
        have k245 : I5 s 24 = 0 := (f5 s 24 (fun _ => by decide)).trans k244
        have k235 : I5 s 23 = I s 23 := (f5 s 23 (fun _ => by decide)).trans k234
        have Y5 := Y4.fT f5.T
        have F5 := F4.tr f5.T
        have A5 := mAt.at g225 A.le A.id
        refine w_zeq 91 l_196_81 (by decide) (fun _ => ?_) (fun hx => absurd hx (by decide))
        refine w_aln l_196_91 rfl ?_
        refine w_ldcw l_196_92 (by decide) ?_
        refine p_iv [vs (2 * 30 + 4)] [] l_196_95 rfl rfl (Nat.le_of_ble_eq_true rfl) (by rw [mx_179]; exact Nat.le_of_ble_eq_true rfl) (by rw [mt_179]; exact oModel_sh hm) (by rw [mt_179]; decide) (by rw [rk_179]; decide) (s_179F hm H5 A5 k245 (q := 30) (by decide) (by rw [strB_same.2.2.2.2.2.2.2.2.2.2.2.1]; exact hw1)) (fun v I6 hv => ?_)
        obtain ⟨rfl, g226, f6⟩ := hv
        have H6 := H5.fT f6.T
        have k246 : I6 s 24 = 0 := (f6 s 24 (fun _ => by decide)).trans k245
        have k236 : I6 s 23 = I s 23 := (f6 s 23 (fun _ => by decide)).trans k235
        have Y6 := Y5.fT f6.T
        have F6 := F5.tr f6.T
        have A6 := mAt.at g226 A.le A.id
        refine w_zeq 108 l_196_98 (by decide) (fun _ => ?_) (fun hx => absurd hx (by decide))
        refine w_aln l_196_108 rfl ?_
        refine w_ldcw l_196_109 (by decide) ?_
        refine p_iv [vs (2 * 31 + 4)] [] l_196_112 rfl rfl (Nat.le_of_ble_eq_true rfl) (by rw [mx_179]; exact Nat.le_of_ble_eq_true rfl) (by rw [mt_179]; exact oModel_sh hm) (by rw [mt_179]; decide) (by rw [rk_179]; decide) (s_179F hm H6 A6 k246 (q := 31) (by decide) (by rw [strB_same.2.2.2.2.2.2.2.2.2.2.2.2.2.2.1]; exact hw14)) (fun v I7 hv => ?_)
        obtain ⟨rfl, g227, f7⟩ := hv
        have H7 := H6.fT f7.T
        have k247 : I7 s 24 = 0 := (f7 s 24 (fun _ => by decide)).trans k246
        have k237 : I7 s 23 = I s 23 := (f7 s 23 (fun _ => by decide)).trans k236
        have Y7 := Y6.fT f7.T
        have F7 := F6.tr f7.T
        have A7 := mAt.at g227 A.le A.id
        refine w_zeq 133 l_196_115 (by decide) (fun _ => ?_) (fun hx => absurd hx (by decide))
        refine w_aln l_196_133 rfl ?_
        refine w_ldcw l_196_134 (by decide) ?_
        refine p_iv [vs (2 * 32 + 4)] [] l_196_137 rfl rfl (Nat.le_of_ble_eq_true rfl) (by rw [mx_179]; exact Nat.le_of_ble_eq_true rfl) (by rw [mt_179]; exact oModel_sh hm) (by rw [mt_179]; decide) (by rw [rk_179]; decide) (s_179F hm H7 A7 k247 (q := 32) (by decide) (by rw [strB_same.2.2.2.2.2.2.2.2.2.2.2.2.2.2.2.1]; exact hw15)) (fun v I8 hv => ?_)
        obtain ⟨rfl, g228, f8⟩ := hv
        have H8 := H7.fT f8.T
        have k248 : I8 s 24 = 0 := (f8 s 24 (fun _ => by decide)).trans k247
        have k238 : I8 s 23 = I s 23 := (f8 s 23 (fun _ => by decide)).trans k237
        have Y8 := Y7.fT f8.T
        have F8 := F7.tr f8.T
        have A8 := mAt.at g228 A.le A.id
        refine w_zeq 158 l_196_140 (by decide) (fun _ => ?_) (fun hx => absurd hx (by decide))
        refine w_aln l_196_158 rfl ?_
        refine w_ldcw l_196_159 (by decide) ?_
        refine p_iv [vs (2 * 33 + 4)] [] l_196_162 rfl rfl (Nat.le_of_ble_eq_true rfl) (by rw [mx_179]; exact Nat.le_of_ble_eq_true rfl) (by rw [mt_179]; exact oModel_sh hm) (by rw [mt_179]; decide) (by rw [rk_179]; decide) (s_179F hm H8 A8 k248 (q := 33) (by decide) (by rw [strB_same.2.2.2.2.2.2.2.2.2.2.2.2.2.2.2.2.1]; exact hw16)) (fun v I9 hv => ?_)
        obtain ⟨rfl, g229, f9⟩ := hv
        have H9 := H8.fT f9.T
        have k249 : I9 s 24 = 0 := (f9 s 24 (fun _ => by decide)).trans k248
        have k239 : I9 s 23 = I s 23 := (f9 s 23 (fun _ => by decide)).trans k238
        have Y9 := Y8.fT f9.T
        have F9 := F8.tr f9.T
        have A9 := mAt.at g229 A.le A.id
        refine w_zeq 182 l_196_165 (by decide) (fun _ => ?_) (fun hx => absurd hx (by decide))
        refine w_aln l_196_182 rfl ?_
        refine w_ldcw l_196_183 (by decide) ?_
        refine p_iv [vs (2 * 27 + 4)] [] l_196_186 rfl rfl (Nat.le_of_ble_eq_true rfl) (by rw [mx_179]; exact Nat.le_of_ble_eq_true rfl) (by rw [mt_179]; exact oModel_sh hm) (by rw [mt_179]; decide) (by rw [rk_179]; decide) (s_179F hm H9 A9 k249 (q := 27) (by decide) (by rw [strB_same.2.2.2.2.2.2.2.2.2.2.2.2.1]; exact hw2)) (fun v I10 hv => ?_)
        obtain ⟨rfl, g2210, f10⟩ := hv
        have H10 := H9.fT f10.T
        have k2410 : I10 s 24 = 0 := (f10 s 24 (fun _ => by decide)).trans k249
        have k2310 : I10 s 23 = I s 23 := (f10 s 23 (fun _ => by decide)).trans k239
        have Y10 := Y9.fT f10.T
        have F10 := F9.tr f10.T
        have A10 := mAt.at g2210 A.le A.id
        refine w_zeq 200 l_196_189 (by decide) (fun _ => ?_) (fun hx => absurd hx (by decide))
        refine w_aln l_196_200 rfl ?_
        refine w_ldcw l_196_201 (by decide) ?_
        refine p_iv [vs (2 * 28 + 4)] [] l_196_204 rfl rfl (Nat.le_of_ble_eq_true rfl) (by rw [mx_179]; exact Nat.le_of_ble_eq_true rfl) (by rw [mt_179]; exact oModel_sh hm) (by rw [mt_179]; decide) (by rw [rk_179]; decide) (s_179T hm H10 A10 k2410 (q := 28) (by decide) (by rw [strB_same.2.2.2.2.2.2.2.2.2.2.2.2.2.1]; exact hw3)) (fun v I11 hv => ?_)
        obtain ⟨rfl, A11, f11⟩ := hv
        have H11 := H10.fT f11.T
        have k2411 : I11 s 24 = 0 := (f11 s 24 (fun _ => by decide)).trans k2410
        have k2311 : I11 s 23 = I s 23 := (f11 s 23 (fun _ => by decide)).trans k2310
        have Y11 := Y10.fT f11.T
        have F11 := F10.tr f11.T
        refine w_zeq 218 l_196_207 (by decide) (fun hx => absurd hx (by decide)) (fun _ => ?_)
        refine w_aln l_196_210 rfl ?_
        refine w_ic l_196_211 (by decide) ?_
        refine p_iv [vi 1] [] l_196_212 rfl rfl (Nat.le_of_ble_eq_true rfl) (by rw [mx_195]; exact Nat.le_of_ble_eq_true rfl) (by rw [mt_195]; exact oModel_sh hm) (by rw [mt_195]; decide) (by rw [rk_195]; decide) (by have g9 := s_195 (xs := xs) (cc := cc) (zz := zz) (b := true) hm H11 A11 k2411 Y11 h8 (by omega); rw [hq] at g9; exact g9) (fun v I99 hv => ?_)
        obtain ⟨rfl, fz9, ⟨k24z, k23z⟩, A99, Y99⟩ := hv
        refine w_go 227 l_196_215 (by decide) ?_
        refine w_vr l_196_227 ?_
        have hR : lineR t n P p = .inr a9 := by
          unfold lineR
          rw [if_neg (by rw [hw0]; decide), if_neg (by rw [hw1]; decide), if_pos (by rw [hw2, hw3]; rfl), hw3]
          rw [rulL_M h8]
          exact hq
        exact ⟨_, _, rfl, rfl, rfl, F11.P.tr fz9, by rw [hR]; exact ⟨⟨k24z, k23z.trans k2311⟩, A99, Y99⟩⟩
  | false =>

  cases hw14 : isWL t n (strB 14) p with
  | true =>
    have hw0 := strB_dn (b := 0) hw14 (by decide) (by decide) (by decide)
    have hw1 := strB_dn (b := 1) hw14 (by decide) (by decide) (by decide)
    have hw2 := strB_dn (b := 2) hw14 (by decide) (by decide) (by decide)
    have hw3 := strB_dn (b := 3) hw14 (by decide) (by decide) (by decide)
    have hw15 := strB_dn (b := 15) hw14 (by decide) (by decide) (by decide)
    have hw16 := strB_dn (b := 16) hw14 (by decide) (by decide) (by decide)
    cases hq : numR t n 1 400 (nxt t n p) with
    | inl e9 =>
      refine CL_start (r := 9) (ls := [vr s, vs 2]) (rk_196 _) rfl ?_
      refine w_aln l_196_0 rfl ?_
      refine p_iv [] [] l_196_1 rfl rfl (Nat.le_of_ble_eq_true rfl) (by rw [mx_174]; exact Nat.le_of_ble_eq_true rfl) (by rw [mt_174]; exact oModel_sh hm) (by rw [mt_174]; decide) (by rw [rk_174]; decide) (s_174A hm H A) (fun v I1 hv => ?_)
      obtain ⟨rfl, g221, f1⟩ := hv
      have H1 := H.fT f1.T
      have k241 : I1 s 24 = 0 := (f1 s 24 (fun _ => by decide)).trans h24
      have k231 : I1 s 23 = I s 23 := (f1 s 23 (fun _ => by decide))
      have Y1 := Y.fT f1.T
      have F1 := f1.T
      have A1 := mAt.at g221 A.le A.id
      refine w_pop l_196_4 rfl ?_
      refine w_aln l_196_5 rfl ?_
      refine w_ldcw l_196_6 (by decide) ?_
      refine p_iv [vs (2 * 27 + 4)] [] l_196_9 rfl rfl (Nat.le_of_ble_eq_true rfl) (by rw [mx_178]; exact Nat.le_of_ble_eq_true rfl) (by rw [mt_178]; exact oModel_sh hm) (by rw [mt_178]; decide) (by rw [rk_178]; decide) (by have g9 := s_178A (xs := xs) (cc := cc) (zz := zz) hm H1 A1 k241 (q := 27) (by decide); rw [strB_same.2.2.2.2.2.2.2.2.2.2.2.2.1, hw2] at g9; exact g9) (fun v I2 hv => ?_)
      obtain ⟨rfl, g222, f2⟩ := hv
      have H2 := H1.fT f2.T
      have k242 : I2 s 24 = 0 := (f2 s 24 (fun _ => by decide)).trans k241
      have k232 : I2 s 23 = I s 23 := (f2 s 23 (fun _ => by decide)).trans k231
      have Y2 := Y1.fT f2.T
      have F2 := F1.tr f2.T
      have A2 := mAt.at g222 A.le A.id
      refine w_zne 25 l_196_12 (by decide) (fun hx => absurd hx (by decide)) (fun _ => ?_)
      refine w_aln l_196_15 rfl ?_
      refine w_ldcw l_196_16 (by decide) ?_
      refine p_iv [vs (2 * 28 + 4)] [] l_196_19 rfl rfl (Nat.le_of_ble_eq_true rfl) (by rw [mx_178]; exact Nat.le_of_ble_eq_true rfl) (by rw [mt_178]; exact oModel_sh hm) (by rw [mt_178]; decide) (by rw [rk_178]; decide) (by have g9 := s_178A (xs := xs) (cc := cc) (zz := zz) hm H2 A2 k242 (q := 28) (by decide); rw [strB_same.2.2.2.2.2.2.2.2.2.2.2.2.2.1, hw3] at g9; exact g9) (fun v I3 hv => ?_)
      obtain ⟨rfl, g223, f3⟩ := hv
      have H3 := H2.fT f3.T
      have k243 : I3 s 24 = 0 := (f3 s 24 (fun _ => by decide)).trans k242
      have k233 : I3 s 23 = I s 23 := (f3 s 23 (fun _ => by decide)).trans k232
      have Y3 := Y2.fT f3.T
      have F3 := F2.tr f3.T
      have A3 := mAt.at g223 A.le A.id
      refine w_zeq 29 l_196_22 (by decide) (fun _ => ?_) (fun hx => absurd hx (by decide))
      refine w_ic l_196_29 (by decide) ?_
      refine w_isn l_196_30 ⟨Nat.le_of_ble_eq_true rfl, rfl⟩ ?_
      refine w_aln l_196_31 rfl ?_
      refine w_ldcw l_196_32 (by decide) ?_
      refine p_iv [vs (2 * 29 + 4)] [] l_196_35 rfl rfl (Nat.le_of_ble_eq_true rfl) (by rw [mx_178]; exact Nat.le_of_ble_eq_true rfl) (by rw [mt_178]; exact oModel_sh hm) (by rw [mt_178]; decide) (by rw [rk_178]; decide) (by have g9 := s_178A (xs := xs) (cc := cc) (zz := zz) hm H3 A3 k243 (q := 29) (by decide); rw [strB_same.2.2.2.2.2.2.2.2.2.2.1, hw0] at g9; exact g9) (fun v I4 hv => ?_)
      obtain ⟨rfl, g224, f4⟩ := hv
      have H4 := H3.fT f4.T
      have k244 : I4 s 24 = 0 := (f4 s 24 (fun _ => by decide)).trans k243
      have k234 : I4 s 23 = I s 23 := (f4 s 23 (fun _ => by decide)).trans k233
      have Y4 := Y3.fT f4.T
      have F4 := F3.tr f4.T
      have A4 := mAt.at g224 A.le A.id
      refine w_zeq 49 l_196_38 (by decide) (fun _ => ?_) (fun hx => absurd hx (by decide))
      refine w_iln l_196_49 rfl ?_
      refine w_zeq 74 l_196_50 (by decide) (fun _ => ?_) (fun hx => absurd hx (by decide))
      refine w_aln l_196_74 rfl ?_
      refine w_ldcw l_196_75 (by decide) ?_
      refine p_iv [vs (2 * 29 + 4)] [] l_196_78 rfl rfl (Nat.le_of_ble_eq_true rfl) (by rw [mx_179]; exact Nat.le_of_ble_eq_true rfl) (by rw [mt_179]; exact oModel_sh hm) (by rw [mt_179]; decide) (by rw [rk_179]; decide) (s_179F hm H4 A4 k244 (q := 29) (by decide) (by rw [strB_same.2.2.2.2.2.2.2.2.2.2.1]; exact hw0)) (fun v I5 hv => ?_)
      obtain ⟨rfl, g225, f5⟩ := hv
      have H5 := H4.fT f5.T
      have k245 : I5 s 24 = 0 := (f5 s 24 (fun _ => by decide)).trans k244
      have k235 : I5 s 23 = I s 23 := (f5 s 23 (fun _ => by decide)).trans k234
      have Y5 := Y4.fT f5.T
      have F5 := F4.tr f5.T
      have A5 := mAt.at g225 A.le A.id
      refine w_zeq 91 l_196_81 (by decide) (fun _ => ?_) (fun hx => absurd hx (by decide))
      refine w_aln l_196_91 rfl ?_
      refine w_ldcw l_196_92 (by decide) ?_
      refine p_iv [vs (2 * 30 + 4)] [] l_196_95 rfl rfl (Nat.le_of_ble_eq_true rfl) (by rw [mx_179]; exact Nat.le_of_ble_eq_true rfl) (by rw [mt_179]; exact oModel_sh hm) (by rw [mt_179]; decide) (by rw [rk_179]; decide) (s_179F hm H5 A5 k245 (q := 30) (by decide) (by rw [strB_same.2.2.2.2.2.2.2.2.2.2.2.1]; exact hw1)) (fun v I6 hv => ?_)
      obtain ⟨rfl, g226, f6⟩ := hv
      have H6 := H5.fT f6.T
      have k246 : I6 s 24 = 0 := (f6 s 24 (fun _ => by decide)).trans k245
      have k236 : I6 s 23 = I s 23 := (f6 s 23 (fun _ => by decide)).trans k235
      have Y6 := Y5.fT f6.T
      have F6 := F5.tr f6.T
      have A6 := mAt.at g226 A.le A.id
      refine w_zeq 108 l_196_98 (by decide) (fun _ => ?_) (fun hx => absurd hx (by decide))
      refine w_aln l_196_108 rfl ?_
      refine w_ldcw l_196_109 (by decide) ?_
      refine p_iv [vs (2 * 31 + 4)] [] l_196_112 rfl rfl (Nat.le_of_ble_eq_true rfl) (by rw [mx_179]; exact Nat.le_of_ble_eq_true rfl) (by rw [mt_179]; exact oModel_sh hm) (by rw [mt_179]; decide) (by rw [rk_179]; decide) (s_179T hm H6 A6 k246 (q := 31) (by decide) (by rw [strB_same.2.2.2.2.2.2.2.2.2.2.2.2.2.2.1]; exact hw14)) (fun v I7 hv => ?_)
      obtain ⟨rfl, A7, f7⟩ := hv
      have H7 := H6.fT f7.T
      have k247 : I7 s 24 = 0 := (f7 s 24 (fun _ => by decide)).trans k246
      have k237 : I7 s 23 = I s 23 := (f7 s 23 (fun _ => by decide)).trans k236
      have Y7 := Y6.fT f7.T
      have F7 := F6.tr f7.T
      refine w_zeq 133 l_196_115 (by decide) (fun hx => absurd hx (by decide)) (fun _ => ?_)
      refine w_aln l_196_118 rfl ?_
      refine w_aln l_196_119 rfl ?_
      refine w_ic l_196_120 (by decide) ?_
      refine w_sp l_196_121 (by decide) ?_
      refine p_iv [vi 1, vi 400] [vr s] l_196_124 rfl rfl (Nat.le_of_ble_eq_true rfl) (by rw [mx_180]; exact Nat.le_of_ble_eq_true rfl) (by rw [mt_180]; exact oModel_sh hm) (by rw [mt_180]; decide) (by rw [rk_180]; decide) (by have g9 := s_180A (xs := xs) (cc := cc) (zz := zz) (lo := 1) (hi := 400) hm H7 A7 k247; rw [hq] at g9; exact g9) (fun v I99 hv => ?_)
      obtain ⟨⟨z9, rfl⟩, fz9, he, e24, e23⟩ := hv
      refine w_pi l_196_127 (oModel_sh hm) ?_
      refine w_go 227 l_196_130 (by decide) ?_
      refine w_vr l_196_227 ?_
      have hR : lineR t n P p = .inl e9 := by
        unfold lineR
        rw [if_neg (by rw [hw0]; decide), if_neg (by rw [hw1]; decide), if_neg (by rw [hw2, hw3]; decide), if_pos hw14]
        unfold setL
        rw [hq]
      exact ⟨_, _, rfl, rfl, rfl, (F7.P.tr fz9.P).up (Or.inl ⟨rfl, by decide, by decide⟩), by rw [hR]; exact ⟨he, (up_nj (by decide)).trans e24, (up_nj (by decide)).trans e23⟩⟩
    | inr a9 =>
      obtain ⟨v, p9⟩ := a9
      have hn := numR_ok hq
      have hp9 : p9 = nxt t n (nxt t n p) := hn.2.2.1
      have hng := nxt_ge (t := t) (n := n) (p := p)
      have hng2 := nxt_ge (t := t) (n := n) (p := nxt t n p)
      refine CL_start (r := 9) (ls := [vr s, vs 2]) (rk_196 _) rfl ?_
      refine w_aln l_196_0 rfl ?_
      refine p_iv [] [] l_196_1 rfl rfl (Nat.le_of_ble_eq_true rfl) (by rw [mx_174]; exact Nat.le_of_ble_eq_true rfl) (by rw [mt_174]; exact oModel_sh hm) (by rw [mt_174]; decide) (by rw [rk_174]; decide) (s_174A hm H A) (fun v I1 hv => ?_)
      obtain ⟨rfl, g221, f1⟩ := hv
      have H1 := H.fT f1.T
      have k241 : I1 s 24 = 0 := (f1 s 24 (fun _ => by decide)).trans h24
      have k231 : I1 s 23 = I s 23 := (f1 s 23 (fun _ => by decide))
      have Y1 := Y.fT f1.T
      have F1 := f1.T
      have A1 := mAt.at g221 A.le A.id
      refine w_pop l_196_4 rfl ?_
      refine w_aln l_196_5 rfl ?_
      refine w_ldcw l_196_6 (by decide) ?_
      refine p_iv [vs (2 * 27 + 4)] [] l_196_9 rfl rfl (Nat.le_of_ble_eq_true rfl) (by rw [mx_178]; exact Nat.le_of_ble_eq_true rfl) (by rw [mt_178]; exact oModel_sh hm) (by rw [mt_178]; decide) (by rw [rk_178]; decide) (by have g9 := s_178A (xs := xs) (cc := cc) (zz := zz) hm H1 A1 k241 (q := 27) (by decide); rw [strB_same.2.2.2.2.2.2.2.2.2.2.2.2.1, hw2] at g9; exact g9) (fun v I2 hv => ?_)
      obtain ⟨rfl, g222, f2⟩ := hv
      have H2 := H1.fT f2.T
      have k242 : I2 s 24 = 0 := (f2 s 24 (fun _ => by decide)).trans k241
      have k232 : I2 s 23 = I s 23 := (f2 s 23 (fun _ => by decide)).trans k231
      have Y2 := Y1.fT f2.T
      have F2 := F1.tr f2.T
      have A2 := mAt.at g222 A.le A.id
      refine w_zne 25 l_196_12 (by decide) (fun hx => absurd hx (by decide)) (fun _ => ?_)
      refine w_aln l_196_15 rfl ?_
      refine w_ldcw l_196_16 (by decide) ?_
      refine p_iv [vs (2 * 28 + 4)] [] l_196_19 rfl rfl (Nat.le_of_ble_eq_true rfl) (by rw [mx_178]; exact Nat.le_of_ble_eq_true rfl) (by rw [mt_178]; exact oModel_sh hm) (by rw [mt_178]; decide) (by rw [rk_178]; decide) (by have g9 := s_178A (xs := xs) (cc := cc) (zz := zz) hm H2 A2 k242 (q := 28) (by decide); rw [strB_same.2.2.2.2.2.2.2.2.2.2.2.2.2.1, hw3] at g9; exact g9) (fun v I3 hv => ?_)
      obtain ⟨rfl, g223, f3⟩ := hv
      have H3 := H2.fT f3.T
      have k243 : I3 s 24 = 0 := (f3 s 24 (fun _ => by decide)).trans k242
      have k233 : I3 s 23 = I s 23 := (f3 s 23 (fun _ => by decide)).trans k232
      have Y3 := Y2.fT f3.T
      have F3 := F2.tr f3.T
      have A3 := mAt.at g223 A.le A.id
      refine w_zeq 29 l_196_22 (by decide) (fun _ => ?_) (fun hx => absurd hx (by decide))
      refine w_ic l_196_29 (by decide) ?_
      refine w_isn l_196_30 ⟨Nat.le_of_ble_eq_true rfl, rfl⟩ ?_
      refine w_aln l_196_31 rfl ?_
      refine w_ldcw l_196_32 (by decide) ?_
      refine p_iv [vs (2 * 29 + 4)] [] l_196_35 rfl rfl (Nat.le_of_ble_eq_true rfl) (by rw [mx_178]; exact Nat.le_of_ble_eq_true rfl) (by rw [mt_178]; exact oModel_sh hm) (by rw [mt_178]; decide) (by rw [rk_178]; decide) (by have g9 := s_178A (xs := xs) (cc := cc) (zz := zz) hm H3 A3 k243 (q := 29) (by decide); rw [strB_same.2.2.2.2.2.2.2.2.2.2.1, hw0] at g9; exact g9) (fun v I4 hv => ?_)
      obtain ⟨rfl, g224, f4⟩ := hv
      have H4 := H3.fT f4.T
      have k244 : I4 s 24 = 0 := (f4 s 24 (fun _ => by decide)).trans k243
      have k234 : I4 s 23 = I s 23 := (f4 s 23 (fun _ => by decide)).trans k233
      have Y4 := Y3.fT f4.T
      have F4 := F3.tr f4.T
      have A4 := mAt.at g224 A.le A.id
      refine w_zeq 49 l_196_38 (by decide) (fun _ => ?_) (fun hx => absurd hx (by decide))
      refine w_iln l_196_49 rfl ?_
      refine w_zeq 74 l_196_50 (by decide) (fun _ => ?_) (fun hx => absurd hx (by decide))
      refine w_aln l_196_74 rfl ?_
      refine w_ldcw l_196_75 (by decide) ?_
      refine p_iv [vs (2 * 29 + 4)] [] l_196_78 rfl rfl (Nat.le_of_ble_eq_true rfl) (by rw [mx_179]; exact Nat.le_of_ble_eq_true rfl) (by rw [mt_179]; exact oModel_sh hm) (by rw [mt_179]; decide) (by rw [rk_179]; decide) (s_179F hm H4 A4 k244 (q := 29) (by decide) (by rw [strB_same.2.2.2.2.2.2.2.2.2.2.1]; exact hw0)) (fun v I5 hv => ?_)
      obtain ⟨rfl, g225, f5⟩ := hv
      have H5 := H4.fT f5.T
      have k245 : I5 s 24 = 0 := (f5 s 24 (fun _ => by decide)).trans k244
      have k235 : I5 s 23 = I s 23 := (f5 s 23 (fun _ => by decide)).trans k234
      have Y5 := Y4.fT f5.T
      have F5 := F4.tr f5.T
      have A5 := mAt.at g225 A.le A.id
      refine w_zeq 91 l_196_81 (by decide) (fun _ => ?_) (fun hx => absurd hx (by decide))
      refine w_aln l_196_91 rfl ?_
      refine w_ldcw l_196_92 (by decide) ?_
      refine p_iv [vs (2 * 30 + 4)] [] l_196_95 rfl rfl (Nat.le_of_ble_eq_true rfl) (by rw [mx_179]; exact Nat.le_of_ble_eq_true rfl) (by rw [mt_179]; exact oModel_sh hm) (by rw [mt_179]; decide) (by rw [rk_179]; decide) (s_179F hm H5 A5 k245 (q := 30) (by decide) (by rw [strB_same.2.2.2.2.2.2.2.2.2.2.2.1]; exact hw1)) (fun v I6 hv => ?_)
      obtain ⟨rfl, g226, f6⟩ := hv
      have H6 := H5.fT f6.T
      have k246 : I6 s 24 = 0 := (f6 s 24 (fun _ => by decide)).trans k245
      have k236 : I6 s 23 = I s 23 := (f6 s 23 (fun _ => by decide)).trans k235
      have Y6 := Y5.fT f6.T
      have F6 := F5.tr f6.T
      have A6 := mAt.at g226 A.le A.id
      refine w_zeq 108 l_196_98 (by decide) (fun _ => ?_) (fun hx => absurd hx (by decide))
      refine w_aln l_196_108 rfl ?_
      refine w_ldcw l_196_109 (by decide) ?_
      refine p_iv [vs (2 * 31 + 4)] [] l_196_112 rfl rfl (Nat.le_of_ble_eq_true rfl) (by rw [mx_179]; exact Nat.le_of_ble_eq_true rfl) (by rw [mt_179]; exact oModel_sh hm) (by rw [mt_179]; decide) (by rw [rk_179]; decide) (s_179T hm H6 A6 k246 (q := 31) (by decide) (by rw [strB_same.2.2.2.2.2.2.2.2.2.2.2.2.2.2.1]; exact hw14)) (fun v I7 hv => ?_)
      obtain ⟨rfl, A7, f7⟩ := hv
      have H7 := H6.fT f7.T
      have k247 : I7 s 24 = 0 := (f7 s 24 (fun _ => by decide)).trans k246
      have k237 : I7 s 23 = I s 23 := (f7 s 23 (fun _ => by decide)).trans k236
      have Y7 := Y6.fT f7.T
      have F7 := F6.tr f7.T
      refine w_zeq 133 l_196_115 (by decide) (fun hx => absurd hx (by decide)) (fun _ => ?_)
      refine w_aln l_196_118 rfl ?_
      refine w_aln l_196_119 rfl ?_
      refine w_ic l_196_120 (by decide) ?_
      refine w_sp l_196_121 (by decide) ?_
      refine p_iv [vi 1, vi 400] [vr s] l_196_124 rfl rfl (Nat.le_of_ble_eq_true rfl) (by rw [mx_180]; exact Nat.le_of_ble_eq_true rfl) (by rw [mt_180]; exact oModel_sh hm) (by rw [mt_180]; decide) (by rw [rk_180]; decide) (by have g9 := s_180A (xs := xs) (cc := cc) (zz := zz) (lo := 1) (hi := 400) hm H7 A7 k247; rw [hq] at g9; exact g9) (fun v I99 hv => ?_)
      obtain ⟨_, fz9, ⟨k24z, k23z⟩, rfl, A99⟩ := hv
      refine w_pi l_196_127 (oModel_sh hm) ?_
      refine w_go 227 l_196_130 (by decide) ?_
      refine w_vr l_196_227 ?_
      have hR : lineR t n P p = .inr (psBuf P v, p9) := by
        unfold lineR
        rw [if_neg (by rw [hw0]; decide), if_neg (by rw [hw1]; decide), if_neg (by rw [hw2, hw3]; decide), if_pos hw14]
        unfold setL
        rw [hq]
      have Y99 := Y7.fT fz9
      refine ⟨_, _, rfl, rfl, rfl, (F7.P.tr fz9.P).up (Or.inl ⟨rfl, by decide, by decide⟩), ?_⟩
      rw [hR]
      refine ⟨⟨(up_nj (by decide)).trans k24z, (up_nj (by decide)).trans (k23z.trans k237)⟩, ?_, tot, Y99.buf hn.2.1, ?_⟩
      · obtain ⟨j9, a9, b9, c9⟩ := A99
        exact ⟨j9, (up_nj (by decide)).trans a9, b9, c9⟩
      · show 2 * tot ≤ p9
        omega
  | false =>

  cases hw15 : isWL t n (strB 15) p with
  | true =>
    have hw0 := strB_dn (b := 0) hw15 (by decide) (by decide) (by decide)
    have hw1 := strB_dn (b := 1) hw15 (by decide) (by decide) (by decide)
    have hw2 := strB_dn (b := 2) hw15 (by decide) (by decide) (by decide)
    have hw3 := strB_dn (b := 3) hw15 (by decide) (by decide) (by decide)
    have hw14 := strB_dn (b := 14) hw15 (by decide) (by decide) (by decide)
    have hw16 := strB_dn (b := 16) hw15 (by decide) (by decide) (by decide)
    cases hq : numR t n 0 999 (nxt t n p) with
    | inl e9 =>
      refine CL_start (r := 9) (ls := [vr s, vs 2]) (rk_196 _) rfl ?_
      refine w_aln l_196_0 rfl ?_
      refine p_iv [] [] l_196_1 rfl rfl (Nat.le_of_ble_eq_true rfl) (by rw [mx_174]; exact Nat.le_of_ble_eq_true rfl) (by rw [mt_174]; exact oModel_sh hm) (by rw [mt_174]; decide) (by rw [rk_174]; decide) (s_174A hm H A) (fun v I1 hv => ?_)
      obtain ⟨rfl, g221, f1⟩ := hv
      have H1 := H.fT f1.T
      have k241 : I1 s 24 = 0 := (f1 s 24 (fun _ => by decide)).trans h24
      have k231 : I1 s 23 = I s 23 := (f1 s 23 (fun _ => by decide))
      have Y1 := Y.fT f1.T
      have F1 := f1.T
      have A1 := mAt.at g221 A.le A.id
      refine w_pop l_196_4 rfl ?_
      refine w_aln l_196_5 rfl ?_
      refine w_ldcw l_196_6 (by decide) ?_
      refine p_iv [vs (2 * 27 + 4)] [] l_196_9 rfl rfl (Nat.le_of_ble_eq_true rfl) (by rw [mx_178]; exact Nat.le_of_ble_eq_true rfl) (by rw [mt_178]; exact oModel_sh hm) (by rw [mt_178]; decide) (by rw [rk_178]; decide) (by have g9 := s_178A (xs := xs) (cc := cc) (zz := zz) hm H1 A1 k241 (q := 27) (by decide); rw [strB_same.2.2.2.2.2.2.2.2.2.2.2.2.1, hw2] at g9; exact g9) (fun v I2 hv => ?_)
      obtain ⟨rfl, g222, f2⟩ := hv
      have H2 := H1.fT f2.T
      have k242 : I2 s 24 = 0 := (f2 s 24 (fun _ => by decide)).trans k241
      have k232 : I2 s 23 = I s 23 := (f2 s 23 (fun _ => by decide)).trans k231
      have Y2 := Y1.fT f2.T
      have F2 := F1.tr f2.T
      have A2 := mAt.at g222 A.le A.id
      refine w_zne 25 l_196_12 (by decide) (fun hx => absurd hx (by decide)) (fun _ => ?_)
      refine w_aln l_196_15 rfl ?_
      refine w_ldcw l_196_16 (by decide) ?_
      refine p_iv [vs (2 * 28 + 4)] [] l_196_19 rfl rfl (Nat.le_of_ble_eq_true rfl) (by rw [mx_178]; exact Nat.le_of_ble_eq_true rfl) (by rw [mt_178]; exact oModel_sh hm) (by rw [mt_178]; decide) (by rw [rk_178]; decide) (by have g9 := s_178A (xs := xs) (cc := cc) (zz := zz) hm H2 A2 k242 (q := 28) (by decide); rw [strB_same.2.2.2.2.2.2.2.2.2.2.2.2.2.1, hw3] at g9; exact g9) (fun v I3 hv => ?_)
      obtain ⟨rfl, g223, f3⟩ := hv
      have H3 := H2.fT f3.T
      have k243 : I3 s 24 = 0 := (f3 s 24 (fun _ => by decide)).trans k242
      have k233 : I3 s 23 = I s 23 := (f3 s 23 (fun _ => by decide)).trans k232
      have Y3 := Y2.fT f3.T
      have F3 := F2.tr f3.T
      have A3 := mAt.at g223 A.le A.id
      refine w_zeq 29 l_196_22 (by decide) (fun _ => ?_) (fun hx => absurd hx (by decide))
      refine w_ic l_196_29 (by decide) ?_
      refine w_isn l_196_30 ⟨Nat.le_of_ble_eq_true rfl, rfl⟩ ?_
      refine w_aln l_196_31 rfl ?_
      refine w_ldcw l_196_32 (by decide) ?_
      refine p_iv [vs (2 * 29 + 4)] [] l_196_35 rfl rfl (Nat.le_of_ble_eq_true rfl) (by rw [mx_178]; exact Nat.le_of_ble_eq_true rfl) (by rw [mt_178]; exact oModel_sh hm) (by rw [mt_178]; decide) (by rw [rk_178]; decide) (by have g9 := s_178A (xs := xs) (cc := cc) (zz := zz) hm H3 A3 k243 (q := 29) (by decide); rw [strB_same.2.2.2.2.2.2.2.2.2.2.1, hw0] at g9; exact g9) (fun v I4 hv => ?_)
      obtain ⟨rfl, g224, f4⟩ := hv
      have H4 := H3.fT f4.T
      have k244 : I4 s 24 = 0 := (f4 s 24 (fun _ => by decide)).trans k243
      have k234 : I4 s 23 = I s 23 := (f4 s 23 (fun _ => by decide)).trans k233
      have Y4 := Y3.fT f4.T
      have F4 := F3.tr f4.T
      have A4 := mAt.at g224 A.le A.id
      refine w_zeq 49 l_196_38 (by decide) (fun _ => ?_) (fun hx => absurd hx (by decide))
      refine w_iln l_196_49 rfl ?_
      refine w_zeq 74 l_196_50 (by decide) (fun _ => ?_) (fun hx => absurd hx (by decide))
      refine w_aln l_196_74 rfl ?_
      refine w_ldcw l_196_75 (by decide) ?_
      refine p_iv [vs (2 * 29 + 4)] [] l_196_78 rfl rfl (Nat.le_of_ble_eq_true rfl) (by rw [mx_179]; exact Nat.le_of_ble_eq_true rfl) (by rw [mt_179]; exact oModel_sh hm) (by rw [mt_179]; decide) (by rw [rk_179]; decide) (s_179F hm H4 A4 k244 (q := 29) (by decide) (by rw [strB_same.2.2.2.2.2.2.2.2.2.2.1]; exact hw0)) (fun v I5 hv => ?_)
      obtain ⟨rfl, g225, f5⟩ := hv
      have H5 := H4.fT f5.T
      have k245 : I5 s 24 = 0 := (f5 s 24 (fun _ => by decide)).trans k244
      have k235 : I5 s 23 = I s 23 := (f5 s 23 (fun _ => by decide)).trans k234
      have Y5 := Y4.fT f5.T
      have F5 := F4.tr f5.T
      have A5 := mAt.at g225 A.le A.id
      refine w_zeq 91 l_196_81 (by decide) (fun _ => ?_) (fun hx => absurd hx (by decide))
      refine w_aln l_196_91 rfl ?_
      refine w_ldcw l_196_92 (by decide) ?_
      refine p_iv [vs (2 * 30 + 4)] [] l_196_95 rfl rfl (Nat.le_of_ble_eq_true rfl) (by rw [mx_179]; exact Nat.le_of_ble_eq_true rfl) (by rw [mt_179]; exact oModel_sh hm) (by rw [mt_179]; decide) (by rw [rk_179]; decide) (s_179F hm H5 A5 k245 (q := 30) (by decide) (by rw [strB_same.2.2.2.2.2.2.2.2.2.2.2.1]; exact hw1)) (fun v I6 hv => ?_)
      obtain ⟨rfl, g226, f6⟩ := hv
      have H6 := H5.fT f6.T
      have k246 : I6 s 24 = 0 := (f6 s 24 (fun _ => by decide)).trans k245
      have k236 : I6 s 23 = I s 23 := (f6 s 23 (fun _ => by decide)).trans k235
      have Y6 := Y5.fT f6.T
      have F6 := F5.tr f6.T
      have A6 := mAt.at g226 A.le A.id
      refine w_zeq 108 l_196_98 (by decide) (fun _ => ?_) (fun hx => absurd hx (by decide))
      refine w_aln l_196_108 rfl ?_
      refine w_ldcw l_196_109 (by decide) ?_
      refine p_iv [vs (2 * 31 + 4)] [] l_196_112 rfl rfl (Nat.le_of_ble_eq_true rfl) (by rw [mx_179]; exact Nat.le_of_ble_eq_true rfl) (by rw [mt_179]; exact oModel_sh hm) (by rw [mt_179]; decide) (by rw [rk_179]; decide) (s_179F hm H6 A6 k246 (q := 31) (by decide) (by rw [strB_same.2.2.2.2.2.2.2.2.2.2.2.2.2.2.1]; exact hw14)) (fun v I7 hv => ?_)
      obtain ⟨rfl, g227, f7⟩ := hv
      have H7 := H6.fT f7.T
      have k247 : I7 s 24 = 0 := (f7 s 24 (fun _ => by decide)).trans k246
      have k237 : I7 s 23 = I s 23 := (f7 s 23 (fun _ => by decide)).trans k236
      have Y7 := Y6.fT f7.T
      have F7 := F6.tr f7.T
      have A7 := mAt.at g227 A.le A.id
      refine w_zeq 133 l_196_115 (by decide) (fun _ => ?_) (fun hx => absurd hx (by decide))
      refine w_aln l_196_133 rfl ?_
      refine w_ldcw l_196_134 (by decide) ?_
      refine p_iv [vs (2 * 32 + 4)] [] l_196_137 rfl rfl (Nat.le_of_ble_eq_true rfl) (by rw [mx_179]; exact Nat.le_of_ble_eq_true rfl) (by rw [mt_179]; exact oModel_sh hm) (by rw [mt_179]; decide) (by rw [rk_179]; decide) (s_179T hm H7 A7 k247 (q := 32) (by decide) (by rw [strB_same.2.2.2.2.2.2.2.2.2.2.2.2.2.2.2.1]; exact hw15)) (fun v I8 hv => ?_)
      obtain ⟨rfl, A8, f8⟩ := hv
      have H8 := H7.fT f8.T
      have k248 : I8 s 24 = 0 := (f8 s 24 (fun _ => by decide)).trans k247
      have k238 : I8 s 23 = I s 23 := (f8 s 23 (fun _ => by decide)).trans k237
      have Y8 := Y7.fT f8.T
      have F8 := F7.tr f8.T
      refine w_zeq 158 l_196_140 (by decide) (fun hx => absurd hx (by decide)) (fun _ => ?_)
      refine w_aln l_196_143 rfl ?_
      refine w_aln l_196_144 rfl ?_
      refine w_ic l_196_145 (by decide) ?_
      refine w_sp l_196_146 (by decide) ?_
      refine p_iv [vi 0, vi 999] [vr s] l_196_149 rfl rfl (Nat.le_of_ble_eq_true rfl) (by rw [mx_180]; exact Nat.le_of_ble_eq_true rfl) (by rw [mt_180]; exact oModel_sh hm) (by rw [mt_180]; decide) (by rw [rk_180]; decide) (by have g9 := s_180A (xs := xs) (cc := cc) (zz := zz) (lo := 0) (hi := 999) hm H8 A8 k248; rw [hq] at g9; exact g9) (fun v I99 hv => ?_)
      obtain ⟨⟨z9, rfl⟩, fz9, he, e24, e23⟩ := hv
      refine w_pi l_196_152 (oModel_sh hm) ?_
      refine w_go 227 l_196_155 (by decide) ?_
      refine w_vr l_196_227 ?_
      have hR : lineR t n P p = .inl e9 := by
        unfold lineR
        rw [if_neg (by rw [hw0]; decide), if_neg (by rw [hw1]; decide), if_neg (by rw [hw2, hw3]; decide), if_neg (by rw [hw14]; decide), if_pos hw15]
        unfold setL
        rw [hq]
      exact ⟨_, _, rfl, rfl, rfl, (F8.P.tr fz9.P).up (Or.inl ⟨rfl, by decide, by decide⟩), by rw [hR]; exact ⟨he, (up_nj (by decide)).trans e24, (up_nj (by decide)).trans e23⟩⟩
    | inr a9 =>
      obtain ⟨v, p9⟩ := a9
      have hn := numR_ok hq
      have hp9 : p9 = nxt t n (nxt t n p) := hn.2.2.1
      have hng := nxt_ge (t := t) (n := n) (p := p)
      have hng2 := nxt_ge (t := t) (n := n) (p := nxt t n p)
      refine CL_start (r := 9) (ls := [vr s, vs 2]) (rk_196 _) rfl ?_
      refine w_aln l_196_0 rfl ?_
      refine p_iv [] [] l_196_1 rfl rfl (Nat.le_of_ble_eq_true rfl) (by rw [mx_174]; exact Nat.le_of_ble_eq_true rfl) (by rw [mt_174]; exact oModel_sh hm) (by rw [mt_174]; decide) (by rw [rk_174]; decide) (s_174A hm H A) (fun v I1 hv => ?_)
      obtain ⟨rfl, g221, f1⟩ := hv
      have H1 := H.fT f1.T
      have k241 : I1 s 24 = 0 := (f1 s 24 (fun _ => by decide)).trans h24
      have k231 : I1 s 23 = I s 23 := (f1 s 23 (fun _ => by decide))
      have Y1 := Y.fT f1.T
      have F1 := f1.T
      have A1 := mAt.at g221 A.le A.id
      refine w_pop l_196_4 rfl ?_
      refine w_aln l_196_5 rfl ?_
      refine w_ldcw l_196_6 (by decide) ?_
      refine p_iv [vs (2 * 27 + 4)] [] l_196_9 rfl rfl (Nat.le_of_ble_eq_true rfl) (by rw [mx_178]; exact Nat.le_of_ble_eq_true rfl) (by rw [mt_178]; exact oModel_sh hm) (by rw [mt_178]; decide) (by rw [rk_178]; decide) (by have g9 := s_178A (xs := xs) (cc := cc) (zz := zz) hm H1 A1 k241 (q := 27) (by decide); rw [strB_same.2.2.2.2.2.2.2.2.2.2.2.2.1, hw2] at g9; exact g9) (fun v I2 hv => ?_)
      obtain ⟨rfl, g222, f2⟩ := hv
      have H2 := H1.fT f2.T
      have k242 : I2 s 24 = 0 := (f2 s 24 (fun _ => by decide)).trans k241
      have k232 : I2 s 23 = I s 23 := (f2 s 23 (fun _ => by decide)).trans k231
      have Y2 := Y1.fT f2.T
      have F2 := F1.tr f2.T
      have A2 := mAt.at g222 A.le A.id
      refine w_zne 25 l_196_12 (by decide) (fun hx => absurd hx (by decide)) (fun _ => ?_)
      refine w_aln l_196_15 rfl ?_
      refine w_ldcw l_196_16 (by decide) ?_
      refine p_iv [vs (2 * 28 + 4)] [] l_196_19 rfl rfl (Nat.le_of_ble_eq_true rfl) (by rw [mx_178]; exact Nat.le_of_ble_eq_true rfl) (by rw [mt_178]; exact oModel_sh hm) (by rw [mt_178]; decide) (by rw [rk_178]; decide) (by have g9 := s_178A (xs := xs) (cc := cc) (zz := zz) hm H2 A2 k242 (q := 28) (by decide); rw [strB_same.2.2.2.2.2.2.2.2.2.2.2.2.2.1, hw3] at g9; exact g9) (fun v I3 hv => ?_)
      obtain ⟨rfl, g223, f3⟩ := hv
      have H3 := H2.fT f3.T
      have k243 : I3 s 24 = 0 := (f3 s 24 (fun _ => by decide)).trans k242
      have k233 : I3 s 23 = I s 23 := (f3 s 23 (fun _ => by decide)).trans k232
      have Y3 := Y2.fT f3.T
      have F3 := F2.tr f3.T
      have A3 := mAt.at g223 A.le A.id
      refine w_zeq 29 l_196_22 (by decide) (fun _ => ?_) (fun hx => absurd hx (by decide))
      refine w_ic l_196_29 (by decide) ?_
      refine w_isn l_196_30 ⟨Nat.le_of_ble_eq_true rfl, rfl⟩ ?_
      refine w_aln l_196_31 rfl ?_
      refine w_ldcw l_196_32 (by decide) ?_
      refine p_iv [vs (2 * 29 + 4)] [] l_196_35 rfl rfl (Nat.le_of_ble_eq_true rfl) (by rw [mx_178]; exact Nat.le_of_ble_eq_true rfl) (by rw [mt_178]; exact oModel_sh hm) (by rw [mt_178]; decide) (by rw [rk_178]; decide) (by have g9 := s_178A (xs := xs) (cc := cc) (zz := zz) hm H3 A3 k243 (q := 29) (by decide); rw [strB_same.2.2.2.2.2.2.2.2.2.2.1, hw0] at g9; exact g9) (fun v I4 hv => ?_)
      obtain ⟨rfl, g224, f4⟩ := hv
      have H4 := H3.fT f4.T
      have k244 : I4 s 24 = 0 := (f4 s 24 (fun _ => by decide)).trans k243
      have k234 : I4 s 23 = I s 23 := (f4 s 23 (fun _ => by decide)).trans k233
      have Y4 := Y3.fT f4.T
      have F4 := F3.tr f4.T
      have A4 := mAt.at g224 A.le A.id
      refine w_zeq 49 l_196_38 (by decide) (fun _ => ?_) (fun hx => absurd hx (by decide))
      refine w_iln l_196_49 rfl ?_
      refine w_zeq 74 l_196_50 (by decide) (fun _ => ?_) (fun hx => absurd hx (by decide))
      refine w_aln l_196_74 rfl ?_
      refine w_ldcw l_196_75 (by decide) ?_
      refine p_iv [vs (2 * 29 + 4)] [] l_196_78 rfl rfl (Nat.le_of_ble_eq_true rfl) (by rw [mx_179]; exact Nat.le_of_ble_eq_true rfl) (by rw [mt_179]; exact oModel_sh hm) (by rw [mt_179]; decide) (by rw [rk_179]; decide) (s_179F hm H4 A4 k244 (q := 29) (by decide) (by rw [strB_same.2.2.2.2.2.2.2.2.2.2.1]; exact hw0)) (fun v I5 hv => ?_)
      obtain ⟨rfl, g225, f5⟩ := hv
      have H5 := H4.fT f5.T
      have k245 : I5 s 24 = 0 := (f5 s 24 (fun _ => by decide)).trans k244
      have k235 : I5 s 23 = I s 23 := (f5 s 23 (fun _ => by decide)).trans k234
      have Y5 := Y4.fT f5.T
      have F5 := F4.tr f5.T
      have A5 := mAt.at g225 A.le A.id
      refine w_zeq 91 l_196_81 (by decide) (fun _ => ?_) (fun hx => absurd hx (by decide))
      refine w_aln l_196_91 rfl ?_
      refine w_ldcw l_196_92 (by decide) ?_
      refine p_iv [vs (2 * 30 + 4)] [] l_196_95 rfl rfl (Nat.le_of_ble_eq_true rfl) (by rw [mx_179]; exact Nat.le_of_ble_eq_true rfl) (by rw [mt_179]; exact oModel_sh hm) (by rw [mt_179]; decide) (by rw [rk_179]; decide) (s_179F hm H5 A5 k245 (q := 30) (by decide) (by rw [strB_same.2.2.2.2.2.2.2.2.2.2.2.1]; exact hw1)) (fun v I6 hv => ?_)
      obtain ⟨rfl, g226, f6⟩ := hv
      have H6 := H5.fT f6.T
      have k246 : I6 s 24 = 0 := (f6 s 24 (fun _ => by decide)).trans k245
      have k236 : I6 s 23 = I s 23 := (f6 s 23 (fun _ => by decide)).trans k235
      have Y6 := Y5.fT f6.T
      have F6 := F5.tr f6.T
      have A6 := mAt.at g226 A.le A.id
      refine w_zeq 108 l_196_98 (by decide) (fun _ => ?_) (fun hx => absurd hx (by decide))
      refine w_aln l_196_108 rfl ?_
      refine w_ldcw l_196_109 (by decide) ?_
      refine p_iv [vs (2 * 31 + 4)] [] l_196_112 rfl rfl (Nat.le_of_ble_eq_true rfl) (by rw [mx_179]; exact Nat.le_of_ble_eq_true rfl) (by rw [mt_179]; exact oModel_sh hm) (by rw [mt_179]; decide) (by rw [rk_179]; decide) (s_179F hm H6 A6 k246 (q := 31) (by decide) (by rw [strB_same.2.2.2.2.2.2.2.2.2.2.2.2.2.2.1]; exact hw14)) (fun v I7 hv => ?_)
      obtain ⟨rfl, g227, f7⟩ := hv
      have H7 := H6.fT f7.T
      have k247 : I7 s 24 = 0 := (f7 s 24 (fun _ => by decide)).trans k246
      have k237 : I7 s 23 = I s 23 := (f7 s 23 (fun _ => by decide)).trans k236
      have Y7 := Y6.fT f7.T
      have F7 := F6.tr f7.T
      have A7 := mAt.at g227 A.le A.id
      refine w_zeq 133 l_196_115 (by decide) (fun _ => ?_) (fun hx => absurd hx (by decide))
      refine w_aln l_196_133 rfl ?_
      refine w_ldcw l_196_134 (by decide) ?_
      refine p_iv [vs (2 * 32 + 4)] [] l_196_137 rfl rfl (Nat.le_of_ble_eq_true rfl) (by rw [mx_179]; exact Nat.le_of_ble_eq_true rfl) (by rw [mt_179]; exact oModel_sh hm) (by rw [mt_179]; decide) (by rw [rk_179]; decide) (s_179T hm H7 A7 k247 (q := 32) (by decide) (by rw [strB_same.2.2.2.2.2.2.2.2.2.2.2.2.2.2.2.1]; exact hw15)) (fun v I8 hv => ?_)
      obtain ⟨rfl, A8, f8⟩ := hv
      have H8 := H7.fT f8.T
      have k248 : I8 s 24 = 0 := (f8 s 24 (fun _ => by decide)).trans k247
      have k238 : I8 s 23 = I s 23 := (f8 s 23 (fun _ => by decide)).trans k237
      have Y8 := Y7.fT f8.T
      have F8 := F7.tr f8.T
      refine w_zeq 158 l_196_140 (by decide) (fun hx => absurd hx (by decide)) (fun _ => ?_)
      refine w_aln l_196_143 rfl ?_
      refine w_aln l_196_144 rfl ?_
      refine w_ic l_196_145 (by decide) ?_
      refine w_sp l_196_146 (by decide) ?_
      refine p_iv [vi 0, vi 999] [vr s] l_196_149 rfl rfl (Nat.le_of_ble_eq_true rfl) (by rw [mx_180]; exact Nat.le_of_ble_eq_true rfl) (by rw [mt_180]; exact oModel_sh hm) (by rw [mt_180]; decide) (by rw [rk_180]; decide) (by have g9 := s_180A (xs := xs) (cc := cc) (zz := zz) (lo := 0) (hi := 999) hm H8 A8 k248; rw [hq] at g9; exact g9) (fun v I99 hv => ?_)
      obtain ⟨_, fz9, ⟨k24z, k23z⟩, rfl, A99⟩ := hv
      refine w_pi l_196_152 (oModel_sh hm) ?_
      refine w_go 227 l_196_155 (by decide) ?_
      refine w_vr l_196_227 ?_
      have hR : lineR t n P p = .inr (psAge P v, p9) := by
        unfold lineR
        rw [if_neg (by rw [hw0]; decide), if_neg (by rw [hw1]; decide), if_neg (by rw [hw2, hw3]; decide), if_neg (by rw [hw14]; decide), if_pos hw15]
        unfold setL
        rw [hq]
      have Y99 := Y8.fT fz9
      refine ⟨_, _, rfl, rfl, rfl, (F8.P.tr fz9.P).up (Or.inl ⟨rfl, by decide, by decide⟩), ?_⟩
      rw [hR]
      refine ⟨⟨(up_nj (by decide)).trans k24z, (up_nj (by decide)).trans (k23z.trans k238)⟩, ?_, tot, Y99.age hn.2.1, ?_⟩
      · obtain ⟨j9, a9, b9, c9⟩ := A99
        exact ⟨j9, (up_nj (by decide)).trans a9, b9, c9⟩
      · show 2 * tot ≤ p9
        omega
  | false =>

  cases hw16 : isWL t n (strB 16) p with
  | true =>
    have hw0 := strB_dn (b := 0) hw16 (by decide) (by decide) (by decide)
    have hw1 := strB_dn (b := 1) hw16 (by decide) (by decide) (by decide)
    have hw2 := strB_dn (b := 2) hw16 (by decide) (by decide) (by decide)
    have hw3 := strB_dn (b := 3) hw16 (by decide) (by decide) (by decide)
    have hw14 := strB_dn (b := 14) hw16 (by decide) (by decide) (by decide)
    have hw15 := strB_dn (b := 15) hw16 (by decide) (by decide) (by decide)
    cases hq : numR t n 1 99 (nxt t n p) with
    | inl e9 =>
      refine CL_start (r := 9) (ls := [vr s, vs 2]) (rk_196 _) rfl ?_
      refine w_aln l_196_0 rfl ?_
      refine p_iv [] [] l_196_1 rfl rfl (Nat.le_of_ble_eq_true rfl) (by rw [mx_174]; exact Nat.le_of_ble_eq_true rfl) (by rw [mt_174]; exact oModel_sh hm) (by rw [mt_174]; decide) (by rw [rk_174]; decide) (s_174A hm H A) (fun v I1 hv => ?_)
      obtain ⟨rfl, g221, f1⟩ := hv
      have H1 := H.fT f1.T
      have k241 : I1 s 24 = 0 := (f1 s 24 (fun _ => by decide)).trans h24
      have k231 : I1 s 23 = I s 23 := (f1 s 23 (fun _ => by decide))
      have Y1 := Y.fT f1.T
      have F1 := f1.T
      have A1 := mAt.at g221 A.le A.id
      refine w_pop l_196_4 rfl ?_
      refine w_aln l_196_5 rfl ?_
      refine w_ldcw l_196_6 (by decide) ?_
      refine p_iv [vs (2 * 27 + 4)] [] l_196_9 rfl rfl (Nat.le_of_ble_eq_true rfl) (by rw [mx_178]; exact Nat.le_of_ble_eq_true rfl) (by rw [mt_178]; exact oModel_sh hm) (by rw [mt_178]; decide) (by rw [rk_178]; decide) (by have g9 := s_178A (xs := xs) (cc := cc) (zz := zz) hm H1 A1 k241 (q := 27) (by decide); rw [strB_same.2.2.2.2.2.2.2.2.2.2.2.2.1, hw2] at g9; exact g9) (fun v I2 hv => ?_)
      obtain ⟨rfl, g222, f2⟩ := hv
      have H2 := H1.fT f2.T
      have k242 : I2 s 24 = 0 := (f2 s 24 (fun _ => by decide)).trans k241
      have k232 : I2 s 23 = I s 23 := (f2 s 23 (fun _ => by decide)).trans k231
      have Y2 := Y1.fT f2.T
      have F2 := F1.tr f2.T
      have A2 := mAt.at g222 A.le A.id
      refine w_zne 25 l_196_12 (by decide) (fun hx => absurd hx (by decide)) (fun _ => ?_)
      refine w_aln l_196_15 rfl ?_
      refine w_ldcw l_196_16 (by decide) ?_
      refine p_iv [vs (2 * 28 + 4)] [] l_196_19 rfl rfl (Nat.le_of_ble_eq_true rfl) (by rw [mx_178]; exact Nat.le_of_ble_eq_true rfl) (by rw [mt_178]; exact oModel_sh hm) (by rw [mt_178]; decide) (by rw [rk_178]; decide) (by have g9 := s_178A (xs := xs) (cc := cc) (zz := zz) hm H2 A2 k242 (q := 28) (by decide); rw [strB_same.2.2.2.2.2.2.2.2.2.2.2.2.2.1, hw3] at g9; exact g9) (fun v I3 hv => ?_)
      obtain ⟨rfl, g223, f3⟩ := hv
      have H3 := H2.fT f3.T
      have k243 : I3 s 24 = 0 := (f3 s 24 (fun _ => by decide)).trans k242
      have k233 : I3 s 23 = I s 23 := (f3 s 23 (fun _ => by decide)).trans k232
      have Y3 := Y2.fT f3.T
      have F3 := F2.tr f3.T
      have A3 := mAt.at g223 A.le A.id
      refine w_zeq 29 l_196_22 (by decide) (fun _ => ?_) (fun hx => absurd hx (by decide))
      refine w_ic l_196_29 (by decide) ?_
      refine w_isn l_196_30 ⟨Nat.le_of_ble_eq_true rfl, rfl⟩ ?_
      refine w_aln l_196_31 rfl ?_
      refine w_ldcw l_196_32 (by decide) ?_
      refine p_iv [vs (2 * 29 + 4)] [] l_196_35 rfl rfl (Nat.le_of_ble_eq_true rfl) (by rw [mx_178]; exact Nat.le_of_ble_eq_true rfl) (by rw [mt_178]; exact oModel_sh hm) (by rw [mt_178]; decide) (by rw [rk_178]; decide) (by have g9 := s_178A (xs := xs) (cc := cc) (zz := zz) hm H3 A3 k243 (q := 29) (by decide); rw [strB_same.2.2.2.2.2.2.2.2.2.2.1, hw0] at g9; exact g9) (fun v I4 hv => ?_)
      obtain ⟨rfl, g224, f4⟩ := hv
      have H4 := H3.fT f4.T
      have k244 : I4 s 24 = 0 := (f4 s 24 (fun _ => by decide)).trans k243
      have k234 : I4 s 23 = I s 23 := (f4 s 23 (fun _ => by decide)).trans k233
      have Y4 := Y3.fT f4.T
      have F4 := F3.tr f4.T
      have A4 := mAt.at g224 A.le A.id
      refine w_zeq 49 l_196_38 (by decide) (fun _ => ?_) (fun hx => absurd hx (by decide))
      refine w_iln l_196_49 rfl ?_
      refine w_zeq 74 l_196_50 (by decide) (fun _ => ?_) (fun hx => absurd hx (by decide))
      refine w_aln l_196_74 rfl ?_
      refine w_ldcw l_196_75 (by decide) ?_
      refine p_iv [vs (2 * 29 + 4)] [] l_196_78 rfl rfl (Nat.le_of_ble_eq_true rfl) (by rw [mx_179]; exact Nat.le_of_ble_eq_true rfl) (by rw [mt_179]; exact oModel_sh hm) (by rw [mt_179]; decide) (by rw [rk_179]; decide) (s_179F hm H4 A4 k244 (q := 29) (by decide) (by rw [strB_same.2.2.2.2.2.2.2.2.2.2.1]; exact hw0)) (fun v I5 hv => ?_)
      obtain ⟨rfl, g225, f5⟩ := hv
      have H5 := H4.fT f5.T
      have k245 : I5 s 24 = 0 := (f5 s 24 (fun _ => by decide)).trans k244
      have k235 : I5 s 23 = I s 23 := (f5 s 23 (fun _ => by decide)).trans k234
      have Y5 := Y4.fT f5.T
      have F5 := F4.tr f5.T
      have A5 := mAt.at g225 A.le A.id
      refine w_zeq 91 l_196_81 (by decide) (fun _ => ?_) (fun hx => absurd hx (by decide))
      refine w_aln l_196_91 rfl ?_
      refine w_ldcw l_196_92 (by decide) ?_
      refine p_iv [vs (2 * 30 + 4)] [] l_196_95 rfl rfl (Nat.le_of_ble_eq_true rfl) (by rw [mx_179]; exact Nat.le_of_ble_eq_true rfl) (by rw [mt_179]; exact oModel_sh hm) (by rw [mt_179]; decide) (by rw [rk_179]; decide) (s_179F hm H5 A5 k245 (q := 30) (by decide) (by rw [strB_same.2.2.2.2.2.2.2.2.2.2.2.1]; exact hw1)) (fun v I6 hv => ?_)
      obtain ⟨rfl, g226, f6⟩ := hv
      have H6 := H5.fT f6.T
      have k246 : I6 s 24 = 0 := (f6 s 24 (fun _ => by decide)).trans k245
      have k236 : I6 s 23 = I s 23 := (f6 s 23 (fun _ => by decide)).trans k235
      have Y6 := Y5.fT f6.T
      have F6 := F5.tr f6.T
      have A6 := mAt.at g226 A.le A.id
      refine w_zeq 108 l_196_98 (by decide) (fun _ => ?_) (fun hx => absurd hx (by decide))
      refine w_aln l_196_108 rfl ?_
      refine w_ldcw l_196_109 (by decide) ?_
      refine p_iv [vs (2 * 31 + 4)] [] l_196_112 rfl rfl (Nat.le_of_ble_eq_true rfl) (by rw [mx_179]; exact Nat.le_of_ble_eq_true rfl) (by rw [mt_179]; exact oModel_sh hm) (by rw [mt_179]; decide) (by rw [rk_179]; decide) (s_179F hm H6 A6 k246 (q := 31) (by decide) (by rw [strB_same.2.2.2.2.2.2.2.2.2.2.2.2.2.2.1]; exact hw14)) (fun v I7 hv => ?_)
      obtain ⟨rfl, g227, f7⟩ := hv
      have H7 := H6.fT f7.T
      have k247 : I7 s 24 = 0 := (f7 s 24 (fun _ => by decide)).trans k246
      have k237 : I7 s 23 = I s 23 := (f7 s 23 (fun _ => by decide)).trans k236
      have Y7 := Y6.fT f7.T
      have F7 := F6.tr f7.T
      have A7 := mAt.at g227 A.le A.id
      refine w_zeq 133 l_196_115 (by decide) (fun _ => ?_) (fun hx => absurd hx (by decide))
      refine w_aln l_196_133 rfl ?_
      refine w_ldcw l_196_134 (by decide) ?_
      refine p_iv [vs (2 * 32 + 4)] [] l_196_137 rfl rfl (Nat.le_of_ble_eq_true rfl) (by rw [mx_179]; exact Nat.le_of_ble_eq_true rfl) (by rw [mt_179]; exact oModel_sh hm) (by rw [mt_179]; decide) (by rw [rk_179]; decide) (s_179F hm H7 A7 k247 (q := 32) (by decide) (by rw [strB_same.2.2.2.2.2.2.2.2.2.2.2.2.2.2.2.1]; exact hw15)) (fun v I8 hv => ?_)
      obtain ⟨rfl, g228, f8⟩ := hv
      have H8 := H7.fT f8.T
      have k248 : I8 s 24 = 0 := (f8 s 24 (fun _ => by decide)).trans k247
      have k238 : I8 s 23 = I s 23 := (f8 s 23 (fun _ => by decide)).trans k237
      have Y8 := Y7.fT f8.T
      have F8 := F7.tr f8.T
      have A8 := mAt.at g228 A.le A.id
      refine w_zeq 158 l_196_140 (by decide) (fun _ => ?_) (fun hx => absurd hx (by decide))
      refine w_aln l_196_158 rfl ?_
      refine w_ldcw l_196_159 (by decide) ?_
      refine p_iv [vs (2 * 33 + 4)] [] l_196_162 rfl rfl (Nat.le_of_ble_eq_true rfl) (by rw [mx_179]; exact Nat.le_of_ble_eq_true rfl) (by rw [mt_179]; exact oModel_sh hm) (by rw [mt_179]; decide) (by rw [rk_179]; decide) (s_179T hm H8 A8 k248 (q := 33) (by decide) (by rw [strB_same.2.2.2.2.2.2.2.2.2.2.2.2.2.2.2.2.1]; exact hw16)) (fun v I9 hv => ?_)
      obtain ⟨rfl, A9, f9⟩ := hv
      have H9 := H8.fT f9.T
      have k249 : I9 s 24 = 0 := (f9 s 24 (fun _ => by decide)).trans k248
      have k239 : I9 s 23 = I s 23 := (f9 s 23 (fun _ => by decide)).trans k238
      have Y9 := Y8.fT f9.T
      have F9 := F8.tr f9.T
      refine w_zeq 182 l_196_165 (by decide) (fun hx => absurd hx (by decide)) (fun _ => ?_)
      refine w_aln l_196_168 rfl ?_
      refine w_aln l_196_169 rfl ?_
      refine w_ic l_196_170 (by decide) ?_
      refine w_bp l_196_171 (by decide) ?_
      refine p_iv [vi 1, vi 99] [vr s] l_196_173 rfl rfl (Nat.le_of_ble_eq_true rfl) (by rw [mx_180]; exact Nat.le_of_ble_eq_true rfl) (by rw [mt_180]; exact oModel_sh hm) (by rw [mt_180]; decide) (by rw [rk_180]; decide) (by have g9 := s_180A (xs := xs) (cc := cc) (zz := zz) (lo := 1) (hi := 99) hm H9 A9 k249; rw [hq] at g9; exact g9) (fun v I99 hv => ?_)
      obtain ⟨⟨z9, rfl⟩, fz9, he, e24, e23⟩ := hv
      refine w_pi l_196_176 (oModel_sh hm) ?_
      refine w_go 227 l_196_179 (by decide) ?_
      refine w_vr l_196_227 ?_
      have hR : lineR t n P p = .inl e9 := by
        unfold lineR
        rw [if_neg (by rw [hw0]; decide), if_neg (by rw [hw1]; decide), if_neg (by rw [hw2, hw3]; decide), if_neg (by rw [hw14]; decide), if_neg (by rw [hw15]; decide), if_pos hw16]
        unfold setL
        rw [hq]
      exact ⟨_, _, rfl, rfl, rfl, (F9.P.tr fz9.P).up (Or.inl ⟨rfl, by decide, by decide⟩), by rw [hR]; exact ⟨he, (up_nj (by decide)).trans e24, (up_nj (by decide)).trans e23⟩⟩
    | inr a9 =>
      obtain ⟨v, p9⟩ := a9
      have hn := numR_ok hq
      have hp9 : p9 = nxt t n (nxt t n p) := hn.2.2.1
      have hng := nxt_ge (t := t) (n := n) (p := p)
      have hng2 := nxt_ge (t := t) (n := n) (p := nxt t n p)
      refine CL_start (r := 9) (ls := [vr s, vs 2]) (rk_196 _) rfl ?_
      refine w_aln l_196_0 rfl ?_
      refine p_iv [] [] l_196_1 rfl rfl (Nat.le_of_ble_eq_true rfl) (by rw [mx_174]; exact Nat.le_of_ble_eq_true rfl) (by rw [mt_174]; exact oModel_sh hm) (by rw [mt_174]; decide) (by rw [rk_174]; decide) (s_174A hm H A) (fun v I1 hv => ?_)
      obtain ⟨rfl, g221, f1⟩ := hv
      have H1 := H.fT f1.T
      have k241 : I1 s 24 = 0 := (f1 s 24 (fun _ => by decide)).trans h24
      have k231 : I1 s 23 = I s 23 := (f1 s 23 (fun _ => by decide))
      have Y1 := Y.fT f1.T
      have F1 := f1.T
      have A1 := mAt.at g221 A.le A.id
      refine w_pop l_196_4 rfl ?_
      refine w_aln l_196_5 rfl ?_
      refine w_ldcw l_196_6 (by decide) ?_
      refine p_iv [vs (2 * 27 + 4)] [] l_196_9 rfl rfl (Nat.le_of_ble_eq_true rfl) (by rw [mx_178]; exact Nat.le_of_ble_eq_true rfl) (by rw [mt_178]; exact oModel_sh hm) (by rw [mt_178]; decide) (by rw [rk_178]; decide) (by have g9 := s_178A (xs := xs) (cc := cc) (zz := zz) hm H1 A1 k241 (q := 27) (by decide); rw [strB_same.2.2.2.2.2.2.2.2.2.2.2.2.1, hw2] at g9; exact g9) (fun v I2 hv => ?_)
      obtain ⟨rfl, g222, f2⟩ := hv
      have H2 := H1.fT f2.T
      have k242 : I2 s 24 = 0 := (f2 s 24 (fun _ => by decide)).trans k241
      have k232 : I2 s 23 = I s 23 := (f2 s 23 (fun _ => by decide)).trans k231
      have Y2 := Y1.fT f2.T
      have F2 := F1.tr f2.T
      have A2 := mAt.at g222 A.le A.id
      refine w_zne 25 l_196_12 (by decide) (fun hx => absurd hx (by decide)) (fun _ => ?_)
      refine w_aln l_196_15 rfl ?_
      refine w_ldcw l_196_16 (by decide) ?_
      refine p_iv [vs (2 * 28 + 4)] [] l_196_19 rfl rfl (Nat.le_of_ble_eq_true rfl) (by rw [mx_178]; exact Nat.le_of_ble_eq_true rfl) (by rw [mt_178]; exact oModel_sh hm) (by rw [mt_178]; decide) (by rw [rk_178]; decide) (by have g9 := s_178A (xs := xs) (cc := cc) (zz := zz) hm H2 A2 k242 (q := 28) (by decide); rw [strB_same.2.2.2.2.2.2.2.2.2.2.2.2.2.1, hw3] at g9; exact g9) (fun v I3 hv => ?_)
      obtain ⟨rfl, g223, f3⟩ := hv
      have H3 := H2.fT f3.T
      have k243 : I3 s 24 = 0 := (f3 s 24 (fun _ => by decide)).trans k242
      have k233 : I3 s 23 = I s 23 := (f3 s 23 (fun _ => by decide)).trans k232
      have Y3 := Y2.fT f3.T
      have F3 := F2.tr f3.T
      have A3 := mAt.at g223 A.le A.id
      refine w_zeq 29 l_196_22 (by decide) (fun _ => ?_) (fun hx => absurd hx (by decide))
      refine w_ic l_196_29 (by decide) ?_
      refine w_isn l_196_30 ⟨Nat.le_of_ble_eq_true rfl, rfl⟩ ?_
      refine w_aln l_196_31 rfl ?_
      refine w_ldcw l_196_32 (by decide) ?_
      refine p_iv [vs (2 * 29 + 4)] [] l_196_35 rfl rfl (Nat.le_of_ble_eq_true rfl) (by rw [mx_178]; exact Nat.le_of_ble_eq_true rfl) (by rw [mt_178]; exact oModel_sh hm) (by rw [mt_178]; decide) (by rw [rk_178]; decide) (by have g9 := s_178A (xs := xs) (cc := cc) (zz := zz) hm H3 A3 k243 (q := 29) (by decide); rw [strB_same.2.2.2.2.2.2.2.2.2.2.1, hw0] at g9; exact g9) (fun v I4 hv => ?_)
      obtain ⟨rfl, g224, f4⟩ := hv
      have H4 := H3.fT f4.T
      have k244 : I4 s 24 = 0 := (f4 s 24 (fun _ => by decide)).trans k243
      have k234 : I4 s 23 = I s 23 := (f4 s 23 (fun _ => by decide)).trans k233
      have Y4 := Y3.fT f4.T
      have F4 := F3.tr f4.T
      have A4 := mAt.at g224 A.le A.id
      refine w_zeq 49 l_196_38 (by decide) (fun _ => ?_) (fun hx => absurd hx (by decide))
      refine w_iln l_196_49 rfl ?_
      refine w_zeq 74 l_196_50 (by decide) (fun _ => ?_) (fun hx => absurd hx (by decide))
      refine w_aln l_196_74 rfl ?_
      refine w_ldcw l_196_75 (by decide) ?_
      refine p_iv [vs (2 * 29 + 4)] [] l_196_78 rfl rfl (Nat.le_of_ble_eq_true rfl) (by rw [mx_179]; exact Nat.le_of_ble_eq_true rfl) (by rw [mt_179]; exact oModel_sh hm) (by rw [mt_179]; decide) (by rw [rk_179]; decide) (s_179F hm H4 A4 k244 (q := 29) (by decide) (by rw [strB_same.2.2.2.2.2.2.2.2.2.2.1]; exact hw0)) (fun v I5 hv => ?_)
      obtain ⟨rfl, g225, f5⟩ := hv
      have H5 := H4.fT f5.T
      have k245 : I5 s 24 = 0 := (f5 s 24 (fun _ => by decide)).trans k244
      have k235 : I5 s 23 = I s 23 := (f5 s 23 (fun _ => by decide)).trans k234
      have Y5 := Y4.fT f5.T
      have F5 := F4.tr f5.T
      have A5 := mAt.at g225 A.le A.id
      refine w_zeq 91 l_196_81 (by decide) (fun _ => ?_) (fun hx => absurd hx (by decide))
      refine w_aln l_196_91 rfl ?_
      refine w_ldcw l_196_92 (by decide) ?_
      refine p_iv [vs (2 * 30 + 4)] [] l_196_95 rfl rfl (Nat.le_of_ble_eq_true rfl) (by rw [mx_179]; exact Nat.le_of_ble_eq_true rfl) (by rw [mt_179]; exact oModel_sh hm) (by rw [mt_179]; decide) (by rw [rk_179]; decide) (s_179F hm H5 A5 k245 (q := 30) (by decide) (by rw [strB_same.2.2.2.2.2.2.2.2.2.2.2.1]; exact hw1)) (fun v I6 hv => ?_)
      obtain ⟨rfl, g226, f6⟩ := hv
      have H6 := H5.fT f6.T
      have k246 : I6 s 24 = 0 := (f6 s 24 (fun _ => by decide)).trans k245
      have k236 : I6 s 23 = I s 23 := (f6 s 23 (fun _ => by decide)).trans k235
      have Y6 := Y5.fT f6.T
      have F6 := F5.tr f6.T
      have A6 := mAt.at g226 A.le A.id
      refine w_zeq 108 l_196_98 (by decide) (fun _ => ?_) (fun hx => absurd hx (by decide))
      refine w_aln l_196_108 rfl ?_
      refine w_ldcw l_196_109 (by decide) ?_
      refine p_iv [vs (2 * 31 + 4)] [] l_196_112 rfl rfl (Nat.le_of_ble_eq_true rfl) (by rw [mx_179]; exact Nat.le_of_ble_eq_true rfl) (by rw [mt_179]; exact oModel_sh hm) (by rw [mt_179]; decide) (by rw [rk_179]; decide) (s_179F hm H6 A6 k246 (q := 31) (by decide) (by rw [strB_same.2.2.2.2.2.2.2.2.2.2.2.2.2.2.1]; exact hw14)) (fun v I7 hv => ?_)
      obtain ⟨rfl, g227, f7⟩ := hv
      have H7 := H6.fT f7.T
      have k247 : I7 s 24 = 0 := (f7 s 24 (fun _ => by decide)).trans k246
      have k237 : I7 s 23 = I s 23 := (f7 s 23 (fun _ => by decide)).trans k236
      have Y7 := Y6.fT f7.T
      have F7 := F6.tr f7.T
      have A7 := mAt.at g227 A.le A.id
      refine w_zeq 133 l_196_115 (by decide) (fun _ => ?_) (fun hx => absurd hx (by decide))
      refine w_aln l_196_133 rfl ?_
      refine w_ldcw l_196_134 (by decide) ?_
      refine p_iv [vs (2 * 32 + 4)] [] l_196_137 rfl rfl (Nat.le_of_ble_eq_true rfl) (by rw [mx_179]; exact Nat.le_of_ble_eq_true rfl) (by rw [mt_179]; exact oModel_sh hm) (by rw [mt_179]; decide) (by rw [rk_179]; decide) (s_179F hm H7 A7 k247 (q := 32) (by decide) (by rw [strB_same.2.2.2.2.2.2.2.2.2.2.2.2.2.2.2.1]; exact hw15)) (fun v I8 hv => ?_)
      obtain ⟨rfl, g228, f8⟩ := hv
      have H8 := H7.fT f8.T
      have k248 : I8 s 24 = 0 := (f8 s 24 (fun _ => by decide)).trans k247
      have k238 : I8 s 23 = I s 23 := (f8 s 23 (fun _ => by decide)).trans k237
      have Y8 := Y7.fT f8.T
      have F8 := F7.tr f8.T
      have A8 := mAt.at g228 A.le A.id
      refine w_zeq 158 l_196_140 (by decide) (fun _ => ?_) (fun hx => absurd hx (by decide))
      refine w_aln l_196_158 rfl ?_
      refine w_ldcw l_196_159 (by decide) ?_
      refine p_iv [vs (2 * 33 + 4)] [] l_196_162 rfl rfl (Nat.le_of_ble_eq_true rfl) (by rw [mx_179]; exact Nat.le_of_ble_eq_true rfl) (by rw [mt_179]; exact oModel_sh hm) (by rw [mt_179]; decide) (by rw [rk_179]; decide) (s_179T hm H8 A8 k248 (q := 33) (by decide) (by rw [strB_same.2.2.2.2.2.2.2.2.2.2.2.2.2.2.2.2.1]; exact hw16)) (fun v I9 hv => ?_)
      obtain ⟨rfl, A9, f9⟩ := hv
      have H9 := H8.fT f9.T
      have k249 : I9 s 24 = 0 := (f9 s 24 (fun _ => by decide)).trans k248
      have k239 : I9 s 23 = I s 23 := (f9 s 23 (fun _ => by decide)).trans k238
      have Y9 := Y8.fT f9.T
      have F9 := F8.tr f9.T
      refine w_zeq 182 l_196_165 (by decide) (fun hx => absurd hx (by decide)) (fun _ => ?_)
      refine w_aln l_196_168 rfl ?_
      refine w_aln l_196_169 rfl ?_
      refine w_ic l_196_170 (by decide) ?_
      refine w_bp l_196_171 (by decide) ?_
      refine p_iv [vi 1, vi 99] [vr s] l_196_173 rfl rfl (Nat.le_of_ble_eq_true rfl) (by rw [mx_180]; exact Nat.le_of_ble_eq_true rfl) (by rw [mt_180]; exact oModel_sh hm) (by rw [mt_180]; decide) (by rw [rk_180]; decide) (by have g9 := s_180A (xs := xs) (cc := cc) (zz := zz) (lo := 1) (hi := 99) hm H9 A9 k249; rw [hq] at g9; exact g9) (fun v I99 hv => ?_)
      obtain ⟨_, fz9, ⟨k24z, k23z⟩, rfl, A99⟩ := hv
      refine w_pi l_196_176 (oModel_sh hm) ?_
      refine w_go 227 l_196_179 (by decide) ?_
      refine w_vr l_196_227 ?_
      have hR : lineR t n P p = .inr (psWait P v, p9) := by
        unfold lineR
        rw [if_neg (by rw [hw0]; decide), if_neg (by rw [hw1]; decide), if_neg (by rw [hw2, hw3]; decide), if_neg (by rw [hw14]; decide), if_neg (by rw [hw15]; decide), if_pos hw16]
        unfold setL
        rw [hq]
      have Y99 := Y9.fT fz9
      refine ⟨_, _, rfl, rfl, rfl, (F9.P.tr fz9.P).up (Or.inl ⟨rfl, by decide, by decide⟩), ?_⟩
      rw [hR]
      refine ⟨⟨(up_nj (by decide)).trans k24z, (up_nj (by decide)).trans (k23z.trans k239)⟩, ?_, tot, Y99.wait hn.2.1, ?_⟩
      · obtain ⟨j9, a9, b9, c9⟩ := A99
        exact ⟨j9, (up_nj (by decide)).trans a9, b9, c9⟩
      · show 2 * tot ≤ p9
        omega
  | false =>

  refine CL_start (r := 9) (ls := [vr s, vs 2]) (rk_196 _) rfl ?_
  refine w_aln l_196_0 rfl ?_
  refine p_iv [] [] l_196_1 rfl rfl (Nat.le_of_ble_eq_true rfl) (by rw [mx_174]; exact Nat.le_of_ble_eq_true rfl) (by rw [mt_174]; exact oModel_sh hm) (by rw [mt_174]; decide) (by rw [rk_174]; decide) (s_174A hm H A) (fun v I1 hv => ?_)
  obtain ⟨rfl, g221, f1⟩ := hv
  have H1 := H.fT f1.T
  have k241 : I1 s 24 = 0 := (f1 s 24 (fun _ => by decide)).trans h24
  have k231 : I1 s 23 = I s 23 := (f1 s 23 (fun _ => by decide))
  have Y1 := Y.fT f1.T
  have F1 := f1.T
  have A1 := mAt.at g221 A.le A.id
  refine w_pop l_196_4 rfl ?_
  refine w_aln l_196_5 rfl ?_
  refine w_ldcw l_196_6 (by decide) ?_
  refine p_iv [vs (2 * 27 + 4)] [] l_196_9 rfl rfl (Nat.le_of_ble_eq_true rfl) (by rw [mx_178]; exact Nat.le_of_ble_eq_true rfl) (by rw [mt_178]; exact oModel_sh hm) (by rw [mt_178]; decide) (by rw [rk_178]; decide) (by have g9 := s_178A (xs := xs) (cc := cc) (zz := zz) hm H1 A1 k241 (q := 27) (by decide); rw [strB_same.2.2.2.2.2.2.2.2.2.2.2.2.1, hw2] at g9; exact g9) (fun v I2 hv => ?_)
  obtain ⟨rfl, g222, f2⟩ := hv
  have H2 := H1.fT f2.T
  have k242 : I2 s 24 = 0 := (f2 s 24 (fun _ => by decide)).trans k241
  have k232 : I2 s 23 = I s 23 := (f2 s 23 (fun _ => by decide)).trans k231
  have Y2 := Y1.fT f2.T
  have F2 := F1.tr f2.T
  have A2 := mAt.at g222 A.le A.id
  refine w_zne 25 l_196_12 (by decide) (fun hx => absurd hx (by decide)) (fun _ => ?_)
  refine w_aln l_196_15 rfl ?_
  refine w_ldcw l_196_16 (by decide) ?_
  refine p_iv [vs (2 * 28 + 4)] [] l_196_19 rfl rfl (Nat.le_of_ble_eq_true rfl) (by rw [mx_178]; exact Nat.le_of_ble_eq_true rfl) (by rw [mt_178]; exact oModel_sh hm) (by rw [mt_178]; decide) (by rw [rk_178]; decide) (by have g9 := s_178A (xs := xs) (cc := cc) (zz := zz) hm H2 A2 k242 (q := 28) (by decide); rw [strB_same.2.2.2.2.2.2.2.2.2.2.2.2.2.1, hw3] at g9; exact g9) (fun v I3 hv => ?_)
  obtain ⟨rfl, g223, f3⟩ := hv
  have H3 := H2.fT f3.T
  have k243 : I3 s 24 = 0 := (f3 s 24 (fun _ => by decide)).trans k242
  have k233 : I3 s 23 = I s 23 := (f3 s 23 (fun _ => by decide)).trans k232
  have Y3 := Y2.fT f3.T
  have F3 := F2.tr f3.T
  have A3 := mAt.at g223 A.le A.id
  refine w_zeq 29 l_196_22 (by decide) (fun _ => ?_) (fun hx => absurd hx (by decide))
  refine w_ic l_196_29 (by decide) ?_
  refine w_isn l_196_30 ⟨Nat.le_of_ble_eq_true rfl, rfl⟩ ?_
  refine w_aln l_196_31 rfl ?_
  refine w_ldcw l_196_32 (by decide) ?_
  refine p_iv [vs (2 * 29 + 4)] [] l_196_35 rfl rfl (Nat.le_of_ble_eq_true rfl) (by rw [mx_178]; exact Nat.le_of_ble_eq_true rfl) (by rw [mt_178]; exact oModel_sh hm) (by rw [mt_178]; decide) (by rw [rk_178]; decide) (by have g9 := s_178A (xs := xs) (cc := cc) (zz := zz) hm H3 A3 k243 (q := 29) (by decide); rw [strB_same.2.2.2.2.2.2.2.2.2.2.1, hw0] at g9; exact g9) (fun v I4 hv => ?_)
  obtain ⟨rfl, g224, f4⟩ := hv
  have H4 := H3.fT f4.T
  have k244 : I4 s 24 = 0 := (f4 s 24 (fun _ => by decide)).trans k243
  have k234 : I4 s 23 = I s 23 := (f4 s 23 (fun _ => by decide)).trans k233
  have Y4 := Y3.fT f4.T
  have F4 := F3.tr f4.T
  have A4 := mAt.at g224 A.le A.id
  refine w_zeq 49 l_196_38 (by decide) (fun _ => ?_) (fun hx => absurd hx (by decide))
  refine w_iln l_196_49 rfl ?_
  refine w_zeq 74 l_196_50 (by decide) (fun _ => ?_) (fun hx => absurd hx (by decide))
  refine w_aln l_196_74 rfl ?_
  refine w_ldcw l_196_75 (by decide) ?_
  refine p_iv [vs (2 * 29 + 4)] [] l_196_78 rfl rfl (Nat.le_of_ble_eq_true rfl) (by rw [mx_179]; exact Nat.le_of_ble_eq_true rfl) (by rw [mt_179]; exact oModel_sh hm) (by rw [mt_179]; decide) (by rw [rk_179]; decide) (s_179F hm H4 A4 k244 (q := 29) (by decide) (by rw [strB_same.2.2.2.2.2.2.2.2.2.2.1]; exact hw0)) (fun v I5 hv => ?_)
  obtain ⟨rfl, g225, f5⟩ := hv
  have H5 := H4.fT f5.T
  have k245 : I5 s 24 = 0 := (f5 s 24 (fun _ => by decide)).trans k244
  have k235 : I5 s 23 = I s 23 := (f5 s 23 (fun _ => by decide)).trans k234
  have Y5 := Y4.fT f5.T
  have F5 := F4.tr f5.T
  have A5 := mAt.at g225 A.le A.id
  refine w_zeq 91 l_196_81 (by decide) (fun _ => ?_) (fun hx => absurd hx (by decide))
  refine w_aln l_196_91 rfl ?_
  refine w_ldcw l_196_92 (by decide) ?_
  refine p_iv [vs (2 * 30 + 4)] [] l_196_95 rfl rfl (Nat.le_of_ble_eq_true rfl) (by rw [mx_179]; exact Nat.le_of_ble_eq_true rfl) (by rw [mt_179]; exact oModel_sh hm) (by rw [mt_179]; decide) (by rw [rk_179]; decide) (s_179F hm H5 A5 k245 (q := 30) (by decide) (by rw [strB_same.2.2.2.2.2.2.2.2.2.2.2.1]; exact hw1)) (fun v I6 hv => ?_)
  obtain ⟨rfl, g226, f6⟩ := hv
  have H6 := H5.fT f6.T
  have k246 : I6 s 24 = 0 := (f6 s 24 (fun _ => by decide)).trans k245
  have k236 : I6 s 23 = I s 23 := (f6 s 23 (fun _ => by decide)).trans k235
  have Y6 := Y5.fT f6.T
  have F6 := F5.tr f6.T
  have A6 := mAt.at g226 A.le A.id
  refine w_zeq 108 l_196_98 (by decide) (fun _ => ?_) (fun hx => absurd hx (by decide))
  refine w_aln l_196_108 rfl ?_
  refine w_ldcw l_196_109 (by decide) ?_
  refine p_iv [vs (2 * 31 + 4)] [] l_196_112 rfl rfl (Nat.le_of_ble_eq_true rfl) (by rw [mx_179]; exact Nat.le_of_ble_eq_true rfl) (by rw [mt_179]; exact oModel_sh hm) (by rw [mt_179]; decide) (by rw [rk_179]; decide) (s_179F hm H6 A6 k246 (q := 31) (by decide) (by rw [strB_same.2.2.2.2.2.2.2.2.2.2.2.2.2.2.1]; exact hw14)) (fun v I7 hv => ?_)
  obtain ⟨rfl, g227, f7⟩ := hv
  have H7 := H6.fT f7.T
  have k247 : I7 s 24 = 0 := (f7 s 24 (fun _ => by decide)).trans k246
  have k237 : I7 s 23 = I s 23 := (f7 s 23 (fun _ => by decide)).trans k236
  have Y7 := Y6.fT f7.T
  have F7 := F6.tr f7.T
  have A7 := mAt.at g227 A.le A.id
  refine w_zeq 133 l_196_115 (by decide) (fun _ => ?_) (fun hx => absurd hx (by decide))
  refine w_aln l_196_133 rfl ?_
  refine w_ldcw l_196_134 (by decide) ?_
  refine p_iv [vs (2 * 32 + 4)] [] l_196_137 rfl rfl (Nat.le_of_ble_eq_true rfl) (by rw [mx_179]; exact Nat.le_of_ble_eq_true rfl) (by rw [mt_179]; exact oModel_sh hm) (by rw [mt_179]; decide) (by rw [rk_179]; decide) (s_179F hm H7 A7 k247 (q := 32) (by decide) (by rw [strB_same.2.2.2.2.2.2.2.2.2.2.2.2.2.2.2.1]; exact hw15)) (fun v I8 hv => ?_)
  obtain ⟨rfl, g228, f8⟩ := hv
  have H8 := H7.fT f8.T
  have k248 : I8 s 24 = 0 := (f8 s 24 (fun _ => by decide)).trans k247
  have k238 : I8 s 23 = I s 23 := (f8 s 23 (fun _ => by decide)).trans k237
  have Y8 := Y7.fT f8.T
  have F8 := F7.tr f8.T
  have A8 := mAt.at g228 A.le A.id
  refine w_zeq 158 l_196_140 (by decide) (fun _ => ?_) (fun hx => absurd hx (by decide))
  refine w_aln l_196_158 rfl ?_
  refine w_ldcw l_196_159 (by decide) ?_
  refine p_iv [vs (2 * 33 + 4)] [] l_196_162 rfl rfl (Nat.le_of_ble_eq_true rfl) (by rw [mx_179]; exact Nat.le_of_ble_eq_true rfl) (by rw [mt_179]; exact oModel_sh hm) (by rw [mt_179]; decide) (by rw [rk_179]; decide) (s_179F hm H8 A8 k248 (q := 33) (by decide) (by rw [strB_same.2.2.2.2.2.2.2.2.2.2.2.2.2.2.2.2.1]; exact hw16)) (fun v I9 hv => ?_)
  obtain ⟨rfl, g229, f9⟩ := hv
  have H9 := H8.fT f9.T
  have k249 : I9 s 24 = 0 := (f9 s 24 (fun _ => by decide)).trans k248
  have k239 : I9 s 23 = I s 23 := (f9 s 23 (fun _ => by decide)).trans k238
  have Y9 := Y8.fT f9.T
  have F9 := F8.tr f9.T
  have A9 := mAt.at g229 A.le A.id
  refine w_zeq 182 l_196_165 (by decide) (fun _ => ?_) (fun hx => absurd hx (by decide))
  refine w_aln l_196_182 rfl ?_
  refine w_ldcw l_196_183 (by decide) ?_
  refine p_iv [vs (2 * 27 + 4)] [] l_196_186 rfl rfl (Nat.le_of_ble_eq_true rfl) (by rw [mx_179]; exact Nat.le_of_ble_eq_true rfl) (by rw [mt_179]; exact oModel_sh hm) (by rw [mt_179]; decide) (by rw [rk_179]; decide) (s_179F hm H9 A9 k249 (q := 27) (by decide) (by rw [strB_same.2.2.2.2.2.2.2.2.2.2.2.2.1]; exact hw2)) (fun v I10 hv => ?_)
  obtain ⟨rfl, g2210, f10⟩ := hv
  have H10 := H9.fT f10.T
  have k2410 : I10 s 24 = 0 := (f10 s 24 (fun _ => by decide)).trans k249
  have k2310 : I10 s 23 = I s 23 := (f10 s 23 (fun _ => by decide)).trans k239
  have Y10 := Y9.fT f10.T
  have F10 := F9.tr f10.T
  have A10 := mAt.at g2210 A.le A.id
  refine w_zeq 200 l_196_189 (by decide) (fun _ => ?_) (fun hx => absurd hx (by decide))
  refine w_aln l_196_200 rfl ?_
  refine w_ldcw l_196_201 (by decide) ?_
  refine p_iv [vs (2 * 28 + 4)] [] l_196_204 rfl rfl (Nat.le_of_ble_eq_true rfl) (by rw [mx_179]; exact Nat.le_of_ble_eq_true rfl) (by rw [mt_179]; exact oModel_sh hm) (by rw [mt_179]; decide) (by rw [rk_179]; decide) (s_179F hm H10 A10 k2410 (q := 28) (by decide) (by rw [strB_same.2.2.2.2.2.2.2.2.2.2.2.2.2.1]; exact hw3)) (fun v I11 hv => ?_)
  obtain ⟨rfl, g2211, f11⟩ := hv
  have H11 := H10.fT f11.T
  have k2411 : I11 s 24 = 0 := (f11 s 24 (fun _ => by decide)).trans k2410
  have k2311 : I11 s 23 = I s 23 := (f11 s 23 (fun _ => by decide)).trans k2310
  have Y11 := Y10.fT f11.T
  have F11 := F10.tr f11.T
  have A11 := mAt.at g2211 A.le A.id
  refine w_zeq 218 l_196_207 (by decide) (fun _ => ?_) (fun hx => absurd hx (by decide))
  refine w_aln l_196_218 rfl ?_
  refine w_ic l_196_219 (by decide) ?_
  refine w_aln l_196_220 rfl ?_
  refine w_gi ((p : Nat) : Int) l_196_221 (oModel_sh hm) g2211 ?_
  refine q_iv [vi 1, vi ((p : Nat) : Int)] [] l_196_224 rfl rfl (Nat.le_of_ble_eq_true rfl) (by rw [mx_176]; exact Nat.le_of_ble_eq_true rfl) (by rw [mt_176]; exact oModel_sh hm) (by rw [mt_176]; decide) (by rw [rk_176]; decide) (s_176 hm k2411 (k := 1)) ?_
  refine w_vr l_196_227 ?_
  have hR : lineR t n P p = .inl (1, p) := by
    unfold lineR
    rw [if_neg (by rw [hw0]; decide), if_neg (by rw [hw1]; decide), if_neg (by rw [hw2, hw3]; decide), if_neg (by rw [hw14]; decide), if_neg (by rw [hw15]; decide), if_neg (by rw [hw16]; decide)]
  exact ⟨_, _, rfl, rfl, rfl, (F11.P.up (Or.inl ⟨rfl, by decide, by decide⟩)).up (Or.inl ⟨rfl, by decide, by decide⟩), by rw [hR]; exact ⟨(show (1 : Nat) ≤ 1 by decide), (up_nj (by decide)).trans up_eq, up_eq⟩⟩
end RGF
