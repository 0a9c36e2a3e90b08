/-! the static check, all together -/
theorem rng_all {f : Nat → Bool} {a n : Nat} (h : (List.range' a n).all f = true) : ∀ i, a ≤ i → i < a + n → f i = true := fun i h1 h2 => List.all_eq_true.mp h i (List.mem_range'.mpr ⟨i - a, by omega, by omega⟩)
theorem cl_all : ∀ c, c < 41 → chkL c = true := by
  intro c hc
  by_cases e0 : c = 0
  · subst e0; exact cl_0
  by_cases e1 : c = 1
  · subst e1; exact cl_1
  by_cases e2 : c = 2
  · subst e2; exact cl_2
  by_cases e3 : c = 3
  · subst e3; exact cl_3
  by_cases e4 : c = 4
  · subst e4; exact cl_4
  by_cases e5 : c = 5
  · subst e5; exact cl_5
  by_cases e6 : c = 6
  · subst e6; exact cl_6
  by_cases e7 : c = 7
  · subst e7; exact cl_7
  by_cases e8 : c = 8
  · subst e8; exact cl_8
  by_cases e9 : c = 9
  · subst e9; exact cl_9
  by_cases e10 : c = 10
  · subst e10; exact cl_10
  by_cases e11 : c = 11
  · subst e11; exact cl_11
  by_cases e12 : c = 12
  · subst e12; exact cl_12
  by_cases e13 : c = 13
  · subst e13; exact cl_13
  by_cases e14 : c = 14
  · subst e14; exact cl_14
  by_cases e15 : c = 15
  · subst e15; exact cl_15
  by_cases e16 : c = 16
  · subst e16; exact cl_16
  by_cases e17 : c = 17
  · subst e17; exact cl_17
  by_cases e18 : c = 18
  · subst e18; exact cl_18
  by_cases e19 : c = 19
  · subst e19; exact cl_19
  by_cases e20 : c = 20
  · subst e20; exact cl_20
  by_cases e21 : c = 21
  · subst e21; exact cl_21
  by_cases e22 : c = 22
  · subst e22; exact cl_22
  by_cases e23 : c = 23
  · subst e23; exact cl_23
  by_cases e24 : c = 24
  · subst e24; exact cl_24
  by_cases e25 : c = 25
  · subst e25; exact cl_25
  by_cases e26 : c = 26
  · subst e26; exact cl_26
  by_cases e27 : c = 27
  · subst e27; exact cl_27
  by_cases e28 : c = 28
  · subst e28; exact cl_28
  by_cases e29 : c = 29
  · subst e29; exact cl_29
  by_cases e30 : c = 30
  · subst e30; exact cl_30
  by_cases e31 : c = 31
  · subst e31; exact cl_31
  by_cases e32 : c = 32
  · subst e32; exact cl_32
  by_cases e33 : c = 33
  · subst e33; exact cl_33
  by_cases e34 : c = 34
  · subst e34; exact cl_34
  by_cases e35 : c = 35
  · subst e35; exact cl_35
  by_cases e36 : c = 36
  · subst e36; exact cl_36
  by_cases e37 : c = 37
  · subst e37; exact cl_37
  by_cases e38 : c = 38
  · subst e38; exact cl_38
  by_cases e39 : c = 39
  · subst e39; exact cl_39
  by_cases e40 : c = 40
  · subst e40; exact cl_40
  omega
theorem mtb_len : mtb.length = 345 := by decide +kernel
theorem cdt_len : cdt_a.length = 345 := by decide +kernel
theorem ck_all : ∀ i, i < 344 → chkM i = true := by
  intro i hi
  by_cases h0 : i < 4
  · exact rng_all ck_0 i (by omega) (by omega)
  by_cases h4 : i < 13
  · exact rng_all ck_4 i (by omega) (by omega)
  by_cases h13 : i < 19
  · exact rng_all ck_13 i (by omega) (by omega)
  by_cases h19 : i < 26
  · exact rng_all ck_19 i (by omega) (by omega)
  by_cases h26 : i < 31
  · exact rng_all ck_26 i (by omega) (by omega)
  by_cases h31 : i < 32
  · exact rng_all ck_31 i (by omega) (by omega)
  by_cases h32 : i < 34
  · exact rng_all ck_32 i (by omega) (by omega)
  by_cases h34 : i < 38
  · exact rng_all ck_34 i (by omega) (by omega)
  by_cases h38 : i < 40
  · exact rng_all ck_38 i (by omega) (by omega)
  by_cases h40 : i < 44
  · exact rng_all ck_40 i (by omega) (by omega)
  by_cases h44 : i < 47
  · exact rng_all ck_44 i (by omega) (by omega)
  by_cases h47 : i < 52
  · exact rng_all ck_47 i (by omega) (by omega)
  by_cases h52 : i < 55
  · exact rng_all ck_52 i (by omega) (by omega)
  by_cases h55 : i < 57
  · exact rng_all ck_55 i (by omega) (by omega)
  by_cases h57 : i < 61
  · exact rng_all ck_57 i (by omega) (by omega)
  by_cases h61 : i < 64
  · exact rng_all ck_61 i (by omega) (by omega)
  by_cases h64 : i < 71
  · exact rng_all ck_64 i (by omega) (by omega)
  by_cases h71 : i < 74
  · exact rng_all ck_71 i (by omega) (by omega)
  by_cases h74 : i < 79
  · exact rng_all ck_74 i (by omega) (by omega)
  by_cases h79 : i < 84
  · exact rng_all ck_79 i (by omega) (by omega)
  by_cases h84 : i < 89
  · exact rng_all ck_84 i (by omega) (by omega)
  by_cases h89 : i < 96
  · exact rng_all ck_89 i (by omega) (by omega)
  by_cases h96 : i < 98
  · exact rng_all ck_96 i (by omega) (by omega)
  by_cases h98 : i < 101
  · exact rng_all ck_98 i (by omega) (by omega)
  by_cases h101 : i < 107
  · exact rng_all ck_101 i (by omega) (by omega)
  by_cases h107 : i < 118
  · exact rng_all ck_107 i (by omega) (by omega)
  by_cases h118 : i < 129
  · exact rng_all ck_118 i (by omega) (by omega)
  by_cases h129 : i < 139
  · exact rng_all ck_129 i (by omega) (by omega)
  by_cases h139 : i < 143
  · exact rng_all ck_139 i (by omega) (by omega)
  by_cases h143 : i < 145
  · exact rng_all ck_143 i (by omega) (by omega)
  by_cases h145 : i < 154
  · exact rng_all ck_145 i (by omega) (by omega)
  by_cases h154 : i < 161
  · exact rng_all ck_154 i (by omega) (by omega)
  by_cases h161 : i < 163
  · exact rng_all ck_161 i (by omega) (by omega)
  by_cases h163 : i < 165
  · exact rng_all ck_163 i (by omega) (by omega)
  by_cases h165 : i < 167
  · exact rng_all ck_165 i (by omega) (by omega)
  by_cases h167 : i < 168
  · exact rng_all ck_167 i (by omega) (by omega)
  by_cases h168 : i < 176
  · exact rng_all ck_168 i (by omega) (by omega)
  by_cases h176 : i < 181
  · exact rng_all ck_176 i (by omega) (by omega)
  by_cases h181 : i < 184
  · exact rng_all ck_181 i (by omega) (by omega)
  by_cases h184 : i < 189
  · exact rng_all ck_184 i (by omega) (by omega)
  by_cases h189 : i < 192
  · exact rng_all ck_189 i (by omega) (by omega)
  by_cases h192 : i < 194
  · exact rng_all ck_192 i (by omega) (by omega)
  by_cases h194 : i < 196
  · exact rng_all ck_194 i (by omega) (by omega)
  by_cases h196 : i < 197
  · exact rng_all ck_196 i (by omega) (by omega)
  by_cases h197 : i < 198
  · exact rng_all ck_197 i (by omega) (by omega)
  by_cases h198 : i < 201
  · exact rng_all ck_198 i (by omega) (by omega)
  by_cases h201 : i < 203
  · exact rng_all ck_201 i (by omega) (by omega)
  by_cases h203 : i < 210
  · exact rng_all ck_203 i (by omega) (by omega)
  by_cases h210 : i < 213
  · exact rng_all ck_210 i (by omega) (by omega)
  by_cases h213 : i < 217
  · exact rng_all ck_213 i (by omega) (by omega)
  by_cases h217 : i < 219
  · exact rng_all ck_217 i (by omega) (by omega)
  by_cases h219 : i < 222
  · exact rng_all ck_219 i (by omega) (by omega)
  by_cases h222 : i < 223
  · exact rng_all ck_222 i (by omega) (by omega)
  by_cases h223 : i < 225
  · exact rng_all ck_223 i (by omega) (by omega)
  by_cases h225 : i < 227
  · exact rng_all ck_225 i (by omega) (by omega)
  by_cases h227 : i < 229
  · exact rng_all ck_227 i (by omega) (by omega)
  by_cases h229 : i < 234
  · exact rng_all ck_229 i (by omega) (by omega)
  by_cases h234 : i < 237
  · exact rng_all ck_234 i (by omega) (by omega)
  by_cases h237 : i < 242
  · exact rng_all ck_237 i (by omega) (by omega)
  by_cases h242 : i < 250
  · exact rng_all ck_242 i (by omega) (by omega)
  by_cases h250 : i < 256
  · exact rng_all ck_250 i (by omega) (by omega)
  by_cases h256 : i < 264
  · exact rng_all ck_256 i (by omega) (by omega)
  by_cases h264 : i < 267
  · exact rng_all ck_264 i (by omega) (by omega)
  by_cases h267 : i < 273
  · exact rng_all ck_267 i (by omega) (by omega)
  by_cases h273 : i < 280
  · exact rng_all ck_273 i (by omega) (by omega)
  by_cases h280 : i < 287
  · exact rng_all ck_280 i (by omega) (by omega)
  by_cases h287 : i < 292
  · exact rng_all ck_287 i (by omega) (by omega)
  by_cases h292 : i < 295
  · exact rng_all ck_292 i (by omega) (by omega)
  by_cases h295 : i < 306
  · exact rng_all ck_295 i (by omega) (by omega)
  by_cases h306 : i < 317
  · exact rng_all ck_306 i (by omega) (by omega)
  by_cases h317 : i < 328
  · exact rng_all ck_317 i (by omega) (by omega)
  by_cases h328 : i < 339
  · exact rng_all ck_328 i (by omega) (by omega)
  by_cases h339 : i < 344
  · exact rng_all ck_339 i (by omega) (by omega)
  omega
theorem lkp {es : List (Nat × Ent)} {pc : Nat} {e : Ent} (h : es.lookup pc = some e) : (pc, e) ∈ es := by
  induction es with
  | nil => cases h
  | cons a r ih =>
    obtain ⟨x, y⟩ := a
    rw [List.lookup_cons] at h
    split at h
    · rename_i hx
      cases h
      have : pc = x := by simpa using hx
      subst this
      exact List.mem_cons_self
    · exact List.mem_cons_of_mem _ (ih h)
theorem chkL_all {q : Mrec} {es : List (Nat × Ent)} (hq : mtb[344]? = some q) (he : cdt_a[344]? = some es) : okH q = true ∧ es.all (fun x => okE q x.1 x.2) = true := by
  have h0 := cl_h
  unfold chkL0 at h0
  rw [hq, he] at h0
  simp only [Bool.and_eq_true, decide_eq_true_eq] at h0
  refine ⟨h0.1, List.all_eq_true.mpr fun x hx => ?_⟩
  obtain ⟨k, hk, rfl⟩ := List.getElem_of_mem hx
  have h1 := cl_all (k / 40) (by omega)
  unfold chkL at h1
  rw [hq, he] at h1
  have h2 := List.all_eq_true.mp h1
  refine h2 _ (List.mem_iff_getElem?.mpr ⟨k % 40, ?_⟩)
  rw [List.getElem?_take, if_pos (by omega), List.getElem?_drop]
  rw [show k / 40 * 40 + k % 40 = k by omega]
  exact List.getElem?_eq_getElem hk
theorem chk_all {M : Nat} {q : Mrec} {es : List (Nat × Ent)} (hq : mtb[M]? = some q) (he : cdt_a[M]? = some es) : (M ≠ 344 → okM q = true) ∧ okH q = true ∧ es.all (fun x => okE q x.1 x.2) = true := by
  have hM : M < 345 := by rw [← mtb_len]; exact (List.getElem?_eq_some_iff.mp hq).1
  by_cases h : M < 344
  · have h1 := ck_all M h
    unfold chkM at h1
    rw [hq, he] at h1
    simp only [Bool.and_eq_true] at h1
    exact ⟨fun _ => h1.1.1, h1.1.2, h1.2⟩
  · have : M = 344 := by omega
    subst this
    exact ⟨fun e => absurd rfl e, chkL_all hq he⟩
theorem CHKT_ok : CHKT := by
  have hes : ∀ (M : Nat) (q : Mrec), mtb[M]? = some q → ∃ es, cdt_a[M]? = some es := fun M q hq => by
    have hM : M < 345 := by rw [← mtb_len]; exact (List.getElem?_eq_some_iff.mp hq).1
    exact ⟨_, List.getElem?_eq_getElem (by rw [cdt_len]; exact hM)⟩
  refine ⟨⟨fun M q hne hq => ?_, fun M q pc en hq hl => ?_⟩, fun M q hq => ?_⟩
  · obtain ⟨es, he⟩ := hes M q hq
    exact (chk_all hq he).1 hne
  · obtain ⟨es, he⟩ := hes M q hq
    unfold look at hl
    rw [he] at hl
    have hm : (pc, en) ∈ es := lkp hl
    have h9 := List.all_eq_true.mp (chk_all hq he).2.2 (pc, en) hm
    exact h9
  · obtain ⟨es, he⟩ := hes M q hq
    exact (chk_all hq he).2.1
