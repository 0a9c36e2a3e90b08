/-! the static check, all together -/
theorem rng_all {f : Nat → Bool} {a n : Nat} (h : (List.range' a n).all f = true) : ∀ i, a ≤ i → i < a + n → f i = true := fun i h1 h2 => List.all_eq_true.mp h i (List.mem_range'.mpr ⟨i - a, by omega, by omega⟩)
theorem cl_all : ∀ c, c < 10 → chkL c = true := by
  intro c hc
  by_cases e0 : c = 0
  · subst e0; exact cl_0
  by_cases e1 : c = 1
  · subst e1; exact cl_1
  by_cases e2 : c = 2
  · subst e2; exact cl_2
  by_cases e3 : c = 3
  · subst e3; exact cl_3
  by_cases e4 : c = 4
  · subst e4; exact cl_4
  by_cases e5 : c = 5
  · subst e5; exact cl_5
  by_cases e6 : c = 6
  · subst e6; exact cl_6
  by_cases e7 : c = 7
  · subst e7; exact cl_7
  by_cases e8 : c = 8
  · subst e8; exact cl_8
  by_cases e9 : c = 9
  · subst e9; exact cl_9
  omega
theorem mtb_len : mtb.length = 345 := by decide +kernel
theorem cdt_len : cdt_a.length = 345 := by decide +kernel
theorem ck_all : ∀ i, i < 344 → chkM i = true := by
  intro i hi
  by_cases h0 : i < 9
  · exact rng_all ck_0 i (by omega) (by omega)
  by_cases h9 : i < 19
  · exact rng_all ck_9 i (by omega) (by omega)
  by_cases h19 : i < 31
  · exact rng_all ck_19 i (by omega) (by omega)
  by_cases h31 : i < 34
  · exact rng_all ck_31 i (by omega) (by omega)
  by_cases h34 : i < 39
  · exact rng_all ck_34 i (by omega) (by omega)
  by_cases h39 : i < 44
  · exact rng_all ck_39 i (by omega) (by omega)
  by_cases h44 : i < 49
  · exact rng_all ck_44 i (by omega) (by omega)
  by_cases h49 : i < 55
  · exact rng_all ck_49 i (by omega) (by omega)
  by_cases h55 : i < 59
  · exact rng_all ck_55 i (by omega) (by omega)
  by_cases h59 : i < 64
  · exact rng_all ck_59 i (by omega) (by omega)
  by_cases h64 : i < 73
  · exact rng_all ck_64 i (by omega) (by omega)
  by_cases h73 : i < 79
  · exact rng_all ck_73 i (by omega) (by omega)
  by_cases h79 : i < 86
  · exact rng_all ck_79 i (by omega) (by omega)
  by_cases h86 : i < 98
  · exact rng_all ck_86 i (by omega) (by omega)
  by_cases h98 : i < 105
  · exact rng_all ck_98 i (by omega) (by omega)
  by_cases h105 : i < 144
  · exact rng_all ck_105 i (by omega) (by omega)
  by_cases h144 : i < 158
  · exact rng_all ck_144 i (by omega) (by omega)
  by_cases h158 : i < 167
  · exact rng_all ck_158 i (by omega) (by omega)
  by_cases h167 : i < 171
  · exact rng_all ck_167 i (by omega) (by omega)
  by_cases h171 : i < 178
  · exact rng_all ck_171 i (by omega) (by omega)
  by_cases h178 : i < 187
  · exact rng_all ck_178 i (by omega) (by omega)
  by_cases h187 : i < 201
  · exact rng_all ck_187 i (by omega) (by omega)
  by_cases h201 : i < 212
  · exact rng_all ck_201 i (by omega) (by omega)
  by_cases h212 : i < 252
  · exact rng_all ck_212 i (by omega) (by omega)
  by_cases h252 : i < 292
  · exact rng_all ck_252 i (by omega) (by omega)
  by_cases h292 : i < 332
  · exact rng_all ck_292 i (by omega) (by omega)
  by_cases h332 : i < 344
  · exact rng_all ck_332 i (by omega) (by omega)
  omega
theorem lkp {es : List (Nat × Ent)} {pc : Nat} {e : Ent} (h : es.lookup pc = some e) : (pc, e) ∈ es := by
  induction es with
  | nil => cases h
  | cons a r ih =>
    obtain ⟨x, y⟩ := a
    rw [List.lookup_cons] at h
    split at h
    · rename_i hx
      cases h
      have : pc = x := by simpa using hx
      subst this
      exact List.mem_cons_self
    · exact List.mem_cons_of_mem _ (ih h)
theorem chkL_all {q : Mrec} {es : List (Nat × Ent)} (hq : mtb[344]? = some q) (he : cdt_a[344]? = some es) : q.2.2.2.2.1 = [] ∧ es.all (fun x => okE q x.1 x.2) = true := by
  have h0 := cl_h
  unfold chkL0 at h0
  rw [hq, he] at h0
  simp only [Bool.and_eq_true, decide_eq_true_eq] at h0
  refine ⟨h0.1, List.all_eq_true.mpr fun x hx => ?_⟩
  obtain ⟨k, hk, rfl⟩ := List.getElem_of_mem hx
  have h1 := cl_all (k / 40) (by omega)
  unfold chkL at h1
  rw [hq, he] at h1
  have h2 := List.all_eq_true.mp h1
  refine h2 _ (List.mem_iff_getElem?.mpr ⟨k % 40, ?_⟩)
  rw [List.getElem?_take, if_pos (by omega), List.getElem?_drop]
  rw [show k / 40 * 40 + k % 40 = k by omega]
  exact List.getElem?_eq_getElem hk
theorem okM_hh {y : Mrec} (h : okM y = true) : y.2.2.2.2.1 = [] := by
  obtain ⟨k1, k2, k3, k4, k5, k6, k7, k8, k9⟩ := okM_spec h
  exact k8.resolve_left k9
theorem chk_all {M : Nat} {q : Mrec} {es : List (Nat × Ent)} (hq : mtb[M]? = some q) (he : cdt_a[M]? = some es) : (M ≠ 344 → okM q = true) ∧ q.2.2.2.2.1 = [] ∧ es.all (fun x => okE q x.1 x.2) = true := by
  have hM : M < 345 := by rw [← mtb_len]; exact (List.getElem?_eq_some_iff.mp hq).1
  by_cases h : M < 344
  · have h1 := ck_all M h
    unfold chkM at h1
    rw [hq, he] at h1
    simp only [Bool.and_eq_true] at h1
    exact ⟨fun _ => h1.1, okM_hh h1.1, h1.2⟩
  · have : M = 344 := by omega
    subst this
    exact ⟨fun e => absurd rfl e, chkL_all hq he⟩
theorem CHKT_ok : CHKT := by
  have hes : ∀ (M : Nat) (q : Mrec), mtb[M]? = some q → ∃ es, cdt_a[M]? = some es := fun M q hq => by
    have hM : M < 345 := by rw [← mtb_len]; exact (List.getElem?_eq_some_iff.mp hq).1
    exact ⟨_, List.getElem?_eq_getElem (by rw [cdt_len]; exact hM)⟩
  refine ⟨⟨fun M q hne hq => ?_, fun M q pc en hq hl => ?_⟩, fun M q hq => ?_⟩
  · obtain ⟨es, he⟩ := hes M q hq
    exact (chk_all hq he).1 hne
  · obtain ⟨es, he⟩ := hes M q hq
    unfold look at hl
    rw [he] at hl
    have hm : (pc, en) ∈ es := lkp hl
    have h9 := List.all_eq_true.mp (chk_all hq he).2.2 (pc, en) hm
    exact h9
  · obtain ⟨es, he⟩ := hes M q hq
    exact (chk_all hq he).2.1
