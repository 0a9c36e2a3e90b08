/-! one instruction that goes on, whichever it is -/
section STEPA
variable {p : Program} {l : Launch} {e : Env} {R : Room} {s : State} {m : MethodId} {args : Array Value} {below : List Frame} {meth : Method} {c : Code} {K : Kx} {J : Jx} {q : Mrec} {r : Nat} {Q : State → Prop} {pc pc' : Nat} {ls st ls' st' : List AV} {mem mem' : Mem}
set_option maxHeartbeats 8000000 in
theorem STEP {en : Ent} (C : CX p l R s m args meth c K q r) (ok : okE q pc en = true)
    (hJ : J.2.2.1 ≤ R.cells + J.2.2.2.2.1 ∧ J.2.2.2.1 ≤ R.slots + J.2.2.2.2.2) (hm : J.2.2.2.2.1 ≤ mC mem' ∧ J.2.2.2.2.2 ≤ mS mem')
    (h : am_ins (kxs K) en pc ls st mem = some (.inl (pc', ls', st', mem'))) (k : GO p l e R s m args below meth c K J q Q pc' ls' st' mem') : GO p l e R s m args below meth c K J q Q pc ls st mem := by
  unfold okE at ok
  rw [Bool.and_eq_true] at ok
  obtain ⟨hd, ok⟩ := ok
  have hd := of_decide_eq_true hd
  unfold am_ins at h
  split at h
  · rename_i n k1 tl hz
    have e1 := of_decide_eq_true ok
    subst e1
    split at h
    · rename_i hn
      exact g_push (v := vi n) (fun hS kk => lv_iconst C.1 C.2.1 hd rfl kk) (fun L => by show inI n; unfold inI; omega) h k
    · cases h
  · rename_i n k1 tl hz
    have e1 := of_decide_eq_true ok
    subst e1
    split at h
    · rename_i hn
      exact g_push (v := vi n) (fun hS kk => lv_bipush C.1 C.2.1 hd (i8_i32 hn) kk) (fun L => by show inI n; unfold inI; omega) h k
    · cases h
  · rename_i n k1 tl hz
    have e1 := of_decide_eq_true ok
    subst e1
    split at h
    · rename_i hn
      exact g_push (v := vi n) (fun hS kk => lv_sipush C.1 C.2.1 hd (i16_i32 hn) kk) (fun L => by show inI n; unfold inI; omega) h k
    · cases h
  · rename_i n k1 tl hz
    have e1 := of_decide_eq_true ok
    subst e1
    have hn9 : n.val = 0 ∨ n.val = 1 := by have := n.isLt; omega
    exact g_push (v := vl (n.val : Int)) (fun hS kk => lv_lconst C.1 C.2.1 hd (by rcases hn9 with e9 | e9 <;> rw [e9] <;> rfl) kk) (fun L => by show inL _; unfold inL; omega) h k
  · rename_i i k1 tl hz
    have e1 := of_decide_eq_true ok
    subst e1
    exact g_ld (fun hl kk => lv_iload_n C.1 C.2.1 hd rfl hl kk) h k
  · rename_i i k1 tl hz
    have e1 := of_decide_eq_true ok
    subst e1
    exact g_ld (fun hl kk => lv_iload C.1 C.2.1 hd hl kk) h k
  · rename_i i k1 tl hz
    have e1 := of_decide_eq_true ok
    subst e1
    exact g_ll (fun hl kk => lv_lload_n C.1 C.2.1 hd rfl hl kk) h k
  · rename_i i k1 tl hz
    have e1 := of_decide_eq_true ok
    subst e1
    exact g_al C.kS (fun hl kk => lv_aload_n C.1 C.2.1 hd rfl hl kk) h k
  · rename_i i k1 tl hz
    have e1 := of_decide_eq_true ok
    subst e1
    exact g_al C.kS (fun hl kk => lv_aload C.1 C.2.1 hd hl kk) h k
  · rename_i i k1 tl hz
    have e1 := of_decide_eq_true ok
    subst e1
    exact g_is C.kS (fun hh hn kk => lv_istore_n C.1 C.2.1 hd rfl hh hn rfl kk) h k
  · rename_i i k1 tl hz
    have e1 := of_decide_eq_true ok
    subst e1
    exact g_is C.kS (fun hh hn kk => lv_istore C.1 C.2.1 hd hh hn rfl kk) h k
  · rename_i i k1 tl hz
    have e1 := of_decide_eq_true ok
    subst e1
    exact g_ls C.kS (fun hh hn kk => lv_lstore_n C.1 C.2.1 hd rfl hh hn rfl kk) h k
  · rename_i i k1 tl hz
    have e1 := of_decide_eq_true ok
    subst e1
    exact g_as C.kS (fun hh hn kk => lv_astore_n C.1 C.2.1 hd rfl hh hn rfl kk) h k
  · rename_i i k1 tl hz
    have e1 := of_decide_eq_true ok
    subst e1
    exact g_as C.kS (fun hh hn kk => lv_astore C.1 C.2.1 hd hh hn rfl kk) h k
  · rename_i i n k1 tl hz
    have e1 := of_decide_eq_true ok
    subst e1
    exact g_inc C.kS (fun hh hk hv hn kk => lv_iinc C.1 C.2.1 hd hh hk hv hn rfl kk) h k
  · rename_i k1 tl hz
    have e1 := of_decide_eq_true ok
    subst e1
    exact g_b (fun kk => lv_iadd C.1 C.2.1 hd kk) (fun x y _ _ => ⟨i32_add x y, wr_in _⟩) h k
  · rename_i k1 tl hz
    have e1 := of_decide_eq_true ok
    subst e1
    exact g_b (fun kk => lv_isub C.1 C.2.1 hd kk) (fun x y _ _ => ⟨i32_sub x y, wr_in _⟩) h k
  · rename_i k1 tl hz
    have e1 := of_decide_eq_true ok
    subst e1
    exact g_b (fun kk => lv_imul C.1 C.2.1 hd kk) (fun x y _ _ => ⟨i32_mul x y, wr_in _⟩) h k
  · rename_i k1 tl hz
    have e1 := of_decide_eq_true ok
    subst e1
    exact g_d (F := fun x y => x / y) (fun hy kk => lv_idiv C.1 C.2.1 hd hy kk) (fun x y hx hy _ => ⟨i32_div hx hy, wr_in _⟩) h k
  · rename_i k1 tl hz
    have e1 := of_decide_eq_true ok
    subst e1
    exact g_d (F := fun x y => x - x / y * y) (fun hy kk => lv_irem C.1 C.2.1 hd hy kk) (fun x y hx hy h0 => ⟨i32_rem hx hy, tm_in hx hy h0⟩) h k
  · rename_i k1 tl hz
    have e1 := of_decide_eq_true ok
    subst e1
    exact g_b (fun kk => lv_iand C.1 C.2.1 hd kk) (fun x y _ _ => ⟨(i32_of _).symm, toInt_in _⟩) h k
  · rename_i k1 tl hz
    have e1 := of_decide_eq_true ok
    subst e1
    exact g_b (fun kk => lv_ior C.1 C.2.1 hd kk) (fun x y _ _ => ⟨(i32_of _).symm, toInt_in _⟩) h k
  · rename_i k1 tl hz
    have e1 := of_decide_eq_true ok
    subst e1
    exact g_b (fun kk => lv_ixor C.1 C.2.1 hd kk) (fun x y _ _ => ⟨(i32_of _).symm, toInt_in _⟩) h k
  · rename_i k1 tl hz
    have e1 := of_decide_eq_true ok
    subst e1
    exact g_b (fun kk => lv_ishl C.1 C.2.1 hd kk) (fun x y _ _ => ⟨(i32_of _).symm, toInt_in _⟩) h k
  · rename_i k1 tl hz
    have e1 := of_decide_eq_true ok
    subst e1
    exact g_b (fun kk => lv_ishr C.1 C.2.1 hd kk) (fun x y _ _ => ⟨(i32_of _).symm, toInt_in _⟩) h k
  · rename_i k1 tl hz
    have e1 := of_decide_eq_true ok
    subst e1
    exact g_b (fun kk => lv_iushr C.1 C.2.1 hd rfl kk) (fun x y _ _ => ⟨(i32_of _).symm, toInt_in _⟩) h k
  · rename_i k1 tl hz
    have e1 := of_decide_eq_true ok
    subst e1
    exact g_bl (fun kk => lv_ladd C.1 C.2.1 hd kk) (fun x y _ _ => ⟨i64_add x y, wl_in _⟩) h k
  · rename_i k1 tl hz
    have e1 := of_decide_eq_true ok
    subst e1
    exact g_bl (fun kk => lv_lsub C.1 C.2.1 hd kk) (fun x y _ _ => ⟨i64_sub x y, wl_in _⟩) h k
  · rename_i k1 tl hz
    have e1 := of_decide_eq_true ok
    subst e1
    exact g_bl (fun kk => lv_lmul C.1 C.2.1 hd kk) (fun x y _ _ => ⟨i64_mul x y, wl_in _⟩) h k
  · rename_i k1 tl hz
    have e1 := of_decide_eq_true ok
    subst e1
    exact g_dl (F := fun x y => x / y) (fun hy kk => lv_ldiv C.1 C.2.1 hd hy kk) (fun x y hx hy => ⟨i64_div hx hy, wl_in _⟩) h k
  · rename_i k1 tl hz
    have e1 := of_decide_eq_true ok
    subst e1
    exact g_bl (fun kk => lv_land C.1 C.2.1 hd kk) (fun x y _ _ => ⟨(i64_of _).symm, toIntL_in _⟩) h k
  · rename_i k1 tl hz
    have e1 := of_decide_eq_true ok
    subst e1
    exact g_bl (fun kk => lv_lor C.1 C.2.1 hd kk) (fun x y _ _ => ⟨(i64_of _).symm, toIntL_in _⟩) h k
  · rename_i k1 tl hz
    have e1 := of_decide_eq_true ok
    subst e1
    exact g_sl (fun kk => lv_lshl C.1 C.2.1 hd rfl kk) (fun x y => ⟨(i64_of _).symm, toIntL_in _⟩) h k
  · rename_i k1 tl hz
    have e1 := of_decide_eq_true ok
    subst e1
    exact g_sl (fun kk => lv_lshr C.1 C.2.1 hd rfl kk) (fun x y => ⟨(i64_of _).symm, toIntL_in _⟩) h k
  · rename_i k1 tl hz
    have e1 := of_decide_eq_true ok
    subst e1
    exact g_sl (fun kk => lv_lushr C.1 C.2.1 hd rfl kk) (fun x y => ⟨(i64_of _).symm, toIntL_in _⟩) h k
  · rename_i k1 tl hz
    have e1 := of_decide_eq_true ok
    subst e1
    exact g_lc C hd h k
  · rename_i k1 tl hz
    have e1 := of_decide_eq_true ok
    subst e1
    exact g_i2l C hd h k
  · rename_i k1 tl hz
    have e1 := of_decide_eq_true ok
    subst e1
    exact g_l2i C hd h k
  · rename_i k1 tl hz
    have e1 := of_decide_eq_true ok
    subst e1
    exact g_u (fun kk => lv_i2b C.1 C.2.1 hd rfl kk) (fun x hx => ⟨i32_i8 hx, wb_inI x⟩) h k
  · rename_i k1 tl hz
    have e1 := of_decide_eq_true ok
    subst e1
    exact g_u (fun kk => lv_i2c C.1 C.2.1 hd rfl kk) (fun x hx => ⟨i32_char x, by unfold inI; omega⟩) h k
  · rename_i f off tl hz
    obtain ⟨k1, tl⟩ := tl
    have e1 : k1 = 3 := of_decide_eq_true ok
    subst e1
    have i0 : inI 0 := by unfold inI; omega
    cases f
    · exact g_if (fun hx ht kt kf => lv_if_eq C.1 C.2.1 hd ht (fun hP => kt (by rw [icmp_ok hx i0 .eq]; exact decide_eq_true hP)) (fun hP => kf (by rw [icmp_ok hx i0 .eq]; exact decide_eq_false hP))) h k
    · exact g_if (fun hx ht kt kf => lv_if_ne C.1 C.2.1 hd ht (fun hP => kt (by rw [icmp_ok hx i0 .ne]; exact decide_eq_true hP)) (fun hP => kf (by rw [icmp_ok hx i0 .ne]; exact decide_eq_false (fun hn => hn hP)))) h k
    · exact g_if (fun hx ht kt kf => lv_if_lt C.1 C.2.1 hd ht (fun hP => kt (by rw [icmp_ok hx i0 .lt]; exact decide_eq_true hP)) (fun hP => kf (by rw [icmp_ok hx i0 .lt]; exact decide_eq_false hP))) h k
    · exact g_if (fun hx ht kt kf => lv_if_ge C.1 C.2.1 hd ht (fun hP => kt (by rw [icmp_ok hx i0 .ge]; exact decide_eq_true hP)) (fun hP => kf (by rw [icmp_ok hx i0 .ge]; exact decide_eq_false hP))) h k
    · exact g_if (fun hx ht kt kf => lv_if_gt C.1 C.2.1 hd ht (fun hP => kt (by rw [icmp_ok hx i0 .gt]; exact decide_eq_true hP)) (fun hP => kf (by rw [icmp_ok hx i0 .gt]; exact decide_eq_false hP))) h k
    · exact g_if (fun hx ht kt kf => lv_if_le C.1 C.2.1 hd ht (fun hP => kt (by rw [icmp_ok hx i0 .le]; exact decide_eq_true hP)) (fun hP => kf (by rw [icmp_ok hx i0 .le]; exact decide_eq_false hP))) h k
  · rename_i f off tl hz
    obtain ⟨k1, tl⟩ := tl
    have e1 : k1 = 3 := of_decide_eq_true ok
    subst e1
    cases f
    · exact g_ic (fun hx hy ht kt kf => lv_icmp_eq C.1 C.2.1 hd ht (fun hP => kt (by rw [icmp_ok hx hy .eq]; exact decide_eq_true hP)) (fun hP => kf (by rw [icmp_ok hx hy .eq]; exact decide_eq_false hP))) h k
    · exact g_ic (fun hx hy ht kt kf => lv_icmp_ne C.1 C.2.1 hd ht (fun hP => kt (by rw [icmp_ok hx hy .ne]; exact decide_eq_true hP)) (fun hP => kf (by rw [icmp_ok hx hy .ne]; exact decide_eq_false (fun hn => hn hP)))) h k
    · exact g_ic (fun hx hy ht kt kf => lv_icmp_lt C.1 C.2.1 hd ht (fun hP => kt (by rw [icmp_ok hx hy .lt]; exact decide_eq_true hP)) (fun hP => kf (by rw [icmp_ok hx hy .lt]; exact decide_eq_false hP))) h k
    · exact g_ic (fun hx hy ht kt kf => lv_icmp_ge C.1 C.2.1 hd ht (fun hP => kt (by rw [icmp_ok hx hy .ge]; exact decide_eq_true hP)) (fun hP => kf (by rw [icmp_ok hx hy .ge]; exact decide_eq_false hP))) h k
    · exact g_ic (fun hx hy ht kt kf => lv_icmp_gt C.1 C.2.1 hd ht (fun hP => kt (by rw [icmp_ok hx hy .gt]; exact decide_eq_true hP)) (fun hP => kf (by rw [icmp_ok hx hy .gt]; exact decide_eq_false hP))) h k
    · exact g_ic (fun hx hy ht kt kf => lv_icmp_le C.1 C.2.1 hd ht (fun hP => kt (by rw [icmp_ok hx hy .le]; exact decide_eq_true hP)) (fun hP => kf (by rw [icmp_ok hx hy .le]; exact decide_eq_false hP))) h k
  · rename_i off tl hz
    obtain ⟨k1, tl⟩ := tl
    have e1 : k1 = 3 := of_decide_eq_true ok
    subst e1
    exact g_goto (fun ht kk => lv_goto C.1 C.2.1 hd ht kk) h k
  · rename_i d1 lo hi offs tl hz
    exact g_sw (fun hx ht kk => lv_tableOut C.1 C.2.1 hd hx ht kk) (fun h1 h2 ho ht kk => lv_tableIn C.1 C.2.1 hd h1 h2 ho ht kk) h k
  · rename_i k1 tl hz
    have e1 := of_decide_eq_true ok
    subst e1
    exact g_dup C hd h k
  · rename_i k1 tl hz
    have e1 := of_decide_eq_true ok
    subst e1
    exact g_u (fun kk => lv_ineg C.1 C.2.1 hd kk) (fun x hx => ⟨i32_neg x, wr_in _⟩) h k
  · rename_i k1 tl hz
    have e1 := of_decide_eq_true ok
    subst e1
    exact g_nl C hd h k
  · rename_i k1 tl hz
    have e1 := of_decide_eq_true ok
    subst e1
    exact g_dx1 C hd h k
  · rename_i off tl hz
    obtain ⟨k1, tl⟩ := tl
    have e1 : k1 = 3 := of_decide_eq_true ok
    subst e1
    exact g_nn C hd h k
  · rename_i idx k1 tl hz
    obtain ⟨a, b, cc, d⟩ := tl
    rw [okX, Bool.and_eq_true] at ok
    have e1 := of_decide_eq_true ok.1
    subst e1
    exact g_cc C hd (of_decide_eq_true ok.2) h k
  · rename_i idx dims k1 tl hz
    obtain ⟨a, b, cc, d⟩ := tl
    rw [okX, Bool.and_eq_true, Bool.and_eq_true] at ok
    have e1 := of_decide_eq_true ok.1.1
    subst e1
    have e2 := of_decide_eq_true ok.1.2
    subst e2
    exact g_ma C hd (of_decide_eq_true ok.2) hJ hm h k
  · rename_i k1 tl hz
    have e1 := of_decide_eq_true ok
    subst e1
    exact g_dup2 C hd h k
  · rename_i k1 tl hz
    have e1 := of_decide_eq_true ok
    subst e1
    exact g_pop C hd h k
  · rename_i idx k1 a b cc d hz
    rw [okX, Bool.and_eq_true] at ok
    have e1 := of_decide_eq_true ok.1
    subst e1
    exact g_gf C hd ok.2 h k
  · rename_i idx k1 a b cc d hz
    rw [okX, Bool.and_eq_true] at ok
    have e1 := of_decide_eq_true ok.1
    subst e1
    exact g_pf C hd ok.2 h k
  · rename_i idx k1 a b cc d hz
    rw [okX, Bool.and_eq_true] at ok
    have e1 := of_decide_eq_true ok.1
    subst e1
    exact g_gs C hd ok.2 h k
  · rename_i k1 tl hz
    have e1 := of_decide_eq_true ok
    subst e1
    exact g_ia C hd h k
  · rename_i k1 tl hz
    have e1 := of_decide_eq_true ok
    subst e1
    exact g_ba C hd h k
  · rename_i k1 tl hz
    have e1 := of_decide_eq_true ok
    subst e1
    exact g_la C hd h k
  · rename_i k1 tl hz
    have e1 := of_decide_eq_true ok
    subst e1
    exact g_aa C hd h k
  · rename_i k1 tl hz
    have e1 := of_decide_eq_true ok
    subst e1
    exact g_iS C hd h k
  · rename_i k1 tl hz
    have e1 := of_decide_eq_true ok
    subst e1
    exact g_bS C hd h k
  · rename_i k1 tl hz
    have e1 := of_decide_eq_true ok
    subst e1
    exact g_lS C hd h k
  · rename_i k1 tl hz
    have e1 := of_decide_eq_true ok
    subst e1
    exact g_aS C hd h k
  · rename_i k1 tl hz
    have e1 := of_decide_eq_true ok
    subst e1
    exact g_len C hd h k
  · rename_i ty k1 a tl hz
    rw [okX, Bool.and_eq_true] at ok
    have e1 := of_decide_eq_true ok.1
    subst e1
    exact g_na C hd (aty_ok ok.2) hJ hm h k
  · rename_i idx k1 tl hz
    obtain ⟨a, b, cc, d⟩ := tl
    rw [okX, Bool.and_eq_true] at ok
    have e1 := of_decide_eq_true ok.1
    subst e1
    exact g_nq C hd (of_decide_eq_true ok.2) hJ hm h k
  · rename_i idx k1 a b cc d hz
    rw [okX, Bool.and_eq_true] at ok
    have e1 := of_decide_eq_true ok.1
    subst e1
    by_cases hc : cc = 0
    · have ok2 := ok.2
      rw [if_pos hc, Bool.and_eq_true] at ok2
      exact g_nw C hd ok2.1 (of_decide_eq_true ok2.2) hJ hm h k
    · unfold o_nw at h
      rw [if_neg hc] at h
      split at h
      · split at h <;> cases h
      · cases h
  · rename_i idx k1 a b cc d hz
    rw [okX, Bool.and_eq_true] at ok
    have e1 := of_decide_eq_true ok.1
    subst e1
    exact g_ldc C hd ok.2 h k
  · rename_i idx k1 a b cc d hz
    rw [okX, Bool.and_eq_true] at ok
    have e1 := of_decide_eq_true ok.1
    subst e1
    exact g_ldcw C hd ok.2 h k
  · rename_i idx k1 a tl hz
    obtain ⟨b, cc, d⟩ := tl
    rw [okX, Bool.and_eq_true] at ok
    have e1 := of_decide_eq_true ok.1
    subst e1
    split at h
    · rename_i ha
      have hw := C.w (of_decide_eq_true ok.2) rfl
      exact g_push (v := vl (a : Int)) (fun hS kk => lv_ldc2 C.1 C.2.1 C.own hw hd kk) (fun L => by show inL _; unfold inL; omega) h k
    · cases h
  · rename_i idx k1 a b cc d hz
    rw [okX, Bool.and_eq_true] at ok
    have e1 := of_decide_eq_true ok.1
    subst e1
    have ok2 := ok.2
    unfold o_ivv o_iv at h
    split at h
    · rename_i hc
      rw [if_neg (by omega), if_pos hc] at ok2
      exact g_cl C hd (of_decide_eq_true ok2) hJ hm h k
    · split at h
      · split at h <;> cases h
      · cases h
  · rename_i idx k1 a b cc d hz
    rw [okX, Bool.and_eq_true] at ok
    have e1 := of_decide_eq_true ok.1
    subst e1
    have ok2 := ok.2
    unfold o_ivs at h
    split at h
    · unfold o_iv at h
      split at h <;> cases h
    · split at h
      · rename_i h1 hc
        rw [if_pos hc] at ok2
        exact g_mn C hd (of_decide_eq_true ok2) hJ hm h k
      · split at h
        · rename_i h1 h2 hc
          rw [if_neg h2, if_pos hc] at ok2
          exact g_mx C hd (of_decide_eq_true ok2) hJ hm h k
        · split at h
          · rename_i h1 h2 h3 hc
            rw [if_neg h2, if_neg h3, if_pos hc] at ok2
            exact g_cp C hd (of_decide_eq_true ok2) h k
          · cases h
  · rename_i idx k1 a b cc d hz
    rw [okX, Bool.and_eq_true] at ok
    have e1 := of_decide_eq_true ok.1
    subst e1
    have ok2 := ok.2
    unfold o_ivp at h
    split at h
    · unfold o_iv at h
      split at h <;> cases h
    · split at h
      · rename_i h1 hc
        rw [if_pos hc] at ok2
        exact g_oi C hd (of_decide_eq_true ok2) h k
      · cases h
  · rename_i k1 a b cc tl hz
    unfold o_ir fin at h
    split at h
    · split at h <;> cases h
    · cases h
  · rename_i tl hz
    unfold o_ar fin at h
    split at h <;> cases h
  · rename_i tl hz
    unfold o_lr fin at h
    split at h <;> cases h
  · rename_i tl hz
    unfold o_rt fin at h
    split at h <;> cases h
  · cases h
end STEPA
