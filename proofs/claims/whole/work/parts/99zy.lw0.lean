/-! the law's calls -/
theorem cmpL_rf {x : Int} : cmpL x x = 0 := by
  unfold cmpL
  rw [if_neg (Int.lt_irrefl x), if_pos rfl]
theorem INV.sh {S : List (Nat × Nat)} {T : Nat → Nat → Nat} {I : Ix} {s c : Nat} (IV : INV S T I s c) : S[s]? = some (0, 9) := by
  obtain ⟨_, _, q, y, h, l, a, ne, np, su, cd, nm, L, bf, n, eo, ek, W, _⟩ := IV
  exact oDropSwitch_sh W.o
/-- what is to be shown behind a call -/
def KKP (xs : List Int) (S : List (Nat × Nat)) (s i cc zz c : Nat) (Q : Res → Mem → Prop) : Prop := ∀ I' T' c' cc' zz' v5 v6, INV S T' I' s c' → c' ≤ c + 1 → cc ≤ cc' + 1 → zz ≤ zz' + 6 → WP xs 344 35 2714 [vs 3, vr s, vr (s + 163), vr (s + 203), vi ((i : Nat) : Int), v5, v6] [] (S, I', T', cc', zz') Q
theorem mx_344 : mxl 344 = 7 := by decide +kernel
theorem l_344_248 : look 344 248 = some (.aload_n 1, 1, 0, 0, 0, 0) := by decide +kernel
theorem l_344_249 : look 344 249 = some (.aload_n 0, 1, 0, 0, 0, 0) := by decide +kernel
theorem l_344_250 : look 344 250 = some (.iload 4, 2, 0, 0, 0, 0) := by decide +kernel
theorem l_344_252 : look 344 252 = some (.iconst 1, 1, 0, 0, 0, 0) := by decide +kernel
theorem l_344_253 : look 344 253 = some (.iadd, 1, 0, 0, 0, 0) := by decide +kernel
theorem l_344_254 : look 344 254 = some (.iaload, 1, 0, 0, 0, 0) := by decide +kernel
theorem l_344_255 : look 344 255 = some (.aload_n 0, 1, 0, 0, 0, 0) := by decide +kernel
theorem l_344_256 : look 344 256 = some (.iload 4, 2, 0, 0, 0, 0) := by decide +kernel
theorem l_344_258 : look 344 258 = some (.iconst 2, 1, 0, 0, 0, 0) := by decide +kernel
theorem l_344_259 : look 344 259 = some (.iadd, 1, 0, 0, 0, 0) := by decide +kernel
theorem l_344_260 : look 344 260 = some (.iaload, 1, 0, 0, 0, 0) := by decide +kernel
theorem l_344_261 : look 344 261 = some (.aload_n 0, 1, 0, 0, 0, 0) := by decide +kernel
theorem l_344_262 : look 344 262 = some (.iload 4, 2, 0, 0, 0, 0) := by decide +kernel
theorem l_344_264 : look 344 264 = some (.iconst 3, 1, 0, 0, 0, 0) := by decide +kernel
theorem l_344_265 : look 344 265 = some (.iadd, 1, 0, 0, 0, 0) := by decide +kernel
theorem l_344_266 : look 344 266 = some (.iaload, 1, 0, 0, 0, 0) := by decide +kernel
theorem l_344_267 : look 344 267 = some (.aload_n 0, 1, 0, 0, 0, 0) := by decide +kernel
theorem l_344_268 : look 344 268 = some (.iload 4, 2, 0, 0, 0, 0) := by decide +kernel
theorem l_344_270 : look 344 270 = some (.iconst 4, 1, 0, 0, 0, 0) := by decide +kernel
theorem l_344_271 : look 344 271 = some (.iadd, 1, 0, 0, 0, 0) := by decide +kernel
theorem l_344_272 : look 344 272 = some (.iaload, 1, 0, 0, 0, 0) := by decide +kernel
theorem l_344_273 : look 344 273 = some (.aload_n 0, 1, 0, 0, 0, 0) := by decide +kernel
theorem l_344_274 : look 344 274 = some (.iload 4, 2, 0, 0, 0, 0) := by decide +kernel
theorem l_344_276 : look 344 276 = some (.iconst 5, 1, 0, 0, 0, 0) := by decide +kernel
theorem l_344_277 : look 344 277 = some (.iadd, 1, 0, 0, 0, 0) := by decide +kernel
theorem l_344_278 : look 344 278 = some (.iaload, 1, 0, 0, 0, 0) := by decide +kernel
theorem l_344_279 : look 344 279 = some (.invokevirtual 139, 3, 99, 6, 0, 590) := by decide +kernel
theorem l_344_282 : look 344 282 = some (.aload_n 2, 1, 0, 0, 0, 0) := by decide +kernel
theorem l_344_283 : look 344 283 = some (.aload_n 0, 1, 0, 0, 0, 0) := by decide +kernel
theorem l_344_284 : look 344 284 = some (.iload 4, 2, 0, 0, 0, 0) := by decide +kernel
theorem l_344_286 : look 344 286 = some (.iconst 1, 1, 0, 0, 0, 0) := by decide +kernel
theorem l_344_287 : look 344 287 = some (.iadd, 1, 0, 0, 0, 0) := by decide +kernel
theorem l_344_288 : look 344 288 = some (.iaload, 1, 0, 0, 0, 0) := by decide +kernel
theorem l_344_289 : look 344 289 = some (.aload_n 0, 1, 0, 0, 0, 0) := by decide +kernel
theorem l_344_290 : look 344 290 = some (.iload 4, 2, 0, 0, 0, 0) := by decide +kernel
theorem l_344_292 : look 344 292 = some (.iconst 2, 1, 0, 0, 0, 0) := by decide +kernel
theorem l_344_293 : look 344 293 = some (.iadd, 1, 0, 0, 0, 0) := by decide +kernel
theorem l_344_294 : look 344 294 = some (.iaload, 1, 0, 0, 0, 0) := by decide +kernel
theorem l_344_295 : look 344 295 = some (.aload_n 0, 1, 0, 0, 0, 0) := by decide +kernel
theorem l_344_296 : look 344 296 = some (.iload 4, 2, 0, 0, 0, 0) := by decide +kernel
theorem l_344_298 : look 344 298 = some (.iconst 3, 1, 0, 0, 0, 0) := by decide +kernel
theorem l_344_299 : look 344 299 = some (.iadd, 1, 0, 0, 0, 0) := by decide +kernel
theorem l_344_300 : look 344 300 = some (.iaload, 1, 0, 0, 0, 0) := by decide +kernel
theorem l_344_301 : look 344 301 = some (.aload_n 0, 1, 0, 0, 0, 0) := by decide +kernel
theorem l_344_302 : look 344 302 = some (.iload 4, 2, 0, 0, 0, 0) := by decide +kernel
theorem l_344_304 : look 344 304 = some (.iconst 4, 1, 0, 0, 0, 0) := by decide +kernel
theorem l_344_305 : look 344 305 = some (.iadd, 1, 0, 0, 0, 0) := by decide +kernel
theorem l_344_306 : look 344 306 = some (.iaload, 1, 0, 0, 0, 0) := by decide +kernel
theorem l_344_307 : look 344 307 = some (.aload_n 0, 1, 0, 0, 0, 0) := by decide +kernel
theorem l_344_308 : look 344 308 = some (.iload 4, 2, 0, 0, 0, 0) := by decide +kernel
theorem l_344_310 : look 344 310 = some (.iconst 5, 1, 0, 0, 0, 0) := by decide +kernel
theorem l_344_311 : look 344 311 = some (.iadd, 1, 0, 0, 0, 0) := by decide +kernel
theorem l_344_312 : look 344 312 = some (.iaload, 1, 0, 0, 0, 0) := by decide +kernel
theorem l_344_313 : look 344 313 = some (.invokevirtual 142, 3, 171, 6, 0, 1734) := by decide +kernel
theorem l_344_316 : look 344 316 = some (.if_icmp .eq 2398, 3, 0, 0, 0, 0) := by decide +kernel
theorem l_344_321 : look 344 321 = some (.aload_n 1, 1, 0, 0, 0, 0) := by decide +kernel
theorem l_344_322 : look 344 322 = some (.aload_n 0, 1, 0, 0, 0, 0) := by decide +kernel
theorem l_344_323 : look 344 323 = some (.iload 4, 2, 0, 0, 0, 0) := by decide +kernel
theorem l_344_325 : look 344 325 = some (.iconst 1, 1, 0, 0, 0, 0) := by decide +kernel
theorem l_344_326 : look 344 326 = some (.iadd, 1, 0, 0, 0, 0) := by decide +kernel
theorem l_344_327 : look 344 327 = some (.iaload, 1, 0, 0, 0, 0) := by decide +kernel
theorem l_344_328 : look 344 328 = some (.invokevirtual 143, 3, 100, 2, 0, 598) := by decide +kernel
theorem l_344_331 : look 344 331 = some (.aload_n 2, 1, 0, 0, 0, 0) := by decide +kernel
theorem l_344_332 : look 344 332 = some (.aload_n 0, 1, 0, 0, 0, 0) := by decide +kernel
theorem l_344_333 : look 344 333 = some (.iload 4, 2, 0, 0, 0, 0) := by decide +kernel
theorem l_344_335 : look 344 335 = some (.iconst 1, 1, 0, 0, 0, 0) := by decide +kernel
theorem l_344_336 : look 344 336 = some (.iadd, 1, 0, 0, 0, 0) := by decide +kernel
theorem l_344_337 : look 344 337 = some (.iaload, 1, 0, 0, 0, 0) := by decide +kernel
theorem l_344_338 : look 344 338 = some (.invokevirtual 146, 3, 172, 2, 0, 1738) := by decide +kernel
theorem l_344_341 : look 344 341 = some (.if_icmp .eq 2373, 3, 0, 0, 0, 0) := by decide +kernel
theorem l_344_346 : look 344 346 = some (.aload_n 1, 1, 0, 0, 0, 0) := by decide +kernel
theorem l_344_347 : look 344 347 = some (.aload_n 3, 1, 0, 0, 0, 0) := by decide +kernel
theorem l_344_348 : look 344 348 = some (.invokestatic 147, 3, 307, 2, 7, 811) := by decide +kernel
theorem l_344_351 : look 344 351 = some (.istore 5, 2, 0, 0, 0, 0) := by decide +kernel
theorem l_344_353 : look 344 353 = some (.aload_n 2, 1, 0, 0, 0, 0) := by decide +kernel
theorem l_344_354 : look 344 354 = some (.invokevirtual 152, 3, 198, 1, 0, 1742) := by decide +kernel
theorem l_344_357 : look 344 357 = some (.istore 6, 2, 0, 0, 0, 0) := by decide +kernel
theorem l_344_359 : look 344 359 = some (.aload_n 2, 1, 0, 0, 0, 0) := by decide +kernel
theorem l_344_360 : look 344 360 = some (.invokevirtual 153, 3, 168, 1, 0, 1730) := by decide +kernel
theorem l_344_363 : look 344 363 = some (.iload 5, 2, 0, 0, 0, 0) := by decide +kernel
theorem l_344_365 : look 344 365 = some (.if_icmp .eq 5, 3, 0, 0, 0, 0) := by decide +kernel
theorem l_344_370 : look 344 370 = some (.iload 5, 2, 0, 0, 0, 0) := by decide +kernel
theorem l_344_372 : look 344 372 = some (.ifCond .ne 15, 3, 0, 0, 0, 0) := by decide +kernel
theorem l_344_375 : look 344 375 = some (.aload_n 3, 1, 0, 0, 0, 0) := by decide +kernel
theorem l_344_376 : look 344 376 = some (.iconst 0, 1, 0, 0, 0, 0) := by decide +kernel
theorem l_344_377 : look 344 377 = some (.laload, 1, 0, 0, 0, 0) := by decide +kernel
theorem l_344_378 : look 344 378 = some (.iload 6, 2, 0, 0, 0, 0) := by decide +kernel
theorem l_344_380 : look 344 380 = some (.i2l, 1, 0, 0, 0, 0) := by decide +kernel
theorem l_344_381 : look 344 381 = some (.lcmp, 1, 0, 0, 0, 0) := by decide +kernel
theorem l_344_382 : look 344 382 = some (.ifCond .eq 5, 3, 0, 0, 0, 0) := by decide +kernel
theorem l_344_387 : look 344 387 = some (.goto 2327, 3, 0, 0, 0, 0) := by decide +kernel
theorem l_344_390 : look 344 390 = some (.aload_n 1, 1, 0, 0, 0, 0) := by decide +kernel
theorem l_344_391 : look 344 391 = some (.invokevirtual 156, 3, 102, 1, 0, 602) := by decide +kernel
theorem l_344_394 : look 344 394 = some (.aload_n 2, 1, 0, 0, 0, 0) := by decide +kernel
theorem l_344_395 : look 344 395 = some (.invokevirtual 159, 3, 199, 1, 0, 1874) := by decide +kernel
theorem l_344_398 : look 344 398 = some (.if_icmp .eq 2316, 3, 0, 0, 0, 0) := by decide +kernel
theorem l_344_403 : look 344 403 = some (.aload_n 1, 1, 0, 0, 0, 0) := by decide +kernel
theorem l_344_404 : look 344 404 = some (.invokevirtual 160, 3, 103, 1, 0, 606) := by decide +kernel
theorem l_344_407 : look 344 407 = some (.aload_n 2, 1, 0, 0, 0, 0) := by decide +kernel
theorem l_344_408 : look 344 408 = some (.invokevirtual 163, 3, 200, 1, 0, 1878) := by decide +kernel
theorem l_344_411 : look 344 411 = some (.if_icmp .eq 2303, 3, 0, 0, 0, 0) := by decide +kernel
theorem l_344_416 : look 344 416 = some (.aload_n 1, 1, 0, 0, 0, 0) := by decide +kernel
theorem l_344_417 : look 344 417 = some (.aload_n 0, 1, 0, 0, 0, 0) := by decide +kernel
theorem l_344_418 : look 344 418 = some (.iload 4, 2, 0, 0, 0, 0) := by decide +kernel
theorem l_344_420 : look 344 420 = some (.iconst 1, 1, 0, 0, 0, 0) := by decide +kernel
theorem l_344_421 : look 344 421 = some (.iadd, 1, 0, 0, 0, 0) := by decide +kernel
theorem l_344_422 : look 344 422 = some (.iaload, 1, 0, 0, 0, 0) := by decide +kernel
theorem l_344_423 : look 344 423 = some (.aload_n 3, 1, 0, 0, 0, 0) := by decide +kernel
theorem l_344_424 : look 344 424 = some (.invokestatic 164, 3, 308, 3, 7, 1037) := by decide +kernel
theorem l_344_427 : look 344 427 = some (.istore 5, 2, 0, 0, 0, 0) := by decide +kernel
theorem l_344_429 : look 344 429 = some (.aload_n 2, 1, 0, 0, 0, 0) := by decide +kernel
theorem l_344_430 : look 344 430 = some (.aload_n 0, 1, 0, 0, 0, 0) := by decide +kernel
theorem l_344_431 : look 344 431 = some (.iload 4, 2, 0, 0, 0, 0) := by decide +kernel
theorem l_344_433 : look 344 433 = some (.iconst 1, 1, 0, 0, 0, 0) := by decide +kernel
theorem l_344_434 : look 344 434 = some (.iadd, 1, 0, 0, 0, 0) := by decide +kernel
theorem l_344_435 : look 344 435 = some (.iaload, 1, 0, 0, 0, 0) := by decide +kernel
theorem l_344_436 : look 344 436 = some (.invokevirtual 167, 3, 238, 2, 0, 2008) := by decide +kernel
theorem l_344_439 : look 344 439 = some (.istore 6, 2, 0, 0, 0, 0) := by decide +kernel
theorem l_344_441 : look 344 441 = some (.aload_n 2, 1, 0, 0, 0, 0) := by decide +kernel
theorem l_344_442 : look 344 442 = some (.invokevirtual 153, 3, 168, 1, 0, 1730) := by decide +kernel
theorem l_344_445 : look 344 445 = some (.iload 5, 2, 0, 0, 0, 0) := by decide +kernel
theorem l_344_447 : look 344 447 = some (.if_icmp .eq 5, 3, 0, 0, 0, 0) := by decide +kernel
theorem l_344_452 : look 344 452 = some (.iload 5, 2, 0, 0, 0, 0) := by decide +kernel
theorem l_344_454 : look 344 454 = some (.ifCond .ne 15, 3, 0, 0, 0, 0) := by decide +kernel
theorem l_344_457 : look 344 457 = some (.aload_n 3, 1, 0, 0, 0, 0) := by decide +kernel
theorem l_344_458 : look 344 458 = some (.iconst 0, 1, 0, 0, 0, 0) := by decide +kernel
theorem l_344_459 : look 344 459 = some (.laload, 1, 0, 0, 0, 0) := by decide +kernel
theorem l_344_460 : look 344 460 = some (.iload 6, 2, 0, 0, 0, 0) := by decide +kernel
theorem l_344_462 : look 344 462 = some (.i2l, 1, 0, 0, 0, 0) := by decide +kernel
theorem l_344_463 : look 344 463 = some (.lcmp, 1, 0, 0, 0, 0) := by decide +kernel
theorem l_344_464 : look 344 464 = some (.ifCond .eq 5, 3, 0, 0, 0, 0) := by decide +kernel
theorem l_344_469 : look 344 469 = some (.goto 2245, 3, 0, 0, 0, 0) := by decide +kernel
section LWA0
variable {xs : List Int} {S : List (Nat × Nat)} {T : Nat → Nat → Nat} {I : Ix} {cc zz s c i : Nat} {v5 v6 : AV} {Q : Res → Mem → Prop}
theorem cs_0 (IV : INV S T I s c) (hb : 1 ≤ cc ∧ 6 ≤ zz) (hc : c + 1 < 100000) (hi : i + 5 < xs.length) (hxl : xs.length ≤ 100000) (KK : KKP xs S s i cc zz c Q) : WP xs 344 35 248 [vs 3, vr s, vr (s + 163), vr (s + 203), vi ((i : Nat) : Int), v5, v6] [] (S, I, T, cc, zz) Q := by
  have hms := oModel_sh IV.1
  have h203 := IV.2.1
  have hds := IV.sh
  refine w_aln l_344_248 rfl ?_
  refine w_asn l_344_249 rfl ?_
  refine w_il l_344_250 rfl ?_
  refine w_ic l_344_252 (by decide) ?_
  refine w_add ((i + 1 : Nat) : Int) l_344_253 (by unfold wr; omega) ?_
  refine w_xs (i + 1) (xs.getD (i + 1) 0) l_344_254 rfl (by omega) rfl ?_
  refine w_asn l_344_255 rfl ?_
  refine w_il l_344_256 rfl ?_
  refine w_ic l_344_258 (by decide) ?_
  refine w_add ((i + 2 : Nat) : Int) l_344_259 (by unfold wr; omega) ?_
  refine w_xs (i + 2) (xs.getD (i + 2) 0) l_344_260 rfl (by omega) rfl ?_
  refine w_asn l_344_261 rfl ?_
  refine w_il l_344_262 rfl ?_
  refine w_ic l_344_264 (by decide) ?_
  refine w_add ((i + 3 : Nat) : Int) l_344_265 (by unfold wr; omega) ?_
  refine w_xs (i + 3) (xs.getD (i + 3) 0) l_344_266 rfl (by omega) rfl ?_
  refine w_asn l_344_267 rfl ?_
  refine w_il l_344_268 rfl ?_
  refine w_ic l_344_270 (by decide) ?_
  refine w_add ((i + 4 : Nat) : Int) l_344_271 (by unfold wr; omega) ?_
  refine w_xs (i + 4) (xs.getD (i + 4) 0) l_344_272 rfl (by omega) rfl ?_
  refine w_asn l_344_273 rfl ?_
  refine w_il l_344_274 rfl ?_
  refine w_ic l_344_276 (by decide) ?_
  refine w_add ((i + 5 : Nat) : Int) l_344_277 (by unfold wr; omega) ?_
  refine w_xs (i + 5) (xs.getD (i + 5) 0) l_344_278 rfl (by omega) rfl ?_
  refine w_iv [vi (xs.getD (i + 1) 0), vi (xs.getD (i + 2) 0), vi (xs.getD (i + 3) 0), vi (xs.getD (i + 4) 0), vi (xs.getD (i + 5) 0)] [] l_344_279 rfl rfl rfl (Nat.le_of_ble_eq_true rfl) (by rw [mx_99]; exact Nat.le_of_ble_eq_true rfl) (by rw [mt_99]; exact hds) (by rw [mt_99]; decide) (by rw [rk_99]; decide) (CL_mono (py_99 IV hc) fun r1 m1 hr1 => ?_)
  obtain ⟨V, I1, rfl, rfl, hr2⟩ := hr1
  show WP xs 344 35 282 [vs 3, vr s, vr (s + 163), vr (s + 203), vi ((i : Nat) : Int), v5, v6] [vi V] (S, I1, T, cc, zz) Q
  refine w_aln l_344_282 rfl ?_
  refine w_asn l_344_283 rfl ?_
  refine w_il l_344_284 rfl ?_
  refine w_ic l_344_286 (by decide) ?_
  refine w_add ((i + 1 : Nat) : Int) l_344_287 (by unfold wr; omega) ?_
  refine w_xs (i + 1) (xs.getD (i + 1) 0) l_344_288 rfl (by omega) rfl ?_
  refine w_asn l_344_289 rfl ?_
  refine w_il l_344_290 rfl ?_
  refine w_ic l_344_292 (by decide) ?_
  refine w_add ((i + 2 : Nat) : Int) l_344_293 (by unfold wr; omega) ?_
  refine w_xs (i + 2) (xs.getD (i + 2) 0) l_344_294 rfl (by omega) rfl ?_
  refine w_asn l_344_295 rfl ?_
  refine w_il l_344_296 rfl ?_
  refine w_ic l_344_298 (by decide) ?_
  refine w_add ((i + 3 : Nat) : Int) l_344_299 (by unfold wr; omega) ?_
  refine w_xs (i + 3) (xs.getD (i + 3) 0) l_344_300 rfl (by omega) rfl ?_
  refine w_asn l_344_301 rfl ?_
  refine w_il l_344_302 rfl ?_
  refine w_ic l_344_304 (by decide) ?_
  refine w_add ((i + 4 : Nat) : Int) l_344_305 (by unfold wr; omega) ?_
  refine w_xs (i + 4) (xs.getD (i + 4) 0) l_344_306 rfl (by omega) rfl ?_
  refine w_asn l_344_307 rfl ?_
  refine w_il l_344_308 rfl ?_
  refine w_ic l_344_310 (by decide) ?_
  refine w_add ((i + 5 : Nat) : Int) l_344_311 (by unfold wr; omega) ?_
  refine w_xs (i + 5) (xs.getD (i + 5) 0) l_344_312 rfl (by omega) rfl ?_
  refine w_iv [vi (xs.getD (i + 1) 0), vi (xs.getD (i + 2) 0), vi (xs.getD (i + 3) 0), vi (xs.getD (i + 4) 0), vi (xs.getD (i + 5) 0)] [vi V] l_344_313 rfl rfl rfl (Nat.le_of_ble_eq_true rfl) (by rw [mx_171]; exact Nat.le_of_ble_eq_true rfl) (by rw [mt_171]; exact hms) (by rw [mt_171]; decide) (by rw [rk_171]; decide) (CL_mono hr2 fun r2 m2 h2 => ?_)
  obtain ⟨I2, c2, rfl, rfl, IV2, hc2⟩ := h2
  show WP xs 344 35 316 [vs 3, vr s, vr (s + 163), vr (s + 203), vi ((i : Nat) : Int), v5, v6] [vi V, vi V] (S, I2, T, cc, zz) Q
  refine w_ceq 2714 l_344_316 (by decide) (fun _ => ?_) (fun hx => absurd hx (by exact fun q => q rfl))
  exact KK _ _ _ _ _ _ _ IV2 (by omega) (by omega) (by omega)

theorem cs_1 (IV : INV S T I s c) (hb : 1 ≤ cc ∧ 6 ≤ zz) (hc : c + 1 < 100000) (hi : i + 5 < xs.length) (hxl : xs.length ≤ 100000) (KK : KKP xs S s i cc zz c Q) : WP xs 344 35 321 [vs 3, vr s, vr (s + 163), vr (s + 203), vi ((i : Nat) : Int), v5, v6] [] (S, I, T, cc, zz) Q := by
  have hms := oModel_sh IV.1
  have h203 := IV.2.1
  have hds := IV.sh
  refine w_aln l_344_321 rfl ?_
  refine w_asn l_344_322 rfl ?_
  refine w_il l_344_323 rfl ?_
  refine w_ic l_344_325 (by decide) ?_
  refine w_add ((i + 1 : Nat) : Int) l_344_326 (by unfold wr; omega) ?_
  refine w_xs (i + 1) (xs.getD (i + 1) 0) l_344_327 rfl (by omega) rfl ?_
  refine w_iv [vi (xs.getD (i + 1) 0)] [] l_344_328 rfl rfl rfl (Nat.le_of_ble_eq_true rfl) (by rw [mx_100]; exact Nat.le_of_ble_eq_true rfl) (by rw [mt_100]; exact hds) (by rw [mt_100]; decide) (by rw [rk_100]; decide) (CL_mono (py_100 IV hc) fun r1 m1 hr1 => ?_)
  obtain ⟨V, I1, rfl, rfl, hr2⟩ := hr1
  show WP xs 344 35 331 [vs 3, vr s, vr (s + 163), vr (s + 203), vi ((i : Nat) : Int), v5, v6] [vi V] (S, I1, T, cc, zz) Q
  refine w_aln l_344_331 rfl ?_
  refine w_asn l_344_332 rfl ?_
  refine w_il l_344_333 rfl ?_
  refine w_ic l_344_335 (by decide) ?_
  refine w_add ((i + 1 : Nat) : Int) l_344_336 (by unfold wr; omega) ?_
  refine w_xs (i + 1) (xs.getD (i + 1) 0) l_344_337 rfl (by omega) rfl ?_
  refine w_iv [vi (xs.getD (i + 1) 0)] [vi V] l_344_338 rfl rfl rfl (Nat.le_of_ble_eq_true rfl) (by rw [mx_172]; exact Nat.le_of_ble_eq_true rfl) (by rw [mt_172]; exact hms) (by rw [mt_172]; decide) (by rw [rk_172]; decide) (CL_mono hr2 fun r2 m2 h2 => ?_)
  obtain ⟨I2, c2, rfl, rfl, IV2, hc2⟩ := h2
  show WP xs 344 35 341 [vs 3, vr s, vr (s + 163), vr (s + 203), vi ((i : Nat) : Int), v5, v6] [vi V, vi V] (S, I2, T, cc, zz) Q
  refine w_ceq 2714 l_344_341 (by decide) (fun _ => ?_) (fun hx => absurd hx (by exact fun q => q rfl))
  exact KK _ _ _ _ _ _ _ IV2 (by omega) (by omega) (by omega)

theorem cs_2 (IV : INV S T I s c) (hb : 1 ≤ cc ∧ 6 ≤ zz) (hc : c + 1 < 100000) (hi : i + 5 < xs.length) (hxl : xs.length ≤ 100000) (KK : KKP xs S s i cc zz c Q) : WP xs 344 35 346 [vs 3, vr s, vr (s + 163), vr (s + 203), vi ((i : Nat) : Int), v5, v6] [] (S, I, T, cc, zz) Q := by
  have hms := oModel_sh IV.1
  have h203 := IV.2.1
  have hds := IV.sh
  refine w_aln l_344_346 rfl ?_
  refine w_aln l_344_347 rfl ?_
  refine w_st [vr s, vr (s + 203)] [] l_344_348 (by decide) rfl rfl (Nat.le_of_ble_eq_true rfl) (by rw [mx_307]; exact Nat.le_of_ble_eq_true rfl) (by rw [rk_307]; decide) (CL_mono (pr_307 IV hb hc) fun r1 m1 hr1 => ?_)
  obtain ⟨k, I1, T1, c1, z1, rfl, rfl, hcc, hzz, hr2⟩ := hr1
  show WP xs 344 35 351 [vs 3, vr s, vr (s + 163), vr (s + 203), vi ((i : Nat) : Int), v5, v6] [vi k] (S, I1, T1, c1, z1) Q
  refine w_is l_344_351 ⟨Nat.le_of_ble_eq_true rfl, rfl⟩ ?_
  refine w_aln l_344_353 rfl ?_
  refine w_iv [] [] l_344_354 rfl rfl rfl (Nat.le_of_ble_eq_true rfl) (by rw [mx_198]; exact Nat.le_of_ble_eq_true rfl) (by rw [mt_198]; exact hms) (by rw [mt_198]; decide) (by rw [rk_198]; decide) (CL_mono hr2 fun r2 m2 h2 => ?_)
  obtain ⟨b, I2, c2, rfl, rfl, IV2, hc2, e0, eb, hB⟩ := h2
  show WP xs 344 35 357 [vs 3, vr s, vr (s + 163), vr (s + 203), vi ((i : Nat) : Int), vi k, v6] [vi b] (S, I2, T1, c1, z1) Q
  refine w_is l_344_357 ⟨Nat.le_of_ble_eq_true rfl, rfl⟩ ?_
  refine w_aln l_344_359 rfl ?_
  refine q_iv [] [] l_344_360 rfl rfl (Nat.le_of_ble_eq_true rfl) (by rw [mx_168]; exact Nat.le_of_ble_eq_true rfl) (by rw [mt_168]; exact oModel_sh IV2.1) (by rw [mt_168]; decide) (by rw [rk_168]; decide) (s_168 IV2.1) ?_
  refine w_il l_344_363 rfl ?_
  refine w_ceq 370 l_344_365 (by decide) (fun _ => ?_) (fun hx => absurd hx (by exact fun q => q e0))
  refine w_il l_344_370 rfl ?_
  refine w_zne 387 l_344_372 (by decide) (fun h1 => ?_) (fun h1 => ?_)
  · skip
    refine w_go 2714 l_344_387 (by decide) ?_
    exact KK _ _ _ _ _ _ _ IV2 (by omega) (by omega) (by omega)
  · skip
    refine w_aln l_344_375 rfl ?_
    refine w_ic l_344_376 (by decide) ?_
    refine w_la 0 (I2 (s + 203) 0) l_344_377 h203 rfl (by omega) rfl ?_
    refine w_il l_344_378 rfl ?_
    refine w_i2l l_344_380 ?_
    refine w_lcmp l_344_381 ?_
    refine w_zeq 387 l_344_382 (by decide) (fun _ => ?_) (fun hx => absurd hx (by exact fun q => q (by rw [eb h1]; exact cmpL_rf)))
    refine w_go 2714 l_344_387 (by decide) ?_
    exact KK _ _ _ _ _ _ _ IV2 (by omega) (by omega) (by omega)

theorem cs_3 (IV : INV S T I s c) (hb : 1 ≤ cc ∧ 6 ≤ zz) (hc : c + 1 < 100000) (hi : i + 5 < xs.length) (hxl : xs.length ≤ 100000) (KK : KKP xs S s i cc zz c Q) : WP xs 344 35 390 [vs 3, vr s, vr (s + 163), vr (s + 203), vi ((i : Nat) : Int), v5, v6] [] (S, I, T, cc, zz) Q := by
  have hms := oModel_sh IV.1
  have h203 := IV.2.1
  have hds := IV.sh
  refine w_aln l_344_390 rfl ?_
  refine w_iv [] [] l_344_391 rfl rfl rfl (Nat.le_of_ble_eq_true rfl) (by rw [mx_102]; exact Nat.le_of_ble_eq_true rfl) (by rw [mt_102]; exact hds) (by rw [mt_102]; decide) (by rw [rk_102]; decide) (CL_mono (py_102 IV hc) fun r1 m1 hr1 => ?_)
  obtain ⟨V, I1, rfl, rfl, hr2⟩ := hr1
  show WP xs 344 35 394 [vs 3, vr s, vr (s + 163), vr (s + 203), vi ((i : Nat) : Int), v5, v6] [vi V] (S, I1, T, cc, zz) Q
  refine w_aln l_344_394 rfl ?_
  refine w_iv [] [vi V] l_344_395 rfl rfl rfl (Nat.le_of_ble_eq_true rfl) (by rw [mx_199]; exact Nat.le_of_ble_eq_true rfl) (by rw [mt_199]; exact hms) (by rw [mt_199]; decide) (by rw [rk_199]; decide) (CL_mono hr2 fun r2 m2 h2 => ?_)
  obtain ⟨I2, c2, rfl, rfl, IV2, hc2⟩ := h2
  show WP xs 344 35 398 [vs 3, vr s, vr (s + 163), vr (s + 203), vi ((i : Nat) : Int), v5, v6] [vi V, vi V] (S, I2, T, cc, zz) Q
  refine w_ceq 2714 l_344_398 (by decide) (fun _ => ?_) (fun hx => absurd hx (by exact fun q => q rfl))
  exact KK _ _ _ _ _ _ _ IV2 (by omega) (by omega) (by omega)

theorem cs_4 (IV : INV S T I s c) (hb : 1 ≤ cc ∧ 6 ≤ zz) (hc : c + 1 < 100000) (hi : i + 5 < xs.length) (hxl : xs.length ≤ 100000) (KK : KKP xs S s i cc zz c Q) : WP xs 344 35 403 [vs 3, vr s, vr (s + 163), vr (s + 203), vi ((i : Nat) : Int), v5, v6] [] (S, I, T, cc, zz) Q := by
  have hms := oModel_sh IV.1
  have h203 := IV.2.1
  have hds := IV.sh
  refine w_aln l_344_403 rfl ?_
  refine w_iv [] [] l_344_404 rfl rfl rfl (Nat.le_of_ble_eq_true rfl) (by rw [mx_103]; exact Nat.le_of_ble_eq_true rfl) (by rw [mt_103]; exact hds) (by rw [mt_103]; decide) (by rw [rk_103]; decide) (CL_mono (py_103 IV hc) fun r1 m1 hr1 => ?_)
  obtain ⟨V, I1, rfl, rfl, hr2⟩ := hr1
  show WP xs 344 35 407 [vs 3, vr s, vr (s + 163), vr (s + 203), vi ((i : Nat) : Int), v5, v6] [vi V] (S, I1, T, cc, zz) Q
  refine w_aln l_344_407 rfl ?_
  refine w_iv [] [vi V] l_344_408 rfl rfl rfl (Nat.le_of_ble_eq_true rfl) (by rw [mx_200]; exact Nat.le_of_ble_eq_true rfl) (by rw [mt_200]; exact hms) (by rw [mt_200]; decide) (by rw [rk_200]; decide) (CL_mono hr2 fun r2 m2 h2 => ?_)
  obtain ⟨I2, c2, rfl, rfl, IV2, hc2⟩ := h2
  show WP xs 344 35 411 [vs 3, vr s, vr (s + 163), vr (s + 203), vi ((i : Nat) : Int), v5, v6] [vi V, vi V] (S, I2, T, cc, zz) Q
  refine w_ceq 2714 l_344_411 (by decide) (fun _ => ?_) (fun hx => absurd hx (by exact fun q => q rfl))
  exact KK _ _ _ _ _ _ _ IV2 (by omega) (by omega) (by omega)

theorem cs_5 (IV : INV S T I s c) (hb : 1 ≤ cc ∧ 6 ≤ zz) (hc : c + 1 < 100000) (hi : i + 5 < xs.length) (hxl : xs.length ≤ 100000) (KK : KKP xs S s i cc zz c Q) : WP xs 344 35 416 [vs 3, vr s, vr (s + 163), vr (s + 203), vi ((i : Nat) : Int), v5, v6] [] (S, I, T, cc, zz) Q := by
  have hms := oModel_sh IV.1
  have h203 := IV.2.1
  have hds := IV.sh
  refine w_aln l_344_416 rfl ?_
  refine w_asn l_344_417 rfl ?_
  refine w_il l_344_418 rfl ?_
  refine w_ic l_344_420 (by decide) ?_
  refine w_add ((i + 1 : Nat) : Int) l_344_421 (by unfold wr; omega) ?_
  refine w_xs (i + 1) (xs.getD (i + 1) 0) l_344_422 rfl (by omega) rfl ?_
  refine w_aln l_344_423 rfl ?_
  refine w_st [vr s, vi (xs.getD (i + 1) 0), vr (s + 203)] [] l_344_424 (by decide) rfl rfl (Nat.le_of_ble_eq_true rfl) (by rw [mx_308]; exact Nat.le_of_ble_eq_true rfl) (by rw [rk_308]; decide) (CL_mono (pr_308 IV hb hc) fun r1 m1 hr1 => ?_)
  obtain ⟨k, I1, T1, c1, z1, rfl, rfl, hcc, hzz, hr2⟩ := hr1
  show WP xs 344 35 427 [vs 3, vr s, vr (s + 163), vr (s + 203), vi ((i : Nat) : Int), v5, v6] [vi k] (S, I1, T1, c1, z1) Q
  refine w_is l_344_427 ⟨Nat.le_of_ble_eq_true rfl, rfl⟩ ?_
  refine w_aln l_344_429 rfl ?_
  refine w_asn l_344_430 rfl ?_
  refine w_il l_344_431 rfl ?_
  refine w_ic l_344_433 (by decide) ?_
  refine w_add ((i + 1 : Nat) : Int) l_344_434 (by unfold wr; omega) ?_
  refine w_xs (i + 1) (xs.getD (i + 1) 0) l_344_435 rfl (by omega) rfl ?_
  refine w_iv [vi (xs.getD (i + 1) 0)] [] l_344_436 rfl rfl rfl (Nat.le_of_ble_eq_true rfl) (by rw [mx_238]; exact Nat.le_of_ble_eq_true rfl) (by rw [mt_238]; exact hms) (by rw [mt_238]; decide) (by rw [rk_238]; decide) (CL_mono hr2 fun r2 m2 h2 => ?_)
  obtain ⟨b, I2, c2, rfl, rfl, IV2, hc2, e0, eb, hB⟩ := h2
  show WP xs 344 35 439 [vs 3, vr s, vr (s + 163), vr (s + 203), vi ((i : Nat) : Int), vi k, v6] [vi b] (S, I2, T1, c1, z1) Q
  refine w_is l_344_439 ⟨Nat.le_of_ble_eq_true rfl, rfl⟩ ?_
  refine w_aln l_344_441 rfl ?_
  refine q_iv [] [] l_344_442 rfl rfl (Nat.le_of_ble_eq_true rfl) (by rw [mx_168]; exact Nat.le_of_ble_eq_true rfl) (by rw [mt_168]; exact oModel_sh IV2.1) (by rw [mt_168]; decide) (by rw [rk_168]; decide) (s_168 IV2.1) ?_
  refine w_il l_344_445 rfl ?_
  refine w_ceq 452 l_344_447 (by decide) (fun _ => ?_) (fun hx => absurd hx (by exact fun q => q e0))
  refine w_il l_344_452 rfl ?_
  refine w_zne 469 l_344_454 (by decide) (fun h1 => ?_) (fun h1 => ?_)
  · skip
    refine w_go 2714 l_344_469 (by decide) ?_
    exact KK _ _ _ _ _ _ _ IV2 (by omega) (by omega) (by omega)
  · skip
    refine w_aln l_344_457 rfl ?_
    refine w_ic l_344_458 (by decide) ?_
    refine w_la 0 (I2 (s + 203) 0) l_344_459 h203 rfl (by omega) rfl ?_
    refine w_il l_344_460 rfl ?_
    refine w_i2l l_344_462 ?_
    refine w_lcmp l_344_463 ?_
    refine w_zeq 469 l_344_464 (by decide) (fun _ => ?_) (fun hx => absurd hx (by exact fun q => q (by rw [eb h1]; exact cmpL_rf)))
    refine w_go 2714 l_344_469 (by decide) ?_
    exact KK _ _ _ _ _ _ _ IV2 (by omega) (by omega) (by omega)
end LWA0
