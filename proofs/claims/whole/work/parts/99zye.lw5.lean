/-! the law's calls, 6 -/
theorem l_344_2135 : look 344 2135 = some (.aload_n 1, 1, 0, 0, 0, 0) := by decide +kernel
theorem l_344_2136 : look 344 2136 = some (.aload_n 0, 1, 0, 0, 0, 0) := by decide +kernel
theorem l_344_2137 : look 344 2137 = some (.iload 4, 2, 0, 0, 0, 0) := by decide +kernel
theorem l_344_2139 : look 344 2139 = some (.iconst 1, 1, 0, 0, 0, 0) := by decide +kernel
theorem l_344_2140 : look 344 2140 = some (.iadd, 1, 0, 0, 0, 0) := by decide +kernel
theorem l_344_2141 : look 344 2141 = some (.iaload, 1, 0, 0, 0, 0) := by decide +kernel
theorem l_344_2142 : look 344 2142 = some (.aload_n 3, 1, 0, 0, 0, 0) := by decide +kernel
theorem l_344_2143 : look 344 2143 = some (.invokestatic 266, 3, 335, 3, 7, 1378) := by decide +kernel
theorem l_344_2146 : look 344 2146 = some (.istore 5, 2, 0, 0, 0, 0) := by decide +kernel
theorem l_344_2148 : look 344 2148 = some (.aload_n 2, 1, 0, 0, 0, 0) := by decide +kernel
theorem l_344_2149 : look 344 2149 = some (.aload_n 0, 1, 0, 0, 0, 0) := by decide +kernel
theorem l_344_2150 : look 344 2150 = some (.iload 4, 2, 0, 0, 0, 0) := by decide +kernel
theorem l_344_2152 : look 344 2152 = some (.iconst 1, 1, 0, 0, 0, 0) := by decide +kernel
theorem l_344_2153 : look 344 2153 = some (.iadd, 1, 0, 0, 0, 0) := by decide +kernel
theorem l_344_2154 : look 344 2154 = some (.iaload, 1, 0, 0, 0, 0) := by decide +kernel
theorem l_344_2155 : look 344 2155 = some (.invokevirtual 268, 3, 274, 2, 0, 2169) := by decide +kernel
theorem l_344_2158 : look 344 2158 = some (.istore 6, 2, 0, 0, 0, 0) := by decide +kernel
theorem l_344_2160 : look 344 2160 = some (.aload_n 2, 1, 0, 0, 0, 0) := by decide +kernel
theorem l_344_2161 : look 344 2161 = some (.invokevirtual 153, 3, 168, 1, 0, 1730) := by decide +kernel
theorem l_344_2164 : look 344 2164 = some (.iload 5, 2, 0, 0, 0, 0) := by decide +kernel
theorem l_344_2166 : look 344 2166 = some (.if_icmp .eq 5, 3, 0, 0, 0, 0) := by decide +kernel
theorem l_344_2171 : look 344 2171 = some (.iload 5, 2, 0, 0, 0, 0) := by decide +kernel
theorem l_344_2173 : look 344 2173 = some (.ifCond .ne 15, 3, 0, 0, 0, 0) := by decide +kernel
theorem l_344_2176 : look 344 2176 = some (.aload_n 3, 1, 0, 0, 0, 0) := by decide +kernel
theorem l_344_2177 : look 344 2177 = some (.iconst 0, 1, 0, 0, 0, 0) := by decide +kernel
theorem l_344_2178 : look 344 2178 = some (.laload, 1, 0, 0, 0, 0) := by decide +kernel
theorem l_344_2179 : look 344 2179 = some (.iload 6, 2, 0, 0, 0, 0) := by decide +kernel
theorem l_344_2181 : look 344 2181 = some (.i2l, 1, 0, 0, 0, 0) := by decide +kernel
theorem l_344_2182 : look 344 2182 = some (.lcmp, 1, 0, 0, 0, 0) := by decide +kernel
theorem l_344_2183 : look 344 2183 = some (.ifCond .eq 5, 3, 0, 0, 0, 0) := by decide +kernel
theorem l_344_2188 : look 344 2188 = some (.goto 526, 3, 0, 0, 0, 0) := by decide +kernel
theorem l_344_2191 : look 344 2191 = some (.aload_n 1, 1, 0, 0, 0, 0) := by decide +kernel
theorem l_344_2192 : look 344 2192 = some (.aload_n 0, 1, 0, 0, 0, 0) := by decide +kernel
theorem l_344_2193 : look 344 2193 = some (.iload 4, 2, 0, 0, 0, 0) := by decide +kernel
theorem l_344_2195 : look 344 2195 = some (.iconst 1, 1, 0, 0, 0, 0) := by decide +kernel
theorem l_344_2196 : look 344 2196 = some (.iadd, 1, 0, 0, 0, 0) := by decide +kernel
theorem l_344_2197 : look 344 2197 = some (.iaload, 1, 0, 0, 0, 0) := by decide +kernel
theorem l_344_2198 : look 344 2198 = some (.aload_n 0, 1, 0, 0, 0, 0) := by decide +kernel
theorem l_344_2199 : look 344 2199 = some (.iload 4, 2, 0, 0, 0, 0) := by decide +kernel
theorem l_344_2201 : look 344 2201 = some (.iconst 2, 1, 0, 0, 0, 0) := by decide +kernel
theorem l_344_2202 : look 344 2202 = some (.iadd, 1, 0, 0, 0, 0) := by decide +kernel
theorem l_344_2203 : look 344 2203 = some (.iaload, 1, 0, 0, 0, 0) := by decide +kernel
theorem l_344_2204 : look 344 2204 = some (.aload_n 3, 1, 0, 0, 0, 0) := by decide +kernel
theorem l_344_2205 : look 344 2205 = some (.invokestatic 269, 3, 336, 4, 7, 1385) := by decide +kernel
theorem l_344_2208 : look 344 2208 = some (.istore 5, 2, 0, 0, 0, 0) := by decide +kernel
theorem l_344_2210 : look 344 2210 = some (.aload_n 2, 1, 0, 0, 0, 0) := by decide +kernel
theorem l_344_2211 : look 344 2211 = some (.aload_n 0, 1, 0, 0, 0, 0) := by decide +kernel
theorem l_344_2212 : look 344 2212 = some (.iload 4, 2, 0, 0, 0, 0) := by decide +kernel
theorem l_344_2214 : look 344 2214 = some (.iconst 1, 1, 0, 0, 0, 0) := by decide +kernel
theorem l_344_2215 : look 344 2215 = some (.iadd, 1, 0, 0, 0, 0) := by decide +kernel
theorem l_344_2216 : look 344 2216 = some (.iaload, 1, 0, 0, 0, 0) := by decide +kernel
theorem l_344_2217 : look 344 2217 = some (.aload_n 0, 1, 0, 0, 0, 0) := by decide +kernel
theorem l_344_2218 : look 344 2218 = some (.iload 4, 2, 0, 0, 0, 0) := by decide +kernel
theorem l_344_2220 : look 344 2220 = some (.iconst 2, 1, 0, 0, 0, 0) := by decide +kernel
theorem l_344_2221 : look 344 2221 = some (.iadd, 1, 0, 0, 0, 0) := by decide +kernel
theorem l_344_2222 : look 344 2222 = some (.iaload, 1, 0, 0, 0, 0) := by decide +kernel
theorem l_344_2223 : look 344 2223 = some (.invokevirtual 271, 3, 275, 3, 0, 2173) := by decide +kernel
theorem l_344_2226 : look 344 2226 = some (.istore 6, 2, 0, 0, 0, 0) := by decide +kernel
theorem l_344_2228 : look 344 2228 = some (.aload_n 2, 1, 0, 0, 0, 0) := by decide +kernel
theorem l_344_2229 : look 344 2229 = some (.invokevirtual 153, 3, 168, 1, 0, 1730) := by decide +kernel
theorem l_344_2232 : look 344 2232 = some (.iload 5, 2, 0, 0, 0, 0) := by decide +kernel
theorem l_344_2234 : look 344 2234 = some (.if_icmp .eq 5, 3, 0, 0, 0, 0) := by decide +kernel
theorem l_344_2239 : look 344 2239 = some (.iload 5, 2, 0, 0, 0, 0) := by decide +kernel
theorem l_344_2241 : look 344 2241 = some (.ifCond .ne 15, 3, 0, 0, 0, 0) := by decide +kernel
theorem l_344_2244 : look 344 2244 = some (.aload_n 3, 1, 0, 0, 0, 0) := by decide +kernel
theorem l_344_2245 : look 344 2245 = some (.iconst 0, 1, 0, 0, 0, 0) := by decide +kernel
theorem l_344_2246 : look 344 2246 = some (.laload, 1, 0, 0, 0, 0) := by decide +kernel
theorem l_344_2247 : look 344 2247 = some (.iload 6, 2, 0, 0, 0, 0) := by decide +kernel
theorem l_344_2249 : look 344 2249 = some (.i2l, 1, 0, 0, 0, 0) := by decide +kernel
theorem l_344_2250 : look 344 2250 = some (.lcmp, 1, 0, 0, 0, 0) := by decide +kernel
theorem l_344_2251 : look 344 2251 = some (.ifCond .eq 5, 3, 0, 0, 0, 0) := by decide +kernel
theorem l_344_2256 : look 344 2256 = some (.goto 458, 3, 0, 0, 0, 0) := by decide +kernel
theorem l_344_2259 : look 344 2259 = some (.aload_n 1, 1, 0, 0, 0, 0) := by decide +kernel
theorem l_344_2260 : look 344 2260 = some (.aload_n 0, 1, 0, 0, 0, 0) := by decide +kernel
theorem l_344_2261 : look 344 2261 = some (.iload 4, 2, 0, 0, 0, 0) := by decide +kernel
theorem l_344_2263 : look 344 2263 = some (.iconst 1, 1, 0, 0, 0, 0) := by decide +kernel
theorem l_344_2264 : look 344 2264 = some (.iadd, 1, 0, 0, 0, 0) := by decide +kernel
theorem l_344_2265 : look 344 2265 = some (.iaload, 1, 0, 0, 0, 0) := by decide +kernel
theorem l_344_2266 : look 344 2266 = some (.aload_n 3, 1, 0, 0, 0, 0) := by decide +kernel
theorem l_344_2267 : look 344 2267 = some (.invokestatic 272, 3, 337, 3, 7, 1392) := by decide +kernel
theorem l_344_2270 : look 344 2270 = some (.istore 5, 2, 0, 0, 0, 0) := by decide +kernel
theorem l_344_2272 : look 344 2272 = some (.aload_n 2, 1, 0, 0, 0, 0) := by decide +kernel
theorem l_344_2273 : look 344 2273 = some (.aload_n 0, 1, 0, 0, 0, 0) := by decide +kernel
theorem l_344_2274 : look 344 2274 = some (.iload 4, 2, 0, 0, 0, 0) := by decide +kernel
theorem l_344_2276 : look 344 2276 = some (.iconst 1, 1, 0, 0, 0, 0) := by decide +kernel
theorem l_344_2277 : look 344 2277 = some (.iadd, 1, 0, 0, 0, 0) := by decide +kernel
theorem l_344_2278 : look 344 2278 = some (.iaload, 1, 0, 0, 0, 0) := by decide +kernel
theorem l_344_2279 : look 344 2279 = some (.invokevirtual 274, 3, 276, 2, 0, 2177) := by decide +kernel
theorem l_344_2282 : look 344 2282 = some (.istore 6, 2, 0, 0, 0, 0) := by decide +kernel
theorem l_344_2284 : look 344 2284 = some (.aload_n 2, 1, 0, 0, 0, 0) := by decide +kernel
theorem l_344_2285 : look 344 2285 = some (.invokevirtual 153, 3, 168, 1, 0, 1730) := by decide +kernel
theorem l_344_2288 : look 344 2288 = some (.iload 5, 2, 0, 0, 0, 0) := by decide +kernel
theorem l_344_2290 : look 344 2290 = some (.if_icmp .eq 5, 3, 0, 0, 0, 0) := by decide +kernel
theorem l_344_2295 : look 344 2295 = some (.iload 5, 2, 0, 0, 0, 0) := by decide +kernel
theorem l_344_2297 : look 344 2297 = some (.ifCond .ne 15, 3, 0, 0, 0, 0) := by decide +kernel
theorem l_344_2300 : look 344 2300 = some (.aload_n 3, 1, 0, 0, 0, 0) := by decide +kernel
theorem l_344_2301 : look 344 2301 = some (.iconst 0, 1, 0, 0, 0, 0) := by decide +kernel
theorem l_344_2302 : look 344 2302 = some (.laload, 1, 0, 0, 0, 0) := by decide +kernel
theorem l_344_2303 : look 344 2303 = some (.iload 6, 2, 0, 0, 0, 0) := by decide +kernel
theorem l_344_2305 : look 344 2305 = some (.i2l, 1, 0, 0, 0, 0) := by decide +kernel
theorem l_344_2306 : look 344 2306 = some (.lcmp, 1, 0, 0, 0, 0) := by decide +kernel
theorem l_344_2307 : look 344 2307 = some (.ifCond .eq 5, 3, 0, 0, 0, 0) := by decide +kernel
theorem l_344_2312 : look 344 2312 = some (.goto 402, 3, 0, 0, 0, 0) := by decide +kernel
theorem l_344_2315 : look 344 2315 = some (.aload_n 1, 1, 0, 0, 0, 0) := by decide +kernel
theorem l_344_2316 : look 344 2316 = some (.invokevirtual 275, 3, 138, 1, 0, 783) := by decide +kernel
theorem l_344_2319 : look 344 2319 = some (.aload_n 2, 1, 0, 0, 0, 0) := by decide +kernel
theorem l_344_2320 : look 344 2320 = some (.invokevirtual 278, 3, 280, 1, 0, 2181) := by decide +kernel
theorem l_344_2323 : look 344 2323 = some (.if_icmp .eq 391, 3, 0, 0, 0, 0) := by decide +kernel
theorem l_344_2328 : look 344 2328 = some (.aload_n 1, 1, 0, 0, 0, 0) := by decide +kernel
theorem l_344_2329 : look 344 2329 = some (.invokevirtual 279, 3, 139, 1, 0, 803) := by decide +kernel
theorem l_344_2332 : look 344 2332 = some (.aload_n 2, 1, 0, 0, 0, 0) := by decide +kernel
theorem l_344_2333 : look 344 2333 = some (.invokevirtual 282, 3, 281, 1, 0, 2196) := by decide +kernel
theorem l_344_2336 : look 344 2336 = some (.if_icmp .eq 378, 3, 0, 0, 0, 0) := by decide +kernel
theorem l_344_2341 : look 344 2341 = some (.aload_n 1, 1, 0, 0, 0, 0) := by decide +kernel
theorem l_344_2342 : look 344 2342 = some (.aload_n 0, 1, 0, 0, 0, 0) := by decide +kernel
theorem l_344_2343 : look 344 2343 = some (.iload 4, 2, 0, 0, 0, 0) := by decide +kernel
theorem l_344_2345 : look 344 2345 = some (.iconst 1, 1, 0, 0, 0, 0) := by decide +kernel
theorem l_344_2346 : look 344 2346 = some (.iadd, 1, 0, 0, 0, 0) := by decide +kernel
theorem l_344_2347 : look 344 2347 = some (.iaload, 1, 0, 0, 0, 0) := by decide +kernel
theorem l_344_2348 : look 344 2348 = some (.aload_n 3, 1, 0, 0, 0, 0) := by decide +kernel
theorem l_344_2349 : look 344 2349 = some (.invokestatic 283, 3, 338, 3, 7, 1399) := by decide +kernel
theorem l_344_2352 : look 344 2352 = some (.istore 5, 2, 0, 0, 0, 0) := by decide +kernel
theorem l_344_2354 : look 344 2354 = some (.aload_n 2, 1, 0, 0, 0, 0) := by decide +kernel
theorem l_344_2355 : look 344 2355 = some (.aload_n 0, 1, 0, 0, 0, 0) := by decide +kernel
theorem l_344_2356 : look 344 2356 = some (.iload 4, 2, 0, 0, 0, 0) := by decide +kernel
theorem l_344_2358 : look 344 2358 = some (.iconst 1, 1, 0, 0, 0, 0) := by decide +kernel
theorem l_344_2359 : look 344 2359 = some (.iadd, 1, 0, 0, 0, 0) := by decide +kernel
theorem l_344_2360 : look 344 2360 = some (.iaload, 1, 0, 0, 0, 0) := by decide +kernel
theorem l_344_2361 : look 344 2361 = some (.invokevirtual 285, 3, 285, 2, 0, 2200) := by decide +kernel
theorem l_344_2364 : look 344 2364 = some (.istore 6, 2, 0, 0, 0, 0) := by decide +kernel
theorem l_344_2366 : look 344 2366 = some (.aload_n 2, 1, 0, 0, 0, 0) := by decide +kernel
theorem l_344_2367 : look 344 2367 = some (.invokevirtual 153, 3, 168, 1, 0, 1730) := by decide +kernel
theorem l_344_2370 : look 344 2370 = some (.iload 5, 2, 0, 0, 0, 0) := by decide +kernel
theorem l_344_2372 : look 344 2372 = some (.if_icmp .eq 5, 3, 0, 0, 0, 0) := by decide +kernel
theorem l_344_2377 : look 344 2377 = some (.iload 5, 2, 0, 0, 0, 0) := by decide +kernel
theorem l_344_2379 : look 344 2379 = some (.ifCond .ne 15, 3, 0, 0, 0, 0) := by decide +kernel
theorem l_344_2382 : look 344 2382 = some (.aload_n 3, 1, 0, 0, 0, 0) := by decide +kernel
theorem l_344_2383 : look 344 2383 = some (.iconst 0, 1, 0, 0, 0, 0) := by decide +kernel
theorem l_344_2384 : look 344 2384 = some (.laload, 1, 0, 0, 0, 0) := by decide +kernel
theorem l_344_2385 : look 344 2385 = some (.iload 6, 2, 0, 0, 0, 0) := by decide +kernel
theorem l_344_2387 : look 344 2387 = some (.i2l, 1, 0, 0, 0, 0) := by decide +kernel
theorem l_344_2388 : look 344 2388 = some (.lcmp, 1, 0, 0, 0, 0) := by decide +kernel
theorem l_344_2389 : look 344 2389 = some (.ifCond .eq 5, 3, 0, 0, 0, 0) := by decide +kernel
theorem l_344_2394 : look 344 2394 = some (.goto 320, 3, 0, 0, 0, 0) := by decide +kernel
section LWA5
variable {xs : List Int} {S : List (Nat × Nat)} {T : Nat → Nat → Nat} {I : Ix} {cc zz s c i : Nat} {v5 v6 : AV} {Q : Res → Mem → Prop}
theorem cs_36 (IV : INV S T I s c) (hb : 1 ≤ cc ∧ 6 ≤ zz) (hc : c + 1 < 100000) (hi : i + 5 < xs.length) (hxl : xs.length ≤ 100000) (KK : KKP xs S s i cc zz c Q) : WP xs 344 35 2135 [vs 3, vr s, vr (s + 163), vr (s + 203), vi ((i : Nat) : Int), v5, v6] [] (S, I, T, cc, zz) Q := by
  have hms := oModel_sh IV.1
  have h203 := IV.2.1
  have hds := IV.sh
  refine w_aln l_344_2135 rfl ?_
  refine w_asn l_344_2136 rfl ?_
  refine w_il l_344_2137 rfl ?_
  refine w_ic l_344_2139 (by decide) ?_
  refine w_add ((i + 1 : Nat) : Int) l_344_2140 (by unfold wr; omega) ?_
  refine w_xs (i + 1) (xs.getD (i + 1) 0) l_344_2141 rfl (by omega) rfl ?_
  refine w_aln l_344_2142 rfl ?_
  refine w_st [vr s, vi (xs.getD (i + 1) 0), vr (s + 203)] [] l_344_2143 (by decide) rfl rfl (Nat.le_of_ble_eq_true rfl) (by rw [mx_335]; exact Nat.le_of_ble_eq_true rfl) (by rw [rk_335]; decide) (CL_mono (pr_335 IV hb hc) fun r1 m1 hr1 => ?_)
  obtain ⟨k, I1, T1, c1, z1, rfl, rfl, hcc, hzz, hr2⟩ := hr1
  show WP xs 344 35 2146 [vs 3, vr s, vr (s + 163), vr (s + 203), vi ((i : Nat) : Int), v5, v6] [vi k] (S, I1, T1, c1, z1) Q
  refine w_is l_344_2146 ⟨Nat.le_of_ble_eq_true rfl, rfl⟩ ?_
  refine w_aln l_344_2148 rfl ?_
  refine w_asn l_344_2149 rfl ?_
  refine w_il l_344_2150 rfl ?_
  refine w_ic l_344_2152 (by decide) ?_
  refine w_add ((i + 1 : Nat) : Int) l_344_2153 (by unfold wr; omega) ?_
  refine w_xs (i + 1) (xs.getD (i + 1) 0) l_344_2154 rfl (by omega) rfl ?_
  refine w_iv [vi (xs.getD (i + 1) 0)] [] l_344_2155 rfl rfl rfl (Nat.le_of_ble_eq_true rfl) (by rw [mx_274]; exact Nat.le_of_ble_eq_true rfl) (by rw [mt_274]; exact hms) (by rw [mt_274]; decide) (by rw [rk_274]; decide) (CL_mono hr2 fun r2 m2 h2 => ?_)
  obtain ⟨b, I2, c2, rfl, rfl, IV2, hc2, e0, eb, hB⟩ := h2
  show WP xs 344 35 2158 [vs 3, vr s, vr (s + 163), vr (s + 203), vi ((i : Nat) : Int), vi k, v6] [vi b] (S, I2, T1, c1, z1) Q
  refine w_is l_344_2158 ⟨Nat.le_of_ble_eq_true rfl, rfl⟩ ?_
  refine w_aln l_344_2160 rfl ?_
  refine q_iv [] [] l_344_2161 rfl rfl (Nat.le_of_ble_eq_true rfl) (by rw [mx_168]; exact Nat.le_of_ble_eq_true rfl) (by rw [mt_168]; exact oModel_sh IV2.1) (by rw [mt_168]; decide) (by rw [rk_168]; decide) (s_168 IV2.1) ?_
  refine w_il l_344_2164 rfl ?_
  refine w_ceq 2171 l_344_2166 (by decide) (fun _ => ?_) (fun hx => absurd hx (by exact fun q => q e0))
  refine w_il l_344_2171 rfl ?_
  refine w_zne 2188 l_344_2173 (by decide) (fun h1 => ?_) (fun h1 => ?_)
  · skip
    refine w_go 2714 l_344_2188 (by decide) ?_
    exact KK _ _ _ _ _ _ _ IV2 (by omega) (by omega) (by omega)
  · skip
    refine w_aln l_344_2176 rfl ?_
    refine w_ic l_344_2177 (by decide) ?_
    refine w_la 0 (I2 (s + 203) 0) l_344_2178 h203 rfl (by omega) rfl ?_
    refine w_il l_344_2179 rfl ?_
    refine w_i2l l_344_2181 ?_
    refine w_lcmp l_344_2182 ?_
    refine w_zeq 2188 l_344_2183 (by decide) (fun _ => ?_) (fun hx => absurd hx (by exact fun q => q (by rw [eb h1]; exact cmpL_rf)))
    refine w_go 2714 l_344_2188 (by decide) ?_
    exact KK _ _ _ _ _ _ _ IV2 (by omega) (by omega) (by omega)

theorem cs_37 (IV : INV S T I s c) (hb : 1 ≤ cc ∧ 6 ≤ zz) (hc : c + 1 < 100000) (hi : i + 5 < xs.length) (hxl : xs.length ≤ 100000) (KK : KKP xs S s i cc zz c Q) : WP xs 344 35 2191 [vs 3, vr s, vr (s + 163), vr (s + 203), vi ((i : Nat) : Int), v5, v6] [] (S, I, T, cc, zz) Q := by
  have hms := oModel_sh IV.1
  have h203 := IV.2.1
  have hds := IV.sh
  refine w_aln l_344_2191 rfl ?_
  refine w_asn l_344_2192 rfl ?_
  refine w_il l_344_2193 rfl ?_
  refine w_ic l_344_2195 (by decide) ?_
  refine w_add ((i + 1 : Nat) : Int) l_344_2196 (by unfold wr; omega) ?_
  refine w_xs (i + 1) (xs.getD (i + 1) 0) l_344_2197 rfl (by omega) rfl ?_
  refine w_asn l_344_2198 rfl ?_
  refine w_il l_344_2199 rfl ?_
  refine w_ic l_344_2201 (by decide) ?_
  refine w_add ((i + 2 : Nat) : Int) l_344_2202 (by unfold wr; omega) ?_
  refine w_xs (i + 2) (xs.getD (i + 2) 0) l_344_2203 rfl (by omega) rfl ?_
  refine w_aln l_344_2204 rfl ?_
  refine w_st [vr s, vi (xs.getD (i + 1) 0), vi (xs.getD (i + 2) 0), vr (s + 203)] [] l_344_2205 (by decide) rfl rfl (Nat.le_of_ble_eq_true rfl) (by rw [mx_336]; exact Nat.le_of_ble_eq_true rfl) (by rw [rk_336]; decide) (CL_mono (pr_336 IV hb hc) fun r1 m1 hr1 => ?_)
  obtain ⟨k, I1, T1, c1, z1, rfl, rfl, hcc, hzz, hr2⟩ := hr1
  show WP xs 344 35 2208 [vs 3, vr s, vr (s + 163), vr (s + 203), vi ((i : Nat) : Int), v5, v6] [vi k] (S, I1, T1, c1, z1) Q
  refine w_is l_344_2208 ⟨Nat.le_of_ble_eq_true rfl, rfl⟩ ?_
  refine w_aln l_344_2210 rfl ?_
  refine w_asn l_344_2211 rfl ?_
  refine w_il l_344_2212 rfl ?_
  refine w_ic l_344_2214 (by decide) ?_
  refine w_add ((i + 1 : Nat) : Int) l_344_2215 (by unfold wr; omega) ?_
  refine w_xs (i + 1) (xs.getD (i + 1) 0) l_344_2216 rfl (by omega) rfl ?_
  refine w_asn l_344_2217 rfl ?_
  refine w_il l_344_2218 rfl ?_
  refine w_ic l_344_2220 (by decide) ?_
  refine w_add ((i + 2 : Nat) : Int) l_344_2221 (by unfold wr; omega) ?_
  refine w_xs (i + 2) (xs.getD (i + 2) 0) l_344_2222 rfl (by omega) rfl ?_
  refine w_iv [vi (xs.getD (i + 1) 0), vi (xs.getD (i + 2) 0)] [] l_344_2223 rfl rfl rfl (Nat.le_of_ble_eq_true rfl) (by rw [mx_275]; exact Nat.le_of_ble_eq_true rfl) (by rw [mt_275]; exact hms) (by rw [mt_275]; decide) (by rw [rk_275]; decide) (CL_mono hr2 fun r2 m2 h2 => ?_)
  obtain ⟨b, I2, c2, rfl, rfl, IV2, hc2, e0, eb, hB⟩ := h2
  show WP xs 344 35 2226 [vs 3, vr s, vr (s + 163), vr (s + 203), vi ((i : Nat) : Int), vi k, v6] [vi b] (S, I2, T1, c1, z1) Q
  refine w_is l_344_2226 ⟨Nat.le_of_ble_eq_true rfl, rfl⟩ ?_
  refine w_aln l_344_2228 rfl ?_
  refine q_iv [] [] l_344_2229 rfl rfl (Nat.le_of_ble_eq_true rfl) (by rw [mx_168]; exact Nat.le_of_ble_eq_true rfl) (by rw [mt_168]; exact oModel_sh IV2.1) (by rw [mt_168]; decide) (by rw [rk_168]; decide) (s_168 IV2.1) ?_
  refine w_il l_344_2232 rfl ?_
  refine w_ceq 2239 l_344_2234 (by decide) (fun _ => ?_) (fun hx => absurd hx (by exact fun q => q e0))
  refine w_il l_344_2239 rfl ?_
  refine w_zne 2256 l_344_2241 (by decide) (fun h1 => ?_) (fun h1 => ?_)
  · skip
    refine w_go 2714 l_344_2256 (by decide) ?_
    exact KK _ _ _ _ _ _ _ IV2 (by omega) (by omega) (by omega)
  · skip
    refine w_aln l_344_2244 rfl ?_
    refine w_ic l_344_2245 (by decide) ?_
    refine w_la 0 (I2 (s + 203) 0) l_344_2246 h203 rfl (by omega) rfl ?_
    refine w_il l_344_2247 rfl ?_
    refine w_i2l l_344_2249 ?_
    refine w_lcmp l_344_2250 ?_
    refine w_zeq 2256 l_344_2251 (by decide) (fun _ => ?_) (fun hx => absurd hx (by exact fun q => q (by rw [eb h1]; exact cmpL_rf)))
    refine w_go 2714 l_344_2256 (by decide) ?_
    exact KK _ _ _ _ _ _ _ IV2 (by omega) (by omega) (by omega)

theorem cs_38 (IV : INV S T I s c) (hb : 1 ≤ cc ∧ 6 ≤ zz) (hc : c + 1 < 100000) (hi : i + 5 < xs.length) (hxl : xs.length ≤ 100000) (KK : KKP xs S s i cc zz c Q) : WP xs 344 35 2259 [vs 3, vr s, vr (s + 163), vr (s + 203), vi ((i : Nat) : Int), v5, v6] [] (S, I, T, cc, zz) Q := by
  have hms := oModel_sh IV.1
  have h203 := IV.2.1
  have hds := IV.sh
  refine w_aln l_344_2259 rfl ?_
  refine w_asn l_344_2260 rfl ?_
  refine w_il l_344_2261 rfl ?_
  refine w_ic l_344_2263 (by decide) ?_
  refine w_add ((i + 1 : Nat) : Int) l_344_2264 (by unfold wr; omega) ?_
  refine w_xs (i + 1) (xs.getD (i + 1) 0) l_344_2265 rfl (by omega) rfl ?_
  refine w_aln l_344_2266 rfl ?_
  refine w_st [vr s, vi (xs.getD (i + 1) 0), vr (s + 203)] [] l_344_2267 (by decide) rfl rfl (Nat.le_of_ble_eq_true rfl) (by rw [mx_337]; exact Nat.le_of_ble_eq_true rfl) (by rw [rk_337]; decide) (CL_mono (pr_337 IV hb hc) fun r1 m1 hr1 => ?_)
  obtain ⟨k, I1, T1, c1, z1, rfl, rfl, hcc, hzz, hr2⟩ := hr1
  show WP xs 344 35 2270 [vs 3, vr s, vr (s + 163), vr (s + 203), vi ((i : Nat) : Int), v5, v6] [vi k] (S, I1, T1, c1, z1) Q
  refine w_is l_344_2270 ⟨Nat.le_of_ble_eq_true rfl, rfl⟩ ?_
  refine w_aln l_344_2272 rfl ?_
  refine w_asn l_344_2273 rfl ?_
  refine w_il l_344_2274 rfl ?_
  refine w_ic l_344_2276 (by decide) ?_
  refine w_add ((i + 1 : Nat) : Int) l_344_2277 (by unfold wr; omega) ?_
  refine w_xs (i + 1) (xs.getD (i + 1) 0) l_344_2278 rfl (by omega) rfl ?_
  refine w_iv [vi (xs.getD (i + 1) 0)] [] l_344_2279 rfl rfl rfl (Nat.le_of_ble_eq_true rfl) (by rw [mx_276]; exact Nat.le_of_ble_eq_true rfl) (by rw [mt_276]; exact hms) (by rw [mt_276]; decide) (by rw [rk_276]; decide) (CL_mono hr2 fun r2 m2 h2 => ?_)
  obtain ⟨b, I2, c2, rfl, rfl, IV2, hc2, e0, eb, hB⟩ := h2
  show WP xs 344 35 2282 [vs 3, vr s, vr (s + 163), vr (s + 203), vi ((i : Nat) : Int), vi k, v6] [vi b] (S, I2, T1, c1, z1) Q
  refine w_is l_344_2282 ⟨Nat.le_of_ble_eq_true rfl, rfl⟩ ?_
  refine w_aln l_344_2284 rfl ?_
  refine q_iv [] [] l_344_2285 rfl rfl (Nat.le_of_ble_eq_true rfl) (by rw [mx_168]; exact Nat.le_of_ble_eq_true rfl) (by rw [mt_168]; exact oModel_sh IV2.1) (by rw [mt_168]; decide) (by rw [rk_168]; decide) (s_168 IV2.1) ?_
  refine w_il l_344_2288 rfl ?_
  refine w_ceq 2295 l_344_2290 (by decide) (fun _ => ?_) (fun hx => absurd hx (by exact fun q => q e0))
  refine w_il l_344_2295 rfl ?_
  refine w_zne 2312 l_344_2297 (by decide) (fun h1 => ?_) (fun h1 => ?_)
  · skip
    refine w_go 2714 l_344_2312 (by decide) ?_
    exact KK _ _ _ _ _ _ _ IV2 (by omega) (by omega) (by omega)
  · skip
    refine w_aln l_344_2300 rfl ?_
    refine w_ic l_344_2301 (by decide) ?_
    refine w_la 0 (I2 (s + 203) 0) l_344_2302 h203 rfl (by omega) rfl ?_
    refine w_il l_344_2303 rfl ?_
    refine w_i2l l_344_2305 ?_
    refine w_lcmp l_344_2306 ?_
    refine w_zeq 2312 l_344_2307 (by decide) (fun _ => ?_) (fun hx => absurd hx (by exact fun q => q (by rw [eb h1]; exact cmpL_rf)))
    refine w_go 2714 l_344_2312 (by decide) ?_
    exact KK _ _ _ _ _ _ _ IV2 (by omega) (by omega) (by omega)

theorem cs_39 (IV : INV S T I s c) (hb : 1 ≤ cc ∧ 6 ≤ zz) (hc : c + 1 < 100000) (hi : i + 5 < xs.length) (hxl : xs.length ≤ 100000) (KK : KKP xs S s i cc zz c Q) : WP xs 344 35 2315 [vs 3, vr s, vr (s + 163), vr (s + 203), vi ((i : Nat) : Int), v5, v6] [] (S, I, T, cc, zz) Q := by
  have hms := oModel_sh IV.1
  have h203 := IV.2.1
  have hds := IV.sh
  refine w_aln l_344_2315 rfl ?_
  refine w_iv [] [] l_344_2316 rfl rfl rfl (Nat.le_of_ble_eq_true rfl) (by rw [mx_138]; exact Nat.le_of_ble_eq_true rfl) (by rw [mt_138]; exact hds) (by rw [mt_138]; decide) (by rw [rk_138]; decide) (CL_mono (py_138 IV hc) fun r1 m1 hr1 => ?_)
  obtain ⟨V, I1, rfl, rfl, hr2⟩ := hr1
  show WP xs 344 35 2319 [vs 3, vr s, vr (s + 163), vr (s + 203), vi ((i : Nat) : Int), v5, v6] [vi V] (S, I1, T, cc, zz) Q
  refine w_aln l_344_2319 rfl ?_
  refine w_iv [] [vi V] l_344_2320 rfl rfl rfl (Nat.le_of_ble_eq_true rfl) (by rw [mx_280]; exact Nat.le_of_ble_eq_true rfl) (by rw [mt_280]; exact hms) (by rw [mt_280]; decide) (by rw [rk_280]; decide) (CL_mono hr2 fun r2 m2 h2 => ?_)
  obtain ⟨I2, c2, rfl, rfl, IV2, hc2⟩ := h2
  show WP xs 344 35 2323 [vs 3, vr s, vr (s + 163), vr (s + 203), vi ((i : Nat) : Int), v5, v6] [vi V, vi V] (S, I2, T, cc, zz) Q
  refine w_ceq 2714 l_344_2323 (by decide) (fun _ => ?_) (fun hx => absurd hx (by exact fun q => q rfl))
  exact KK _ _ _ _ _ _ _ IV2 (by omega) (by omega) (by omega)

theorem cs_40 (IV : INV S T I s c) (hb : 1 ≤ cc ∧ 6 ≤ zz) (hc : c + 1 < 100000) (hi : i + 5 < xs.length) (hxl : xs.length ≤ 100000) (KK : KKP xs S s i cc zz c Q) : WP xs 344 35 2328 [vs 3, vr s, vr (s + 163), vr (s + 203), vi ((i : Nat) : Int), v5, v6] [] (S, I, T, cc, zz) Q := by
  have hms := oModel_sh IV.1
  have h203 := IV.2.1
  have hds := IV.sh
  refine w_aln l_344_2328 rfl ?_
  refine w_iv [] [] l_344_2329 rfl rfl rfl (Nat.le_of_ble_eq_true rfl) (by rw [mx_139]; exact Nat.le_of_ble_eq_true rfl) (by rw [mt_139]; exact hds) (by rw [mt_139]; decide) (by rw [rk_139]; decide) (CL_mono (py_139 IV hc) fun r1 m1 hr1 => ?_)
  obtain ⟨V, I1, rfl, rfl, hr2⟩ := hr1
  show WP xs 344 35 2332 [vs 3, vr s, vr (s + 163), vr (s + 203), vi ((i : Nat) : Int), v5, v6] [vi V] (S, I1, T, cc, zz) Q
  refine w_aln l_344_2332 rfl ?_
  refine w_iv [] [vi V] l_344_2333 rfl rfl rfl (Nat.le_of_ble_eq_true rfl) (by rw [mx_281]; exact Nat.le_of_ble_eq_true rfl) (by rw [mt_281]; exact hms) (by rw [mt_281]; decide) (by rw [rk_281]; decide) (CL_mono hr2 fun r2 m2 h2 => ?_)
  obtain ⟨I2, c2, rfl, rfl, IV2, hc2⟩ := h2
  show WP xs 344 35 2336 [vs 3, vr s, vr (s + 163), vr (s + 203), vi ((i : Nat) : Int), v5, v6] [vi V, vi V] (S, I2, T, cc, zz) Q
  refine w_ceq 2714 l_344_2336 (by decide) (fun _ => ?_) (fun hx => absurd hx (by exact fun q => q rfl))
  exact KK _ _ _ _ _ _ _ IV2 (by omega) (by omega) (by omega)

theorem cs_41 (IV : INV S T I s c) (hb : 1 ≤ cc ∧ 6 ≤ zz) (hc : c + 1 < 100000) (hi : i + 5 < xs.length) (hxl : xs.length ≤ 100000) (KK : KKP xs S s i cc zz c Q) : WP xs 344 35 2341 [vs 3, vr s, vr (s + 163), vr (s + 203), vi ((i : Nat) : Int), v5, v6] [] (S, I, T, cc, zz) Q := by
  have hms := oModel_sh IV.1
  have h203 := IV.2.1
  have hds := IV.sh
  refine w_aln l_344_2341 rfl ?_
  refine w_asn l_344_2342 rfl ?_
  refine w_il l_344_2343 rfl ?_
  refine w_ic l_344_2345 (by decide) ?_
  refine w_add ((i + 1 : Nat) : Int) l_344_2346 (by unfold wr; omega) ?_
  refine w_xs (i + 1) (xs.getD (i + 1) 0) l_344_2347 rfl (by omega) rfl ?_
  refine w_aln l_344_2348 rfl ?_
  refine w_st [vr s, vi (xs.getD (i + 1) 0), vr (s + 203)] [] l_344_2349 (by decide) rfl rfl (Nat.le_of_ble_eq_true rfl) (by rw [mx_338]; exact Nat.le_of_ble_eq_true rfl) (by rw [rk_338]; decide) (CL_mono (pr_338 IV hb hc) fun r1 m1 hr1 => ?_)
  obtain ⟨k, I1, T1, c1, z1, rfl, rfl, hcc, hzz, hr2⟩ := hr1
  show WP xs 344 35 2352 [vs 3, vr s, vr (s + 163), vr (s + 203), vi ((i : Nat) : Int), v5, v6] [vi k] (S, I1, T1, c1, z1) Q
  refine w_is l_344_2352 ⟨Nat.le_of_ble_eq_true rfl, rfl⟩ ?_
  refine w_aln l_344_2354 rfl ?_
  refine w_asn l_344_2355 rfl ?_
  refine w_il l_344_2356 rfl ?_
  refine w_ic l_344_2358 (by decide) ?_
  refine w_add ((i + 1 : Nat) : Int) l_344_2359 (by unfold wr; omega) ?_
  refine w_xs (i + 1) (xs.getD (i + 1) 0) l_344_2360 rfl (by omega) rfl ?_
  refine w_iv [vi (xs.getD (i + 1) 0)] [] l_344_2361 rfl rfl rfl (Nat.le_of_ble_eq_true rfl) (by rw [mx_285]; exact Nat.le_of_ble_eq_true rfl) (by rw [mt_285]; exact hms) (by rw [mt_285]; decide) (by rw [rk_285]; decide) (CL_mono hr2 fun r2 m2 h2 => ?_)
  obtain ⟨b, I2, c2, rfl, rfl, IV2, hc2, e0, eb, hB⟩ := h2
  show WP xs 344 35 2364 [vs 3, vr s, vr (s + 163), vr (s + 203), vi ((i : Nat) : Int), vi k, v6] [vi b] (S, I2, T1, c1, z1) Q
  refine w_is l_344_2364 ⟨Nat.le_of_ble_eq_true rfl, rfl⟩ ?_
  refine w_aln l_344_2366 rfl ?_
  refine q_iv [] [] l_344_2367 rfl rfl (Nat.le_of_ble_eq_true rfl) (by rw [mx_168]; exact Nat.le_of_ble_eq_true rfl) (by rw [mt_168]; exact oModel_sh IV2.1) (by rw [mt_168]; decide) (by rw [rk_168]; decide) (s_168 IV2.1) ?_
  refine w_il l_344_2370 rfl ?_
  refine w_ceq 2377 l_344_2372 (by decide) (fun _ => ?_) (fun hx => absurd hx (by exact fun q => q e0))
  refine w_il l_344_2377 rfl ?_
  refine w_zne 2394 l_344_2379 (by decide) (fun h1 => ?_) (fun h1 => ?_)
  · skip
    refine w_go 2714 l_344_2394 (by decide) ?_
    exact KK _ _ _ _ _ _ _ IV2 (by omega) (by omega) (by omega)
  · skip
    refine w_aln l_344_2382 rfl ?_
    refine w_ic l_344_2383 (by decide) ?_
    refine w_la 0 (I2 (s + 203) 0) l_344_2384 h203 rfl (by omega) rfl ?_
    refine w_il l_344_2385 rfl ?_
    refine w_i2l l_344_2387 ?_
    refine w_lcmp l_344_2388 ?_
    refine w_zeq 2394 l_344_2389 (by decide) (fun _ => ?_) (fun hx => absurd hx (by exact fun q => q (by rw [eb h1]; exact cmpL_rf)))
    refine w_go 2714 l_344_2394 (by decide) ?_
    exact KK _ _ _ _ _ _ _ IV2 (by omega) (by omega) (by omega)
end LWA5
