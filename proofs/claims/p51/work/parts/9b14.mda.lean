/-! the maker's constructor: the class, the capacities' row, the builder -/
section MDA
variable {xs : List Int} {S : List (Nat × Nat)} {I : Ix} {T : Nat → Nat → Nat} {cc zz : Nat} {Q : Res → Mem → Prop}

theorem mx_167 : mxl 167 = 4 := by decide +kernel
theorem mt_167 : mtc 167 = 10 := by decide +kernel
theorem rk_167 (as : List AV) : rkA 167 as = 35 := rfl
theorem l_167_0 : look 167 0 = some (.aload_n 0, 1, 0, 0, 0, 0) := by decide +kernel
theorem l_167_1 : look 167 1 = some (.invokespecial 1, 3, 0, 1, 4, 351) := by decide +kernel
theorem l_167_4 : look 167 4 = some (.aload_n 0, 1, 0, 0, 0, 0) := by decide +kernel
theorem l_167_5 : look 167 5 = some (.new 7, 3, 9, 17, 0, 352) := by decide +kernel
theorem l_167_8 : look 167 8 = some (.dup, 1, 0, 0, 0, 0) := by decide +kernel
theorem l_167_9 : look 167 9 = some (.invokespecial 9, 3, 98, 1, 2, 353) := by decide +kernel
theorem l_167_12 : look 167 12 = some (.putfield 10, 3, 10, 0, 12, 1161) := by decide +kernel
theorem l_167_15 : look 167 15 = some (.aload_n 0, 1, 0, 0, 0, 0) := by decide +kernel
theorem l_167_16 : look 167 16 = some (.iconst 4, 1, 0, 0, 0, 0) := by decide +kernel
theorem l_167_17 : look 167 17 = some (.newarray .int, 2, 1, 0, 0, 0) := by decide +kernel
theorem l_167_19 : look 167 19 = some (.putfield 16, 3, 10, 4, 12, 1169) := by decide +kernel
theorem l_167_22 : look 167 22 = some (.aload_n 0, 1, 0, 0, 0, 0) := by decide +kernel
theorem l_167_23 : look 167 23 = some (.iconst 2, 1, 0, 0, 0, 0) := by decide +kernel
theorem l_167_24 : look 167 24 = some (.aload_n 1, 1, 0, 0, 0, 0) := by decide +kernel
theorem l_167_25 : look 167 25 = some (.iconst 3, 1, 0, 0, 0, 0) := by decide +kernel
theorem l_167_26 : look 167 26 = some (.invokevirtual 20, 3, 173, 2, 0, 776) := by decide +kernel
theorem l_167_29 : look 167 29 = some (.iadd, 1, 0, 0, 0, 0) := by decide +kernel
theorem l_167_30 : look 167 30 = some (.putfield 26, 3, 10, 1, 10, 1163) := by decide +kernel
theorem l_167_33 : look 167 33 = some (.new 30, 3, 13, 4, 0, 781) := by decide +kernel
theorem l_167_36 : look 167 36 = some (.dup, 1, 0, 0, 0, 0) := by decide +kernel
theorem l_167_37 : look 167 37 = some (.invokespecial 32, 3, 195, 1, 2, 783) := by decide +kernel
theorem l_167_40 : look 167 40 = some (.astore_n 2, 1, 0, 0, 0, 0) := by decide +kernel
theorem l_167_41 : look 167 41 = some (.iconst 0, 1, 0, 0, 0, 0) := by decide +kernel
theorem l_167_42 : look 167 42 = some (.istore_n 3, 1, 0, 0, 0, 0) := by decide +kernel
theorem l_167_43 : look 167 43 = some (.iload_n 3, 1, 0, 0, 0, 0) := by decide +kernel
theorem l_167_44 : look 167 44 = some (.aload_n 0, 1, 0, 0, 0, 0) := by decide +kernel
theorem l_167_45 : look 167 45 = some (.getfield 26, 3, 10, 1, 0, 1163) := by decide +kernel
theorem l_167_48 : look 167 48 = some (.if_icmp .ge 71, 3, 0, 0, 0, 0) := by decide +kernel
theorem l_167_51 : look 167 51 = some (.aload_n 0, 1, 0, 0, 0, 0) := by decide +kernel
theorem l_167_52 : look 167 52 = some (.getfield 16, 3, 10, 4, 2, 1169) := by decide +kernel
theorem l_167_55 : look 167 55 = some (.iload_n 3, 1, 0, 0, 0, 0) := by decide +kernel
theorem l_167_56 : look 167 56 = some (.iconst 3, 1, 0, 0, 0, 0) := by decide +kernel
theorem l_167_57 : look 167 57 = some (.aload_n 1, 1, 0, 0, 0, 0) := by decide +kernel
theorem l_167_58 : look 167 58 = some (.bipush 12, 2, 0, 0, 0, 0) := by decide +kernel
theorem l_167_60 : look 167 60 = some (.invokevirtual 20, 3, 173, 2, 0, 776) := by decide +kernel
theorem l_167_63 : look 167 63 = some (.iadd, 1, 0, 0, 0, 0) := by decide +kernel
theorem l_167_64 : look 167 64 = some (.iastore, 1, 0, 0, 0, 0) := by decide +kernel
theorem l_167_65 : look 167 65 = some (.aload_n 2, 1, 0, 0, 0, 0) := by decide +kernel
theorem l_167_66 : look 167 66 = some (.ldc 33, 2, 27, 0, 0, 811) := by decide +kernel
theorem l_167_68 : look 167 68 = some (.invokevirtual 35, 3, 196, 2, 0, 812) := by decide +kernel
theorem l_167_71 : look 167 71 = some (.ldc 39, 2, 28, 0, 0, 911) := by decide +kernel
theorem l_167_73 : look 167 73 = some (.iload_n 3, 1, 0, 0, 0, 0) := by decide +kernel
theorem l_167_74 : look 167 74 = some (.invokevirtual 41, 3, 300, 2, 0, 912) := by decide +kernel
theorem l_167_77 : look 167 77 = some (.invokevirtual 47, 3, 197, 2, 0, 913) := by decide +kernel
theorem l_167_80 : look 167 80 = some (.ldc 50, 2, 29, 0, 0, 926) := by decide +kernel
theorem l_167_82 : look 167 82 = some (.invokevirtual 35, 3, 196, 2, 0, 812) := by decide +kernel
theorem l_167_85 : look 167 85 = some (.aload_n 0, 1, 0, 0, 0, 0) := by decide +kernel
theorem l_167_86 : look 167 86 = some (.getfield 16, 3, 10, 4, 2, 1169) := by decide +kernel
theorem l_167_89 : look 167 89 = some (.iload_n 3, 1, 0, 0, 0, 0) := by decide +kernel
theorem l_167_90 : look 167 90 = some (.iaload, 1, 0, 0, 0, 0) := by decide +kernel
theorem l_167_91 : look 167 91 = some (.invokevirtual 52, 3, 198, 2, 0, 927) := by decide +kernel
theorem l_167_94 : look 167 94 = some (.ldc 50, 2, 29, 0, 0, 926) := by decide +kernel
theorem l_167_96 : look 167 96 = some (.invokevirtual 35, 3, 196, 2, 0, 812) := by decide +kernel
theorem l_167_99 : look 167 99 = some (.aload_n 1, 1, 0, 0, 0, 0) := by decide +kernel
theorem l_167_100 : look 167 100 = some (.iconst 3, 1, 0, 0, 0, 0) := by decide +kernel
theorem l_167_101 : look 167 101 = some (.invokevirtual 20, 3, 173, 2, 0, 776) := by decide +kernel
theorem l_167_104 : look 167 104 = some (.invokevirtual 52, 3, 198, 2, 0, 927) := by decide +kernel
theorem l_167_107 : look 167 107 = some (.ldc 55, 2, 30, 0, 0, 952) := by decide +kernel
theorem l_167_109 : look 167 109 = some (.invokevirtual 35, 3, 196, 2, 0, 812) := by decide +kernel
theorem l_167_112 : look 167 112 = some (.pop, 1, 0, 0, 0, 0) := by decide +kernel
theorem l_167_113 : look 167 113 = some (.iinc 3 1, 3, 0, 0, 0, 0) := by decide +kernel
theorem l_167_116 : look 167 116 = some (.goto (-73), 3, 0, 0, 0, 0) := by decide +kernel
theorem l_167_119 : look 167 119 = some (.aload_n 0, 1, 0, 0, 0, 0) := by decide +kernel
theorem l_167_120 : look 167 120 = some (.bipush 8, 2, 0, 0, 0, 0) := by decide +kernel
theorem l_167_122 : look 167 122 = some (.aload_n 1, 1, 0, 0, 0, 0) := by decide +kernel
theorem l_167_123 : look 167 123 = some (.bipush 30, 2, 0, 0, 0, 0) := by decide +kernel
theorem l_167_125 : look 167 125 = some (.invokevirtual 20, 3, 173, 2, 0, 776) := by decide +kernel
theorem l_167_128 : look 167 128 = some (.iadd, 1, 0, 0, 0, 0) := by decide +kernel
theorem l_167_129 : look 167 129 = some (.putfield 57, 3, 10, 3, 10, 1167) := by decide +kernel
theorem l_167_132 : look 167 132 = some (.aload_n 2, 1, 0, 0, 0, 0) := by decide +kernel
theorem l_167_133 : look 167 133 = some (.ldc 60, 2, 31, 0, 0, 953) := by decide +kernel
theorem l_167_135 : look 167 135 = some (.invokevirtual 35, 3, 196, 2, 0, 812) := by decide +kernel
theorem l_167_138 : look 167 138 = some (.aload_n 0, 1, 0, 0, 0, 0) := by decide +kernel
theorem l_167_139 : look 167 139 = some (.getfield 57, 3, 10, 3, 0, 1167) := by decide +kernel
theorem l_167_142 : look 167 142 = some (.invokevirtual 52, 3, 198, 2, 0, 927) := by decide +kernel
theorem l_167_145 : look 167 145 = some (.ldc 62, 2, 32, 0, 0, 954) := by decide +kernel
theorem l_167_147 : look 167 147 = some (.invokevirtual 35, 3, 196, 2, 0, 812) := by decide +kernel
theorem l_167_150 : look 167 150 = some (.iconst 2, 1, 0, 0, 0, 0) := by decide +kernel
theorem l_167_151 : look 167 151 = some (.aload_n 1, 1, 0, 0, 0, 0) := by decide +kernel
theorem l_167_152 : look 167 152 = some (.bipush 9, 2, 0, 0, 0, 0) := by decide +kernel
theorem l_167_154 : look 167 154 = some (.invokevirtual 20, 3, 173, 2, 0, 776) := by decide +kernel
theorem l_167_157 : look 167 157 = some (.iadd, 1, 0, 0, 0, 0) := by decide +kernel
theorem l_167_158 : look 167 158 = some (.invokevirtual 52, 3, 198, 2, 0, 927) := by decide +kernel
theorem l_167_161 : look 167 161 = some (.ldc 64, 2, 33, 0, 0, 955) := by decide +kernel
theorem l_167_163 : look 167 163 = some (.invokevirtual 35, 3, 196, 2, 0, 812) := by decide +kernel
theorem l_167_166 : look 167 166 = some (.aload_n 1, 1, 0, 0, 0, 0) := by decide +kernel
theorem l_167_167 : look 167 167 = some (.bipush 12, 2, 0, 0, 0, 0) := by decide +kernel
theorem l_167_169 : look 167 169 = some (.invokevirtual 20, 3, 173, 2, 0, 776) := by decide +kernel
theorem l_167_172 : look 167 172 = some (.invokevirtual 52, 3, 198, 2, 0, 927) := by decide +kernel
theorem l_167_175 : look 167 175 = some (.ldc 55, 2, 30, 0, 0, 952) := by decide +kernel
theorem l_167_177 : look 167 177 = some (.invokevirtual 35, 3, 196, 2, 0, 812) := by decide +kernel
theorem l_167_180 : look 167 180 = some (.pop, 1, 0, 0, 0, 0) := by decide +kernel
theorem l_167_181 : look 167 181 = some (.aload_n 1, 1, 0, 0, 0, 0) := by decide +kernel
theorem l_167_182 : look 167 182 = some (.iconst 2, 1, 0, 0, 0, 0) := by decide +kernel
theorem l_167_183 : look 167 183 = some (.invokevirtual 20, 3, 173, 2, 0, 776) := by decide +kernel
theorem l_167_186 : look 167 186 = some (.ifCond .ne 37, 3, 0, 0, 0, 0) := by decide +kernel
theorem l_167_189 : look 167 189 = some (.aload_n 2, 1, 0, 0, 0, 0) := by decide +kernel
theorem l_167_190 : look 167 190 = some (.ldc 66, 2, 34, 0, 0, 956) := by decide +kernel
theorem l_167_192 : look 167 192 = some (.invokevirtual 35, 3, 196, 2, 0, 812) := by decide +kernel
theorem l_167_195 : look 167 195 = some (.aload_n 1, 1, 0, 0, 0, 0) := by decide +kernel
theorem l_167_196 : look 167 196 = some (.iconst 5, 1, 0, 0, 0, 0) := by decide +kernel
theorem l_167_197 : look 167 197 = some (.invokevirtual 20, 3, 173, 2, 0, 776) := by decide +kernel
theorem l_167_200 : look 167 200 = some (.invokevirtual 52, 3, 198, 2, 0, 927) := by decide +kernel
theorem l_167_203 : look 167 203 = some (.ldc 50, 2, 29, 0, 0, 926) := by decide +kernel
theorem l_167_205 : look 167 205 = some (.invokevirtual 35, 3, 196, 2, 0, 812) := by decide +kernel
theorem l_167_208 : look 167 208 = some (.aload_n 1, 1, 0, 0, 0, 0) := by decide +kernel
theorem l_167_209 : look 167 209 = some (.bipush 15, 2, 0, 0, 0, 0) := by decide +kernel
theorem l_167_211 : look 167 211 = some (.invokevirtual 20, 3, 173, 2, 0, 776) := by decide +kernel
theorem l_167_214 : look 167 214 = some (.invokevirtual 52, 3, 198, 2, 0, 927) := by decide +kernel
theorem l_167_217 : look 167 217 = some (.ldc 55, 2, 30, 0, 0, 952) := by decide +kernel
theorem l_167_219 : look 167 219 = some (.invokevirtual 35, 3, 196, 2, 0, 812) := by decide +kernel
theorem l_167_222 : look 167 222 = some (.pop, 1, 0, 0, 0, 0) := by decide +kernel
theorem l_167_223 : look 167 223 = some (.aload_n 0, 1, 0, 0, 0, 0) := by decide +kernel
theorem l_167_224 : look 167 224 = some (.aload_n 1, 1, 0, 0, 0, 0) := by decide +kernel
theorem l_167_225 : look 167 225 = some (.iconst 3, 1, 0, 0, 0, 0) := by decide +kernel
theorem l_167_226 : look 167 226 = some (.invokevirtual 20, 3, 173, 2, 0, 776) := by decide +kernel
theorem l_167_229 : look 167 229 = some (.putfield 68, 3, 10, 2, 10, 1165) := by decide +kernel
theorem l_167_232 : look 167 232 = some (.iconst 0, 1, 0, 0, 0, 0) := by decide +kernel
theorem l_167_233 : look 167 233 = some (.istore_n 3, 1, 0, 0, 0, 0) := by decide +kernel
theorem l_167_234 : look 167 234 = some (.iload_n 3, 1, 0, 0, 0, 0) := by decide +kernel
theorem l_167_235 : look 167 235 = some (.aload_n 0, 1, 0, 0, 0, 0) := by decide +kernel
theorem l_167_236 : look 167 236 = some (.getfield 68, 3, 10, 2, 0, 1165) := by decide +kernel
theorem l_167_239 : look 167 239 = some (.if_icmp .ge 158, 3, 0, 0, 0, 0) := by decide +kernel
theorem l_167_242 : look 167 242 = some (.aload_n 2, 1, 0, 0, 0, 0) := by decide +kernel
theorem l_167_243 : look 167 243 = some (.aload_n 1, 1, 0, 0, 0, 0) := by decide +kernel
theorem l_167_244 : look 167 244 = some (.iconst 3, 1, 0, 0, 0, 0) := by decide +kernel
theorem l_167_245 : look 167 245 = some (.invokevirtual 20, 3, 173, 2, 0, 776) := by decide +kernel
theorem l_167_248 : look 167 248 = some (.ifCond .ne 8, 3, 0, 0, 0, 0) := by decide +kernel
theorem l_167_251 : look 167 251 = some (.ldc 71, 2, 35, 0, 0, 957) := by decide +kernel
theorem l_167_253 : look 167 253 = some (.goto 5, 3, 0, 0, 0, 0) := by decide +kernel
theorem l_167_256 : look 167 256 = some (.ldc 73, 2, 36, 0, 0, 958) := by decide +kernel
theorem l_167_258 : look 167 258 = some (.invokevirtual 35, 3, 196, 2, 0, 812) := by decide +kernel
theorem l_167_261 : look 167 261 = some (.ldc 75, 2, 37, 0, 0, 959) := by decide +kernel
theorem l_167_263 : look 167 263 = some (.invokevirtual 35, 3, 196, 2, 0, 812) := by decide +kernel
theorem l_167_266 : look 167 266 = some (.aload_n 1, 1, 0, 0, 0, 0) := by decide +kernel
theorem l_167_267 : look 167 267 = some (.iconst 3, 1, 0, 0, 0, 0) := by decide +kernel
theorem l_167_268 : look 167 268 = some (.invokevirtual 20, 3, 173, 2, 0, 776) := by decide +kernel
theorem l_167_271 : look 167 271 = some (.ifCond .ne 8, 3, 0, 0, 0, 0) := by decide +kernel
theorem l_167_274 : look 167 274 = some (.ldc 77, 2, 38, 0, 0, 960) := by decide +kernel
theorem l_167_276 : look 167 276 = some (.goto 5, 3, 0, 0, 0, 0) := by decide +kernel
theorem l_167_279 : look 167 279 = some (.ldc 79, 2, 39, 0, 0, 961) := by decide +kernel
theorem l_167_281 : look 167 281 = some (.invokevirtual 35, 3, 196, 2, 0, 812) := by decide +kernel
theorem l_167_284 : look 167 284 = some (.aload_n 1, 1, 0, 0, 0, 0) := by decide +kernel
theorem l_167_285 : look 167 285 = some (.iconst 2, 1, 0, 0, 0, 0) := by decide +kernel
theorem l_167_286 : look 167 286 = some (.invokevirtual 20, 3, 173, 2, 0, 776) := by decide +kernel
theorem l_167_289 : look 167 289 = some (.ifCond .ne 32, 3, 0, 0, 0, 0) := by decide +kernel
theorem l_167_292 : look 167 292 = some (.new 30, 3, 13, 4, 0, 781) := by decide +kernel
theorem l_167_295 : look 167 295 = some (.dup, 1, 0, 0, 0, 0) := by decide +kernel
theorem l_167_296 : look 167 296 = some (.invokespecial 32, 3, 195, 1, 2, 783) := by decide +kernel
theorem l_167_299 : look 167 299 = some (.ldc 81, 2, 40, 0, 0, 962) := by decide +kernel
theorem l_167_301 : look 167 301 = some (.invokevirtual 35, 3, 196, 2, 0, 812) := by decide +kernel
theorem l_167_304 : look 167 304 = some (.iconst 3, 1, 0, 0, 0, 0) := by decide +kernel
theorem l_167_305 : look 167 305 = some (.aload_n 1, 1, 0, 0, 0, 0) := by decide +kernel
theorem l_167_306 : look 167 306 = some (.bipush 6, 2, 0, 0, 0, 0) := by decide +kernel
theorem l_167_308 : look 167 308 = some (.invokevirtual 20, 3, 173, 2, 0, 776) := by decide +kernel
theorem l_167_311 : look 167 311 = some (.iadd, 1, 0, 0, 0, 0) := by decide +kernel
theorem l_167_312 : look 167 312 = some (.invokevirtual 52, 3, 198, 2, 0, 927) := by decide +kernel
theorem l_167_315 : look 167 315 = some (.invokevirtual 83, 3, 199, 1, 0, 963) := by decide +kernel
theorem l_167_318 : look 167 318 = some (.goto 46, 3, 0, 0, 0, 0) := by decide +kernel
theorem l_167_321 : look 167 321 = some (.new 30, 3, 13, 4, 0, 781) := by decide +kernel
theorem l_167_324 : look 167 324 = some (.dup, 1, 0, 0, 0, 0) := by decide +kernel
theorem l_167_325 : look 167 325 = some (.invokespecial 32, 3, 195, 1, 2, 783) := by decide +kernel
theorem l_167_328 : look 167 328 = some (.ldc 87, 2, 41, 0, 0, 1020) := by decide +kernel
theorem l_167_330 : look 167 330 = some (.invokevirtual 35, 3, 196, 2, 0, 812) := by decide +kernel
theorem l_167_333 : look 167 333 = some (.aload_n 1, 1, 0, 0, 0, 0) := by decide +kernel
theorem l_167_334 : look 167 334 = some (.bipush 6, 2, 0, 0, 0, 0) := by decide +kernel
theorem l_167_336 : look 167 336 = some (.invokevirtual 20, 3, 173, 2, 0, 776) := by decide +kernel
theorem l_167_339 : look 167 339 = some (.invokevirtual 52, 3, 198, 2, 0, 927) := by decide +kernel
theorem l_167_342 : look 167 342 = some (.ldc 89, 2, 42, 0, 0, 1021) := by decide +kernel
theorem l_167_344 : look 167 344 = some (.invokevirtual 35, 3, 196, 2, 0, 812) := by decide +kernel
theorem l_167_347 : look 167 347 = some (.aload_n 1, 1, 0, 0, 0, 0) := by decide +kernel
theorem l_167_348 : look 167 348 = some (.bipush 6, 2, 0, 0, 0, 0) := by decide +kernel
theorem l_167_350 : look 167 350 = some (.invokevirtual 20, 3, 173, 2, 0, 776) := by decide +kernel
theorem l_167_353 : look 167 353 = some (.invokevirtual 52, 3, 198, 2, 0, 927) := by decide +kernel
theorem l_167_356 : look 167 356 = some (.ldc 91, 2, 43, 0, 0, 1022) := by decide +kernel
theorem l_167_358 : look 167 358 = some (.invokevirtual 35, 3, 196, 2, 0, 812) := by decide +kernel
theorem l_167_361 : look 167 361 = some (.invokevirtual 83, 3, 199, 1, 0, 963) := by decide +kernel
theorem l_167_364 : look 167 364 = some (.invokevirtual 35, 3, 196, 2, 0, 812) := by decide +kernel
theorem l_167_367 : look 167 367 = some (.aload_n 1, 1, 0, 0, 0, 0) := by decide +kernel
theorem l_167_368 : look 167 368 = some (.iconst 3, 1, 0, 0, 0, 0) := by decide +kernel
theorem l_167_369 : look 167 369 = some (.invokevirtual 20, 3, 173, 2, 0, 776) := by decide +kernel
theorem l_167_372 : look 167 372 = some (.ifCond .ne 8, 3, 0, 0, 0, 0) := by decide +kernel
theorem l_167_375 : look 167 375 = some (.ldc 93, 2, 44, 0, 0, 1023) := by decide +kernel
theorem l_167_377 : look 167 377 = some (.goto 5, 3, 0, 0, 0, 0) := by decide +kernel
theorem l_167_380 : look 167 380 = some (.ldc 79, 2, 39, 0, 0, 961) := by decide +kernel
theorem l_167_382 : look 167 382 = some (.invokevirtual 35, 3, 196, 2, 0, 812) := by decide +kernel
theorem l_167_385 : look 167 385 = some (.ldc 55, 2, 30, 0, 0, 952) := by decide +kernel
theorem l_167_387 : look 167 387 = some (.invokevirtual 35, 3, 196, 2, 0, 812) := by decide +kernel
theorem l_167_390 : look 167 390 = some (.pop, 1, 0, 0, 0, 0) := by decide +kernel
theorem l_167_391 : look 167 391 = some (.iinc 3 1, 3, 0, 0, 0, 0) := by decide +kernel
theorem l_167_394 : look 167 394 = some (.goto (-160), 3, 0, 0, 0, 0) := by decide +kernel
theorem l_167_397 : look 167 397 = some (.aload_n 0, 1, 0, 0, 0, 0) := by decide +kernel
theorem l_167_398 : look 167 398 = some (.aload_n 0, 1, 0, 0, 0, 0) := by decide +kernel
theorem l_167_399 : look 167 399 = some (.getfield 10, 3, 10, 0, 2, 1161) := by decide +kernel
theorem l_167_402 : look 167 402 = some (.aload_n 2, 1, 0, 0, 0, 0) := by decide +kernel
theorem l_167_403 : look 167 403 = some (.invokevirtual 83, 3, 199, 1, 0, 963) := by decide +kernel
theorem l_167_406 : look 167 406 = some (.aload_n 0, 1, 0, 0, 0, 0) := by decide +kernel
theorem l_167_407 : look 167 407 = some (.getfield 26, 3, 10, 1, 0, 1163) := by decide +kernel
theorem l_167_410 : look 167 410 = some (.invokestatic 95, 3, 212, 3, 12, 1024) := by decide +kernel
theorem l_167_413 : look 167 413 = some (.putfield 101, 3, 10, 5, 16, 1171) := by decide +kernel
theorem l_167_416 : look 167 416 = some (.return_, 1, 0, 0, 0, 0) := by decide +kernel

def hi0 : Hi := ((fun _ => (0, 0, 0)), (fun _ => (0, 0, 1, 0)), fun _ _ => false)
theorem c_98x (hs : S[2]? = some (0, 9)) (hL : S.length = 3) (hc : 162 ≤ cc) (hz : 24125 ≤ zz) {h : Hi} (ok : okHi h) {a : Nat → Nat} : CL xs 98 [vr 2] (S, I, T, cc, zz) (RX (fun r m1 => ∃ S' I' T', r = none ∧ m1 = (S', I', T', cc - 162, zz - 24125) ∧ S'.length = 165 ∧ ex S S' ∧ ∃ q y, CW S' T' I' 2 q y h ps0.1 a 0 (arr h 0) su0 ps0.2.2 2 ps0.2.1 [] (fun _ => 0) 0 (-1) 0)) :=
  CL_mono (nc_98 (h := h) (a := a) hs hL hc hz ok) fun r m1 ⟨S', I', T', e1, e2, e3, e4, e5, e6, e7, e8, e9, e10, e11, e12, e13⟩ => ⟨none, e1, S', I', T', rfl, e2, e3, e13, 14, 5, ⟨e4, e5, by unfold dQ; decide⟩, e6, fun p hp => absurd hp (Nat.not_lt_zero p), ⟨e7, by decide, fun j hj => absurd hj (Nat.not_lt_zero j)⟩, ⟨e10, by decide, fun j hj => absurd hj (Nat.not_lt_zero j)⟩, ⟨e8, e9⟩, e11, e12⟩

theorem hi0_ok : okHi hi0 := fun k => ⟨by show 1 ≤ 9; decide, by show 1 ≤ 1; decide, by show 0 ≤ 3; decide, by show 0 < 64; decide, by show 0 < 64; decide⟩
/-- up to the first loop -/
theorem pr_167 (hc : 1000 ≤ cc) (hz : 50000 ≤ zz) (KK : ∀ S1 I1 T1 c1 z1 ports, 2 ≤ ports ∧ ports ≤ 4 → MS [(1, ((ports : Nat) : Int))] (fun _ => 0) 0 [] 0 (cc - 200) (zz - 25000) S1 I1 T1 c1 z1 → WP xs 167 35 41 [vr 1, vr 0, vr 166, vs 2] [] (S1, I1, T1, c1, z1) Q) : WP xs 167 35 0 [vr 1, vr 0, vs 2, vs 2] [] ([(0, 11), (0, 10)], I, T, cc, zz) Q := by
  refine w_aln l_167_0 rfl ?_
  refine w_oi l_167_1 (Nat.le_of_ble_eq_true rfl) ?_
  refine w_aln l_167_4 rfl ?_
  refine w_nw l_167_5 (by omega) (by omega) ?_
  refine w_dup l_167_8 rfl ?_
  refine x_cs [] [vr 2, vr 1] l_167_9 (Or.inl rfl) rfl rfl (Nat.le_of_ble_eq_true rfl) (by rw [mx_98]; exact Nat.le_of_ble_eq_true rfl) (by rw [rk_98]; decide) (c_98x (h := hi0) (a := fun _ => 0) (ap_e rfl) rfl (by omega) (by omega) hi0_ok) (fun v m1 h1 => ?_)
  obtain ⟨S1, I1, T1, rfl, rfl, hL, he, q, y, W⟩ := h1
  have s0 : S1[0]? = some (0, 11) := he _ _ rfl
  have s1 : S1[1]? = some (0, 10) := he _ _ rfl
  refine w_pR l_167_12 s1 (by decide) ?_
  refine w_aln l_167_15 rfl ?_
  refine w_ic l_167_16 (by decide) ?_
  refine w_na (n := 4) l_167_17 (fun _ _ _ _ => rfl) (by omega) (by omega) (by decide) ?_
  rw [hL]
  refine w_pR l_167_19 (ap_l s1) (by decide) ?_
  refine w_aln l_167_22 rfl ?_
  refine w_ic l_167_23 (by decide) ?_
  refine w_aln l_167_24 rfl ?_
  refine w_ic l_167_25 (by decide) ?_
  refine x_iv [vi ((3 : Nat) : Int)] [vi 2, vr 1] l_167_26 (Or.inl rfl) rfl rfl ⟨(Nat.le_of_ble_eq_true rfl), rfl⟩ (by rw [mx_173]; exact (Nat.le_of_ble_eq_true rfl)) (by rw [mt_173]; exact ap_l s0) (by rw [mt_173]; decide) (by rw [rk_173]; decide) (c_173 (ap_l s0) (by decide)) (fun v m1 h1 => ?_)
  obtain ⟨k, x, hk, rfl, rfl⟩ := h1
  refine w_add ((2 + k : Nat) : Int) l_167_29 (by unfold wr; omega) ?_
  refine w_pif l_167_30 (ap_l s1) ?_
  refine w_nw l_167_33 (by omega) (by omega) ?_
  have hL2 : (S1 ++ [(1, 4)]).length = 166 := by rw [List.length_append, hL]; rfl
  rw [hL2]
  refine w_dup l_167_36 rfl ?_
  refine x_cs [] [vr 166] l_167_37 (Or.inl rfl) rfl rfl (Nat.le_of_ble_eq_true rfl) (by rw [mx_195]; exact Nat.le_of_ble_eq_true rfl) (by rw [rk_195]; decide) (c_195 (ap_e hL2.symm) zr_e (by omega) (by omega)) (fun v m1 h1 => ?_)
  obtain ⟨rfl, I2, T2, rfl, B2, f2⟩ := h1
  refine w_ran l_167_40 ⟨Nat.le_of_ble_eq_true rfl, rfl⟩ ?_
  have hL3 : (S1 ++ [(1, 4)] ++ [(0, 13)]).length = 167 := by rw [List.length_append, hL2]; rfl
  rw [hL3] at f2
  refine KK _ _ _ _ _ (2 + k) (by omega) ⟨16, ⟨⟨?_, ?_, ?_, ?_, ?_, ?_⟩, fun f hf => ?_, fun p hp => absurd hp (Nat.not_lt_zero p), ⟨Nat.le_refl _, fun x hx => (by cases hx)⟩, 167, by rw [hL3] at B2; exact B2, ?_⟩, by omega, by omega⟩
  · exact ap_l (ap_l (ap_l s0))
  · exact ap_l (ap_l (ap_l s1))
  · exact ap_l (ap_l (ap_e hL.symm))
  · rw [(f2 1 0 (by omega) (by omega)).2, zt_o (by omega), ut_o (by omega), zt_o (by omega), ut_e]
  · rw [(f2 1 4 (by omega) (by omega)).2, zt_o (by omega), ut_e]
  · refine ⟨q, y, hi0, _, _, _, _, _, _, _, _, _, _, _, W.mv (fun j x hx => ap_l (ap_l (ap_l hx))) fun z w h1 h2 => ⟨?_, ?_⟩⟩
    · rw [(f2 z w (by omega) (by omega)).1, zr_o (by omega), up_out (by omega), up_out (by omega), zr_o (by omega)]
    · rw [(f2 z w (by omega) (by omega)).2, zt_o (by omega), ut_o (by omega), zt_o (by omega), ut_o (by omega)]
  · rw [List.mem_singleton.mp hf]
    show I2 1 1 = _
    rw [(f2 1 1 (by omega) (by omega)).1, zr_o (by omega), up_eq]
  · rw [List.length_append, hL3]; decide

end MDA
