/-! the law: its start, what happens -/
section LWA
variable {xs : List Int} {Q : Res → Mem → Prop} {S : List (Nat × Nat)} {I : Ix} {T : Nat → Nat → Nat} {cc zz ports rules space ne c : Nat} {l : Li}

theorem mx_344 : mxl 344 = 15 := by decide +kernel
theorem mt_344 : mtc 344 = 99 := by decide +kernel
theorem rk_344 (as : List AV) : rkA 344 as = 36 := rfl
theorem l_344_0 : look 344 0 = some (.new 37, 3, 11, 1, 0, 1396) := by decide +kernel
theorem l_344_3 : look 344 3 = some (.dup, 1, 0, 0, 0, 0) := by decide +kernel
theorem l_344_4 : look 344 4 = some (.aload_n 0, 1, 0, 0, 0, 0) := by decide +kernel
theorem l_344_5 : look 344 5 = some (.iconst 0, 1, 0, 0, 0, 0) := by decide +kernel
theorem l_344_6 : look 344 6 = some (.invokestatic 39, 3, 211, 2, 1, 1406) := by decide +kernel
theorem l_344_9 : look 344 9 = some (.invokespecial 45, 3, 172, 2, 2, 1398) := by decide +kernel
theorem l_344_12 : look 344 12 = some (.astore_n 1, 1, 0, 0, 0, 0) := by decide +kernel
theorem l_344_13 : look 344 13 = some (.new 48, 3, 10, 6, 0, 346) := by decide +kernel
theorem l_344_16 : look 344 16 = some (.dup, 1, 0, 0, 0, 0) := by decide +kernel
theorem l_344_17 : look 344 17 = some (.aload_n 1, 1, 0, 0, 0, 0) := by decide +kernel
theorem l_344_18 : look 344 18 = some (.invokespecial 50, 3, 167, 2, 2, 348) := by decide +kernel
theorem l_344_21 : look 344 21 = some (.astore_n 2, 1, 0, 0, 0, 0) := by decide +kernel
theorem l_344_22 : look 344 22 = some (.aload_n 2, 1, 0, 0, 0, 0) := by decide +kernel
theorem l_344_23 : look 344 23 = some (.getfield 53, 3, 10, 5, 20, 1172) := by decide +kernel
theorem l_344_26 : look 344 26 = some (.ifCond .eq 18, 3, 0, 0, 0, 0) := by decide +kernel
theorem l_344_29 : look 344 29 = some (.aload_n 2, 1, 0, 0, 0, 0) := by decide +kernel
theorem l_344_30 : look 344 30 = some (.getfield 57, 3, 10, 0, 22, 1162) := by decide +kernel
theorem l_344_33 : look 344 33 = some (.iconst 1, 1, 0, 0, 0, 0) := by decide +kernel
theorem l_344_34 : look 344 34 = some (.invokevirtual 61, 3, 104, 2, 0, 73) := by decide +kernel
theorem l_344_37 : look 344 37 = some (.aload_n 2, 1, 0, 0, 0, 0) := by decide +kernel
theorem l_344_38 : look 344 38 = some (.getfield 65, 3, 10, 2, 20, 1166) := by decide +kernel
theorem l_344_41 : look 344 41 = some (.if_icmp .eq 5, 3, 0, 0, 0, 0) := by decide +kernel
theorem l_344_44 : look 344 44 = some (.iconst 0, 1, 0, 0, 0, 0) := by decide +kernel
theorem l_344_45 : look 344 45 = some (.ireturn, 1, 0, 0, 1, 0) := by decide +kernel
theorem l_344_46 : look 344 46 = some (.aload_n 2, 1, 0, 0, 0, 0) := by decide +kernel
theorem l_344_47 : look 344 47 = some (.getfield 57, 3, 10, 0, 22, 1162) := by decide +kernel
theorem l_344_50 : look 344 50 = some (.astore_n 3, 1, 0, 0, 0, 0) := by decide +kernel
theorem l_344_51 : look 344 51 = some (.iconst 1, 1, 0, 0, 0, 0) := by decide +kernel
theorem l_344_52 : look 344 52 = some (.istore 4, 2, 0, 0, 0, 0) := by decide +kernel
theorem l_344_54 : look 344 54 = some (.iload 4, 2, 0, 0, 0, 0) := by decide +kernel
theorem l_344_56 : look 344 56 = some (.aload_n 0, 1, 0, 0, 0, 0) := by decide +kernel
theorem l_344_57 : look 344 57 = some (.arraylength, 1, 0, 0, 0, 0) := by decide +kernel
theorem l_344_58 : look 344 58 = some (.if_icmp .ge 38, 3, 0, 0, 0, 0) := by decide +kernel
theorem l_344_61 : look 344 61 = some (.iload 4, 2, 0, 0, 0, 0) := by decide +kernel
theorem l_344_63 : look 344 63 = some (.bipush 30, 2, 0, 0, 0, 0) := by decide +kernel
theorem l_344_65 : look 344 65 = some (.if_icmp .ge 31, 3, 0, 0, 0, 0) := by decide +kernel
theorem l_344_68 : look 344 68 = some (.aload_n 2, 1, 0, 0, 0, 0) := by decide +kernel
theorem l_344_69 : look 344 69 = some (.new 37, 3, 11, 1, 0, 1396) := by decide +kernel
theorem l_344_72 : look 344 72 = some (.dup, 1, 0, 0, 0, 0) := by decide +kernel
theorem l_344_73 : look 344 73 = some (.aload_n 0, 1, 0, 0, 0, 0) := by decide +kernel
theorem l_344_74 : look 344 74 = some (.iload 4, 2, 0, 0, 0, 0) := by decide +kernel
theorem l_344_76 : look 344 76 = some (.invokestatic 39, 3, 211, 2, 1, 1406) := by decide +kernel
theorem l_344_79 : look 344 79 = some (.invokespecial 45, 3, 172, 2, 2, 1398) := by decide +kernel
theorem l_344_82 : look 344 82 = some (.invokevirtual 69, 3, 171, 2, 0, 1186) := by decide +kernel
theorem l_344_85 : look 344 85 = some (.ifCond .ne 5, 3, 0, 0, 0, 0) := by decide +kernel
theorem l_344_88 : look 344 88 = some (.iconst 0, 1, 0, 0, 0, 0) := by decide +kernel
theorem l_344_89 : look 344 89 = some (.ireturn, 1, 0, 0, 1, 0) := by decide +kernel
theorem l_344_90 : look 344 90 = some (.iinc 4 1, 3, 0, 0, 0, 0) := by decide +kernel
theorem l_344_93 : look 344 93 = some (.goto (-39), 3, 0, 0, 0, 0) := by decide +kernel
theorem l_344_96 : look 344 96 = some (.aload_n 3, 1, 0, 0, 0, 0) := by decide +kernel
theorem l_344_97 : look 344 97 = some (.iconst 3, 1, 0, 0, 0, 0) := by decide +kernel
theorem l_344_98 : look 344 98 = some (.invokevirtual 61, 3, 104, 2, 0, 73) := by decide +kernel
theorem l_344_101 : look 344 101 = some (.istore 4, 2, 0, 0, 0, 0) := by decide +kernel
theorem l_344_103 : look 344 103 = some (.aload_n 3, 1, 0, 0, 0, 0) := by decide +kernel
theorem l_344_104 : look 344 104 = some (.iconst 4, 1, 0, 0, 0, 0) := by decide +kernel
theorem l_344_105 : look 344 105 = some (.invokevirtual 61, 3, 104, 2, 0, 73) := by decide +kernel
theorem l_344_108 : look 344 108 = some (.istore 5, 2, 0, 0, 0, 0) := by decide +kernel
theorem l_344_110 : look 344 110 = some (.iload 4, 2, 0, 0, 0, 0) := by decide +kernel
theorem l_344_112 : look 344 112 = some (.newarray .int, 2, 1, 0, 0, 0) := by decide +kernel
theorem l_344_114 : look 344 114 = some (.astore 6, 2, 0, 0, 0, 0) := by decide +kernel
theorem l_344_116 : look 344 116 = some (.iload 4, 2, 0, 0, 0, 0) := by decide +kernel
theorem l_344_118 : look 344 118 = some (.aload_n 2, 1, 0, 0, 0, 0) := by decide +kernel
theorem l_344_119 : look 344 119 = some (.getfield 73, 3, 10, 1, 20, 1164) := by decide +kernel
theorem l_344_122 : look 344 122 = some (.multianewarray 76 2, 4, 6, 0, 0, 1410) := by decide +kernel
theorem l_344_126 : look 344 126 = some (.astore 7, 2, 0, 0, 0, 0) := by decide +kernel
theorem l_344_128 : look 344 128 = some (.bipush 11, 2, 0, 0, 0, 0) := by decide +kernel
theorem l_344_130 : look 344 130 = some (.newarray .int, 2, 1, 0, 0, 0) := by decide +kernel
theorem l_344_132 : look 344 132 = some (.astore 8, 2, 0, 0, 0, 0) := by decide +kernel
theorem l_344_134 : look 344 134 = some (.iconst 0, 1, 0, 0, 0, 0) := by decide +kernel
theorem l_344_135 : look 344 135 = some (.istore 9, 2, 0, 0, 0, 0) := by decide +kernel
theorem l_344_137 : look 344 137 = some (.iconst 0, 1, 0, 0, 0, 0) := by decide +kernel
theorem l_344_138 : look 344 138 = some (.istore 10, 2, 0, 0, 0, 0) := by decide +kernel
theorem l_344_140 : look 344 140 = some (.iload 10, 2, 0, 0, 0, 0) := by decide +kernel
theorem l_344_142 : look 344 142 = some (.iload 5, 2, 0, 0, 0, 0) := by decide +kernel
theorem l_344_144 : look 344 144 = some (.if_icmp .ge 207, 3, 0, 0, 0, 0) := by decide +kernel
theorem l_344_147 : look 344 147 = some (.aload_n 3, 1, 0, 0, 0, 0) := by decide +kernel
theorem l_344_148 : look 344 148 = some (.iload 10, 2, 0, 0, 0, 0) := by decide +kernel
theorem l_344_150 : look 344 150 = some (.iconst 0, 1, 0, 0, 0, 0) := by decide +kernel
theorem l_344_151 : look 344 151 = some (.invokevirtual 78, 3, 121, 3, 0, 207) := by decide +kernel
theorem l_344_154 : look 344 154 = some (.istore 11, 2, 0, 0, 0, 0) := by decide +kernel
theorem l_344_156 : look 344 156 = some (.aload_n 3, 1, 0, 0, 0, 0) := by decide +kernel
theorem l_344_157 : look 344 157 = some (.iload 10, 2, 0, 0, 0, 0) := by decide +kernel
theorem l_344_159 : look 344 159 = some (.iconst 1, 1, 0, 0, 0, 0) := by decide +kernel
theorem l_344_160 : look 344 160 = some (.invokevirtual 78, 3, 121, 3, 0, 207) := by decide +kernel
theorem l_344_163 : look 344 163 = some (.istore 12, 2, 0, 0, 0, 0) := by decide +kernel
theorem l_344_165 : look 344 165 = some (.aload_n 3, 1, 0, 0, 0, 0) := by decide +kernel
theorem l_344_166 : look 344 166 = some (.iload 10, 2, 0, 0, 0, 0) := by decide +kernel
theorem l_344_168 : look 344 168 = some (.iconst 2, 1, 0, 0, 0, 0) := by decide +kernel
theorem l_344_169 : look 344 169 = some (.invokevirtual 78, 3, 121, 3, 0, 207) := by decide +kernel
theorem l_344_172 : look 344 172 = some (.istore 13, 2, 0, 0, 0, 0) := by decide +kernel
theorem l_344_174 : look 344 174 = some (.aload_n 3, 1, 0, 0, 0, 0) := by decide +kernel
theorem l_344_175 : look 344 175 = some (.iload 10, 2, 0, 0, 0, 0) := by decide +kernel
theorem l_344_177 : look 344 177 = some (.iconst 3, 1, 0, 0, 0, 0) := by decide +kernel
theorem l_344_178 : look 344 178 = some (.invokevirtual 78, 3, 121, 3, 0, 207) := by decide +kernel
theorem l_344_181 : look 344 181 = some (.istore 14, 2, 0, 0, 0, 0) := by decide +kernel
theorem l_344_183 : look 344 183 = some (.iload 11, 2, 0, 0, 0, 0) := by decide +kernel
theorem l_344_185 : look 344 185 = some (.iload 9, 2, 0, 0, 0, 0) := by decide +kernel
theorem l_344_187 : look 344 187 = some (.if_icmp .lt 24, 3, 0, 0, 0, 0) := by decide +kernel
theorem l_344_190 : look 344 190 = some (.iload 11, 2, 0, 0, 0, 0) := by decide +kernel
theorem l_344_192 : look 344 192 = some (.aload_n 3, 1, 0, 0, 0, 0) := by decide +kernel
theorem l_344_193 : look 344 193 = some (.iconst 2, 1, 0, 0, 0, 0) := by decide +kernel
theorem l_344_194 : look 344 194 = some (.invokevirtual 61, 3, 104, 2, 0, 73) := by decide +kernel
theorem l_344_197 : look 344 197 = some (.if_icmp .ge 14, 3, 0, 0, 0, 0) := by decide +kernel
theorem l_344_200 : look 344 200 = some (.aload_n 3, 1, 0, 0, 0, 0) := by decide +kernel
theorem l_344_201 : look 344 201 = some (.iload 12, 2, 0, 0, 0, 0) := by decide +kernel
theorem l_344_203 : look 344 203 = some (.invokevirtual 82, 3, 111, 2, 0, 167) := by decide +kernel
theorem l_344_206 : look 344 206 = some (.iload 11, 2, 0, 0, 0, 0) := by decide +kernel
theorem l_344_208 : look 344 208 = some (.if_icmp .le 5, 3, 0, 0, 0, 0) := by decide +kernel
theorem l_344_211 : look 344 211 = some (.iconst 0, 1, 0, 0, 0, 0) := by decide +kernel
theorem l_344_212 : look 344 212 = some (.ireturn, 1, 0, 0, 1, 0) := by decide +kernel
theorem l_344_213 : look 344 213 = some (.iload 11, 2, 0, 0, 0, 0) := by decide +kernel
theorem l_344_215 : look 344 215 = some (.istore 9, 2, 0, 0, 0, 0) := by decide +kernel
theorem l_344_217 : look 344 217 = some (.aload 8, 2, 0, 0, 0, 0) := by decide +kernel
theorem l_344_219 : look 344 219 = some (.iload 14, 2, 0, 0, 0, 0) := by decide +kernel
theorem l_344_221 : look 344 221 = some (.dup2, 1, 0, 0, 0, 0) := by decide +kernel
theorem l_344_222 : look 344 222 = some (.iaload, 1, 0, 0, 0, 0) := by decide +kernel
theorem l_344_223 : look 344 223 = some (.iconst 1, 1, 0, 0, 0, 0) := by decide +kernel
theorem l_344_224 : look 344 224 = some (.iadd, 1, 0, 0, 0, 0) := by decide +kernel
theorem l_344_225 : look 344 225 = some (.iastore, 1, 0, 0, 0, 0) := by decide +kernel
theorem l_344_226 : look 344 226 = some (.iload 13, 2, 0, 0, 0, 0) := by decide +kernel
theorem l_344_228 : look 344 228 = some (.ifCond .ge 7, 3, 0, 0, 0, 0) := by decide +kernel
theorem l_344_231 : look 344 231 = some (.iconst 1, 1, 0, 0, 0, 0) := by decide +kernel
theorem l_344_232 : look 344 232 = some (.goto 4, 3, 0, 0, 0, 0) := by decide +kernel
theorem l_344_235 : look 344 235 = some (.iconst 0, 1, 0, 0, 0, 0) := by decide +kernel
theorem l_344_236 : look 344 236 = some (.iload 14, 2, 0, 0, 0, 0) := by decide +kernel
theorem l_344_238 : look 344 238 = some (.iconst 5, 1, 0, 0, 0, 0) := by decide +kernel
theorem l_344_239 : look 344 239 = some (.if_icmp .gt 7, 3, 0, 0, 0, 0) := by decide +kernel
theorem l_344_242 : look 344 242 = some (.iconst 1, 1, 0, 0, 0, 0) := by decide +kernel
theorem l_344_243 : look 344 243 = some (.goto 4, 3, 0, 0, 0, 0) := by decide +kernel
theorem l_344_246 : look 344 246 = some (.iconst 0, 1, 0, 0, 0, 0) := by decide +kernel
theorem l_344_247 : look 344 247 = some (.if_icmp .eq 5, 3, 0, 0, 0, 0) := by decide +kernel
theorem l_344_250 : look 344 250 = some (.iconst 0, 1, 0, 0, 0, 0) := by decide +kernel
theorem l_344_251 : look 344 251 = some (.ireturn, 1, 0, 0, 1, 0) := by decide +kernel
theorem l_344_252 : look 344 252 = some (.iload 13, 2, 0, 0, 0, 0) := by decide +kernel
theorem l_344_254 : look 344 254 = some (.ifCond .ge 15, 3, 0, 0, 0, 0) := by decide +kernel
theorem l_344_257 : look 344 257 = some (.aload 6, 2, 0, 0, 0, 0) := by decide +kernel
theorem l_344_259 : look 344 259 = some (.iload 12, 2, 0, 0, 0, 0) := by decide +kernel
theorem l_344_261 : look 344 261 = some (.dup2, 1, 0, 0, 0, 0) := by decide +kernel
theorem l_344_262 : look 344 262 = some (.iaload, 1, 0, 0, 0, 0) := by decide +kernel
theorem l_344_263 : look 344 263 = some (.iconst 1, 1, 0, 0, 0, 0) := by decide +kernel
theorem l_344_264 : look 344 264 = some (.iadd, 1, 0, 0, 0, 0) := by decide +kernel
theorem l_344_265 : look 344 265 = some (.iastore, 1, 0, 0, 0, 0) := by decide +kernel
theorem l_344_266 : look 344 266 = some (.goto 15, 3, 0, 0, 0, 0) := by decide +kernel
theorem l_344_269 : look 344 269 = some (.aload 7, 2, 0, 0, 0, 0) := by decide +kernel
theorem l_344_271 : look 344 271 = some (.iload 12, 2, 0, 0, 0, 0) := by decide +kernel
theorem l_344_273 : look 344 273 = some (.aaload, 1, 0, 0, 0, 0) := by decide +kernel
theorem l_344_274 : look 344 274 = some (.iload 13, 2, 0, 0, 0, 0) := by decide +kernel
theorem l_344_276 : look 344 276 = some (.dup2, 1, 0, 0, 0, 0) := by decide +kernel
theorem l_344_277 : look 344 277 = some (.iaload, 1, 0, 0, 0, 0) := by decide +kernel
theorem l_344_278 : look 344 278 = some (.iconst 1, 1, 0, 0, 0, 0) := by decide +kernel
theorem l_344_279 : look 344 279 = some (.iadd, 1, 0, 0, 0, 0) := by decide +kernel
theorem l_344_280 : look 344 280 = some (.iastore, 1, 0, 0, 0, 0) := by decide +kernel
theorem l_344_281 : look 344 281 = some (.iload 14, 2, 0, 0, 0, 0) := by decide +kernel
theorem l_344_283 : look 344 283 = some (.bipush 8, 2, 0, 0, 0, 0) := by decide +kernel
theorem l_344_285 : look 344 285 = some (.if_icmp .ne 7, 3, 0, 0, 0, 0) := by decide +kernel
theorem l_344_288 : look 344 288 = some (.iconst 1, 1, 0, 0, 0, 0) := by decide +kernel
theorem l_344_289 : look 344 289 = some (.goto 4, 3, 0, 0, 0, 0) := by decide +kernel
theorem l_344_292 : look 344 292 = some (.iconst 0, 1, 0, 0, 0, 0) := by decide +kernel
theorem l_344_293 : look 344 293 = some (.aload_n 3, 1, 0, 0, 0, 0) := by decide +kernel
theorem l_344_294 : look 344 294 = some (.iload 10, 2, 0, 0, 0, 0) := by decide +kernel
theorem l_344_296 : look 344 296 = some (.iconst 4, 1, 0, 0, 0, 0) := by decide +kernel
theorem l_344_297 : look 344 297 = some (.invokevirtual 78, 3, 121, 3, 0, 207) := by decide +kernel
theorem l_344_300 : look 344 300 = some (.ifCond .lt 13, 3, 0, 0, 0, 0) := by decide +kernel
theorem l_344_303 : look 344 303 = some (.iload 14, 2, 0, 0, 0, 0) := by decide +kernel
theorem l_344_305 : look 344 305 = some (.iconst 2, 1, 0, 0, 0, 0) := by decide +kernel
theorem l_344_306 : look 344 306 = some (.if_icmp .eq 7, 3, 0, 0, 0, 0) := by decide +kernel
theorem l_344_309 : look 344 309 = some (.iconst 1, 1, 0, 0, 0, 0) := by decide +kernel
theorem l_344_310 : look 344 310 = some (.goto 4, 3, 0, 0, 0, 0) := by decide +kernel
theorem l_344_313 : look 344 313 = some (.iconst 0, 1, 0, 0, 0, 0) := by decide +kernel
theorem l_344_314 : look 344 314 = some (.if_icmp .eq 5, 3, 0, 0, 0, 0) := by decide +kernel
theorem l_344_317 : look 344 317 = some (.iconst 0, 1, 0, 0, 0, 0) := by decide +kernel
theorem l_344_318 : look 344 318 = some (.ireturn, 1, 0, 0, 1, 0) := by decide +kernel
theorem l_344_319 : look 344 319 = some (.aload_n 3, 1, 0, 0, 0, 0) := by decide +kernel
theorem l_344_320 : look 344 320 = some (.iload 12, 2, 0, 0, 0, 0) := by decide +kernel
theorem l_344_322 : look 344 322 = some (.invokevirtual 85, 3, 122, 2, 0, 219) := by decide +kernel
theorem l_344_325 : look 344 325 = some (.iload 10, 2, 0, 0, 0, 0) := by decide +kernel
theorem l_344_327 : look 344 327 = some (.if_icmp .le 5, 3, 0, 0, 0, 0) := by decide +kernel
theorem l_344_330 : look 344 330 = some (.iconst 0, 1, 0, 0, 0, 0) := by decide +kernel
theorem l_344_331 : look 344 331 = some (.ireturn, 1, 0, 0, 1, 0) := by decide +kernel
theorem l_344_332 : look 344 332 = some (.aload_n 3, 1, 0, 0, 0, 0) := by decide +kernel
theorem l_344_333 : look 344 333 = some (.iload 10, 2, 0, 0, 0, 0) := by decide +kernel
theorem l_344_335 : look 344 335 = some (.invokevirtual 88, 3, 144, 2, 0, 259) := by decide +kernel
theorem l_344_338 : look 344 338 = some (.bipush 7, 2, 0, 0, 0, 0) := by decide +kernel
theorem l_344_340 : look 344 340 = some (.if_icmp .ge 5, 3, 0, 0, 0, 0) := by decide +kernel
theorem l_344_343 : look 344 343 = some (.iconst 0, 1, 0, 0, 0, 0) := by decide +kernel
theorem l_344_344 : look 344 344 = some (.ireturn, 1, 0, 0, 1, 0) := by decide +kernel
theorem l_344_345 : look 344 345 = some (.iinc 10 1, 3, 0, 0, 0, 0) := by decide +kernel
theorem l_344_348 : look 344 348 = some (.goto (-208), 3, 0, 0, 0, 0) := by decide +kernel
theorem l_344_351 : look 344 351 = some (.iconst 1, 1, 0, 0, 0, 0) := by decide +kernel
theorem l_344_352 : look 344 352 = some (.istore 10, 2, 0, 0, 0, 0) := by decide +kernel
theorem l_344_354 : look 344 354 = some (.iload 10, 2, 0, 0, 0, 0) := by decide +kernel
theorem l_344_356 : look 344 356 = some (.bipush 11, 2, 0, 0, 0, 0) := by decide +kernel
theorem l_344_358 : look 344 358 = some (.if_icmp .ge 25, 3, 0, 0, 0, 0) := by decide +kernel
theorem l_344_361 : look 344 361 = some (.aload_n 3, 1, 0, 0, 0, 0) := by decide +kernel
theorem l_344_362 : look 344 362 = some (.iload 10, 2, 0, 0, 0, 0) := by decide +kernel
theorem l_344_364 : look 344 364 = some (.invokevirtual 91, 3, 123, 2, 0, 223) := by decide +kernel
theorem l_344_367 : look 344 367 = some (.aload 8, 2, 0, 0, 0, 0) := by decide +kernel
theorem l_344_369 : look 344 369 = some (.iload 10, 2, 0, 0, 0, 0) := by decide +kernel
theorem l_344_371 : look 344 371 = some (.iaload, 1, 0, 0, 0, 0) := by decide +kernel
theorem l_344_372 : look 344 372 = some (.if_icmp .eq 5, 3, 0, 0, 0, 0) := by decide +kernel
theorem l_344_375 : look 344 375 = some (.iconst 0, 1, 0, 0, 0, 0) := by decide +kernel
theorem l_344_376 : look 344 376 = some (.ireturn, 1, 0, 0, 1, 0) := by decide +kernel
theorem l_344_377 : look 344 377 = some (.iinc 10 1, 3, 0, 0, 0, 0) := by decide +kernel
theorem l_344_380 : look 344 380 = some (.goto (-26), 3, 0, 0, 0, 0) := by decide +kernel
theorem l_344_383 : look 344 383 = some (.iconst 0, 1, 0, 0, 0, 0) := by decide +kernel
theorem l_344_384 : look 344 384 = some (.istore 10, 2, 0, 0, 0, 0) := by decide +kernel
theorem l_344_386 : look 344 386 = some (.iconst 0, 1, 0, 0, 0, 0) := by decide +kernel
theorem l_344_387 : look 344 387 = some (.istore 11, 2, 0, 0, 0, 0) := by decide +kernel
theorem l_344_389 : look 344 389 = some (.iload 11, 2, 0, 0, 0, 0) := by decide +kernel
theorem l_344_391 : look 344 391 = some (.aload_n 2, 1, 0, 0, 0, 0) := by decide +kernel
theorem l_344_392 : look 344 392 = some (.getfield 73, 3, 10, 1, 20, 1164) := by decide +kernel
theorem l_344_395 : look 344 395 = some (.if_icmp .ge 161, 3, 0, 0, 0, 0) := by decide +kernel
theorem l_344_398 : look 344 398 = some (.aload_n 3, 1, 0, 0, 0, 0) := by decide +kernel
theorem l_344_399 : look 344 399 = some (.iload 11, 2, 0, 0, 0, 0) := by decide +kernel
theorem l_344_401 : look 344 401 = some (.invokevirtual 94, 3, 112, 2, 0, 175) := by decide +kernel
theorem l_344_404 : look 344 404 = some (.istore 12, 2, 0, 0, 0, 0) := by decide +kernel
theorem l_344_406 : look 344 406 = some (.iload 12, 2, 0, 0, 0, 0) := by decide +kernel
theorem l_344_408 : look 344 408 = some (.aload_n 2, 1, 0, 0, 0, 0) := by decide +kernel
theorem l_344_409 : look 344 409 = some (.getfield 97, 3, 10, 4, 22, 1170) := by decide +kernel
theorem l_344_412 : look 344 412 = some (.iload 11, 2, 0, 0, 0, 0) := by decide +kernel
theorem l_344_414 : look 344 414 = some (.iaload, 1, 0, 0, 0, 0) := by decide +kernel
theorem l_344_415 : look 344 415 = some (.if_icmp .gt 14, 3, 0, 0, 0, 0) := by decide +kernel
theorem l_344_418 : look 344 418 = some (.iload 12, 2, 0, 0, 0, 0) := by decide +kernel
theorem l_344_420 : look 344 420 = some (.aload_n 3, 1, 0, 0, 0, 0) := by decide +kernel
theorem l_344_421 : look 344 421 = some (.iload 11, 2, 0, 0, 0, 0) := by decide +kernel
theorem l_344_423 : look 344 423 = some (.invokevirtual 101, 3, 113, 2, 0, 183) := by decide +kernel
theorem l_344_426 : look 344 426 = some (.if_icmp .ge 5, 3, 0, 0, 0, 0) := by decide +kernel
theorem l_344_429 : look 344 429 = some (.iconst 0, 1, 0, 0, 0, 0) := by decide +kernel
theorem l_344_430 : look 344 430 = some (.ireturn, 1, 0, 0, 1, 0) := by decide +kernel
theorem l_344_431 : look 344 431 = some (.iload 10, 2, 0, 0, 0, 0) := by decide +kernel
theorem l_344_433 : look 344 433 = some (.iload 12, 2, 0, 0, 0, 0) := by decide +kernel
theorem l_344_435 : look 344 435 = some (.iadd, 1, 0, 0, 0, 0) := by decide +kernel
theorem l_344_436 : look 344 436 = some (.istore 10, 2, 0, 0, 0, 0) := by decide +kernel
theorem l_344_438 : look 344 438 = some (.iconst 0, 1, 0, 0, 0, 0) := by decide +kernel
theorem l_344_439 : look 344 439 = some (.istore 13, 2, 0, 0, 0, 0) := by decide +kernel
theorem l_344_441 : look 344 441 = some (.iconst 0, 1, 0, 0, 0, 0) := by decide +kernel
theorem l_344_442 : look 344 442 = some (.istore 14, 2, 0, 0, 0, 0) := by decide +kernel
theorem l_344_444 : look 344 444 = some (.iload 14, 2, 0, 0, 0, 0) := by decide +kernel
theorem l_344_446 : look 344 446 = some (.iload 4, 2, 0, 0, 0, 0) := by decide +kernel
theorem l_344_448 : look 344 448 = some (.if_icmp .ge 31, 3, 0, 0, 0, 0) := by decide +kernel
theorem l_344_451 : look 344 451 = some (.iload 13, 2, 0, 0, 0, 0) := by decide +kernel
theorem l_344_453 : look 344 453 = some (.aload_n 3, 1, 0, 0, 0, 0) := by decide +kernel
theorem l_344_454 : look 344 454 = some (.iload 14, 2, 0, 0, 0, 0) := by decide +kernel
theorem l_344_456 : look 344 456 = some (.iload 11, 2, 0, 0, 0, 0) := by decide +kernel
theorem l_344_458 : look 344 458 = some (.invokevirtual 104, 3, 120, 3, 0, 199) := by decide +kernel
theorem l_344_461 : look 344 461 = some (.iconst 2, 1, 0, 0, 0, 0) := by decide +kernel
theorem l_344_462 : look 344 462 = some (.if_icmp .ne 7, 3, 0, 0, 0, 0) := by decide +kernel
theorem l_344_465 : look 344 465 = some (.iconst 1, 1, 0, 0, 0, 0) := by decide +kernel
theorem l_344_466 : look 344 466 = some (.goto 4, 3, 0, 0, 0, 0) := by decide +kernel
theorem l_344_469 : look 344 469 = some (.iconst 0, 1, 0, 0, 0, 0) := by decide +kernel
theorem l_344_470 : look 344 470 = some (.iadd, 1, 0, 0, 0, 0) := by decide +kernel
theorem l_344_471 : look 344 471 = some (.istore 13, 2, 0, 0, 0, 0) := by decide +kernel
theorem l_344_473 : look 344 473 = some (.iinc 14 1, 3, 0, 0, 0, 0) := by decide +kernel
theorem l_344_476 : look 344 476 = some (.goto (-32), 3, 0, 0, 0, 0) := by decide +kernel
theorem l_344_479 : look 344 479 = some (.aload_n 3, 1, 0, 0, 0, 0) := by decide +kernel
theorem l_344_480 : look 344 480 = some (.iload 11, 2, 0, 0, 0, 0) := by decide +kernel
theorem l_344_482 : look 344 482 = some (.invokevirtual 107, 3, 119, 2, 0, 195) := by decide +kernel
theorem l_344_485 : look 344 485 = some (.iload 13, 2, 0, 0, 0, 0) := by decide +kernel
theorem l_344_487 : look 344 487 = some (.if_icmp .eq 5, 3, 0, 0, 0, 0) := by decide +kernel
theorem l_344_490 : look 344 490 = some (.iconst 0, 1, 0, 0, 0, 0) := by decide +kernel
theorem l_344_491 : look 344 491 = some (.ireturn, 1, 0, 0, 1, 0) := by decide +kernel
theorem l_344_492 : look 344 492 = some (.iconst 0, 1, 0, 0, 0, 0) := by decide +kernel
theorem l_344_493 : look 344 493 = some (.istore 14, 2, 0, 0, 0, 0) := by decide +kernel
theorem l_344_495 : look 344 495 = some (.iload 14, 2, 0, 0, 0, 0) := by decide +kernel
theorem l_344_497 : look 344 497 = some (.aload_n 3, 1, 0, 0, 0, 0) := by decide +kernel
theorem l_344_498 : look 344 498 = some (.iload 11, 2, 0, 0, 0, 0) := by decide +kernel
theorem l_344_500 : look 344 500 = some (.invokevirtual 101, 3, 113, 2, 0, 183) := by decide +kernel
theorem l_344_503 : look 344 503 = some (.if_icmp .ge 29, 3, 0, 0, 0, 0) := by decide +kernel
theorem l_344_506 : look 344 506 = some (.aload_n 3, 1, 0, 0, 0, 0) := by decide +kernel
theorem l_344_507 : look 344 507 = some (.aload_n 3, 1, 0, 0, 0, 0) := by decide +kernel
theorem l_344_508 : look 344 508 = some (.iload 11, 2, 0, 0, 0, 0) := by decide +kernel
theorem l_344_510 : look 344 510 = some (.iload 14, 2, 0, 0, 0, 0) := by decide +kernel
theorem l_344_512 : look 344 512 = some (.invokevirtual 110, 3, 114, 3, 0, 187) := by decide +kernel
theorem l_344_515 : look 344 515 = some (.iload 11, 2, 0, 0, 0, 0) := by decide +kernel
theorem l_344_517 : look 344 517 = some (.invokevirtual 104, 3, 120, 3, 0, 199) := by decide +kernel
theorem l_344_520 : look 344 520 = some (.iconst 1, 1, 0, 0, 0, 0) := by decide +kernel
theorem l_344_521 : look 344 521 = some (.if_icmp .eq 5, 3, 0, 0, 0, 0) := by decide +kernel
theorem l_344_524 : look 344 524 = some (.iconst 0, 1, 0, 0, 0, 0) := by decide +kernel
theorem l_344_525 : look 344 525 = some (.ireturn, 1, 0, 0, 1, 0) := by decide +kernel
theorem l_344_526 : look 344 526 = some (.iinc 14 1, 3, 0, 0, 0, 0) := by decide +kernel
theorem l_344_529 : look 344 529 = some (.goto (-34), 3, 0, 0, 0, 0) := by decide +kernel
theorem l_344_532 : look 344 532 = some (.aload_n 3, 1, 0, 0, 0, 0) := by decide +kernel
theorem l_344_533 : look 344 533 = some (.iload 11, 2, 0, 0, 0, 0) := by decide +kernel
theorem l_344_535 : look 344 535 = some (.aload_n 3, 1, 0, 0, 0, 0) := by decide +kernel
theorem l_344_536 : look 344 536 = some (.iload 11, 2, 0, 0, 0, 0) := by decide +kernel
theorem l_344_538 : look 344 538 = some (.invokevirtual 101, 3, 113, 2, 0, 183) := by decide +kernel
theorem l_344_541 : look 344 541 = some (.invokevirtual 110, 3, 114, 3, 0, 187) := by decide +kernel
theorem l_344_544 : look 344 544 = some (.iconst (-1), 1, 0, 0, 0, 0) := by decide +kernel
theorem l_344_545 : look 344 545 = some (.if_icmp .eq 5, 3, 0, 0, 0, 0) := by decide +kernel
theorem l_344_548 : look 344 548 = some (.iconst 0, 1, 0, 0, 0, 0) := by decide +kernel
theorem l_344_549 : look 344 549 = some (.ireturn, 1, 0, 0, 1, 0) := by decide +kernel
theorem l_344_550 : look 344 550 = some (.iinc 11 1, 3, 0, 0, 0, 0) := by decide +kernel
theorem l_344_553 : look 344 553 = some (.goto (-164), 3, 0, 0, 0, 0) := by decide +kernel
theorem l_344_556 : look 344 556 = some (.iload 10, 2, 0, 0, 0, 0) := by decide +kernel
theorem l_344_558 : look 344 558 = some (.aload_n 2, 1, 0, 0, 0, 0) := by decide +kernel
theorem l_344_559 : look 344 559 = some (.getfield 113, 3, 10, 3, 20, 1168) := by decide +kernel
theorem l_344_562 : look 344 562 = some (.if_icmp .le 5, 3, 0, 0, 0, 0) := by decide +kernel
theorem l_344_565 : look 344 565 = some (.iconst 0, 1, 0, 0, 0, 0) := by decide +kernel
theorem l_344_566 : look 344 566 = some (.ireturn, 1, 0, 0, 1, 0) := by decide +kernel
theorem l_344_567 : look 344 567 = some (.iconst 0, 1, 0, 0, 0, 0) := by decide +kernel
theorem l_344_568 : look 344 568 = some (.istore 11, 2, 0, 0, 0, 0) := by decide +kernel
theorem l_344_570 : look 344 570 = some (.iload 11, 2, 0, 0, 0, 0) := by decide +kernel
theorem l_344_572 : look 344 572 = some (.iload 4, 2, 0, 0, 0, 0) := by decide +kernel
theorem l_344_574 : look 344 574 = some (.if_icmp .ge 182, 3, 0, 0, 0, 0) := by decide +kernel
theorem l_344_577 : look 344 577 = some (.iconst 0, 1, 0, 0, 0, 0) := by decide +kernel
theorem l_344_578 : look 344 578 = some (.istore 12, 2, 0, 0, 0, 0) := by decide +kernel
theorem l_344_580 : look 344 580 = some (.iconst 0, 1, 0, 0, 0, 0) := by decide +kernel
theorem l_344_581 : look 344 581 = some (.istore 13, 2, 0, 0, 0, 0) := by decide +kernel
theorem l_344_583 : look 344 583 = some (.iload 13, 2, 0, 0, 0, 0) := by decide +kernel
theorem l_344_585 : look 344 585 = some (.aload_n 2, 1, 0, 0, 0, 0) := by decide +kernel
theorem l_344_586 : look 344 586 = some (.getfield 73, 3, 10, 1, 20, 1164) := by decide +kernel
theorem l_344_589 : look 344 589 = some (.if_icmp .ge 58, 3, 0, 0, 0, 0) := by decide +kernel
theorem l_344_592 : look 344 592 = some (.aload_n 3, 1, 0, 0, 0, 0) := by decide +kernel
theorem l_344_593 : look 344 593 = some (.iload 11, 2, 0, 0, 0, 0) := by decide +kernel
theorem l_344_595 : look 344 595 = some (.iload 13, 2, 0, 0, 0, 0) := by decide +kernel
theorem l_344_597 : look 344 597 = some (.invokevirtual 104, 3, 120, 3, 0, 199) := by decide +kernel
theorem l_344_600 : look 344 600 = some (.istore 14, 2, 0, 0, 0, 0) := by decide +kernel
theorem l_344_602 : look 344 602 = some (.iload 12, 2, 0, 0, 0, 0) := by decide +kernel
theorem l_344_604 : look 344 604 = some (.iload 14, 2, 0, 0, 0, 0) := by decide +kernel
theorem l_344_606 : look 344 606 = some (.ifCond .le 7, 3, 0, 0, 0, 0) := by decide +kernel
theorem l_344_609 : look 344 609 = some (.iconst 1, 1, 0, 0, 0, 0) := by decide +kernel
theorem l_344_610 : look 344 610 = some (.goto 4, 3, 0, 0, 0, 0) := by decide +kernel
theorem l_344_613 : look 344 613 = some (.iconst 0, 1, 0, 0, 0, 0) := by decide +kernel
theorem l_344_614 : look 344 614 = some (.iadd, 1, 0, 0, 0, 0) := by decide +kernel
theorem l_344_615 : look 344 615 = some (.istore 12, 2, 0, 0, 0, 0) := by decide +kernel
theorem l_344_617 : look 344 617 = some (.aload 7, 2, 0, 0, 0, 0) := by decide +kernel
theorem l_344_619 : look 344 619 = some (.iload 11, 2, 0, 0, 0, 0) := by decide +kernel
theorem l_344_621 : look 344 621 = some (.aaload, 1, 0, 0, 0, 0) := by decide +kernel
theorem l_344_622 : look 344 622 = some (.iload 13, 2, 0, 0, 0, 0) := by decide +kernel
theorem l_344_624 : look 344 624 = some (.iaload, 1, 0, 0, 0, 0) := by decide +kernel
theorem l_344_625 : look 344 625 = some (.iload 14, 2, 0, 0, 0, 0) := by decide +kernel
theorem l_344_627 : look 344 627 = some (.iconst 3, 1, 0, 0, 0, 0) := by decide +kernel
theorem l_344_628 : look 344 628 = some (.if_icmp .ne 7, 3, 0, 0, 0, 0) := by decide +kernel
theorem l_344_631 : look 344 631 = some (.iconst 1, 1, 0, 0, 0, 0) := by decide +kernel
theorem l_344_632 : look 344 632 = some (.goto 4, 3, 0, 0, 0, 0) := by decide +kernel
theorem l_344_635 : look 344 635 = some (.iconst 0, 1, 0, 0, 0, 0) := by decide +kernel
theorem l_344_636 : look 344 636 = some (.if_icmp .eq 5, 3, 0, 0, 0, 0) := by decide +kernel
theorem l_344_639 : look 344 639 = some (.iconst 0, 1, 0, 0, 0, 0) := by decide +kernel
theorem l_344_640 : look 344 640 = some (.ireturn, 1, 0, 0, 1, 0) := by decide +kernel
theorem l_344_641 : look 344 641 = some (.iinc 13 1, 3, 0, 0, 0, 0) := by decide +kernel
theorem l_344_644 : look 344 644 = some (.goto (-61), 3, 0, 0, 0, 0) := by decide +kernel
theorem l_344_647 : look 344 647 = some (.aload 6, 2, 0, 0, 0, 0) := by decide +kernel
theorem l_344_649 : look 344 649 = some (.iload 11, 2, 0, 0, 0, 0) := by decide +kernel
theorem l_344_651 : look 344 651 = some (.iaload, 1, 0, 0, 0, 0) := by decide +kernel
theorem l_344_652 : look 344 652 = some (.iload 12, 2, 0, 0, 0, 0) := by decide +kernel
theorem l_344_654 : look 344 654 = some (.ifCond .le 7, 3, 0, 0, 0, 0) := by decide +kernel
theorem l_344_657 : look 344 657 = some (.iconst 1, 1, 0, 0, 0, 0) := by decide +kernel
theorem l_344_658 : look 344 658 = some (.goto 4, 3, 0, 0, 0, 0) := by decide +kernel
theorem l_344_661 : look 344 661 = some (.iconst 0, 1, 0, 0, 0, 0) := by decide +kernel
theorem l_344_662 : look 344 662 = some (.iadd, 1, 0, 0, 0, 0) := by decide +kernel
theorem l_344_663 : look 344 663 = some (.iconst 1, 1, 0, 0, 0, 0) := by decide +kernel
theorem l_344_664 : look 344 664 = some (.if_icmp .ne 18, 3, 0, 0, 0, 0) := by decide +kernel
theorem l_344_667 : look 344 667 = some (.aload_n 3, 1, 0, 0, 0, 0) := by decide +kernel
theorem l_344_668 : look 344 668 = some (.aload_n 3, 1, 0, 0, 0, 0) := by decide +kernel
theorem l_344_669 : look 344 669 = some (.iload 11, 2, 0, 0, 0, 0) := by decide +kernel
theorem l_344_671 : look 344 671 = some (.invokevirtual 82, 3, 111, 2, 0, 167) := by decide +kernel
theorem l_344_674 : look 344 674 = some (.invokevirtual 116, 3, 110, 2, 0, 143) := by decide +kernel
theorem l_344_677 : look 344 677 = some (.iload 11, 2, 0, 0, 0, 0) := by decide +kernel
theorem l_344_679 : look 344 679 = some (.if_icmp .eq 5, 3, 0, 0, 0, 0) := by decide +kernel
theorem l_344_682 : look 344 682 = some (.iconst 0, 1, 0, 0, 0, 0) := by decide +kernel
theorem l_344_683 : look 344 683 = some (.ireturn, 1, 0, 0, 1, 0) := by decide +kernel
theorem l_344_684 : look 344 684 = some (.iconst 0, 1, 0, 0, 0, 0) := by decide +kernel
theorem l_344_685 : look 344 685 = some (.istore 13, 2, 0, 0, 0, 0) := by decide +kernel
theorem l_344_687 : look 344 687 = some (.iconst 0, 1, 0, 0, 0, 0) := by decide +kernel
theorem l_344_688 : look 344 688 = some (.istore 14, 2, 0, 0, 0, 0) := by decide +kernel
theorem l_344_690 : look 344 690 = some (.iload 14, 2, 0, 0, 0, 0) := by decide +kernel
theorem l_344_692 : look 344 692 = some (.iload 5, 2, 0, 0, 0, 0) := by decide +kernel
theorem l_344_694 : look 344 694 = some (.if_icmp .ge 43, 3, 0, 0, 0, 0) := by decide +kernel
theorem l_344_697 : look 344 697 = some (.iload 13, 2, 0, 0, 0, 0) := by decide +kernel
theorem l_344_699 : look 344 699 = some (.aload_n 3, 1, 0, 0, 0, 0) := by decide +kernel
theorem l_344_700 : look 344 700 = some (.iload 14, 2, 0, 0, 0, 0) := by decide +kernel
theorem l_344_702 : look 344 702 = some (.iconst 3, 1, 0, 0, 0, 0) := by decide +kernel
theorem l_344_703 : look 344 703 = some (.invokevirtual 78, 3, 121, 3, 0, 207) := by decide +kernel
theorem l_344_706 : look 344 706 = some (.bipush 8, 2, 0, 0, 0, 0) := by decide +kernel
theorem l_344_708 : look 344 708 = some (.if_icmp .ne 19, 3, 0, 0, 0, 0) := by decide +kernel
theorem l_344_711 : look 344 711 = some (.aload_n 3, 1, 0, 0, 0, 0) := by decide +kernel
theorem l_344_712 : look 344 712 = some (.iload 14, 2, 0, 0, 0, 0) := by decide +kernel
theorem l_344_714 : look 344 714 = some (.iconst 4, 1, 0, 0, 0, 0) := by decide +kernel
theorem l_344_715 : look 344 715 = some (.invokevirtual 78, 3, 121, 3, 0, 207) := by decide +kernel
theorem l_344_718 : look 344 718 = some (.iload 11, 2, 0, 0, 0, 0) := by decide +kernel
theorem l_344_720 : look 344 720 = some (.if_icmp .ne 7, 3, 0, 0, 0, 0) := by decide +kernel
theorem l_344_723 : look 344 723 = some (.iconst 1, 1, 0, 0, 0, 0) := by decide +kernel
theorem l_344_724 : look 344 724 = some (.goto 4, 3, 0, 0, 0, 0) := by decide +kernel
theorem l_344_727 : look 344 727 = some (.iconst 0, 1, 0, 0, 0, 0) := by decide +kernel
theorem l_344_728 : look 344 728 = some (.iadd, 1, 0, 0, 0, 0) := by decide +kernel
theorem l_344_729 : look 344 729 = some (.istore 13, 2, 0, 0, 0, 0) := by decide +kernel
theorem l_344_731 : look 344 731 = some (.iinc 14 1, 3, 0, 0, 0, 0) := by decide +kernel
theorem l_344_734 : look 344 734 = some (.goto (-44), 3, 0, 0, 0, 0) := by decide +kernel
theorem l_344_737 : look 344 737 = some (.aload_n 3, 1, 0, 0, 0, 0) := by decide +kernel
theorem l_344_738 : look 344 738 = some (.iload 11, 2, 0, 0, 0, 0) := by decide +kernel
theorem l_344_740 : look 344 740 = some (.invokevirtual 119, 3, 125, 2, 0, 251) := by decide +kernel
theorem l_344_743 : look 344 743 = some (.iload 13, 2, 0, 0, 0, 0) := by decide +kernel
theorem l_344_745 : look 344 745 = some (.if_icmp .eq 5, 3, 0, 0, 0, 0) := by decide +kernel
theorem l_344_748 : look 344 748 = some (.iconst 0, 1, 0, 0, 0, 0) := by decide +kernel
theorem l_344_749 : look 344 749 = some (.ireturn, 1, 0, 0, 1, 0) := by decide +kernel
theorem l_344_750 : look 344 750 = some (.iinc 11 1, 3, 0, 0, 0, 0) := by decide +kernel
theorem l_344_753 : look 344 753 = some (.goto (-183), 3, 0, 0, 0, 0) := by decide +kernel
theorem l_344_756 : look 344 756 = some (.iconst 1, 1, 0, 0, 0, 0) := by decide +kernel
theorem l_344_757 : look 344 757 = some (.ireturn, 1, 0, 0, 1, 0) := by decide +kernel

theorem MADE.mv {S' : List (Nat × Nat)} {I' : Ix} {T' : Nat → Nat → Nat} (h : MADE ports rules space l S I T) (e : ex S S') (hS : S.length ≤ S'.length) (f : ∀ z w, z < S.length → I' z w = I z w ∧ T' z w = T z w) : MADE ports rules space l S' I' T' := by
  obtain ⟨h1, h2, h3, h4, h5, h6, h7, h8, h9, h10, h11, h12, h13, h14, h15, h16, h17⟩ := h
  exact ⟨e _ _ h1, e _ _ h2, e _ _ h3, (f 1 0 (by omega)).2.trans h4, (f 1 4 (by omega)).2.trans h5, (f 1 1 (by omega)).1.trans h6, (f 1 2 (by omega)).1.trans h7, (f 1 3 (by omega)).1.trans h8, (f 1 5 (by omega)).1.trans h9, fun p hp => (f 165 p (by omega)).1.trans (h10 p hp), h11, h12, h13, h14, h15, h16, by omega⟩
theorem LST.mv {S' : List (Nat × Nat)} {I' : Ix} {T' : Nat → Nat → Nat} (h : LST ports rules space l ne c S I T) (e : ex S S') (hS : S.length ≤ S'.length) (f : ∀ z w, z < S.length → I' z w = I z w ∧ T' z w = T z w) : LST ports rules space l ne c S' I' T' := by
  obtain ⟨hm, q, y, h, a, np, cd, nm, L, bf, W⟩ := h
  have h17 := hm.2.2.2.2.2.2.2.2.2.2.2.2.2.2.2.2
  exact ⟨hm.mv e hS f, q, y, h, a, np, cd, nm, L, bf, W.mv e fun z w h1 h2 => f z w (by omega)⟩
theorem LST.len (h : LST ports rules space l ne c S I T) : 166 ≤ S.length := h.1.2.2.2.2.2.2.2.2.2.2.2.2.2.2.2.2

theorem lp1_344 (KK : ∀ S I T cc zz i, 1 ≤ i → i ≤ 30 → LST ports rules space l (i - 1) (i + 2) S I T → 500000 ≤ cc → 7000000 ≤ zz → WP xs 344 36 96 [vs 3, vr 0, vr 1, vr 2, vi ((i : Nat) : Int), vs 2, vs 2, vs 2, vs 2, vs 2, vs 2, vs 2, vs 2, vs 2, vs 2] [] (S, I, T, cc, zz) Q) :
    ∀ (d i : Nat), 30 ≤ i + d → 1 ≤ i → i ≤ 30 → ∀ S I T cc zz, LST ports rules space l (i - 1) (i + 2) S I T → 500100 ≤ cc + i → 7000100 ≤ zz + i → WP xs 344 36 54 [vs 3, vr 0, vr 1, vr 2, vi ((i : Nat) : Int), vs 2, vs 2, vs 2, vs 2, vs 2, vs 2, vs 2, vs 2, vs 2, vs 2] [] (S, I, T, cc, zz) Q := by
  intro d
  induction d with
  | zero =>
    intro i hd h1 h30 S I T cc zz H hc hz
    have hi : i = 30 := by omega
    subst hi
    refine w_il l_344_54 rfl ?_
    refine w_asn l_344_56 rfl ?_
    refine w_lxs l_344_57 ?_
    by_cases hil : xs.length ≤ 30
    · exact w_cge 96 l_344_58 (by decide) (fun _ => KK S I T cc zz 30 (by omega) (by omega) H (by omega) (by omega)) (fun hx => absurd hx (by omega))
    refine w_cge 96 l_344_58 (by decide) (fun hx => absurd hx (by omega)) (fun _ => ?_)
    refine w_il l_344_61 rfl ?_
    refine w_bp l_344_63 (by decide) ?_
    exact w_cge 96 l_344_65 (by decide) (fun _ => KK S I T cc zz 30 (by omega) (by omega) H (by omega) (by omega)) (fun hx => absurd hx (by omega))
  | succ d ih =>
    intro i hd h1 h30 S I T cc zz H hc hz
    refine w_il l_344_54 rfl ?_
    refine w_asn l_344_56 rfl ?_
    refine w_lxs l_344_57 ?_
    by_cases hil : xs.length ≤ i
    · exact w_cge 96 l_344_58 (by decide) (fun _ => KK S I T cc zz i (by omega) (by omega) H (by omega) (by omega)) (fun hx => absurd hx (by omega))
    refine w_cge 96 l_344_58 (by decide) (fun hx => absurd hx (by omega)) (fun _ => ?_)
    refine w_il l_344_61 rfl ?_
    refine w_bp l_344_63 (by decide) ?_
    by_cases hi30 : 30 ≤ i
    · exact w_cge 96 l_344_65 (by decide) (fun _ => KK S I T cc zz i (by omega) (by omega) H (by omega) (by omega)) (fun hx => absurd hx (by omega))
    refine w_cge 96 l_344_65 (by decide) (fun hx => absurd hx (by omega)) (fun _ => ?_)
    refine w_aln l_344_68 rfl ?_
    refine w_nw l_344_69 (by omega) (by omega) ?_
    refine w_dup l_344_72 rfl ?_
    refine w_asn l_344_73 rfl ?_
    refine w_il l_344_74 rfl ?_
    refine x_st [vs 3, vi ((i : Nat) : Int)] [vr S.length, vr S.length, vr 1] l_344_76 (Or.inl rfl) rfl rfl (Nat.le_of_ble_eq_true rfl) (by rw [mx_211]; exact Nat.le_of_ble_eq_true rfl) (by rw [rk_211]; decide) c_211 (fun v m1 h1 => ?_)
    obtain ⟨x, rfl, rfl⟩ := h1
    refine x_cs [vi x] [vr S.length, vr 1] l_344_79 (Or.inl rfl) rfl rfl (Nat.le_of_ble_eq_true rfl) (by rw [mx_172]; exact Nat.le_of_ble_eq_true rfl) (by rw [rk_172]; decide) (RX.f (c_172 (ap_e rfl))) (fun v m1 h1 => ?_)
    obtain ⟨rfl, rfl⟩ := h1
    have hl := H.len
    have H2 : LST ports rules space l (i - 1) (i + 2) (S ++ [(0, 11)]) (up (zr S.length I) S.length 0 x) (zt S.length T) := H.mv (fun _ _ h => ap_l h) (by rw [List.length_append]; omega) (fun z w hz => ⟨by rw [up_out (by omega), zr_o (by omega)], zt_o (by omega)⟩)
    refine x_iv [vr S.length] [] l_344_82 (Or.inl rfl) rfl rfl ⟨Nat.le_of_ble_eq_true rfl, rfl⟩ (by rw [mx_171]; exact Nat.le_of_ble_eq_true rfl) (by rw [mt_171]; exact H2.1.s1) (by rw [mt_171]; decide) (by rw [rk_171]; decide) (c_171 H2 (ap_e rfl) (by omega) (by omega) (by omega)) (fun v m1 h1 => ?_)
    obtain ⟨rfl, I9, rfl, H9⟩ := h1
    rw [show i - 1 + 1 = (i + 1) - 1 by omega, show i + 2 + 1 = (i + 1) + 2 by omega] at H9
    refine w_zne 90 l_344_85 (by decide) (fun _ => ?_) (fun hx => absurd hx (by decide))
    refine w_inc ((i + 1 : Nat) : Int) l_344_90 rfl rfl (by unfold wr; omega) ?_
    refine w_go 54 l_344_93 (by decide) ?_
    exact ih (i + 1) (by omega) (by omega) (by omega) _ _ _ _ _ H9 (by omega) (by omega)

theorem st_344 (KK : ∀ ports rules space (l : Li) S I T cc zz i, 1 ≤ i → i ≤ 30 → LST ports rules space l (i - 1) (i + 2) S I T → 500000 ≤ cc → 7000000 ≤ zz → WP xs 344 36 96 [vs 3, vr 0, vr 1, vr 2, vi ((i : Nat) : Int), vs 2, vs 2, vs 2, vs 2, vs 2, vs 2, vs 2, vs 2, vs 2, vs 2] [] (S, I, T, cc, zz) Q) : WP xs 344 36 0 [vs 3, vs 2, vs 2, vs 2, vs 2, vs 2, vs 2, vs 2, vs 2, vs 2, vs 2, vs 2, vs 2, vs 2, vs 2] [] ([], (fun _ _ => 0), (fun _ _ => 0), 600086, 7301442) Q := by
  refine w_nw l_344_0 (by decide) (by decide) ?_
  refine w_dup l_344_3 rfl ?_
  refine w_asn l_344_4 rfl ?_
  refine w_ic l_344_5 (by decide) ?_
  refine x_st [vs 3, vi ((0 : Nat) : Int)] [vr 0, vr 0] l_344_6 (Or.inl rfl) rfl rfl (Nat.le_of_ble_eq_true rfl) (by rw [mx_211]; exact Nat.le_of_ble_eq_true rfl) (by rw [rk_211]; decide) c_211 (fun v m1 h1 => ?_)
  obtain ⟨x, rfl, rfl⟩ := h1
  refine x_cs [vi x] [vr 0] l_344_9 (Or.inl rfl) rfl rfl (Nat.le_of_ble_eq_true rfl) (by rw [mx_172]; exact Nat.le_of_ble_eq_true rfl) (by rw [rk_172]; decide) (RX.f (c_172 rfl)) (fun v m1 h1 => ?_)
  obtain ⟨rfl, rfl⟩ := h1
  refine w_ran l_344_12 ⟨Nat.le_of_ble_eq_true rfl, rfl⟩ ?_
  refine w_nw l_344_13 (by decide) (by decide) ?_
  refine w_dup l_344_16 rfl ?_
  refine w_aln l_344_17 rfl ?_
  refine x_cs [vr 0] [vr 1] l_344_18 (Or.inl rfl) rfl rfl (Nat.le_of_ble_eq_true rfl) (by rw [mx_167]; exact Nat.le_of_ble_eq_true rfl) (by rw [rk_167]; decide) (c_167 (by decide) (by decide)) (fun v m1 h1 => ?_)
  obtain ⟨rfl, S, I, T, cc, zz, rfl, ⟨ports, rules, space, h, P, bf, a, q, y, L, hm, W⟩, hc, hz⟩ := h1
  refine w_ran l_344_21 ⟨Nat.le_of_ble_eq_true rfl, rfl⟩ ?_
  refine w_aln l_344_22 rfl ?_
  refine w_gin 1 l_344_23 (by decide) hm.s1 hm.2.2.2.2.2.2.2.2.1 ?_
  refine w_zeq 44 l_344_26 (by decide) (fun hx => absurd hx (by decide)) (fun _ => ?_)
  refine w_aln l_344_29 rfl ?_
  refine w_grn l_344_30 (by decide) hm.s1 hm.t0 ?_
  refine w_ic l_344_33 (by decide) ?_
  refine q_iv [vi 1] [] l_344_34 rfl rfl (Nat.le_of_ble_eq_true rfl) (by rw [mx_104]; exact Nat.le_of_ble_eq_true rfl) (by rw [mt_104]; exact oDropSwitch_sh W.o) (by rw [mt_104]; decide) (by rw [rk_104]; decide) (s_104_1 W.o W.X.K) ?_
  refine w_aln l_344_37 rfl ?_
  refine w_gin ((rules : Nat) : Int) l_344_38 (by decide) hm.s1 hm.2.2.2.2.2.2.1 ?_
  refine w_ceq 46 l_344_41 (by decide) (fun _ => ?_) (fun hx => absurd (by rw [hm.2.2.2.2.2.2.2.2.2.2.2.1]) hx)
  refine w_aln l_344_46 rfl ?_
  refine w_grn l_344_47 (by decide) hm.s1 hm.t0 ?_
  refine w_ran l_344_50 ⟨Nat.le_of_ble_eq_true rfl, rfl⟩ ?_
  refine w_ic l_344_51 (by decide) ?_
  refine w_is l_344_52 ⟨Nat.le_of_ble_eq_true rfl, rfl⟩ ?_
  have hc2 : 600086 - 1 - 1 ≤ cc + 10000 := hc
  have hz2 : 7301442 - 1 - 6 ≤ zz + 50000 := hz
  exact lp1_344 (l := P.1) (KK ports rules space P.1) 30 1 (by decide) (by decide) (by decide) _ _ _ _ _ ⟨hm, q, y, h, a, 0, _, _, L, bf, W⟩ (by omega) (by omega)

end LWA
