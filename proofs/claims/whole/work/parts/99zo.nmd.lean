/-! constructor of the reference -/
section MDC
variable {xs : List Int} {S : List (Nat × Nat)} {I : Ix} {T : Nat → Nat → Nat} {cc zz o : Nat}

theorem mx_167 : mxl 167 = 1 := by decide +kernel
theorem mt_167 : mtc 167 = 10 := by decide +kernel
theorem rk_167 (as : List AV) : rkA 167 as = 0 := rfl
theorem l_167_0 : look 167 0 = some (.aload_n 0, 1, 0, 0, 0, 0) := by decide +kernel
theorem l_167_1 : look 167 1 = some (.invokespecial 1, 3, 0, 1, 4, 1500) := by decide +kernel
theorem l_167_4 : look 167 4 = some (.aload_n 0, 1, 0, 0, 0, 0) := by decide +kernel
theorem l_167_5 : look 167 5 = some (.iconst 4, 1, 0, 0, 0, 0) := by decide +kernel
theorem l_167_6 : look 167 6 = some (.newarray .long, 2, 2, 0, 0, 0) := by decide +kernel
theorem l_167_8 : look 167 8 = some (.putfield 7, 3, 10, 2, 12, 1503) := by decide +kernel
theorem l_167_11 : look 167 11 = some (.aload_n 0, 1, 0, 0, 0, 0) := by decide +kernel
theorem l_167_12 : look 167 12 = some (.iconst 4, 1, 0, 0, 0, 0) := by decide +kernel
theorem l_167_13 : look 167 13 = some (.newarray .int, 2, 1, 0, 0, 0) := by decide +kernel
theorem l_167_15 : look 167 15 = some (.putfield 13, 3, 10, 3, 12, 1504) := by decide +kernel
theorem l_167_18 : look 167 18 = some (.aload_n 0, 1, 0, 0, 0, 0) := by decide +kernel
theorem l_167_19 : look 167 19 = some (.iconst 4, 1, 0, 0, 0, 0) := by decide +kernel
theorem l_167_20 : look 167 20 = some (.newarray .int, 2, 1, 0, 0, 0) := by decide +kernel
theorem l_167_22 : look 167 22 = some (.putfield 17, 3, 10, 4, 12, 1505) := by decide +kernel
theorem l_167_25 : look 167 25 = some (.aload_n 0, 1, 0, 0, 0, 0) := by decide +kernel
theorem l_167_26 : look 167 26 = some (.iconst 4, 1, 0, 0, 0, 0) := by decide +kernel
theorem l_167_27 : look 167 27 = some (.newarray .int, 2, 1, 0, 0, 0) := by decide +kernel
theorem l_167_29 : look 167 29 = some (.putfield 20, 3, 10, 5, 12, 1506) := by decide +kernel
theorem l_167_32 : look 167 32 = some (.aload_n 0, 1, 0, 0, 0, 0) := by decide +kernel
theorem l_167_33 : look 167 33 = some (.iconst 4, 1, 0, 0, 0, 0) := by decide +kernel
theorem l_167_34 : look 167 34 = some (.newarray .int, 2, 1, 0, 0, 0) := by decide +kernel
theorem l_167_36 : look 167 36 = some (.putfield 23, 3, 10, 6, 12, 1507) := by decide +kernel
theorem l_167_39 : look 167 39 = some (.aload_n 0, 1, 0, 0, 0, 0) := by decide +kernel
theorem l_167_40 : look 167 40 = some (.sipush 400, 3, 0, 0, 0, 0) := by decide +kernel
theorem l_167_43 : look 167 43 = some (.putfield 26, 3, 10, 7, 0, 1508) := by decide +kernel
theorem l_167_46 : look 167 46 = some (.aload_n 0, 1, 0, 0, 0, 0) := by decide +kernel
theorem l_167_47 : look 167 47 = some (.bipush 100, 2, 0, 0, 0, 0) := by decide +kernel
theorem l_167_49 : look 167 49 = some (.putfield 30, 3, 10, 8, 0, 1509) := by decide +kernel
theorem l_167_52 : look 167 52 = some (.aload_n 0, 1, 0, 0, 0, 0) := by decide +kernel
theorem l_167_53 : look 167 53 = some (.bipush 99, 2, 0, 0, 0, 0) := by decide +kernel
theorem l_167_55 : look 167 55 = some (.putfield 33, 3, 10, 9, 0, 1510) := by decide +kernel
theorem l_167_58 : look 167 58 = some (.aload_n 0, 1, 0, 0, 0, 0) := by decide +kernel
theorem l_167_59 : look 167 59 = some (.bipush 8, 2, 0, 0, 0, 0) := by decide +kernel
theorem l_167_61 : look 167 61 = some (.newarray .boolean, 2, 4, 0, 0, 0) := by decide +kernel
theorem l_167_63 : look 167 63 = some (.putfield 36, 3, 10, 11, 12, 1512) := by decide +kernel
theorem l_167_66 : look 167 66 = some (.aload_n 0, 1, 0, 0, 0, 0) := by decide +kernel
theorem l_167_67 : look 167 67 = some (.bipush 8, 2, 0, 0, 0, 0) := by decide +kernel
theorem l_167_69 : look 167 69 = some (.newarray .int, 2, 1, 0, 0, 0) := by decide +kernel
theorem l_167_71 : look 167 71 = some (.putfield 40, 3, 10, 12, 12, 1513) := by decide +kernel
theorem l_167_74 : look 167 74 = some (.aload_n 0, 1, 0, 0, 0, 0) := by decide +kernel
theorem l_167_75 : look 167 75 = some (.bipush 8, 2, 0, 0, 0, 0) := by decide +kernel
theorem l_167_77 : look 167 77 = some (.newarray .int, 2, 1, 0, 0, 0) := by decide +kernel
theorem l_167_79 : look 167 79 = some (.putfield 43, 3, 10, 13, 12, 1514) := by decide +kernel
theorem l_167_82 : look 167 82 = some (.aload_n 0, 1, 0, 0, 0, 0) := by decide +kernel
theorem l_167_83 : look 167 83 = some (.sipush 900, 3, 0, 0, 0, 0) := by decide +kernel
theorem l_167_86 : look 167 86 = some (.newarray .int, 2, 1, 0, 0, 0) := by decide +kernel
theorem l_167_88 : look 167 88 = some (.putfield 46, 3, 10, 14, 12, 1515) := by decide +kernel
theorem l_167_91 : look 167 91 = some (.aload_n 0, 1, 0, 0, 0, 0) := by decide +kernel
theorem l_167_92 : look 167 92 = some (.sipush 840, 3, 0, 0, 0, 0) := by decide +kernel
theorem l_167_95 : look 167 95 = some (.newarray .int, 2, 1, 0, 0, 0) := by decide +kernel
theorem l_167_97 : look 167 97 = some (.putfield 49, 3, 10, 17, 12, 1518) := by decide +kernel
theorem l_167_100 : look 167 100 = some (.aload_n 0, 1, 0, 0, 0, 0) := by decide +kernel
theorem l_167_101 : look 167 101 = some (.bipush 120, 2, 0, 0, 0, 0) := by decide +kernel
theorem l_167_103 : look 167 103 = some (.newarray .int, 2, 1, 0, 0, 0) := by decide +kernel
theorem l_167_105 : look 167 105 = some (.putfield 52, 3, 10, 18, 12, 1519) := by decide +kernel
theorem l_167_108 : look 167 108 = some (.aload_n 0, 1, 0, 0, 0, 0) := by decide +kernel
theorem l_167_109 : look 167 109 = some (.sipush 600, 3, 0, 0, 0, 0) := by decide +kernel
theorem l_167_112 : look 167 112 = some (.newarray .byte, 2, 3, 0, 0, 0) := by decide +kernel
theorem l_167_114 : look 167 114 = some (.putfield 55, 3, 10, 19, 12, 1520) := by decide +kernel
theorem l_167_117 : look 167 117 = some (.aload_n 0, 1, 0, 0, 0, 0) := by decide +kernel
theorem l_167_118 : look 167 118 = some (.iconst (-1), 1, 0, 0, 0, 0) := by decide +kernel
theorem l_167_119 : look 167 119 = some (.putfield 59, 3, 10, 23, 0, 1524) := by decide +kernel
theorem l_167_122 : look 167 122 = some (.aload_n 0, 1, 0, 0, 0, 0) := by decide +kernel
theorem l_167_123 : look 167 123 = some (.iconst 4, 1, 0, 0, 0, 0) := by decide +kernel
theorem l_167_124 : look 167 124 = some (.newarray .long, 2, 2, 0, 0, 0) := by decide +kernel
theorem l_167_126 : look 167 126 = some (.putfield 62, 3, 10, 26, 12, 1527) := by decide +kernel
theorem l_167_129 : look 167 129 = some (.aload_n 0, 1, 0, 0, 0, 0) := by decide +kernel
theorem l_167_130 : look 167 130 = some (.iconst 4, 1, 0, 0, 0, 0) := by decide +kernel
theorem l_167_131 : look 167 131 = some (.newarray .int, 2, 1, 0, 0, 0) := by decide +kernel
theorem l_167_133 : look 167 133 = some (.putfield 65, 3, 10, 27, 12, 1528) := by decide +kernel
theorem l_167_136 : look 167 136 = some (.aload_n 0, 1, 0, 0, 0, 0) := by decide +kernel
theorem l_167_137 : look 167 137 = some (.iconst 4, 1, 0, 0, 0, 0) := by decide +kernel
theorem l_167_138 : look 167 138 = some (.newarray .int, 2, 1, 0, 0, 0) := by decide +kernel
theorem l_167_140 : look 167 140 = some (.putfield 68, 3, 10, 28, 12, 1529) := by decide +kernel
theorem l_167_143 : look 167 143 = some (.aload_n 0, 1, 0, 0, 0, 0) := by decide +kernel
theorem l_167_144 : look 167 144 = some (.iconst 4, 1, 0, 0, 0, 0) := by decide +kernel
theorem l_167_145 : look 167 145 = some (.newarray .int, 2, 1, 0, 0, 0) := by decide +kernel
theorem l_167_147 : look 167 147 = some (.putfield 71, 3, 10, 29, 12, 1530) := by decide +kernel
theorem l_167_150 : look 167 150 = some (.aload_n 0, 1, 0, 0, 0, 0) := by decide +kernel
theorem l_167_151 : look 167 151 = some (.iconst 4, 1, 0, 0, 0, 0) := by decide +kernel
theorem l_167_152 : look 167 152 = some (.newarray .int, 2, 1, 0, 0, 0) := by decide +kernel
theorem l_167_154 : look 167 154 = some (.putfield 74, 3, 10, 30, 12, 1531) := by decide +kernel
theorem l_167_157 : look 167 157 = some (.aload_n 0, 1, 0, 0, 0, 0) := by decide +kernel
theorem l_167_158 : look 167 158 = some (.bipush 8, 2, 0, 0, 0, 0) := by decide +kernel
theorem l_167_160 : look 167 160 = some (.newarray .boolean, 2, 4, 0, 0, 0) := by decide +kernel
theorem l_167_162 : look 167 162 = some (.putfield 77, 3, 10, 35, 12, 1536) := by decide +kernel
theorem l_167_165 : look 167 165 = some (.aload_n 0, 1, 0, 0, 0, 0) := by decide +kernel
theorem l_167_166 : look 167 166 = some (.bipush 8, 2, 0, 0, 0, 0) := by decide +kernel
theorem l_167_168 : look 167 168 = some (.newarray .int, 2, 1, 0, 0, 0) := by decide +kernel
theorem l_167_170 : look 167 170 = some (.putfield 80, 3, 10, 36, 12, 1537) := by decide +kernel
theorem l_167_173 : look 167 173 = some (.aload_n 0, 1, 0, 0, 0, 0) := by decide +kernel
theorem l_167_174 : look 167 174 = some (.bipush 8, 2, 0, 0, 0, 0) := by decide +kernel
theorem l_167_176 : look 167 176 = some (.newarray .int, 2, 1, 0, 0, 0) := by decide +kernel
theorem l_167_178 : look 167 178 = some (.putfield 83, 3, 10, 37, 12, 1538) := by decide +kernel
theorem l_167_181 : look 167 181 = some (.aload_n 0, 1, 0, 0, 0, 0) := by decide +kernel
theorem l_167_182 : look 167 182 = some (.sipush 900, 3, 0, 0, 0, 0) := by decide +kernel
theorem l_167_185 : look 167 185 = some (.newarray .int, 2, 1, 0, 0, 0) := by decide +kernel
theorem l_167_187 : look 167 187 = some (.putfield 86, 3, 10, 38, 12, 1539) := by decide +kernel
theorem l_167_190 : look 167 190 = some (.aload_n 0, 1, 0, 0, 0, 0) := by decide +kernel
theorem l_167_191 : look 167 191 = some (.sipush 300, 3, 0, 0, 0, 0) := by decide +kernel
theorem l_167_194 : look 167 194 = some (.newarray .int, 2, 1, 0, 0, 0) := by decide +kernel
theorem l_167_196 : look 167 196 = some (.putfield 89, 3, 10, 40, 12, 1541) := by decide +kernel
theorem l_167_199 : look 167 199 = some (.aload_n 0, 1, 0, 0, 0, 0) := by decide +kernel
theorem l_167_200 : look 167 200 = some (.iconst 4, 1, 0, 0, 0, 0) := by decide +kernel
theorem l_167_201 : look 167 201 = some (.newarray .int, 2, 1, 0, 0, 0) := by decide +kernel
theorem l_167_203 : look 167 203 = some (.dup, 1, 0, 0, 0, 0) := by decide +kernel
theorem l_167_204 : look 167 204 = some (.iconst 0, 1, 0, 0, 0, 0) := by decide +kernel
theorem l_167_205 : look 167 205 = some (.iconst (-1), 1, 0, 0, 0, 0) := by decide +kernel
theorem l_167_206 : look 167 206 = some (.iastore, 1, 0, 0, 0, 0) := by decide +kernel
theorem l_167_207 : look 167 207 = some (.dup, 1, 0, 0, 0, 0) := by decide +kernel
theorem l_167_208 : look 167 208 = some (.iconst 1, 1, 0, 0, 0, 0) := by decide +kernel
theorem l_167_209 : look 167 209 = some (.iconst (-1), 1, 0, 0, 0, 0) := by decide +kernel
theorem l_167_210 : look 167 210 = some (.iastore, 1, 0, 0, 0, 0) := by decide +kernel
theorem l_167_211 : look 167 211 = some (.dup, 1, 0, 0, 0, 0) := by decide +kernel
theorem l_167_212 : look 167 212 = some (.iconst 2, 1, 0, 0, 0, 0) := by decide +kernel
theorem l_167_213 : look 167 213 = some (.iconst (-1), 1, 0, 0, 0, 0) := by decide +kernel
theorem l_167_214 : look 167 214 = some (.iastore, 1, 0, 0, 0, 0) := by decide +kernel
theorem l_167_215 : look 167 215 = some (.dup, 1, 0, 0, 0, 0) := by decide +kernel
theorem l_167_216 : look 167 216 = some (.iconst 3, 1, 0, 0, 0, 0) := by decide +kernel
theorem l_167_217 : look 167 217 = some (.iconst (-1), 1, 0, 0, 0, 0) := by decide +kernel
theorem l_167_218 : look 167 218 = some (.iastore, 1, 0, 0, 0, 0) := by decide +kernel
theorem l_167_219 : look 167 219 = some (.putfield 92, 3, 10, 43, 12, 1544) := by decide +kernel
theorem l_167_222 : look 167 222 = some (.aload_n 0, 1, 0, 0, 0, 0) := by decide +kernel
theorem l_167_223 : look 167 223 = some (.iconst (-1), 1, 0, 0, 0, 0) := by decide +kernel
theorem l_167_224 : look 167 224 = some (.putfield 95, 3, 10, 44, 0, 1545) := by decide +kernel
theorem l_167_227 : look 167 227 = some (.aload_n 0, 1, 0, 0, 0, 0) := by decide +kernel
theorem l_167_228 : look 167 228 = some (.iconst (-1), 1, 0, 0, 0, 0) := by decide +kernel
theorem l_167_229 : look 167 229 = some (.putfield 98, 3, 10, 45, 0, 1546) := by decide +kernel
theorem l_167_232 : look 167 232 = some (.aload_n 0, 1, 0, 0, 0, 0) := by decide +kernel
theorem l_167_233 : look 167 233 = some (.iconst (-1), 1, 0, 0, 0, 0) := by decide +kernel
theorem l_167_234 : look 167 234 = some (.putfield 101, 3, 10, 46, 0, 1547) := by decide +kernel
theorem l_167_237 : look 167 237 = some (.aload_n 0, 1, 0, 0, 0, 0) := by decide +kernel
theorem l_167_238 : look 167 238 = some (.bipush 120, 2, 0, 0, 0, 0) := by decide +kernel
theorem l_167_240 : look 167 240 = some (.newarray .boolean, 2, 4, 0, 0, 0) := by decide +kernel
theorem l_167_242 : look 167 242 = some (.putfield 104, 3, 10, 48, 12, 1549) := by decide +kernel
theorem l_167_245 : look 167 245 = some (.aload_n 0, 1, 0, 0, 0, 0) := by decide +kernel
theorem l_167_246 : look 167 246 = some (.iconst 4, 1, 0, 0, 0, 0) := by decide +kernel
theorem l_167_247 : look 167 247 = some (.newarray .int, 2, 1, 0, 0, 0) := by decide +kernel
theorem l_167_249 : look 167 249 = some (.putfield 107, 3, 10, 49, 12, 1550) := by decide +kernel
theorem l_167_252 : look 167 252 = some (.aload_n 0, 1, 0, 0, 0, 0) := by decide +kernel
theorem l_167_253 : look 167 253 = some (.bipush 120, 2, 0, 0, 0, 0) := by decide +kernel
theorem l_167_255 : look 167 255 = some (.newarray .boolean, 2, 4, 0, 0, 0) := by decide +kernel
theorem l_167_257 : look 167 257 = some (.putfield 110, 3, 10, 54, 12, 1555) := by decide +kernel
theorem l_167_260 : look 167 260 = some (.aload_n 0, 1, 0, 0, 0, 0) := by decide +kernel
theorem l_167_261 : look 167 261 = some (.iconst 4, 1, 0, 0, 0, 0) := by decide +kernel
theorem l_167_262 : look 167 262 = some (.newarray .boolean, 2, 4, 0, 0, 0) := by decide +kernel
theorem l_167_264 : look 167 264 = some (.putfield 113, 3, 10, 56, 12, 1557) := by decide +kernel
theorem l_167_267 : look 167 267 = some (.aload_n 0, 1, 0, 0, 0, 0) := by decide +kernel
theorem l_167_268 : look 167 268 = some (.sipush 400, 3, 0, 0, 0, 0) := by decide +kernel
theorem l_167_271 : look 167 271 = some (.newarray .int, 2, 1, 0, 0, 0) := by decide +kernel
theorem l_167_273 : look 167 273 = some (.putfield 116, 3, 10, 57, 12, 1558) := by decide +kernel
theorem l_167_276 : look 167 276 = some (.aload_n 0, 1, 0, 0, 0, 0) := by decide +kernel
theorem l_167_277 : look 167 277 = some (.sipush 400, 3, 0, 0, 0, 0) := by decide +kernel
theorem l_167_280 : look 167 280 = some (.newarray .int, 2, 1, 0, 0, 0) := by decide +kernel
theorem l_167_282 : look 167 282 = some (.putfield 119, 3, 10, 58, 12, 1559) := by decide +kernel
theorem l_167_285 : look 167 285 = some (.aload_n 0, 1, 0, 0, 0, 0) := by decide +kernel
theorem l_167_286 : look 167 286 = some (.iconst 4, 1, 0, 0, 0, 0) := by decide +kernel
theorem l_167_287 : look 167 287 = some (.newarray .int, 2, 1, 0, 0, 0) := by decide +kernel
theorem l_167_289 : look 167 289 = some (.putfield 122, 3, 10, 59, 12, 1560) := by decide +kernel
theorem l_167_292 : look 167 292 = some (.aload_n 0, 1, 0, 0, 0, 0) := by decide +kernel
theorem l_167_293 : look 167 293 = some (.iconst 4, 1, 0, 0, 0, 0) := by decide +kernel
theorem l_167_294 : look 167 294 = some (.newarray .int, 2, 1, 0, 0, 0) := by decide +kernel
theorem l_167_296 : look 167 296 = some (.putfield 125, 3, 10, 60, 12, 1561) := by decide +kernel
theorem l_167_299 : look 167 299 = some (.aload_n 0, 1, 0, 0, 0, 0) := by decide +kernel
theorem l_167_300 : look 167 300 = some (.bipush 64, 2, 0, 0, 0, 0) := by decide +kernel
theorem l_167_302 : look 167 302 = some (.newarray .int, 2, 1, 0, 0, 0) := by decide +kernel
theorem l_167_304 : look 167 304 = some (.putfield 128, 3, 10, 61, 12, 1562) := by decide +kernel
theorem l_167_307 : look 167 307 = some (.aload_n 0, 1, 0, 0, 0, 0) := by decide +kernel
theorem l_167_308 : look 167 308 = some (.bipush 64, 2, 0, 0, 0, 0) := by decide +kernel
theorem l_167_310 : look 167 310 = some (.newarray .int, 2, 1, 0, 0, 0) := by decide +kernel
theorem l_167_312 : look 167 312 = some (.putfield 131, 3, 10, 62, 12, 1563) := by decide +kernel
theorem l_167_315 : look 167 315 = some (.aload_n 0, 1, 0, 0, 0, 0) := by decide +kernel
theorem l_167_316 : look 167 316 = some (.sipush 480, 3, 0, 0, 0, 0) := by decide +kernel
theorem l_167_319 : look 167 319 = some (.newarray .int, 2, 1, 0, 0, 0) := by decide +kernel
theorem l_167_321 : look 167 321 = some (.putfield 134, 3, 10, 63, 12, 1564) := by decide +kernel
theorem l_167_324 : look 167 324 = some (.aload_n 0, 1, 0, 0, 0, 0) := by decide +kernel
theorem l_167_325 : look 167 325 = some (.iconst 4, 1, 0, 0, 0, 0) := by decide +kernel
theorem l_167_326 : look 167 326 = some (.newarray .int, 2, 1, 0, 0, 0) := by decide +kernel
theorem l_167_328 : look 167 328 = some (.putfield 137, 3, 10, 64, 12, 1565) := by decide +kernel
theorem l_167_331 : look 167 331 = some (.aload_n 0, 1, 0, 0, 0, 0) := by decide +kernel
theorem l_167_332 : look 167 332 = some (.sipush 2000, 3, 0, 0, 0, 0) := by decide +kernel
theorem l_167_335 : look 167 335 = some (.newarray .int, 2, 1, 0, 0, 0) := by decide +kernel
theorem l_167_337 : look 167 337 = some (.putfield 140, 3, 10, 65, 12, 1566) := by decide +kernel
theorem l_167_340 : look 167 340 = some (.aload_n 0, 1, 0, 0, 0, 0) := by decide +kernel
theorem l_167_341 : look 167 341 = some (.sipush 300, 3, 0, 0, 0, 0) := by decide +kernel
theorem l_167_344 : look 167 344 = some (.newarray .boolean, 2, 4, 0, 0, 0) := by decide +kernel
theorem l_167_346 : look 167 346 = some (.putfield 143, 3, 10, 70, 12, 1571) := by decide +kernel
theorem l_167_349 : look 167 349 = some (.aload_n 0, 1, 0, 0, 0, 0) := by decide +kernel
theorem l_167_350 : look 167 350 = some (.sipush 600, 3, 0, 0, 0, 0) := by decide +kernel
theorem l_167_353 : look 167 353 = some (.newarray .boolean, 2, 4, 0, 0, 0) := by decide +kernel
theorem l_167_355 : look 167 355 = some (.putfield 146, 3, 10, 71, 12, 1572) := by decide +kernel
theorem l_167_358 : look 167 358 = some (.aload_n 0, 1, 0, 0, 0, 0) := by decide +kernel
theorem l_167_359 : look 167 359 = some (.sipush 900, 3, 0, 0, 0, 0) := by decide +kernel
theorem l_167_362 : look 167 362 = some (.newarray .int, 2, 1, 0, 0, 0) := by decide +kernel
theorem l_167_364 : look 167 364 = some (.putfield 149, 3, 10, 74, 12, 1575) := by decide +kernel
theorem l_167_367 : look 167 367 = some (.return_, 1, 0, 0, 0, 0) := by decide +kernel

theorem nc_167 (hs : S[o]? = some (0, 10)) (hL : S.length = o + 1) (hc : 39 ≤ cc) (hz : 9220 ≤ zz) : CL xs 167 [vr o] (S, I, T, cc, zz) (NX S o [(2, 4), (1, 4), (1, 4), (1, 4), (1, 4), (4, 8), (1, 8), (1, 8), (1, 900), (1, 840), (1, 120), (3, 600), (2, 4), (1, 4), (1, 4), (1, 4), (1, 4), (4, 8), (1, 8), (1, 8), (1, 900), (1, 300), (1, 4), (4, 120), (1, 4), (4, 120), (4, 4), (1, 400), (1, 400), (1, 4), (1, 4), (1, 64), (1, 64), (1, 480), (1, 4), (1, 2000), (4, 300), (4, 600), (1, 900)] 39 9220 I T cc zz (fun I' T' => oModel (S ++ [(2, 4), (1, 4), (1, 4), (1, 4), (1, 4), (4, 8), (1, 8), (1, 8), (1, 900), (1, 840), (1, 120), (3, 600), (2, 4), (1, 4), (1, 4), (1, 4), (1, 4), (4, 8), (1, 8), (1, 8), (1, 900), (1, 300), (1, 4), (4, 120), (1, 4), (4, 120), (4, 4), (1, 400), (1, 400), (1, 4), (1, 4), (1, 64), (1, 64), (1, 480), (1, 4), (1, 2000), (4, 300), (4, 600), (1, 900)]) T' o ∧ (I' o 7 = 400 ∧ I' o 8 = 100 ∧ I' o 9 = 99 ∧ I' o 23 = -1 ∧ I' o 44 = -1 ∧ I' o 45 = -1 ∧ I' o 46 = -1) ∧ (∀ w, (w ≠ 7 ∧ w ≠ 8 ∧ w ≠ 9 ∧ w ≠ 23 ∧ w ≠ 44 ∧ w ≠ 45 ∧ w ≠ 46) → I' o w = I o w) ∧ (∀ z w, o < z → z ≤ o + 39 → z ≠ o + 23 → I' z w = 0) ∧ ∀ p, p < 4 → I' (o + 23) p = -1)) := by
  refine CL_start (r := 0) (ls := [vr o]) (rk_167 _) rfl ?_
  refine w_aln l_167_0 rfl ?_
  refine w_oi l_167_1 (Nat.le_of_ble_eq_true rfl) ?_
  refine w_aln l_167_4 rfl ?_
  refine w_ic l_167_5 (by decide) ?_
  refine w_na (n := 4) l_167_6 (fun _ _ _ _ => rfl) (by omega) (by omega) (by decide) ?_
  rw [hL]
  refine w_pR l_167_8 (ap_l hs) (by decide) ?_
  refine w_aln l_167_11 rfl ?_
  refine w_ic l_167_12 (by decide) ?_
  refine w_na (n := 4) l_167_13 (fun _ _ _ _ => rfl) (by omega) (by omega) (by decide) ?_
  rw [show List.length (α := Nat × Nat) (S ++ [(2, 4)]) = o + 2 from (by simp only [List.length_append, List.length_cons, List.length_nil]; omega), show (S ++ [(2, 4)] ++ [(1, 4)] : List (Nat × Nat)) = S ++ [(2, 4), (1, 4)] from (by simp only [List.append_assoc, List.cons_append, List.nil_append])]
  refine w_pR l_167_15 (ap_l hs) (by decide) ?_
  refine w_aln l_167_18 rfl ?_
  refine w_ic l_167_19 (by decide) ?_
  refine w_na (n := 4) l_167_20 (fun _ _ _ _ => rfl) (by omega) (by omega) (by decide) ?_
  rw [show List.length (α := Nat × Nat) (S ++ [(2, 4), (1, 4)]) = o + 3 from (by simp only [List.length_append, List.length_cons, List.length_nil]; omega), show (S ++ [(2, 4), (1, 4)] ++ [(1, 4)] : List (Nat × Nat)) = S ++ [(2, 4), (1, 4), (1, 4)] from (by simp only [List.append_assoc, List.cons_append, List.nil_append])]
  refine w_pR l_167_22 (ap_l hs) (by decide) ?_
  refine w_aln l_167_25 rfl ?_
  refine w_ic l_167_26 (by decide) ?_
  refine w_na (n := 4) l_167_27 (fun _ _ _ _ => rfl) (by omega) (by omega) (by decide) ?_
  rw [show List.length (α := Nat × Nat) (S ++ [(2, 4), (1, 4), (1, 4)]) = o + 4 from (by simp only [List.length_append, List.length_cons, List.length_nil]; omega), show (S ++ [(2, 4), (1, 4), (1, 4)] ++ [(1, 4)] : List (Nat × Nat)) = S ++ [(2, 4), (1, 4), (1, 4), (1, 4)] from (by simp only [List.append_assoc, List.cons_append, List.nil_append])]
  refine w_pR l_167_29 (ap_l hs) (by decide) ?_
  refine w_aln l_167_32 rfl ?_
  refine w_ic l_167_33 (by decide) ?_
  refine w_na (n := 4) l_167_34 (fun _ _ _ _ => rfl) (by omega) (by omega) (by decide) ?_
  rw [show List.length (α := Nat × Nat) (S ++ [(2, 4), (1, 4), (1, 4), (1, 4)]) = o + 5 from (by simp only [List.length_append, List.length_cons, List.length_nil]; omega), show (S ++ [(2, 4), (1, 4), (1, 4), (1, 4)] ++ [(1, 4)] : List (Nat × Nat)) = S ++ [(2, 4), (1, 4), (1, 4), (1, 4), (1, 4)] from (by simp only [List.append_assoc, List.cons_append, List.nil_append])]
  refine w_pR l_167_36 (ap_l hs) (by decide) ?_
  refine w_aln l_167_39 rfl ?_
  refine w_sp l_167_40 (by decide) ?_
  refine w_pi l_167_43 (ap_l hs) ?_
  refine w_aln l_167_46 rfl ?_
  refine w_bp l_167_47 (by decide) ?_
  refine w_pi l_167_49 (ap_l hs) ?_
  refine w_aln l_167_52 rfl ?_
  refine w_bp l_167_53 (by decide) ?_
  refine w_pi l_167_55 (ap_l hs) ?_
  refine w_aln l_167_58 rfl ?_
  refine w_bp l_167_59 (by decide) ?_
  refine w_na (n := 8) l_167_61 (fun _ _ _ _ => rfl) (by omega) (by omega) (by decide) ?_
  rw [show List.length (α := Nat × Nat) (S ++ [(2, 4), (1, 4), (1, 4), (1, 4), (1, 4)]) = o + 6 from (by simp only [List.length_append, List.length_cons, List.length_nil]; omega), show (S ++ [(2, 4), (1, 4), (1, 4), (1, 4), (1, 4)] ++ [(4, 8)] : List (Nat × Nat)) = S ++ [(2, 4), (1, 4), (1, 4), (1, 4), (1, 4), (4, 8)] from (by simp only [List.append_assoc, List.cons_append, List.nil_append])]
  refine w_pR l_167_63 (ap_l hs) (by decide) ?_
  refine w_aln l_167_66 rfl ?_
  refine w_bp l_167_67 (by decide) ?_
  refine w_na (n := 8) l_167_69 (fun _ _ _ _ => rfl) (by omega) (by omega) (by decide) ?_
  rw [show List.length (α := Nat × Nat) (S ++ [(2, 4), (1, 4), (1, 4), (1, 4), (1, 4), (4, 8)]) = o + 7 from (by simp only [List.length_append, List.length_cons, List.length_nil]; omega), show (S ++ [(2, 4), (1, 4), (1, 4), (1, 4), (1, 4), (4, 8)] ++ [(1, 8)] : List (Nat × Nat)) = S ++ [(2, 4), (1, 4), (1, 4), (1, 4), (1, 4), (4, 8), (1, 8)] from (by simp only [List.append_assoc, List.cons_append, List.nil_append])]
  refine w_pR l_167_71 (ap_l hs) (by decide) ?_
  refine w_aln l_167_74 rfl ?_
  refine w_bp l_167_75 (by decide) ?_
  refine w_na (n := 8) l_167_77 (fun _ _ _ _ => rfl) (by omega) (by omega) (by decide) ?_
  rw [show List.length (α := Nat × Nat) (S ++ [(2, 4), (1, 4), (1, 4), (1, 4), (1, 4), (4, 8), (1, 8)]) = o + 8 from (by simp only [List.length_append, List.length_cons, List.length_nil]; omega), show (S ++ [(2, 4), (1, 4), (1, 4), (1, 4), (1, 4), (4, 8), (1, 8)] ++ [(1, 8)] : List (Nat × Nat)) = S ++ [(2, 4), (1, 4), (1, 4), (1, 4), (1, 4), (4, 8), (1, 8), (1, 8)] from (by simp only [List.append_assoc, List.cons_append, List.nil_append])]
  refine w_pR l_167_79 (ap_l hs) (by decide) ?_
  refine w_aln l_167_82 rfl ?_
  refine w_sp l_167_83 (by decide) ?_
  refine w_na (n := 900) l_167_86 (fun _ _ _ _ => rfl) (by omega) (by omega) (by decide) ?_
  rw [show List.length (α := Nat × Nat) (S ++ [(2, 4), (1, 4), (1, 4), (1, 4), (1, 4), (4, 8), (1, 8), (1, 8)]) = o + 9 from (by simp only [List.length_append, List.length_cons, List.length_nil]; omega), show (S ++ [(2, 4), (1, 4), (1, 4), (1, 4), (1, 4), (4, 8), (1, 8), (1, 8)] ++ [(1, 900)] : List (Nat × Nat)) = S ++ [(2, 4), (1, 4), (1, 4), (1, 4), (1, 4), (4, 8), (1, 8), (1, 8), (1, 900)] from (by simp only [List.append_assoc, List.cons_append, List.nil_append])]
  refine w_pR l_167_88 (ap_l hs) (by decide) ?_
  refine w_aln l_167_91 rfl ?_
  refine w_sp l_167_92 (by decide) ?_
  refine w_na (n := 840) l_167_95 (fun _ _ _ _ => rfl) (by omega) (by omega) (by decide) ?_
  rw [show List.length (α := Nat × Nat) (S ++ [(2, 4), (1, 4), (1, 4), (1, 4), (1, 4), (4, 8), (1, 8), (1, 8), (1, 900)]) = o + 10 from (by simp only [List.length_append, List.length_cons, List.length_nil]; omega), show (S ++ [(2, 4), (1, 4), (1, 4), (1, 4), (1, 4), (4, 8), (1, 8), (1, 8), (1, 900)] ++ [(1, 840)] : List (Nat × Nat)) = S ++ [(2, 4), (1, 4), (1, 4), (1, 4), (1, 4), (4, 8), (1, 8), (1, 8), (1, 900), (1, 840)] from (by simp only [List.append_assoc, List.cons_append, List.nil_append])]
  refine w_pR l_167_97 (ap_l hs) (by decide) ?_
  refine w_aln l_167_100 rfl ?_
  refine w_bp l_167_101 (by decide) ?_
  refine w_na (n := 120) l_167_103 (fun _ _ _ _ => rfl) (by omega) (by omega) (by decide) ?_
  rw [show List.length (α := Nat × Nat) (S ++ [(2, 4), (1, 4), (1, 4), (1, 4), (1, 4), (4, 8), (1, 8), (1, 8), (1, 900), (1, 840)]) = o + 11 from (by simp only [List.length_append, List.length_cons, List.length_nil]; omega), show (S ++ [(2, 4), (1, 4), (1, 4), (1, 4), (1, 4), (4, 8), (1, 8), (1, 8), (1, 900), (1, 840)] ++ [(1, 120)] : List (Nat × Nat)) = S ++ [(2, 4), (1, 4), (1, 4), (1, 4), (1, 4), (4, 8), (1, 8), (1, 8), (1, 900), (1, 840), (1, 120)] from (by simp only [List.append_assoc, List.cons_append, List.nil_append])]
  refine w_pR l_167_105 (ap_l hs) (by decide) ?_
  refine w_aln l_167_108 rfl ?_
  refine w_sp l_167_109 (by decide) ?_
  refine w_na (n := 600) l_167_112 (fun _ _ _ _ => rfl) (by omega) (by omega) (by decide) ?_
  rw [show List.length (α := Nat × Nat) (S ++ [(2, 4), (1, 4), (1, 4), (1, 4), (1, 4), (4, 8), (1, 8), (1, 8), (1, 900), (1, 840), (1, 120)]) = o + 12 from (by simp only [List.length_append, List.length_cons, List.length_nil]; omega), show (S ++ [(2, 4), (1, 4), (1, 4), (1, 4), (1, 4), (4, 8), (1, 8), (1, 8), (1, 900), (1, 840), (1, 120)] ++ [(3, 600)] : List (Nat × Nat)) = S ++ [(2, 4), (1, 4), (1, 4), (1, 4), (1, 4), (4, 8), (1, 8), (1, 8), (1, 900), (1, 840), (1, 120), (3, 600)] from (by simp only [List.append_assoc, List.cons_append, List.nil_append])]
  refine w_pR l_167_114 (ap_l hs) (by decide) ?_
  refine w_aln l_167_117 rfl ?_
  refine w_ic l_167_118 (by decide) ?_
  refine w_pi l_167_119 (ap_l hs) ?_
  refine w_aln l_167_122 rfl ?_
  refine w_ic l_167_123 (by decide) ?_
  refine w_na (n := 4) l_167_124 (fun _ _ _ _ => rfl) (by omega) (by omega) (by decide) ?_
  rw [show List.length (α := Nat × Nat) (S ++ [(2, 4), (1, 4), (1, 4), (1, 4), (1, 4), (4, 8), (1, 8), (1, 8), (1, 900), (1, 840), (1, 120), (3, 600)]) = o + 13 from (by simp only [List.length_append, List.length_cons, List.length_nil]; omega), show (S ++ [(2, 4), (1, 4), (1, 4), (1, 4), (1, 4), (4, 8), (1, 8), (1, 8), (1, 900), (1, 840), (1, 120), (3, 600)] ++ [(2, 4)] : List (Nat × Nat)) = S ++ [(2, 4), (1, 4), (1, 4), (1, 4), (1, 4), (4, 8), (1, 8), (1, 8), (1, 900), (1, 840), (1, 120), (3, 600), (2, 4)] from (by simp only [List.append_assoc, List.cons_append, List.nil_append])]
  refine w_pR l_167_126 (ap_l hs) (by decide) ?_
  refine w_aln l_167_129 rfl ?_
  refine w_ic l_167_130 (by decide) ?_
  refine w_na (n := 4) l_167_131 (fun _ _ _ _ => rfl) (by omega) (by omega) (by decide) ?_
  rw [show List.length (α := Nat × Nat) (S ++ [(2, 4), (1, 4), (1, 4), (1, 4), (1, 4), (4, 8), (1, 8), (1, 8), (1, 900), (1, 840), (1, 120), (3, 600), (2, 4)]) = o + 14 from (by simp only [List.length_append, List.length_cons, List.length_nil]; omega), show (S ++ [(2, 4), (1, 4), (1, 4), (1, 4), (1, 4), (4, 8), (1, 8), (1, 8), (1, 900), (1, 840), (1, 120), (3, 600), (2, 4)] ++ [(1, 4)] : List (Nat × Nat)) = S ++ [(2, 4), (1, 4), (1, 4), (1, 4), (1, 4), (4, 8), (1, 8), (1, 8), (1, 900), (1, 840), (1, 120), (3, 600), (2, 4), (1, 4)] from (by simp only [List.append_assoc, List.cons_append, List.nil_append])]
  refine w_pR l_167_133 (ap_l hs) (by decide) ?_
  refine w_aln l_167_136 rfl ?_
  refine w_ic l_167_137 (by decide) ?_
  refine w_na (n := 4) l_167_138 (fun _ _ _ _ => rfl) (by omega) (by omega) (by decide) ?_
  rw [show List.length (α := Nat × Nat) (S ++ [(2, 4), (1, 4), (1, 4), (1, 4), (1, 4), (4, 8), (1, 8), (1, 8), (1, 900), (1, 840), (1, 120), (3, 600), (2, 4), (1, 4)]) = o + 15 from (by simp only [List.length_append, List.length_cons, List.length_nil]; omega), show (S ++ [(2, 4), (1, 4), (1, 4), (1, 4), (1, 4), (4, 8), (1, 8), (1, 8), (1, 900), (1, 840), (1, 120), (3, 600), (2, 4), (1, 4)] ++ [(1, 4)] : List (Nat × Nat)) = S ++ [(2, 4), (1, 4), (1, 4), (1, 4), (1, 4), (4, 8), (1, 8), (1, 8), (1, 900), (1, 840), (1, 120), (3, 600), (2, 4), (1, 4), (1, 4)] from (by simp only [List.append_assoc, List.cons_append, List.nil_append])]
  refine w_pR l_167_140 (ap_l hs) (by decide) ?_
  refine w_aln l_167_143 rfl ?_
  refine w_ic l_167_144 (by decide) ?_
  refine w_na (n := 4) l_167_145 (fun _ _ _ _ => rfl) (by omega) (by omega) (by decide) ?_
  rw [show List.length (α := Nat × Nat) (S ++ [(2, 4), (1, 4), (1, 4), (1, 4), (1, 4), (4, 8), (1, 8), (1, 8), (1, 900), (1, 840), (1, 120), (3, 600), (2, 4), (1, 4), (1, 4)]) = o + 16 from (by simp only [List.length_append, List.length_cons, List.length_nil]; omega), show (S ++ [(2, 4), (1, 4), (1, 4), (1, 4), (1, 4), (4, 8), (1, 8), (1, 8), (1, 900), (1, 840), (1, 120), (3, 600), (2, 4), (1, 4), (1, 4)] ++ [(1, 4)] : List (Nat × Nat)) = S ++ [(2, 4), (1, 4), (1, 4), (1, 4), (1, 4), (4, 8), (1, 8), (1, 8), (1, 900), (1, 840), (1, 120), (3, 600), (2, 4), (1, 4), (1, 4), (1, 4)] from (by simp only [List.append_assoc, List.cons_append, List.nil_append])]
  refine w_pR l_167_147 (ap_l hs) (by decide) ?_
  refine w_aln l_167_150 rfl ?_
  refine w_ic l_167_151 (by decide) ?_
  refine w_na (n := 4) l_167_152 (fun _ _ _ _ => rfl) (by omega) (by omega) (by decide) ?_
  rw [show List.length (α := Nat × Nat) (S ++ [(2, 4), (1, 4), (1, 4), (1, 4), (1, 4), (4, 8), (1, 8), (1, 8), (1, 900), (1, 840), (1, 120), (3, 600), (2, 4), (1, 4), (1, 4), (1, 4)]) = o + 17 from (by simp only [List.length_append, List.length_cons, List.length_nil]; omega), show (S ++ [(2, 4), (1, 4), (1, 4), (1, 4), (1, 4), (4, 8), (1, 8), (1, 8), (1, 900), (1, 840), (1, 120), (3, 600), (2, 4), (1, 4), (1, 4), (1, 4)] ++ [(1, 4)] : List (Nat × Nat)) = S ++ [(2, 4), (1, 4), (1, 4), (1, 4), (1, 4), (4, 8), (1, 8), (1, 8), (1, 900), (1, 840), (1, 120), (3, 600), (2, 4), (1, 4), (1, 4), (1, 4), (1, 4)] from (by simp only [List.append_assoc, List.cons_append, List.nil_append])]
  refine w_pR l_167_154 (ap_l hs) (by decide) ?_
  refine w_aln l_167_157 rfl ?_
  refine w_bp l_167_158 (by decide) ?_
  refine w_na (n := 8) l_167_160 (fun _ _ _ _ => rfl) (by omega) (by omega) (by decide) ?_
  rw [show List.length (α := Nat × Nat) (S ++ [(2, 4), (1, 4), (1, 4), (1, 4), (1, 4), (4, 8), (1, 8), (1, 8), (1, 900), (1, 840), (1, 120), (3, 600), (2, 4), (1, 4), (1, 4), (1, 4), (1, 4)]) = o + 18 from (by simp only [List.length_append, List.length_cons, List.length_nil]; omega), show (S ++ [(2, 4), (1, 4), (1, 4), (1, 4), (1, 4), (4, 8), (1, 8), (1, 8), (1, 900), (1, 840), (1, 120), (3, 600), (2, 4), (1, 4), (1, 4), (1, 4), (1, 4)] ++ [(4, 8)] : List (Nat × Nat)) = S ++ [(2, 4), (1, 4), (1, 4), (1, 4), (1, 4), (4, 8), (1, 8), (1, 8), (1, 900), (1, 840), (1, 120), (3, 600), (2, 4), (1, 4), (1, 4), (1, 4), (1, 4), (4, 8)] from (by simp only [List.append_assoc, List.cons_append, List.nil_append])]
  refine w_pR l_167_162 (ap_l hs) (by decide) ?_
  refine w_aln l_167_165 rfl ?_
  refine w_bp l_167_166 (by decide) ?_
  refine w_na (n := 8) l_167_168 (fun _ _ _ _ => rfl) (by omega) (by omega) (by decide) ?_
  rw [show List.length (α := Nat × Nat) (S ++ [(2, 4), (1, 4), (1, 4), (1, 4), (1, 4), (4, 8), (1, 8), (1, 8), (1, 900), (1, 840), (1, 120), (3, 600), (2, 4), (1, 4), (1, 4), (1, 4), (1, 4), (4, 8)]) = o + 19 from (by simp only [List.length_append, List.length_cons, List.length_nil]; omega), show (S ++ [(2, 4), (1, 4), (1, 4), (1, 4), (1, 4), (4, 8), (1, 8), (1, 8), (1, 900), (1, 840), (1, 120), (3, 600), (2, 4), (1, 4), (1, 4), (1, 4), (1, 4), (4, 8)] ++ [(1, 8)] : List (Nat × Nat)) = S ++ [(2, 4), (1, 4), (1, 4), (1, 4), (1, 4), (4, 8), (1, 8), (1, 8), (1, 900), (1, 840), (1, 120), (3, 600), (2, 4), (1, 4), (1, 4), (1, 4), (1, 4), (4, 8), (1, 8)] from (by simp only [List.append_assoc, List.cons_append, List.nil_append])]
  refine w_pR l_167_170 (ap_l hs) (by decide) ?_
  refine w_aln l_167_173 rfl ?_
  refine w_bp l_167_174 (by decide) ?_
  refine w_na (n := 8) l_167_176 (fun _ _ _ _ => rfl) (by omega) (by omega) (by decide) ?_
  rw [show List.length (α := Nat × Nat) (S ++ [(2, 4), (1, 4), (1, 4), (1, 4), (1, 4), (4, 8), (1, 8), (1, 8), (1, 900), (1, 840), (1, 120), (3, 600), (2, 4), (1, 4), (1, 4), (1, 4), (1, 4), (4, 8), (1, 8)]) = o + 20 from (by simp only [List.length_append, List.length_cons, List.length_nil]; omega), show (S ++ [(2, 4), (1, 4), (1, 4), (1, 4), (1, 4), (4, 8), (1, 8), (1, 8), (1, 900), (1, 840), (1, 120), (3, 600), (2, 4), (1, 4), (1, 4), (1, 4), (1, 4), (4, 8), (1, 8)] ++ [(1, 8)] : List (Nat × Nat)) = S ++ [(2, 4), (1, 4), (1, 4), (1, 4), (1, 4), (4, 8), (1, 8), (1, 8), (1, 900), (1, 840), (1, 120), (3, 600), (2, 4), (1, 4), (1, 4), (1, 4), (1, 4), (4, 8), (1, 8), (1, 8)] from (by simp only [List.append_assoc, List.cons_append, List.nil_append])]
  refine w_pR l_167_178 (ap_l hs) (by decide) ?_
  refine w_aln l_167_181 rfl ?_
  refine w_sp l_167_182 (by decide) ?_
  refine w_na (n := 900) l_167_185 (fun _ _ _ _ => rfl) (by omega) (by omega) (by decide) ?_
  rw [show List.length (α := Nat × Nat) (S ++ [(2, 4), (1, 4), (1, 4), (1, 4), (1, 4), (4, 8), (1, 8), (1, 8), (1, 900), (1, 840), (1, 120), (3, 600), (2, 4), (1, 4), (1, 4), (1, 4), (1, 4), (4, 8), (1, 8), (1, 8)]) = o + 21 from (by simp only [List.length_append, List.length_cons, List.length_nil]; omega), show (S ++ [(2, 4), (1, 4), (1, 4), (1, 4), (1, 4), (4, 8), (1, 8), (1, 8), (1, 900), (1, 840), (1, 120), (3, 600), (2, 4), (1, 4), (1, 4), (1, 4), (1, 4), (4, 8), (1, 8), (1, 8)] ++ [(1, 900)] : List (Nat × Nat)) = S ++ [(2, 4), (1, 4), (1, 4), (1, 4), (1, 4), (4, 8), (1, 8), (1, 8), (1, 900), (1, 840), (1, 120), (3, 600), (2, 4), (1, 4), (1, 4), (1, 4), (1, 4), (4, 8), (1, 8), (1, 8), (1, 900)] from (by simp only [List.append_assoc, List.cons_append, List.nil_append])]
  refine w_pR l_167_187 (ap_l hs) (by decide) ?_
  refine w_aln l_167_190 rfl ?_
  refine w_sp l_167_191 (by decide) ?_
  refine w_na (n := 300) l_167_194 (fun _ _ _ _ => rfl) (by omega) (by omega) (by decide) ?_
  rw [show List.length (α := Nat × Nat) (S ++ [(2, 4), (1, 4), (1, 4), (1, 4), (1, 4), (4, 8), (1, 8), (1, 8), (1, 900), (1, 840), (1, 120), (3, 600), (2, 4), (1, 4), (1, 4), (1, 4), (1, 4), (4, 8), (1, 8), (1, 8), (1, 900)]) = o + 22 from (by simp only [List.length_append, List.length_cons, List.length_nil]; omega), show (S ++ [(2, 4), (1, 4), (1, 4), (1, 4), (1, 4), (4, 8), (1, 8), (1, 8), (1, 900), (1, 840), (1, 120), (3, 600), (2, 4), (1, 4), (1, 4), (1, 4), (1, 4), (4, 8), (1, 8), (1, 8), (1, 900)] ++ [(1, 300)] : List (Nat × Nat)) = S ++ [(2, 4), (1, 4), (1, 4), (1, 4), (1, 4), (4, 8), (1, 8), (1, 8), (1, 900), (1, 840), (1, 120), (3, 600), (2, 4), (1, 4), (1, 4), (1, 4), (1, 4), (4, 8), (1, 8), (1, 8), (1, 900), (1, 300)] from (by simp only [List.append_assoc, List.cons_append, List.nil_append])]
  refine w_pR l_167_196 (ap_l hs) (by decide) ?_
  refine w_aln l_167_199 rfl ?_
  refine w_ic l_167_200 (by decide) ?_
  refine w_na (n := 4) l_167_201 (fun _ _ _ _ => rfl) (by omega) (by omega) (by decide) ?_
  rw [show List.length (α := Nat × Nat) (S ++ [(2, 4), (1, 4), (1, 4), (1, 4), (1, 4), (4, 8), (1, 8), (1, 8), (1, 900), (1, 840), (1, 120), (3, 600), (2, 4), (1, 4), (1, 4), (1, 4), (1, 4), (4, 8), (1, 8), (1, 8), (1, 900), (1, 300)]) = o + 23 from (by simp only [List.length_append, List.length_cons, List.length_nil]; omega), show (S ++ [(2, 4), (1, 4), (1, 4), (1, 4), (1, 4), (4, 8), (1, 8), (1, 8), (1, 900), (1, 840), (1, 120), (3, 600), (2, 4), (1, 4), (1, 4), (1, 4), (1, 4), (4, 8), (1, 8), (1, 8), (1, 900), (1, 300)] ++ [(1, 4)] : List (Nat × Nat)) = S ++ [(2, 4), (1, 4), (1, 4), (1, 4), (1, 4), (4, 8), (1, 8), (1, 8), (1, 900), (1, 840), (1, 120), (3, 600), (2, 4), (1, 4), (1, 4), (1, 4), (1, 4), (4, 8), (1, 8), (1, 8), (1, 900), (1, 300), (1, 4)] from (by simp only [List.append_assoc, List.cons_append, List.nil_append])]
  refine w_dup l_167_203 rfl ?_
  refine w_ic l_167_204 (by decide) ?_
  refine w_ic l_167_205 (by decide) ?_
  refine w_iS 0 l_167_206 (by rw [ap_r (j := 22) (by omega)]; rfl) rfl (by decide) ?_
  refine w_dup l_167_207 rfl ?_
  refine w_ic l_167_208 (by decide) ?_
  refine w_ic l_167_209 (by decide) ?_
  refine w_iS 1 l_167_210 (by rw [ap_r (j := 22) (by omega)]; rfl) rfl (by decide) ?_
  refine w_dup l_167_211 rfl ?_
  refine w_ic l_167_212 (by decide) ?_
  refine w_ic l_167_213 (by decide) ?_
  refine w_iS 2 l_167_214 (by rw [ap_r (j := 22) (by omega)]; rfl) rfl (by decide) ?_
  refine w_dup l_167_215 rfl ?_
  refine w_ic l_167_216 (by decide) ?_
  refine w_ic l_167_217 (by decide) ?_
  refine w_iS 3 l_167_218 (by rw [ap_r (j := 22) (by omega)]; rfl) rfl (by decide) ?_
  refine w_pR l_167_219 (ap_l hs) (by decide) ?_
  refine w_aln l_167_222 rfl ?_
  refine w_ic l_167_223 (by decide) ?_
  refine w_pi l_167_224 (ap_l hs) ?_
  refine w_aln l_167_227 rfl ?_
  refine w_ic l_167_228 (by decide) ?_
  refine w_pi l_167_229 (ap_l hs) ?_
  refine w_aln l_167_232 rfl ?_
  refine w_ic l_167_233 (by decide) ?_
  refine w_pi l_167_234 (ap_l hs) ?_
  refine w_aln l_167_237 rfl ?_
  refine w_bp l_167_238 (by decide) ?_
  refine w_na (n := 120) l_167_240 (fun _ _ _ _ => rfl) (by omega) (by omega) (by decide) ?_
  rw [show List.length (α := Nat × Nat) (S ++ [(2, 4), (1, 4), (1, 4), (1, 4), (1, 4), (4, 8), (1, 8), (1, 8), (1, 900), (1, 840), (1, 120), (3, 600), (2, 4), (1, 4), (1, 4), (1, 4), (1, 4), (4, 8), (1, 8), (1, 8), (1, 900), (1, 300), (1, 4)]) = o + 24 from (by simp only [List.length_append, List.length_cons, List.length_nil]; omega), show (S ++ [(2, 4), (1, 4), (1, 4), (1, 4), (1, 4), (4, 8), (1, 8), (1, 8), (1, 900), (1, 840), (1, 120), (3, 600), (2, 4), (1, 4), (1, 4), (1, 4), (1, 4), (4, 8), (1, 8), (1, 8), (1, 900), (1, 300), (1, 4)] ++ [(4, 120)] : List (Nat × Nat)) = S ++ [(2, 4), (1, 4), (1, 4), (1, 4), (1, 4), (4, 8), (1, 8), (1, 8), (1, 900), (1, 840), (1, 120), (3, 600), (2, 4), (1, 4), (1, 4), (1, 4), (1, 4), (4, 8), (1, 8), (1, 8), (1, 900), (1, 300), (1, 4), (4, 120)] from (by simp only [List.append_assoc, List.cons_append, List.nil_append])]
  refine w_pR l_167_242 (ap_l hs) (by decide) ?_
  refine w_aln l_167_245 rfl ?_
  refine w_ic l_167_246 (by decide) ?_
  refine w_na (n := 4) l_167_247 (fun _ _ _ _ => rfl) (by omega) (by omega) (by decide) ?_
  rw [show List.length (α := Nat × Nat) (S ++ [(2, 4), (1, 4), (1, 4), (1, 4), (1, 4), (4, 8), (1, 8), (1, 8), (1, 900), (1, 840), (1, 120), (3, 600), (2, 4), (1, 4), (1, 4), (1, 4), (1, 4), (4, 8), (1, 8), (1, 8), (1, 900), (1, 300), (1, 4), (4, 120)]) = o + 25 from (by simp only [List.length_append, List.length_cons, List.length_nil]; omega), show (S ++ [(2, 4), (1, 4), (1, 4), (1, 4), (1, 4), (4, 8), (1, 8), (1, 8), (1, 900), (1, 840), (1, 120), (3, 600), (2, 4), (1, 4), (1, 4), (1, 4), (1, 4), (4, 8), (1, 8), (1, 8), (1, 900), (1, 300), (1, 4), (4, 120)] ++ [(1, 4)] : List (Nat × Nat)) = S ++ [(2, 4), (1, 4), (1, 4), (1, 4), (1, 4), (4, 8), (1, 8), (1, 8), (1, 900), (1, 840), (1, 120), (3, 600), (2, 4), (1, 4), (1, 4), (1, 4), (1, 4), (4, 8), (1, 8), (1, 8), (1, 900), (1, 300), (1, 4), (4, 120), (1, 4)] from (by simp only [List.append_assoc, List.cons_append, List.nil_append])]
  refine w_pR l_167_249 (ap_l hs) (by decide) ?_
  refine w_aln l_167_252 rfl ?_
  refine w_bp l_167_253 (by decide) ?_
  refine w_na (n := 120) l_167_255 (fun _ _ _ _ => rfl) (by omega) (by omega) (by decide) ?_
  rw [show List.length (α := Nat × Nat) (S ++ [(2, 4), (1, 4), (1, 4), (1, 4), (1, 4), (4, 8), (1, 8), (1, 8), (1, 900), (1, 840), (1, 120), (3, 600), (2, 4), (1, 4), (1, 4), (1, 4), (1, 4), (4, 8), (1, 8), (1, 8), (1, 900), (1, 300), (1, 4), (4, 120), (1, 4)]) = o + 26 from (by simp only [List.length_append, List.length_cons, List.length_nil]; omega), show (S ++ [(2, 4), (1, 4), (1, 4), (1, 4), (1, 4), (4, 8), (1, 8), (1, 8), (1, 900), (1, 840), (1, 120), (3, 600), (2, 4), (1, 4), (1, 4), (1, 4), (1, 4), (4, 8), (1, 8), (1, 8), (1, 900), (1, 300), (1, 4), (4, 120), (1, 4)] ++ [(4, 120)] : List (Nat × Nat)) = S ++ [(2, 4), (1, 4), (1, 4), (1, 4), (1, 4), (4, 8), (1, 8), (1, 8), (1, 900), (1, 840), (1, 120), (3, 600), (2, 4), (1, 4), (1, 4), (1, 4), (1, 4), (4, 8), (1, 8), (1, 8), (1, 900), (1, 300), (1, 4), (4, 120), (1, 4), (4, 120)] from (by simp only [List.append_assoc, List.cons_append, List.nil_append])]
  refine w_pR l_167_257 (ap_l hs) (by decide) ?_
  refine w_aln l_167_260 rfl ?_
  refine w_ic l_167_261 (by decide) ?_
  refine w_na (n := 4) l_167_262 (fun _ _ _ _ => rfl) (by omega) (by omega) (by decide) ?_
  rw [show List.length (α := Nat × Nat) (S ++ [(2, 4), (1, 4), (1, 4), (1, 4), (1, 4), (4, 8), (1, 8), (1, 8), (1, 900), (1, 840), (1, 120), (3, 600), (2, 4), (1, 4), (1, 4), (1, 4), (1, 4), (4, 8), (1, 8), (1, 8), (1, 900), (1, 300), (1, 4), (4, 120), (1, 4), (4, 120)]) = o + 27 from (by simp only [List.length_append, List.length_cons, List.length_nil]; omega), show (S ++ [(2, 4), (1, 4), (1, 4), (1, 4), (1, 4), (4, 8), (1, 8), (1, 8), (1, 900), (1, 840), (1, 120), (3, 600), (2, 4), (1, 4), (1, 4), (1, 4), (1, 4), (4, 8), (1, 8), (1, 8), (1, 900), (1, 300), (1, 4), (4, 120), (1, 4), (4, 120)] ++ [(4, 4)] : List (Nat × Nat)) = S ++ [(2, 4), (1, 4), (1, 4), (1, 4), (1, 4), (4, 8), (1, 8), (1, 8), (1, 900), (1, 840), (1, 120), (3, 600), (2, 4), (1, 4), (1, 4), (1, 4), (1, 4), (4, 8), (1, 8), (1, 8), (1, 900), (1, 300), (1, 4), (4, 120), (1, 4), (4, 120), (4, 4)] from (by simp only [List.append_assoc, List.cons_append, List.nil_append])]
  refine w_pR l_167_264 (ap_l hs) (by decide) ?_
  refine w_aln l_167_267 rfl ?_
  refine w_sp l_167_268 (by decide) ?_
  refine w_na (n := 400) l_167_271 (fun _ _ _ _ => rfl) (by omega) (by omega) (by decide) ?_
  rw [show List.length (α := Nat × Nat) (S ++ [(2, 4), (1, 4), (1, 4), (1, 4), (1, 4), (4, 8), (1, 8), (1, 8), (1, 900), (1, 840), (1, 120), (3, 600), (2, 4), (1, 4), (1, 4), (1, 4), (1, 4), (4, 8), (1, 8), (1, 8), (1, 900), (1, 300), (1, 4), (4, 120), (1, 4), (4, 120), (4, 4)]) = o + 28 from (by simp only [List.length_append, List.length_cons, List.length_nil]; omega), show (S ++ [(2, 4), (1, 4), (1, 4), (1, 4), (1, 4), (4, 8), (1, 8), (1, 8), (1, 900), (1, 840), (1, 120), (3, 600), (2, 4), (1, 4), (1, 4), (1, 4), (1, 4), (4, 8), (1, 8), (1, 8), (1, 900), (1, 300), (1, 4), (4, 120), (1, 4), (4, 120), (4, 4)] ++ [(1, 400)] : List (Nat × Nat)) = S ++ [(2, 4), (1, 4), (1, 4), (1, 4), (1, 4), (4, 8), (1, 8), (1, 8), (1, 900), (1, 840), (1, 120), (3, 600), (2, 4), (1, 4), (1, 4), (1, 4), (1, 4), (4, 8), (1, 8), (1, 8), (1, 900), (1, 300), (1, 4), (4, 120), (1, 4), (4, 120), (4, 4), (1, 400)] from (by simp only [List.append_assoc, List.cons_append, List.nil_append])]
  refine w_pR l_167_273 (ap_l hs) (by decide) ?_
  refine w_aln l_167_276 rfl ?_
  refine w_sp l_167_277 (by decide) ?_
  refine w_na (n := 400) l_167_280 (fun _ _ _ _ => rfl) (by omega) (by omega) (by decide) ?_
  rw [show List.length (α := Nat × Nat) (S ++ [(2, 4), (1, 4), (1, 4), (1, 4), (1, 4), (4, 8), (1, 8), (1, 8), (1, 900), (1, 840), (1, 120), (3, 600), (2, 4), (1, 4), (1, 4), (1, 4), (1, 4), (4, 8), (1, 8), (1, 8), (1, 900), (1, 300), (1, 4), (4, 120), (1, 4), (4, 120), (4, 4), (1, 400)]) = o + 29 from (by simp only [List.length_append, List.length_cons, List.length_nil]; omega), show (S ++ [(2, 4), (1, 4), (1, 4), (1, 4), (1, 4), (4, 8), (1, 8), (1, 8), (1, 900), (1, 840), (1, 120), (3, 600), (2, 4), (1, 4), (1, 4), (1, 4), (1, 4), (4, 8), (1, 8), (1, 8), (1, 900), (1, 300), (1, 4), (4, 120), (1, 4), (4, 120), (4, 4), (1, 400)] ++ [(1, 400)] : List (Nat × Nat)) = S ++ [(2, 4), (1, 4), (1, 4), (1, 4), (1, 4), (4, 8), (1, 8), (1, 8), (1, 900), (1, 840), (1, 120), (3, 600), (2, 4), (1, 4), (1, 4), (1, 4), (1, 4), (4, 8), (1, 8), (1, 8), (1, 900), (1, 300), (1, 4), (4, 120), (1, 4), (4, 120), (4, 4), (1, 400), (1, 400)] from (by simp only [List.append_assoc, List.cons_append, List.nil_append])]
  refine w_pR l_167_282 (ap_l hs) (by decide) ?_
  refine w_aln l_167_285 rfl ?_
  refine w_ic l_167_286 (by decide) ?_
  refine w_na (n := 4) l_167_287 (fun _ _ _ _ => rfl) (by omega) (by omega) (by decide) ?_
  rw [show List.length (α := Nat × Nat) (S ++ [(2, 4), (1, 4), (1, 4), (1, 4), (1, 4), (4, 8), (1, 8), (1, 8), (1, 900), (1, 840), (1, 120), (3, 600), (2, 4), (1, 4), (1, 4), (1, 4), (1, 4), (4, 8), (1, 8), (1, 8), (1, 900), (1, 300), (1, 4), (4, 120), (1, 4), (4, 120), (4, 4), (1, 400), (1, 400)]) = o + 30 from (by simp only [List.length_append, List.length_cons, List.length_nil]; omega), show (S ++ [(2, 4), (1, 4), (1, 4), (1, 4), (1, 4), (4, 8), (1, 8), (1, 8), (1, 900), (1, 840), (1, 120), (3, 600), (2, 4), (1, 4), (1, 4), (1, 4), (1, 4), (4, 8), (1, 8), (1, 8), (1, 900), (1, 300), (1, 4), (4, 120), (1, 4), (4, 120), (4, 4), (1, 400), (1, 400)] ++ [(1, 4)] : List (Nat × Nat)) = S ++ [(2, 4), (1, 4), (1, 4), (1, 4), (1, 4), (4, 8), (1, 8), (1, 8), (1, 900), (1, 840), (1, 120), (3, 600), (2, 4), (1, 4), (1, 4), (1, 4), (1, 4), (4, 8), (1, 8), (1, 8), (1, 900), (1, 300), (1, 4), (4, 120), (1, 4), (4, 120), (4, 4), (1, 400), (1, 400), (1, 4)] from (by simp only [List.append_assoc, List.cons_append, List.nil_append])]
  refine w_pR l_167_289 (ap_l hs) (by decide) ?_
  refine w_aln l_167_292 rfl ?_
  refine w_ic l_167_293 (by decide) ?_
  refine w_na (n := 4) l_167_294 (fun _ _ _ _ => rfl) (by omega) (by omega) (by decide) ?_
  rw [show List.length (α := Nat × Nat) (S ++ [(2, 4), (1, 4), (1, 4), (1, 4), (1, 4), (4, 8), (1, 8), (1, 8), (1, 900), (1, 840), (1, 120), (3, 600), (2, 4), (1, 4), (1, 4), (1, 4), (1, 4), (4, 8), (1, 8), (1, 8), (1, 900), (1, 300), (1, 4), (4, 120), (1, 4), (4, 120), (4, 4), (1, 400), (1, 400), (1, 4)]) = o + 31 from (by simp only [List.length_append, List.length_cons, List.length_nil]; omega), show (S ++ [(2, 4), (1, 4), (1, 4), (1, 4), (1, 4), (4, 8), (1, 8), (1, 8), (1, 900), (1, 840), (1, 120), (3, 600), (2, 4), (1, 4), (1, 4), (1, 4), (1, 4), (4, 8), (1, 8), (1, 8), (1, 900), (1, 300), (1, 4), (4, 120), (1, 4), (4, 120), (4, 4), (1, 400), (1, 400), (1, 4)] ++ [(1, 4)] : List (Nat × Nat)) = S ++ [(2, 4), (1, 4), (1, 4), (1, 4), (1, 4), (4, 8), (1, 8), (1, 8), (1, 900), (1, 840), (1, 120), (3, 600), (2, 4), (1, 4), (1, 4), (1, 4), (1, 4), (4, 8), (1, 8), (1, 8), (1, 900), (1, 300), (1, 4), (4, 120), (1, 4), (4, 120), (4, 4), (1, 400), (1, 400), (1, 4), (1, 4)] from (by simp only [List.append_assoc, List.cons_append, List.nil_append])]
  refine w_pR l_167_296 (ap_l hs) (by decide) ?_
  refine w_aln l_167_299 rfl ?_
  refine w_bp l_167_300 (by decide) ?_
  refine w_na (n := 64) l_167_302 (fun _ _ _ _ => rfl) (by omega) (by omega) (by decide) ?_
  rw [show List.length (α := Nat × Nat) (S ++ [(2, 4), (1, 4), (1, 4), (1, 4), (1, 4), (4, 8), (1, 8), (1, 8), (1, 900), (1, 840), (1, 120), (3, 600), (2, 4), (1, 4), (1, 4), (1, 4), (1, 4), (4, 8), (1, 8), (1, 8), (1, 900), (1, 300), (1, 4), (4, 120), (1, 4), (4, 120), (4, 4), (1, 400), (1, 400), (1, 4), (1, 4)]) = o + 32 from (by simp only [List.length_append, List.length_cons, List.length_nil]; omega), show (S ++ [(2, 4), (1, 4), (1, 4), (1, 4), (1, 4), (4, 8), (1, 8), (1, 8), (1, 900), (1, 840), (1, 120), (3, 600), (2, 4), (1, 4), (1, 4), (1, 4), (1, 4), (4, 8), (1, 8), (1, 8), (1, 900), (1, 300), (1, 4), (4, 120), (1, 4), (4, 120), (4, 4), (1, 400), (1, 400), (1, 4), (1, 4)] ++ [(1, 64)] : List (Nat × Nat)) = S ++ [(2, 4), (1, 4), (1, 4), (1, 4), (1, 4), (4, 8), (1, 8), (1, 8), (1, 900), (1, 840), (1, 120), (3, 600), (2, 4), (1, 4), (1, 4), (1, 4), (1, 4), (4, 8), (1, 8), (1, 8), (1, 900), (1, 300), (1, 4), (4, 120), (1, 4), (4, 120), (4, 4), (1, 400), (1, 400), (1, 4), (1, 4), (1, 64)] from (by simp only [List.append_assoc, List.cons_append, List.nil_append])]
  refine w_pR l_167_304 (ap_l hs) (by decide) ?_
  refine w_aln l_167_307 rfl ?_
  refine w_bp l_167_308 (by decide) ?_
  refine w_na (n := 64) l_167_310 (fun _ _ _ _ => rfl) (by omega) (by omega) (by decide) ?_
  rw [show List.length (α := Nat × Nat) (S ++ [(2, 4), (1, 4), (1, 4), (1, 4), (1, 4), (4, 8), (1, 8), (1, 8), (1, 900), (1, 840), (1, 120), (3, 600), (2, 4), (1, 4), (1, 4), (1, 4), (1, 4), (4, 8), (1, 8), (1, 8), (1, 900), (1, 300), (1, 4), (4, 120), (1, 4), (4, 120), (4, 4), (1, 400), (1, 400), (1, 4), (1, 4), (1, 64)]) = o + 33 from (by simp only [List.length_append, List.length_cons, List.length_nil]; omega), show (S ++ [(2, 4), (1, 4), (1, 4), (1, 4), (1, 4), (4, 8), (1, 8), (1, 8), (1, 900), (1, 840), (1, 120), (3, 600), (2, 4), (1, 4), (1, 4), (1, 4), (1, 4), (4, 8), (1, 8), (1, 8), (1, 900), (1, 300), (1, 4), (4, 120), (1, 4), (4, 120), (4, 4), (1, 400), (1, 400), (1, 4), (1, 4), (1, 64)] ++ [(1, 64)] : List (Nat × Nat)) = S ++ [(2, 4), (1, 4), (1, 4), (1, 4), (1, 4), (4, 8), (1, 8), (1, 8), (1, 900), (1, 840), (1, 120), (3, 600), (2, 4), (1, 4), (1, 4), (1, 4), (1, 4), (4, 8), (1, 8), (1, 8), (1, 900), (1, 300), (1, 4), (4, 120), (1, 4), (4, 120), (4, 4), (1, 400), (1, 400), (1, 4), (1, 4), (1, 64), (1, 64)] from (by simp only [List.append_assoc, List.cons_append, List.nil_append])]
  refine w_pR l_167_312 (ap_l hs) (by decide) ?_
  refine w_aln l_167_315 rfl ?_
  refine w_sp l_167_316 (by decide) ?_
  refine w_na (n := 480) l_167_319 (fun _ _ _ _ => rfl) (by omega) (by omega) (by decide) ?_
  rw [show List.length (α := Nat × Nat) (S ++ [(2, 4), (1, 4), (1, 4), (1, 4), (1, 4), (4, 8), (1, 8), (1, 8), (1, 900), (1, 840), (1, 120), (3, 600), (2, 4), (1, 4), (1, 4), (1, 4), (1, 4), (4, 8), (1, 8), (1, 8), (1, 900), (1, 300), (1, 4), (4, 120), (1, 4), (4, 120), (4, 4), (1, 400), (1, 400), (1, 4), (1, 4), (1, 64), (1, 64)]) = o + 34 from (by simp only [List.length_append, List.length_cons, List.length_nil]; omega), show (S ++ [(2, 4), (1, 4), (1, 4), (1, 4), (1, 4), (4, 8), (1, 8), (1, 8), (1, 900), (1, 840), (1, 120), (3, 600), (2, 4), (1, 4), (1, 4), (1, 4), (1, 4), (4, 8), (1, 8), (1, 8), (1, 900), (1, 300), (1, 4), (4, 120), (1, 4), (4, 120), (4, 4), (1, 400), (1, 400), (1, 4), (1, 4), (1, 64), (1, 64)] ++ [(1, 480)] : List (Nat × Nat)) = S ++ [(2, 4), (1, 4), (1, 4), (1, 4), (1, 4), (4, 8), (1, 8), (1, 8), (1, 900), (1, 840), (1, 120), (3, 600), (2, 4), (1, 4), (1, 4), (1, 4), (1, 4), (4, 8), (1, 8), (1, 8), (1, 900), (1, 300), (1, 4), (4, 120), (1, 4), (4, 120), (4, 4), (1, 400), (1, 400), (1, 4), (1, 4), (1, 64), (1, 64), (1, 480)] from (by simp only [List.append_assoc, List.cons_append, List.nil_append])]
  refine w_pR l_167_321 (ap_l hs) (by decide) ?_
  refine w_aln l_167_324 rfl ?_
  refine w_ic l_167_325 (by decide) ?_
  refine w_na (n := 4) l_167_326 (fun _ _ _ _ => rfl) (by omega) (by omega) (by decide) ?_
  rw [show List.length (α := Nat × Nat) (S ++ [(2, 4), (1, 4), (1, 4), (1, 4), (1, 4), (4, 8), (1, 8), (1, 8), (1, 900), (1, 840), (1, 120), (3, 600), (2, 4), (1, 4), (1, 4), (1, 4), (1, 4), (4, 8), (1, 8), (1, 8), (1, 900), (1, 300), (1, 4), (4, 120), (1, 4), (4, 120), (4, 4), (1, 400), (1, 400), (1, 4), (1, 4), (1, 64), (1, 64), (1, 480)]) = o + 35 from (by simp only [List.length_append, List.length_cons, List.length_nil]; omega), show (S ++ [(2, 4), (1, 4), (1, 4), (1, 4), (1, 4), (4, 8), (1, 8), (1, 8), (1, 900), (1, 840), (1, 120), (3, 600), (2, 4), (1, 4), (1, 4), (1, 4), (1, 4), (4, 8), (1, 8), (1, 8), (1, 900), (1, 300), (1, 4), (4, 120), (1, 4), (4, 120), (4, 4), (1, 400), (1, 400), (1, 4), (1, 4), (1, 64), (1, 64), (1, 480)] ++ [(1, 4)] : List (Nat × Nat)) = S ++ [(2, 4), (1, 4), (1, 4), (1, 4), (1, 4), (4, 8), (1, 8), (1, 8), (1, 900), (1, 840), (1, 120), (3, 600), (2, 4), (1, 4), (1, 4), (1, 4), (1, 4), (4, 8), (1, 8), (1, 8), (1, 900), (1, 300), (1, 4), (4, 120), (1, 4), (4, 120), (4, 4), (1, 400), (1, 400), (1, 4), (1, 4), (1, 64), (1, 64), (1, 480), (1, 4)] from (by simp only [List.append_assoc, List.cons_append, List.nil_append])]
  refine w_pR l_167_328 (ap_l hs) (by decide) ?_
  refine w_aln l_167_331 rfl ?_
  refine w_sp l_167_332 (by decide) ?_
  refine w_na (n := 2000) l_167_335 (fun _ _ _ _ => rfl) (by omega) (by omega) (by decide) ?_
  rw [show List.length (α := Nat × Nat) (S ++ [(2, 4), (1, 4), (1, 4), (1, 4), (1, 4), (4, 8), (1, 8), (1, 8), (1, 900), (1, 840), (1, 120), (3, 600), (2, 4), (1, 4), (1, 4), (1, 4), (1, 4), (4, 8), (1, 8), (1, 8), (1, 900), (1, 300), (1, 4), (4, 120), (1, 4), (4, 120), (4, 4), (1, 400), (1, 400), (1, 4), (1, 4), (1, 64), (1, 64), (1, 480), (1, 4)]) = o + 36 from (by simp only [List.length_append, List.length_cons, List.length_nil]; omega), show (S ++ [(2, 4), (1, 4), (1, 4), (1, 4), (1, 4), (4, 8), (1, 8), (1, 8), (1, 900), (1, 840), (1, 120), (3, 600), (2, 4), (1, 4), (1, 4), (1, 4), (1, 4), (4, 8), (1, 8), (1, 8), (1, 900), (1, 300), (1, 4), (4, 120), (1, 4), (4, 120), (4, 4), (1, 400), (1, 400), (1, 4), (1, 4), (1, 64), (1, 64), (1, 480), (1, 4)] ++ [(1, 2000)] : List (Nat × Nat)) = S ++ [(2, 4), (1, 4), (1, 4), (1, 4), (1, 4), (4, 8), (1, 8), (1, 8), (1, 900), (1, 840), (1, 120), (3, 600), (2, 4), (1, 4), (1, 4), (1, 4), (1, 4), (4, 8), (1, 8), (1, 8), (1, 900), (1, 300), (1, 4), (4, 120), (1, 4), (4, 120), (4, 4), (1, 400), (1, 400), (1, 4), (1, 4), (1, 64), (1, 64), (1, 480), (1, 4), (1, 2000)] from (by simp only [List.append_assoc, List.cons_append, List.nil_append])]
  refine w_pR l_167_337 (ap_l hs) (by decide) ?_
  refine w_aln l_167_340 rfl ?_
  refine w_sp l_167_341 (by decide) ?_
  refine w_na (n := 300) l_167_344 (fun _ _ _ _ => rfl) (by omega) (by omega) (by decide) ?_
  rw [show List.length (α := Nat × Nat) (S ++ [(2, 4), (1, 4), (1, 4), (1, 4), (1, 4), (4, 8), (1, 8), (1, 8), (1, 900), (1, 840), (1, 120), (3, 600), (2, 4), (1, 4), (1, 4), (1, 4), (1, 4), (4, 8), (1, 8), (1, 8), (1, 900), (1, 300), (1, 4), (4, 120), (1, 4), (4, 120), (4, 4), (1, 400), (1, 400), (1, 4), (1, 4), (1, 64), (1, 64), (1, 480), (1, 4), (1, 2000)]) = o + 37 from (by simp only [List.length_append, List.length_cons, List.length_nil]; omega), show (S ++ [(2, 4), (1, 4), (1, 4), (1, 4), (1, 4), (4, 8), (1, 8), (1, 8), (1, 900), (1, 840), (1, 120), (3, 600), (2, 4), (1, 4), (1, 4), (1, 4), (1, 4), (4, 8), (1, 8), (1, 8), (1, 900), (1, 300), (1, 4), (4, 120), (1, 4), (4, 120), (4, 4), (1, 400), (1, 400), (1, 4), (1, 4), (1, 64), (1, 64), (1, 480), (1, 4), (1, 2000)] ++ [(4, 300)] : List (Nat × Nat)) = S ++ [(2, 4), (1, 4), (1, 4), (1, 4), (1, 4), (4, 8), (1, 8), (1, 8), (1, 900), (1, 840), (1, 120), (3, 600), (2, 4), (1, 4), (1, 4), (1, 4), (1, 4), (4, 8), (1, 8), (1, 8), (1, 900), (1, 300), (1, 4), (4, 120), (1, 4), (4, 120), (4, 4), (1, 400), (1, 400), (1, 4), (1, 4), (1, 64), (1, 64), (1, 480), (1, 4), (1, 2000), (4, 300)] from (by simp only [List.append_assoc, List.cons_append, List.nil_append])]
  refine w_pR l_167_346 (ap_l hs) (by decide) ?_
  refine w_aln l_167_349 rfl ?_
  refine w_sp l_167_350 (by decide) ?_
  refine w_na (n := 600) l_167_353 (fun _ _ _ _ => rfl) (by omega) (by omega) (by decide) ?_
  rw [show List.length (α := Nat × Nat) (S ++ [(2, 4), (1, 4), (1, 4), (1, 4), (1, 4), (4, 8), (1, 8), (1, 8), (1, 900), (1, 840), (1, 120), (3, 600), (2, 4), (1, 4), (1, 4), (1, 4), (1, 4), (4, 8), (1, 8), (1, 8), (1, 900), (1, 300), (1, 4), (4, 120), (1, 4), (4, 120), (4, 4), (1, 400), (1, 400), (1, 4), (1, 4), (1, 64), (1, 64), (1, 480), (1, 4), (1, 2000), (4, 300)]) = o + 38 from (by simp only [List.length_append, List.length_cons, List.length_nil]; omega), show (S ++ [(2, 4), (1, 4), (1, 4), (1, 4), (1, 4), (4, 8), (1, 8), (1, 8), (1, 900), (1, 840), (1, 120), (3, 600), (2, 4), (1, 4), (1, 4), (1, 4), (1, 4), (4, 8), (1, 8), (1, 8), (1, 900), (1, 300), (1, 4), (4, 120), (1, 4), (4, 120), (4, 4), (1, 400), (1, 400), (1, 4), (1, 4), (1, 64), (1, 64), (1, 480), (1, 4), (1, 2000), (4, 300)] ++ [(4, 600)] : List (Nat × Nat)) = S ++ [(2, 4), (1, 4), (1, 4), (1, 4), (1, 4), (4, 8), (1, 8), (1, 8), (1, 900), (1, 840), (1, 120), (3, 600), (2, 4), (1, 4), (1, 4), (1, 4), (1, 4), (4, 8), (1, 8), (1, 8), (1, 900), (1, 300), (1, 4), (4, 120), (1, 4), (4, 120), (4, 4), (1, 400), (1, 400), (1, 4), (1, 4), (1, 64), (1, 64), (1, 480), (1, 4), (1, 2000), (4, 300), (4, 600)] from (by simp only [List.append_assoc, List.cons_append, List.nil_append])]
  refine w_pR l_167_355 (ap_l hs) (by decide) ?_
  refine w_aln l_167_358 rfl ?_
  refine w_sp l_167_359 (by decide) ?_
  refine w_na (n := 900) l_167_362 (fun _ _ _ _ => rfl) (by omega) (by omega) (by decide) ?_
  rw [show List.length (α := Nat × Nat) (S ++ [(2, 4), (1, 4), (1, 4), (1, 4), (1, 4), (4, 8), (1, 8), (1, 8), (1, 900), (1, 840), (1, 120), (3, 600), (2, 4), (1, 4), (1, 4), (1, 4), (1, 4), (4, 8), (1, 8), (1, 8), (1, 900), (1, 300), (1, 4), (4, 120), (1, 4), (4, 120), (4, 4), (1, 400), (1, 400), (1, 4), (1, 4), (1, 64), (1, 64), (1, 480), (1, 4), (1, 2000), (4, 300), (4, 600)]) = o + 39 from (by simp only [List.length_append, List.length_cons, List.length_nil]; omega), show (S ++ [(2, 4), (1, 4), (1, 4), (1, 4), (1, 4), (4, 8), (1, 8), (1, 8), (1, 900), (1, 840), (1, 120), (3, 600), (2, 4), (1, 4), (1, 4), (1, 4), (1, 4), (4, 8), (1, 8), (1, 8), (1, 900), (1, 300), (1, 4), (4, 120), (1, 4), (4, 120), (4, 4), (1, 400), (1, 400), (1, 4), (1, 4), (1, 64), (1, 64), (1, 480), (1, 4), (1, 2000), (4, 300), (4, 600)] ++ [(1, 900)] : List (Nat × Nat)) = S ++ [(2, 4), (1, 4), (1, 4), (1, 4), (1, 4), (4, 8), (1, 8), (1, 8), (1, 900), (1, 840), (1, 120), (3, 600), (2, 4), (1, 4), (1, 4), (1, 4), (1, 4), (4, 8), (1, 8), (1, 8), (1, 900), (1, 300), (1, 4), (4, 120), (1, 4), (4, 120), (4, 4), (1, 400), (1, 400), (1, 4), (1, 4), (1, 64), (1, 64), (1, 480), (1, 4), (1, 2000), (4, 300), (4, 600), (1, 900)] from (by simp only [List.append_assoc, List.cons_append, List.nil_append])]
  refine w_pR l_167_364 (ap_l hs) (by decide) ?_
  refine w_vr l_167_367 ?_
  refine NX_i rfl (by omega) (by omega) (fun z w hz => ⟨?_, ?_⟩) ⟨?_, ⟨?_, ?_, ?_, ?_, ?_, ?_, ?_⟩, fun w hw => ?_, fun z w h1 h2 h3 => ?_, fun p hp => ?_⟩
  · repeat (first | exact up_eq | exact zr_e | rw [up_out (by omega)] | rw [zr_o (by omega)])
  · repeat (first | rw [ut_o (by omega)] | rw [zt_o (by omega)])
  · refine ⟨ap_l hs, ?_, ?_, ?_, ?_, ?_, ?_, ?_, ?_, ?_, ?_, ?_, ?_, ?_, ?_, ?_, ?_, ?_, ?_, ?_, ?_, ?_, ?_, ?_, ?_, ?_, ?_, ?_, ?_, ?_, ?_, ?_, ?_, ?_, ?_, ?_, ?_, ?_, ?_, ?_, ?_, ?_, ?_, ?_, ?_, ?_, ?_, ?_, ?_, ?_, ?_, ?_, ?_, ?_, ?_, ?_, ?_, ?_, ?_, ?_, ?_, ?_, ?_, ?_, ?_, ?_, ?_, ?_, ?_, ?_, ?_, ?_, ?_, ?_, ?_, ?_, ?_, ?_, ?_⟩
    · rw [ap_r (j := 0) (by omega)]; rfl
    · repeat (first | exact ut_e | rw [ut_o (by omega)] | rw [zt_o (by omega)])
    · rw [ap_r (j := 1) (by omega)]; rfl
    · repeat (first | exact ut_e | rw [ut_o (by omega)] | rw [zt_o (by omega)])
    · rw [ap_r (j := 2) (by omega)]; rfl
    · repeat (first | exact ut_e | rw [ut_o (by omega)] | rw [zt_o (by omega)])
    · rw [ap_r (j := 3) (by omega)]; rfl
    · repeat (first | exact ut_e | rw [ut_o (by omega)] | rw [zt_o (by omega)])
    · rw [ap_r (j := 4) (by omega)]; rfl
    · repeat (first | exact ut_e | rw [ut_o (by omega)] | rw [zt_o (by omega)])
    · rw [ap_r (j := 5) (by omega)]; rfl
    · repeat (first | exact ut_e | rw [ut_o (by omega)] | rw [zt_o (by omega)])
    · rw [ap_r (j := 6) (by omega)]; rfl
    · repeat (first | exact ut_e | rw [ut_o (by omega)] | rw [zt_o (by omega)])
    · rw [ap_r (j := 7) (by omega)]; rfl
    · repeat (first | exact ut_e | rw [ut_o (by omega)] | rw [zt_o (by omega)])
    · rw [ap_r (j := 8) (by omega)]; rfl
    · repeat (first | exact ut_e | rw [ut_o (by omega)] | rw [zt_o (by omega)])
    · rw [ap_r (j := 9) (by omega)]; rfl
    · repeat (first | exact ut_e | rw [ut_o (by omega)] | rw [zt_o (by omega)])
    · rw [ap_r (j := 10) (by omega)]; rfl
    · repeat (first | exact ut_e | rw [ut_o (by omega)] | rw [zt_o (by omega)])
    · rw [ap_r (j := 11) (by omega)]; rfl
    · repeat (first | exact ut_e | rw [ut_o (by omega)] | rw [zt_o (by omega)])
    · rw [ap_r (j := 12) (by omega)]; rfl
    · repeat (first | exact ut_e | rw [ut_o (by omega)] | rw [zt_o (by omega)])
    · rw [ap_r (j := 13) (by omega)]; rfl
    · repeat (first | exact ut_e | rw [ut_o (by omega)] | rw [zt_o (by omega)])
    · rw [ap_r (j := 14) (by omega)]; rfl
    · repeat (first | exact ut_e | rw [ut_o (by omega)] | rw [zt_o (by omega)])
    · rw [ap_r (j := 15) (by omega)]; rfl
    · repeat (first | exact ut_e | rw [ut_o (by omega)] | rw [zt_o (by omega)])
    · rw [ap_r (j := 16) (by omega)]; rfl
    · repeat (first | exact ut_e | rw [ut_o (by omega)] | rw [zt_o (by omega)])
    · rw [ap_r (j := 17) (by omega)]; rfl
    · repeat (first | exact ut_e | rw [ut_o (by omega)] | rw [zt_o (by omega)])
    · rw [ap_r (j := 18) (by omega)]; rfl
    · repeat (first | exact ut_e | rw [ut_o (by omega)] | rw [zt_o (by omega)])
    · rw [ap_r (j := 19) (by omega)]; rfl
    · repeat (first | exact ut_e | rw [ut_o (by omega)] | rw [zt_o (by omega)])
    · rw [ap_r (j := 20) (by omega)]; rfl
    · repeat (first | exact ut_e | rw [ut_o (by omega)] | rw [zt_o (by omega)])
    · rw [ap_r (j := 21) (by omega)]; rfl
    · repeat (first | exact ut_e | rw [ut_o (by omega)] | rw [zt_o (by omega)])
    · rw [ap_r (j := 22) (by omega)]; rfl
    · repeat (first | exact ut_e | rw [ut_o (by omega)] | rw [zt_o (by omega)])
    · rw [ap_r (j := 23) (by omega)]; rfl
    · repeat (first | exact ut_e | rw [ut_o (by omega)] | rw [zt_o (by omega)])
    · rw [ap_r (j := 24) (by omega)]; rfl
    · repeat (first | exact ut_e | rw [ut_o (by omega)] | rw [zt_o (by omega)])
    · rw [ap_r (j := 25) (by omega)]; rfl
    · repeat (first | exact ut_e | rw [ut_o (by omega)] | rw [zt_o (by omega)])
    · rw [ap_r (j := 26) (by omega)]; rfl
    · repeat (first | exact ut_e | rw [ut_o (by omega)] | rw [zt_o (by omega)])
    · rw [ap_r (j := 27) (by omega)]; rfl
    · repeat (first | exact ut_e | rw [ut_o (by omega)] | rw [zt_o (by omega)])
    · rw [ap_r (j := 28) (by omega)]; rfl
    · repeat (first | exact ut_e | rw [ut_o (by omega)] | rw [zt_o (by omega)])
    · rw [ap_r (j := 29) (by omega)]; rfl
    · repeat (first | exact ut_e | rw [ut_o (by omega)] | rw [zt_o (by omega)])
    · rw [ap_r (j := 30) (by omega)]; rfl
    · repeat (first | exact ut_e | rw [ut_o (by omega)] | rw [zt_o (by omega)])
    · rw [ap_r (j := 31) (by omega)]; rfl
    · repeat (first | exact ut_e | rw [ut_o (by omega)] | rw [zt_o (by omega)])
    · rw [ap_r (j := 32) (by omega)]; rfl
    · repeat (first | exact ut_e | rw [ut_o (by omega)] | rw [zt_o (by omega)])
    · rw [ap_r (j := 33) (by omega)]; rfl
    · repeat (first | exact ut_e | rw [ut_o (by omega)] | rw [zt_o (by omega)])
    · rw [ap_r (j := 34) (by omega)]; rfl
    · repeat (first | exact ut_e | rw [ut_o (by omega)] | rw [zt_o (by omega)])
    · rw [ap_r (j := 35) (by omega)]; rfl
    · repeat (first | exact ut_e | rw [ut_o (by omega)] | rw [zt_o (by omega)])
    · rw [ap_r (j := 36) (by omega)]; rfl
    · repeat (first | exact ut_e | rw [ut_o (by omega)] | rw [zt_o (by omega)])
    · rw [ap_r (j := 37) (by omega)]; rfl
    · repeat (first | exact ut_e | rw [ut_o (by omega)] | rw [zt_o (by omega)])
    · rw [ap_r (j := 38) (by omega)]; rfl
    · repeat (first | exact ut_e | rw [ut_o (by omega)] | rw [zt_o (by omega)])
  · repeat (first | exact up_eq | exact zr_e | rw [up_out (by omega)] | rw [zr_o (by omega)])
  · repeat (first | exact up_eq | exact zr_e | rw [up_out (by omega)] | rw [zr_o (by omega)])
  · repeat (first | exact up_eq | exact zr_e | rw [up_out (by omega)] | rw [zr_o (by omega)])
  · repeat (first | exact up_eq | exact zr_e | rw [up_out (by omega)] | rw [zr_o (by omega)])
  · repeat (first | exact up_eq | exact zr_e | rw [up_out (by omega)] | rw [zr_o (by omega)])
  · repeat (first | exact up_eq | exact zr_e | rw [up_out (by omega)] | rw [zr_o (by omega)])
  · repeat (first | exact up_eq | exact zr_e | rw [up_out (by omega)] | rw [zr_o (by omega)])
  · repeat (first | exact up_eq | exact zr_e | rw [up_out (by omega)] | rw [zr_o (by omega)])
  · have hz : z = o + 1 ∨ z = o + 2 ∨ z = o + 3 ∨ z = o + 4 ∨ z = o + 5 ∨ z = o + 6 ∨ z = o + 7 ∨ z = o + 8 ∨ z = o + 9 ∨ z = o + 10 ∨ z = o + 11 ∨ z = o + 12 ∨ z = o + 13 ∨ z = o + 14 ∨ z = o + 15 ∨ z = o + 16 ∨ z = o + 17 ∨ z = o + 18 ∨ z = o + 19 ∨ z = o + 20 ∨ z = o + 21 ∨ z = o + 22 ∨ z = o + 24 ∨ z = o + 25 ∨ z = o + 26 ∨ z = o + 27 ∨ z = o + 28 ∨ z = o + 29 ∨ z = o + 30 ∨ z = o + 31 ∨ z = o + 32 ∨ z = o + 33 ∨ z = o + 34 ∨ z = o + 35 ∨ z = o + 36 ∨ z = o + 37 ∨ z = o + 38 ∨ z = o + 39 := by omega
    rcases hz with e | e | e | e | e | e | e | e | e | e | e | e | e | e | e | e | e | e | e | e | e | e | e | e | e | e | e | e | e | e | e | e | e | e | e | e | e | e <;> subst e
    all_goals (repeat (first | exact up_eq | exact zr_e | rw [up_out (by omega)] | rw [zr_o (by omega)]))
  · rcases (show p = 0 ∨ p = 1 ∨ p = 2 ∨ p = 3 by omega) with e | e | e | e <;> subst e
    all_goals (repeat (first | exact up_eq | exact zr_e | rw [up_out (by omega)] | rw [zr_o (by omega)]))

end MDC
