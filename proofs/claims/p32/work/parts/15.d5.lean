theorem dX9_sortDown_54 : decode cX9_sortDown 54 = .ok (.iload 4, 2) := by decide +kernel
theorem dX9_sortDown_56 : decode cX9_sortDown 56 = .ok (.iastore, 1) := by decide +kernel
theorem dX9_sortDown_57 : decode cX9_sortDown 57 = .ok (.iinc 3 1, 3) := by decide +kernel
theorem dX9_sortDown_60 : decode cX9_sortDown 60 = .ok (.goto (-58), 3) := by decide +kernel
theorem dX9_sortDown_63 : decode cX9_sortDown 63 = .ok (.return_, 1) := by decide +kernel
theorem dL_below_0 : decode cL_below 0 = .ok (.iload_n 0, 1) := by decide +kernel
theorem dL_below_1 : decode cL_below 1 = .ok (.ldc 7, 2) := by decide +kernel
theorem dL_below_3 : decode cL_below 3 = .ok (.iand, 1) := by decide +kernel
theorem dL_below_4 : decode cL_below 4 = .ok (.iload_n 1, 1) := by decide +kernel
theorem dL_below_5 : decode cL_below 5 = .ok (.irem, 1) := by decide +kernel
theorem dL_below_6 : decode cL_below 6 = .ok (.ireturn, 1) := by decide +kernel
theorem dL_cell_0 : decode cL_cell 0 = .ok (.iload_n 1, 1) := by decide +kernel
theorem dL_cell_1 : decode cL_cell 1 = .ok (.aload_n 0, 1) := by decide +kernel
theorem dL_cell_2 : decode cL_cell 2 = .ok (.arraylength, 1) := by decide +kernel
theorem dL_cell_3 : decode cL_cell 3 = .ok (.if_icmp .ge 9, 3) := by decide +kernel
theorem dL_cell_6 : decode cL_cell 6 = .ok (.aload_n 0, 1) := by decide +kernel
theorem dL_cell_7 : decode cL_cell 7 = .ok (.iload_n 1, 1) := by decide +kernel
theorem dL_cell_8 : decode cL_cell 8 = .ok (.iaload, 1) := by decide +kernel
theorem dL_cell_9 : decode cL_cell 9 = .ok (.goto 9, 3) := by decide +kernel
theorem dL_cell_12 : decode cL_cell 12 = .ok (.ldc 8, 2) := by decide +kernel
theorem dL_cell_14 : decode cL_cell 14 = .ok (.iload_n 1, 1) := by decide +kernel
theorem dL_cell_15 : decode cL_cell 15 = .ok (.iconst 3, 1) := by decide +kernel
theorem dL_cell_16 : decode cL_cell 16 = .ok (.iadd, 1) := by decide +kernel
theorem dL_cell_17 : decode cL_cell 17 = .ok (.imul, 1) := by decide +kernel
theorem dL_cell_18 : decode cL_cell 18 = .ok (.ireturn, 1) := by decide +kernel
theorem dL_law_0 : decode cL_law 0 = .ok (.new 9, 3) := by decide +kernel
theorem dL_law_3 : decode cL_law 3 = .ok (.dup, 1) := by decide +kernel
theorem dL_law_4 : decode cL_law 4 = .ok (.invokespecial 11, 3) := by decide +kernel
theorem dL_law_7 : decode cL_law 7 = .ok (.astore_n 1, 1) := by decide +kernel
theorem dL_law_8 : decode cL_law 8 = .ok (.iconst 3, 1) := by decide +kernel
theorem dL_law_9 : decode cL_law 9 = .ok (.aload_n 0, 1) := by decide +kernel
theorem dL_law_10 : decode cL_law 10 = .ok (.iconst 0, 1) := by decide +kernel
theorem dL_law_11 : decode cL_law 11 = .ok (.invokestatic 12, 3) := by decide +kernel
theorem dL_law_14 : decode cL_law 14 = .ok (.iconst 4, 1) := by decide +kernel
theorem dL_law_15 : decode cL_law 15 = .ok (.invokestatic 18, 3) := by decide +kernel
theorem dL_law_18 : decode cL_law 18 = .ok (.iadd, 1) := by decide +kernel
theorem dL_law_19 : decode cL_law 19 = .ok (.istore_n 2, 1) := by decide +kernel
theorem dL_law_20 : decode cL_law 20 = .ok (.iload_n 2, 1) := by decide +kernel
theorem dL_law_21 : decode cL_law 21 = .ok (.newarray .int, 2) := by decide +kernel
theorem dL_law_23 : decode cL_law 23 = .ok (.astore_n 3, 1) := by decide +kernel
theorem dL_law_24 : decode cL_law 24 = .ok (.iconst 0, 1) := by decide +kernel
theorem dL_law_25 : decode cL_law 25 = .ok (.istore 4, 2) := by decide +kernel
theorem dL_law_27 : decode cL_law 27 = .ok (.iload 4, 2) := by decide +kernel
theorem dL_law_29 : decode cL_law 29 = .ok (.iload_n 2, 1) := by decide +kernel
theorem dL_law_30 : decode cL_law 30 = .ok (.if_icmp .ge 52, 3) := by decide +kernel
theorem dL_law_33 : decode cL_law 33 = .ok (.aload_n 3, 1) := by decide +kernel
theorem dL_law_34 : decode cL_law 34 = .ok (.iload 4, 2) := by decide +kernel
theorem dL_law_36 : decode cL_law 36 = .ok (.aload_n 0, 1) := by decide +kernel
theorem dL_law_37 : decode cL_law 37 = .ok (.iload 4, 2) := by decide +kernel
theorem dL_law_39 : decode cL_law 39 = .ok (.invokestatic 12, 3) := by decide +kernel
theorem dL_law_42 : decode cL_law 42 = .ok (.iconst 2, 1) := by decide +kernel
theorem dL_law_43 : decode cL_law 43 = .ok (.ishr, 1) := by decide +kernel
theorem dL_law_44 : decode cL_law 44 = .ok (.sipush 500, 3) := by decide +kernel
theorem dL_law_47 : decode cL_law 47 = .ok (.invokestatic 18, 3) := by decide +kernel
theorem dL_law_50 : decode cL_law 50 = .ok (.iastore, 1) := by decide +kernel
theorem dL_law_51 : decode cL_law 51 = .ok (.aload_n 1, 1) := by decide +kernel
theorem dL_law_52 : decode cL_law 52 = .ok (.aload_n 0, 1) := by decide +kernel
theorem dL_law_53 : decode cL_law 53 = .ok (.iload 4, 2) := by decide +kernel
theorem dL_law_55 : decode cL_law 55 = .ok (.invokestatic 12, 3) := by decide +kernel
theorem dL_law_58 : decode cL_law 58 = .ok (.iconst 3, 1) := by decide +kernel
theorem dL_law_59 : decode cL_law 59 = .ok (.invokestatic 18, 3) := by decide +kernel
theorem dL_law_62 : decode cL_law 62 = .ok (.aload_n 3, 1) := by decide +kernel
theorem dL_law_63 : decode cL_law 63 = .ok (.iload 4, 2) := by decide +kernel
theorem dL_law_65 : decode cL_law 65 = .ok (.iaload, 1) := by decide +kernel
theorem dL_law_66 : decode cL_law 66 = .ok (.invokevirtual 22, 3) := by decide +kernel
theorem dL_law_69 : decode cL_law 69 = .ok (.iload 4, 2) := by decide +kernel
theorem dL_law_71 : decode cL_law 71 = .ok (.if_icmp .eq 5, 3) := by decide +kernel
theorem dL_law_74 : decode cL_law 74 = .ok (.iconst 0, 1) := by decide +kernel
theorem dL_law_75 : decode cL_law 75 = .ok (.ireturn, 1) := by decide +kernel
theorem dL_law_76 : decode cL_law 76 = .ok (.iinc 4 1, 3) := by decide +kernel
theorem dL_law_79 : decode cL_law 79 = .ok (.goto (-52), 3) := by decide +kernel
theorem dL_law_82 : decode cL_law 82 = .ok (.iconst 1, 1) := by decide +kernel
theorem dL_law_83 : decode cL_law 83 = .ok (.aload_n 0, 1) := by decide +kernel
theorem dL_law_84 : decode cL_law 84 = .ok (.iconst 1, 1) := by decide +kernel
theorem dL_law_85 : decode cL_law 85 = .ok (.invokestatic 12, 3) := by decide +kernel
theorem dL_law_88 : decode cL_law 88 = .ok (.bipush 8, 2) := by decide +kernel
theorem dL_law_90 : decode cL_law 90 = .ok (.invokestatic 18, 3) := by decide +kernel
theorem dL_law_93 : decode cL_law 93 = .ok (.iadd, 1) := by decide +kernel
theorem dL_law_94 : decode cL_law 94 = .ok (.istore 4, 2) := by decide +kernel
theorem dL_law_96 : decode cL_law 96 = .ok (.aload_n 0, 1) := by decide +kernel
theorem dL_law_97 : decode cL_law 97 = .ok (.iconst 2, 1) := by decide +kernel
theorem dL_law_98 : decode cL_law 98 = .ok (.invokestatic 12, 3) := by decide +kernel
theorem dL_law_101 : decode cL_law 101 = .ok (.iconst 2, 1) := by decide +kernel
theorem dL_law_102 : decode cL_law 102 = .ok (.invokestatic 18, 3) := by decide +kernel
theorem dL_law_105 : decode cL_law 105 = .ok (.ifCond .ne 7, 3) := by decide +kernel
theorem dL_law_108 : decode cL_law 108 = .ok (.iconst 1, 1) := by decide +kernel
theorem dL_law_109 : decode cL_law 109 = .ok (.goto 4, 3) := by decide +kernel
theorem dL_law_112 : decode cL_law 112 = .ok (.iconst 0, 1) := by decide +kernel
theorem dL_law_113 : decode cL_law 113 = .ok (.istore 5, 2) := by decide +kernel
theorem dL_law_115 : decode cL_law 115 = .ok (.aload_n 1, 1) := by decide +kernel
theorem dL_law_116 : decode cL_law 116 = .ok (.sipush 300, 3) := by decide +kernel
theorem dL_law_119 : decode cL_law 119 = .ok (.bipush 9, 2) := by decide +kernel
theorem dL_law_121 : decode cL_law 121 = .ok (.iload 4, 2) := by decide +kernel
theorem dL_law_123 : decode cL_law 123 = .ok (.aload_n 0, 1) := by decide +kernel
theorem dL_law_124 : decode cL_law 124 = .ok (.iconst 3, 1) := by decide +kernel
theorem dL_law_125 : decode cL_law 125 = .ok (.invokestatic 12, 3) := by decide +kernel
theorem dL_law_128 : decode cL_law 128 = .ok (.bipush 12, 2) := by decide +kernel
theorem dL_law_130 : decode cL_law 130 = .ok (.invokestatic 18, 3) := by decide +kernel
theorem dL_law_133 : decode cL_law 133 = .ok (.iload 5, 2) := by decide +kernel
theorem dL_law_135 : decode cL_law 135 = .ok (.invokevirtual 25, 3) := by decide +kernel
theorem dL_law_138 : decode cL_law 138 = .ok (.sipush 180, 3) := by decide +kernel
theorem dL_law_141 : decode cL_law 141 = .ok (.if_icmp .eq 5, 3) := by decide +kernel
theorem dL_law_144 : decode cL_law 144 = .ok (.iconst 0, 1) := by decide +kernel
theorem dL_law_145 : decode cL_law 145 = .ok (.ireturn, 1) := by decide +kernel
theorem dL_law_146 : decode cL_law 146 = .ok (.iconst 0, 1) := by decide +kernel
theorem dL_law_147 : decode cL_law 147 = .ok (.istore 6, 2) := by decide +kernel
theorem dL_law_149 : decode cL_law 149 = .ok (.iload 6, 2) := by decide +kernel
theorem dL_law_151 : decode cL_law 151 = .ok (.iconst 2, 1) := by decide +kernel
theorem dL_law_152 : decode cL_law 152 = .ok (.if_icmp .ge 520, 3) := by decide +kernel
theorem dL_law_155 : decode cL_law 155 = .ok (.iconst 0, 1) := by decide +kernel
theorem dL_law_156 : decode cL_law 156 = .ok (.istore 7, 2) := by decide +kernel
theorem dL_law_158 : decode cL_law 158 = .ok (.iload 7, 2) := by decide +kernel
theorem dL_law_160 : decode cL_law 160 = .ok (.iload_n 2, 1) := by decide +kernel
theorem dL_law_161 : decode cL_law 161 = .ok (.if_icmp .ge 76, 3) := by decide +kernel
theorem dL_law_164 : decode cL_law 164 = .ok (.iload 7, 2) := by decide +kernel
theorem dL_law_166 : decode cL_law 166 = .ok (.iconst 3, 1) := by decide +kernel
theorem dL_law_167 : decode cL_law 167 = .ok (.if_icmp .lt 19, 3) := by decide +kernel
theorem dL_law_170 : decode cL_law 170 = .ok (.aload_n 0, 1) := by decide +kernel
theorem dL_law_171 : decode cL_law 171 = .ok (.iload 7, 2) := by decide +kernel
theorem dL_law_173 : decode cL_law 173 = .ok (.iload 6, 2) := by decide +kernel
theorem dL_law_175 : decode cL_law 175 = .ok (.iadd, 1) := by decide +kernel
theorem dL_law_176 : decode cL_law 176 = .ok (.invokestatic 12, 3) := by decide +kernel
theorem dL_law_179 : decode cL_law 179 = .ok (.iconst 5, 1) := by decide +kernel
theorem dL_law_180 : decode cL_law 180 = .ok (.invokestatic 18, 3) := by decide +kernel
theorem dL_law_183 : decode cL_law 183 = .ok (.ifCond .le 48, 3) := by decide +kernel
theorem dL_law_186 : decode cL_law 186 = .ok (.aload_n 1, 1) := by decide +kernel
theorem dL_law_187 : decode cL_law 187 = .ok (.iload 7, 2) := by decide +kernel
theorem dL_law_189 : decode cL_law 189 = .ok (.bipush 60, 2) := by decide +kernel
theorem dL_law_191 : decode cL_law 191 = .ok (.aload_n 0, 1) := by decide +kernel
theorem dL_law_192 : decode cL_law 192 = .ok (.iload 7, 2) := by decide +kernel
theorem dL_law_194 : decode cL_law 194 = .ok (.iload 6, 2) := by decide +kernel
theorem dL_law_196 : decode cL_law 196 = .ok (.iadd, 1) := by decide +kernel
theorem dL_law_197 : decode cL_law 197 = .ok (.invokestatic 12, 3) := by decide +kernel
theorem dL_law_200 : decode cL_law 200 = .ok (.iconst 3, 1) := by decide +kernel
theorem dL_law_201 : decode cL_law 201 = .ok (.ishr, 1) := by decide +kernel
theorem dL_law_202 : decode cL_law 202 = .ok (.sipush 200, 3) := by decide +kernel
theorem dL_law_205 : decode cL_law 205 = .ok (.invokestatic 18, 3) := by decide +kernel
theorem dL_law_208 : decode cL_law 208 = .ok (.iadd, 1) := by decide +kernel
theorem dL_law_209 : decode cL_law 209 = .ok (.iconst 1, 1) := by decide +kernel
theorem dL_law_210 : decode cL_law 210 = .ok (.aload_n 0, 1) := by decide +kernel
theorem dL_law_211 : decode cL_law 211 = .ok (.iload 7, 2) := by decide +kernel
theorem dL_law_213 : decode cL_law 213 = .ok (.invokestatic 12, 3) := by decide +kernel
theorem dL_law_216 : decode cL_law 216 = .ok (.iconst 4, 1) := by decide +kernel
theorem dL_law_217 : decode cL_law 217 = .ok (.ishr, 1) := by decide +kernel
theorem dL_law_218 : decode cL_law 218 = .ok (.bipush 10, 2) := by decide +kernel
theorem dL_law_220 : decode cL_law 220 = .ok (.invokestatic 18, 3) := by decide +kernel
theorem dL_law_223 : decode cL_law 223 = .ok (.invokevirtual 29, 3) := by decide +kernel
theorem dL_law_226 : decode cL_law 226 = .ok (.ifCond .ge 5, 3) := by decide +kernel
theorem dL_law_229 : decode cL_law 229 = .ok (.iconst 0, 1) := by decide +kernel
theorem dL_law_230 : decode cL_law 230 = .ok (.ireturn, 1) := by decide +kernel
theorem dL_law_231 : decode cL_law 231 = .ok (.iinc 7 1, 3) := by decide +kernel
theorem dL_law_234 : decode cL_law 234 = .ok (.goto (-76), 3) := by decide +kernel
theorem dL_law_237 : decode cL_law 237 = .ok (.aload_n 1, 1) := by decide +kernel
theorem dL_law_238 : decode cL_law 238 = .ok (.iconst 3, 1) := by decide +kernel
theorem dL_law_239 : decode cL_law 239 = .ok (.invokevirtual 33, 3) := by decide +kernel
theorem dL_law_242 : decode cL_law 242 = .ok (.istore 7, 2) := by decide +kernel
theorem dL_law_244 : decode cL_law 244 = .ok (.aload_n 1, 1) := by decide +kernel
theorem dL_law_245 : decode cL_law 245 = .ok (.iconst 5, 1) := by decide +kernel
theorem dL_law_246 : decode cL_law 246 = .ok (.invokevirtual 33, 3) := by decide +kernel
theorem dL_law_249 : decode cL_law 249 = .ok (.istore 8, 2) := by decide +kernel
theorem dL_law_251 : decode cL_law 251 = .ok (.aload_n 1, 1) := by decide +kernel
theorem dL_law_252 : decode cL_law 252 = .ok (.invokevirtual 37, 3) := by decide +kernel
theorem dL_law_255 : decode cL_law 255 = .ok (.istore 9, 2) := by decide +kernel
theorem dL_law_257 : decode cL_law 257 = .ok (.iload 9, 2) := by decide +kernel
theorem dL_law_259 : decode cL_law 259 = .ok (.ifCond .lt 22, 3) := by decide +kernel
theorem dL_law_262 : decode cL_law 262 = .ok (.aload_n 1, 1) := by decide +kernel
theorem dL_law_263 : decode cL_law 263 = .ok (.iload 9, 2) := by decide +kernel
theorem dL_law_265 : decode cL_law 265 = .ok (.bipush 100, 2) := by decide +kernel
theorem dL_law_267 : decode cL_law 267 = .ok (.idiv, 1) := by decide +kernel
theorem dL_law_268 : decode cL_law 268 = .ok (.iload 9, 2) := by decide +kernel
theorem dL_law_270 : decode cL_law 270 = .ok (.bipush 100, 2) := by decide +kernel
theorem dL_law_272 : decode cL_law 272 = .ok (.irem, 1) := by decide +kernel
theorem dL_law_273 : decode cL_law 273 = .ok (.invokevirtual 41, 3) := by decide +kernel
theorem dL_law_276 : decode cL_law 276 = .ok (.iload 8, 2) := by decide +kernel
theorem dL_law_278 : decode cL_law 278 = .ok (.if_icmp .ge 12, 3) := by decide +kernel
theorem dL_law_281 : decode cL_law 281 = .ok (.aload_n 1, 1) := by decide +kernel
theorem dL_law_282 : decode cL_law 282 = .ok (.invokevirtual 44, 3) := by decide +kernel
theorem dL_law_285 : decode cL_law 285 = .ok (.iload 7, 2) := by decide +kernel
theorem dL_law_287 : decode cL_law 287 = .ok (.if_icmp .eq 5, 3) := by decide +kernel
theorem dL_law_290 : decode cL_law 290 = .ok (.iconst 0, 1) := by decide +kernel
theorem dL_law_291 : decode cL_law 291 = .ok (.ireturn, 1) := by decide +kernel
theorem dL_law_292 : decode cL_law 292 = .ok (.iload_n 2, 1) := by decide +kernel
theorem dL_law_293 : decode cL_law 293 = .ok (.bipush 10, 2) := by decide +kernel
theorem dL_law_295 : decode cL_law 295 = .ok (.imul, 1) := by decide +kernel
theorem dL_law_296 : decode cL_law 296 = .ok (.newarray .int, 2) := by decide +kernel
theorem dL_law_298 : decode cL_law 298 = .ok (.astore 10, 2) := by decide +kernel
theorem dL_law_300 : decode cL_law 300 = .ok (.iconst 0, 1) := by decide +kernel
theorem dL_law_301 : decode cL_law 301 = .ok (.istore 11, 2) := by decide +kernel
theorem dL_law_303 : decode cL_law 303 = .ok (.iload 11, 2) := by decide +kernel
theorem dL_law_305 : decode cL_law 305 = .ok (.bipush 50, 2) := by decide +kernel
theorem dL_law_307 : decode cL_law 307 = .ok (.if_icmp .ge 309, 3) := by decide +kernel
theorem dL_law_310 : decode cL_law 310 = .ok (.aload_n 0, 1) := by decide +kernel
theorem dL_law_311 : decode cL_law 311 = .ok (.iload 11, 2) := by decide +kernel
theorem dL_law_313 : decode cL_law 313 = .ok (.iconst 5, 1) := by decide +kernel
theorem dL_law_314 : decode cL_law 314 = .ok (.iload 6, 2) := by decide +kernel
theorem dL_law_316 : decode cL_law 316 = .ok (.imul, 1) := by decide +kernel
theorem dL_law_317 : decode cL_law 317 = .ok (.iadd, 1) := by decide +kernel
theorem dL_law_318 : decode cL_law 318 = .ok (.bipush 16, 2) := by decide +kernel
theorem dL_law_320 : decode cL_law 320 = .ok (.irem, 1) := by decide +kernel
theorem dL_law_321 : decode cL_law 321 = .ok (.invokestatic 12, 3) := by decide +kernel
theorem dL_law_324 : decode cL_law 324 = .ok (.bipush 31, 2) := by decide +kernel
theorem dL_law_326 : decode cL_law 326 = .ok (.iload 11, 2) := by decide +kernel
theorem dL_law_328 : decode cL_law 328 = .ok (.imul, 1) := by decide +kernel
theorem dL_law_329 : decode cL_law 329 = .ok (.iadd, 1) := by decide +kernel
theorem dL_law_330 : decode cL_law 330 = .ok (.istore 12, 2) := by decide +kernel
theorem dL_law_332 : decode cL_law 332 = .ok (.iload 12, 2) := by decide +kernel
theorem dL_law_334 : decode cL_law 334 = .ok (.iload_n 2, 1) := by decide +kernel
theorem dL_law_335 : decode cL_law 335 = .ok (.invokestatic 18, 3) := by decide +kernel
theorem dL_law_338 : decode cL_law 338 = .ok (.istore 13, 2) := by decide +kernel
theorem dL_law_340 : decode cL_law 340 = .ok (.aload_n 1, 1) := by decide +kernel
theorem dL_law_341 : decode cL_law 341 = .ok (.iload 12, 2) := by decide +kernel
theorem dL_law_343 : decode cL_law 343 = .ok (.iconst 2, 1) := by decide +kernel
theorem dL_law_344 : decode cL_law 344 = .ok (.ishr, 1) := by decide +kernel
theorem dL_law_345 : decode cL_law 345 = .ok (.iload 7, 2) := by decide +kernel
theorem dL_law_347 : decode cL_law 347 = .ok (.invokestatic 18, 3) := by decide +kernel
theorem dL_law_350 : decode cL_law 350 = .ok (.invokevirtual 47, 3) := by decide +kernel
theorem dL_law_353 : decode cL_law 353 = .ok (.istore 14, 2) := by decide +kernel
theorem dL_law_355 : decode cL_law 355 = .ok (.iload 12, 2) := by decide +kernel
theorem dL_law_357 : decode cL_law 357 = .ok (.iconst 5, 1) := by decide +kernel
theorem dL_law_358 : decode cL_law 358 = .ok (.ishr, 1) := by decide +kernel
theorem dL_law_359 : decode cL_law 359 = .ok (.bipush 10, 2) := by decide +kernel
theorem dL_law_361 : decode cL_law 361 = .ok (.invokestatic 18, 3) := by decide +kernel
theorem dL_law_364 : decode cL_law 364 = .ok (.istore 15, 2) := by decide +kernel
theorem dL_law_366 : decode cL_law 366 = .ok (.iload 15, 2) := by decide +kernel
theorem dL_law_368 : decode cL_law 368 = .ok (.iconst 5, 1) := by decide +kernel
theorem dL_law_369 : decode cL_law 369 = .ok (.if_icmp .ge 33, 3) := by decide +kernel
theorem dL_law_372 : decode cL_law 372 = .ok (.aload_n 1, 1) := by decide +kernel
theorem dL_law_373 : decode cL_law 373 = .ok (.iload 13, 2) := by decide +kernel
theorem dL_law_375 : decode cL_law 375 = .ok (.iload 12, 2) := by decide +kernel
theorem dL_law_377 : decode cL_law 377 = .ok (.iconst 3, 1) := by decide +kernel
theorem dL_law_378 : decode cL_law 378 = .ok (.ishr, 1) := by decide +kernel
theorem dL_law_379 : decode cL_law 379 = .ok (.iconst 5, 1) := by decide +kernel
theorem dL_law_380 : decode cL_law 380 = .ok (.invokestatic 18, 3) := by decide +kernel
theorem dL_law_383 : decode cL_law 383 = .ok (.iload 12, 2) := by decide +kernel
theorem dL_law_385 : decode cL_law 385 = .ok (.bipush 6, 2) := by decide +kernel
theorem dL_law_387 : decode cL_law 387 = .ok (.ishr, 1) := by decide +kernel
theorem dL_law_388 : decode cL_law 388 = .ok (.iconst 2, 1) := by decide +kernel
theorem dL_law_389 : decode cL_law 389 = .ok (.invokestatic 18, 3) := by decide +kernel
theorem dL_law_392 : decode cL_law 392 = .ok (.invokevirtual 50, 3) := by decide +kernel
theorem dL_law_395 : decode cL_law 395 = .ok (.iload 13, 2) := by decide +kernel
theorem dL_law_397 : decode cL_law 397 = .ok (.if_icmp .ne 213, 3) := by decide +kernel
theorem dL_law_400 : decode cL_law 400 = .ok (.iconst 0, 1) := by decide +kernel
theorem dL_law_401 : decode cL_law 401 = .ok (.ireturn, 1) := by decide +kernel
theorem dL_law_402 : decode cL_law 402 = .ok (.iload 15, 2) := by decide +kernel
theorem dL_law_404 : decode cL_law 404 = .ok (.bipush 9, 2) := by decide +kernel
theorem dL_law_406 : decode cL_law 406 = .ok (.if_icmp .ge 142, 3) := by decide +kernel
theorem dL_law_409 : decode cL_law 409 = .ok (.iload 14, 2) := by decide +kernel
theorem dL_law_411 : decode cL_law 411 = .ok (.iload 13, 2) := by decide +kernel
theorem dL_law_413 : decode cL_law 413 = .ok (.if_icmp .eq 135, 3) := by decide +kernel
theorem dL_law_416 : decode cL_law 416 = .ok (.aload_n 1, 1) := by decide +kernel
theorem dL_law_417 : decode cL_law 417 = .ok (.iload 14, 2) := by decide +kernel
theorem dL_law_419 : decode cL_law 419 = .ok (.iconst 4, 1) := by decide +kernel
theorem dL_law_420 : decode cL_law 420 = .ok (.invokevirtual 54, 3) := by decide +kernel
theorem dL_law_423 : decode cL_law 423 = .ok (.ifCond .ne 125, 3) := by decide +kernel
theorem dL_law_426 : decode cL_law 426 = .ok (.iload 12, 2) := by decide +kernel
theorem dL_law_428 : decode cL_law 428 = .ok (.iconst 4, 1) := by decide +kernel
theorem dL_law_429 : decode cL_law 429 = .ok (.ishr, 1) := by decide +kernel
theorem dL_law_430 : decode cL_law 430 = .ok (.bipush 10, 2) := by decide +kernel
theorem dL_law_432 : decode cL_law 432 = .ok (.invokestatic 18, 3) := by decide +kernel
theorem dL_law_435 : decode cL_law 435 = .ok (.istore 16, 2) := by decide +kernel
theorem dL_law_437 : decode cL_law 437 = .ok (.iload 12, 2) := by decide +kernel
theorem dL_law_439 : decode cL_law 439 = .ok (.bipush 7, 2) := by decide +kernel
theorem dL_law_441 : decode cL_law 441 = .ok (.ishr, 1) := by decide +kernel
theorem dL_law_442 : decode cL_law 442 = .ok (.iconst 2, 1) := by decide +kernel
theorem dL_law_443 : decode cL_law 443 = .ok (.invokestatic 18, 3) := by decide +kernel
theorem dL_law_446 : decode cL_law 446 = .ok (.ifCond .ne 8, 3) := by decide +kernel
theorem dL_law_449 : decode cL_law 449 = .ok (.iload 4, 2) := by decide +kernel
theorem dL_law_451 : decode cL_law 451 = .ok (.goto 14, 3) := by decide +kernel
theorem dL_law_454 : decode cL_law 454 = .ok (.iconst 1, 1) := by decide +kernel
theorem dL_law_455 : decode cL_law 455 = .ok (.iload 12, 2) := by decide +kernel
theorem dL_law_457 : decode cL_law 457 = .ok (.iconst 2, 1) := by decide +kernel
theorem dL_law_458 : decode cL_law 458 = .ok (.ishr, 1) := by decide +kernel
theorem dL_law_459 : decode cL_law 459 = .ok (.bipush 9, 2) := by decide +kernel
theorem dL_law_461 : decode cL_law 461 = .ok (.invokestatic 18, 3) := by decide +kernel
theorem dL_law_464 : decode cL_law 464 = .ok (.iadd, 1) := by decide +kernel
theorem dL_law_465 : decode cL_law 465 = .ok (.istore 17, 2) := by decide +kernel
theorem dL_law_467 : decode cL_law 467 = .ok (.aload_n 1, 1) := by decide +kernel
theorem dL_law_468 : decode cL_law 468 = .ok (.iload 13, 2) := by decide +kernel
theorem dL_law_470 : decode cL_law 470 = .ok (.iload 16, 2) := by decide +kernel
theorem dL_law_472 : decode cL_law 472 = .ok (.iload 14, 2) := by decide +kernel
theorem dL_law_474 : decode cL_law 474 = .ok (.iload 17, 2) := by decide +kernel
theorem dL_law_476 : decode cL_law 476 = .ok (.invokevirtual 57, 3) := by decide +kernel
theorem dL_law_479 : decode cL_law 479 = .ok (.istore 18, 2) := by decide +kernel
theorem dL_law_481 : decode cL_law 481 = .ok (.aload 10, 2) := by decide +kernel
theorem dL_law_483 : decode cL_law 483 = .ok (.bipush 10, 2) := by decide +kernel
theorem dL_law_485 : decode cL_law 485 = .ok (.iload 13, 2) := by decide +kernel
theorem dL_law_487 : decode cL_law 487 = .ok (.imul, 1) := by decide +kernel
theorem dL_law_488 : decode cL_law 488 = .ok (.iload 16, 2) := by decide +kernel
theorem dL_law_490 : decode cL_law 490 = .ok (.iadd, 1) := by decide +kernel
theorem dL_law_491 : decode cL_law 491 = .ok (.dup2, 1) := by decide +kernel
theorem dL_law_492 : decode cL_law 492 = .ok (.iaload, 1) := by decide +kernel
theorem dL_law_493 : decode cL_law 493 = .ok (.iload 18, 2) := by decide +kernel
theorem dL_law_495 : decode cL_law 495 = .ok (.iadd, 1) := by decide +kernel
theorem dL_law_496 : decode cL_law 496 = .ok (.iastore, 1) := by decide +kernel
theorem dL_law_497 : decode cL_law 497 = .ok (.iload 18, 2) := by decide +kernel
theorem dL_law_499 : decode cL_law 499 = .ok (.iload 17, 2) := by decide +kernel
theorem dL_law_501 : decode cL_law 501 = .ok (.if_icmp .gt 42, 3) := by decide +kernel
theorem dL_law_504 : decode cL_law 504 = .ok (.aload 10, 2) := by decide +kernel
theorem dL_law_506 : decode cL_law 506 = .ok (.bipush 10, 2) := by decide +kernel
theorem dL_law_508 : decode cL_law 508 = .ok (.iload 13, 2) := by decide +kernel
theorem dL_law_510 : decode cL_law 510 = .ok (.imul, 1) := by decide +kernel
theorem dL_law_511 : decode cL_law 511 = .ok (.iload 16, 2) := by decide +kernel
theorem dL_law_513 : decode cL_law 513 = .ok (.iadd, 1) := by decide +kernel
theorem dL_law_514 : decode cL_law 514 = .ok (.iaload, 1) := by decide +kernel
theorem dL_law_515 : decode cL_law 515 = .ok (.iload 4, 2) := by decide +kernel
theorem dL_law_517 : decode cL_law 517 = .ok (.if_icmp .gt 26, 3) := by decide +kernel
theorem dL_law_520 : decode cL_law 520 = .ok (.iload 18, 2) := by decide +kernel
theorem dL_law_522 : decode cL_law 522 = .ok (.iload 17, 2) := by decide +kernel
theorem dL_law_524 : decode cL_law 524 = .ok (.if_icmp .ge 21, 3) := by decide +kernel
theorem dL_law_527 : decode cL_law 527 = .ok (.aload 10, 2) := by decide +kernel
theorem dL_law_529 : decode cL_law 529 = .ok (.bipush 10, 2) := by decide +kernel
theorem dL_law_531 : decode cL_law 531 = .ok (.iload 13, 2) := by decide +kernel
theorem dL_law_533 : decode cL_law 533 = .ok (.imul, 1) := by decide +kernel
theorem dL_law_534 : decode cL_law 534 = .ok (.iload 16, 2) := by decide +kernel
theorem dL_law_536 : decode cL_law 536 = .ok (.iadd, 1) := by decide +kernel
theorem dL_law_537 : decode cL_law 537 = .ok (.iaload, 1) := by decide +kernel
theorem dL_law_538 : decode cL_law 538 = .ok (.iload 4, 2) := by decide +kernel
theorem dL_law_540 : decode cL_law 540 = .ok (.if_icmp .ge 5, 3) := by decide +kernel
theorem dL_law_543 : decode cL_law 543 = .ok (.iconst 0, 1) := by decide +kernel
theorem dL_law_544 : decode cL_law 544 = .ok (.ireturn, 1) := by decide +kernel
theorem dL_law_545 : decode cL_law 545 = .ok (.goto 65, 3) := by decide +kernel
theorem dL_law_548 : decode cL_law 548 = .ok (.iload 15, 2) := by decide +kernel
theorem dL_law_550 : decode cL_law 550 = .ok (.bipush 9, 2) := by decide +kernel
theorem dL_law_552 : decode cL_law 552 = .ok (.if_icmp .ne 58, 3) := by decide +kernel
theorem dL_law_555 : decode cL_law 555 = .ok (.aload_n 1, 1) := by decide +kernel
theorem dL_law_556 : decode cL_law 556 = .ok (.iconst 3, 1) := by decide +kernel
theorem dL_law_557 : decode cL_law 557 = .ok (.invokevirtual 33, 3) := by decide +kernel
theorem dL_law_560 : decode cL_law 560 = .ok (.aload_n 1, 1) := by decide +kernel
theorem dL_law_561 : decode cL_law 561 = .ok (.iconst 4, 1) := by decide +kernel
theorem dL_law_562 : decode cL_law 562 = .ok (.invokevirtual 33, 3) := by decide +kernel
theorem dL_law_565 : decode cL_law 565 = .ok (.isub, 1) := by decide +kernel
theorem dL_law_566 : decode cL_law 566 = .ok (.iconst 3, 1) := by decide +kernel
theorem dL_law_567 : decode cL_law 567 = .ok (.if_icmp .le 43, 3) := by decide +kernel
theorem dL_law_570 : decode cL_law 570 = .ok (.aload_n 1, 1) := by decide +kernel
theorem dL_law_571 : decode cL_law 571 = .ok (.iload 14, 2) := by decide +kernel
theorem dL_law_573 : decode cL_law 573 = .ok (.iconst 4, 1) := by decide +kernel
theorem dL_law_574 : decode cL_law 574 = .ok (.invokevirtual 54, 3) := by decide +kernel
theorem dL_law_577 : decode cL_law 577 = .ok (.ifCond .ne 33, 3) := by decide +kernel
theorem dL_law_580 : decode cL_law 580 = .ok (.iload 12, 2) := by decide +kernel
theorem dL_law_582 : decode cL_law 582 = .ok (.iconst 4, 1) := by decide +kernel
theorem dL_law_583 : decode cL_law 583 = .ok (.ishr, 1) := by decide +kernel
theorem dL_law_584 : decode cL_law 584 = .ok (.iconst 3, 1) := by decide +kernel
theorem dL_law_585 : decode cL_law 585 = .ok (.invokestatic 18, 3) := by decide +kernel
theorem dL_law_588 : decode cL_law 588 = .ok (.ifCond .ne 22, 3) := by decide +kernel
theorem dL_law_591 : decode cL_law 591 = .ok (.aload_n 1, 1) := by decide +kernel
theorem dL_law_592 : decode cL_law 592 = .ok (.iload 14, 2) := by decide +kernel
theorem dL_law_594 : decode cL_law 594 = .ok (.invokevirtual 60, 3) := by decide +kernel
theorem dL_law_597 : decode cL_law 597 = .ok (.iload 7, 2) := by decide +kernel
theorem dL_law_599 : decode cL_law 599 = .ok (.aload_n 1, 1) := by decide +kernel
theorem dL_law_600 : decode cL_law 600 = .ok (.iconst 4, 1) := by decide +kernel
theorem dL_law_601 : decode cL_law 601 = .ok (.invokevirtual 33, 3) := by decide +kernel
theorem dL_law_604 : decode cL_law 604 = .ok (.isub, 1) := by decide +kernel
theorem dL_law_605 : decode cL_law 605 = .ok (.if_icmp .eq 5, 3) := by decide +kernel
theorem dL_law_608 : decode cL_law 608 = .ok (.iconst 0, 1) := by decide +kernel
theorem dL_law_609 : decode cL_law 609 = .ok (.ireturn, 1) := by decide +kernel
theorem dL_law_610 : decode cL_law 610 = .ok (.iinc 11 1, 3) := by decide +kernel
theorem dL_law_613 : decode cL_law 613 = .ok (.goto (-310), 3) := by decide +kernel
theorem dL_law_616 : decode cL_law 616 = .ok (.aload_n 1, 1) := by decide +kernel
theorem dL_law_617 : decode cL_law 617 = .ok (.bipush 6, 2) := by decide +kernel
theorem dL_law_619 : decode cL_law 619 = .ok (.invokevirtual 33, 3) := by decide +kernel
theorem dL_law_622 : decode cL_law 622 = .ok (.istore 11, 2) := by decide +kernel
theorem dL_law_624 : decode cL_law 624 = .ok (.aload_n 1, 1) := by decide +kernel
theorem dL_law_625 : decode cL_law 625 = .ok (.iload_n 2, 1) := by decide +kernel
theorem dL_law_626 : decode cL_law 626 = .ok (.iload 5, 2) := by decide +kernel
theorem dL_law_628 : decode cL_law 628 = .ok (.invokestatic 63, 3) := by decide +kernel
theorem dL_law_631 : decode cL_law 631 = .ok (.ifCond .eq 33, 3) := by decide +kernel
theorem dL_law_634 : decode cL_law 634 = .ok (.aload_n 1, 1) := by decide +kernel
theorem dL_law_635 : decode cL_law 635 = .ok (.invokevirtual 67, 3) := by decide +kernel
theorem dL_law_638 : decode cL_law 638 = .ok (.iload 11, 2) := by decide +kernel
theorem dL_law_640 : decode cL_law 640 = .ok (.if_icmp .ne 24, 3) := by decide +kernel
theorem dL_law_643 : decode cL_law 643 = .ok (.aload_n 1, 1) := by decide +kernel
theorem dL_law_644 : decode cL_law 644 = .ok (.aload_n 0, 1) := by decide +kernel
theorem dL_law_645 : decode cL_law 645 = .ok (.iload_n 2, 1) := by decide +kernel
theorem dL_law_646 : decode cL_law 646 = .ok (.iload 6, 2) := by decide +kernel
theorem dL_law_648 : decode cL_law 648 = .ok (.invokestatic 70, 3) := by decide +kernel
theorem dL_law_651 : decode cL_law 651 = .ok (.ifCond .eq 13, 3) := by decide +kernel
theorem dL_law_654 : decode cL_law 654 = .ok (.aload_n 1, 1) := by decide +kernel
theorem dL_law_655 : decode cL_law 655 = .ok (.aload_n 3, 1) := by decide +kernel
theorem dL_law_656 : decode cL_law 656 = .ok (.iload 7, 2) := by decide +kernel
theorem dL_law_658 : decode cL_law 658 = .ok (.invokestatic 74, 3) := by decide +kernel
theorem dL_law_661 : decode cL_law 661 = .ok (.ifCond .ne 5, 3) := by decide +kernel
theorem dL_law_664 : decode cL_law 664 = .ok (.iconst 0, 1) := by decide +kernel
theorem dL_law_665 : decode cL_law 665 = .ok (.ireturn, 1) := by decide +kernel
theorem dL_law_666 : decode cL_law 666 = .ok (.iinc 6 1, 3) := by decide +kernel
theorem dL_law_669 : decode cL_law 669 = .ok (.goto (-520), 3) := by decide +kernel
theorem dL_law_672 : decode cL_law 672 = .ok (.aload_n 1, 1) := by decide +kernel
theorem dL_law_673 : decode cL_law 673 = .ok (.invokevirtual 78, 3) := by decide +kernel
theorem dL_law_676 : decode cL_law 676 = .ok (.lstore 6, 2) := by decide +kernel
theorem dL_law_678 : decode cL_law 678 = .ok (.aload_n 1, 1) := by decide +kernel
theorem dL_law_679 : decode cL_law 679 = .ok (.invokevirtual 37, 3) := by decide +kernel
theorem dL_law_682 : decode cL_law 682 = .ok (.iconst (-1), 1) := by decide +kernel
theorem dL_law_683 : decode cL_law 683 = .ok (.if_icmp .ne 50, 3) := by decide +kernel
theorem dL_law_686 : decode cL_law 686 = .ok (.aload_n 1, 1) := by decide +kernel
theorem dL_law_687 : decode cL_law 687 = .ok (.invokevirtual 82, 3) := by decide +kernel
theorem dL_law_690 : decode cL_law 690 = .ok (.ifCond .ne 43, 3) := by decide +kernel
theorem dL_law_693 : decode cL_law 693 = .ok (.aload_n 1, 1) := by decide +kernel
theorem dL_law_694 : decode cL_law 694 = .ok (.invokevirtual 86, 3) := by decide +kernel
theorem dL_law_697 : decode cL_law 697 = .ok (.iconst (-1), 1) := by decide +kernel
theorem dL_law_698 : decode cL_law 698 = .ok (.if_icmp .ne 35, 3) := by decide +kernel
theorem dL_law_701 : decode cL_law 701 = .ok (.aload_n 1, 1) := by decide +kernel
theorem dL_law_702 : decode cL_law 702 = .ok (.iconst 0, 1) := by decide +kernel
theorem dL_law_703 : decode cL_law 703 = .ok (.invokevirtual 89, 3) := by decide +kernel
theorem dL_law_706 : decode cL_law 706 = .ok (.iconst (-1), 1) := by decide +kernel
theorem dL_law_707 : decode cL_law 707 = .ok (.if_icmp .ne 26, 3) := by decide +kernel
theorem dL_law_710 : decode cL_law 710 = .ok (.aload_n 1, 1) := by decide +kernel
theorem dL_law_711 : decode cL_law 711 = .ok (.invokevirtual 78, 3) := by decide +kernel
theorem dL_law_714 : decode cL_law 714 = .ok (.lload 6, 2) := by decide +kernel
theorem dL_law_716 : decode cL_law 716 = .ok (.lcmp, 1) := by decide +kernel
theorem dL_law_717 : decode cL_law 717 = .ok (.ifCond .ne 16, 3) := by decide +kernel
theorem dL_law_720 : decode cL_law 720 = .ok (.aload_n 1, 1) := by decide +kernel
theorem dL_law_721 : decode cL_law 721 = .ok (.iconst 0, 1) := by decide +kernel
theorem dL_law_722 : decode cL_law 722 = .ok (.invokevirtual 33, 3) := by decide +kernel
theorem dL_law_725 : decode cL_law 725 = .ok (.iconst 2, 1) := by decide +kernel
theorem dL_law_726 : decode cL_law 726 = .ok (.if_icmp .ne 7, 3) := by decide +kernel
theorem dL_law_729 : decode cL_law 729 = .ok (.iconst 1, 1) := by decide +kernel
theorem dL_law_730 : decode cL_law 730 = .ok (.goto 4, 3) := by decide +kernel
theorem dL_law_733 : decode cL_law 733 = .ok (.iconst 0, 1) := by decide +kernel
theorem dL_law_734 : decode cL_law 734 = .ok (.ireturn, 1) := by decide +kernel
theorem dL_areGiven_0 : decode cL_areGiven 0 = .ok (.iload_n 1, 1) := by decide +kernel
theorem dL_areGiven_1 : decode cL_areGiven 1 = .ok (.newarray .int, 2) := by decide +kernel
theorem dL_areGiven_3 : decode cL_areGiven 3 = .ok (.astore_n 3, 1) := by decide +kernel
theorem dL_areGiven_4 : decode cL_areGiven 4 = .ok (.iload_n 1, 1) := by decide +kernel
theorem dL_areGiven_5 : decode cL_areGiven 5 = .ok (.newarray .int, 2) := by decide +kernel
theorem dL_areGiven_7 : decode cL_areGiven 7 = .ok (.astore 4, 2) := by decide +kernel
theorem dL_areGiven_9 : decode cL_areGiven 9 = .ok (.iconst 0, 1) := by decide +kernel
theorem dL_areGiven_10 : decode cL_areGiven 10 = .ok (.istore 5, 2) := by decide +kernel
theorem dL_areGiven_12 : decode cL_areGiven 12 = .ok (.iconst 0, 1) := by decide +kernel
theorem dL_areGiven_13 : decode cL_areGiven 13 = .ok (.istore 6, 2) := by decide +kernel
theorem dL_areGiven_15 : decode cL_areGiven 15 = .ok (.iload 6, 2) := by decide +kernel
theorem dL_areGiven_17 : decode cL_areGiven 17 = .ok (.iload_n 1, 1) := by decide +kernel
theorem dL_areGiven_18 : decode cL_areGiven 18 = .ok (.if_icmp .ge 286, 3) := by decide +kernel
theorem dL_areGiven_21 : decode cL_areGiven 21 = .ok (.bipush 13, 2) := by decide +kernel
theorem dL_areGiven_23 : decode cL_areGiven 23 = .ok (.newarray .int, 2) := by decide +kernel
theorem dL_areGiven_25 : decode cL_areGiven 25 = .ok (.astore 7, 2) := by decide +kernel
theorem dL_areGiven_27 : decode cL_areGiven 27 = .ok (.iconst 0, 1) := by decide +kernel
theorem dL_areGiven_28 : decode cL_areGiven 28 = .ok (.istore 8, 2) := by decide +kernel
theorem dL_areGiven_30 : decode cL_areGiven 30 = .ok (.iload 8, 2) := by decide +kernel
theorem dL_areGiven_32 : decode cL_areGiven 32 = .ok (.iload_n 1, 1) := by decide +kernel
theorem dL_areGiven_33 : decode cL_areGiven 33 = .ok (.if_icmp .ge 147, 3) := by decide +kernel
theorem dL_areGiven_36 : decode cL_areGiven 36 = .ok (.aload_n 0, 1) := by decide +kernel
theorem dL_areGiven_37 : decode cL_areGiven 37 = .ok (.iload 8, 2) := by decide +kernel
theorem dL_areGiven_39 : decode cL_areGiven 39 = .ok (.invokestatic 92, 3) := by decide +kernel
theorem dL_areGiven_42 : decode cL_areGiven 42 = .ok (.ifCond .ne 6, 3) := by decide +kernel
theorem dL_areGiven_45 : decode cL_areGiven 45 = .ok (.goto 129, 3) := by decide +kernel
theorem dL_areGiven_48 : decode cL_areGiven 48 = .ok (.aload_n 0, 1) := by decide +kernel
theorem dL_areGiven_49 : decode cL_areGiven 49 = .ok (.iload 6, 2) := by decide +kernel
theorem dL_areGiven_51 : decode cL_areGiven 51 = .ok (.iload 8, 2) := by decide +kernel
theorem dL_areGiven_53 : decode cL_areGiven 53 = .ok (.iconst 1, 1) := by decide +kernel
theorem dL_areGiven_54 : decode cL_areGiven 54 = .ok (.invokevirtual 96, 3) := by decide +kernel
theorem dL_areGiven_57 : decode cL_areGiven 57 = .ok (.istore 9, 2) := by decide +kernel
theorem dL_areGiven_59 : decode cL_areGiven 59 = .ok (.aload_n 0, 1) := by decide +kernel
theorem dL_areGiven_60 : decode cL_areGiven 60 = .ok (.iload 6, 2) := by decide +kernel
theorem dL_areGiven_62 : decode cL_areGiven 62 = .ok (.iload 8, 2) := by decide +kernel
theorem dL_areGiven_64 : decode cL_areGiven 64 = .ok (.iconst 0, 1) := by decide +kernel
theorem dL_areGiven_65 : decode cL_areGiven 65 = .ok (.invokevirtual 96, 3) := by decide +kernel
theorem dL_areGiven_68 : decode cL_areGiven 68 = .ok (.istore 10, 2) := by decide +kernel
theorem dL_areGiven_70 : decode cL_areGiven 70 = .ok (.iload 9, 2) := by decide +kernel
theorem dL_areGiven_72 : decode cL_areGiven 72 = .ok (.ifCond .lt 62, 3) := by decide +kernel
theorem dL_areGiven_75 : decode cL_areGiven 75 = .ok (.iload 9, 2) := by decide +kernel
theorem dL_areGiven_77 : decode cL_areGiven 77 = .ok (.bipush 12, 2) := by decide +kernel
theorem dL_areGiven_79 : decode cL_areGiven 79 = .ok (.if_icmp .gt 55, 3) := by decide +kernel
theorem dL_areGiven_82 : decode cL_areGiven 82 = .ok (.iload 9, 2) := by decide +kernel
theorem dL_areGiven_84 : decode cL_areGiven 84 = .ok (.bipush 11, 2) := by decide +kernel
theorem dL_areGiven_86 : decode cL_areGiven 86 = .ok (.if_icmp .eq 48, 3) := by decide +kernel
theorem dL_areGiven_89 : decode cL_areGiven 89 = .ok (.iload 9, 2) := by decide +kernel
theorem dL_areGiven_91 : decode cL_areGiven 91 = .ok (.bipush 9, 2) := by decide +kernel
theorem dL_areGiven_93 : decode cL_areGiven 93 = .ok (.if_icmp .eq 41, 3) := by decide +kernel
theorem dL_areGiven_96 : decode cL_areGiven 96 = .ok (.iload 10, 2) := by decide +kernel
theorem dL_areGiven_98 : decode cL_areGiven 98 = .ok (.ifCond .lt 36, 3) := by decide +kernel
theorem dL_areGiven_101 : decode cL_areGiven 101 = .ok (.iload 10, 2) := by decide +kernel
theorem dL_areGiven_103 : decode cL_areGiven 103 = .ok (.bipush 12, 2) := by decide +kernel
theorem dL_areGiven_105 : decode cL_areGiven 105 = .ok (.if_icmp .gt 29, 3) := by decide +kernel
theorem dL_areGiven_108 : decode cL_areGiven 108 = .ok (.iload 8, 2) := by decide +kernel
theorem dL_areGiven_110 : decode cL_areGiven 110 = .ok (.iload 6, 2) := by decide +kernel
theorem dL_areGiven_112 : decode cL_areGiven 112 = .ok (.if_icmp .eq 14, 3) := by decide +kernel
theorem dL_areGiven_115 : decode cL_areGiven 115 = .ok (.aload_n 0, 1) := by decide +kernel
theorem dL_areGiven_116 : decode cL_areGiven 116 = .ok (.iload 8, 2) := by decide +kernel
theorem dL_areGiven_118 : decode cL_areGiven 118 = .ok (.iconst 4, 1) := by decide +kernel
theorem dL_areGiven_119 : decode cL_areGiven 119 = .ok (.invokevirtual 54, 3) := by decide +kernel
theorem dL_areGiven_122 : decode cL_areGiven 122 = .ok (.iconst 1, 1) := by decide +kernel
theorem dL_areGiven_123 : decode cL_areGiven 123 = .ok (.if_icmp .ne 13, 3) := by decide +kernel
theorem dL_areGiven_126 : decode cL_areGiven 126 = .ok (.iload 9, 2) := by decide +kernel
theorem dL_areGiven_128 : decode cL_areGiven 128 = .ok (.iload 10, 2) := by decide +kernel
theorem dL_areGiven_130 : decode cL_areGiven 130 = .ok (.iadd, 1) := by decide +kernel
theorem dL_areGiven_131 : decode cL_areGiven 131 = .ok (.ifCond .le 5, 3) := by decide +kernel
theorem dL_areGiven_134 : decode cL_areGiven 134 = .ok (.iconst 0, 1) := by decide +kernel
theorem dL_areGiven_135 : decode cL_areGiven 135 = .ok (.ireturn, 1) := by decide +kernel
theorem dL_areGiven_136 : decode cL_areGiven 136 = .ok (.aload_n 3, 1) := by decide +kernel
theorem dL_areGiven_137 : decode cL_areGiven 137 = .ok (.iload 8, 2) := by decide +kernel
theorem dL_areGiven_139 : decode cL_areGiven 139 = .ok (.dup2, 1) := by decide +kernel
theorem dL_areGiven_140 : decode cL_areGiven 140 = .ok (.iaload, 1) := by decide +kernel
theorem dL_areGiven_141 : decode cL_areGiven 141 = .ok (.iload 9, 2) := by decide +kernel
theorem dL_areGiven_143 : decode cL_areGiven 143 = .ok (.iadd, 1) := by decide +kernel
theorem dL_areGiven_144 : decode cL_areGiven 144 = .ok (.iastore, 1) := by decide +kernel
theorem dL_areGiven_145 : decode cL_areGiven 145 = .ok (.aload 4, 2) := by decide +kernel
theorem dL_areGiven_147 : decode cL_areGiven 147 = .ok (.iload 8, 2) := by decide +kernel
theorem dL_areGiven_149 : decode cL_areGiven 149 = .ok (.dup2, 1) := by decide +kernel
theorem dL_areGiven_150 : decode cL_areGiven 150 = .ok (.iaload, 1) := by decide +kernel
theorem dL_areGiven_151 : decode cL_areGiven 151 = .ok (.iload 10, 2) := by decide +kernel
theorem dL_areGiven_153 : decode cL_areGiven 153 = .ok (.iadd, 1) := by decide +kernel
theorem dL_areGiven_154 : decode cL_areGiven 154 = .ok (.iastore, 1) := by decide +kernel
theorem dL_areGiven_155 : decode cL_areGiven 155 = .ok (.iload 5, 2) := by decide +kernel
theorem dL_areGiven_157 : decode cL_areGiven 157 = .ok (.iload 9, 2) := by decide +kernel
theorem dL_areGiven_159 : decode cL_areGiven 159 = .ok (.iload 10, 2) := by decide +kernel
theorem dL_areGiven_161 : decode cL_areGiven 161 = .ok (.iadd, 1) := by decide +kernel
theorem dL_areGiven_162 : decode cL_areGiven 162 = .ok (.iadd, 1) := by decide +kernel
theorem dL_areGiven_163 : decode cL_areGiven 163 = .ok (.istore 5, 2) := by decide +kernel
theorem dL_areGiven_165 : decode cL_areGiven 165 = .ok (.aload 7, 2) := by decide +kernel
theorem dL_areGiven_167 : decode cL_areGiven 167 = .ok (.iload 9, 2) := by decide +kernel
theorem dL_areGiven_169 : decode cL_areGiven 169 = .ok (.dup2, 1) := by decide +kernel
theorem dL_areGiven_170 : decode cL_areGiven 170 = .ok (.iaload, 1) := by decide +kernel
theorem dL_areGiven_171 : decode cL_areGiven 171 = .ok (.iconst 1, 1) := by decide +kernel
theorem dL_areGiven_172 : decode cL_areGiven 172 = .ok (.iadd, 1) := by decide +kernel
theorem dL_areGiven_173 : decode cL_areGiven 173 = .ok (.iastore, 1) := by decide +kernel
theorem dL_areGiven_174 : decode cL_areGiven 174 = .ok (.iinc 8 1, 3) := by decide +kernel
theorem dL_areGiven_177 : decode cL_areGiven 177 = .ok (.goto (-147), 3) := by decide +kernel
theorem dL_areGiven_180 : decode cL_areGiven 180 = .ok (.iconst 1, 1) := by decide +kernel
theorem dL_areGiven_181 : decode cL_areGiven 181 = .ok (.istore 8, 2) := by decide +kernel
theorem dL_areGiven_183 : decode cL_areGiven 183 = .ok (.iload 8, 2) := by decide +kernel
theorem dL_areGiven_185 : decode cL_areGiven 185 = .ok (.bipush 13, 2) := by decide +kernel
theorem dL_areGiven_187 : decode cL_areGiven 187 = .ok (.if_icmp .ge 20, 3) := by decide +kernel
theorem dL_areGiven_190 : decode cL_areGiven 190 = .ok (.aload 7, 2) := by decide +kernel
theorem dL_areGiven_192 : decode cL_areGiven 192 = .ok (.iload 8, 2) := by decide +kernel
theorem dL_areGiven_194 : decode cL_areGiven 194 = .ok (.iaload, 1) := by decide +kernel
theorem dL_areGiven_195 : decode cL_areGiven 195 = .ok (.iconst 1, 1) := by decide +kernel
theorem dL_areGiven_196 : decode cL_areGiven 196 = .ok (.if_icmp .le 5, 3) := by decide +kernel
theorem dL_areGiven_199 : decode cL_areGiven 199 = .ok (.iconst 0, 1) := by decide +kernel
theorem dL_areGiven_200 : decode cL_areGiven 200 = .ok (.ireturn, 1) := by decide +kernel
theorem dL_areGiven_201 : decode cL_areGiven 201 = .ok (.iinc 8 1, 3) := by decide +kernel
theorem dL_areGiven_204 : decode cL_areGiven 204 = .ok (.goto (-21), 3) := by decide +kernel
theorem dL_areGiven_207 : decode cL_areGiven 207 = .ok (.aload_n 0, 1) := by decide +kernel
theorem dL_areGiven_208 : decode cL_areGiven 208 = .ok (.iload 6, 2) := by decide +kernel
theorem dL_areGiven_210 : decode cL_areGiven 210 = .ok (.iconst 5, 1) := by decide +kernel
theorem dL_areGiven_211 : decode cL_areGiven 211 = .ok (.invokevirtual 100, 3) := by decide +kernel
theorem dL_areGiven_214 : decode cL_areGiven 214 = .ok (.iconst 1, 1) := by decide +kernel
theorem dL_areGiven_215 : decode cL_areGiven 215 = .ok (.if_icmp .ne 7, 3) := by decide +kernel
theorem dL_areGiven_218 : decode cL_areGiven 218 = .ok (.iconst 1, 1) := by decide +kernel
theorem dL_areGiven_219 : decode cL_areGiven 219 = .ok (.goto 4, 3) := by decide +kernel
theorem dL_areGiven_222 : decode cL_areGiven 222 = .ok (.iconst 0, 1) := by decide +kernel
theorem dL_areGiven_223 : decode cL_areGiven 223 = .ok (.istore 8, 2) := by decide +kernel
theorem dL_areGiven_225 : decode cL_areGiven 225 = .ok (.aload_n 0, 1) := by decide +kernel
theorem dL_areGiven_226 : decode cL_areGiven 226 = .ok (.iload 6, 2) := by decide +kernel
theorem dL_areGiven_228 : decode cL_areGiven 228 = .ok (.iconst 3, 1) := by decide +kernel
theorem dL_areGiven_229 : decode cL_areGiven 229 = .ok (.invokevirtual 100, 3) := by decide +kernel
theorem dL_areGiven_232 : decode cL_areGiven 232 = .ok (.iconst 2, 1) := by decide +kernel
theorem dL_areGiven_233 : decode cL_areGiven 233 = .ok (.if_icmp .ge 8, 3) := by decide +kernel
theorem dL_areGiven_236 : decode cL_areGiven 236 = .ok (.iload 8, 2) := by decide +kernel
theorem dL_areGiven_238 : decode cL_areGiven 238 = .ok (.ifCond .eq 58, 3) := by decide +kernel
theorem dL_areGiven_241 : decode cL_areGiven 241 = .ok (.iload_n 2, 1) := by decide +kernel
theorem dL_areGiven_242 : decode cL_areGiven 242 = .ok (.ifCond .ne 19, 3) := by decide +kernel
theorem dL_areGiven_245 : decode cL_areGiven 245 = .ok (.iload 8, 2) := by decide +kernel
theorem dL_areGiven_247 : decode cL_areGiven 247 = .ok (.ifCond .eq 14, 3) := by decide +kernel
theorem dL_areGiven_250 : decode cL_areGiven 250 = .ok (.aload_n 0, 1) := by decide +kernel
theorem dL_areGiven_251 : decode cL_areGiven 251 = .ok (.iload 6, 2) := by decide +kernel
theorem dL_areGiven_253 : decode cL_areGiven 253 = .ok (.iconst 3, 1) := by decide +kernel
theorem dL_areGiven_254 : decode cL_areGiven 254 = .ok (.invokevirtual 100, 3) := by decide +kernel
theorem dL_areGiven_257 : decode cL_areGiven 257 = .ok (.iconst 1, 1) := by decide +kernel
theorem dL_areGiven_258 : decode cL_areGiven 258 = .ok (.if_icmp .gt 38, 3) := by decide +kernel
theorem dL_areGiven_261 : decode cL_areGiven 261 = .ok (.iload 8, 2) := by decide +kernel
theorem dL_areGiven_263 : decode cL_areGiven 263 = .ok (.ifCond .ne 12, 3) := by decide +kernel
theorem dL_areGiven_266 : decode cL_areGiven 266 = .ok (.aload 7, 2) := by decide +kernel
theorem dL_areGiven_268 : decode cL_areGiven 268 = .ok (.bipush 12, 2) := by decide +kernel
theorem dL_areGiven_270 : decode cL_areGiven 270 = .ok (.iaload, 1) := by decide +kernel
theorem dL_areGiven_271 : decode cL_areGiven 271 = .ok (.iconst 1, 1) := by decide +kernel
theorem dL_areGiven_272 : decode cL_areGiven 272 = .ok (.if_icmp .ne 24, 3) := by decide +kernel
theorem dL_areGiven_275 : decode cL_areGiven 275 = .ok (.aload_n 0, 1) := by decide +kernel
theorem dL_areGiven_276 : decode cL_areGiven 276 = .ok (.iload 6, 2) := by decide +kernel
theorem dL_areGiven_278 : decode cL_areGiven 278 = .ok (.iconst 4, 1) := by decide +kernel
theorem dL_areGiven_279 : decode cL_areGiven 279 = .ok (.invokevirtual 100, 3) := by decide +kernel
theorem dL_areGiven_282 : decode cL_areGiven 282 = .ok (.ifCond .lt 16, 3) := by decide +kernel
theorem dL_areGiven_285 : decode cL_areGiven 285 = .ok (.aload_n 0, 1) := by decide +kernel
theorem dL_areGiven_286 : decode cL_areGiven 286 = .ok (.iload 6, 2) := by decide +kernel
theorem dL_areGiven_288 : decode cL_areGiven 288 = .ok (.iconst 3, 1) := by decide +kernel
theorem dL_areGiven_289 : decode cL_areGiven 289 = .ok (.invokevirtual 100, 3) := by decide +kernel
theorem dL_areGiven_292 : decode cL_areGiven 292 = .ok (.iconst 3, 1) := by decide +kernel
theorem dL_areGiven_293 : decode cL_areGiven 293 = .ok (.if_icmp .ge 5, 3) := by decide +kernel
theorem dL_areGiven_296 : decode cL_areGiven 296 = .ok (.iconst 0, 1) := by decide +kernel
theorem dL_areGiven_297 : decode cL_areGiven 297 = .ok (.ireturn, 1) := by decide +kernel
theorem dL_areGiven_298 : decode cL_areGiven 298 = .ok (.iinc 6 1, 3) := by decide +kernel
theorem dL_areGiven_301 : decode cL_areGiven 301 = .ok (.goto (-286), 3) := by decide +kernel
theorem dL_areGiven_304 : decode cL_areGiven 304 = .ok (.iconst (-1), 1) := by decide +kernel
theorem dL_areGiven_305 : decode cL_areGiven 305 = .ok (.istore 6, 2) := by decide +kernel
theorem dL_areGiven_307 : decode cL_areGiven 307 = .ok (.aload_n 0, 1) := by decide +kernel
theorem dL_areGiven_308 : decode cL_areGiven 308 = .ok (.iconst 3, 1) := by decide +kernel
theorem dL_areGiven_309 : decode cL_areGiven 309 = .ok (.invokevirtual 33, 3) := by decide +kernel
theorem dL_areGiven_312 : decode cL_areGiven 312 = .ok (.aload_n 0, 1) := by decide +kernel
theorem dL_areGiven_313 : decode cL_areGiven 313 = .ok (.iconst 4, 1) := by decide +kernel
theorem dL_areGiven_314 : decode cL_areGiven 314 = .ok (.invokevirtual 33, 3) := by decide +kernel
theorem dL_areGiven_317 : decode cL_areGiven 317 = .ok (.isub, 1) := by decide +kernel
theorem dL_areGiven_318 : decode cL_areGiven 318 = .ok (.istore 7, 2) := by decide +kernel
theorem dL_areGiven_320 : decode cL_areGiven 320 = .ok (.iconst 0, 1) := by decide +kernel
theorem dL_areGiven_321 : decode cL_areGiven 321 = .ok (.istore 8, 2) := by decide +kernel
theorem dL_areGiven_323 : decode cL_areGiven 323 = .ok (.iload 8, 2) := by decide +kernel
theorem dL_areGiven_325 : decode cL_areGiven 325 = .ok (.iload 7, 2) := by decide +kernel
theorem dL_areGiven_327 : decode cL_areGiven 327 = .ok (.if_icmp .ge 103, 3) := by decide +kernel
theorem dL_areGiven_330 : decode cL_areGiven 330 = .ok (.aload_n 0, 1) := by decide +kernel
theorem dL_areGiven_331 : decode cL_areGiven 331 = .ok (.iload 8, 2) := by decide +kernel
theorem dL_areGiven_333 : decode cL_areGiven 333 = .ok (.invokevirtual 103, 3) := by decide +kernel
theorem dL_areGiven_336 : decode cL_areGiven 336 = .ok (.istore 9, 2) := by decide +kernel
theorem dL_areGiven_338 : decode cL_areGiven 338 = .ok (.aload_n 0, 1) := by decide +kernel
theorem dL_areGiven_339 : decode cL_areGiven 339 = .ok (.iload 9, 2) := by decide +kernel
theorem dL_areGiven_341 : decode cL_areGiven 341 = .ok (.bipush 7, 2) := by decide +kernel
theorem dL_areGiven_343 : decode cL_areGiven 343 = .ok (.invokevirtual 54, 3) := by decide +kernel
theorem dL_areGiven_346 : decode cL_areGiven 346 = .ok (.istore 10, 2) := by decide +kernel
theorem dL_areGiven_348 : decode cL_areGiven 348 = .ok (.aload_n 0, 1) := by decide +kernel
theorem dL_areGiven_349 : decode cL_areGiven 349 = .ok (.iload 9, 2) := by decide +kernel
theorem dL_areGiven_351 : decode cL_areGiven 351 = .ok (.bipush 8, 2) := by decide +kernel
theorem dL_areGiven_353 : decode cL_areGiven 353 = .ok (.invokevirtual 54, 3) := by decide +kernel
theorem dL_areGiven_356 : decode cL_areGiven 356 = .ok (.iload 8, 2) := by decide +kernel
theorem dL_areGiven_358 : decode cL_areGiven 358 = .ok (.if_icmp .ne 60, 3) := by decide +kernel
theorem dL_areGiven_361 : decode cL_areGiven 361 = .ok (.aload_n 0, 1) := by decide +kernel
theorem dL_areGiven_362 : decode cL_areGiven 362 = .ok (.iload 9, 2) := by decide +kernel
theorem dL_areGiven_364 : decode cL_areGiven 364 = .ok (.iconst 5, 1) := by decide +kernel
theorem dL_areGiven_365 : decode cL_areGiven 365 = .ok (.invokevirtual 54, 3) := by decide +kernel
theorem dL_areGiven_368 : decode cL_areGiven 368 = .ok (.aload_n 3, 1) := by decide +kernel
theorem dL_areGiven_369 : decode cL_areGiven 369 = .ok (.iload 9, 2) := by decide +kernel
theorem dL_areGiven_371 : decode cL_areGiven 371 = .ok (.iaload, 1) := by decide +kernel
theorem dL_areGiven_372 : decode cL_areGiven 372 = .ok (.if_icmp .ne 46, 3) := by decide +kernel
theorem dL_areGiven_375 : decode cL_areGiven 375 = .ok (.aload_n 0, 1) := by decide +kernel
theorem dL_areGiven_376 : decode cL_areGiven 376 = .ok (.iload 9, 2) := by decide +kernel
theorem dL_areGiven_378 : decode cL_areGiven 378 = .ok (.bipush 6, 2) := by decide +kernel
theorem dL_areGiven_380 : decode cL_areGiven 380 = .ok (.invokevirtual 54, 3) := by decide +kernel
theorem dL_areGiven_383 : decode cL_areGiven 383 = .ok (.aload 4, 2) := by decide +kernel
theorem dL_areGiven_385 : decode cL_areGiven 385 = .ok (.iload 9, 2) := by decide +kernel
theorem dL_areGiven_387 : decode cL_areGiven 387 = .ok (.iaload, 1) := by decide +kernel
theorem dL_areGiven_388 : decode cL_areGiven 388 = .ok (.if_icmp .ne 30, 3) := by decide +kernel
theorem dL_areGiven_391 : decode cL_areGiven 391 = .ok (.iload 10, 2) := by decide +kernel
theorem dL_areGiven_393 : decode cL_areGiven 393 = .ok (.aload_n 3, 1) := by decide +kernel
theorem dL_areGiven_394 : decode cL_areGiven 394 = .ok (.iload 9, 2) := by decide +kernel
theorem dL_areGiven_396 : decode cL_areGiven 396 = .ok (.iaload, 1) := by decide +kernel
theorem dL_areGiven_397 : decode cL_areGiven 397 = .ok (.aload 4, 2) := by decide +kernel
theorem dL_areGiven_399 : decode cL_areGiven 399 = .ok (.iload 9, 2) := by decide +kernel
theorem dL_areGiven_401 : decode cL_areGiven 401 = .ok (.iaload, 1) := by decide +kernel
theorem dL_areGiven_402 : decode cL_areGiven 402 = .ok (.iadd, 1) := by decide +kernel
theorem dL_areGiven_403 : decode cL_areGiven 403 = .ok (.if_icmp .ne 15, 3) := by decide +kernel
theorem dL_areGiven_406 : decode cL_areGiven 406 = .ok (.iload 6, 2) := by decide +kernel
theorem dL_areGiven_408 : decode cL_areGiven 408 = .ok (.ifCond .lt 12, 3) := by decide +kernel
theorem dL_areGiven_411 : decode cL_areGiven 411 = .ok (.iload 10, 2) := by decide +kernel
theorem dL_areGiven_413 : decode cL_areGiven 413 = .ok (.iload 6, 2) := by decide +kernel
theorem dL_areGiven_415 : decode cL_areGiven 415 = .ok (.if_icmp .le 5, 3) := by decide +kernel
theorem dL_areGiven_418 : decode cL_areGiven 418 = .ok (.iconst 0, 1) := by decide +kernel
theorem dL_areGiven_419 : decode cL_areGiven 419 = .ok (.ireturn, 1) := by decide +kernel
theorem dL_areGiven_420 : decode cL_areGiven 420 = .ok (.iload 10, 2) := by decide +kernel
theorem dL_areGiven_422 : decode cL_areGiven 422 = .ok (.istore 6, 2) := by decide +kernel
theorem dL_areGiven_424 : decode cL_areGiven 424 = .ok (.iinc 8 1, 3) := by decide +kernel
theorem dL_areGiven_427 : decode cL_areGiven 427 = .ok (.goto (-104), 3) := by decide +kernel
theorem dL_areGiven_430 : decode cL_areGiven 430 = .ok (.aload_n 0, 1) := by decide +kernel
theorem dL_areGiven_431 : decode cL_areGiven 431 = .ok (.invokevirtual 106, 3) := by decide +kernel
theorem dL_areGiven_434 : decode cL_areGiven 434 = .ok (.iload 5, 2) := by decide +kernel
theorem dL_areGiven_436 : decode cL_areGiven 436 = .ok (.i2d, 1) := by decide +kernel
theorem dL_areGiven_437 : decode cL_areGiven 437 = .ok (.iload 7, 2) := by decide +kernel
theorem dL_areGiven_439 : decode cL_areGiven 439 = .ok (.i2d, 1) := by decide +kernel
theorem dL_areGiven_440 : decode cL_areGiven 440 = .ok (.ddiv, 1) := by decide +kernel
theorem dL_areGiven_441 : decode cL_areGiven 441 = .ok (.dcmp .l, 1) := by decide +kernel
theorem dL_areGiven_442 : decode cL_areGiven 442 = .ok (.ifCond .ne 7, 3) := by decide +kernel
theorem dL_areGiven_445 : decode cL_areGiven 445 = .ok (.iconst 1, 1) := by decide +kernel
theorem dL_areGiven_446 : decode cL_areGiven 446 = .ok (.goto 4, 3) := by decide +kernel
theorem dL_areGiven_449 : decode cL_areGiven 449 = .ok (.iconst 0, 1) := by decide +kernel
theorem dL_areGiven_450 : decode cL_areGiven 450 = .ok (.ireturn, 1) := by decide +kernel
theorem dL_has_0 : decode cL_has 0 = .ok (.aload_n 0, 1) := by decide +kernel
theorem dL_has_1 : decode cL_has 1 = .ok (.iload_n 1, 1) := by decide +kernel
theorem dL_has_2 : decode cL_has 2 = .ok (.iconst 3, 1) := by decide +kernel
theorem dL_has_3 : decode cL_has 3 = .ok (.invokevirtual 54, 3) := by decide +kernel
theorem dL_has_6 : decode cL_has 6 = .ok (.ifCond .lt 7, 3) := by decide +kernel
theorem dL_has_9 : decode cL_has 9 = .ok (.iconst 1, 1) := by decide +kernel
theorem dL_has_10 : decode cL_has 10 = .ok (.goto 4, 3) := by decide +kernel
theorem dL_has_13 : decode cL_has 13 = .ok (.iconst 0, 1) := by decide +kernel
theorem dL_has_14 : decode cL_has 14 = .ok (.ireturn, 1) := by decide +kernel
theorem dL_has_15 : decode cL_has 15 = .ok (.astore_n 2, 1) := by decide +kernel
theorem dL_has_16 : decode cL_has 16 = .ok (.iconst 0, 1) := by decide +kernel
theorem dL_has_17 : decode cL_has 17 = .ok (.ireturn, 1) := by decide +kernel
theorem dL_isRead_0 : decode cL_isRead 0 = .ok (.iconst 0, 1) := by decide +kernel
theorem dL_isRead_1 : decode cL_isRead 1 = .ok (.istore 4, 2) := by decide +kernel
theorem dL_isRead_3 : decode cL_isRead 3 = .ok (.iload 4, 2) := by decide +kernel
theorem dL_isRead_5 : decode cL_isRead 5 = .ok (.iload_n 2, 1) := by decide +kernel
theorem dL_isRead_6 : decode cL_isRead 6 = .ok (.if_icmp .ge 286, 3) := by decide +kernel
theorem dL_isRead_9 : decode cL_isRead 9 = .ok (.aload_n 1, 1) := by decide +kernel
theorem dL_isRead_10 : decode cL_isRead 10 = .ok (.iload_n 3, 1) := by decide +kernel
theorem dL_isRead_11 : decode cL_isRead 11 = .ok (.invokestatic 12, 3) := by decide +kernel
theorem dL_isRead_14 : decode cL_isRead 14 = .ok (.iconst 2, 1) := by decide +kernel
theorem dL_isRead_15 : decode cL_isRead 15 = .ok (.invokestatic 18, 3) := by decide +kernel
theorem dL_isRead_18 : decode cL_isRead 18 = .ok (.ifCond .ne 10, 3) := by decide +kernel
theorem dL_isRead_21 : decode cL_isRead 21 = .ok (.aload_n 0, 1) := by decide +kernel
theorem dL_isRead_22 : decode cL_isRead 22 = .ok (.invokevirtual 86, 3) := by decide +kernel
theorem dL_isRead_25 : decode cL_isRead 25 = .ok (.goto 5, 3) := by decide +kernel
theorem dL_isRead_28 : decode cL_isRead 28 = .ok (.iload 4, 2) := by decide +kernel
theorem dL_isRead_30 : decode cL_isRead 30 = .ok (.istore 5, 2) := by decide +kernel
theorem dL_isRead_32 : decode cL_isRead 32 = .ok (.iload 5, 2) := by decide +kernel
theorem dL_isRead_34 : decode cL_isRead 34 = .ok (.ifCond .lt 26, 3) := by decide +kernel
theorem dL_isRead_37 : decode cL_isRead 37 = .ok (.aload_n 0, 1) := by decide +kernel
theorem dL_isRead_38 : decode cL_isRead 38 = .ok (.iload 5, 2) := by decide +kernel
theorem dL_isRead_40 : decode cL_isRead 40 = .ok (.bipush 8, 2) := by decide +kernel
theorem dL_isRead_42 : decode cL_isRead 42 = .ok (.invokevirtual 100, 3) := by decide +kernel
theorem dL_isRead_45 : decode cL_isRead 45 = .ok (.iconst 1, 1) := by decide +kernel
theorem dL_isRead_46 : decode cL_isRead 46 = .ok (.if_icmp .eq 14, 3) := by decide +kernel
theorem dL_isRead_49 : decode cL_isRead 49 = .ok (.aload_n 0, 1) := by decide +kernel
theorem dL_isRead_50 : decode cL_isRead 50 = .ok (.bipush 7, 2) := by decide +kernel
theorem dL_isRead_52 : decode cL_isRead 52 = .ok (.invokevirtual 33, 3) := by decide +kernel
theorem dL_isRead_55 : decode cL_isRead 55 = .ok (.iload 4, 2) := by decide +kernel
theorem dL_isRead_57 : decode cL_isRead 57 = .ok (.if_icmp .eq 5, 3) := by decide +kernel
theorem dL_isRead_60 : decode cL_isRead 60 = .ok (.iconst 0, 1) := by decide +kernel
theorem dL_isRead_61 : decode cL_isRead 61 = .ok (.ireturn, 1) := by decide +kernel
theorem dL_isRead_62 : decode cL_isRead 62 = .ok (.iload_n 2, 1) := by decide +kernel
theorem dL_isRead_63 : decode cL_isRead 63 = .ok (.newarray .int, 2) := by decide +kernel
theorem dL_isRead_65 : decode cL_isRead 65 = .ok (.astore 6, 2) := by decide +kernel
theorem dL_isRead_67 : decode cL_isRead 67 = .ok (.iconst 0, 1) := by decide +kernel
theorem dL_isRead_68 : decode cL_isRead 68 = .ok (.istore 7, 2) := by decide +kernel
theorem dL_isRead_70 : decode cL_isRead 70 = .ok (.iload 7, 2) := by decide +kernel
theorem dL_isRead_72 : decode cL_isRead 72 = .ok (.iload_n 2, 1) := by decide +kernel
theorem dL_isRead_73 : decode cL_isRead 73 = .ok (.if_icmp .ge 41, 3) := by decide +kernel
theorem dL_isRead_76 : decode cL_isRead 76 = .ok (.aload_n 0, 1) := by decide +kernel
theorem dL_isRead_77 : decode cL_isRead 77 = .ok (.iload 7, 2) := by decide +kernel
theorem dL_isRead_79 : decode cL_isRead 79 = .ok (.invokestatic 92, 3) := by decide +kernel
theorem dL_isRead_82 : decode cL_isRead 82 = .ok (.ifCond .eq 26, 3) := by decide +kernel
theorem dL_isRead_85 : decode cL_isRead 85 = .ok (.aload 6, 2) := by decide +kernel
theorem dL_isRead_87 : decode cL_isRead 87 = .ok (.iload 7, 2) := by decide +kernel
theorem dL_isRead_89 : decode cL_isRead 89 = .ok (.aload_n 0, 1) := by decide +kernel
theorem dL_isRead_90 : decode cL_isRead 90 = .ok (.iload 7, 2) := by decide +kernel
theorem dL_isRead_92 : decode cL_isRead 92 = .ok (.bipush 9, 2) := by decide +kernel
theorem dL_isRead_94 : decode cL_isRead 94 = .ok (.invokevirtual 54, 3) := by decide +kernel
theorem dL_isRead_97 : decode cL_isRead 97 = .ok (.aload_n 0, 1) := by decide +kernel
theorem dL_isRead_98 : decode cL_isRead 98 = .ok (.iload 5, 2) := by decide +kernel
theorem dL_isRead_100 : decode cL_isRead 100 = .ok (.iload 7, 2) := by decide +kernel
theorem dL_isRead_102 : decode cL_isRead 102 = .ok (.iconst 1, 1) := by decide +kernel
theorem dL_isRead_103 : decode cL_isRead 103 = .ok (.invokevirtual 96, 3) := by decide +kernel
theorem dL_isRead_106 : decode cL_isRead 106 = .ok (.iadd, 1) := by decide +kernel
theorem dL_isRead_107 : decode cL_isRead 107 = .ok (.iastore, 1) := by decide +kernel
theorem dL_isRead_108 : decode cL_isRead 108 = .ok (.iinc 7 1, 3) := by decide +kernel
theorem dL_isRead_111 : decode cL_isRead 111 = .ok (.goto (-41), 3) := by decide +kernel
theorem dL_isRead_114 : decode cL_isRead 114 = .ok (.aload_n 0, 1) := by decide +kernel
theorem dL_isRead_115 : decode cL_isRead 115 = .ok (.iload 5, 2) := by decide +kernel
theorem dL_isRead_117 : decode cL_isRead 117 = .ok (.invokevirtual 112, 3) := by decide +kernel
theorem dL_isRead_120 : decode cL_isRead 120 = .ok (.iload_n 2, 1) := by decide +kernel
theorem dL_isRead_121 : decode cL_isRead 121 = .ok (.if_icmp .ge 15, 3) := by decide +kernel
theorem dL_isRead_124 : decode cL_isRead 124 = .ok (.aload_n 0, 1) := by decide +kernel
theorem dL_isRead_125 : decode cL_isRead 125 = .ok (.iload 5, 2) := by decide +kernel
theorem dL_isRead_127 : decode cL_isRead 127 = .ok (.bipush 8, 2) := by decide +kernel
theorem dL_isRead_129 : decode cL_isRead 129 = .ok (.invokevirtual 100, 3) := by decide +kernel
theorem dL_isRead_132 : decode cL_isRead 132 = .ok (.iconst 1, 1) := by decide +kernel
theorem dL_isRead_133 : decode cL_isRead 133 = .ok (.if_icmp .eq 5, 3) := by decide +kernel
theorem dL_isRead_136 : decode cL_isRead 136 = .ok (.iconst 0, 1) := by decide +kernel
theorem dL_isRead_137 : decode cL_isRead 137 = .ok (.ireturn, 1) := by decide +kernel
theorem dL_isRead_138 : decode cL_isRead 138 = .ok (.iconst 0, 1) := by decide +kernel
theorem dL_isRead_139 : decode cL_isRead 139 = .ok (.istore 7, 2) := by decide +kernel
theorem dL_isRead_141 : decode cL_isRead 141 = .ok (.iload 7, 2) := by decide +kernel
theorem dL_isRead_143 : decode cL_isRead 143 = .ok (.iload_n 2, 1) := by decide +kernel
theorem dL_isRead_144 : decode cL_isRead 144 = .ok (.if_icmp .ge 36, 3) := by decide +kernel
theorem dL_isRead_147 : decode cL_isRead 147 = .ok (.aload_n 0, 1) := by decide +kernel
theorem dL_isRead_148 : decode cL_isRead 148 = .ok (.iload 7, 2) := by decide +kernel
theorem dL_isRead_150 : decode cL_isRead 150 = .ok (.invokestatic 92, 3) := by decide +kernel
theorem dL_isRead_153 : decode cL_isRead 153 = .ok (.ifCond .eq 21, 3) := by decide +kernel
theorem dL_isRead_156 : decode cL_isRead 156 = .ok (.aload_n 0, 1) := by decide +kernel
theorem dL_isRead_157 : decode cL_isRead 157 = .ok (.iload 7, 2) := by decide +kernel
theorem dL_isRead_159 : decode cL_isRead 159 = .ok (.bipush 9, 2) := by decide +kernel
theorem dL_isRead_161 : decode cL_isRead 161 = .ok (.invokevirtual 54, 3) := by decide +kernel
theorem dL_isRead_164 : decode cL_isRead 164 = .ok (.aload 6, 2) := by decide +kernel
theorem dL_isRead_166 : decode cL_isRead 166 = .ok (.iload 7, 2) := by decide +kernel
theorem dL_isRead_168 : decode cL_isRead 168 = .ok (.iaload, 1) := by decide +kernel
theorem dL_isRead_169 : decode cL_isRead 169 = .ok (.if_icmp .eq 5, 3) := by decide +kernel
theorem dL_isRead_172 : decode cL_isRead 172 = .ok (.iconst 0, 1) := by decide +kernel
theorem dL_isRead_173 : decode cL_isRead 173 = .ok (.ireturn, 1) := by decide +kernel
theorem dL_isRead_174 : decode cL_isRead 174 = .ok (.iinc 7 1, 3) := by decide +kernel
theorem dL_isRead_177 : decode cL_isRead 177 = .ok (.goto (-36), 3) := by decide +kernel
theorem dL_isRead_180 : decode cL_isRead 180 = .ok (.aload_n 1, 1) := by decide +kernel
theorem dL_isRead_181 : decode cL_isRead 181 = .ok (.iload 4, 2) := by decide +kernel
theorem dL_isRead_183 : decode cL_isRead 183 = .ok (.iconst 4, 1) := by decide +kernel
theorem dL_isRead_184 : decode cL_isRead 184 = .ok (.iadd, 1) := by decide +kernel
theorem dL_isRead_185 : decode cL_isRead 185 = .ok (.invokestatic 12, 3) := by decide +kernel
theorem dL_isRead_188 : decode cL_isRead 188 = .ok (.iconst 3, 1) := by decide +kernel
theorem dL_isRead_189 : decode cL_isRead 189 = .ok (.ishr, 1) := by decide +kernel
theorem dL_isRead_190 : decode cL_isRead 190 = .ok (.bipush 6, 2) := by decide +kernel
theorem dL_isRead_192 : decode cL_isRead 192 = .ok (.invokestatic 18, 3) := by decide +kernel
theorem dL_isRead_195 : decode cL_isRead 195 = .ok (.ifCond .gt 91, 3) := by decide +kernel
theorem dL_isRead_198 : decode cL_isRead 198 = .ok (.aload_n 0, 1) := by decide +kernel
theorem dL_isRead_199 : decode cL_isRead 199 = .ok (.iconst 3, 1) := by decide +kernel
theorem dL_isRead_200 : decode cL_isRead 200 = .ok (.invokevirtual 33, 3) := by decide +kernel
theorem dL_isRead_203 : decode cL_isRead 203 = .ok (.aload_n 0, 1) := by decide +kernel
theorem dL_isRead_204 : decode cL_isRead 204 = .ok (.iconst 4, 1) := by decide +kernel
theorem dL_isRead_205 : decode cL_isRead 205 = .ok (.invokevirtual 33, 3) := by decide +kernel
theorem dL_isRead_208 : decode cL_isRead 208 = .ok (.isub, 1) := by decide +kernel
theorem dL_isRead_209 : decode cL_isRead 209 = .ok (.iconst 4, 1) := by decide +kernel
theorem dL_isRead_210 : decode cL_isRead 210 = .ok (.if_icmp .ge 6, 3) := by decide +kernel
theorem dL_isRead_213 : decode cL_isRead 213 = .ok (.goto 73, 3) := by decide +kernel
theorem dL_isRead_216 : decode cL_isRead 216 = .ok (.aload_n 0, 1) := by decide +kernel
theorem dL_isRead_217 : decode cL_isRead 217 = .ok (.iconst 0, 1) := by decide +kernel
theorem dL_isRead_218 : decode cL_isRead 218 = .ok (.invokevirtual 103, 3) := by decide +kernel
theorem dL_isRead_221 : decode cL_isRead 221 = .ok (.istore 7, 2) := by decide +kernel
theorem dL_isRead_223 : decode cL_isRead 223 = .ok (.aload_n 0, 1) := by decide +kernel
theorem dL_isRead_224 : decode cL_isRead 224 = .ok (.iload 7, 2) := by decide +kernel
theorem dL_isRead_226 : decode cL_isRead 226 = .ok (.invokevirtual 60, 3) := by decide +kernel
theorem dL_isRead_229 : decode cL_isRead 229 = .ok (.aload_n 0, 1) := by decide +kernel
theorem dL_isRead_230 : decode cL_isRead 230 = .ok (.iconst 3, 1) := by decide +kernel
theorem dL_isRead_231 : decode cL_isRead 231 = .ok (.invokevirtual 33, 3) := by decide +kernel
theorem dL_isRead_234 : decode cL_isRead 234 = .ok (.aload_n 0, 1) := by decide +kernel
theorem dL_isRead_235 : decode cL_isRead 235 = .ok (.iconst 4, 1) := by decide +kernel
theorem dL_isRead_236 : decode cL_isRead 236 = .ok (.invokevirtual 33, 3) := by decide +kernel
theorem dL_isRead_239 : decode cL_isRead 239 = .ok (.isub, 1) := by decide +kernel
theorem dL_isRead_240 : decode cL_isRead 240 = .ok (.if_icmp .ne 44, 3) := by decide +kernel
theorem dL_isRead_243 : decode cL_isRead 243 = .ok (.aload_n 0, 1) := by decide +kernel
theorem dL_isRead_244 : decode cL_isRead 244 = .ok (.iload 7, 2) := by decide +kernel
theorem dL_isRead_246 : decode cL_isRead 246 = .ok (.bipush 9, 2) := by decide +kernel
theorem dL_isRead_248 : decode cL_isRead 248 = .ok (.invokevirtual 54, 3) := by decide +kernel
theorem dL_isRead_251 : decode cL_isRead 251 = .ok (.ifCond .ne 33, 3) := by decide +kernel
theorem dL_isRead_254 : decode cL_isRead 254 = .ok (.aload_n 0, 1) := by decide +kernel
theorem dL_isRead_255 : decode cL_isRead 255 = .ok (.iload 7, 2) := by decide +kernel
theorem dL_isRead_257 : decode cL_isRead 257 = .ok (.bipush 8, 2) := by decide +kernel
theorem dL_isRead_259 : decode cL_isRead 259 = .ok (.invokevirtual 54, 3) := by decide +kernel
theorem dL_isRead_262 : decode cL_isRead 262 = .ok (.iconst (-1), 1) := by decide +kernel
theorem dL_isRead_263 : decode cL_isRead 263 = .ok (.if_icmp .ne 21, 3) := by decide +kernel
theorem dL_isRead_266 : decode cL_isRead 266 = .ok (.aload_n 0, 1) := by decide +kernel
theorem dL_isRead_267 : decode cL_isRead 267 = .ok (.iload 5, 2) := by decide +kernel
theorem dL_isRead_269 : decode cL_isRead 269 = .ok (.invokevirtual 115, 3) := by decide +kernel
theorem dL_isRead_272 : decode cL_isRead 272 = .ok (.ifCond .lt 12, 3) := by decide +kernel
theorem dL_isRead_275 : decode cL_isRead 275 = .ok (.aload_n 0, 1) := by decide +kernel
theorem dL_isRead_276 : decode cL_isRead 276 = .ok (.iload 5, 2) := by decide +kernel
theorem dL_isRead_278 : decode cL_isRead 278 = .ok (.invokevirtual 115, 3) := by decide +kernel
theorem dL_isRead_281 : decode cL_isRead 281 = .ok (.ifCond .eq 5, 3) := by decide +kernel
theorem dL_isRead_284 : decode cL_isRead 284 = .ok (.iconst 0, 1) := by decide +kernel
theorem dL_isRead_285 : decode cL_isRead 285 = .ok (.ireturn, 1) := by decide +kernel
theorem dL_isRead_286 : decode cL_isRead 286 = .ok (.iinc 4 1, 3) := by decide +kernel
theorem dL_isRead_289 : decode cL_isRead 289 = .ok (.goto (-286), 3) := by decide +kernel
theorem dL_isRead_292 : decode cL_isRead 292 = .ok (.iconst 0, 1) := by decide +kernel
theorem dL_isRead_293 : decode cL_isRead 293 = .ok (.istore 4, 2) := by decide +kernel
theorem dL_isRead_295 : decode cL_isRead 295 = .ok (.iload 4, 2) := by decide +kernel
theorem dL_isRead_297 : decode cL_isRead 297 = .ok (.iload_n 2, 1) := by decide +kernel
theorem dL_isRead_298 : decode cL_isRead 298 = .ok (.if_icmp .ge 20, 3) := by decide +kernel
theorem dL_isRead_301 : decode cL_isRead 301 = .ok (.aload_n 0, 1) := by decide +kernel
theorem dL_isRead_302 : decode cL_isRead 302 = .ok (.iload 4, 2) := by decide +kernel
theorem dL_isRead_304 : decode cL_isRead 304 = .ok (.invokevirtual 115, 3) := by decide +kernel
theorem dL_isRead_307 : decode cL_isRead 307 = .ok (.ifCond .ge 5, 3) := by decide +kernel
theorem dL_isRead_310 : decode cL_isRead 310 = .ok (.iconst 0, 1) := by decide +kernel
theorem dL_isRead_311 : decode cL_isRead 311 = .ok (.ireturn, 1) := by decide +kernel
theorem dL_isRead_312 : decode cL_isRead 312 = .ok (.iinc 4 1, 3) := by decide +kernel
theorem dL_isRead_315 : decode cL_isRead 315 = .ok (.goto (-20), 3) := by decide +kernel
theorem dL_isRead_318 : decode cL_isRead 318 = .ok (.aload_n 0, 1) := by decide +kernel
theorem dL_isRead_319 : decode cL_isRead 319 = .ok (.iconst 3, 1) := by decide +kernel
theorem dL_isRead_320 : decode cL_isRead 320 = .ok (.invokevirtual 33, 3) := by decide +kernel
theorem dL_isRead_323 : decode cL_isRead 323 = .ok (.aload_n 0, 1) := by decide +kernel
theorem dL_isRead_324 : decode cL_isRead 324 = .ok (.iconst 4, 1) := by decide +kernel
theorem dL_isRead_325 : decode cL_isRead 325 = .ok (.invokevirtual 33, 3) := by decide +kernel
theorem dL_isRead_328 : decode cL_isRead 328 = .ok (.isub, 1) := by decide +kernel
theorem dL_isRead_329 : decode cL_isRead 329 = .ok (.istore 4, 2) := by decide +kernel
theorem dL_isRead_331 : decode cL_isRead 331 = .ok (.iconst 0, 1) := by decide +kernel
theorem dL_isRead_332 : decode cL_isRead 332 = .ok (.istore 5, 2) := by decide +kernel
theorem dL_isRead_334 : decode cL_isRead 334 = .ok (.iload 5, 2) := by decide +kernel
theorem dL_isRead_336 : decode cL_isRead 336 = .ok (.iload 4, 2) := by decide +kernel
theorem dL_isRead_338 : decode cL_isRead 338 = .ok (.if_icmp .ge 78, 3) := by decide +kernel
theorem dL_isRead_341 : decode cL_isRead 341 = .ok (.aload_n 0, 1) := by decide +kernel
theorem dL_isRead_342 : decode cL_isRead 342 = .ok (.invokevirtual 118, 3) := by decide +kernel
theorem dL_isRead_345 : decode cL_isRead 345 = .ok (.istore 6, 2) := by decide +kernel
theorem dL_isRead_347 : decode cL_isRead 347 = .ok (.iload 6, 2) := by decide +kernel
theorem dL_isRead_349 : decode cL_isRead 349 = .ok (.sipush 1000, 3) := by decide +kernel
theorem dL_isRead_352 : decode cL_isRead 352 = .ok (.irem, 1) := by decide +kernel
theorem dL_isRead_353 : decode cL_isRead 353 = .ok (.aload_n 0, 1) := by decide +kernel
theorem dL_isRead_354 : decode cL_isRead 354 = .ok (.iload 6, 2) := by decide +kernel
theorem dL_isRead_356 : decode cL_isRead 356 = .ok (.sipush 1000, 3) := by decide +kernel
theorem dL_isRead_359 : decode cL_isRead 359 = .ok (.idiv, 1) := by decide +kernel
theorem dL_isRead_360 : decode cL_isRead 360 = .ok (.bipush 6, 2) := by decide +kernel
theorem dL_isRead_362 : decode cL_isRead 362 = .ok (.invokevirtual 54, 3) := by decide +kernel
theorem dL_isRead_365 : decode cL_isRead 365 = .ok (.if_icmp .ne 43, 3) := by decide +kernel
theorem dL_isRead_368 : decode cL_isRead 368 = .ok (.aload_n 0, 1) := by decide +kernel
theorem dL_isRead_369 : decode cL_isRead 369 = .ok (.iload 6, 2) := by decide +kernel
theorem dL_isRead_371 : decode cL_isRead 371 = .ok (.sipush 1000, 3) := by decide +kernel
theorem dL_isRead_374 : decode cL_isRead 374 = .ok (.idiv, 1) := by decide +kernel
theorem dL_isRead_375 : decode cL_isRead 375 = .ok (.bipush 9, 2) := by decide +kernel
theorem dL_isRead_377 : decode cL_isRead 377 = .ok (.invokevirtual 54, 3) := by decide +kernel
theorem dL_isRead_380 : decode cL_isRead 380 = .ok (.aload_n 0, 1) := by decide +kernel
theorem dL_isRead_381 : decode cL_isRead 381 = .ok (.iload 6, 2) := by decide +kernel
theorem dL_isRead_383 : decode cL_isRead 383 = .ok (.sipush 1000, 3) := by decide +kernel
theorem dL_isRead_386 : decode cL_isRead 386 = .ok (.idiv, 1) := by decide +kernel
theorem dL_isRead_387 : decode cL_isRead 387 = .ok (.bipush 7, 2) := by decide +kernel
theorem dL_isRead_389 : decode cL_isRead 389 = .ok (.invokevirtual 54, 3) := by decide +kernel
theorem dL_isRead_392 : decode cL_isRead 392 = .ok (.if_icmp .ne 16, 3) := by decide +kernel
theorem dL_isRead_395 : decode cL_isRead 395 = .ok (.aload_n 0, 1) := by decide +kernel
theorem dL_isRead_396 : decode cL_isRead 396 = .ok (.bipush 8, 2) := by decide +kernel
theorem dL_isRead_398 : decode cL_isRead 398 = .ok (.invokevirtual 33, 3) := by decide +kernel
theorem dL_isRead_401 : decode cL_isRead 401 = .ok (.iload 5, 2) := by decide +kernel
theorem dL_isRead_403 : decode cL_isRead 403 = .ok (.iconst 1, 1) := by decide +kernel
theorem dL_isRead_404 : decode cL_isRead 404 = .ok (.iadd, 1) := by decide +kernel
theorem dL_isRead_405 : decode cL_isRead 405 = .ok (.if_icmp .ge 5, 3) := by decide +kernel
theorem dL_isRead_408 : decode cL_isRead 408 = .ok (.iconst 0, 1) := by decide +kernel
theorem dL_isRead_409 : decode cL_isRead 409 = .ok (.ireturn, 1) := by decide +kernel
theorem dL_isRead_410 : decode cL_isRead 410 = .ok (.iinc 5 1, 3) := by decide +kernel
theorem dL_isRead_413 : decode cL_isRead 413 = .ok (.goto (-79), 3) := by decide +kernel
theorem dL_isRead_416 : decode cL_isRead 416 = .ok (.aload_n 0, 1) := by decide +kernel
theorem dL_isRead_417 : decode cL_isRead 417 = .ok (.invokevirtual 82, 3) := by decide +kernel
theorem dL_isRead_420 : decode cL_isRead 420 = .ok (.ifCond .ne 15, 3) := by decide +kernel
theorem dL_isRead_423 : decode cL_isRead 423 = .ok (.aload_n 0, 1) := by decide +kernel
theorem dL_isRead_424 : decode cL_isRead 424 = .ok (.invokevirtual 86, 3) := by decide +kernel
theorem dL_isRead_427 : decode cL_isRead 427 = .ok (.iconst (-1), 1) := by decide +kernel
theorem dL_isRead_428 : decode cL_isRead 428 = .ok (.if_icmp .ne 7, 3) := by decide +kernel
theorem dL_isRead_431 : decode cL_isRead 431 = .ok (.iconst 1, 1) := by decide +kernel
theorem dL_isRead_432 : decode cL_isRead 432 = .ok (.goto 4, 3) := by decide +kernel
theorem dL_isRead_435 : decode cL_isRead 435 = .ok (.iconst 0, 1) := by decide +kernel
theorem dL_isRead_436 : decode cL_isRead 436 = .ok (.ireturn, 1) := by decide +kernel
theorem dL_isEnded_0 : decode cL_isEnded 0 = .ok (.aload_n 0, 1) := by decide +kernel
theorem dL_isEnded_1 : decode cL_isEnded 1 = .ok (.iconst 0, 1) := by decide +kernel
theorem dL_isEnded_2 : decode cL_isEnded 2 = .ok (.invokevirtual 103, 3) := by decide +kernel
theorem dL_isEnded_5 : decode cL_isEnded 5 = .ok (.istore_n 3, 1) := by decide +kernel
theorem dL_isEnded_6 : decode cL_isEnded 6 = .ok (.aload_n 0, 1) := by decide +kernel
theorem dL_isEnded_7 : decode cL_isEnded 7 = .ok (.iload_n 3, 1) := by decide +kernel
theorem dL_isEnded_8 : decode cL_isEnded 8 = .ok (.bipush 9, 2) := by decide +kernel
theorem dL_isEnded_10 : decode cL_isEnded 10 = .ok (.invokevirtual 100, 3) := by decide +kernel
theorem dL_isEnded_13 : decode cL_isEnded 13 = .ok (.istore 4, 2) := by decide +kernel
theorem dL_isEnded_15 : decode cL_isEnded 15 = .ok (.aload_n 1, 1) := by decide +kernel
theorem dL_isEnded_16 : decode cL_isEnded 16 = .ok (.arraylength, 1) := by decide +kernel
theorem dL_isEnded_17 : decode cL_isEnded 17 = .ok (.newarray .int, 2) := by decide +kernel
theorem dL_isEnded_19 : decode cL_isEnded 19 = .ok (.astore 5, 2) := by decide +kernel
theorem dL_isEnded_21 : decode cL_isEnded 21 = .ok (.iconst 0, 1) := by decide +kernel
theorem dL_isEnded_22 : decode cL_isEnded 22 = .ok (.istore 6, 2) := by decide +kernel
theorem dL_isEnded_24 : decode cL_isEnded 24 = .ok (.iload 6, 2) := by decide +kernel
theorem dL_isEnded_26 : decode cL_isEnded 26 = .ok (.aload_n 1, 1) := by decide +kernel
theorem dL_isEnded_27 : decode cL_isEnded 27 = .ok (.arraylength, 1) := by decide +kernel
theorem dL_isEnded_28 : decode cL_isEnded 28 = .ok (.if_icmp .ge 22, 3) := by decide +kernel
theorem dL_isEnded_31 : decode cL_isEnded 31 = .ok (.aload 5, 2) := by decide +kernel
theorem dL_isEnded_33 : decode cL_isEnded 33 = .ok (.iload 6, 2) := by decide +kernel
theorem dL_isEnded_35 : decode cL_isEnded 35 = .ok (.aload_n 0, 1) := by decide +kernel
theorem dL_isEnded_36 : decode cL_isEnded 36 = .ok (.iload 6, 2) := by decide +kernel
theorem dL_isEnded_38 : decode cL_isEnded 38 = .ok (.bipush 10, 2) := by decide +kernel
theorem dL_isEnded_40 : decode cL_isEnded 40 = .ok (.invokevirtual 100, 3) := by decide +kernel
theorem dL_isEnded_43 : decode cL_isEnded 43 = .ok (.iastore, 1) := by decide +kernel
theorem dL_isEnded_44 : decode cL_isEnded 44 = .ok (.iinc 6 1, 3) := by decide +kernel
theorem dL_isEnded_47 : decode cL_isEnded 47 = .ok (.goto (-23), 3) := by decide +kernel
theorem dL_isEnded_50 : decode cL_isEnded 50 = .ok (.aload_n 0, 1) := by decide +kernel
theorem dL_isEnded_51 : decode cL_isEnded 51 = .ok (.invokevirtual 121, 3) := by decide +kernel
theorem dL_isEnded_54 : decode cL_isEnded 54 = .ok (.iload_n 3, 1) := by decide +kernel
theorem dL_isEnded_55 : decode cL_isEnded 55 = .ok (.if_icmp .ne 17, 3) := by decide +kernel
theorem dL_isEnded_58 : decode cL_isEnded 58 = .ok (.aload_n 0, 1) := by decide +kernel
theorem dL_isEnded_59 : decode cL_isEnded 59 = .ok (.iload_n 3, 1) := by decide +kernel
theorem dL_isEnded_60 : decode cL_isEnded 60 = .ok (.bipush 9, 2) := by decide +kernel
theorem dL_isEnded_62 : decode cL_isEnded 62 = .ok (.invokevirtual 100, 3) := by decide +kernel
theorem dL_isEnded_65 : decode cL_isEnded 65 = .ok (.iload 4, 2) := by decide +kernel
theorem dL_isEnded_67 : decode cL_isEnded 67 = .ok (.iconst 1, 1) := by decide +kernel
theorem dL_isEnded_68 : decode cL_isEnded 68 = .ok (.iadd, 1) := by decide +kernel
theorem dL_isEnded_69 : decode cL_isEnded 69 = .ok (.if_icmp .eq 5, 3) := by decide +kernel
theorem dL_isEnded_72 : decode cL_isEnded 72 = .ok (.iconst 0, 1) := by decide +kernel
theorem dL_isEnded_73 : decode cL_isEnded 73 = .ok (.ireturn, 1) := by decide +kernel
theorem dL_isEnded_74 : decode cL_isEnded 74 = .ok (.aload_n 0, 1) := by decide +kernel
theorem dL_isEnded_75 : decode cL_isEnded 75 = .ok (.bipush 9, 2) := by decide +kernel
theorem dL_isEnded_77 : decode cL_isEnded 77 = .ok (.invokevirtual 33, 3) := by decide +kernel
theorem dL_isEnded_80 : decode cL_isEnded 80 = .ok (.istore 6, 2) := by decide +kernel
theorem dL_isEnded_82 : decode cL_isEnded 82 = .ok (.iconst 0, 1) := by decide +kernel
theorem dL_isEnded_83 : decode cL_isEnded 83 = .ok (.istore 7, 2) := by decide +kernel
theorem dL_isEnded_85 : decode cL_isEnded 85 = .ok (.iload 7, 2) := by decide +kernel
theorem dL_isEnded_87 : decode cL_isEnded 87 = .ok (.aload_n 1, 1) := by decide +kernel
theorem dL_isEnded_88 : decode cL_isEnded 88 = .ok (.arraylength, 1) := by decide +kernel
theorem dL_isEnded_89 : decode cL_isEnded 89 = .ok (.if_icmp .ge 40, 3) := by decide +kernel
theorem dL_isEnded_92 : decode cL_isEnded 92 = .ok (.aload_n 0, 1) := by decide +kernel
theorem dL_isEnded_93 : decode cL_isEnded 93 = .ok (.iload 7, 2) := by decide +kernel
theorem dL_isEnded_95 : decode cL_isEnded 95 = .ok (.bipush 10, 2) := by decide +kernel
theorem dL_isEnded_97 : decode cL_isEnded 97 = .ok (.invokevirtual 100, 3) := by decide +kernel
theorem dL_isEnded_100 : decode cL_isEnded 100 = .ok (.aload 5, 2) := by decide +kernel
theorem dL_isEnded_102 : decode cL_isEnded 102 = .ok (.iload 7, 2) := by decide +kernel
theorem dL_isEnded_104 : decode cL_isEnded 104 = .ok (.iaload, 1) := by decide +kernel
theorem dL_isEnded_105 : decode cL_isEnded 105 = .ok (.iload 7, 2) := by decide +kernel
theorem dL_isEnded_107 : decode cL_isEnded 107 = .ok (.iload 6, 2) := by decide +kernel
theorem dL_isEnded_109 : decode cL_isEnded 109 = .ok (.if_icmp .ne 7, 3) := by decide +kernel
theorem dL_isEnded_112 : decode cL_isEnded 112 = .ok (.iconst 1, 1) := by decide +kernel
theorem dL_isEnded_113 : decode cL_isEnded 113 = .ok (.goto 4, 3) := by decide +kernel
theorem dL_isEnded_116 : decode cL_isEnded 116 = .ok (.iconst 0, 1) := by decide +kernel
theorem dL_isEnded_117 : decode cL_isEnded 117 = .ok (.iadd, 1) := by decide +kernel
theorem dL_isEnded_118 : decode cL_isEnded 118 = .ok (.if_icmp .eq 5, 3) := by decide +kernel
theorem dL_isEnded_121 : decode cL_isEnded 121 = .ok (.iconst 0, 1) := by decide +kernel
theorem dL_isEnded_122 : decode cL_isEnded 122 = .ok (.ireturn, 1) := by decide +kernel
theorem dL_isEnded_123 : decode cL_isEnded 123 = .ok (.iinc 7 1, 3) := by decide +kernel
theorem dL_isEnded_126 : decode cL_isEnded 126 = .ok (.goto (-41), 3) := by decide +kernel
theorem dL_isEnded_129 : decode cL_isEnded 129 = .ok (.iconst 0, 1) := by decide +kernel
theorem dL_isEnded_130 : decode cL_isEnded 130 = .ok (.istore 7, 2) := by decide +kernel
theorem dL_isEnded_132 : decode cL_isEnded 132 = .ok (.iload 7, 2) := by decide +kernel
theorem dL_isEnded_134 : decode cL_isEnded 134 = .ok (.iload_n 2, 1) := by decide +kernel
theorem dL_isEnded_135 : decode cL_isEnded 135 = .ok (.aload_n 0, 1) := by decide +kernel
theorem dL_isEnded_136 : decode cL_isEnded 136 = .ok (.iconst 4, 1) := by decide +kernel
theorem dL_isEnded_137 : decode cL_isEnded 137 = .ok (.invokevirtual 33, 3) := by decide +kernel
theorem dL_isEnded_140 : decode cL_isEnded 140 = .ok (.isub, 1) := by decide +kernel
theorem dL_isEnded_141 : decode cL_isEnded 141 = .ok (.if_icmp .ge 71, 3) := by decide +kernel
theorem dL_isEnded_144 : decode cL_isEnded 144 = .ok (.aload_n 0, 1) := by decide +kernel
theorem dL_isEnded_145 : decode cL_isEnded 145 = .ok (.iload 7, 2) := by decide +kernel
theorem dL_isEnded_147 : decode cL_isEnded 147 = .ok (.invokevirtual 103, 3) := by decide +kernel
theorem dL_isEnded_150 : decode cL_isEnded 150 = .ok (.istore 8, 2) := by decide +kernel
theorem dL_isEnded_152 : decode cL_isEnded 152 = .ok (.iload 8, 2) := by decide +kernel
theorem dL_isEnded_154 : decode cL_isEnded 154 = .ok (.iload 6, 2) := by decide +kernel
theorem dL_isEnded_156 : decode cL_isEnded 156 = .ok (.if_icmp .ne 37, 3) := by decide +kernel
theorem dL_isEnded_159 : decode cL_isEnded 159 = .ok (.aload_n 1, 1) := by decide +kernel
theorem dL_isEnded_160 : decode cL_isEnded 160 = .ok (.iload 8, 2) := by decide +kernel
theorem dL_isEnded_162 : decode cL_isEnded 162 = .ok (.iaload, 1) := by decide +kernel
theorem dL_isEnded_163 : decode cL_isEnded 163 = .ok (.bipush 40, 2) := by decide +kernel
theorem dL_isEnded_165 : decode cL_isEnded 165 = .ok (.iload_n 2, 1) := by decide +kernel
theorem dL_isEnded_166 : decode cL_isEnded 166 = .ok (.imul, 1) := by decide +kernel
theorem dL_isEnded_167 : decode cL_isEnded 167 = .ok (.if_icmp .lt 24, 3) := by decide +kernel
theorem dL_isEnded_170 : decode cL_isEnded 170 = .ok (.aload_n 0, 1) := by decide +kernel
theorem dL_isEnded_171 : decode cL_isEnded 171 = .ok (.invokevirtual 124, 3) := by decide +kernel
theorem dL_isEnded_174 : decode cL_isEnded 174 = .ok (.ifCond .le 17, 3) := by decide +kernel
theorem dL_isEnded_177 : decode cL_isEnded 177 = .ok (.aload_n 0, 1) := by decide +kernel
theorem dL_isEnded_178 : decode cL_isEnded 178 = .ok (.bipush 10, 2) := by decide +kernel
theorem dL_isEnded_180 : decode cL_isEnded 180 = .ok (.invokevirtual 33, 3) := by decide +kernel
theorem dL_isEnded_183 : decode cL_isEnded 183 = .ok (.iload_n 3, 1) := by decide +kernel
theorem dL_isEnded_184 : decode cL_isEnded 184 = .ok (.if_icmp .ne 7, 3) := by decide +kernel
theorem dL_isEnded_187 : decode cL_isEnded 187 = .ok (.iconst 1, 1) := by decide +kernel
theorem dL_isEnded_188 : decode cL_isEnded 188 = .ok (.goto 4, 3) := by decide +kernel
theorem dL_isEnded_191 : decode cL_isEnded 191 = .ok (.iconst 0, 1) := by decide +kernel
theorem dL_isEnded_192 : decode cL_isEnded 192 = .ok (.ireturn, 1) := by decide +kernel
theorem dL_isEnded_193 : decode cL_isEnded 193 = .ok (.aload_n 1, 1) := by decide +kernel
theorem dL_isEnded_194 : decode cL_isEnded 194 = .ok (.iload 8, 2) := by decide +kernel
theorem dL_isEnded_196 : decode cL_isEnded 196 = .ok (.iaload, 1) := by decide +kernel
theorem dL_isEnded_197 : decode cL_isEnded 197 = .ok (.bipush 40, 2) := by decide +kernel
theorem dL_isEnded_199 : decode cL_isEnded 199 = .ok (.iload_n 2, 1) := by decide +kernel
theorem dL_isEnded_200 : decode cL_isEnded 200 = .ok (.imul, 1) := by decide +kernel
theorem dL_isEnded_201 : decode cL_isEnded 201 = .ok (.if_icmp .lt 5, 3) := by decide +kernel
theorem dL_isEnded_204 : decode cL_isEnded 204 = .ok (.iconst 0, 1) := by decide +kernel
theorem dL_isEnded_205 : decode cL_isEnded 205 = .ok (.ireturn, 1) := by decide +kernel
theorem dL_isEnded_206 : decode cL_isEnded 206 = .ok (.iinc 7 1, 3) := by decide +kernel
theorem dL_isEnded_209 : decode cL_isEnded 209 = .ok (.goto (-77), 3) := by decide +kernel
theorem dL_isEnded_212 : decode cL_isEnded 212 = .ok (.iload 6, 2) := by decide +kernel
theorem dL_isEnded_214 : decode cL_isEnded 214 = .ok (.iconst (-1), 1) := by decide +kernel
theorem dL_isEnded_215 : decode cL_isEnded 215 = .ok (.if_icmp .ne 24, 3) := by decide +kernel
theorem dL_isEnded_218 : decode cL_isEnded 218 = .ok (.aload_n 0, 1) := by decide +kernel
theorem dL_isEnded_219 : decode cL_isEnded 219 = .ok (.invokevirtual 124, 3) := by decide +kernel
theorem dL_isEnded_222 : decode cL_isEnded 222 = .ok (.ifCond .le 17, 3) := by decide +kernel
theorem dL_isEnded_225 : decode cL_isEnded 225 = .ok (.aload_n 0, 1) := by decide +kernel
theorem dL_isEnded_226 : decode cL_isEnded 226 = .ok (.bipush 10, 2) := by decide +kernel
theorem dL_isEnded_228 : decode cL_isEnded 228 = .ok (.invokevirtual 33, 3) := by decide +kernel
theorem dL_isEnded_231 : decode cL_isEnded 231 = .ok (.iload_n 3, 1) := by decide +kernel
theorem dL_isEnded_232 : decode cL_isEnded 232 = .ok (.if_icmp .ne 7, 3) := by decide +kernel
theorem dL_isEnded_235 : decode cL_isEnded 235 = .ok (.iconst 1, 1) := by decide +kernel
theorem dL_isEnded_236 : decode cL_isEnded 236 = .ok (.goto 4, 3) := by decide +kernel
theorem dL_isEnded_239 : decode cL_isEnded 239 = .ok (.iconst 0, 1) := by decide +kernel
theorem dL_isEnded_240 : decode cL_isEnded 240 = .ok (.ireturn, 1) := by decide +kernel
