theorem f108_0 : zft 108 0 = some (.aload_n 0, 1) := by decide +kernel
theorem f108_1 : zft 108 1 = some (.getfield 35, 3) := by decide +kernel
theorem f108_4 : zft 108 4 = some (.iload_n 1, 1) := by decide +kernel
theorem f108_5 : zft 108 5 = some (.iaload, 1) := by decide +kernel
theorem f108_6 : zft 108 6 = some (.iconst 1, 1) := by decide +kernel
theorem f108_7 : zft 108 7 = some (.isub, 1) := by decide +kernel
theorem f108_8 : zft 108 8 = some (.istore 4, 2) := by decide +kernel
theorem f108_10 : zft 108 10 = some (.iload 4, 2) := by decide +kernel
theorem f108_12 : zft 108 12 = some (.istore 5, 2) := by decide +kernel
theorem f108_14 : zft 108 14 = some (.iload 5, 2) := by decide +kernel
theorem f108_16 : zft 108 16 = some (.iload_n 2, 1) := by decide +kernel
theorem f108_17 : zft 108 17 = some (.if_icmp .lt 258, 3) := by decide +kernel
theorem f108_20 : zft 108 20 = some (.iconst 0, 1) := by decide +kernel
theorem f108_21 : zft 108 21 = some (.istore 6, 2) := by decide +kernel
theorem f108_23 : zft 108 23 = some (.iload 6, 2) := by decide +kernel
theorem f108_25 : zft 108 25 = some (.aload_n 0, 1) := by decide +kernel
theorem f108_26 : zft 108 26 = some (.getfield 86, 3) := by decide +kernel
theorem f108_29 : zft 108 29 = some (.if_icmp .ge 240, 3) := by decide +kernel
theorem f108_32 : zft 108 32 = some (.iload 5, 2) := by decide +kernel
theorem f108_34 : zft 108 34 = some (.iload_n 2, 1) := by decide +kernel
theorem f108_35 : zft 108 35 = some (.if_icmp .eq 10, 3) := by decide +kernel
theorem f108_38 : zft 108 38 = some (.iload 5, 2) := by decide +kernel
theorem f108_40 : zft 108 40 = some (.iload 4, 2) := by decide +kernel
theorem f108_42 : zft 108 42 = some (.if_icmp .ne 7, 3) := by decide +kernel
theorem f108_45 : zft 108 45 = some (.iconst 1, 1) := by decide +kernel
theorem f108_46 : zft 108 46 = some (.goto 4, 3) := by decide +kernel
theorem f108_49 : zft 108 49 = some (.iconst 0, 1) := by decide +kernel
theorem f108_50 : zft 108 50 = some (.istore 7, 2) := by decide +kernel
theorem f108_52 : zft 108 52 = some (.iload 7, 2) := by decide +kernel
theorem f108_54 : zft 108 54 = some (.ifCond .eq 20, 3) := by decide +kernel
theorem f108_57 : zft 108 57 = some (.aload_n 0, 1) := by decide +kernel
theorem f108_58 : zft 108 58 = some (.getfield 38, 3) := by decide +kernel
theorem f108_61 : zft 108 61 = some (.bipush 7, 2) := by decide +kernel
theorem f108_63 : zft 108 63 = some (.iload_n 1, 1) := by decide +kernel
theorem f108_64 : zft 108 64 = some (.imul, 1) := by decide +kernel
theorem f108_65 : zft 108 65 = some (.iload 5, 2) := by decide +kernel
theorem f108_67 : zft 108 67 = some (.iadd, 1) := by decide +kernel
theorem f108_68 : zft 108 68 = some (.iaload, 1) := by decide +kernel
theorem f108_69 : zft 108 69 = some (.iload 6, 2) := by decide +kernel
theorem f108_71 : zft 108 71 = some (.if_icmp .ne 41, 3) := by decide +kernel
theorem f108_74 : zft 108 74 = some (.iload 5, 2) := by decide +kernel
theorem f108_76 : zft 108 76 = some (.iload_n 2, 1) := by decide +kernel
theorem f108_77 : zft 108 77 = some (.if_icmp .ne 7, 3) := by decide +kernel
theorem f108_80 : zft 108 80 = some (.iload_n 3, 1) := by decide +kernel
theorem f108_81 : zft 108 81 = some (.ifCond .eq 27, 3) := by decide +kernel
theorem f108_84 : zft 108 84 = some (.aload_n 0, 1) := by decide +kernel
theorem f108_85 : zft 108 85 = some (.iload 6, 2) := by decide +kernel
theorem f108_87 : zft 108 87 = some (.aload_n 0, 1) := by decide +kernel
theorem f108_88 : zft 108 88 = some (.getfield 32, 3) := by decide +kernel
theorem f108_91 : zft 108 91 = some (.iload_n 1, 1) := by decide +kernel
theorem f108_92 : zft 108 92 = some (.iaload, 1) := by decide +kernel
theorem f108_93 : zft 108 93 = some (.iload 5, 2) := by decide +kernel
theorem f108_95 : zft 108 95 = some (.iadd, 1) := by decide +kernel
theorem f108_96 : zft 108 96 = some (.aload_n 0, 1) := by decide +kernel
theorem f108_97 : zft 108 97 = some (.getfield 29, 3) := by decide +kernel
theorem f108_100 : zft 108 100 = some (.iload_n 1, 1) := by decide +kernel
theorem f108_101 : zft 108 101 = some (.iaload, 1) := by decide +kernel
theorem f108_102 : zft 108 102 = some (.invokevirtual 132, 3) := by decide +kernel
theorem f108_105 : zft 108 105 = some (.ifCond .eq 7, 3) := by decide +kernel
theorem f108_108 : zft 108 108 = some (.iconst 1, 1) := by decide +kernel
theorem f108_109 : zft 108 109 = some (.goto 4, 3) := by decide +kernel
theorem f108_112 : zft 108 112 = some (.iconst 0, 1) := by decide +kernel
theorem f108_113 : zft 108 113 = some (.istore 8, 2) := by decide +kernel
theorem f108_115 : zft 108 115 = some (.iload 5, 2) := by decide +kernel
theorem f108_117 : zft 108 117 = some (.iload 4, 2) := by decide +kernel
theorem f108_119 : zft 108 119 = some (.if_icmp .ne 7, 3) := by decide +kernel
theorem f108_122 : zft 108 122 = some (.iconst 0, 1) := by decide +kernel
theorem f108_123 : zft 108 123 = some (.goto 4, 3) := by decide +kernel
theorem f108_126 : zft 108 126 = some (.iconst (-1), 1) := by decide +kernel
theorem f108_127 : zft 108 127 = some (.istore 9, 2) := by decide +kernel
theorem f108_129 : zft 108 129 = some (.iconst 0, 1) := by decide +kernel
theorem f108_130 : zft 108 130 = some (.istore 10, 2) := by decide +kernel
theorem f108_132 : zft 108 132 = some (.iload 10, 2) := by decide +kernel
theorem f108_134 : zft 108 134 = some (.aload_n 0, 1) := by decide +kernel
theorem f108_135 : zft 108 135 = some (.getfield 86, 3) := by decide +kernel
theorem f108_138 : zft 108 138 = some (.if_icmp .ge 72, 3) := by decide +kernel
theorem f108_141 : zft 108 141 = some (.iload 5, 2) := by decide +kernel
theorem f108_143 : zft 108 143 = some (.iload 4, 2) := by decide +kernel
theorem f108_145 : zft 108 145 = some (.if_icmp .ge 65, 3) := by decide +kernel
theorem f108_148 : zft 108 148 = some (.aload_n 0, 1) := by decide +kernel
theorem f108_149 : zft 108 149 = some (.getfield 62, 3) := by decide +kernel
theorem f108_152 : zft 108 152 = some (.bipush 12, 2) := by decide +kernel
theorem f108_154 : zft 108 154 = some (.iload 5, 2) := by decide +kernel
theorem f108_156 : zft 108 156 = some (.iconst 1, 1) := by decide +kernel
theorem f108_157 : zft 108 157 = some (.iadd, 1) := by decide +kernel
theorem f108_158 : zft 108 158 = some (.imul, 1) := by decide +kernel
theorem f108_159 : zft 108 159 = some (.iload 10, 2) := by decide +kernel
theorem f108_161 : zft 108 161 = some (.iadd, 1) := by decide +kernel
theorem f108_162 : zft 108 162 = some (.iaload, 1) := by decide +kernel
theorem f108_163 : zft 108 163 = some (.istore 11, 2) := by decide +kernel
theorem f108_165 : zft 108 165 = some (.iload 11, 2) := by decide +kernel
theorem f108_167 : zft 108 167 = some (.iconst (-1), 1) := by decide +kernel
theorem f108_168 : zft 108 168 = some (.if_icmp .eq 32, 3) := by decide +kernel
theorem f108_171 : zft 108 171 = some (.aload_n 0, 1) := by decide +kernel
theorem f108_172 : zft 108 172 = some (.iload 6, 2) := by decide +kernel
theorem f108_174 : zft 108 174 = some (.iload 10, 2) := by decide +kernel
theorem f108_176 : zft 108 176 = some (.invokevirtual 128, 3) := by decide +kernel
theorem f108_179 : zft 108 179 = some (.ifCond .eq 21, 3) := by decide +kernel
theorem f108_182 : zft 108 182 = some (.iload 9, 2) := by decide +kernel
theorem f108_184 : zft 108 184 = some (.iconst (-1), 1) := by decide +kernel
theorem f108_185 : zft 108 185 = some (.if_icmp .eq 10, 3) := by decide +kernel
theorem f108_188 : zft 108 188 = some (.iload 11, 2) := by decide +kernel
theorem f108_190 : zft 108 190 = some (.iload 9, 2) := by decide +kernel
theorem f108_192 : zft 108 192 = some (.if_icmp .ge 8, 3) := by decide +kernel
theorem f108_195 : zft 108 195 = some (.iload 11, 2) := by decide +kernel
theorem f108_197 : zft 108 197 = some (.goto 5, 3) := by decide +kernel
theorem f108_200 : zft 108 200 = some (.iload 9, 2) := by decide +kernel
theorem f108_202 : zft 108 202 = some (.istore 9, 2) := by decide +kernel
theorem f108_204 : zft 108 204 = some (.iinc 10 1, 3) := by decide +kernel
theorem f108_207 : zft 108 207 = some (.goto (-75), 3) := by decide +kernel
theorem f108_210 : zft 108 210 = some (.aload_n 0, 1) := by decide +kernel
theorem f108_211 : zft 108 211 = some (.getfield 62, 3) := by decide +kernel
theorem f108_214 : zft 108 214 = some (.bipush 12, 2) := by decide +kernel
theorem f108_216 : zft 108 216 = some (.iload 5, 2) := by decide +kernel
theorem f108_218 : zft 108 218 = some (.imul, 1) := by decide +kernel
theorem f108_219 : zft 108 219 = some (.iload 6, 2) := by decide +kernel
theorem f108_221 : zft 108 221 = some (.iadd, 1) := by decide +kernel
theorem f108_222 : zft 108 222 = some (.iload 8, 2) := by decide +kernel
theorem f108_224 : zft 108 224 = some (.ifCond .eq 37, 3) := by decide +kernel
theorem f108_227 : zft 108 227 = some (.iload 9, 2) := by decide +kernel
theorem f108_229 : zft 108 229 = some (.iconst (-1), 1) := by decide +kernel
theorem f108_230 : zft 108 230 = some (.if_icmp .eq 31, 3) := by decide +kernel
theorem f108_233 : zft 108 233 = some (.iload 9, 2) := by decide +kernel
theorem f108_235 : zft 108 235 = some (.aload_n 0, 1) := by decide +kernel
theorem f108_236 : zft 108 236 = some (.getfield 38, 3) := by decide +kernel
theorem f108_239 : zft 108 239 = some (.bipush 7, 2) := by decide +kernel
theorem f108_241 : zft 108 241 = some (.iload_n 1, 1) := by decide +kernel
theorem f108_242 : zft 108 242 = some (.imul, 1) := by decide +kernel
theorem f108_243 : zft 108 243 = some (.iload 5, 2) := by decide +kernel
theorem f108_245 : zft 108 245 = some (.iadd, 1) := by decide +kernel
theorem f108_246 : zft 108 246 = some (.iaload, 1) := by decide +kernel
theorem f108_247 : zft 108 247 = some (.iload 6, 2) := by decide +kernel
theorem f108_249 : zft 108 249 = some (.if_icmp .ne 7, 3) := by decide +kernel
theorem f108_252 : zft 108 252 = some (.iconst 0, 1) := by decide +kernel
theorem f108_253 : zft 108 253 = some (.goto 4, 3) := by decide +kernel
theorem f108_256 : zft 108 256 = some (.iconst 1, 1) := by decide +kernel
theorem f108_257 : zft 108 257 = some (.iadd, 1) := by decide +kernel
theorem f108_258 : zft 108 258 = some (.goto 4, 3) := by decide +kernel
theorem f108_261 : zft 108 261 = some (.iconst (-1), 1) := by decide +kernel
theorem f108_262 : zft 108 262 = some (.iastore, 1) := by decide +kernel
theorem f108_263 : zft 108 263 = some (.iinc 6 1, 3) := by decide +kernel
theorem f108_266 : zft 108 266 = some (.goto (-243), 3) := by decide +kernel
theorem f108_269 : zft 108 269 = some (.iinc 5 (-1), 3) := by decide +kernel
theorem f108_272 : zft 108 272 = some (.goto (-258), 3) := by decide +kernel
theorem f108_275 : zft 108 275 = some (.aload_n 0, 1) := by decide +kernel
theorem f108_276 : zft 108 276 = some (.getfield 38, 3) := by decide +kernel
theorem f108_279 : zft 108 279 = some (.bipush 7, 2) := by decide +kernel
theorem f108_281 : zft 108 281 = some (.iload_n 1, 1) := by decide +kernel
theorem f108_282 : zft 108 282 = some (.imul, 1) := by decide +kernel
theorem f108_283 : zft 108 283 = some (.iload_n 2, 1) := by decide +kernel
theorem f108_284 : zft 108 284 = some (.iadd, 1) := by decide +kernel
theorem f108_285 : zft 108 285 = some (.iaload, 1) := by decide +kernel
theorem f108_286 : zft 108 286 = some (.istore 5, 2) := by decide +kernel
theorem f108_288 : zft 108 288 = some (.aload_n 0, 1) := by decide +kernel
theorem f108_289 : zft 108 289 = some (.getfield 62, 3) := by decide +kernel
theorem f108_292 : zft 108 292 = some (.bipush 12, 2) := by decide +kernel
theorem f108_294 : zft 108 294 = some (.iload_n 2, 1) := by decide +kernel
theorem f108_295 : zft 108 295 = some (.imul, 1) := by decide +kernel
theorem f108_296 : zft 108 296 = some (.iload 5, 2) := by decide +kernel
theorem f108_298 : zft 108 298 = some (.iadd, 1) := by decide +kernel
theorem f108_299 : zft 108 299 = some (.iaload, 1) := by decide +kernel
theorem f108_300 : zft 108 300 = some (.istore 6, 2) := by decide +kernel
theorem f108_302 : zft 108 302 = some (.iload 6, 2) := by decide +kernel
theorem f108_304 : zft 108 304 = some (.iconst (-1), 1) := by decide +kernel
theorem f108_305 : zft 108 305 = some (.if_icmp .ne 5, 3) := by decide +kernel
theorem f108_308 : zft 108 308 = some (.iconst (-1), 1) := by decide +kernel
theorem f108_309 : zft 108 309 = some (.ireturn, 1) := by decide +kernel
theorem f108_310 : zft 108 310 = some (.aload_n 0, 1) := by decide +kernel
theorem f108_311 : zft 108 311 = some (.getfield 65, 3) := by decide +kernel
theorem f108_314 : zft 108 314 = some (.iload_n 2, 1) := by decide +kernel
theorem f108_315 : zft 108 315 = some (.iload 5, 2) := by decide +kernel
theorem f108_317 : zft 108 317 = some (.iastore, 1) := by decide +kernel
theorem f108_318 : zft 108 318 = some (.iload_n 2, 1) := by decide +kernel
theorem f108_319 : zft 108 319 = some (.istore 7, 2) := by decide +kernel
theorem f108_321 : zft 108 321 = some (.iload 7, 2) := by decide +kernel
theorem f108_323 : zft 108 323 = some (.iload 4, 2) := by decide +kernel
theorem f108_325 : zft 108 325 = some (.if_icmp .ge 102, 3) := by decide +kernel
theorem f108_328 : zft 108 328 = some (.aload_n 0, 1) := by decide +kernel
theorem f108_329 : zft 108 329 = some (.getfield 62, 3) := by decide +kernel
theorem f108_332 : zft 108 332 = some (.bipush 12, 2) := by decide +kernel
theorem f108_334 : zft 108 334 = some (.iload 7, 2) := by decide +kernel
theorem f108_336 : zft 108 336 = some (.imul, 1) := by decide +kernel
theorem f108_337 : zft 108 337 = some (.iload 5, 2) := by decide +kernel
theorem f108_339 : zft 108 339 = some (.iadd, 1) := by decide +kernel
theorem f108_340 : zft 108 340 = some (.iaload, 1) := by decide +kernel
theorem f108_341 : zft 108 341 = some (.aload_n 0, 1) := by decide +kernel
theorem f108_342 : zft 108 342 = some (.getfield 38, 3) := by decide +kernel
theorem f108_345 : zft 108 345 = some (.bipush 7, 2) := by decide +kernel
theorem f108_347 : zft 108 347 = some (.iload_n 1, 1) := by decide +kernel
theorem f108_348 : zft 108 348 = some (.imul, 1) := by decide +kernel
theorem f108_349 : zft 108 349 = some (.iload 7, 2) := by decide +kernel
theorem f108_351 : zft 108 351 = some (.iadd, 1) := by decide +kernel
theorem f108_352 : zft 108 352 = some (.iaload, 1) := by decide +kernel
theorem f108_353 : zft 108 353 = some (.iload 5, 2) := by decide +kernel
theorem f108_355 : zft 108 355 = some (.if_icmp .ne 7, 3) := by decide +kernel
theorem f108_358 : zft 108 358 = some (.iconst 0, 1) := by decide +kernel
theorem f108_359 : zft 108 359 = some (.goto 4, 3) := by decide +kernel
theorem f108_362 : zft 108 362 = some (.iconst 1, 1) := by decide +kernel
theorem f108_363 : zft 108 363 = some (.isub, 1) := by decide +kernel
theorem f108_364 : zft 108 364 = some (.istore 8, 2) := by decide +kernel
theorem f108_366 : zft 108 366 = some (.iconst 0, 1) := by decide +kernel
theorem f108_367 : zft 108 367 = some (.istore 9, 2) := by decide +kernel
theorem f108_369 : zft 108 369 = some (.aload_n 0, 1) := by decide +kernel
theorem f108_370 : zft 108 370 = some (.iload 5, 2) := by decide +kernel
theorem f108_372 : zft 108 372 = some (.iload 9, 2) := by decide +kernel
theorem f108_374 : zft 108 374 = some (.invokevirtual 128, 3) := by decide +kernel
theorem f108_377 : zft 108 377 = some (.ifCond .eq 23, 3) := by decide +kernel
theorem f108_380 : zft 108 380 = some (.aload_n 0, 1) := by decide +kernel
theorem f108_381 : zft 108 381 = some (.getfield 62, 3) := by decide +kernel
theorem f108_384 : zft 108 384 = some (.bipush 12, 2) := by decide +kernel
theorem f108_386 : zft 108 386 = some (.iload 7, 2) := by decide +kernel
theorem f108_388 : zft 108 388 = some (.iconst 1, 1) := by decide +kernel
theorem f108_389 : zft 108 389 = some (.iadd, 1) := by decide +kernel
theorem f108_390 : zft 108 390 = some (.imul, 1) := by decide +kernel
theorem f108_391 : zft 108 391 = some (.iload 9, 2) := by decide +kernel
theorem f108_393 : zft 108 393 = some (.iadd, 1) := by decide +kernel
theorem f108_394 : zft 108 394 = some (.iaload, 1) := by decide +kernel
theorem f108_395 : zft 108 395 = some (.iload 8, 2) := by decide +kernel
theorem f108_397 : zft 108 397 = some (.if_icmp .eq 9, 3) := by decide +kernel
theorem f108_400 : zft 108 400 = some (.iinc 9 1, 3) := by decide +kernel
theorem f108_403 : zft 108 403 = some (.goto (-34), 3) := by decide +kernel
theorem f108_406 : zft 108 406 = some (.iload 9, 2) := by decide +kernel
theorem f108_408 : zft 108 408 = some (.istore 5, 2) := by decide +kernel
theorem f108_410 : zft 108 410 = some (.aload_n 0, 1) := by decide +kernel
theorem f108_411 : zft 108 411 = some (.getfield 65, 3) := by decide +kernel
theorem f108_414 : zft 108 414 = some (.iload 7, 2) := by decide +kernel
theorem f108_416 : zft 108 416 = some (.iconst 1, 1) := by decide +kernel
theorem f108_417 : zft 108 417 = some (.iadd, 1) := by decide +kernel
theorem f108_418 : zft 108 418 = some (.iload 5, 2) := by decide +kernel
theorem f108_420 : zft 108 420 = some (.iastore, 1) := by decide +kernel
theorem f108_421 : zft 108 421 = some (.iinc 7 1, 3) := by decide +kernel
theorem f108_424 : zft 108 424 = some (.goto (-103), 3) := by decide +kernel
theorem f108_427 : zft 108 427 = some (.iload 6, 2) := by decide +kernel
theorem f108_429 : zft 108 429 = some (.ireturn, 1) := by decide +kernel
theorem o108 : zo 108 = 7 := by decide +kernel
theorem p108 : zp 108 = 3 := by decide +kernel
theorem n108 : zn 108 = 12 := by decide +kernel
theorem v108 : zr 108 = (some .int) := by decide +kernel
theorem f109_0 : zft 109 0 = some (.aload_n 0, 1) := by decide +kernel
theorem f109_1 : zft 109 1 = some (.iload_n 1, 1) := by decide +kernel
theorem f109_2 : zft 109 2 = some (.invokevirtual 139, 3) := by decide +kernel
theorem f109_5 : zft 109 5 = some (.istore_n 2, 1) := by decide +kernel
theorem f109_6 : zft 109 6 = some (.iload_n 2, 1) := by decide +kernel
theorem f109_7 : zft 109 7 = some (.ifCond .eq 7, 3) := by decide +kernel
theorem f109_10 : zft 109 10 = some (.iload_n 2, 1) := by decide +kernel
theorem f109_11 : zft 109 11 = some (.goto 10, 3) := by decide +kernel
theorem f109_14 : zft 109 14 = some (.aload_n 0, 1) := by decide +kernel
theorem f109_15 : zft 109 15 = some (.iload_n 1, 1) := by decide +kernel
theorem f109_16 : zft 109 16 = some (.iconst 0, 1) := by decide +kernel
theorem f109_17 : zft 109 17 = some (.iconst 1, 1) := by decide +kernel
theorem f109_18 : zft 109 18 = some (.invokevirtual 150, 3) := by decide +kernel
theorem f109_21 : zft 109 21 = some (.ireturn, 1) := by decide +kernel
theorem o109 : zo 109 = 7 := by decide +kernel
theorem p109 : zp 109 = 1 := by decide +kernel
theorem n109 : zn 109 = 3 := by decide +kernel
theorem v109 : zr 109 = (some .int) := by decide +kernel
theorem f110_0 : zft 110 0 = some (.aload_n 0, 1) := by decide +kernel
theorem f110_1 : zft 110 1 = some (.iload_n 1, 1) := by decide +kernel
theorem f110_2 : zft 110 2 = some (.invokevirtual 125, 3) := by decide +kernel
theorem f110_5 : zft 110 5 = some (.ifCond .eq 19, 3) := by decide +kernel
theorem f110_8 : zft 110 8 = some (.iload_n 2, 1) := by decide +kernel
theorem f110_9 : zft 110 9 = some (.iconst 0, 1) := by decide +kernel
theorem f110_10 : zft 110 10 = some (.aload_n 0, 1) := by decide +kernel
theorem f110_11 : zft 110 11 = some (.getfield 35, 3) := by decide +kernel
theorem f110_14 : zft 110 14 = some (.iload_n 1, 1) := by decide +kernel
theorem f110_15 : zft 110 15 = some (.iaload, 1) := by decide +kernel
theorem f110_16 : zft 110 16 = some (.iconst 1, 1) := by decide +kernel
theorem f110_17 : zft 110 17 = some (.isub, 1) := by decide +kernel
theorem f110_18 : zft 110 18 = some (.invokestatic 90, 3) := by decide +kernel
theorem f110_21 : zft 110 21 = some (.ifCond .ne 6, 3) := by decide +kernel
theorem f110_24 : zft 110 24 = some (.bipush (-2), 2) := by decide +kernel
theorem f110_26 : zft 110 26 = some (.ireturn, 1) := by decide +kernel
theorem f110_27 : zft 110 27 = some (.aload_n 0, 1) := by decide +kernel
theorem f110_28 : zft 110 28 = some (.iload_n 1, 1) := by decide +kernel
theorem f110_29 : zft 110 29 = some (.invokevirtual 139, 3) := by decide +kernel
theorem f110_32 : zft 110 32 = some (.istore_n 3, 1) := by decide +kernel
theorem f110_33 : zft 110 33 = some (.iload_n 3, 1) := by decide +kernel
theorem f110_34 : zft 110 34 = some (.ifCond .eq 5, 3) := by decide +kernel
theorem f110_37 : zft 110 37 = some (.iload_n 3, 1) := by decide +kernel
theorem f110_38 : zft 110 38 = some (.ireturn, 1) := by decide +kernel
theorem f110_39 : zft 110 39 = some (.aload_n 0, 1) := by decide +kernel
theorem f110_40 : zft 110 40 = some (.iload_n 1, 1) := by decide +kernel
theorem f110_41 : zft 110 41 = some (.iconst 0, 1) := by decide +kernel
theorem f110_42 : zft 110 42 = some (.iconst 1, 1) := by decide +kernel
theorem f110_43 : zft 110 43 = some (.invokevirtual 150, 3) := by decide +kernel
theorem f110_46 : zft 110 46 = some (.iconst (-1), 1) := by decide +kernel
theorem f110_47 : zft 110 47 = some (.if_icmp .ne 7, 3) := by decide +kernel
theorem f110_50 : zft 110 50 = some (.iconst (-1), 1) := by decide +kernel
theorem f110_51 : zft 110 51 = some (.goto 9, 3) := by decide +kernel
theorem f110_54 : zft 110 54 = some (.aload_n 0, 1) := by decide +kernel
theorem f110_55 : zft 110 55 = some (.getfield 65, 3) := by decide +kernel
theorem f110_58 : zft 110 58 = some (.iload_n 2, 1) := by decide +kernel
theorem f110_59 : zft 110 59 = some (.iaload, 1) := by decide +kernel
theorem f110_60 : zft 110 60 = some (.ireturn, 1) := by decide +kernel
theorem o110 : zo 110 = 7 := by decide +kernel
theorem p110 : zp 110 = 2 := by decide +kernel
theorem n110 : zn 110 = 4 := by decide +kernel
theorem v110 : zr 110 = (some .int) := by decide +kernel
theorem f111_0 : zft 111 0 = some (.aload_n 0, 1) := by decide +kernel
theorem f111_1 : zft 111 1 = some (.iload_n 1, 1) := by decide +kernel
theorem f111_2 : zft 111 2 = some (.invokevirtual 139, 3) := by decide +kernel
theorem f111_5 : zft 111 5 = some (.istore_n 2, 1) := by decide +kernel
theorem f111_6 : zft 111 6 = some (.iload_n 2, 1) := by decide +kernel
theorem f111_7 : zft 111 7 = some (.ifCond .eq 5, 3) := by decide +kernel
theorem f111_10 : zft 111 10 = some (.iload_n 2, 1) := by decide +kernel
theorem f111_11 : zft 111 11 = some (.ireturn, 1) := by decide +kernel
theorem f111_12 : zft 111 12 = some (.aload_n 0, 1) := by decide +kernel
theorem f111_13 : zft 111 13 = some (.iload_n 1, 1) := by decide +kernel
theorem f111_14 : zft 111 14 = some (.iconst 0, 1) := by decide +kernel
theorem f111_15 : zft 111 15 = some (.iconst 1, 1) := by decide +kernel
theorem f111_16 : zft 111 16 = some (.invokevirtual 150, 3) := by decide +kernel
theorem f111_19 : zft 111 19 = some (.istore_n 3, 1) := by decide +kernel
theorem f111_20 : zft 111 20 = some (.iload_n 3, 1) := by decide +kernel
theorem f111_21 : zft 111 21 = some (.iconst (-1), 1) := by decide +kernel
theorem f111_22 : zft 111 22 = some (.if_icmp .eq 47, 3) := by decide +kernel
theorem f111_25 : zft 111 25 = some (.iconst 0, 1) := by decide +kernel
theorem f111_26 : zft 111 26 = some (.istore 4, 2) := by decide +kernel
theorem f111_28 : zft 111 28 = some (.iload 4, 2) := by decide +kernel
theorem f111_30 : zft 111 30 = some (.aload_n 0, 1) := by decide +kernel
theorem f111_31 : zft 111 31 = some (.getfield 35, 3) := by decide +kernel
theorem f111_34 : zft 111 34 = some (.iload_n 1, 1) := by decide +kernel
theorem f111_35 : zft 111 35 = some (.iaload, 1) := by decide +kernel
theorem f111_36 : zft 111 36 = some (.if_icmp .ge 28, 3) := by decide +kernel
theorem f111_39 : zft 111 39 = some (.aload_n 0, 1) := by decide +kernel
theorem f111_40 : zft 111 40 = some (.getfield 38, 3) := by decide +kernel
theorem f111_43 : zft 111 43 = some (.bipush 7, 2) := by decide +kernel
theorem f111_45 : zft 111 45 = some (.iload_n 1, 1) := by decide +kernel
theorem f111_46 : zft 111 46 = some (.imul, 1) := by decide +kernel
theorem f111_47 : zft 111 47 = some (.iload 4, 2) := by decide +kernel
theorem f111_49 : zft 111 49 = some (.iadd, 1) := by decide +kernel
theorem f111_50 : zft 111 50 = some (.aload_n 0, 1) := by decide +kernel
theorem f111_51 : zft 111 51 = some (.getfield 65, 3) := by decide +kernel
theorem f111_54 : zft 111 54 = some (.iload 4, 2) := by decide +kernel
theorem f111_56 : zft 111 56 = some (.iaload, 1) := by decide +kernel
theorem f111_57 : zft 111 57 = some (.iastore, 1) := by decide +kernel
theorem f111_58 : zft 111 58 = some (.iinc 4 1, 3) := by decide +kernel
theorem f111_61 : zft 111 61 = some (.goto (-33), 3) := by decide +kernel
theorem f111_64 : zft 111 64 = some (.aload_n 0, 1) := by decide +kernel
theorem f111_65 : zft 111 65 = some (.iload_n 1, 1) := by decide +kernel
theorem f111_66 : zft 111 66 = some (.invokevirtual 146, 3) := by decide +kernel
theorem f111_69 : zft 111 69 = some (.iload_n 3, 1) := by decide +kernel
theorem f111_70 : zft 111 70 = some (.ireturn, 1) := by decide +kernel
theorem o111 : zo 111 = 7 := by decide +kernel
theorem p111 : zp 111 = 1 := by decide +kernel
theorem n111 : zn 111 = 5 := by decide +kernel
theorem v111 : zr 111 = (some .int) := by decide +kernel
theorem f112_0 : zft 112 0 = some (.iload_n 1, 1) := by decide +kernel
theorem f112_1 : zft 112 1 = some (.iconst 0, 1) := by decide +kernel
theorem f112_2 : zft 112 2 = some (.bipush 39, 2) := by decide +kernel
theorem f112_4 : zft 112 4 = some (.invokestatic 90, 3) := by decide +kernel
theorem f112_7 : zft 112 7 = some (.ifCond .eq 13, 3) := by decide +kernel
theorem f112_10 : zft 112 10 = some (.iload_n 2, 1) := by decide +kernel
theorem f112_11 : zft 112 11 = some (.iconst 0, 1) := by decide +kernel
theorem f112_12 : zft 112 12 = some (.bipush 100, 2) := by decide +kernel
theorem f112_14 : zft 112 14 = some (.invokestatic 90, 3) := by decide +kernel
theorem f112_17 : zft 112 17 = some (.ifCond .ne 6, 3) := by decide +kernel
theorem f112_20 : zft 112 20 = some (.bipush (-2), 2) := by decide +kernel
theorem f112_22 : zft 112 22 = some (.ireturn, 1) := by decide +kernel
theorem f112_23 : zft 112 23 = some (.aload_n 0, 1) := by decide +kernel
theorem f112_24 : zft 112 24 = some (.getfield 154, 3) := by decide +kernel
theorem f112_27 : zft 112 27 = some (.bipush 20, 2) := by decide +kernel
theorem f112_29 : zft 112 29 = some (.if_icmp .ne 6, 3) := by decide +kernel
theorem f112_32 : zft 112 32 = some (.bipush (-4), 2) := by decide +kernel
theorem f112_34 : zft 112 34 = some (.ireturn, 1) := by decide +kernel
theorem f112_35 : zft 112 35 = some (.aload_n 0, 1) := by decide +kernel
theorem f112_36 : zft 112 36 = some (.getfield 68, 3) := by decide +kernel
theorem f112_39 : zft 112 39 = some (.aload_n 0, 1) := by decide +kernel
theorem f112_40 : zft 112 40 = some (.getfield 154, 3) := by decide +kernel
theorem f112_43 : zft 112 43 = some (.iload_n 1, 1) := by decide +kernel
theorem f112_44 : zft 112 44 = some (.iastore, 1) := by decide +kernel
theorem f112_45 : zft 112 45 = some (.aload_n 0, 1) := by decide +kernel
theorem f112_46 : zft 112 46 = some (.getfield 71, 3) := by decide +kernel
theorem f112_49 : zft 112 49 = some (.aload_n 0, 1) := by decide +kernel
theorem f112_50 : zft 112 50 = some (.getfield 154, 3) := by decide +kernel
theorem f112_53 : zft 112 53 = some (.iload_n 2, 1) := by decide +kernel
theorem f112_54 : zft 112 54 = some (.iastore, 1) := by decide +kernel
theorem f112_55 : zft 112 55 = some (.aload_n 0, 1) := by decide +kernel
theorem f112_56 : zft 112 56 = some (.dup, 1) := by decide +kernel
theorem f112_57 : zft 112 57 = some (.getfield 154, 3) := by decide +kernel
theorem f112_60 : zft 112 60 = some (.iconst 1, 1) := by decide +kernel
theorem f112_61 : zft 112 61 = some (.iadd, 1) := by decide +kernel
theorem f112_62 : zft 112 62 = some (.putfield 154, 3) := by decide +kernel
theorem f112_65 : zft 112 65 = some (.aload_n 0, 1) := by decide +kernel
theorem f112_66 : zft 112 66 = some (.getfield 154, 3) := by decide +kernel
theorem f112_69 : zft 112 69 = some (.ireturn, 1) := by decide +kernel
theorem o112 : zo 112 = 7 := by decide +kernel
theorem p112 : zp 112 = 2 := by decide +kernel
theorem n112 : zn 112 = 3 := by decide +kernel
theorem v112 : zr 112 = (some .int) := by decide +kernel
theorem f113_0 : zft 113 0 = some (.aload_n 0, 1) := by decide +kernel
theorem f113_1 : zft 113 1 = some (.iload_n 1, 1) := by decide +kernel
theorem f113_2 : zft 113 2 = some (.invokevirtual 125, 3) := by decide +kernel
theorem f113_5 : zft 113 5 = some (.ifCond .ne 6, 3) := by decide +kernel
theorem f113_8 : zft 113 8 = some (.bipush (-2), 2) := by decide +kernel
theorem f113_10 : zft 113 10 = some (.ireturn, 1) := by decide +kernel
theorem f113_11 : zft 113 11 = some (.aload_n 0, 1) := by decide +kernel
theorem f113_12 : zft 113 12 = some (.getfield 41, 3) := by decide +kernel
theorem f113_15 : zft 113 15 = some (.iload_n 1, 1) := by decide +kernel
theorem f113_16 : zft 113 16 = some (.iaload, 1) := by decide +kernel
theorem f113_17 : zft 113 17 = some (.iconst 1, 1) := by decide +kernel
theorem f113_18 : zft 113 18 = some (.if_icmp .ne 16, 3) := by decide +kernel
theorem f113_21 : zft 113 21 = some (.aload_n 0, 1) := by decide +kernel
theorem f113_22 : zft 113 22 = some (.getfield 32, 3) := by decide +kernel
theorem f113_25 : zft 113 25 = some (.iload_n 1, 1) := by decide +kernel
theorem f113_26 : zft 113 26 = some (.iaload, 1) := by decide +kernel
theorem f113_27 : zft 113 27 = some (.aload_n 0, 1) := by decide +kernel
theorem f113_28 : zft 113 28 = some (.getfield 122, 3) := by decide +kernel
theorem f113_31 : zft 113 31 = some (.if_icmp .gt 6, 3) := by decide +kernel
theorem f113_34 : zft 113 34 = some (.bipush (-3), 2) := by decide +kernel
theorem f113_36 : zft 113 36 = some (.ireturn, 1) := by decide +kernel
theorem f113_37 : zft 113 37 = some (.aload_n 0, 1) := by decide +kernel
theorem f113_38 : zft 113 38 = some (.getfield 41, 3) := by decide +kernel
theorem f113_41 : zft 113 41 = some (.iload_n 1, 1) := by decide +kernel
theorem f113_42 : zft 113 42 = some (.iconst 2, 1) := by decide +kernel
theorem f113_43 : zft 113 43 = some (.iastore, 1) := by decide +kernel
theorem f113_44 : zft 113 44 = some (.iconst 0, 1) := by decide +kernel
theorem f113_45 : zft 113 45 = some (.istore_n 2, 1) := by decide +kernel
theorem f113_46 : zft 113 46 = some (.iload_n 2, 1) := by decide +kernel
theorem f113_47 : zft 113 47 = some (.aload_n 0, 1) := by decide +kernel
theorem f113_48 : zft 113 48 = some (.getfield 35, 3) := by decide +kernel
theorem f113_51 : zft 113 51 = some (.iload_n 1, 1) := by decide +kernel
theorem f113_52 : zft 113 52 = some (.iaload, 1) := by decide +kernel
theorem f113_53 : zft 113 53 = some (.if_icmp .ge 15, 3) := by decide +kernel
theorem f113_56 : zft 113 56 = some (.aload_n 0, 1) := by decide +kernel
theorem f113_57 : zft 113 57 = some (.iload_n 1, 1) := by decide +kernel
theorem f113_58 : zft 113 58 = some (.iload_n 2, 1) := by decide +kernel
theorem f113_59 : zft 113 59 = some (.invokevirtual 157, 3) := by decide +kernel
theorem f113_62 : zft 113 62 = some (.iinc 2 1, 3) := by decide +kernel
theorem f113_65 : zft 113 65 = some (.goto (-19), 3) := by decide +kernel
theorem f113_68 : zft 113 68 = some (.iconst (-1), 1) := by decide +kernel
theorem f113_69 : zft 113 69 = some (.istore_n 2, 1) := by decide +kernel
theorem f113_70 : zft 113 70 = some (.iconst 0, 1) := by decide +kernel
theorem f113_71 : zft 113 71 = some (.istore_n 3, 1) := by decide +kernel
theorem f113_72 : zft 113 72 = some (.iload_n 3, 1) := by decide +kernel
theorem f113_73 : zft 113 73 = some (.aload_n 0, 1) := by decide +kernel
theorem f113_74 : zft 113 74 = some (.getfield 154, 3) := by decide +kernel
theorem f113_77 : zft 113 77 = some (.if_icmp .ge 67, 3) := by decide +kernel
theorem f113_80 : zft 113 80 = some (.aload_n 0, 1) := by decide +kernel
theorem f113_81 : zft 113 81 = some (.getfield 68, 3) := by decide +kernel
theorem f113_84 : zft 113 84 = some (.iload_n 3, 1) := by decide +kernel
theorem f113_85 : zft 113 85 = some (.iaload, 1) := by decide +kernel
theorem f113_86 : zft 113 86 = some (.aload_n 0, 1) := by decide +kernel
theorem f113_87 : zft 113 87 = some (.getfield 32, 3) := by decide +kernel
theorem f113_90 : zft 113 90 = some (.iload_n 1, 1) := by decide +kernel
theorem f113_91 : zft 113 91 = some (.iaload, 1) := by decide +kernel
theorem f113_92 : zft 113 92 = some (.aload_n 0, 1) := by decide +kernel
theorem f113_93 : zft 113 93 = some (.getfield 122, 3) := by decide +kernel
theorem f113_96 : zft 113 96 = some (.isub, 1) := by decide +kernel
theorem f113_97 : zft 113 97 = some (.if_icmp .gt 7, 3) := by decide +kernel
theorem f113_100 : zft 113 100 = some (.iconst 1, 1) := by decide +kernel
theorem f113_101 : zft 113 101 = some (.goto 4, 3) := by decide +kernel
theorem f113_104 : zft 113 104 = some (.iconst 0, 1) := by decide +kernel
theorem f113_105 : zft 113 105 = some (.istore 4, 2) := by decide +kernel
theorem f113_107 : zft 113 107 = some (.iload 4, 2) := by decide +kernel
theorem f113_109 : zft 113 109 = some (.ifCond .eq 27, 3) := by decide +kernel
theorem f113_112 : zft 113 112 = some (.iload_n 2, 1) := by decide +kernel
theorem f113_113 : zft 113 113 = some (.iconst (-1), 1) := by decide +kernel
theorem f113_114 : zft 113 114 = some (.if_icmp .eq 18, 3) := by decide +kernel
theorem f113_117 : zft 113 117 = some (.aload_n 0, 1) := by decide +kernel
theorem f113_118 : zft 113 118 = some (.getfield 68, 3) := by decide +kernel
theorem f113_121 : zft 113 121 = some (.iload_n 3, 1) := by decide +kernel
theorem f113_122 : zft 113 122 = some (.iaload, 1) := by decide +kernel
theorem f113_123 : zft 113 123 = some (.aload_n 0, 1) := by decide +kernel
theorem f113_124 : zft 113 124 = some (.getfield 68, 3) := by decide +kernel
theorem f113_127 : zft 113 127 = some (.iload_n 2, 1) := by decide +kernel
theorem f113_128 : zft 113 128 = some (.iaload, 1) := by decide +kernel
theorem f113_129 : zft 113 129 = some (.if_icmp .lt 7, 3) := by decide +kernel
theorem f113_132 : zft 113 132 = some (.iload_n 3, 1) := by decide +kernel
theorem f113_133 : zft 113 133 = some (.goto 4, 3) := by decide +kernel
theorem f113_136 : zft 113 136 = some (.iload_n 2, 1) := by decide +kernel
theorem f113_137 : zft 113 137 = some (.istore_n 2, 1) := by decide +kernel
theorem f113_138 : zft 113 138 = some (.iinc 3 1, 3) := by decide +kernel
theorem f113_141 : zft 113 141 = some (.goto (-69), 3) := by decide +kernel
theorem f113_144 : zft 113 144 = some (.iload_n 2, 1) := by decide +kernel
theorem f113_145 : zft 113 145 = some (.iconst (-1), 1) := by decide +kernel
theorem f113_146 : zft 113 146 = some (.if_icmp .ne 7, 3) := by decide +kernel
theorem f113_149 : zft 113 149 = some (.iconst 0, 1) := by decide +kernel
theorem f113_150 : zft 113 150 = some (.goto 9, 3) := by decide +kernel
theorem f113_153 : zft 113 153 = some (.aload_n 0, 1) := by decide +kernel
theorem f113_154 : zft 113 154 = some (.getfield 71, 3) := by decide +kernel
theorem f113_157 : zft 113 157 = some (.iload_n 2, 1) := by decide +kernel
theorem f113_158 : zft 113 158 = some (.iaload, 1) := by decide +kernel
theorem f113_159 : zft 113 159 = some (.ireturn, 1) := by decide +kernel
theorem o113 : zo 113 = 7 := by decide +kernel
theorem p113 : zp 113 = 1 := by decide +kernel
theorem n113 : zn 113 = 5 := by decide +kernel
theorem v113 : zr 113 = (some .int) := by decide +kernel
theorem f114_0 : zft 114 0 = some (.iconst 0, 1) := by decide +kernel
theorem f114_1 : zft 114 1 = some (.istore 5, 2) := by decide +kernel
theorem f114_3 : zft 114 3 = some (.iload 5, 2) := by decide +kernel
theorem f114_5 : zft 114 5 = some (.aload_n 0, 1) := by decide +kernel
theorem f114_6 : zft 114 6 = some (.getfield 35, 3) := by decide +kernel
theorem f114_9 : zft 114 9 = some (.iload_n 1, 1) := by decide +kernel
theorem f114_10 : zft 114 10 = some (.iaload, 1) := by decide +kernel
theorem f114_11 : zft 114 11 = some (.if_icmp .ge 60, 3) := by decide +kernel
theorem f114_14 : zft 114 14 = some (.aload_n 0, 1) := by decide +kernel
theorem f114_15 : zft 114 15 = some (.getfield 44, 3) := by decide +kernel
theorem f114_18 : zft 114 18 = some (.bipush 7, 2) := by decide +kernel
theorem f114_20 : zft 114 20 = some (.iload_n 1, 1) := by decide +kernel
theorem f114_21 : zft 114 21 = some (.imul, 1) := by decide +kernel
theorem f114_22 : zft 114 22 = some (.iload 5, 2) := by decide +kernel
theorem f114_24 : zft 114 24 = some (.iadd, 1) := by decide +kernel
theorem f114_25 : zft 114 25 = some (.baload, 1) := by decide +kernel
theorem f114_26 : zft 114 26 = some (.ifCond .eq 39, 3) := by decide +kernel
theorem f114_29 : zft 114 29 = some (.aload_n 0, 1) := by decide +kernel
theorem f114_30 : zft 114 30 = some (.getfield 38, 3) := by decide +kernel
theorem f114_33 : zft 114 33 = some (.bipush 7, 2) := by decide +kernel
theorem f114_35 : zft 114 35 = some (.iload_n 1, 1) := by decide +kernel
theorem f114_36 : zft 114 36 = some (.imul, 1) := by decide +kernel
theorem f114_37 : zft 114 37 = some (.iload 5, 2) := by decide +kernel
theorem f114_39 : zft 114 39 = some (.iadd, 1) := by decide +kernel
theorem f114_40 : zft 114 40 = some (.iaload, 1) := by decide +kernel
theorem f114_41 : zft 114 41 = some (.iload_n 2, 1) := by decide +kernel
theorem f114_42 : zft 114 42 = some (.if_icmp .ne 23, 3) := by decide +kernel
theorem f114_45 : zft 114 45 = some (.aload_n 0, 1) := by decide +kernel
theorem f114_46 : zft 114 46 = some (.getfield 32, 3) := by decide +kernel
theorem f114_49 : zft 114 49 = some (.iload_n 1, 1) := by decide +kernel
theorem f114_50 : zft 114 50 = some (.iaload, 1) := by decide +kernel
theorem f114_51 : zft 114 51 = some (.iload 5, 2) := by decide +kernel
theorem f114_53 : zft 114 53 = some (.iadd, 1) := by decide +kernel
theorem f114_54 : zft 114 54 = some (.iload_n 3, 1) := by decide +kernel
theorem f114_55 : zft 114 55 = some (.iload 4, 2) := by decide +kernel
theorem f114_57 : zft 114 57 = some (.invokestatic 90, 3) := by decide +kernel
theorem f114_60 : zft 114 60 = some (.ifCond .eq 5, 3) := by decide +kernel
theorem f114_63 : zft 114 63 = some (.iconst 1, 1) := by decide +kernel
theorem f114_64 : zft 114 64 = some (.ireturn, 1) := by decide +kernel
theorem f114_65 : zft 114 65 = some (.iinc 5 1, 3) := by decide +kernel
theorem f114_68 : zft 114 68 = some (.goto (-65), 3) := by decide +kernel
theorem f114_71 : zft 114 71 = some (.iconst 0, 1) := by decide +kernel
theorem f114_72 : zft 114 72 = some (.ireturn, 1) := by decide +kernel
theorem o114 : zo 114 = 7 := by decide +kernel
theorem p114 : zp 114 = 4 := by decide +kernel
theorem n114 : zn 114 = 6 := by decide +kernel
theorem v114 : zr 114 = (some .boolean) := by decide +kernel
theorem f115_0 : zft 115 0 = some (.aload_n 0, 1) := by decide +kernel
theorem f115_1 : zft 115 1 = some (.getfield 122, 3) := by decide +kernel
theorem f115_4 : zft 115 4 = some (.aload_n 0, 1) := by decide +kernel
theorem f115_5 : zft 115 5 = some (.getfield 32, 3) := by decide +kernel
theorem f115_8 : zft 115 8 = some (.iload_n 1, 1) := by decide +kernel
theorem f115_9 : zft 115 9 = some (.iaload, 1) := by decide +kernel
theorem f115_10 : zft 115 10 = some (.if_icmp .ge 7, 3) := by decide +kernel
theorem f115_13 : zft 115 13 = some (.iconst 0, 1) := by decide +kernel
theorem f115_14 : zft 115 14 = some (.goto 14, 3) := by decide +kernel
theorem f115_17 : zft 115 17 = some (.aload_n 0, 1) := by decide +kernel
theorem f115_18 : zft 115 18 = some (.getfield 122, 3) := by decide +kernel
theorem f115_21 : zft 115 21 = some (.aload_n 0, 1) := by decide +kernel
theorem f115_22 : zft 115 22 = some (.getfield 32, 3) := by decide +kernel
theorem f115_25 : zft 115 25 = some (.iload_n 1, 1) := by decide +kernel
theorem f115_26 : zft 115 26 = some (.iaload, 1) := by decide +kernel
theorem f115_27 : zft 115 27 = some (.isub, 1) := by decide +kernel
theorem f115_28 : zft 115 28 = some (.istore_n 2, 1) := by decide +kernel
theorem f115_29 : zft 115 29 = some (.aload_n 0, 1) := by decide +kernel
theorem f115_30 : zft 115 30 = some (.getfield 122, 3) := by decide +kernel
theorem f115_33 : zft 115 33 = some (.aload_n 0, 1) := by decide +kernel
theorem f115_34 : zft 115 34 = some (.getfield 32, 3) := by decide +kernel
theorem f115_37 : zft 115 37 = some (.iload_n 1, 1) := by decide +kernel
theorem f115_38 : zft 115 38 = some (.iaload, 1) := by decide +kernel
theorem f115_39 : zft 115 39 = some (.if_icmp .ge 7, 3) := by decide +kernel
theorem f115_42 : zft 115 42 = some (.iconst 1, 1) := by decide +kernel
theorem f115_43 : zft 115 43 = some (.goto 4, 3) := by decide +kernel
theorem f115_46 : zft 115 46 = some (.iconst 0, 1) := by decide +kernel
theorem f115_47 : zft 115 47 = some (.istore_n 3, 1) := by decide +kernel
theorem f115_48 : zft 115 48 = some (.iload_n 3, 1) := by decide +kernel
theorem f115_49 : zft 115 49 = some (.ifCond .eq 7, 3) := by decide +kernel
theorem f115_52 : zft 115 52 = some (.iconst 0, 1) := by decide +kernel
theorem f115_53 : zft 115 53 = some (.goto 6, 3) := by decide +kernel
theorem f115_56 : zft 115 56 = some (.iload_n 2, 1) := by decide +kernel
theorem f115_57 : zft 115 57 = some (.iconst 1, 1) := by decide +kernel
theorem f115_58 : zft 115 58 = some (.iadd, 1) := by decide +kernel
theorem f115_59 : zft 115 59 = some (.istore 4, 2) := by decide +kernel
theorem f115_61 : zft 115 61 = some (.iload 4, 2) := by decide +kernel
theorem f115_63 : zft 115 63 = some (.aload_n 0, 1) := by decide +kernel
theorem f115_64 : zft 115 64 = some (.getfield 35, 3) := by decide +kernel
theorem f115_67 : zft 115 67 = some (.iload_n 1, 1) := by decide +kernel
theorem f115_68 : zft 115 68 = some (.iaload, 1) := by decide +kernel
theorem f115_69 : zft 115 69 = some (.if_icmp .ge 16, 3) := by decide +kernel
theorem f115_72 : zft 115 72 = some (.aload_n 0, 1) := by decide +kernel
theorem f115_73 : zft 115 73 = some (.iload_n 1, 1) := by decide +kernel
theorem f115_74 : zft 115 74 = some (.iload 4, 2) := by decide +kernel
theorem f115_76 : zft 115 76 = some (.invokevirtual 157, 3) := by decide +kernel
theorem f115_79 : zft 115 79 = some (.iinc 4 1, 3) := by decide +kernel
theorem f115_82 : zft 115 82 = some (.goto (-21), 3) := by decide +kernel
theorem f115_85 : zft 115 85 = some (.aload_n 0, 1) := by decide +kernel
theorem f115_86 : zft 115 86 = some (.iload_n 1, 1) := by decide +kernel
theorem f115_87 : zft 115 87 = some (.iload_n 2, 1) := by decide +kernel
theorem f115_88 : zft 115 88 = some (.iload_n 3, 1) := by decide +kernel
theorem f115_89 : zft 115 89 = some (.invokevirtual 150, 3) := by decide +kernel
theorem f115_92 : zft 115 92 = some (.iconst (-1), 1) := by decide +kernel
theorem f115_93 : zft 115 93 = some (.if_icmp .eq 7, 3) := by decide +kernel
theorem f115_96 : zft 115 96 = some (.iconst 1, 1) := by decide +kernel
theorem f115_97 : zft 115 97 = some (.goto 4, 3) := by decide +kernel
theorem f115_100 : zft 115 100 = some (.iconst 0, 1) := by decide +kernel
theorem f115_101 : zft 115 101 = some (.istore 4, 2) := by decide +kernel
theorem f115_103 : zft 115 103 = some (.iload 4, 2) := by decide +kernel
theorem f115_105 : zft 115 105 = some (.ifCond .ne 47, 3) := by decide +kernel
theorem f115_108 : zft 115 108 = some (.aload_n 0, 1) := by decide +kernel
theorem f115_109 : zft 115 109 = some (.getfield 41, 3) := by decide +kernel
theorem f115_112 : zft 115 112 = some (.iload_n 1, 1) := by decide +kernel
theorem f115_113 : zft 115 113 = some (.iload_n 3, 1) := by decide +kernel
theorem f115_114 : zft 115 114 = some (.ifCond .eq 7, 3) := by decide +kernel
theorem f115_117 : zft 115 117 = some (.iconst 2, 1) := by decide +kernel
theorem f115_118 : zft 115 118 = some (.goto 9, 3) := by decide +kernel
theorem f115_121 : zft 115 121 = some (.aload_n 0, 1) := by decide +kernel
theorem f115_122 : zft 115 122 = some (.getfield 41, 3) := by decide +kernel
theorem f115_125 : zft 115 125 = some (.iload_n 1, 1) := by decide +kernel
theorem f115_126 : zft 115 126 = some (.iaload, 1) := by decide +kernel
theorem f115_127 : zft 115 127 = some (.iastore, 1) := by decide +kernel
theorem f115_128 : zft 115 128 = some (.aload_n 0, 1) := by decide +kernel
theorem f115_129 : zft 115 129 = some (.getfield 35, 3) := by decide +kernel
theorem f115_132 : zft 115 132 = some (.iload_n 1, 1) := by decide +kernel
theorem f115_133 : zft 115 133 = some (.iload_n 3, 1) := by decide +kernel
theorem f115_134 : zft 115 134 = some (.ifCond .eq 12, 3) := by decide +kernel
theorem f115_137 : zft 115 137 = some (.aload_n 0, 1) := by decide +kernel
theorem f115_138 : zft 115 138 = some (.getfield 35, 3) := by decide +kernel
theorem f115_141 : zft 115 141 = some (.iload_n 1, 1) := by decide +kernel
theorem f115_142 : zft 115 142 = some (.iaload, 1) := by decide +kernel
theorem f115_143 : zft 115 143 = some (.goto 6, 3) := by decide +kernel
theorem f115_146 : zft 115 146 = some (.iload_n 2, 1) := by decide +kernel
theorem f115_147 : zft 115 147 = some (.iconst 1, 1) := by decide +kernel
theorem f115_148 : zft 115 148 = some (.iadd, 1) := by decide +kernel
theorem f115_149 : zft 115 149 = some (.iastore, 1) := by decide +kernel
theorem f115_150 : zft 115 150 = some (.iconst 0, 1) := by decide +kernel
theorem f115_151 : zft 115 151 = some (.ireturn, 1) := by decide +kernel
theorem f115_152 : zft 115 152 = some (.iload_n 3, 1) := by decide +kernel
theorem f115_153 : zft 115 153 = some (.ifCond .eq 7, 3) := by decide +kernel
theorem f115_156 : zft 115 156 = some (.iconst 0, 1) := by decide +kernel
theorem f115_157 : zft 115 157 = some (.goto 6, 3) := by decide +kernel
theorem f115_160 : zft 115 160 = some (.iload_n 2, 1) := by decide +kernel
theorem f115_161 : zft 115 161 = some (.iconst 1, 1) := by decide +kernel
theorem f115_162 : zft 115 162 = some (.iadd, 1) := by decide +kernel
theorem f115_163 : zft 115 163 = some (.istore 5, 2) := by decide +kernel
theorem f115_165 : zft 115 165 = some (.iload 5, 2) := by decide +kernel
theorem f115_167 : zft 115 167 = some (.aload_n 0, 1) := by decide +kernel
theorem f115_168 : zft 115 168 = some (.getfield 35, 3) := by decide +kernel
theorem f115_171 : zft 115 171 = some (.iload_n 1, 1) := by decide +kernel
theorem f115_172 : zft 115 172 = some (.iaload, 1) := by decide +kernel
theorem f115_173 : zft 115 173 = some (.if_icmp .ge 35, 3) := by decide +kernel
theorem f115_176 : zft 115 176 = some (.aload_n 0, 1) := by decide +kernel
theorem f115_177 : zft 115 177 = some (.getfield 38, 3) := by decide +kernel
theorem f115_180 : zft 115 180 = some (.bipush 7, 2) := by decide +kernel
theorem f115_182 : zft 115 182 = some (.iload_n 1, 1) := by decide +kernel
theorem f115_183 : zft 115 183 = some (.imul, 1) := by decide +kernel
theorem f115_184 : zft 115 184 = some (.iload 5, 2) := by decide +kernel
theorem f115_186 : zft 115 186 = some (.iadd, 1) := by decide +kernel
theorem f115_187 : zft 115 187 = some (.aload_n 0, 1) := by decide +kernel
theorem f115_188 : zft 115 188 = some (.getfield 65, 3) := by decide +kernel
theorem f115_191 : zft 115 191 = some (.iload 5, 2) := by decide +kernel
theorem f115_193 : zft 115 193 = some (.iaload, 1) := by decide +kernel
theorem f115_194 : zft 115 194 = some (.iastore, 1) := by decide +kernel
theorem f115_195 : zft 115 195 = some (.aload_n 0, 1) := by decide +kernel
theorem f115_196 : zft 115 196 = some (.iload_n 1, 1) := by decide +kernel
theorem f115_197 : zft 115 197 = some (.iload 5, 2) := by decide +kernel
theorem f115_199 : zft 115 199 = some (.invokevirtual 135, 3) := by decide +kernel
theorem f115_202 : zft 115 202 = some (.iinc 5 1, 3) := by decide +kernel
theorem f115_205 : zft 115 205 = some (.goto (-40), 3) := by decide +kernel
theorem f115_208 : zft 115 208 = some (.iconst 1, 1) := by decide +kernel
theorem f115_209 : zft 115 209 = some (.ireturn, 1) := by decide +kernel
theorem o115 : zo 115 = 7 := by decide +kernel
theorem p115 : zp 115 = 1 := by decide +kernel
theorem n115 : zn 115 = 6 := by decide +kernel
theorem v115 : zr 115 = (some .boolean) := by decide +kernel
theorem f116_0 : zft 116 0 = some (.aload_n 0, 1) := by decide +kernel
theorem f116_1 : zft 116 1 = some (.iload_n 1, 1) := by decide +kernel
theorem f116_2 : zft 116 2 = some (.invokevirtual 97, 3) := by decide +kernel
theorem f116_5 : zft 116 5 = some (.ifCond .eq 22, 3) := by decide +kernel
theorem f116_8 : zft 116 8 = some (.iload_n 2, 1) := by decide +kernel
theorem f116_9 : zft 116 9 = some (.aload_n 0, 1) := by decide +kernel
theorem f116_10 : zft 116 10 = some (.getfield 122, 3) := by decide +kernel
theorem f116_13 : zft 116 13 = some (.if_icmp .le 14, 3) := by decide +kernel
theorem f116_16 : zft 116 16 = some (.iload_n 2, 1) := by decide +kernel
theorem f116_17 : zft 116 17 = some (.iload_n 3, 1) := by decide +kernel
theorem f116_18 : zft 116 18 = some (.if_icmp .gt 9, 3) := by decide +kernel
theorem f116_21 : zft 116 21 = some (.iload_n 3, 1) := by decide +kernel
theorem f116_22 : zft 116 22 = some (.bipush 39, 2) := by decide +kernel
theorem f116_24 : zft 116 24 = some (.if_icmp .le 6, 3) := by decide +kernel
theorem f116_27 : zft 116 27 = some (.bipush (-2), 2) := by decide +kernel
theorem f116_29 : zft 116 29 = some (.ireturn, 1) := by decide +kernel
theorem f116_30 : zft 116 30 = some (.iload_n 2, 1) := by decide +kernel
theorem f116_31 : zft 116 31 = some (.istore 4, 2) := by decide +kernel
theorem f116_33 : zft 116 33 = some (.iload 4, 2) := by decide +kernel
theorem f116_35 : zft 116 35 = some (.iload_n 3, 1) := by decide +kernel
theorem f116_36 : zft 116 36 = some (.if_icmp .gt 22, 3) := by decide +kernel
theorem f116_39 : zft 116 39 = some (.aload_n 0, 1) := by decide +kernel
theorem f116_40 : zft 116 40 = some (.getfield 19, 3) := by decide +kernel
theorem f116_43 : zft 116 43 = some (.bipush 40, 2) := by decide +kernel
theorem f116_45 : zft 116 45 = some (.iload_n 1, 1) := by decide +kernel
theorem f116_46 : zft 116 46 = some (.imul, 1) := by decide +kernel
theorem f116_47 : zft 116 47 = some (.iload 4, 2) := by decide +kernel
theorem f116_49 : zft 116 49 = some (.iadd, 1) := by decide +kernel
theorem f116_50 : zft 116 50 = some (.iconst 1, 1) := by decide +kernel
theorem f116_51 : zft 116 51 = some (.bastore, 1) := by decide +kernel
theorem f116_52 : zft 116 52 = some (.iinc 4 1, 3) := by decide +kernel
theorem f116_55 : zft 116 55 = some (.goto (-22), 3) := by decide +kernel
theorem f116_58 : zft 116 58 = some (.iconst 0, 1) := by decide +kernel
theorem f116_59 : zft 116 59 = some (.istore 4, 2) := by decide +kernel
theorem f116_61 : zft 116 61 = some (.iconst 0, 1) := by decide +kernel
theorem f116_62 : zft 116 62 = some (.istore 5, 2) := by decide +kernel
theorem f116_64 : zft 116 64 = some (.iload 5, 2) := by decide +kernel
theorem f116_66 : zft 116 66 = some (.aload_n 0, 1) := by decide +kernel
theorem f116_67 : zft 116 67 = some (.getfield 94, 3) := by decide +kernel
theorem f116_70 : zft 116 70 = some (.if_icmp .ge 51, 3) := by decide +kernel
theorem f116_73 : zft 116 73 = some (.aload_n 0, 1) := by decide +kernel
theorem f116_74 : zft 116 74 = some (.getfield 41, 3) := by decide +kernel
theorem f116_77 : zft 116 77 = some (.iload 5, 2) := by decide +kernel
theorem f116_79 : zft 116 79 = some (.iaload, 1) := by decide +kernel
theorem f116_80 : zft 116 80 = some (.iconst 1, 1) := by decide +kernel
theorem f116_81 : zft 116 81 = some (.if_icmp .ne 34, 3) := by decide +kernel
theorem f116_84 : zft 116 84 = some (.aload_n 0, 1) := by decide +kernel
theorem f116_85 : zft 116 85 = some (.iload 5, 2) := by decide +kernel
theorem f116_87 : zft 116 87 = some (.iload_n 1, 1) := by decide +kernel
theorem f116_88 : zft 116 88 = some (.iload_n 2, 1) := by decide +kernel
theorem f116_89 : zft 116 89 = some (.iload_n 3, 1) := by decide +kernel
theorem f116_90 : zft 116 90 = some (.invokevirtual 160, 3) := by decide +kernel
theorem f116_93 : zft 116 93 = some (.ifCond .eq 22, 3) := by decide +kernel
theorem f116_96 : zft 116 96 = some (.iload 4, 2) := by decide +kernel
theorem f116_98 : zft 116 98 = some (.aload_n 0, 1) := by decide +kernel
theorem f116_99 : zft 116 99 = some (.iload 5, 2) := by decide +kernel
theorem f116_101 : zft 116 101 = some (.invokevirtual 164, 3) := by decide +kernel
theorem f116_104 : zft 116 104 = some (.ifCond .eq 7, 3) := by decide +kernel
theorem f116_107 : zft 116 107 = some (.iconst 0, 1) := by decide +kernel
theorem f116_108 : zft 116 108 = some (.goto 4, 3) := by decide +kernel
theorem f116_111 : zft 116 111 = some (.iconst 1, 1) := by decide +kernel
theorem f116_112 : zft 116 112 = some (.iadd, 1) := by decide +kernel
theorem f116_113 : zft 116 113 = some (.istore 4, 2) := by decide +kernel
theorem f116_115 : zft 116 115 = some (.iinc 5 1, 3) := by decide +kernel
theorem f116_118 : zft 116 118 = some (.goto (-54), 3) := by decide +kernel
theorem f116_121 : zft 116 121 = some (.iload 4, 2) := by decide +kernel
theorem f116_123 : zft 116 123 = some (.ireturn, 1) := by decide +kernel
theorem o116 : zo 116 = 7 := by decide +kernel
theorem p116 : zp 116 = 3 := by decide +kernel
theorem n116 : zn 116 = 6 := by decide +kernel
theorem v116 : zr 116 = (some .int) := by decide +kernel
theorem f117_0 : zft 117 0 = some (.iconst 0, 1) := by decide +kernel
theorem f117_1 : zft 117 1 = some (.istore_n 2, 1) := by decide +kernel
theorem f117_2 : zft 117 2 = some (.iconst 1, 1) := by decide +kernel
theorem f117_3 : zft 117 3 = some (.istore_n 3, 1) := by decide +kernel
theorem f117_4 : zft 117 4 = some (.iload_n 3, 1) := by decide +kernel
theorem f117_5 : zft 117 5 = some (.aload_n 0, 1) := by decide +kernel
theorem f117_6 : zft 117 6 = some (.getfield 35, 3) := by decide +kernel
theorem f117_9 : zft 117 9 = some (.iload_n 1, 1) := by decide +kernel
theorem f117_10 : zft 117 10 = some (.iaload, 1) := by decide +kernel
theorem f117_11 : zft 117 11 = some (.if_icmp .ge 90, 3) := by decide +kernel
theorem f117_14 : zft 117 14 = some (.bipush 7, 2) := by decide +kernel
theorem f117_16 : zft 117 16 = some (.iload_n 1, 1) := by decide +kernel
theorem f117_17 : zft 117 17 = some (.imul, 1) := by decide +kernel
theorem f117_18 : zft 117 18 = some (.iload_n 3, 1) := by decide +kernel
theorem f117_19 : zft 117 19 = some (.iadd, 1) := by decide +kernel
theorem f117_20 : zft 117 20 = some (.istore 4, 2) := by decide +kernel
theorem f117_22 : zft 117 22 = some (.iload_n 2, 1) := by decide +kernel
theorem f117_23 : zft 117 23 = some (.aload_n 0, 1) := by decide +kernel
theorem f117_24 : zft 117 24 = some (.getfield 50, 3) := by decide +kernel
theorem f117_27 : zft 117 27 = some (.iload 4, 2) := by decide +kernel
theorem f117_29 : zft 117 29 = some (.iconst 1, 1) := by decide +kernel
theorem f117_30 : zft 117 30 = some (.isub, 1) := by decide +kernel
theorem f117_31 : zft 117 31 = some (.baload, 1) := by decide +kernel
theorem f117_32 : zft 117 32 = some (.ifCond .eq 60, 3) := by decide +kernel
theorem f117_35 : zft 117 35 = some (.aload_n 0, 1) := by decide +kernel
theorem f117_36 : zft 117 36 = some (.getfield 50, 3) := by decide +kernel
theorem f117_39 : zft 117 39 = some (.iload 4, 2) := by decide +kernel
theorem f117_41 : zft 117 41 = some (.baload, 1) := by decide +kernel
theorem f117_42 : zft 117 42 = some (.ifCond .eq 50, 3) := by decide +kernel
theorem f117_45 : zft 117 45 = some (.aload_n 0, 1) := by decide +kernel
theorem f117_46 : zft 117 46 = some (.getfield 38, 3) := by decide +kernel
theorem f117_49 : zft 117 49 = some (.iload 4, 2) := by decide +kernel
theorem f117_51 : zft 117 51 = some (.iconst 1, 1) := by decide +kernel
theorem f117_52 : zft 117 52 = some (.isub, 1) := by decide +kernel
theorem f117_53 : zft 117 53 = some (.iaload, 1) := by decide +kernel
theorem f117_54 : zft 117 54 = some (.aload_n 0, 1) := by decide +kernel
theorem f117_55 : zft 117 55 = some (.getfield 38, 3) := by decide +kernel
theorem f117_58 : zft 117 58 = some (.iload 4, 2) := by decide +kernel
theorem f117_60 : zft 117 60 = some (.iaload, 1) := by decide +kernel
theorem f117_61 : zft 117 61 = some (.if_icmp .eq 31, 3) := by decide +kernel
theorem f117_64 : zft 117 64 = some (.aload_n 0, 1) := by decide +kernel
theorem f117_65 : zft 117 65 = some (.getfield 26, 3) := by decide +kernel
theorem f117_68 : zft 117 68 = some (.bipush 12, 2) := by decide +kernel
theorem f117_70 : zft 117 70 = some (.aload_n 0, 1) := by decide +kernel
theorem f117_71 : zft 117 71 = some (.getfield 38, 3) := by decide +kernel
theorem f117_74 : zft 117 74 = some (.iload 4, 2) := by decide +kernel
theorem f117_76 : zft 117 76 = some (.iconst 1, 1) := by decide +kernel
theorem f117_77 : zft 117 77 = some (.isub, 1) := by decide +kernel
theorem f117_78 : zft 117 78 = some (.iaload, 1) := by decide +kernel
theorem f117_79 : zft 117 79 = some (.imul, 1) := by decide +kernel
theorem f117_80 : zft 117 80 = some (.aload_n 0, 1) := by decide +kernel
theorem f117_81 : zft 117 81 = some (.getfield 38, 3) := by decide +kernel
theorem f117_84 : zft 117 84 = some (.iload 4, 2) := by decide +kernel
theorem f117_86 : zft 117 86 = some (.iaload, 1) := by decide +kernel
theorem f117_87 : zft 117 87 = some (.iadd, 1) := by decide +kernel
theorem f117_88 : zft 117 88 = some (.iaload, 1) := by decide +kernel
theorem f117_89 : zft 117 89 = some (.goto 4, 3) := by decide +kernel
theorem f117_92 : zft 117 92 = some (.iconst 0, 1) := by decide +kernel
theorem f117_93 : zft 117 93 = some (.iadd, 1) := by decide +kernel
theorem f117_94 : zft 117 94 = some (.istore_n 2, 1) := by decide +kernel
theorem f117_95 : zft 117 95 = some (.iinc 3 1, 3) := by decide +kernel
theorem f117_98 : zft 117 98 = some (.goto (-94), 3) := by decide +kernel
theorem f117_101 : zft 117 101 = some (.iload_n 2, 1) := by decide +kernel
theorem f117_102 : zft 117 102 = some (.ireturn, 1) := by decide +kernel
theorem o117 : zo 117 = 7 := by decide +kernel
theorem p117 : zp 117 = 1 := by decide +kernel
theorem n117 : zn 117 = 5 := by decide +kernel
theorem v117 : zr 117 = (some .int) := by decide +kernel
theorem f118_0 : zft 118 0 = some (.iconst 0, 1) := by decide +kernel
theorem f118_1 : zft 118 1 = some (.istore_n 2, 1) := by decide +kernel
theorem f118_2 : zft 118 2 = some (.iconst 0, 1) := by decide +kernel
theorem f118_3 : zft 118 3 = some (.istore_n 3, 1) := by decide +kernel
theorem f118_4 : zft 118 4 = some (.iload_n 3, 1) := by decide +kernel
theorem f118_5 : zft 118 5 = some (.aload_n 0, 1) := by decide +kernel
theorem f118_6 : zft 118 6 = some (.getfield 35, 3) := by decide +kernel
theorem f118_9 : zft 118 9 = some (.iload_n 1, 1) := by decide +kernel
theorem f118_10 : zft 118 10 = some (.iaload, 1) := by decide +kernel
theorem f118_11 : zft 118 11 = some (.if_icmp .ge 31, 3) := by decide +kernel
theorem f118_14 : zft 118 14 = some (.iload_n 2, 1) := by decide +kernel
theorem f118_15 : zft 118 15 = some (.aload_n 0, 1) := by decide +kernel
theorem f118_16 : zft 118 16 = some (.getfield 50, 3) := by decide +kernel
theorem f118_19 : zft 118 19 = some (.bipush 7, 2) := by decide +kernel
theorem f118_21 : zft 118 21 = some (.iload_n 1, 1) := by decide +kernel
theorem f118_22 : zft 118 22 = some (.imul, 1) := by decide +kernel
theorem f118_23 : zft 118 23 = some (.iload_n 3, 1) := by decide +kernel
theorem f118_24 : zft 118 24 = some (.iadd, 1) := by decide +kernel
theorem f118_25 : zft 118 25 = some (.baload, 1) := by decide +kernel
theorem f118_26 : zft 118 26 = some (.ifCond .eq 7, 3) := by decide +kernel
theorem f118_29 : zft 118 29 = some (.iconst 1, 1) := by decide +kernel
theorem f118_30 : zft 118 30 = some (.goto 4, 3) := by decide +kernel
theorem f118_33 : zft 118 33 = some (.iconst 0, 1) := by decide +kernel
theorem f118_34 : zft 118 34 = some (.iadd, 1) := by decide +kernel
theorem f118_35 : zft 118 35 = some (.istore_n 2, 1) := by decide +kernel
theorem f118_36 : zft 118 36 = some (.iinc 3 1, 3) := by decide +kernel
theorem f118_39 : zft 118 39 = some (.goto (-35), 3) := by decide +kernel
theorem f118_42 : zft 118 42 = some (.iload_n 2, 1) := by decide +kernel
theorem f118_43 : zft 118 43 = some (.ireturn, 1) := by decide +kernel
theorem o118 : zo 118 = 7 := by decide +kernel
theorem p118 : zp 118 = 1 := by decide +kernel
theorem n118 : zn 118 = 4 := by decide +kernel
theorem v118 : zr 118 = (some .int) := by decide +kernel
theorem f119_0 : zft 119 0 = some (.aload_n 0, 1) := by decide +kernel
theorem f119_1 : zft 119 1 = some (.iload_n 1, 1) := by decide +kernel
theorem f119_2 : zft 119 2 = some (.invokevirtual 125, 3) := by decide +kernel
theorem f119_5 : zft 119 5 = some (.ifCond .ne 6, 3) := by decide +kernel
theorem f119_8 : zft 119 8 = some (.bipush (-2), 2) := by decide +kernel
theorem f119_10 : zft 119 10 = some (.ireturn, 1) := by decide +kernel
theorem f119_11 : zft 119 11 = some (.iload_n 2, 1) := by decide +kernel
theorem f119_12 : zft 119 12 = some (.tableswitch 91 0 6 #[44, 51, 58, 65, 72, 78, 85], 44) := by decide +kernel
theorem f119_56 : zft 119 56 = some (.aload_n 0, 1) := by decide +kernel
theorem f119_57 : zft 119 57 = some (.getfield 29, 3) := by decide +kernel
theorem f119_60 : zft 119 60 = some (.iload_n 1, 1) := by decide +kernel
theorem f119_61 : zft 119 61 = some (.iaload, 1) := by decide +kernel
theorem f119_62 : zft 119 62 = some (.ireturn, 1) := by decide +kernel
theorem f119_63 : zft 119 63 = some (.aload_n 0, 1) := by decide +kernel
theorem f119_64 : zft 119 64 = some (.getfield 32, 3) := by decide +kernel
theorem f119_67 : zft 119 67 = some (.iload_n 1, 1) := by decide +kernel
theorem f119_68 : zft 119 68 = some (.iaload, 1) := by decide +kernel
theorem f119_69 : zft 119 69 = some (.ireturn, 1) := by decide +kernel
theorem f119_70 : zft 119 70 = some (.aload_n 0, 1) := by decide +kernel
theorem f119_71 : zft 119 71 = some (.getfield 35, 3) := by decide +kernel
theorem f119_74 : zft 119 74 = some (.iload_n 1, 1) := by decide +kernel
theorem f119_75 : zft 119 75 = some (.iaload, 1) := by decide +kernel
theorem f119_76 : zft 119 76 = some (.ireturn, 1) := by decide +kernel
theorem f119_77 : zft 119 77 = some (.aload_n 0, 1) := by decide +kernel
theorem f119_78 : zft 119 78 = some (.getfield 41, 3) := by decide +kernel
theorem f119_81 : zft 119 81 = some (.iload_n 1, 1) := by decide +kernel
theorem f119_82 : zft 119 82 = some (.iaload, 1) := by decide +kernel
theorem f119_83 : zft 119 83 = some (.ireturn, 1) := by decide +kernel
theorem f119_84 : zft 119 84 = some (.aload_n 0, 1) := by decide +kernel
theorem f119_85 : zft 119 85 = some (.iload_n 1, 1) := by decide +kernel
theorem f119_86 : zft 119 86 = some (.invokevirtual 167, 3) := by decide +kernel
theorem f119_89 : zft 119 89 = some (.ireturn, 1) := by decide +kernel
theorem f119_90 : zft 119 90 = some (.aload_n 0, 1) := by decide +kernel
theorem f119_91 : zft 119 91 = some (.getfield 53, 3) := by decide +kernel
theorem f119_94 : zft 119 94 = some (.iload_n 1, 1) := by decide +kernel
theorem f119_95 : zft 119 95 = some (.iaload, 1) := by decide +kernel
theorem f119_96 : zft 119 96 = some (.ireturn, 1) := by decide +kernel
theorem f119_97 : zft 119 97 = some (.aload_n 0, 1) := by decide +kernel
theorem f119_98 : zft 119 98 = some (.iload_n 1, 1) := by decide +kernel
theorem f119_99 : zft 119 99 = some (.invokevirtual 170, 3) := by decide +kernel
theorem f119_102 : zft 119 102 = some (.ireturn, 1) := by decide +kernel
theorem f119_103 : zft 119 103 = some (.iload_n 2, 1) := by decide +kernel
theorem f119_104 : zft 119 104 = some (.bipush 10, 2) := by decide +kernel
theorem f119_106 : zft 119 106 = some (.bipush 9, 2) := by decide +kernel
theorem f119_108 : zft 119 108 = some (.aload_n 0, 1) := by decide +kernel
theorem f119_109 : zft 119 109 = some (.getfield 35, 3) := by decide +kernel
theorem f119_112 : zft 119 112 = some (.iload_n 1, 1) := by decide +kernel
theorem f119_113 : zft 119 113 = some (.iaload, 1) := by decide +kernel
theorem f119_114 : zft 119 114 = some (.iadd, 1) := by decide +kernel
theorem f119_115 : zft 119 115 = some (.invokestatic 90, 3) := by decide +kernel
theorem f119_118 : zft 119 118 = some (.ifCond .eq 18, 3) := by decide +kernel
theorem f119_121 : zft 119 121 = some (.aload_n 0, 1) := by decide +kernel
theorem f119_122 : zft 119 122 = some (.getfield 38, 3) := by decide +kernel
theorem f119_125 : zft 119 125 = some (.bipush 7, 2) := by decide +kernel
theorem f119_127 : zft 119 127 = some (.iload_n 1, 1) := by decide +kernel
theorem f119_128 : zft 119 128 = some (.imul, 1) := by decide +kernel
theorem f119_129 : zft 119 129 = some (.iload_n 2, 1) := by decide +kernel
theorem f119_130 : zft 119 130 = some (.iadd, 1) := by decide +kernel
theorem f119_131 : zft 119 131 = some (.bipush 10, 2) := by decide +kernel
theorem f119_133 : zft 119 133 = some (.isub, 1) := by decide +kernel
theorem f119_134 : zft 119 134 = some (.iaload, 1) := by decide +kernel
theorem f119_135 : zft 119 135 = some (.ireturn, 1) := by decide +kernel
theorem f119_136 : zft 119 136 = some (.iload_n 2, 1) := by decide +kernel
theorem f119_137 : zft 119 137 = some (.bipush 20, 2) := by decide +kernel
theorem f119_139 : zft 119 139 = some (.bipush 19, 2) := by decide +kernel
theorem f119_141 : zft 119 141 = some (.aload_n 0, 1) := by decide +kernel
theorem f119_142 : zft 119 142 = some (.getfield 35, 3) := by decide +kernel
theorem f119_145 : zft 119 145 = some (.iload_n 1, 1) := by decide +kernel
theorem f119_146 : zft 119 146 = some (.iaload, 1) := by decide +kernel
theorem f119_147 : zft 119 147 = some (.iadd, 1) := by decide +kernel
theorem f119_148 : zft 119 148 = some (.invokestatic 90, 3) := by decide +kernel
theorem f119_151 : zft 119 151 = some (.ifCond .eq 28, 3) := by decide +kernel
theorem f119_154 : zft 119 154 = some (.aload_n 0, 1) := by decide +kernel
theorem f119_155 : zft 119 155 = some (.getfield 44, 3) := by decide +kernel
theorem f119_158 : zft 119 158 = some (.bipush 7, 2) := by decide +kernel
theorem f119_160 : zft 119 160 = some (.iload_n 1, 1) := by decide +kernel
theorem f119_161 : zft 119 161 = some (.imul, 1) := by decide +kernel
theorem f119_162 : zft 119 162 = some (.iload_n 2, 1) := by decide +kernel
theorem f119_163 : zft 119 163 = some (.iadd, 1) := by decide +kernel
theorem f119_164 : zft 119 164 = some (.bipush 20, 2) := by decide +kernel
theorem f119_166 : zft 119 166 = some (.isub, 1) := by decide +kernel
theorem f119_167 : zft 119 167 = some (.baload, 1) := by decide +kernel
theorem f119_168 : zft 119 168 = some (.ifCond .eq 7, 3) := by decide +kernel
theorem f119_171 : zft 119 171 = some (.iconst 1, 1) := by decide +kernel
theorem f119_172 : zft 119 172 = some (.goto 9, 3) := by decide +kernel
theorem f119_175 : zft 119 175 = some (.iconst 0, 1) := by decide +kernel
theorem f119_176 : zft 119 176 = some (.goto 5, 3) := by decide +kernel
theorem f119_179 : zft 119 179 = some (.bipush (-2), 2) := by decide +kernel
theorem f119_181 : zft 119 181 = some (.ireturn, 1) := by decide +kernel
theorem o119 : zo 119 = 7 := by decide +kernel
theorem p119 : zp 119 = 2 := by decide +kernel
theorem n119 : zn 119 = 3 := by decide +kernel
theorem v119 : zr 119 = (some .int) := by decide +kernel
