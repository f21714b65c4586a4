theorem f132_0 : zft 132 0 = some (.new 7, 3) := by decide +kernel
theorem f132_3 : zft 132 3 = some (.dup, 1) := by decide +kernel
theorem f132_4 : zft 132 4 = some (.invokespecial 9, 3) := by decide +kernel
theorem f132_7 : zft 132 7 = some (.astore_n 1, 1) := by decide +kernel
theorem f132_8 : zft 132 8 = some (.new 10, 3) := by decide +kernel
theorem f132_11 : zft 132 11 = some (.dup, 1) := by decide +kernel
theorem f132_12 : zft 132 12 = some (.invokespecial 12, 3) := by decide +kernel
theorem f132_15 : zft 132 15 = some (.astore_n 2, 1) := by decide +kernel
theorem f132_16 : zft 132 16 = some (.iconst 0, 1) := by decide +kernel
theorem f132_17 : zft 132 17 = some (.istore_n 3, 1) := by decide +kernel
theorem f132_18 : zft 132 18 = some (.iload_n 3, 1) := by decide +kernel
theorem f132_19 : zft 132 19 = some (.aload_n 0, 1) := by decide +kernel
theorem f132_20 : zft 132 20 = some (.arraylength, 1) := by decide +kernel
theorem f132_21 : zft 132 21 = some (.iconst 5, 1) := by decide +kernel
theorem f132_22 : zft 132 22 = some (.isub, 1) := by decide +kernel
theorem f132_23 : zft 132 23 = some (.if_icmp .gt 900, 3) := by decide +kernel
theorem f132_26 : zft 132 26 = some (.aload_n 0, 1) := by decide +kernel
theorem f132_27 : zft 132 27 = some (.iload_n 3, 1) := by decide +kernel
theorem f132_28 : zft 132 28 = some (.iaload, 1) := by decide +kernel
theorem f132_29 : zft 132 29 = some (.bipush 31, 2) := by decide +kernel
theorem f132_31 : zft 132 31 = some (.iand, 1) := by decide +kernel
theorem f132_32 : zft 132 32 = some (.tableswitch 885 0 23 #[112, 165, 208, 241, 284, 317, 360, 403, 436, 459, 482, 515, 538, 561, 594, 637, 680, 703, 726, 769, 782, 815, 848, 871], 112) := by decide +kernel
theorem f132_144 : zft 132 144 = some (.aload_n 1, 1) := by decide +kernel
theorem f132_145 : zft 132 145 = some (.aload_n 0, 1) := by decide +kernel
theorem f132_146 : zft 132 146 = some (.iload_n 3, 1) := by decide +kernel
theorem f132_147 : zft 132 147 = some (.iconst 1, 1) := by decide +kernel
theorem f132_148 : zft 132 148 = some (.iadd, 1) := by decide +kernel
theorem f132_149 : zft 132 149 = some (.iaload, 1) := by decide +kernel
theorem f132_150 : zft 132 150 = some (.aload_n 0, 1) := by decide +kernel
theorem f132_151 : zft 132 151 = some (.iload_n 3, 1) := by decide +kernel
theorem f132_152 : zft 132 152 = some (.iconst 2, 1) := by decide +kernel
theorem f132_153 : zft 132 153 = some (.iadd, 1) := by decide +kernel
theorem f132_154 : zft 132 154 = some (.iaload, 1) := by decide +kernel
theorem f132_155 : zft 132 155 = some (.aload_n 0, 1) := by decide +kernel
theorem f132_156 : zft 132 156 = some (.iload_n 3, 1) := by decide +kernel
theorem f132_157 : zft 132 157 = some (.iconst 3, 1) := by decide +kernel
theorem f132_158 : zft 132 158 = some (.iadd, 1) := by decide +kernel
theorem f132_159 : zft 132 159 = some (.iaload, 1) := by decide +kernel
theorem f132_160 : zft 132 160 = some (.aload_n 0, 1) := by decide +kernel
theorem f132_161 : zft 132 161 = some (.iload_n 3, 1) := by decide +kernel
theorem f132_162 : zft 132 162 = some (.iconst 4, 1) := by decide +kernel
theorem f132_163 : zft 132 163 = some (.iadd, 1) := by decide +kernel
theorem f132_164 : zft 132 164 = some (.iaload, 1) := by decide +kernel
theorem f132_165 : zft 132 165 = some (.invokevirtual 13, 3) := by decide +kernel
theorem f132_168 : zft 132 168 = some (.aload_n 2, 1) := by decide +kernel
theorem f132_169 : zft 132 169 = some (.aload_n 0, 1) := by decide +kernel
theorem f132_170 : zft 132 170 = some (.iload_n 3, 1) := by decide +kernel
theorem f132_171 : zft 132 171 = some (.iconst 1, 1) := by decide +kernel
theorem f132_172 : zft 132 172 = some (.iadd, 1) := by decide +kernel
theorem f132_173 : zft 132 173 = some (.iaload, 1) := by decide +kernel
theorem f132_174 : zft 132 174 = some (.aload_n 0, 1) := by decide +kernel
theorem f132_175 : zft 132 175 = some (.iload_n 3, 1) := by decide +kernel
theorem f132_176 : zft 132 176 = some (.iconst 2, 1) := by decide +kernel
theorem f132_177 : zft 132 177 = some (.iadd, 1) := by decide +kernel
theorem f132_178 : zft 132 178 = some (.iaload, 1) := by decide +kernel
theorem f132_179 : zft 132 179 = some (.aload_n 0, 1) := by decide +kernel
theorem f132_180 : zft 132 180 = some (.iload_n 3, 1) := by decide +kernel
theorem f132_181 : zft 132 181 = some (.iconst 3, 1) := by decide +kernel
theorem f132_182 : zft 132 182 = some (.iadd, 1) := by decide +kernel
theorem f132_183 : zft 132 183 = some (.iaload, 1) := by decide +kernel
theorem f132_184 : zft 132 184 = some (.aload_n 0, 1) := by decide +kernel
theorem f132_185 : zft 132 185 = some (.iload_n 3, 1) := by decide +kernel
theorem f132_186 : zft 132 186 = some (.iconst 4, 1) := by decide +kernel
theorem f132_187 : zft 132 187 = some (.iadd, 1) := by decide +kernel
theorem f132_188 : zft 132 188 = some (.iaload, 1) := by decide +kernel
theorem f132_189 : zft 132 189 = some (.invokevirtual 17, 3) := by decide +kernel
theorem f132_192 : zft 132 192 = some (.if_icmp .eq 725, 3) := by decide +kernel
theorem f132_195 : zft 132 195 = some (.iconst 0, 1) := by decide +kernel
theorem f132_196 : zft 132 196 = some (.ireturn, 1) := by decide +kernel
theorem f132_197 : zft 132 197 = some (.aload_n 1, 1) := by decide +kernel
theorem f132_198 : zft 132 198 = some (.aload_n 0, 1) := by decide +kernel
theorem f132_199 : zft 132 199 = some (.iload_n 3, 1) := by decide +kernel
theorem f132_200 : zft 132 200 = some (.iconst 1, 1) := by decide +kernel
theorem f132_201 : zft 132 201 = some (.iadd, 1) := by decide +kernel
theorem f132_202 : zft 132 202 = some (.iaload, 1) := by decide +kernel
theorem f132_203 : zft 132 203 = some (.aload_n 0, 1) := by decide +kernel
theorem f132_204 : zft 132 204 = some (.iload_n 3, 1) := by decide +kernel
theorem f132_205 : zft 132 205 = some (.iconst 2, 1) := by decide +kernel
theorem f132_206 : zft 132 206 = some (.iadd, 1) := by decide +kernel
theorem f132_207 : zft 132 207 = some (.iaload, 1) := by decide +kernel
theorem f132_208 : zft 132 208 = some (.aload_n 0, 1) := by decide +kernel
theorem f132_209 : zft 132 209 = some (.iload_n 3, 1) := by decide +kernel
theorem f132_210 : zft 132 210 = some (.iconst 3, 1) := by decide +kernel
theorem f132_211 : zft 132 211 = some (.iadd, 1) := by decide +kernel
theorem f132_212 : zft 132 212 = some (.iaload, 1) := by decide +kernel
theorem f132_213 : zft 132 213 = some (.invokevirtual 18, 3) := by decide +kernel
theorem f132_216 : zft 132 216 = some (.aload_n 2, 1) := by decide +kernel
theorem f132_217 : zft 132 217 = some (.aload_n 0, 1) := by decide +kernel
theorem f132_218 : zft 132 218 = some (.iload_n 3, 1) := by decide +kernel
theorem f132_219 : zft 132 219 = some (.iconst 1, 1) := by decide +kernel
theorem f132_220 : zft 132 220 = some (.iadd, 1) := by decide +kernel
theorem f132_221 : zft 132 221 = some (.iaload, 1) := by decide +kernel
theorem f132_222 : zft 132 222 = some (.aload_n 0, 1) := by decide +kernel
theorem f132_223 : zft 132 223 = some (.iload_n 3, 1) := by decide +kernel
theorem f132_224 : zft 132 224 = some (.iconst 2, 1) := by decide +kernel
theorem f132_225 : zft 132 225 = some (.iadd, 1) := by decide +kernel
theorem f132_226 : zft 132 226 = some (.iaload, 1) := by decide +kernel
theorem f132_227 : zft 132 227 = some (.aload_n 0, 1) := by decide +kernel
theorem f132_228 : zft 132 228 = some (.iload_n 3, 1) := by decide +kernel
theorem f132_229 : zft 132 229 = some (.iconst 3, 1) := by decide +kernel
theorem f132_230 : zft 132 230 = some (.iadd, 1) := by decide +kernel
theorem f132_231 : zft 132 231 = some (.iaload, 1) := by decide +kernel
theorem f132_232 : zft 132 232 = some (.invokevirtual 22, 3) := by decide +kernel
theorem f132_235 : zft 132 235 = some (.if_icmp .eq 682, 3) := by decide +kernel
theorem f132_238 : zft 132 238 = some (.iconst 0, 1) := by decide +kernel
theorem f132_239 : zft 132 239 = some (.ireturn, 1) := by decide +kernel
theorem f132_240 : zft 132 240 = some (.aload_n 1, 1) := by decide +kernel
theorem f132_241 : zft 132 241 = some (.aload_n 0, 1) := by decide +kernel
theorem f132_242 : zft 132 242 = some (.iload_n 3, 1) := by decide +kernel
theorem f132_243 : zft 132 243 = some (.iconst 1, 1) := by decide +kernel
theorem f132_244 : zft 132 244 = some (.iadd, 1) := by decide +kernel
theorem f132_245 : zft 132 245 = some (.iaload, 1) := by decide +kernel
theorem f132_246 : zft 132 246 = some (.aload_n 0, 1) := by decide +kernel
theorem f132_247 : zft 132 247 = some (.iload_n 3, 1) := by decide +kernel
theorem f132_248 : zft 132 248 = some (.iconst 2, 1) := by decide +kernel
theorem f132_249 : zft 132 249 = some (.iadd, 1) := by decide +kernel
theorem f132_250 : zft 132 250 = some (.iaload, 1) := by decide +kernel
theorem f132_251 : zft 132 251 = some (.invokevirtual 23, 3) := by decide +kernel
theorem f132_254 : zft 132 254 = some (.aload_n 2, 1) := by decide +kernel
theorem f132_255 : zft 132 255 = some (.aload_n 0, 1) := by decide +kernel
theorem f132_256 : zft 132 256 = some (.iload_n 3, 1) := by decide +kernel
theorem f132_257 : zft 132 257 = some (.iconst 1, 1) := by decide +kernel
theorem f132_258 : zft 132 258 = some (.iadd, 1) := by decide +kernel
theorem f132_259 : zft 132 259 = some (.iaload, 1) := by decide +kernel
theorem f132_260 : zft 132 260 = some (.aload_n 0, 1) := by decide +kernel
theorem f132_261 : zft 132 261 = some (.iload_n 3, 1) := by decide +kernel
theorem f132_262 : zft 132 262 = some (.iconst 2, 1) := by decide +kernel
theorem f132_263 : zft 132 263 = some (.iadd, 1) := by decide +kernel
theorem f132_264 : zft 132 264 = some (.iaload, 1) := by decide +kernel
theorem f132_265 : zft 132 265 = some (.invokevirtual 27, 3) := by decide +kernel
theorem f132_268 : zft 132 268 = some (.if_icmp .eq 649, 3) := by decide +kernel
theorem f132_271 : zft 132 271 = some (.iconst 0, 1) := by decide +kernel
theorem f132_272 : zft 132 272 = some (.ireturn, 1) := by decide +kernel
theorem f132_273 : zft 132 273 = some (.aload_n 1, 1) := by decide +kernel
theorem f132_274 : zft 132 274 = some (.aload_n 0, 1) := by decide +kernel
theorem f132_275 : zft 132 275 = some (.iload_n 3, 1) := by decide +kernel
theorem f132_276 : zft 132 276 = some (.iconst 1, 1) := by decide +kernel
theorem f132_277 : zft 132 277 = some (.iadd, 1) := by decide +kernel
theorem f132_278 : zft 132 278 = some (.iaload, 1) := by decide +kernel
theorem f132_279 : zft 132 279 = some (.aload_n 0, 1) := by decide +kernel
theorem f132_280 : zft 132 280 = some (.iload_n 3, 1) := by decide +kernel
theorem f132_281 : zft 132 281 = some (.iconst 2, 1) := by decide +kernel
theorem f132_282 : zft 132 282 = some (.iadd, 1) := by decide +kernel
theorem f132_283 : zft 132 283 = some (.iaload, 1) := by decide +kernel
theorem f132_284 : zft 132 284 = some (.aload_n 0, 1) := by decide +kernel
theorem f132_285 : zft 132 285 = some (.iload_n 3, 1) := by decide +kernel
theorem f132_286 : zft 132 286 = some (.iconst 3, 1) := by decide +kernel
theorem f132_287 : zft 132 287 = some (.iadd, 1) := by decide +kernel
theorem f132_288 : zft 132 288 = some (.iaload, 1) := by decide +kernel
theorem f132_289 : zft 132 289 = some (.invokevirtual 28, 3) := by decide +kernel
theorem f132_292 : zft 132 292 = some (.aload_n 2, 1) := by decide +kernel
theorem f132_293 : zft 132 293 = some (.aload_n 0, 1) := by decide +kernel
theorem f132_294 : zft 132 294 = some (.iload_n 3, 1) := by decide +kernel
theorem f132_295 : zft 132 295 = some (.iconst 1, 1) := by decide +kernel
theorem f132_296 : zft 132 296 = some (.iadd, 1) := by decide +kernel
theorem f132_297 : zft 132 297 = some (.iaload, 1) := by decide +kernel
theorem f132_298 : zft 132 298 = some (.aload_n 0, 1) := by decide +kernel
theorem f132_299 : zft 132 299 = some (.iload_n 3, 1) := by decide +kernel
theorem f132_300 : zft 132 300 = some (.iconst 2, 1) := by decide +kernel
theorem f132_301 : zft 132 301 = some (.iadd, 1) := by decide +kernel
theorem f132_302 : zft 132 302 = some (.iaload, 1) := by decide +kernel
theorem f132_303 : zft 132 303 = some (.aload_n 0, 1) := by decide +kernel
theorem f132_304 : zft 132 304 = some (.iload_n 3, 1) := by decide +kernel
theorem f132_305 : zft 132 305 = some (.iconst 3, 1) := by decide +kernel
theorem f132_306 : zft 132 306 = some (.iadd, 1) := by decide +kernel
theorem f132_307 : zft 132 307 = some (.iaload, 1) := by decide +kernel
theorem f132_308 : zft 132 308 = some (.invokevirtual 31, 3) := by decide +kernel
theorem f132_311 : zft 132 311 = some (.if_icmp .eq 606, 3) := by decide +kernel
theorem f132_314 : zft 132 314 = some (.iconst 0, 1) := by decide +kernel
theorem f132_315 : zft 132 315 = some (.ireturn, 1) := by decide +kernel
theorem f132_316 : zft 132 316 = some (.aload_n 1, 1) := by decide +kernel
theorem f132_317 : zft 132 317 = some (.aload_n 0, 1) := by decide +kernel
theorem f132_318 : zft 132 318 = some (.iload_n 3, 1) := by decide +kernel
theorem f132_319 : zft 132 319 = some (.iconst 1, 1) := by decide +kernel
theorem f132_320 : zft 132 320 = some (.iadd, 1) := by decide +kernel
theorem f132_321 : zft 132 321 = some (.iaload, 1) := by decide +kernel
theorem f132_322 : zft 132 322 = some (.aload_n 0, 1) := by decide +kernel
theorem f132_323 : zft 132 323 = some (.iload_n 3, 1) := by decide +kernel
theorem f132_324 : zft 132 324 = some (.iconst 2, 1) := by decide +kernel
theorem f132_325 : zft 132 325 = some (.iadd, 1) := by decide +kernel
theorem f132_326 : zft 132 326 = some (.iaload, 1) := by decide +kernel
theorem f132_327 : zft 132 327 = some (.invokevirtual 32, 3) := by decide +kernel
theorem f132_330 : zft 132 330 = some (.aload_n 2, 1) := by decide +kernel
theorem f132_331 : zft 132 331 = some (.aload_n 0, 1) := by decide +kernel
theorem f132_332 : zft 132 332 = some (.iload_n 3, 1) := by decide +kernel
theorem f132_333 : zft 132 333 = some (.iconst 1, 1) := by decide +kernel
theorem f132_334 : zft 132 334 = some (.iadd, 1) := by decide +kernel
theorem f132_335 : zft 132 335 = some (.iaload, 1) := by decide +kernel
theorem f132_336 : zft 132 336 = some (.aload_n 0, 1) := by decide +kernel
theorem f132_337 : zft 132 337 = some (.iload_n 3, 1) := by decide +kernel
theorem f132_338 : zft 132 338 = some (.iconst 2, 1) := by decide +kernel
theorem f132_339 : zft 132 339 = some (.iadd, 1) := by decide +kernel
theorem f132_340 : zft 132 340 = some (.iaload, 1) := by decide +kernel
theorem f132_341 : zft 132 341 = some (.invokevirtual 35, 3) := by decide +kernel
theorem f132_344 : zft 132 344 = some (.if_icmp .eq 573, 3) := by decide +kernel
theorem f132_347 : zft 132 347 = some (.iconst 0, 1) := by decide +kernel
theorem f132_348 : zft 132 348 = some (.ireturn, 1) := by decide +kernel
theorem f132_349 : zft 132 349 = some (.aload_n 1, 1) := by decide +kernel
theorem f132_350 : zft 132 350 = some (.aload_n 0, 1) := by decide +kernel
theorem f132_351 : zft 132 351 = some (.iload_n 3, 1) := by decide +kernel
theorem f132_352 : zft 132 352 = some (.iconst 1, 1) := by decide +kernel
theorem f132_353 : zft 132 353 = some (.iadd, 1) := by decide +kernel
theorem f132_354 : zft 132 354 = some (.iaload, 1) := by decide +kernel
theorem f132_355 : zft 132 355 = some (.aload_n 0, 1) := by decide +kernel
theorem f132_356 : zft 132 356 = some (.iload_n 3, 1) := by decide +kernel
theorem f132_357 : zft 132 357 = some (.iconst 2, 1) := by decide +kernel
theorem f132_358 : zft 132 358 = some (.iadd, 1) := by decide +kernel
theorem f132_359 : zft 132 359 = some (.iaload, 1) := by decide +kernel
theorem f132_360 : zft 132 360 = some (.aload_n 0, 1) := by decide +kernel
theorem f132_361 : zft 132 361 = some (.iload_n 3, 1) := by decide +kernel
theorem f132_362 : zft 132 362 = some (.iconst 3, 1) := by decide +kernel
theorem f132_363 : zft 132 363 = some (.iadd, 1) := by decide +kernel
theorem f132_364 : zft 132 364 = some (.iaload, 1) := by decide +kernel
theorem f132_365 : zft 132 365 = some (.invokevirtual 36, 3) := by decide +kernel
theorem f132_368 : zft 132 368 = some (.aload_n 2, 1) := by decide +kernel
theorem f132_369 : zft 132 369 = some (.aload_n 0, 1) := by decide +kernel
theorem f132_370 : zft 132 370 = some (.iload_n 3, 1) := by decide +kernel
theorem f132_371 : zft 132 371 = some (.iconst 1, 1) := by decide +kernel
theorem f132_372 : zft 132 372 = some (.iadd, 1) := by decide +kernel
theorem f132_373 : zft 132 373 = some (.iaload, 1) := by decide +kernel
theorem f132_374 : zft 132 374 = some (.aload_n 0, 1) := by decide +kernel
theorem f132_375 : zft 132 375 = some (.iload_n 3, 1) := by decide +kernel
theorem f132_376 : zft 132 376 = some (.iconst 2, 1) := by decide +kernel
theorem f132_377 : zft 132 377 = some (.iadd, 1) := by decide +kernel
theorem f132_378 : zft 132 378 = some (.iaload, 1) := by decide +kernel
theorem f132_379 : zft 132 379 = some (.aload_n 0, 1) := by decide +kernel
theorem f132_380 : zft 132 380 = some (.iload_n 3, 1) := by decide +kernel
theorem f132_381 : zft 132 381 = some (.iconst 3, 1) := by decide +kernel
theorem f132_382 : zft 132 382 = some (.iadd, 1) := by decide +kernel
theorem f132_383 : zft 132 383 = some (.iaload, 1) := by decide +kernel
theorem f132_384 : zft 132 384 = some (.invokevirtual 39, 3) := by decide +kernel
theorem f132_387 : zft 132 387 = some (.if_icmp .eq 530, 3) := by decide +kernel
theorem f132_390 : zft 132 390 = some (.iconst 0, 1) := by decide +kernel
theorem f132_391 : zft 132 391 = some (.ireturn, 1) := by decide +kernel
theorem f132_392 : zft 132 392 = some (.aload_n 1, 1) := by decide +kernel
theorem f132_393 : zft 132 393 = some (.aload_n 0, 1) := by decide +kernel
theorem f132_394 : zft 132 394 = some (.iload_n 3, 1) := by decide +kernel
theorem f132_395 : zft 132 395 = some (.iconst 1, 1) := by decide +kernel
theorem f132_396 : zft 132 396 = some (.iadd, 1) := by decide +kernel
theorem f132_397 : zft 132 397 = some (.iaload, 1) := by decide +kernel
theorem f132_398 : zft 132 398 = some (.aload_n 0, 1) := by decide +kernel
theorem f132_399 : zft 132 399 = some (.iload_n 3, 1) := by decide +kernel
theorem f132_400 : zft 132 400 = some (.iconst 2, 1) := by decide +kernel
theorem f132_401 : zft 132 401 = some (.iadd, 1) := by decide +kernel
theorem f132_402 : zft 132 402 = some (.iaload, 1) := by decide +kernel
theorem f132_403 : zft 132 403 = some (.aload_n 0, 1) := by decide +kernel
theorem f132_404 : zft 132 404 = some (.iload_n 3, 1) := by decide +kernel
theorem f132_405 : zft 132 405 = some (.iconst 3, 1) := by decide +kernel
theorem f132_406 : zft 132 406 = some (.iadd, 1) := by decide +kernel
theorem f132_407 : zft 132 407 = some (.iaload, 1) := by decide +kernel
theorem f132_408 : zft 132 408 = some (.invokevirtual 40, 3) := by decide +kernel
theorem f132_411 : zft 132 411 = some (.aload_n 2, 1) := by decide +kernel
theorem f132_412 : zft 132 412 = some (.aload_n 0, 1) := by decide +kernel
theorem f132_413 : zft 132 413 = some (.iload_n 3, 1) := by decide +kernel
theorem f132_414 : zft 132 414 = some (.iconst 1, 1) := by decide +kernel
theorem f132_415 : zft 132 415 = some (.iadd, 1) := by decide +kernel
theorem f132_416 : zft 132 416 = some (.iaload, 1) := by decide +kernel
theorem f132_417 : zft 132 417 = some (.aload_n 0, 1) := by decide +kernel
theorem f132_418 : zft 132 418 = some (.iload_n 3, 1) := by decide +kernel
theorem f132_419 : zft 132 419 = some (.iconst 2, 1) := by decide +kernel
theorem f132_420 : zft 132 420 = some (.iadd, 1) := by decide +kernel
theorem f132_421 : zft 132 421 = some (.iaload, 1) := by decide +kernel
theorem f132_422 : zft 132 422 = some (.aload_n 0, 1) := by decide +kernel
theorem f132_423 : zft 132 423 = some (.iload_n 3, 1) := by decide +kernel
theorem f132_424 : zft 132 424 = some (.iconst 3, 1) := by decide +kernel
theorem f132_425 : zft 132 425 = some (.iadd, 1) := by decide +kernel
theorem f132_426 : zft 132 426 = some (.iaload, 1) := by decide +kernel
theorem f132_427 : zft 132 427 = some (.invokevirtual 43, 3) := by decide +kernel
theorem f132_430 : zft 132 430 = some (.if_icmp .eq 487, 3) := by decide +kernel
theorem f132_433 : zft 132 433 = some (.iconst 0, 1) := by decide +kernel
theorem f132_434 : zft 132 434 = some (.ireturn, 1) := by decide +kernel
theorem f132_435 : zft 132 435 = some (.aload_n 1, 1) := by decide +kernel
theorem f132_436 : zft 132 436 = some (.aload_n 0, 1) := by decide +kernel
theorem f132_437 : zft 132 437 = some (.iload_n 3, 1) := by decide +kernel
theorem f132_438 : zft 132 438 = some (.iconst 1, 1) := by decide +kernel
theorem f132_439 : zft 132 439 = some (.iadd, 1) := by decide +kernel
theorem f132_440 : zft 132 440 = some (.iaload, 1) := by decide +kernel
theorem f132_441 : zft 132 441 = some (.aload_n 0, 1) := by decide +kernel
theorem f132_442 : zft 132 442 = some (.iload_n 3, 1) := by decide +kernel
theorem f132_443 : zft 132 443 = some (.iconst 2, 1) := by decide +kernel
theorem f132_444 : zft 132 444 = some (.iadd, 1) := by decide +kernel
theorem f132_445 : zft 132 445 = some (.iaload, 1) := by decide +kernel
theorem f132_446 : zft 132 446 = some (.invokevirtual 44, 3) := by decide +kernel
theorem f132_449 : zft 132 449 = some (.aload_n 2, 1) := by decide +kernel
theorem f132_450 : zft 132 450 = some (.aload_n 0, 1) := by decide +kernel
theorem f132_451 : zft 132 451 = some (.iload_n 3, 1) := by decide +kernel
theorem f132_452 : zft 132 452 = some (.iconst 1, 1) := by decide +kernel
theorem f132_453 : zft 132 453 = some (.iadd, 1) := by decide +kernel
theorem f132_454 : zft 132 454 = some (.iaload, 1) := by decide +kernel
theorem f132_455 : zft 132 455 = some (.aload_n 0, 1) := by decide +kernel
theorem f132_456 : zft 132 456 = some (.iload_n 3, 1) := by decide +kernel
theorem f132_457 : zft 132 457 = some (.iconst 2, 1) := by decide +kernel
theorem f132_458 : zft 132 458 = some (.iadd, 1) := by decide +kernel
theorem f132_459 : zft 132 459 = some (.iaload, 1) := by decide +kernel
theorem f132_460 : zft 132 460 = some (.invokevirtual 47, 3) := by decide +kernel
theorem f132_463 : zft 132 463 = some (.if_icmp .eq 454, 3) := by decide +kernel
theorem f132_466 : zft 132 466 = some (.iconst 0, 1) := by decide +kernel
theorem f132_467 : zft 132 467 = some (.ireturn, 1) := by decide +kernel
theorem f132_468 : zft 132 468 = some (.aload_n 1, 1) := by decide +kernel
theorem f132_469 : zft 132 469 = some (.aload_n 0, 1) := by decide +kernel
theorem f132_470 : zft 132 470 = some (.iload_n 3, 1) := by decide +kernel
theorem f132_471 : zft 132 471 = some (.iconst 1, 1) := by decide +kernel
theorem f132_472 : zft 132 472 = some (.iadd, 1) := by decide +kernel
theorem f132_473 : zft 132 473 = some (.iaload, 1) := by decide +kernel
theorem f132_474 : zft 132 474 = some (.invokevirtual 48, 3) := by decide +kernel
theorem f132_477 : zft 132 477 = some (.aload_n 2, 1) := by decide +kernel
theorem f132_478 : zft 132 478 = some (.aload_n 0, 1) := by decide +kernel
theorem f132_479 : zft 132 479 = some (.iload_n 3, 1) := by decide +kernel
theorem f132_480 : zft 132 480 = some (.iconst 1, 1) := by decide +kernel
theorem f132_481 : zft 132 481 = some (.iadd, 1) := by decide +kernel
theorem f132_482 : zft 132 482 = some (.iaload, 1) := by decide +kernel
theorem f132_483 : zft 132 483 = some (.invokevirtual 52, 3) := by decide +kernel
theorem f132_486 : zft 132 486 = some (.if_icmp .eq 431, 3) := by decide +kernel
theorem f132_489 : zft 132 489 = some (.iconst 0, 1) := by decide +kernel
theorem f132_490 : zft 132 490 = some (.ireturn, 1) := by decide +kernel
theorem f132_491 : zft 132 491 = some (.aload_n 1, 1) := by decide +kernel
theorem f132_492 : zft 132 492 = some (.aload_n 0, 1) := by decide +kernel
theorem f132_493 : zft 132 493 = some (.iload_n 3, 1) := by decide +kernel
theorem f132_494 : zft 132 494 = some (.iconst 1, 1) := by decide +kernel
theorem f132_495 : zft 132 495 = some (.iadd, 1) := by decide +kernel
theorem f132_496 : zft 132 496 = some (.iaload, 1) := by decide +kernel
theorem f132_497 : zft 132 497 = some (.invokevirtual 53, 3) := by decide +kernel
theorem f132_500 : zft 132 500 = some (.aload_n 2, 1) := by decide +kernel
theorem f132_501 : zft 132 501 = some (.aload_n 0, 1) := by decide +kernel
theorem f132_502 : zft 132 502 = some (.iload_n 3, 1) := by decide +kernel
theorem f132_503 : zft 132 503 = some (.iconst 1, 1) := by decide +kernel
theorem f132_504 : zft 132 504 = some (.iadd, 1) := by decide +kernel
theorem f132_505 : zft 132 505 = some (.iaload, 1) := by decide +kernel
theorem f132_506 : zft 132 506 = some (.invokevirtual 56, 3) := by decide +kernel
theorem f132_509 : zft 132 509 = some (.if_icmp .eq 408, 3) := by decide +kernel
theorem f132_512 : zft 132 512 = some (.iconst 0, 1) := by decide +kernel
theorem f132_513 : zft 132 513 = some (.ireturn, 1) := by decide +kernel
theorem f132_514 : zft 132 514 = some (.aload_n 1, 1) := by decide +kernel
theorem f132_515 : zft 132 515 = some (.aload_n 0, 1) := by decide +kernel
theorem f132_516 : zft 132 516 = some (.iload_n 3, 1) := by decide +kernel
theorem f132_517 : zft 132 517 = some (.iconst 1, 1) := by decide +kernel
theorem f132_518 : zft 132 518 = some (.iadd, 1) := by decide +kernel
theorem f132_519 : zft 132 519 = some (.iaload, 1) := by decide +kernel
theorem f132_520 : zft 132 520 = some (.aload_n 0, 1) := by decide +kernel
theorem f132_521 : zft 132 521 = some (.iload_n 3, 1) := by decide +kernel
theorem f132_522 : zft 132 522 = some (.iconst 2, 1) := by decide +kernel
theorem f132_523 : zft 132 523 = some (.iadd, 1) := by decide +kernel
theorem f132_524 : zft 132 524 = some (.iaload, 1) := by decide +kernel
theorem f132_525 : zft 132 525 = some (.invokevirtual 57, 3) := by decide +kernel
theorem f132_528 : zft 132 528 = some (.aload_n 2, 1) := by decide +kernel
theorem f132_529 : zft 132 529 = some (.aload_n 0, 1) := by decide +kernel
theorem f132_530 : zft 132 530 = some (.iload_n 3, 1) := by decide +kernel
theorem f132_531 : zft 132 531 = some (.iconst 1, 1) := by decide +kernel
theorem f132_532 : zft 132 532 = some (.iadd, 1) := by decide +kernel
theorem f132_533 : zft 132 533 = some (.iaload, 1) := by decide +kernel
theorem f132_534 : zft 132 534 = some (.aload_n 0, 1) := by decide +kernel
theorem f132_535 : zft 132 535 = some (.iload_n 3, 1) := by decide +kernel
theorem f132_536 : zft 132 536 = some (.iconst 2, 1) := by decide +kernel
theorem f132_537 : zft 132 537 = some (.iadd, 1) := by decide +kernel
theorem f132_538 : zft 132 538 = some (.iaload, 1) := by decide +kernel
theorem f132_539 : zft 132 539 = some (.invokevirtual 60, 3) := by decide +kernel
theorem f132_542 : zft 132 542 = some (.if_icmp .eq 375, 3) := by decide +kernel
theorem f132_545 : zft 132 545 = some (.iconst 0, 1) := by decide +kernel
theorem f132_546 : zft 132 546 = some (.ireturn, 1) := by decide +kernel
theorem f132_547 : zft 132 547 = some (.aload_n 1, 1) := by decide +kernel
theorem f132_548 : zft 132 548 = some (.aload_n 0, 1) := by decide +kernel
theorem f132_549 : zft 132 549 = some (.iload_n 3, 1) := by decide +kernel
theorem f132_550 : zft 132 550 = some (.iconst 1, 1) := by decide +kernel
theorem f132_551 : zft 132 551 = some (.iadd, 1) := by decide +kernel
theorem f132_552 : zft 132 552 = some (.iaload, 1) := by decide +kernel
theorem f132_553 : zft 132 553 = some (.invokevirtual 61, 3) := by decide +kernel
theorem f132_556 : zft 132 556 = some (.aload_n 2, 1) := by decide +kernel
theorem f132_557 : zft 132 557 = some (.aload_n 0, 1) := by decide +kernel
theorem f132_558 : zft 132 558 = some (.iload_n 3, 1) := by decide +kernel
theorem f132_559 : zft 132 559 = some (.iconst 1, 1) := by decide +kernel
theorem f132_560 : zft 132 560 = some (.iadd, 1) := by decide +kernel
theorem f132_561 : zft 132 561 = some (.iaload, 1) := by decide +kernel
theorem f132_562 : zft 132 562 = some (.invokevirtual 64, 3) := by decide +kernel
theorem f132_565 : zft 132 565 = some (.if_icmp .eq 352, 3) := by decide +kernel
theorem f132_568 : zft 132 568 = some (.iconst 0, 1) := by decide +kernel
theorem f132_569 : zft 132 569 = some (.ireturn, 1) := by decide +kernel
theorem f132_570 : zft 132 570 = some (.aload_n 1, 1) := by decide +kernel
theorem f132_571 : zft 132 571 = some (.aload_n 0, 1) := by decide +kernel
theorem f132_572 : zft 132 572 = some (.iload_n 3, 1) := by decide +kernel
theorem f132_573 : zft 132 573 = some (.iconst 1, 1) := by decide +kernel
theorem f132_574 : zft 132 574 = some (.iadd, 1) := by decide +kernel
theorem f132_575 : zft 132 575 = some (.iaload, 1) := by decide +kernel
theorem f132_576 : zft 132 576 = some (.invokevirtual 65, 3) := by decide +kernel
theorem f132_579 : zft 132 579 = some (.aload_n 2, 1) := by decide +kernel
theorem f132_580 : zft 132 580 = some (.aload_n 0, 1) := by decide +kernel
theorem f132_581 : zft 132 581 = some (.iload_n 3, 1) := by decide +kernel
theorem f132_582 : zft 132 582 = some (.iconst 1, 1) := by decide +kernel
theorem f132_583 : zft 132 583 = some (.iadd, 1) := by decide +kernel
theorem f132_584 : zft 132 584 = some (.iaload, 1) := by decide +kernel
theorem f132_585 : zft 132 585 = some (.invokevirtual 68, 3) := by decide +kernel
theorem f132_588 : zft 132 588 = some (.if_icmp .eq 329, 3) := by decide +kernel
theorem f132_591 : zft 132 591 = some (.iconst 0, 1) := by decide +kernel
theorem f132_592 : zft 132 592 = some (.ireturn, 1) := by decide +kernel
theorem f132_593 : zft 132 593 = some (.aload_n 1, 1) := by decide +kernel
theorem f132_594 : zft 132 594 = some (.aload_n 0, 1) := by decide +kernel
theorem f132_595 : zft 132 595 = some (.iload_n 3, 1) := by decide +kernel
theorem f132_596 : zft 132 596 = some (.iconst 1, 1) := by decide +kernel
theorem f132_597 : zft 132 597 = some (.iadd, 1) := by decide +kernel
theorem f132_598 : zft 132 598 = some (.iaload, 1) := by decide +kernel
theorem f132_599 : zft 132 599 = some (.aload_n 0, 1) := by decide +kernel
theorem f132_600 : zft 132 600 = some (.iload_n 3, 1) := by decide +kernel
theorem f132_601 : zft 132 601 = some (.iconst 2, 1) := by decide +kernel
theorem f132_602 : zft 132 602 = some (.iadd, 1) := by decide +kernel
theorem f132_603 : zft 132 603 = some (.iaload, 1) := by decide +kernel
theorem f132_604 : zft 132 604 = some (.invokevirtual 69, 3) := by decide +kernel
theorem f132_607 : zft 132 607 = some (.aload_n 2, 1) := by decide +kernel
theorem f132_608 : zft 132 608 = some (.aload_n 0, 1) := by decide +kernel
theorem f132_609 : zft 132 609 = some (.iload_n 3, 1) := by decide +kernel
theorem f132_610 : zft 132 610 = some (.iconst 1, 1) := by decide +kernel
theorem f132_611 : zft 132 611 = some (.iadd, 1) := by decide +kernel
theorem f132_612 : zft 132 612 = some (.iaload, 1) := by decide +kernel
theorem f132_613 : zft 132 613 = some (.aload_n 0, 1) := by decide +kernel
theorem f132_614 : zft 132 614 = some (.iload_n 3, 1) := by decide +kernel
theorem f132_615 : zft 132 615 = some (.iconst 2, 1) := by decide +kernel
theorem f132_616 : zft 132 616 = some (.iadd, 1) := by decide +kernel
theorem f132_617 : zft 132 617 = some (.iaload, 1) := by decide +kernel
theorem f132_618 : zft 132 618 = some (.invokevirtual 72, 3) := by decide +kernel
theorem f132_621 : zft 132 621 = some (.if_icmp .eq 296, 3) := by decide +kernel
theorem f132_624 : zft 132 624 = some (.iconst 0, 1) := by decide +kernel
theorem f132_625 : zft 132 625 = some (.ireturn, 1) := by decide +kernel
theorem f132_626 : zft 132 626 = some (.aload_n 1, 1) := by decide +kernel
theorem f132_627 : zft 132 627 = some (.aload_n 0, 1) := by decide +kernel
theorem f132_628 : zft 132 628 = some (.iload_n 3, 1) := by decide +kernel
theorem f132_629 : zft 132 629 = some (.iconst 1, 1) := by decide +kernel
theorem f132_630 : zft 132 630 = some (.iadd, 1) := by decide +kernel
theorem f132_631 : zft 132 631 = some (.iaload, 1) := by decide +kernel
theorem f132_632 : zft 132 632 = some (.aload_n 0, 1) := by decide +kernel
theorem f132_633 : zft 132 633 = some (.iload_n 3, 1) := by decide +kernel
theorem f132_634 : zft 132 634 = some (.iconst 2, 1) := by decide +kernel
theorem f132_635 : zft 132 635 = some (.iadd, 1) := by decide +kernel
theorem f132_636 : zft 132 636 = some (.iaload, 1) := by decide +kernel
theorem f132_637 : zft 132 637 = some (.aload_n 0, 1) := by decide +kernel
theorem f132_638 : zft 132 638 = some (.iload_n 3, 1) := by decide +kernel
theorem f132_639 : zft 132 639 = some (.iconst 3, 1) := by decide +kernel
theorem f132_640 : zft 132 640 = some (.iadd, 1) := by decide +kernel
theorem f132_641 : zft 132 641 = some (.iaload, 1) := by decide +kernel
theorem f132_642 : zft 132 642 = some (.invokevirtual 73, 3) := by decide +kernel
theorem f132_645 : zft 132 645 = some (.aload_n 2, 1) := by decide +kernel
theorem f132_646 : zft 132 646 = some (.aload_n 0, 1) := by decide +kernel
theorem f132_647 : zft 132 647 = some (.iload_n 3, 1) := by decide +kernel
theorem f132_648 : zft 132 648 = some (.iconst 1, 1) := by decide +kernel
theorem f132_649 : zft 132 649 = some (.iadd, 1) := by decide +kernel
theorem f132_650 : zft 132 650 = some (.iaload, 1) := by decide +kernel
theorem f132_651 : zft 132 651 = some (.aload_n 0, 1) := by decide +kernel
theorem f132_652 : zft 132 652 = some (.iload_n 3, 1) := by decide +kernel
theorem f132_653 : zft 132 653 = some (.iconst 2, 1) := by decide +kernel
theorem f132_654 : zft 132 654 = some (.iadd, 1) := by decide +kernel
theorem f132_655 : zft 132 655 = some (.iaload, 1) := by decide +kernel
theorem f132_656 : zft 132 656 = some (.aload_n 0, 1) := by decide +kernel
theorem f132_657 : zft 132 657 = some (.iload_n 3, 1) := by decide +kernel
theorem f132_658 : zft 132 658 = some (.iconst 3, 1) := by decide +kernel
theorem f132_659 : zft 132 659 = some (.iadd, 1) := by decide +kernel
theorem f132_660 : zft 132 660 = some (.iaload, 1) := by decide +kernel
theorem f132_661 : zft 132 661 = some (.invokevirtual 76, 3) := by decide +kernel
theorem f132_664 : zft 132 664 = some (.if_icmp .eq 253, 3) := by decide +kernel
theorem f132_667 : zft 132 667 = some (.iconst 0, 1) := by decide +kernel
theorem f132_668 : zft 132 668 = some (.ireturn, 1) := by decide +kernel
theorem f132_669 : zft 132 669 = some (.aload_n 1, 1) := by decide +kernel
theorem f132_670 : zft 132 670 = some (.aload_n 0, 1) := by decide +kernel
theorem f132_671 : zft 132 671 = some (.iload_n 3, 1) := by decide +kernel
theorem f132_672 : zft 132 672 = some (.iconst 1, 1) := by decide +kernel
theorem f132_673 : zft 132 673 = some (.iadd, 1) := by decide +kernel
theorem f132_674 : zft 132 674 = some (.iaload, 1) := by decide +kernel
theorem f132_675 : zft 132 675 = some (.aload_n 0, 1) := by decide +kernel
theorem f132_676 : zft 132 676 = some (.iload_n 3, 1) := by decide +kernel
theorem f132_677 : zft 132 677 = some (.iconst 2, 1) := by decide +kernel
theorem f132_678 : zft 132 678 = some (.iadd, 1) := by decide +kernel
theorem f132_679 : zft 132 679 = some (.iaload, 1) := by decide +kernel
theorem f132_680 : zft 132 680 = some (.aload_n 0, 1) := by decide +kernel
theorem f132_681 : zft 132 681 = some (.iload_n 3, 1) := by decide +kernel
theorem f132_682 : zft 132 682 = some (.iconst 3, 1) := by decide +kernel
theorem f132_683 : zft 132 683 = some (.iadd, 1) := by decide +kernel
theorem f132_684 : zft 132 684 = some (.iaload, 1) := by decide +kernel
theorem f132_685 : zft 132 685 = some (.invokevirtual 77, 3) := by decide +kernel
theorem f132_688 : zft 132 688 = some (.aload_n 2, 1) := by decide +kernel
theorem f132_689 : zft 132 689 = some (.aload_n 0, 1) := by decide +kernel
theorem f132_690 : zft 132 690 = some (.iload_n 3, 1) := by decide +kernel
theorem f132_691 : zft 132 691 = some (.iconst 1, 1) := by decide +kernel
theorem f132_692 : zft 132 692 = some (.iadd, 1) := by decide +kernel
theorem f132_693 : zft 132 693 = some (.iaload, 1) := by decide +kernel
theorem f132_694 : zft 132 694 = some (.aload_n 0, 1) := by decide +kernel
theorem f132_695 : zft 132 695 = some (.iload_n 3, 1) := by decide +kernel
theorem f132_696 : zft 132 696 = some (.iconst 2, 1) := by decide +kernel
theorem f132_697 : zft 132 697 = some (.iadd, 1) := by decide +kernel
theorem f132_698 : zft 132 698 = some (.iaload, 1) := by decide +kernel
theorem f132_699 : zft 132 699 = some (.aload_n 0, 1) := by decide +kernel
theorem f132_700 : zft 132 700 = some (.iload_n 3, 1) := by decide +kernel
theorem f132_701 : zft 132 701 = some (.iconst 3, 1) := by decide +kernel
theorem f132_702 : zft 132 702 = some (.iadd, 1) := by decide +kernel
theorem f132_703 : zft 132 703 = some (.iaload, 1) := by decide +kernel
theorem f132_704 : zft 132 704 = some (.invokevirtual 80, 3) := by decide +kernel
theorem f132_707 : zft 132 707 = some (.if_icmp .eq 210, 3) := by decide +kernel
theorem f132_710 : zft 132 710 = some (.iconst 0, 1) := by decide +kernel
theorem f132_711 : zft 132 711 = some (.ireturn, 1) := by decide +kernel
theorem f132_712 : zft 132 712 = some (.aload_n 1, 1) := by decide +kernel
theorem f132_713 : zft 132 713 = some (.aload_n 0, 1) := by decide +kernel
theorem f132_714 : zft 132 714 = some (.iload_n 3, 1) := by decide +kernel
theorem f132_715 : zft 132 715 = some (.iconst 1, 1) := by decide +kernel
theorem f132_716 : zft 132 716 = some (.iadd, 1) := by decide +kernel
theorem f132_717 : zft 132 717 = some (.iaload, 1) := by decide +kernel
theorem f132_718 : zft 132 718 = some (.invokevirtual 81, 3) := by decide +kernel
theorem f132_721 : zft 132 721 = some (.aload_n 2, 1) := by decide +kernel
theorem f132_722 : zft 132 722 = some (.aload_n 0, 1) := by decide +kernel
theorem f132_723 : zft 132 723 = some (.iload_n 3, 1) := by decide +kernel
theorem f132_724 : zft 132 724 = some (.iconst 1, 1) := by decide +kernel
theorem f132_725 : zft 132 725 = some (.iadd, 1) := by decide +kernel
theorem f132_726 : zft 132 726 = some (.iaload, 1) := by decide +kernel
theorem f132_727 : zft 132 727 = some (.invokevirtual 84, 3) := by decide +kernel
theorem f132_730 : zft 132 730 = some (.if_icmp .eq 187, 3) := by decide +kernel
theorem f132_733 : zft 132 733 = some (.iconst 0, 1) := by decide +kernel
theorem f132_734 : zft 132 734 = some (.ireturn, 1) := by decide +kernel
theorem f132_735 : zft 132 735 = some (.aload_n 1, 1) := by decide +kernel
theorem f132_736 : zft 132 736 = some (.aload_n 0, 1) := by decide +kernel
theorem f132_737 : zft 132 737 = some (.iload_n 3, 1) := by decide +kernel
theorem f132_738 : zft 132 738 = some (.iconst 1, 1) := by decide +kernel
theorem f132_739 : zft 132 739 = some (.iadd, 1) := by decide +kernel
theorem f132_740 : zft 132 740 = some (.iaload, 1) := by decide +kernel
theorem f132_741 : zft 132 741 = some (.invokevirtual 85, 3) := by decide +kernel
theorem f132_744 : zft 132 744 = some (.aload_n 2, 1) := by decide +kernel
theorem f132_745 : zft 132 745 = some (.aload_n 0, 1) := by decide +kernel
theorem f132_746 : zft 132 746 = some (.iload_n 3, 1) := by decide +kernel
theorem f132_747 : zft 132 747 = some (.iconst 1, 1) := by decide +kernel
theorem f132_748 : zft 132 748 = some (.iadd, 1) := by decide +kernel
theorem f132_749 : zft 132 749 = some (.iaload, 1) := by decide +kernel
theorem f132_750 : zft 132 750 = some (.invokevirtual 88, 3) := by decide +kernel
theorem f132_753 : zft 132 753 = some (.if_icmp .eq 164, 3) := by decide +kernel
theorem f132_756 : zft 132 756 = some (.iconst 0, 1) := by decide +kernel
theorem f132_757 : zft 132 757 = some (.ireturn, 1) := by decide +kernel
theorem f132_758 : zft 132 758 = some (.aload_n 1, 1) := by decide +kernel
theorem f132_759 : zft 132 759 = some (.aload_n 0, 1) := by decide +kernel
theorem f132_760 : zft 132 760 = some (.iload_n 3, 1) := by decide +kernel
theorem f132_761 : zft 132 761 = some (.iconst 1, 1) := by decide +kernel
theorem f132_762 : zft 132 762 = some (.iadd, 1) := by decide +kernel
theorem f132_763 : zft 132 763 = some (.iaload, 1) := by decide +kernel
theorem f132_764 : zft 132 764 = some (.aload_n 0, 1) := by decide +kernel
theorem f132_765 : zft 132 765 = some (.iload_n 3, 1) := by decide +kernel
theorem f132_766 : zft 132 766 = some (.iconst 2, 1) := by decide +kernel
theorem f132_767 : zft 132 767 = some (.iadd, 1) := by decide +kernel
theorem f132_768 : zft 132 768 = some (.iaload, 1) := by decide +kernel
theorem f132_769 : zft 132 769 = some (.aload_n 0, 1) := by decide +kernel
theorem f132_770 : zft 132 770 = some (.iload_n 3, 1) := by decide +kernel
theorem f132_771 : zft 132 771 = some (.iconst 3, 1) := by decide +kernel
theorem f132_772 : zft 132 772 = some (.iadd, 1) := by decide +kernel
theorem f132_773 : zft 132 773 = some (.iaload, 1) := by decide +kernel
theorem f132_774 : zft 132 774 = some (.invokevirtual 89, 3) := by decide +kernel
theorem f132_777 : zft 132 777 = some (.aload_n 2, 1) := by decide +kernel
theorem f132_778 : zft 132 778 = some (.aload_n 0, 1) := by decide +kernel
theorem f132_779 : zft 132 779 = some (.iload_n 3, 1) := by decide +kernel
theorem f132_780 : zft 132 780 = some (.iconst 1, 1) := by decide +kernel
theorem f132_781 : zft 132 781 = some (.iadd, 1) := by decide +kernel
theorem f132_782 : zft 132 782 = some (.iaload, 1) := by decide +kernel
theorem f132_783 : zft 132 783 = some (.aload_n 0, 1) := by decide +kernel
theorem f132_784 : zft 132 784 = some (.iload_n 3, 1) := by decide +kernel
theorem f132_785 : zft 132 785 = some (.iconst 2, 1) := by decide +kernel
theorem f132_786 : zft 132 786 = some (.iadd, 1) := by decide +kernel
theorem f132_787 : zft 132 787 = some (.iaload, 1) := by decide +kernel
theorem f132_788 : zft 132 788 = some (.aload_n 0, 1) := by decide +kernel
theorem f132_789 : zft 132 789 = some (.iload_n 3, 1) := by decide +kernel
theorem f132_790 : zft 132 790 = some (.iconst 3, 1) := by decide +kernel
theorem f132_791 : zft 132 791 = some (.iadd, 1) := by decide +kernel
theorem f132_792 : zft 132 792 = some (.iaload, 1) := by decide +kernel
theorem f132_793 : zft 132 793 = some (.invokevirtual 92, 3) := by decide +kernel
theorem f132_796 : zft 132 796 = some (.if_icmp .eq 121, 3) := by decide +kernel
theorem f132_799 : zft 132 799 = some (.iconst 0, 1) := by decide +kernel
theorem f132_800 : zft 132 800 = some (.ireturn, 1) := by decide +kernel
theorem f132_801 : zft 132 801 = some (.aload_n 1, 1) := by decide +kernel
theorem f132_802 : zft 132 802 = some (.invokevirtual 93, 3) := by decide +kernel
theorem f132_805 : zft 132 805 = some (.aload_n 2, 1) := by decide +kernel
theorem f132_806 : zft 132 806 = some (.invokevirtual 97, 3) := by decide +kernel
theorem f132_809 : zft 132 809 = some (.if_icmp .eq 108, 3) := by decide +kernel
theorem f132_812 : zft 132 812 = some (.iconst 0, 1) := by decide +kernel
theorem f132_813 : zft 132 813 = some (.ireturn, 1) := by decide +kernel
theorem f132_814 : zft 132 814 = some (.aload_n 1, 1) := by decide +kernel
theorem f132_815 : zft 132 815 = some (.aload_n 0, 1) := by decide +kernel
theorem f132_816 : zft 132 816 = some (.iload_n 3, 1) := by decide +kernel
theorem f132_817 : zft 132 817 = some (.iconst 1, 1) := by decide +kernel
theorem f132_818 : zft 132 818 = some (.iadd, 1) := by decide +kernel
theorem f132_819 : zft 132 819 = some (.iaload, 1) := by decide +kernel
theorem f132_820 : zft 132 820 = some (.aload_n 0, 1) := by decide +kernel
theorem f132_821 : zft 132 821 = some (.iload_n 3, 1) := by decide +kernel
theorem f132_822 : zft 132 822 = some (.iconst 2, 1) := by decide +kernel
theorem f132_823 : zft 132 823 = some (.iadd, 1) := by decide +kernel
theorem f132_824 : zft 132 824 = some (.iaload, 1) := by decide +kernel
theorem f132_825 : zft 132 825 = some (.invokevirtual 98, 3) := by decide +kernel
theorem f132_828 : zft 132 828 = some (.aload_n 2, 1) := by decide +kernel
theorem f132_829 : zft 132 829 = some (.aload_n 0, 1) := by decide +kernel
theorem f132_830 : zft 132 830 = some (.iload_n 3, 1) := by decide +kernel
theorem f132_831 : zft 132 831 = some (.iconst 1, 1) := by decide +kernel
theorem f132_832 : zft 132 832 = some (.iadd, 1) := by decide +kernel
theorem f132_833 : zft 132 833 = some (.iaload, 1) := by decide +kernel
theorem f132_834 : zft 132 834 = some (.aload_n 0, 1) := by decide +kernel
theorem f132_835 : zft 132 835 = some (.iload_n 3, 1) := by decide +kernel
theorem f132_836 : zft 132 836 = some (.iconst 2, 1) := by decide +kernel
theorem f132_837 : zft 132 837 = some (.iadd, 1) := by decide +kernel
theorem f132_838 : zft 132 838 = some (.iaload, 1) := by decide +kernel
theorem f132_839 : zft 132 839 = some (.invokevirtual 101, 3) := by decide +kernel
theorem f132_842 : zft 132 842 = some (.if_icmp .eq 75, 3) := by decide +kernel
theorem f132_845 : zft 132 845 = some (.iconst 0, 1) := by decide +kernel
theorem f132_846 : zft 132 846 = some (.ireturn, 1) := by decide +kernel
theorem f132_847 : zft 132 847 = some (.aload_n 1, 1) := by decide +kernel
theorem f132_848 : zft 132 848 = some (.aload_n 0, 1) := by decide +kernel
theorem f132_849 : zft 132 849 = some (.iload_n 3, 1) := by decide +kernel
theorem f132_850 : zft 132 850 = some (.iconst 1, 1) := by decide +kernel
theorem f132_851 : zft 132 851 = some (.iadd, 1) := by decide +kernel
theorem f132_852 : zft 132 852 = some (.iaload, 1) := by decide +kernel
theorem f132_853 : zft 132 853 = some (.aload_n 0, 1) := by decide +kernel
theorem f132_854 : zft 132 854 = some (.iload_n 3, 1) := by decide +kernel
theorem f132_855 : zft 132 855 = some (.iconst 2, 1) := by decide +kernel
theorem f132_856 : zft 132 856 = some (.iadd, 1) := by decide +kernel
theorem f132_857 : zft 132 857 = some (.iaload, 1) := by decide +kernel
theorem f132_858 : zft 132 858 = some (.invokevirtual 102, 3) := by decide +kernel
theorem f132_861 : zft 132 861 = some (.aload_n 2, 1) := by decide +kernel
theorem f132_862 : zft 132 862 = some (.aload_n 0, 1) := by decide +kernel
theorem f132_863 : zft 132 863 = some (.iload_n 3, 1) := by decide +kernel
theorem f132_864 : zft 132 864 = some (.iconst 1, 1) := by decide +kernel
theorem f132_865 : zft 132 865 = some (.iadd, 1) := by decide +kernel
theorem f132_866 : zft 132 866 = some (.iaload, 1) := by decide +kernel
theorem f132_867 : zft 132 867 = some (.aload_n 0, 1) := by decide +kernel
theorem f132_868 : zft 132 868 = some (.iload_n 3, 1) := by decide +kernel
theorem f132_869 : zft 132 869 = some (.iconst 2, 1) := by decide +kernel
theorem f132_870 : zft 132 870 = some (.iadd, 1) := by decide +kernel
theorem f132_871 : zft 132 871 = some (.iaload, 1) := by decide +kernel
theorem f132_872 : zft 132 872 = some (.invokevirtual 105, 3) := by decide +kernel
theorem f132_875 : zft 132 875 = some (.if_icmp .eq 42, 3) := by decide +kernel
theorem f132_878 : zft 132 878 = some (.iconst 0, 1) := by decide +kernel
theorem f132_879 : zft 132 879 = some (.ireturn, 1) := by decide +kernel
theorem f132_880 : zft 132 880 = some (.aload_n 1, 1) := by decide +kernel
theorem f132_881 : zft 132 881 = some (.aload_n 0, 1) := by decide +kernel
theorem f132_882 : zft 132 882 = some (.iload_n 3, 1) := by decide +kernel
theorem f132_883 : zft 132 883 = some (.iconst 1, 1) := by decide +kernel
theorem f132_884 : zft 132 884 = some (.iadd, 1) := by decide +kernel
theorem f132_885 : zft 132 885 = some (.iaload, 1) := by decide +kernel
theorem f132_886 : zft 132 886 = some (.invokevirtual 106, 3) := by decide +kernel
theorem f132_889 : zft 132 889 = some (.aload_n 2, 1) := by decide +kernel
theorem f132_890 : zft 132 890 = some (.aload_n 0, 1) := by decide +kernel
theorem f132_891 : zft 132 891 = some (.iload_n 3, 1) := by decide +kernel
theorem f132_892 : zft 132 892 = some (.iconst 1, 1) := by decide +kernel
theorem f132_893 : zft 132 893 = some (.iadd, 1) := by decide +kernel
theorem f132_894 : zft 132 894 = some (.iaload, 1) := by decide +kernel
theorem f132_895 : zft 132 895 = some (.invokevirtual 109, 3) := by decide +kernel
theorem f132_898 : zft 132 898 = some (.if_icmp .eq 19, 3) := by decide +kernel
theorem f132_901 : zft 132 901 = some (.iconst 0, 1) := by decide +kernel
theorem f132_902 : zft 132 902 = some (.ireturn, 1) := by decide +kernel
theorem f132_903 : zft 132 903 = some (.aload_n 1, 1) := by decide +kernel
theorem f132_904 : zft 132 904 = some (.invokevirtual 110, 3) := by decide +kernel
theorem f132_907 : zft 132 907 = some (.aload_n 2, 1) := by decide +kernel
theorem f132_908 : zft 132 908 = some (.invokevirtual 114, 3) := by decide +kernel
theorem f132_911 : zft 132 911 = some (.lcmp, 1) := by decide +kernel
theorem f132_912 : zft 132 912 = some (.ifCond .eq 5, 3) := by decide +kernel
theorem f132_915 : zft 132 915 = some (.iconst 0, 1) := by decide +kernel
theorem f132_916 : zft 132 916 = some (.ireturn, 1) := by decide +kernel
theorem f132_917 : zft 132 917 = some (.iinc 3 5, 3) := by decide +kernel
theorem f132_920 : zft 132 920 = some (.goto (-902), 3) := by decide +kernel
theorem f132_923 : zft 132 923 = some (.iconst 1, 1) := by decide +kernel
theorem f132_924 : zft 132 924 = some (.ireturn, 1) := by decide +kernel
theorem o132 : zo 132 = 8 := by decide +kernel
theorem p132 : zp 132 = 1 := by decide +kernel
theorem n132 : zn 132 = 4 := by decide +kernel
theorem v132 : zr 132 = (some .boolean) := by decide +kernel
