theorem dL_step_0 : decode cL_step 0 = .ok (.aload_n 1, 1) := by decide +kernel
theorem dL_step_1 : decode cL_step 1 = .ok (.iconst 0, 1) := by decide +kernel
theorem dL_step_2 : decode cL_step 2 = .ok (.iaload, 1) := by decide +kernel
theorem dL_step_3 : decode cL_step 3 = .ok (.ifCond .ne 7, 3) := by decide +kernel
theorem dL_step_6 : decode cL_step 6 = .ok (.iconst 0, 1) := by decide +kernel
theorem dL_step_7 : decode cL_step 7 = .ok (.goto 9, 3) := by decide +kernel
theorem dL_step_10 : decode cL_step 10 = .ok (.iload 5, 2) := by decide +kernel
theorem dL_step_12 : decode cL_step 12 = .ok (.aload_n 1, 1) := by decide +kernel
theorem dL_step_13 : decode cL_step 13 = .ok (.iconst 0, 1) := by decide +kernel
theorem dL_step_14 : decode cL_step 14 = .ok (.iaload, 1) := by decide +kernel
theorem dL_step_15 : decode cL_step 15 = .ok (.irem, 1) := by decide +kernel
theorem dL_step_16 : decode cL_step 16 = .ok (.istore 7, 2) := by decide +kernel
theorem dL_step_18 : decode cL_step 18 = .ok (.aload_n 1, 1) := by decide +kernel
theorem dL_step_19 : decode cL_step 19 = .ok (.iconst 1, 1) := by decide +kernel
theorem dL_step_20 : decode cL_step 20 = .ok (.iaload, 1) := by decide +kernel
theorem dL_step_21 : decode cL_step 21 = .ok (.ifCond .ne 7, 3) := by decide +kernel
theorem dL_step_24 : decode cL_step 24 = .ok (.iconst 0, 1) := by decide +kernel
theorem dL_step_25 : decode cL_step 25 = .ok (.goto 9, 3) := by decide +kernel
theorem dL_step_28 : decode cL_step 28 = .ok (.iload 6, 2) := by decide +kernel
theorem dL_step_30 : decode cL_step 30 = .ok (.aload_n 1, 1) := by decide +kernel
theorem dL_step_31 : decode cL_step 31 = .ok (.iconst 1, 1) := by decide +kernel
theorem dL_step_32 : decode cL_step 32 = .ok (.iaload, 1) := by decide +kernel
theorem dL_step_33 : decode cL_step 33 = .ok (.irem, 1) := by decide +kernel
theorem dL_step_34 : decode cL_step 34 = .ok (.istore 8, 2) := by decide +kernel
theorem dL_step_36 : decode cL_step 36 = .ok (.aload_n 1, 1) := by decide +kernel
theorem dL_step_37 : decode cL_step 37 = .ok (.iconst 0, 1) := by decide +kernel
theorem dL_step_38 : decode cL_step 38 = .ok (.iaload, 1) := by decide +kernel
theorem dL_step_39 : decode cL_step 39 = .ok (.ifCond .ne 7, 3) := by decide +kernel
theorem dL_step_42 : decode cL_step 42 = .ok (.iconst 0, 1) := by decide +kernel
theorem dL_step_43 : decode cL_step 43 = .ok (.goto 18, 3) := by decide +kernel
theorem dL_step_46 : decode cL_step 46 = .ok (.aload_n 1, 1) := by decide +kernel
theorem dL_step_47 : decode cL_step 47 = .ok (.iconst 1, 1) := by decide +kernel
theorem dL_step_48 : decode cL_step 48 = .ok (.iaload, 1) := by decide +kernel
theorem dL_step_49 : decode cL_step 49 = .ok (.ifCond .ne 7, 3) := by decide +kernel
theorem dL_step_52 : decode cL_step 52 = .ok (.iconst 1, 1) := by decide +kernel
theorem dL_step_53 : decode cL_step 53 = .ok (.goto 8, 3) := by decide +kernel
theorem dL_step_56 : decode cL_step 56 = .ok (.iload 4, 2) := by decide +kernel
theorem dL_step_58 : decode cL_step 58 = .ok (.bipush 18, 2) := by decide +kernel
theorem dL_step_60 : decode cL_step 60 = .ok (.irem, 1) := by decide +kernel
theorem dL_step_61 : decode cL_step 61 = .ok (.tableswitch 750 0 13 #[71, 212, 278, 278, 278, 386, 471, 471, 471, 471, 495, 562, 675, 735], 71) := by decide +kernel
theorem dL_step_132 : decode cL_step 132 = .ok (.aload_n 0, 1) := by decide +kernel
theorem dL_step_133 : decode cL_step 133 = .ok (.iload 5, 2) := by decide +kernel
theorem dL_step_135 : decode cL_step 135 = .ok (.iconst 3, 1) := by decide +kernel
theorem dL_step_136 : decode cL_step 136 = .ok (.irem, 1) := by decide +kernel
theorem dL_step_137 : decode cL_step 137 = .ok (.iconst 1, 1) := by decide +kernel
theorem dL_step_138 : decode cL_step 138 = .ok (.iload 6, 2) := by decide +kernel
theorem dL_step_140 : decode cL_step 140 = .ok (.bipush 20, 2) := by decide +kernel
theorem dL_step_142 : decode cL_step 142 = .ok (.irem, 1) := by decide +kernel
theorem dL_step_143 : decode cL_step 143 = .ok (.iadd, 1) := by decide +kernel
theorem dL_step_144 : decode cL_step 144 = .ok (.iconst 1, 1) := by decide +kernel
theorem dL_step_145 : decode cL_step 145 = .ok (.iload 6, 2) := by decide +kernel
theorem dL_step_147 : decode cL_step 147 = .ok (.bipush 20, 2) := by decide +kernel
theorem dL_step_149 : decode cL_step 149 = .ok (.idiv, 1) := by decide +kernel
theorem dL_step_150 : decode cL_step 150 = .ok (.bipush 20, 2) := by decide +kernel
theorem dL_step_152 : decode cL_step 152 = .ok (.irem, 1) := by decide +kernel
theorem dL_step_153 : decode cL_step 153 = .ok (.iadd, 1) := by decide +kernel
theorem dL_step_154 : decode cL_step 154 = .ok (.invokestatic 39, 3) := by decide +kernel
theorem dL_step_157 : decode cL_step 157 = .ok (.istore 9, 2) := by decide +kernel
theorem dL_step_159 : decode cL_step 159 = .ok (.iload 9, 2) := by decide +kernel
theorem dL_step_161 : decode cL_step 161 = .ok (.bipush (-2), 2) := by decide +kernel
theorem dL_step_163 : decode cL_step 163 = .ok (.if_icmp .ne 17, 3) := by decide +kernel
theorem dL_step_166 : decode cL_step 166 = .ok (.aload_n 1, 1) := by decide +kernel
theorem dL_step_167 : decode cL_step 167 = .ok (.iconst 0, 1) := by decide +kernel
theorem dL_step_168 : decode cL_step 168 = .ok (.iaload, 1) := by decide +kernel
theorem dL_step_169 : decode cL_step 169 = .ok (.bipush 8, 2) := by decide +kernel
theorem dL_step_171 : decode cL_step 171 = .ok (.if_icmp .ne 7, 3) := by decide +kernel
theorem dL_step_174 : decode cL_step 174 = .ok (.iconst 1, 1) := by decide +kernel
theorem dL_step_175 : decode cL_step 175 = .ok (.goto 4, 3) := by decide +kernel
theorem dL_step_178 : decode cL_step 178 = .ok (.iconst 0, 1) := by decide +kernel
theorem dL_step_179 : decode cL_step 179 = .ok (.ireturn, 1) := by decide +kernel
theorem dL_step_180 : decode cL_step 180 = .ok (.aload_n 2, 1) := by decide +kernel
theorem dL_step_181 : decode cL_step 181 = .ok (.iload 9, 2) := by decide +kernel
theorem dL_step_183 : decode cL_step 183 = .ok (.iload 5, 2) := by decide +kernel
theorem dL_step_185 : decode cL_step 185 = .ok (.iconst 3, 1) := by decide +kernel
theorem dL_step_186 : decode cL_step 186 = .ok (.irem, 1) := by decide +kernel
theorem dL_step_187 : decode cL_step 187 = .ok (.iastore, 1) := by decide +kernel
theorem dL_step_188 : decode cL_step 188 = .ok (.aload_n 1, 1) := by decide +kernel
theorem dL_step_189 : decode cL_step 189 = .ok (.iconst 0, 1) := by decide +kernel
theorem dL_step_190 : decode cL_step 190 = .ok (.dup2, 1) := by decide +kernel
theorem dL_step_191 : decode cL_step 191 = .ok (.iaload, 1) := by decide +kernel
theorem dL_step_192 : decode cL_step 192 = .ok (.iconst 1, 1) := by decide +kernel
theorem dL_step_193 : decode cL_step 193 = .ok (.iadd, 1) := by decide +kernel
theorem dL_step_194 : decode cL_step 194 = .ok (.iastore, 1) := by decide +kernel
theorem dL_step_195 : decode cL_step 195 = .ok (.iload 9, 2) := by decide +kernel
theorem dL_step_197 : decode cL_step 197 = .ok (.aload_n 1, 1) := by decide +kernel
theorem dL_step_198 : decode cL_step 198 = .ok (.iconst 0, 1) := by decide +kernel
theorem dL_step_199 : decode cL_step 199 = .ok (.iaload, 1) := by decide +kernel
theorem dL_step_200 : decode cL_step 200 = .ok (.iconst 1, 1) := by decide +kernel
theorem dL_step_201 : decode cL_step 201 = .ok (.isub, 1) := by decide +kernel
theorem dL_step_202 : decode cL_step 202 = .ok (.if_icmp .ne 69, 3) := by decide +kernel
theorem dL_step_205 : decode cL_step 205 = .ok (.aload_n 0, 1) := by decide +kernel
theorem dL_step_206 : decode cL_step 206 = .ok (.iload 9, 2) := by decide +kernel
theorem dL_step_208 : decode cL_step 208 = .ok (.iconst 0, 1) := by decide +kernel
theorem dL_step_209 : decode cL_step 209 = .ok (.invokevirtual 45, 3) := by decide +kernel
theorem dL_step_212 : decode cL_step 212 = .ok (.iconst 1, 1) := by decide +kernel
theorem dL_step_213 : decode cL_step 213 = .ok (.iload 6, 2) := by decide +kernel
theorem dL_step_215 : decode cL_step 215 = .ok (.bipush 20, 2) := by decide +kernel
theorem dL_step_217 : decode cL_step 217 = .ok (.idiv, 1) := by decide +kernel
theorem dL_step_218 : decode cL_step 218 = .ok (.bipush 20, 2) := by decide +kernel
theorem dL_step_220 : decode cL_step 220 = .ok (.irem, 1) := by decide +kernel
theorem dL_step_221 : decode cL_step 221 = .ok (.iadd, 1) := by decide +kernel
theorem dL_step_222 : decode cL_step 222 = .ok (.if_icmp .ne 49, 3) := by decide +kernel
theorem dL_step_225 : decode cL_step 225 = .ok (.aload_n 0, 1) := by decide +kernel
theorem dL_step_226 : decode cL_step 226 = .ok (.iload 9, 2) := by decide +kernel
theorem dL_step_228 : decode cL_step 228 = .ok (.iconst 3, 1) := by decide +kernel
theorem dL_step_229 : decode cL_step 229 = .ok (.invokevirtual 45, 3) := by decide +kernel
theorem dL_step_232 : decode cL_step 232 = .ok (.iconst (-1), 1) := by decide +kernel
theorem dL_step_233 : decode cL_step 233 = .ok (.if_icmp .ne 38, 3) := by decide +kernel
theorem dL_step_236 : decode cL_step 236 = .ok (.aload_n 0, 1) := by decide +kernel
theorem dL_step_237 : decode cL_step 237 = .ok (.iload 9, 2) := by decide +kernel
theorem dL_step_239 : decode cL_step 239 = .ok (.iconst 4, 1) := by decide +kernel
theorem dL_step_240 : decode cL_step 240 = .ok (.invokevirtual 45, 3) := by decide +kernel
theorem dL_step_243 : decode cL_step 243 = .ok (.iconst (-1), 1) := by decide +kernel
theorem dL_step_244 : decode cL_step 244 = .ok (.if_icmp .ne 27, 3) := by decide +kernel
theorem dL_step_247 : decode cL_step 247 = .ok (.aload_n 0, 1) := by decide +kernel
theorem dL_step_248 : decode cL_step 248 = .ok (.iload 9, 2) := by decide +kernel
theorem dL_step_250 : decode cL_step 250 = .ok (.iconst 0, 1) := by decide +kernel
theorem dL_step_251 : decode cL_step 251 = .ok (.invokevirtual 49, 3) := by decide +kernel
theorem dL_step_254 : decode cL_step 254 = .ok (.bipush (-100), 2) := by decide +kernel
theorem dL_step_256 : decode cL_step 256 = .ok (.aload_n 0, 1) := by decide +kernel
theorem dL_step_257 : decode cL_step 257 = .ok (.iload 9, 2) := by decide +kernel
theorem dL_step_259 : decode cL_step 259 = .ok (.iconst 0, 1) := by decide +kernel
theorem dL_step_260 : decode cL_step 260 = .ok (.invokevirtual 45, 3) := by decide +kernel
theorem dL_step_263 : decode cL_step 263 = .ok (.imul, 1) := by decide +kernel
theorem dL_step_264 : decode cL_step 264 = .ok (.if_icmp .ne 7, 3) := by decide +kernel
theorem dL_step_267 : decode cL_step 267 = .ok (.iconst 1, 1) := by decide +kernel
theorem dL_step_268 : decode cL_step 268 = .ok (.goto 4, 3) := by decide +kernel
theorem dL_step_271 : decode cL_step 271 = .ok (.iconst 0, 1) := by decide +kernel
theorem dL_step_272 : decode cL_step 272 = .ok (.ireturn, 1) := by decide +kernel
theorem dL_step_273 : decode cL_step 273 = .ok (.aload_n 0, 1) := by decide +kernel
theorem dL_step_274 : decode cL_step 274 = .ok (.iconst 1, 1) := by decide +kernel
theorem dL_step_275 : decode cL_step 275 = .ok (.iload 6, 2) := by decide +kernel
theorem dL_step_277 : decode cL_step 277 = .ok (.iconst 3, 1) := by decide +kernel
theorem dL_step_278 : decode cL_step 278 = .ok (.irem, 1) := by decide +kernel
theorem dL_step_279 : decode cL_step 279 = .ok (.iadd, 1) := by decide +kernel
theorem dL_step_280 : decode cL_step 280 = .ok (.invokestatic 52, 3) := by decide +kernel
theorem dL_step_283 : decode cL_step 283 = .ok (.istore 10, 2) := by decide +kernel
theorem dL_step_285 : decode cL_step 285 = .ok (.iload 10, 2) := by decide +kernel
theorem dL_step_287 : decode cL_step 287 = .ok (.bipush (-2), 2) := by decide +kernel
theorem dL_step_289 : decode cL_step 289 = .ok (.if_icmp .ne 17, 3) := by decide +kernel
theorem dL_step_292 : decode cL_step 292 = .ok (.aload_n 1, 1) := by decide +kernel
theorem dL_step_293 : decode cL_step 293 = .ok (.iconst 1, 1) := by decide +kernel
theorem dL_step_294 : decode cL_step 294 = .ok (.iaload, 1) := by decide +kernel
theorem dL_step_295 : decode cL_step 295 = .ok (.bipush 8, 2) := by decide +kernel
theorem dL_step_297 : decode cL_step 297 = .ok (.if_icmp .ne 7, 3) := by decide +kernel
theorem dL_step_300 : decode cL_step 300 = .ok (.iconst 1, 1) := by decide +kernel
theorem dL_step_301 : decode cL_step 301 = .ok (.goto 4, 3) := by decide +kernel
theorem dL_step_304 : decode cL_step 304 = .ok (.iconst 0, 1) := by decide +kernel
theorem dL_step_305 : decode cL_step 305 = .ok (.ireturn, 1) := by decide +kernel
theorem dL_step_306 : decode cL_step 306 = .ok (.aload_n 3, 1) := by decide +kernel
theorem dL_step_307 : decode cL_step 307 = .ok (.iload 10, 2) := by decide +kernel
theorem dL_step_309 : decode cL_step 309 = .ok (.iconst 1, 1) := by decide +kernel
theorem dL_step_310 : decode cL_step 310 = .ok (.iload 6, 2) := by decide +kernel
theorem dL_step_312 : decode cL_step 312 = .ok (.iconst 3, 1) := by decide +kernel
theorem dL_step_313 : decode cL_step 313 = .ok (.irem, 1) := by decide +kernel
theorem dL_step_314 : decode cL_step 314 = .ok (.iadd, 1) := by decide +kernel
theorem dL_step_315 : decode cL_step 315 = .ok (.iastore, 1) := by decide +kernel
theorem dL_step_316 : decode cL_step 316 = .ok (.aload_n 1, 1) := by decide +kernel
theorem dL_step_317 : decode cL_step 317 = .ok (.iconst 1, 1) := by decide +kernel
theorem dL_step_318 : decode cL_step 318 = .ok (.dup2, 1) := by decide +kernel
theorem dL_step_319 : decode cL_step 319 = .ok (.iaload, 1) := by decide +kernel
theorem dL_step_320 : decode cL_step 320 = .ok (.iconst 1, 1) := by decide +kernel
theorem dL_step_321 : decode cL_step 321 = .ok (.iadd, 1) := by decide +kernel
theorem dL_step_322 : decode cL_step 322 = .ok (.iastore, 1) := by decide +kernel
theorem dL_step_323 : decode cL_step 323 = .ok (.iload 10, 2) := by decide +kernel
theorem dL_step_325 : decode cL_step 325 = .ok (.aload_n 1, 1) := by decide +kernel
theorem dL_step_326 : decode cL_step 326 = .ok (.iconst 1, 1) := by decide +kernel
theorem dL_step_327 : decode cL_step 327 = .ok (.iaload, 1) := by decide +kernel
theorem dL_step_328 : decode cL_step 328 = .ok (.iconst 1, 1) := by decide +kernel
theorem dL_step_329 : decode cL_step 329 = .ok (.isub, 1) := by decide +kernel
theorem dL_step_330 : decode cL_step 330 = .ok (.if_icmp .ne 7, 3) := by decide +kernel
theorem dL_step_333 : decode cL_step 333 = .ok (.iconst 1, 1) := by decide +kernel
theorem dL_step_334 : decode cL_step 334 = .ok (.goto 4, 3) := by decide +kernel
theorem dL_step_337 : decode cL_step 337 = .ok (.iconst 0, 1) := by decide +kernel
theorem dL_step_338 : decode cL_step 338 = .ok (.ireturn, 1) := by decide +kernel
theorem dL_step_339 : decode cL_step 339 = .ok (.aload_n 0, 1) := by decide +kernel
theorem dL_step_340 : decode cL_step 340 = .ok (.iload 7, 2) := by decide +kernel
theorem dL_step_342 : decode cL_step 342 = .ok (.iconst 1, 1) := by decide +kernel
theorem dL_step_343 : decode cL_step 343 = .ok (.invokevirtual 45, 3) := by decide +kernel
theorem dL_step_346 : decode cL_step 346 = .ok (.ifCond .ne 50, 3) := by decide +kernel
theorem dL_step_349 : decode cL_step 349 = .ok (.aload_n 0, 1) := by decide +kernel
theorem dL_step_350 : decode cL_step 350 = .ok (.iload 7, 2) := by decide +kernel
theorem dL_step_352 : decode cL_step 352 = .ok (.iconst 2, 1) := by decide +kernel
theorem dL_step_353 : decode cL_step 353 = .ok (.invokevirtual 45, 3) := by decide +kernel
theorem dL_step_356 : decode cL_step 356 = .ok (.ifCond .ne 40, 3) := by decide +kernel
theorem dL_step_359 : decode cL_step 359 = .ok (.aload_n 0, 1) := by decide +kernel
theorem dL_step_360 : decode cL_step 360 = .ok (.iload 7, 2) := by decide +kernel
theorem dL_step_362 : decode cL_step 362 = .ok (.iconst 3, 1) := by decide +kernel
theorem dL_step_363 : decode cL_step 363 = .ok (.invokevirtual 45, 3) := by decide +kernel
theorem dL_step_366 : decode cL_step 366 = .ok (.iconst (-1), 1) := by decide +kernel
theorem dL_step_367 : decode cL_step 367 = .ok (.if_icmp .ne 29, 3) := by decide +kernel
theorem dL_step_370 : decode cL_step 370 = .ok (.aload_n 3, 1) := by decide +kernel
theorem dL_step_371 : decode cL_step 371 = .ok (.iload 8, 2) := by decide +kernel
theorem dL_step_373 : decode cL_step 373 = .ok (.iaload, 1) := by decide +kernel
theorem dL_step_374 : decode cL_step 374 = .ok (.aload_n 2, 1) := by decide +kernel
theorem dL_step_375 : decode cL_step 375 = .ok (.iload 7, 2) := by decide +kernel
theorem dL_step_377 : decode cL_step 377 = .ok (.iaload, 1) := by decide +kernel
theorem dL_step_378 : decode cL_step 378 = .ok (.if_icmp .le 18, 3) := by decide +kernel
theorem dL_step_381 : decode cL_step 381 = .ok (.aload_n 0, 1) := by decide +kernel
theorem dL_step_382 : decode cL_step 382 = .ok (.aload_n 1, 1) := by decide +kernel
theorem dL_step_383 : decode cL_step 383 = .ok (.iload 8, 2) := by decide +kernel
theorem dL_step_385 : decode cL_step 385 = .ok (.invokestatic 56, 3) := by decide +kernel
theorem dL_step_388 : decode cL_step 388 = .ok (.iconst (-1), 1) := by decide +kernel
theorem dL_step_389 : decode cL_step 389 = .ok (.if_icmp .ne 7, 3) := by decide +kernel
theorem dL_step_392 : decode cL_step 392 = .ok (.iconst 1, 1) := by decide +kernel
theorem dL_step_393 : decode cL_step 393 = .ok (.goto 4, 3) := by decide +kernel
theorem dL_step_396 : decode cL_step 396 = .ok (.iconst 0, 1) := by decide +kernel
theorem dL_step_397 : decode cL_step 397 = .ok (.istore 11, 2) := by decide +kernel
theorem dL_step_399 : decode cL_step 399 = .ok (.aload_n 0, 1) := by decide +kernel
theorem dL_step_400 : decode cL_step 400 = .ok (.iload 7, 2) := by decide +kernel
theorem dL_step_402 : decode cL_step 402 = .ok (.iload 8, 2) := by decide +kernel
theorem dL_step_404 : decode cL_step 404 = .ok (.invokestatic 60, 3) := by decide +kernel
theorem dL_step_407 : decode cL_step 407 = .ok (.istore 12, 2) := by decide +kernel
theorem dL_step_409 : decode cL_step 409 = .ok (.iload 12, 2) := by decide +kernel
theorem dL_step_411 : decode cL_step 411 = .ok (.ifCond .ne 7, 3) := by decide +kernel
theorem dL_step_414 : decode cL_step 414 = .ok (.iconst 1, 1) := by decide +kernel
theorem dL_step_415 : decode cL_step 415 = .ok (.goto 4, 3) := by decide +kernel
theorem dL_step_418 : decode cL_step 418 = .ok (.iconst 0, 1) := by decide +kernel
theorem dL_step_419 : decode cL_step 419 = .ok (.iload 11, 2) := by decide +kernel
theorem dL_step_421 : decode cL_step 421 = .ok (.if_icmp .ne 24, 3) := by decide +kernel
theorem dL_step_424 : decode cL_step 424 = .ok (.iload 11, 2) := by decide +kernel
theorem dL_step_426 : decode cL_step 426 = .ok (.ifCond .eq 15, 3) := by decide +kernel
theorem dL_step_429 : decode cL_step 429 = .ok (.aload_n 0, 1) := by decide +kernel
theorem dL_step_430 : decode cL_step 430 = .ok (.iload 7, 2) := by decide +kernel
theorem dL_step_432 : decode cL_step 432 = .ok (.iconst 3, 1) := by decide +kernel
theorem dL_step_433 : decode cL_step 433 = .ok (.invokevirtual 45, 3) := by decide +kernel
theorem dL_step_436 : decode cL_step 436 = .ok (.iload 8, 2) := by decide +kernel
theorem dL_step_438 : decode cL_step 438 = .ok (.if_icmp .ne 7, 3) := by decide +kernel
theorem dL_step_441 : decode cL_step 441 = .ok (.iconst 1, 1) := by decide +kernel
theorem dL_step_442 : decode cL_step 442 = .ok (.goto 4, 3) := by decide +kernel
theorem dL_step_445 : decode cL_step 445 = .ok (.iconst 0, 1) := by decide +kernel
theorem dL_step_446 : decode cL_step 446 = .ok (.ireturn, 1) := by decide +kernel
theorem dL_step_447 : decode cL_step 447 = .ok (.aload_n 0, 1) := by decide +kernel
theorem dL_step_448 : decode cL_step 448 = .ok (.aload_n 1, 1) := by decide +kernel
theorem dL_step_449 : decode cL_step 449 = .ok (.iload 8, 2) := by decide +kernel
theorem dL_step_451 : decode cL_step 451 = .ok (.invokestatic 56, 3) := by decide +kernel
theorem dL_step_454 : decode cL_step 454 = .ok (.istore 13, 2) := by decide +kernel
theorem dL_step_456 : decode cL_step 456 = .ok (.iload 13, 2) := by decide +kernel
theorem dL_step_458 : decode cL_step 458 = .ok (.iconst (-1), 1) := by decide +kernel
theorem dL_step_459 : decode cL_step 459 = .ok (.if_icmp .eq 18, 3) := by decide +kernel
theorem dL_step_462 : decode cL_step 462 = .ok (.aload_n 0, 1) := by decide +kernel
theorem dL_step_463 : decode cL_step 463 = .ok (.iload 13, 2) := by decide +kernel
theorem dL_step_465 : decode cL_step 465 = .ok (.iconst 4, 1) := by decide +kernel
theorem dL_step_466 : decode cL_step 466 = .ok (.invokevirtual 45, 3) := by decide +kernel
theorem dL_step_469 : decode cL_step 469 = .ok (.iconst (-1), 1) := by decide +kernel
theorem dL_step_470 : decode cL_step 470 = .ok (.if_icmp .ne 7, 3) := by decide +kernel
theorem dL_step_473 : decode cL_step 473 = .ok (.iconst 1, 1) := by decide +kernel
theorem dL_step_474 : decode cL_step 474 = .ok (.goto 4, 3) := by decide +kernel
theorem dL_step_477 : decode cL_step 477 = .ok (.iconst 0, 1) := by decide +kernel
theorem dL_step_478 : decode cL_step 478 = .ok (.istore 14, 2) := by decide +kernel
theorem dL_step_480 : decode cL_step 480 = .ok (.aload_n 0, 1) := by decide +kernel
theorem dL_step_481 : decode cL_step 481 = .ok (.iload 8, 2) := by decide +kernel
theorem dL_step_483 : decode cL_step 483 = .ok (.invokestatic 64, 3) := by decide +kernel
theorem dL_step_486 : decode cL_step 486 = .ok (.istore 15, 2) := by decide +kernel
theorem dL_step_488 : decode cL_step 488 = .ok (.iload 14, 2) := by decide +kernel
theorem dL_step_490 : decode cL_step 490 = .ok (.ifCond .eq 29, 3) := by decide +kernel
theorem dL_step_493 : decode cL_step 493 = .ok (.iload 15, 2) := by decide +kernel
theorem dL_step_495 : decode cL_step 495 = .ok (.iload 13, 2) := by decide +kernel
theorem dL_step_497 : decode cL_step 497 = .ok (.if_icmp .ne 18, 3) := by decide +kernel
theorem dL_step_500 : decode cL_step 500 = .ok (.aload_n 0, 1) := by decide +kernel
theorem dL_step_501 : decode cL_step 501 = .ok (.iload 13, 2) := by decide +kernel
theorem dL_step_503 : decode cL_step 503 = .ok (.iconst 3, 1) := by decide +kernel
theorem dL_step_504 : decode cL_step 504 = .ok (.invokevirtual 45, 3) := by decide +kernel
theorem dL_step_507 : decode cL_step 507 = .ok (.iconst (-1), 1) := by decide +kernel
theorem dL_step_508 : decode cL_step 508 = .ok (.if_icmp .ne 7, 3) := by decide +kernel
theorem dL_step_511 : decode cL_step 511 = .ok (.iconst 1, 1) := by decide +kernel
theorem dL_step_512 : decode cL_step 512 = .ok (.goto 19, 3) := by decide +kernel
theorem dL_step_515 : decode cL_step 515 = .ok (.iconst 0, 1) := by decide +kernel
theorem dL_step_516 : decode cL_step 516 = .ok (.goto 15, 3) := by decide +kernel
theorem dL_step_519 : decode cL_step 519 = .ok (.iload 15, 2) := by decide +kernel
theorem dL_step_521 : decode cL_step 521 = .ok (.bipush (-2), 2) := by decide +kernel
theorem dL_step_523 : decode cL_step 523 = .ok (.if_icmp .ne 7, 3) := by decide +kernel
theorem dL_step_526 : decode cL_step 526 = .ok (.iconst 1, 1) := by decide +kernel
theorem dL_step_527 : decode cL_step 527 = .ok (.goto 4, 3) := by decide +kernel
theorem dL_step_530 : decode cL_step 530 = .ok (.iconst 0, 1) := by decide +kernel
theorem dL_step_531 : decode cL_step 531 = .ok (.ireturn, 1) := by decide +kernel
theorem dL_step_532 : decode cL_step 532 = .ok (.aload_n 0, 1) := by decide +kernel
theorem dL_step_533 : decode cL_step 533 = .ok (.aload_n 1, 1) := by decide +kernel
theorem dL_step_534 : decode cL_step 534 = .ok (.iload 7, 2) := by decide +kernel
theorem dL_step_536 : decode cL_step 536 = .ok (.iload 6, 2) := by decide +kernel
theorem dL_step_538 : decode cL_step 538 = .ok (.bipush 10, 2) := by decide +kernel
theorem dL_step_540 : decode cL_step 540 = .ok (.irem, 1) := by decide +kernel
theorem dL_step_541 : decode cL_step 541 = .ok (.bipush 10, 2) := by decide +kernel
theorem dL_step_543 : decode cL_step 543 = .ok (.iload 6, 2) := by decide +kernel
theorem dL_step_545 : decode cL_step 545 = .ok (.bipush 10, 2) := by decide +kernel
theorem dL_step_547 : decode cL_step 547 = .ok (.idiv, 1) := by decide +kernel
theorem dL_step_548 : decode cL_step 548 = .ok (.bipush 91, 2) := by decide +kernel
theorem dL_step_550 : decode cL_step 550 = .ok (.irem, 1) := by decide +kernel
theorem dL_step_551 : decode cL_step 551 = .ok (.iadd, 1) := by decide +kernel
theorem dL_step_552 : decode cL_step 552 = .ok (.invokestatic 67, 3) := by decide +kernel
theorem dL_step_555 : decode cL_step 555 = .ok (.ireturn, 1) := by decide +kernel
theorem dL_step_556 : decode cL_step 556 = .ok (.aload_n 0, 1) := by decide +kernel
theorem dL_step_557 : decode cL_step 557 = .ok (.iload 7, 2) := by decide +kernel
theorem dL_step_559 : decode cL_step 559 = .ok (.iconst 4, 1) := by decide +kernel
theorem dL_step_560 : decode cL_step 560 = .ok (.invokevirtual 45, 3) := by decide +kernel
theorem dL_step_563 : decode cL_step 563 = .ok (.istore 16, 2) := by decide +kernel
theorem dL_step_565 : decode cL_step 565 = .ok (.aload_n 0, 1) := by decide +kernel
theorem dL_step_566 : decode cL_step 566 = .ok (.invokevirtual 71, 3) := by decide +kernel
theorem dL_step_569 : decode cL_step 569 = .ok (.istore 17, 2) := by decide +kernel
theorem dL_step_571 : decode cL_step 571 = .ok (.aload_n 0, 1) := by decide +kernel
theorem dL_step_572 : decode cL_step 572 = .ok (.iload 7, 2) := by decide +kernel
theorem dL_step_574 : decode cL_step 574 = .ok (.invokestatic 75, 3) := by decide +kernel
theorem dL_step_577 : decode cL_step 577 = .ok (.istore 18, 2) := by decide +kernel
theorem dL_step_579 : decode cL_step 579 = .ok (.iload 18, 2) := by decide +kernel
theorem dL_step_581 : decode cL_step 581 = .ok (.iload 16, 2) := by decide +kernel
theorem dL_step_583 : decode cL_step 583 = .ok (.iconst (-1), 1) := by decide +kernel
theorem dL_step_584 : decode cL_step 584 = .ok (.if_icmp .ne 8, 3) := by decide +kernel
theorem dL_step_587 : decode cL_step 587 = .ok (.bipush (-2), 2) := by decide +kernel
theorem dL_step_589 : decode cL_step 589 = .ok (.goto 5, 3) := by decide +kernel
theorem dL_step_592 : decode cL_step 592 = .ok (.iload 16, 2) := by decide +kernel
theorem dL_step_594 : decode cL_step 594 = .ok (.if_icmp .ne 27, 3) := by decide +kernel
theorem dL_step_597 : decode cL_step 597 = .ok (.aload_n 0, 1) := by decide +kernel
theorem dL_step_598 : decode cL_step 598 = .ok (.iload 7, 2) := by decide +kernel
theorem dL_step_600 : decode cL_step 600 = .ok (.iconst 4, 1) := by decide +kernel
theorem dL_step_601 : decode cL_step 601 = .ok (.invokevirtual 45, 3) := by decide +kernel
theorem dL_step_604 : decode cL_step 604 = .ok (.iconst (-1), 1) := by decide +kernel
theorem dL_step_605 : decode cL_step 605 = .ok (.if_icmp .ne 16, 3) := by decide +kernel
theorem dL_step_608 : decode cL_step 608 = .ok (.aload_n 0, 1) := by decide +kernel
theorem dL_step_609 : decode cL_step 609 = .ok (.invokevirtual 71, 3) := by decide +kernel
theorem dL_step_612 : decode cL_step 612 = .ok (.iload 17, 2) := by decide +kernel
theorem dL_step_614 : decode cL_step 614 = .ok (.if_icmp .ne 7, 3) := by decide +kernel
theorem dL_step_617 : decode cL_step 617 = .ok (.iconst 1, 1) := by decide +kernel
theorem dL_step_618 : decode cL_step 618 = .ok (.goto 4, 3) := by decide +kernel
theorem dL_step_621 : decode cL_step 621 = .ok (.iconst 0, 1) := by decide +kernel
theorem dL_step_622 : decode cL_step 622 = .ok (.ireturn, 1) := by decide +kernel
theorem dL_step_623 : decode cL_step 623 = .ok (.aload_n 0, 1) := by decide +kernel
theorem dL_step_624 : decode cL_step 624 = .ok (.iload 7, 2) := by decide +kernel
theorem dL_step_626 : decode cL_step 626 = .ok (.iconst 0, 1) := by decide +kernel
theorem dL_step_627 : decode cL_step 627 = .ok (.invokevirtual 45, 3) := by decide +kernel
theorem dL_step_630 : decode cL_step 630 = .ok (.istore 19, 2) := by decide +kernel
theorem dL_step_632 : decode cL_step 632 = .ok (.aload_n 0, 1) := by decide +kernel
theorem dL_step_633 : decode cL_step 633 = .ok (.iload 7, 2) := by decide +kernel
theorem dL_step_635 : decode cL_step 635 = .ok (.iconst 1, 1) := by decide +kernel
theorem dL_step_636 : decode cL_step 636 = .ok (.invokevirtual 45, 3) := by decide +kernel
theorem dL_step_639 : decode cL_step 639 = .ok (.iconst 1, 1) := by decide +kernel
theorem dL_step_640 : decode cL_step 640 = .ok (.if_icmp .ne 7, 3) := by decide +kernel
theorem dL_step_643 : decode cL_step 643 = .ok (.iconst 1, 1) := by decide +kernel
theorem dL_step_644 : decode cL_step 644 = .ok (.goto 4, 3) := by decide +kernel
theorem dL_step_647 : decode cL_step 647 = .ok (.iconst 0, 1) := by decide +kernel
theorem dL_step_648 : decode cL_step 648 = .ok (.istore 20, 2) := by decide +kernel
theorem dL_step_650 : decode cL_step 650 = .ok (.aload_n 0, 1) := by decide +kernel
theorem dL_step_651 : decode cL_step 651 = .ok (.iload 7, 2) := by decide +kernel
theorem dL_step_653 : decode cL_step 653 = .ok (.invokestatic 78, 3) := by decide +kernel
theorem dL_step_656 : decode cL_step 656 = .ok (.istore 21, 2) := by decide +kernel
theorem dL_step_658 : decode cL_step 658 = .ok (.iload 20, 2) := by decide +kernel
theorem dL_step_660 : decode cL_step 660 = .ok (.ifCond .eq 51, 3) := by decide +kernel
theorem dL_step_663 : decode cL_step 663 = .ok (.iload 19, 2) := by decide +kernel
theorem dL_step_665 : decode cL_step 665 = .ok (.bipush 39, 2) := by decide +kernel
theorem dL_step_667 : decode cL_step 667 = .ok (.if_icmp .ge 44, 3) := by decide +kernel
theorem dL_step_670 : decode cL_step 670 = .ok (.iload 21, 2) := by decide +kernel
theorem dL_step_672 : decode cL_step 672 = .ok (.iload 19, 2) := by decide +kernel
theorem dL_step_674 : decode cL_step 674 = .ok (.iconst 2, 1) := by decide +kernel
theorem dL_step_675 : decode cL_step 675 = .ok (.iadd, 1) := by decide +kernel
theorem dL_step_676 : decode cL_step 676 = .ok (.if_icmp .ne 31, 3) := by decide +kernel
theorem dL_step_679 : decode cL_step 679 = .ok (.aload_n 0, 1) := by decide +kernel
theorem dL_step_680 : decode cL_step 680 = .ok (.iload 7, 2) := by decide +kernel
theorem dL_step_682 : decode cL_step 682 = .ok (.iconst 1, 1) := by decide +kernel
theorem dL_step_683 : decode cL_step 683 = .ok (.invokevirtual 45, 3) := by decide +kernel
theorem dL_step_686 : decode cL_step 686 = .ok (.ifCond .ne 21, 3) := by decide +kernel
theorem dL_step_689 : decode cL_step 689 = .ok (.aload_n 0, 1) := by decide +kernel
theorem dL_step_690 : decode cL_step 690 = .ok (.iload 7, 2) := by decide +kernel
theorem dL_step_692 : decode cL_step 692 = .ok (.iconst 0, 1) := by decide +kernel
theorem dL_step_693 : decode cL_step 693 = .ok (.invokevirtual 45, 3) := by decide +kernel
theorem dL_step_696 : decode cL_step 696 = .ok (.iload 19, 2) := by decide +kernel
theorem dL_step_698 : decode cL_step 698 = .ok (.iconst 2, 1) := by decide +kernel
theorem dL_step_699 : decode cL_step 699 = .ok (.iadd, 1) := by decide +kernel
theorem dL_step_700 : decode cL_step 700 = .ok (.if_icmp .ne 7, 3) := by decide +kernel
theorem dL_step_703 : decode cL_step 703 = .ok (.iconst 1, 1) := by decide +kernel
theorem dL_step_704 : decode cL_step 704 = .ok (.goto 31, 3) := by decide +kernel
theorem dL_step_707 : decode cL_step 707 = .ok (.iconst 0, 1) := by decide +kernel
theorem dL_step_708 : decode cL_step 708 = .ok (.goto 27, 3) := by decide +kernel
theorem dL_step_711 : decode cL_step 711 = .ok (.iload 21, 2) := by decide +kernel
theorem dL_step_713 : decode cL_step 713 = .ok (.bipush (-2), 2) := by decide +kernel
theorem dL_step_715 : decode cL_step 715 = .ok (.if_icmp .ne 19, 3) := by decide +kernel
theorem dL_step_718 : decode cL_step 718 = .ok (.aload_n 0, 1) := by decide +kernel
theorem dL_step_719 : decode cL_step 719 = .ok (.iload 7, 2) := by decide +kernel
theorem dL_step_721 : decode cL_step 721 = .ok (.iconst 0, 1) := by decide +kernel
theorem dL_step_722 : decode cL_step 722 = .ok (.invokevirtual 45, 3) := by decide +kernel
theorem dL_step_725 : decode cL_step 725 = .ok (.iload 19, 2) := by decide +kernel
theorem dL_step_727 : decode cL_step 727 = .ok (.if_icmp .ne 7, 3) := by decide +kernel
theorem dL_step_730 : decode cL_step 730 = .ok (.iconst 1, 1) := by decide +kernel
theorem dL_step_731 : decode cL_step 731 = .ok (.goto 4, 3) := by decide +kernel
theorem dL_step_734 : decode cL_step 734 = .ok (.iconst 0, 1) := by decide +kernel
theorem dL_step_735 : decode cL_step 735 = .ok (.ireturn, 1) := by decide +kernel
theorem dL_step_736 : decode cL_step 736 = .ok (.aload_n 0, 1) := by decide +kernel
theorem dL_step_737 : decode cL_step 737 = .ok (.iload 6, 2) := by decide +kernel
theorem dL_step_739 : decode cL_step 739 = .ok (.iconst 2, 1) := by decide +kernel
theorem dL_step_740 : decode cL_step 740 = .ok (.irem, 1) := by decide +kernel
theorem dL_step_741 : decode cL_step 741 = .ok (.ifCond .ne 7, 3) := by decide +kernel
theorem dL_step_744 : decode cL_step 744 = .ok (.iconst 1, 1) := by decide +kernel
theorem dL_step_745 : decode cL_step 745 = .ok (.goto 4, 3) := by decide +kernel
theorem dL_step_748 : decode cL_step 748 = .ok (.iconst 0, 1) := by decide +kernel
theorem dL_step_749 : decode cL_step 749 = .ok (.invokevirtual 81, 3) := by decide +kernel
theorem dL_step_752 : decode cL_step 752 = .ok (.istore 22, 2) := by decide +kernel
theorem dL_step_754 : decode cL_step 754 = .ok (.iload 22, 2) := by decide +kernel
theorem dL_step_756 : decode cL_step 756 = .ok (.aload_n 1, 1) := by decide +kernel
theorem dL_step_757 : decode cL_step 757 = .ok (.iconst 2, 1) := by decide +kernel
theorem dL_step_758 : decode cL_step 758 = .ok (.iaload, 1) := by decide +kernel
theorem dL_step_759 : decode cL_step 759 = .ok (.iconst 1, 1) := by decide +kernel
theorem dL_step_760 : decode cL_step 760 = .ok (.if_icmp .ne 7, 3) := by decide +kernel
theorem dL_step_763 : decode cL_step 763 = .ok (.iconst 1, 1) := by decide +kernel
theorem dL_step_764 : decode cL_step 764 = .ok (.goto 4, 3) := by decide +kernel
theorem dL_step_767 : decode cL_step 767 = .ok (.iconst 0, 1) := by decide +kernel
theorem dL_step_768 : decode cL_step 768 = .ok (.if_icmp .ne 7, 3) := by decide +kernel
theorem dL_step_771 : decode cL_step 771 = .ok (.iconst 1, 1) := by decide +kernel
theorem dL_step_772 : decode cL_step 772 = .ok (.goto 4, 3) := by decide +kernel
theorem dL_step_775 : decode cL_step 775 = .ok (.iconst 0, 1) := by decide +kernel
theorem dL_step_776 : decode cL_step 776 = .ok (.istore 23, 2) := by decide +kernel
theorem dL_step_778 : decode cL_step 778 = .ok (.aload_n 1, 1) := by decide +kernel
theorem dL_step_779 : decode cL_step 779 = .ok (.iconst 2, 1) := by decide +kernel
theorem dL_step_780 : decode cL_step 780 = .ok (.iload 6, 2) := by decide +kernel
theorem dL_step_782 : decode cL_step 782 = .ok (.iconst 2, 1) := by decide +kernel
theorem dL_step_783 : decode cL_step 783 = .ok (.irem, 1) := by decide +kernel
theorem dL_step_784 : decode cL_step 784 = .ok (.ifCond .ne 7, 3) := by decide +kernel
theorem dL_step_787 : decode cL_step 787 = .ok (.iconst 1, 1) := by decide +kernel
theorem dL_step_788 : decode cL_step 788 = .ok (.goto 4, 3) := by decide +kernel
theorem dL_step_791 : decode cL_step 791 = .ok (.iconst 0, 1) := by decide +kernel
theorem dL_step_792 : decode cL_step 792 = .ok (.iastore, 1) := by decide +kernel
theorem dL_step_793 : decode cL_step 793 = .ok (.iload 23, 2) := by decide +kernel
theorem dL_step_795 : decode cL_step 795 = .ok (.ireturn, 1) := by decide +kernel
theorem dL_step_796 : decode cL_step 796 = .ok (.aload_n 0, 1) := by decide +kernel
theorem dL_step_797 : decode cL_step 797 = .ok (.aload_n 1, 1) := by decide +kernel
theorem dL_step_798 : decode cL_step 798 = .ok (.iload 7, 2) := by decide +kernel
theorem dL_step_800 : decode cL_step 800 = .ok (.iconst 1, 1) := by decide +kernel
theorem dL_step_801 : decode cL_step 801 = .ok (.iload 6, 2) := by decide +kernel
theorem dL_step_803 : decode cL_step 803 = .ok (.bipush 24, 2) := by decide +kernel
theorem dL_step_805 : decode cL_step 805 = .ok (.irem, 1) := by decide +kernel
theorem dL_step_806 : decode cL_step 806 = .ok (.iadd, 1) := by decide +kernel
theorem dL_step_807 : decode cL_step 807 = .ok (.invokestatic 85, 3) := by decide +kernel
theorem dL_step_810 : decode cL_step 810 = .ok (.ireturn, 1) := by decide +kernel
theorem dL_step_811 : decode cL_step 811 = .ok (.aload_n 0, 1) := by decide +kernel
theorem dL_step_812 : decode cL_step 812 = .ok (.aload_n 1, 1) := by decide +kernel
theorem dL_step_813 : decode cL_step 813 = .ok (.iload 6, 2) := by decide +kernel
theorem dL_step_815 : decode cL_step 815 = .ok (.bipush 31, 2) := by decide +kernel
theorem dL_step_817 : decode cL_step 817 = .ok (.irem, 1) := by decide +kernel
theorem dL_step_818 : decode cL_step 818 = .ok (.iload 6, 2) := by decide +kernel
theorem dL_step_820 : decode cL_step 820 = .ok (.bipush 31, 2) := by decide +kernel
theorem dL_step_822 : decode cL_step 822 = .ok (.idiv, 1) := by decide +kernel
theorem dL_step_823 : decode cL_step 823 = .ok (.bipush 11, 2) := by decide +kernel
theorem dL_step_825 : decode cL_step 825 = .ok (.irem, 1) := by decide +kernel
theorem dL_step_826 : decode cL_step 826 = .ok (.iconst 5, 1) := by decide +kernel
theorem dL_step_827 : decode cL_step 827 = .ok (.isub, 1) := by decide +kernel
theorem dL_step_828 : decode cL_step 828 = .ok (.invokestatic 89, 3) := by decide +kernel
theorem dL_step_831 : decode cL_step 831 = .ok (.ireturn, 1) := by decide +kernel
set_option maxRecDepth 20000 in
theorem ggL_kiteOf_X2_about : GoodIn wsL_kiteOf wsX2_about := goodIn_ca (goodIn_ca (goodIn_r _ [5, 6, 7, 8, 9, 10, 11, 12, 13, 14, 15, 16, 17, 4, 18, 19, 20, 21, 22, 23, 24, 25, 26, 27, 28, 29, 30, 31, 32, 33, 34, 35, 36, 37, 38, 39, 40, 41, 42, 43, 44, 45, 46, 47, 48, 49, 50, 51, 52, 53, 54, 55, 56, 57, 58, 59, 60, 61, 62, 63, 64, 65, 66, 67, 68] (by decide +kernel) (by decide +kernel)) (goodIn_sub (fun _ h => List.mem_cons_of_mem _ (List.mem_append_left _ (List.mem_append_right _ h))) (by decide +kernel))) (goodIn_sub (fun _ h => List.mem_cons_of_mem _ (List.mem_append_right _ h)) (by decide +kernel))
set_option maxRecDepth 20000 in
theorem gL_kiteOf_X2_about : GoodIn wsL_kiteOf (wsV RL 45 RX2 yX2_about wsX2_about) := goodIn_app (goodIn_of _ (by decide +kernel)) ggL_kiteOf_X2_about
theorem dL_kiteOf_0 : decode cL_kiteOf 0 = .ok (.iconst 0, 1) := by decide +kernel
theorem dL_kiteOf_1 : decode cL_kiteOf 1 = .ok (.istore_n 3, 1) := by decide +kernel
theorem dL_kiteOf_2 : decode cL_kiteOf 2 = .ok (.iload_n 3, 1) := by decide +kernel
theorem dL_kiteOf_3 : decode cL_kiteOf 3 = .ok (.aload_n 1, 1) := by decide +kernel
theorem dL_kiteOf_4 : decode cL_kiteOf 4 = .ok (.iconst 0, 1) := by decide +kernel
theorem dL_kiteOf_5 : decode cL_kiteOf 5 = .ok (.iaload, 1) := by decide +kernel
theorem dL_kiteOf_6 : decode cL_kiteOf 6 = .ok (.if_icmp .ge 21, 3) := by decide +kernel
theorem dL_kiteOf_9 : decode cL_kiteOf 9 = .ok (.aload_n 0, 1) := by decide +kernel
theorem dL_kiteOf_10 : decode cL_kiteOf 10 = .ok (.iload_n 3, 1) := by decide +kernel
theorem dL_kiteOf_11 : decode cL_kiteOf 11 = .ok (.iconst 3, 1) := by decide +kernel
theorem dL_kiteOf_12 : decode cL_kiteOf 12 = .ok (.invokevirtual 45, 3) := by decide +kernel
theorem dL_kiteOf_15 : decode cL_kiteOf 15 = .ok (.iload_n 2, 1) := by decide +kernel
theorem dL_kiteOf_16 : decode cL_kiteOf 16 = .ok (.if_icmp .ne 5, 3) := by decide +kernel
theorem dL_kiteOf_19 : decode cL_kiteOf 19 = .ok (.iload_n 3, 1) := by decide +kernel
theorem dL_kiteOf_20 : decode cL_kiteOf 20 = .ok (.ireturn, 1) := by decide +kernel
theorem dL_kiteOf_21 : decode cL_kiteOf 21 = .ok (.iinc 3 1, 3) := by decide +kernel
theorem dL_kiteOf_24 : decode cL_kiteOf 24 = .ok (.goto (-22), 3) := by decide +kernel
theorem dL_kiteOf_27 : decode cL_kiteOf 27 = .ok (.iconst (-1), 1) := by decide +kernel
theorem dL_kiteOf_28 : decode cL_kiteOf 28 = .ok (.ireturn, 1) := by decide +kernel
set_option maxRecDepth 20000 in
theorem ggL_isFlown_X2_pull : GoodIn wsL_isFlown wsX2_pull := goodIn_ca (goodIn_ca (goodIn_r _ [6, 7, 8, 9, 10, 11, 5, 12, 13, 14, 15, 16, 17, 18, 19, 20, 21, 22, 23, 24, 25, 26, 27, 28, 29, 30, 31, 32, 33, 97, 98, 99, 100, 101, 102, 103, 104, 105, 106, 107, 108, 109, 110, 111, 112, 113, 114] (by decide +kernel) (by decide +kernel)) (goodIn_sub (fun _ h => List.mem_cons_of_mem _ (List.mem_append_left _ (List.mem_append_left _ (List.mem_append_right _ h)))) (by decide +kernel))) (goodIn_sub (fun _ h => List.mem_cons_of_mem _ (List.mem_append_left _ (List.mem_append_right _ h))) (by decide +kernel))
set_option maxRecDepth 20000 in
theorem gL_isFlown_X2_pull : GoodIn wsL_isFlown (wsV RL 49 RX2 yX2_pull wsX2_pull) := goodIn_app (goodIn_of _ (by decide +kernel)) ggL_isFlown_X2_pull
set_option maxRecDepth 20000 in
theorem ggL_isFlown_X2_about : GoodIn wsL_isFlown wsX2_about := goodIn_ca (goodIn_ca (goodIn_r _ [37, 7, 8, 38, 39, 40, 41, 42, 43, 44, 9, 10, 11, 5, 12, 13, 14, 15, 16, 17, 18, 45, 46, 47, 25, 48, 49, 50, 51, 52, 53, 54, 55, 56, 57, 58, 59, 23, 24, 26, 27, 28, 29, 30, 31, 32, 33, 106, 107, 108, 109, 110, 111, 112, 113, 114, 97, 98, 99, 100, 101, 102, 103, 104, 105] (by decide +kernel) (by decide +kernel)) (goodIn_sub (fun _ h => List.mem_cons_of_mem _ (List.mem_append_left _ (List.mem_append_left _ (List.mem_append_right _ h)))) (by decide +kernel))) (goodIn_sub (fun _ h => List.mem_cons_of_mem _ (List.mem_append_left _ (List.mem_append_right _ h))) (by decide +kernel))
set_option maxRecDepth 20000 in
theorem gL_isFlown_X2_about : GoodIn wsL_isFlown (wsV RL 45 RX2 yX2_about wsX2_about) := goodIn_app (goodIn_of _ (by decide +kernel)) ggL_isFlown_X2_about
set_option maxRecDepth 20000 in
theorem ggL_isFlown_X2_lane : GoodIn wsL_isFlown wsX2_lane := goodIn_ca (goodIn_r _ [63, 13, 14, 64, 65, 66, 67, 5, 68, 16, 17, 18, 97, 98, 99, 100, 101, 102, 103, 104, 105, 106, 107, 108, 109, 110, 111, 112, 113, 114] (by decide +kernel) (by decide +kernel)) (goodIn_sub (fun _ h => List.mem_cons_of_mem _ (List.mem_append_left _ (List.mem_append_right _ h))) (by decide +kernel))
set_option maxRecDepth 20000 in
theorem gL_isFlown_X2_lane : GoodIn wsL_isFlown (wsV RL 92 RX2 yX2_lane wsX2_lane) := goodIn_app (goodIn_of _ (by decide +kernel)) ggL_isFlown_X2_lane
set_option maxRecDepth 20000 in
theorem ggL_isFlown_L_flies : GoodIn wsL_isFlown wsL_flies := goodIn_ca (goodIn_ca (goodIn_ca (goodIn_r _ [72, 73, 1, 74, 75, 76, 5, 77, 13, 14, 7, 8, 78, 79, 43, 64, 44, 42, 80, 9, 10, 11, 12, 15, 16, 17, 18, 66, 67, 68, 81, 82, 83, 25, 84, 85, 86, 87, 46, 47, 48, 49, 88, 89, 90, 91, 59, 23, 24, 26, 27, 28, 29, 30, 31, 32, 33, 92, 56, 57, 58, 93, 94, 95, 96, 50, 51, 52, 53, 54, 55, 97, 98, 99, 100, 101, 102, 103, 104, 105, 106, 107, 108, 109, 110, 111, 112, 113, 114] (by decide +kernel) (by decide +kernel)) (goodIn_sub (fun _ h => List.mem_cons_of_mem _ (List.mem_append_left _ (List.mem_append_right _ h))) (by decide +kernel))) (goodIn_sub (fun _ h => List.mem_cons_of_mem _ (List.mem_append_left _ (List.mem_append_left _ (List.mem_append_right _ h)))) (by decide +kernel))) (goodIn_sub (fun _ h => List.mem_cons_of_mem _ (List.mem_append_right _ h)) (by decide +kernel))
set_option maxRecDepth 20000 in
theorem gL_isFlown_L_flies : GoodIn wsL_isFlown (va_wsS RL 95 yL_flies wsL_flies) := goodIn_app (goodIn_of _ (by decide +kernel)) ggL_isFlown_L_flies
theorem dL_isFlown_0 : decode cL_isFlown 0 = .ok (.aload_n 0, 1) := by decide +kernel
theorem dL_isFlown_1 : decode cL_isFlown 1 = .ok (.iload_n 2, 1) := by decide +kernel
theorem dL_isFlown_2 : decode cL_isFlown 2 = .ok (.aload_n 1, 1) := by decide +kernel
theorem dL_isFlown_3 : decode cL_isFlown 3 = .ok (.iconst 3, 1) := by decide +kernel
theorem dL_isFlown_4 : decode cL_isFlown 4 = .ok (.iaload, 1) := by decide +kernel
theorem dL_isFlown_5 : decode cL_isFlown 5 = .ok (.invokevirtual 49, 3) := by decide +kernel
theorem dL_isFlown_8 : decode cL_isFlown 8 = .ok (.bipush 100, 2) := by decide +kernel
theorem dL_isFlown_10 : decode cL_isFlown 10 = .ok (.if_icmp .lt 21, 3) := by decide +kernel
theorem dL_isFlown_13 : decode cL_isFlown 13 = .ok (.aload_n 0, 1) := by decide +kernel
theorem dL_isFlown_14 : decode cL_isFlown 14 = .ok (.iload_n 2, 1) := by decide +kernel
theorem dL_isFlown_15 : decode cL_isFlown 15 = .ok (.aload_n 1, 1) := by decide +kernel
theorem dL_isFlown_16 : decode cL_isFlown 16 = .ok (.iconst 3, 1) := by decide +kernel
theorem dL_isFlown_17 : decode cL_isFlown 17 = .ok (.iaload, 1) := by decide +kernel
theorem dL_isFlown_18 : decode cL_isFlown 18 = .ok (.invokevirtual 49, 3) := by decide +kernel
theorem dL_isFlown_21 : decode cL_isFlown 21 = .ok (.sipush 6000, 3) := by decide +kernel
theorem dL_isFlown_24 : decode cL_isFlown 24 = .ok (.if_icmp .gt 7, 3) := by decide +kernel
theorem dL_isFlown_27 : decode cL_isFlown 27 = .ok (.iconst 1, 1) := by decide +kernel
theorem dL_isFlown_28 : decode cL_isFlown 28 = .ok (.goto 4, 3) := by decide +kernel
theorem dL_isFlown_31 : decode cL_isFlown 31 = .ok (.iconst 0, 1) := by decide +kernel
theorem dL_isFlown_32 : decode cL_isFlown 32 = .ok (.istore 5, 2) := by decide +kernel
theorem dL_isFlown_34 : decode cL_isFlown 34 = .ok (.aload_n 0, 1) := by decide +kernel
theorem dL_isFlown_35 : decode cL_isFlown 35 = .ok (.iload_n 2, 1) := by decide +kernel
theorem dL_isFlown_36 : decode cL_isFlown 36 = .ok (.iconst 1, 1) := by decide +kernel
theorem dL_isFlown_37 : decode cL_isFlown 37 = .ok (.invokevirtual 45, 3) := by decide +kernel
theorem dL_isFlown_40 : decode cL_isFlown 40 = .ok (.ifCond .ne 41, 3) := by decide +kernel
theorem dL_isFlown_43 : decode cL_isFlown 43 = .ok (.aload_n 0, 1) := by decide +kernel
theorem dL_isFlown_44 : decode cL_isFlown 44 = .ok (.iload_n 2, 1) := by decide +kernel
theorem dL_isFlown_45 : decode cL_isFlown 45 = .ok (.iconst 3, 1) := by decide +kernel
theorem dL_isFlown_46 : decode cL_isFlown 46 = .ok (.invokevirtual 45, 3) := by decide +kernel
theorem dL_isFlown_49 : decode cL_isFlown 49 = .ok (.iconst (-1), 1) := by decide +kernel
theorem dL_isFlown_50 : decode cL_isFlown 50 = .ok (.if_icmp .eq 31, 3) := by decide +kernel
theorem dL_isFlown_53 : decode cL_isFlown 53 = .ok (.aload_n 0, 1) := by decide +kernel
theorem dL_isFlown_54 : decode cL_isFlown 54 = .ok (.iload_n 2, 1) := by decide +kernel
theorem dL_isFlown_55 : decode cL_isFlown 55 = .ok (.iconst 4, 1) := by decide +kernel
theorem dL_isFlown_56 : decode cL_isFlown 56 = .ok (.invokevirtual 45, 3) := by decide +kernel
theorem dL_isFlown_59 : decode cL_isFlown 59 = .ok (.iconst (-1), 1) := by decide +kernel
theorem dL_isFlown_60 : decode cL_isFlown 60 = .ok (.if_icmp .ne 21, 3) := by decide +kernel
theorem dL_isFlown_63 : decode cL_isFlown 63 = .ok (.iload 5, 2) := by decide +kernel
theorem dL_isFlown_65 : decode cL_isFlown 65 = .ok (.ifCond .eq 16, 3) := by decide +kernel
theorem dL_isFlown_68 : decode cL_isFlown 68 = .ok (.aload_n 0, 1) := by decide +kernel
theorem dL_isFlown_69 : decode cL_isFlown 69 = .ok (.iload_n 3, 1) := by decide +kernel
theorem dL_isFlown_70 : decode cL_isFlown 70 = .ok (.invokevirtual 92, 3) := by decide +kernel
theorem dL_isFlown_73 : decode cL_isFlown 73 = .ok (.iconst (-1), 1) := by decide +kernel
theorem dL_isFlown_74 : decode cL_isFlown 74 = .ok (.if_icmp .ne 7, 3) := by decide +kernel
theorem dL_isFlown_77 : decode cL_isFlown 77 = .ok (.iconst 1, 1) := by decide +kernel
theorem dL_isFlown_78 : decode cL_isFlown 78 = .ok (.goto 4, 3) := by decide +kernel
theorem dL_isFlown_81 : decode cL_isFlown 81 = .ok (.iconst 0, 1) := by decide +kernel
theorem dL_isFlown_82 : decode cL_isFlown 82 = .ok (.istore 6, 2) := by decide +kernel
theorem dL_isFlown_84 : decode cL_isFlown 84 = .ok (.aload_n 0, 1) := by decide +kernel
theorem dL_isFlown_85 : decode cL_isFlown 85 = .ok (.iload_n 2, 1) := by decide +kernel
theorem dL_isFlown_86 : decode cL_isFlown 86 = .ok (.iload_n 3, 1) := by decide +kernel
theorem dL_isFlown_87 : decode cL_isFlown 87 = .ok (.iload 4, 2) := by decide +kernel
theorem dL_isFlown_89 : decode cL_isFlown 89 = .ok (.invokestatic 95, 3) := by decide +kernel
theorem dL_isFlown_92 : decode cL_isFlown 92 = .ok (.istore 7, 2) := by decide +kernel
theorem dL_isFlown_94 : decode cL_isFlown 94 = .ok (.iload 7, 2) := by decide +kernel
theorem dL_isFlown_96 : decode cL_isFlown 96 = .ok (.ldc 35, 2) := by decide +kernel
theorem dL_isFlown_98 : decode cL_isFlown 98 = .ok (.if_icmp .ne 25, 3) := by decide +kernel
theorem dL_isFlown_101 : decode cL_isFlown 101 = .ok (.aload_n 0, 1) := by decide +kernel
theorem dL_isFlown_102 : decode cL_isFlown 102 = .ok (.iload_n 3, 1) := by decide +kernel
theorem dL_isFlown_103 : decode cL_isFlown 103 = .ok (.invokevirtual 92, 3) := by decide +kernel
theorem dL_isFlown_106 : decode cL_isFlown 106 = .ok (.iload_n 2, 1) := by decide +kernel
theorem dL_isFlown_107 : decode cL_isFlown 107 = .ok (.if_icmp .ne 8, 3) := by decide +kernel
theorem dL_isFlown_110 : decode cL_isFlown 110 = .ok (.iload 6, 2) := by decide +kernel
theorem dL_isFlown_112 : decode cL_isFlown 112 = .ok (.ifCond .ne 7, 3) := by decide +kernel
theorem dL_isFlown_115 : decode cL_isFlown 115 = .ok (.iconst 1, 1) := by decide +kernel
theorem dL_isFlown_116 : decode cL_isFlown 116 = .ok (.goto 47, 3) := by decide +kernel
theorem dL_isFlown_119 : decode cL_isFlown 119 = .ok (.iconst 0, 1) := by decide +kernel
theorem dL_isFlown_120 : decode cL_isFlown 120 = .ok (.goto 43, 3) := by decide +kernel
theorem dL_isFlown_123 : decode cL_isFlown 123 = .ok (.iload 6, 2) := by decide +kernel
theorem dL_isFlown_125 : decode cL_isFlown 125 = .ok (.ifCond .eq 37, 3) := by decide +kernel
theorem dL_isFlown_128 : decode cL_isFlown 128 = .ok (.aload_n 0, 1) := by decide +kernel
theorem dL_isFlown_129 : decode cL_isFlown 129 = .ok (.iload_n 3, 1) := by decide +kernel
theorem dL_isFlown_130 : decode cL_isFlown 130 = .ok (.invokevirtual 92, 3) := by decide +kernel
theorem dL_isFlown_133 : decode cL_isFlown 133 = .ok (.iload_n 2, 1) := by decide +kernel
theorem dL_isFlown_134 : decode cL_isFlown 134 = .ok (.if_icmp .ne 28, 3) := by decide +kernel
theorem dL_isFlown_137 : decode cL_isFlown 137 = .ok (.aload_n 0, 1) := by decide +kernel
theorem dL_isFlown_138 : decode cL_isFlown 138 = .ok (.iload_n 2, 1) := by decide +kernel
theorem dL_isFlown_139 : decode cL_isFlown 139 = .ok (.iconst 4, 1) := by decide +kernel
theorem dL_isFlown_140 : decode cL_isFlown 140 = .ok (.invokevirtual 45, 3) := by decide +kernel
theorem dL_isFlown_143 : decode cL_isFlown 143 = .ok (.iload_n 3, 1) := by decide +kernel
theorem dL_isFlown_144 : decode cL_isFlown 144 = .ok (.if_icmp .ne 18, 3) := by decide +kernel
theorem dL_isFlown_147 : decode cL_isFlown 147 = .ok (.aload_n 0, 1) := by decide +kernel
theorem dL_isFlown_148 : decode cL_isFlown 148 = .ok (.iload_n 2, 1) := by decide +kernel
theorem dL_isFlown_149 : decode cL_isFlown 149 = .ok (.iconst 5, 1) := by decide +kernel
theorem dL_isFlown_150 : decode cL_isFlown 150 = .ok (.invokevirtual 45, 3) := by decide +kernel
theorem dL_isFlown_153 : decode cL_isFlown 153 = .ok (.iload 7, 2) := by decide +kernel
theorem dL_isFlown_155 : decode cL_isFlown 155 = .ok (.if_icmp .ne 7, 3) := by decide +kernel
theorem dL_isFlown_158 : decode cL_isFlown 158 = .ok (.iconst 1, 1) := by decide +kernel
theorem dL_isFlown_159 : decode cL_isFlown 159 = .ok (.goto 4, 3) := by decide +kernel
theorem dL_isFlown_162 : decode cL_isFlown 162 = .ok (.iconst 0, 1) := by decide +kernel
theorem dL_isFlown_163 : decode cL_isFlown 163 = .ok (.ireturn, 1) := by decide +kernel
set_option maxRecDepth 20000 in
theorem ggL_isPassed_X2_about : GoodIn wsL_isPassed wsX2_about := goodIn_ca (goodIn_ca (goodIn_r _ [5, 6, 7, 8, 9, 10, 11, 12, 13, 14, 15, 16, 17, 4, 18, 19, 20, 21, 22, 23, 24, 25, 26, 27, 28, 29, 30, 31, 32, 33, 34, 35, 36, 37, 38, 39, 40, 41, 42, 43, 44, 45, 46, 47, 48, 49, 50, 70, 71, 72, 73, 74, 75, 76, 77, 78, 79, 80, 81, 82, 83, 84, 85, 86, 87] (by decide +kernel) (by decide +kernel)) (goodIn_sub (fun _ h => List.mem_cons_of_mem _ (List.mem_append_left _ (List.mem_append_right _ h))) (by decide +kernel))) (goodIn_sub (fun _ h => List.mem_cons_of_mem _ (List.mem_append_right _ h)) (by decide +kernel))
set_option maxRecDepth 20000 in
theorem gL_isPassed_X2_about : GoodIn wsL_isPassed (wsV RL 45 RX2 yX2_about wsX2_about) := goodIn_app (goodIn_of _ (by decide +kernel)) ggL_isPassed_X2_about
set_option maxRecDepth 20000 in
theorem ggL_isPassed_X2_pass : GoodIn wsL_isPassed wsX2_pass := goodIn_ca (goodIn_r _ [54, 6, 7, 22, 23, 4, 24, 55, 56, 57, 58, 21, 59, 60, 61, 62, 28, 63, 64, 65, 26, 27, 29, 30, 66, 67, 68, 69, 10, 79, 80, 81, 82, 83, 84, 85, 86, 87, 70, 71, 72, 73, 74, 75, 76, 77, 78] (by decide +kernel) (by decide +kernel)) (goodIn_sub (fun _ h => List.mem_cons_of_mem _ (List.mem_append_left _ (List.mem_append_right _ h))) (by decide +kernel))
set_option maxRecDepth 20000 in
theorem gL_isPassed_X2_pass : GoodIn wsL_isPassed (wsV RL 98 RX2 yX2_pass wsX2_pass) := goodIn_app (goodIn_of _ (by decide +kernel)) ggL_isPassed_X2_pass
theorem dL_isPassed_0 : decode cL_isPassed 0 = .ok (.aload_n 0, 1) := by decide +kernel
theorem dL_isPassed_1 : decode cL_isPassed 1 = .ok (.iload_n 2, 1) := by decide +kernel
theorem dL_isPassed_2 : decode cL_isPassed 2 = .ok (.iconst 2, 1) := by decide +kernel
theorem dL_isPassed_3 : decode cL_isPassed 3 = .ok (.invokevirtual 45, 3) := by decide +kernel
theorem dL_isPassed_6 : decode cL_isPassed 6 = .ok (.istore 4, 2) := by decide +kernel
theorem dL_isPassed_8 : decode cL_isPassed 8 = .ok (.aload_n 0, 1) := by decide +kernel
theorem dL_isPassed_9 : decode cL_isPassed 9 = .ok (.iload_n 2, 1) := by decide +kernel
theorem dL_isPassed_10 : decode cL_isPassed 10 = .ok (.iconst 4, 1) := by decide +kernel
theorem dL_isPassed_11 : decode cL_isPassed 11 = .ok (.invokevirtual 45, 3) := by decide +kernel
theorem dL_isPassed_14 : decode cL_isPassed 14 = .ok (.iconst (-1), 1) := by decide +kernel
theorem dL_isPassed_15 : decode cL_isPassed 15 = .ok (.if_icmp .eq 7, 3) := by decide +kernel
theorem dL_isPassed_18 : decode cL_isPassed 18 = .ok (.iconst 1, 1) := by decide +kernel
theorem dL_isPassed_19 : decode cL_isPassed 19 = .ok (.goto 4, 3) := by decide +kernel
theorem dL_isPassed_22 : decode cL_isPassed 22 = .ok (.iconst 0, 1) := by decide +kernel
theorem dL_isPassed_23 : decode cL_isPassed 23 = .ok (.istore 5, 2) := by decide +kernel
theorem dL_isPassed_25 : decode cL_isPassed 25 = .ok (.aload_n 0, 1) := by decide +kernel
theorem dL_isPassed_26 : decode cL_isPassed 26 = .ok (.iload_n 3, 1) := by decide +kernel
theorem dL_isPassed_27 : decode cL_isPassed 27 = .ok (.invokevirtual 98, 3) := by decide +kernel
theorem dL_isPassed_30 : decode cL_isPassed 30 = .ok (.istore 6, 2) := by decide +kernel
theorem dL_isPassed_32 : decode cL_isPassed 32 = .ok (.iconst 0, 1) := by decide +kernel
theorem dL_isPassed_33 : decode cL_isPassed 33 = .ok (.istore 7, 2) := by decide +kernel
theorem dL_isPassed_35 : decode cL_isPassed 35 = .ok (.iconst 0, 1) := by decide +kernel
theorem dL_isPassed_36 : decode cL_isPassed 36 = .ok (.istore 8, 2) := by decide +kernel
theorem dL_isPassed_38 : decode cL_isPassed 38 = .ok (.iload 8, 2) := by decide +kernel
theorem dL_isPassed_40 : decode cL_isPassed 40 = .ok (.aload_n 1, 1) := by decide +kernel
theorem dL_isPassed_41 : decode cL_isPassed 41 = .ok (.iconst 0, 1) := by decide +kernel
theorem dL_isPassed_42 : decode cL_isPassed 42 = .ok (.iaload, 1) := by decide +kernel
theorem dL_isPassed_43 : decode cL_isPassed 43 = .ok (.if_icmp .ge 29, 3) := by decide +kernel
theorem dL_isPassed_46 : decode cL_isPassed 46 = .ok (.iload 7, 2) := by decide +kernel
theorem dL_isPassed_48 : decode cL_isPassed 48 = .ok (.aload_n 0, 1) := by decide +kernel
theorem dL_isPassed_49 : decode cL_isPassed 49 = .ok (.iload 8, 2) := by decide +kernel
theorem dL_isPassed_51 : decode cL_isPassed 51 = .ok (.iconst 2, 1) := by decide +kernel
theorem dL_isPassed_52 : decode cL_isPassed 52 = .ok (.invokevirtual 45, 3) := by decide +kernel
theorem dL_isPassed_55 : decode cL_isPassed 55 = .ok (.ifCond .le 7, 3) := by decide +kernel
theorem dL_isPassed_58 : decode cL_isPassed 58 = .ok (.iconst 1, 1) := by decide +kernel
theorem dL_isPassed_59 : decode cL_isPassed 59 = .ok (.goto 4, 3) := by decide +kernel
theorem dL_isPassed_62 : decode cL_isPassed 62 = .ok (.iconst 0, 1) := by decide +kernel
theorem dL_isPassed_63 : decode cL_isPassed 63 = .ok (.iadd, 1) := by decide +kernel
theorem dL_isPassed_64 : decode cL_isPassed 64 = .ok (.istore 7, 2) := by decide +kernel
theorem dL_isPassed_66 : decode cL_isPassed 66 = .ok (.iinc 8 1, 3) := by decide +kernel
theorem dL_isPassed_69 : decode cL_isPassed 69 = .ok (.goto (-31), 3) := by decide +kernel
theorem dL_isPassed_72 : decode cL_isPassed 72 = .ok (.iload 6, 2) := by decide +kernel
theorem dL_isPassed_74 : decode cL_isPassed 74 = .ok (.iload 7, 2) := by decide +kernel
theorem dL_isPassed_76 : decode cL_isPassed 76 = .ok (.if_icmp .ne 47, 3) := by decide +kernel
theorem dL_isPassed_79 : decode cL_isPassed 79 = .ok (.aload_n 0, 1) := by decide +kernel
theorem dL_isPassed_80 : decode cL_isPassed 80 = .ok (.iload_n 2, 1) := by decide +kernel
theorem dL_isPassed_81 : decode cL_isPassed 81 = .ok (.iconst 2, 1) := by decide +kernel
theorem dL_isPassed_82 : decode cL_isPassed 82 = .ok (.invokevirtual 45, 3) := by decide +kernel
theorem dL_isPassed_85 : decode cL_isPassed 85 = .ok (.iload 5, 2) := by decide +kernel
theorem dL_isPassed_87 : decode cL_isPassed 87 = .ok (.ifCond .eq 15, 3) := by decide +kernel
theorem dL_isPassed_90 : decode cL_isPassed 90 = .ok (.aload_n 1, 1) := by decide +kernel
theorem dL_isPassed_91 : decode cL_isPassed 91 = .ok (.iconst 2, 1) := by decide +kernel
theorem dL_isPassed_92 : decode cL_isPassed 92 = .ok (.iaload, 1) := by decide +kernel
theorem dL_isPassed_93 : decode cL_isPassed 93 = .ok (.iconst 1, 1) := by decide +kernel
theorem dL_isPassed_94 : decode cL_isPassed 94 = .ok (.if_icmp .ne 8, 3) := by decide +kernel
theorem dL_isPassed_97 : decode cL_isPassed 97 = .ok (.bipush 6, 2) := by decide +kernel
theorem dL_isPassed_99 : decode cL_isPassed 99 = .ok (.goto 17, 3) := by decide +kernel
theorem dL_isPassed_102 : decode cL_isPassed 102 = .ok (.iload 4, 2) := by decide +kernel
theorem dL_isPassed_104 : decode cL_isPassed 104 = .ok (.iload_n 3, 1) := by decide +kernel
theorem dL_isPassed_105 : decode cL_isPassed 105 = .ok (.if_icmp .le 10, 3) := by decide +kernel
theorem dL_isPassed_108 : decode cL_isPassed 108 = .ok (.iload 4, 2) := by decide +kernel
theorem dL_isPassed_110 : decode cL_isPassed 110 = .ok (.iload_n 3, 1) := by decide +kernel
theorem dL_isPassed_111 : decode cL_isPassed 111 = .ok (.isub, 1) := by decide +kernel
theorem dL_isPassed_112 : decode cL_isPassed 112 = .ok (.goto 4, 3) := by decide +kernel
theorem dL_isPassed_115 : decode cL_isPassed 115 = .ok (.iconst 0, 1) := by decide +kernel
theorem dL_isPassed_116 : decode cL_isPassed 116 = .ok (.if_icmp .ne 7, 3) := by decide +kernel
theorem dL_isPassed_119 : decode cL_isPassed 119 = .ok (.iconst 1, 1) := by decide +kernel
theorem dL_isPassed_120 : decode cL_isPassed 120 = .ok (.goto 4, 3) := by decide +kernel
theorem dL_isPassed_123 : decode cL_isPassed 123 = .ok (.iconst 0, 1) := by decide +kernel
theorem dL_isPassed_124 : decode cL_isPassed 124 = .ok (.ireturn, 1) := by decide +kernel
set_option maxRecDepth 20000 in
theorem ggL_isBlown_L_flying : GoodIn wsL_isBlown wsL_flying := goodIn_ca (goodIn_ca (goodIn_r _ [4, 5, 6, 7, 8, 9, 10, 11, 12, 13, 14, 15, 16, 17, 18, 19, 20, 21, 22, 23, 24, 25, 26, 27, 28, 29, 30, 31, 32, 33, 34, 35, 36, 37, 38, 39, 40, 41, 42, 43, 44, 45, 46, 47, 48, 49, 50, 51, 52, 53, 54, 99, 100, 101, 102, 103, 104, 105, 106, 107, 108, 109, 110, 111, 112, 113, 114, 115, 116] (by decide +kernel) (by decide +kernel)) (goodIn_sub (fun _ h => List.mem_cons_of_mem _ (List.mem_append_left _ (List.mem_append_right _ h))) (by decide +kernel))) (goodIn_sub (fun _ h => List.mem_cons_of_mem _ (List.mem_append_right _ h)) (by decide +kernel))
set_option maxRecDepth 20000 in
theorem gL_isBlown_L_flying : GoodIn wsL_isBlown (va_wsS RL 101 yL_flying wsL_flying) := goodIn_app (goodIn_of _ (by decide +kernel)) ggL_isBlown_L_flying
set_option maxRecDepth 20000 in
theorem ggL_isBlown_L_torn : GoodIn wsL_isBlown wsL_torn := goodIn_ca (goodIn_ca (goodIn_r _ [57, 5, 6, 7, 8, 9, 10, 11, 12, 13, 14, 15, 16, 17, 18, 19, 20, 21, 22, 23, 24, 25, 26, 27, 28, 29, 30, 31, 32, 33, 34, 35, 36, 37, 38, 39, 40, 41, 42, 43, 44, 45, 46, 47, 48, 49, 50, 51, 52, 53, 54, 99, 100, 101, 102, 103, 104, 105, 106, 107, 108, 109, 110, 111, 112, 113, 114, 115, 116] (by decide +kernel) (by decide +kernel)) (goodIn_sub (fun _ h => List.mem_cons_of_mem _ (List.mem_append_left _ (List.mem_append_right _ h))) (by decide +kernel))) (goodIn_sub (fun _ h => List.mem_cons_of_mem _ (List.mem_append_right _ h)) (by decide +kernel))
set_option maxRecDepth 20000 in
theorem gL_isBlown_L_torn : GoodIn wsL_isBlown (va_wsS RL 105 yL_torn wsL_torn) := goodIn_app (goodIn_of _ (by decide +kernel)) ggL_isBlown_L_torn
set_option maxRecDepth 20000 in
theorem ggL_isBlown_X2_called : GoodIn wsL_isBlown wsX2_called := goodIn_r _ [61, 62, 108, 109, 110, 111, 112, 113, 114, 115, 116] (by decide +kernel) (by decide +kernel)
set_option maxRecDepth 20000 in
theorem gL_isBlown_X2_called : GoodIn wsL_isBlown (wsV RL 71 RX2 yX2_called wsX2_called) := goodIn_app (goodIn_of _ (by decide +kernel)) ggL_isBlown_X2_called
set_option maxRecDepth 20000 in
theorem ggL_isBlown_X2_wind : GoodIn wsL_isBlown wsX2_wind := goodIn_ca (goodIn_r _ [66, 10, 11, 17, 18, 62, 67, 68, 8, 69, 26, 27, 28, 70, 71, 72, 73, 74, 13, 75, 76, 77, 32, 78, 44, 45, 46, 47, 48, 49, 50, 51, 52, 53, 54, 79, 80, 81, 82, 83, 84, 85, 86, 87, 16, 88, 89, 90, 91, 92, 93, 94, 95, 96, 97, 98, 35, 36, 37, 38, 34, 39, 40, 41, 42, 43, 108, 109, 110, 111, 112, 113, 114, 115, 116, 99, 100, 101, 102, 103, 104, 105, 106, 107] (by decide +kernel) (by decide +kernel)) (goodIn_sub (fun _ h => List.mem_cons_of_mem _ (List.mem_append_left _ (List.mem_append_right _ h))) (by decide +kernel))
set_option maxRecDepth 20000 in
theorem gL_isBlown_X2_wind : GoodIn wsL_isBlown (wsV RL 108 RX2 yX2_wind wsX2_wind) := goodIn_app (goodIn_of _ (by decide +kernel)) ggL_isBlown_X2_wind
theorem dL_isBlown_0 : decode cL_isBlown 0 = .ok (.aload_n 0, 1) := by decide +kernel
theorem dL_isBlown_1 : decode cL_isBlown 1 = .ok (.aload_n 1, 1) := by decide +kernel
theorem dL_isBlown_2 : decode cL_isBlown 2 = .ok (.invokestatic 101, 3) := by decide +kernel
theorem dL_isBlown_5 : decode cL_isBlown 5 = .ok (.istore 4, 2) := by decide +kernel
theorem dL_isBlown_7 : decode cL_isBlown 7 = .ok (.aload_n 0, 1) := by decide +kernel
theorem dL_isBlown_8 : decode cL_isBlown 8 = .ok (.aload_n 1, 1) := by decide +kernel
theorem dL_isBlown_9 : decode cL_isBlown 9 = .ok (.invokestatic 105, 3) := by decide +kernel
theorem dL_isBlown_12 : decode cL_isBlown 12 = .ok (.istore 5, 2) := by decide +kernel
theorem dL_isBlown_14 : decode cL_isBlown 14 = .ok (.aload_n 0, 1) := by decide +kernel
theorem dL_isBlown_15 : decode cL_isBlown 15 = .ok (.invokevirtual 71, 3) := by decide +kernel
theorem dL_isBlown_18 : decode cL_isBlown 18 = .ok (.istore 6, 2) := by decide +kernel
theorem dL_isBlown_20 : decode cL_isBlown 20 = .ok (.aload_n 0, 1) := by decide +kernel
theorem dL_isBlown_21 : decode cL_isBlown 21 = .ok (.iload_n 2, 1) := by decide +kernel
theorem dL_isBlown_22 : decode cL_isBlown 22 = .ok (.iload_n 3, 1) := by decide +kernel
theorem dL_isBlown_23 : decode cL_isBlown 23 = .ok (.invokevirtual 108, 3) := by decide +kernel
theorem dL_isBlown_26 : decode cL_isBlown 26 = .ok (.istore 7, 2) := by decide +kernel
theorem dL_isBlown_28 : decode cL_isBlown 28 = .ok (.aload_n 1, 1) := by decide +kernel
theorem dL_isBlown_29 : decode cL_isBlown 29 = .ok (.iconst 3, 1) := by decide +kernel
theorem dL_isBlown_30 : decode cL_isBlown 30 = .ok (.iload_n 2, 1) := by decide +kernel
theorem dL_isBlown_31 : decode cL_isBlown 31 = .ok (.iastore, 1) := by decide +kernel
theorem dL_isBlown_32 : decode cL_isBlown 32 = .ok (.iload 7, 2) := by decide +kernel
theorem dL_isBlown_34 : decode cL_isBlown 34 = .ok (.iload 4, 2) := by decide +kernel
theorem dL_isBlown_36 : decode cL_isBlown 36 = .ok (.aload_n 0, 1) := by decide +kernel
theorem dL_isBlown_37 : decode cL_isBlown 37 = .ok (.aload_n 1, 1) := by decide +kernel
theorem dL_isBlown_38 : decode cL_isBlown 38 = .ok (.invokestatic 101, 3) := by decide +kernel
theorem dL_isBlown_41 : decode cL_isBlown 41 = .ok (.isub, 1) := by decide +kernel
theorem dL_isBlown_42 : decode cL_isBlown 42 = .ok (.if_icmp .ne 42, 3) := by decide +kernel
theorem dL_isBlown_45 : decode cL_isBlown 45 = .ok (.aload_n 0, 1) := by decide +kernel
theorem dL_isBlown_46 : decode cL_isBlown 46 = .ok (.invokevirtual 71, 3) := by decide +kernel
theorem dL_isBlown_49 : decode cL_isBlown 49 = .ok (.iload 6, 2) := by decide +kernel
theorem dL_isBlown_51 : decode cL_isBlown 51 = .ok (.iload 7, 2) := by decide +kernel
theorem dL_isBlown_53 : decode cL_isBlown 53 = .ok (.iadd, 1) := by decide +kernel
theorem dL_isBlown_54 : decode cL_isBlown 54 = .ok (.if_icmp .ne 30, 3) := by decide +kernel
theorem dL_isBlown_57 : decode cL_isBlown 57 = .ok (.aload_n 0, 1) := by decide +kernel
theorem dL_isBlown_58 : decode cL_isBlown 58 = .ok (.aload_n 1, 1) := by decide +kernel
theorem dL_isBlown_59 : decode cL_isBlown 59 = .ok (.invokestatic 105, 3) := by decide +kernel
theorem dL_isBlown_62 : decode cL_isBlown 62 = .ok (.iload 5, 2) := by decide +kernel
theorem dL_isBlown_64 : decode cL_isBlown 64 = .ok (.isub, 1) := by decide +kernel
theorem dL_isBlown_65 : decode cL_isBlown 65 = .ok (.iload 7, 2) := by decide +kernel
theorem dL_isBlown_67 : decode cL_isBlown 67 = .ok (.if_icmp .gt 17, 3) := by decide +kernel
theorem dL_isBlown_70 : decode cL_isBlown 70 = .ok (.aload_n 0, 1) := by decide +kernel
theorem dL_isBlown_71 : decode cL_isBlown 71 = .ok (.aload_n 1, 1) := by decide +kernel
theorem dL_isBlown_72 : decode cL_isBlown 72 = .ok (.invokestatic 105, 3) := by decide +kernel
theorem dL_isBlown_75 : decode cL_isBlown 75 = .ok (.iload 5, 2) := by decide +kernel
theorem dL_isBlown_77 : decode cL_isBlown 77 = .ok (.if_icmp .lt 7, 3) := by decide +kernel
theorem dL_isBlown_80 : decode cL_isBlown 80 = .ok (.iconst 1, 1) := by decide +kernel
theorem dL_isBlown_81 : decode cL_isBlown 81 = .ok (.goto 4, 3) := by decide +kernel
theorem dL_isBlown_84 : decode cL_isBlown 84 = .ok (.iconst 0, 1) := by decide +kernel
theorem dL_isBlown_85 : decode cL_isBlown 85 = .ok (.ireturn, 1) := by decide +kernel
set_option maxRecDepth 20000 in
theorem ggL_flying_X2_about : GoodIn wsL_flying wsX2_about := goodIn_ca (goodIn_ca (goodIn_r _ [5, 6, 7, 8, 9, 10, 11, 12, 13, 14, 15, 16, 17, 4, 18, 19, 20, 21, 22, 23, 24, 25, 26, 27, 28, 29, 30, 31, 32, 33, 34, 35, 36, 37, 38, 39, 40, 41, 42, 43, 44, 45, 46, 47, 48, 49, 50, 51, 52, 53, 54, 55, 56, 57, 58, 59, 60, 61, 62, 63, 64, 65, 66, 67, 68] (by decide +kernel) (by decide +kernel)) (goodIn_sub (fun _ h => List.mem_cons_of_mem _ (List.mem_append_left _ (List.mem_append_right _ h))) (by decide +kernel))) (goodIn_sub (fun _ h => List.mem_cons_of_mem _ (List.mem_append_right _ h)) (by decide +kernel))
set_option maxRecDepth 20000 in
theorem gL_flying_X2_about : GoodIn wsL_flying (wsV RL 45 RX2 yX2_about wsX2_about) := goodIn_app (goodIn_of _ (by decide +kernel)) ggL_flying_X2_about
theorem dL_flying_0 : decode cL_flying 0 = .ok (.iconst 0, 1) := by decide +kernel
theorem dL_flying_1 : decode cL_flying 1 = .ok (.istore_n 2, 1) := by decide +kernel
theorem dL_flying_2 : decode cL_flying 2 = .ok (.iconst 0, 1) := by decide +kernel
theorem dL_flying_3 : decode cL_flying 3 = .ok (.istore_n 3, 1) := by decide +kernel
theorem dL_flying_4 : decode cL_flying 4 = .ok (.iload_n 3, 1) := by decide +kernel
theorem dL_flying_5 : decode cL_flying 5 = .ok (.aload_n 1, 1) := by decide +kernel
theorem dL_flying_6 : decode cL_flying 6 = .ok (.iconst 0, 1) := by decide +kernel
theorem dL_flying_7 : decode cL_flying 7 = .ok (.iaload, 1) := by decide +kernel
theorem dL_flying_8 : decode cL_flying 8 = .ok (.if_icmp .ge 27, 3) := by decide +kernel
theorem dL_flying_11 : decode cL_flying 11 = .ok (.iload_n 2, 1) := by decide +kernel
theorem dL_flying_12 : decode cL_flying 12 = .ok (.aload_n 0, 1) := by decide +kernel
theorem dL_flying_13 : decode cL_flying 13 = .ok (.iload_n 3, 1) := by decide +kernel
theorem dL_flying_14 : decode cL_flying 14 = .ok (.iconst 4, 1) := by decide +kernel
theorem dL_flying_15 : decode cL_flying 15 = .ok (.invokevirtual 45, 3) := by decide +kernel
theorem dL_flying_18 : decode cL_flying 18 = .ok (.iconst (-1), 1) := by decide +kernel
theorem dL_flying_19 : decode cL_flying 19 = .ok (.if_icmp .ne 7, 3) := by decide +kernel
theorem dL_flying_22 : decode cL_flying 22 = .ok (.iconst 0, 1) := by decide +kernel
theorem dL_flying_23 : decode cL_flying 23 = .ok (.goto 4, 3) := by decide +kernel
theorem dL_flying_26 : decode cL_flying 26 = .ok (.iconst 1, 1) := by decide +kernel
theorem dL_flying_27 : decode cL_flying 27 = .ok (.iadd, 1) := by decide +kernel
theorem dL_flying_28 : decode cL_flying 28 = .ok (.istore_n 2, 1) := by decide +kernel
theorem dL_flying_29 : decode cL_flying 29 = .ok (.iinc 3 1, 3) := by decide +kernel
theorem dL_flying_32 : decode cL_flying 32 = .ok (.goto (-28), 3) := by decide +kernel
theorem dL_flying_35 : decode cL_flying 35 = .ok (.iload_n 2, 1) := by decide +kernel
theorem dL_flying_36 : decode cL_flying 36 = .ok (.ireturn, 1) := by decide +kernel
set_option maxRecDepth 20000 in
theorem ggL_torn_X2_about : GoodIn wsL_torn wsX2_about := goodIn_ca (goodIn_ca (goodIn_r _ [5, 6, 7, 8, 9, 10, 11, 12, 13, 14, 15, 16, 17, 4, 18, 19, 20, 21, 22, 23, 24, 25, 26, 27, 28, 29, 30, 31, 32, 33, 34, 35, 36, 37, 38, 39, 40, 41, 42, 43, 44, 45, 46, 47, 48, 49, 50, 51, 52, 53, 54, 55, 56, 57, 58, 59, 60, 61, 62, 63, 64, 65, 66, 67, 68] (by decide +kernel) (by decide +kernel)) (goodIn_sub (fun _ h => List.mem_cons_of_mem _ (List.mem_append_left _ (List.mem_append_right _ h))) (by decide +kernel))) (goodIn_sub (fun _ h => List.mem_cons_of_mem _ (List.mem_append_right _ h)) (by decide +kernel))
set_option maxRecDepth 20000 in
theorem gL_torn_X2_about : GoodIn wsL_torn (wsV RL 45 RX2 yX2_about wsX2_about) := goodIn_app (goodIn_of _ (by decide +kernel)) ggL_torn_X2_about
theorem dL_torn_0 : decode cL_torn 0 = .ok (.iconst 0, 1) := by decide +kernel
theorem dL_torn_1 : decode cL_torn 1 = .ok (.istore_n 2, 1) := by decide +kernel
theorem dL_torn_2 : decode cL_torn 2 = .ok (.iconst 0, 1) := by decide +kernel
theorem dL_torn_3 : decode cL_torn 3 = .ok (.istore_n 3, 1) := by decide +kernel
theorem dL_torn_4 : decode cL_torn 4 = .ok (.iload_n 3, 1) := by decide +kernel
theorem dL_torn_5 : decode cL_torn 5 = .ok (.aload_n 1, 1) := by decide +kernel
theorem dL_torn_6 : decode cL_torn 6 = .ok (.iconst 0, 1) := by decide +kernel
theorem dL_torn_7 : decode cL_torn 7 = .ok (.iaload, 1) := by decide +kernel
theorem dL_torn_8 : decode cL_torn 8 = .ok (.if_icmp .ge 18, 3) := by decide +kernel
theorem dL_torn_11 : decode cL_torn 11 = .ok (.iload_n 2, 1) := by decide +kernel
theorem dL_torn_12 : decode cL_torn 12 = .ok (.aload_n 0, 1) := by decide +kernel
theorem dL_torn_13 : decode cL_torn 13 = .ok (.iload_n 3, 1) := by decide +kernel
theorem dL_torn_14 : decode cL_torn 14 = .ok (.iconst 1, 1) := by decide +kernel
theorem dL_torn_15 : decode cL_torn 15 = .ok (.invokevirtual 45, 3) := by decide +kernel
theorem dL_torn_18 : decode cL_torn 18 = .ok (.iadd, 1) := by decide +kernel
theorem dL_torn_19 : decode cL_torn 19 = .ok (.istore_n 2, 1) := by decide +kernel
theorem dL_torn_20 : decode cL_torn 20 = .ok (.iinc 3 1, 3) := by decide +kernel
theorem dL_torn_23 : decode cL_torn 23 = .ok (.goto (-19), 3) := by decide +kernel
theorem dL_torn_26 : decode cL_torn 26 = .ok (.iload_n 2, 1) := by decide +kernel
theorem dL_torn_27 : decode cL_torn 27 = .ok (.ireturn, 1) := by decide +kernel
set_option maxRecDepth 20000 in
theorem ggL_isWhole_X2_lane : GoodIn wsL_isWhole wsX2_lane := goodIn_ca (goodIn_r _ [6, 7, 8, 9, 10, 11, 12, 5, 13, 14, 15, 16, 89, 90, 91, 92, 93, 94, 95, 96, 97, 98, 99, 100, 101, 102, 103, 104, 105, 106] (by decide +kernel) (by decide +kernel)) (goodIn_sub (fun _ h => List.mem_cons_of_mem _ (List.mem_append_left _ (List.mem_append_right _ h))) (by decide +kernel))
set_option maxRecDepth 20000 in
theorem gL_isWhole_X2_lane : GoodIn wsL_isWhole (wsV RL 92 RX2 yX2_lane wsX2_lane) := goodIn_app (goodIn_of _ (by decide +kernel)) ggL_isWhole_X2_lane
set_option maxRecDepth 20000 in
theorem ggL_isWhole_X2_pull : GoodIn wsL_isWhole wsX2_pull := goodIn_ca (goodIn_ca (goodIn_r _ [20, 21, 22, 23, 24, 25, 5, 26, 7, 8, 27, 14, 15, 16, 28, 29, 30, 31, 32, 33, 34, 35, 36, 37, 38, 39, 40, 41, 42, 89, 90, 91, 92, 93, 94, 95, 96, 97, 98, 99, 100, 101, 102, 103, 104, 105, 106] (by decide +kernel) (by decide +kernel)) (goodIn_sub (fun _ h => List.mem_cons_of_mem _ (List.mem_append_right _ h)) (by decide +kernel))) (goodIn_sub (fun _ h => List.mem_cons_of_mem _ (List.mem_append_left _ (List.mem_append_right _ h))) (by decide +kernel))
set_option maxRecDepth 20000 in
theorem gL_isWhole_X2_pull : GoodIn wsL_isWhole (wsV RL 49 RX2 yX2_pull wsX2_pull) := goodIn_app (goodIn_of _ (by decide +kernel)) ggL_isWhole_X2_pull
set_option maxRecDepth 20000 in
theorem ggL_isWhole_X2_about : GoodIn wsL_isWhole wsX2_about := goodIn_ca (goodIn_ca (goodIn_r _ [46, 21, 22, 47, 48, 49, 50, 51, 52, 53, 23, 24, 25, 5, 26, 7, 8, 27, 14, 15, 16, 54, 55, 56, 34, 57, 58, 59, 60, 61, 62, 63, 64, 65, 66, 67, 68, 32, 33, 35, 36, 37, 38, 39, 40, 41, 42, 98, 99, 100, 101, 102, 103, 104, 105, 106, 89, 90, 91, 92, 93, 94, 95, 96, 97] (by decide +kernel) (by decide +kernel)) (goodIn_sub (fun _ h => List.mem_cons_of_mem _ (List.mem_append_right _ h)) (by decide +kernel))) (goodIn_sub (fun _ h => List.mem_cons_of_mem _ (List.mem_append_left _ (List.mem_append_right _ h))) (by decide +kernel))
set_option maxRecDepth 20000 in
theorem gL_isWhole_X2_about : GoodIn wsL_isWhole (wsV RL 45 RX2 yX2_about wsX2_about) := goodIn_app (goodIn_of _ (by decide +kernel)) ggL_isWhole_X2_about
set_option maxRecDepth 20000 in
theorem ggL_isWhole_X2_pullAnew : GoodIn wsL_isWhole wsX2_pullAnew := goodIn_ca (goodIn_ca (goodIn_r _ [72, 21, 22, 23, 24, 25, 5, 26, 7, 8, 27, 14, 15, 16, 28, 29, 30, 73, 74, 75, 34, 76, 36, 77, 78, 79, 80, 41, 42, 89, 90, 91, 92, 93, 94, 95, 96, 97, 98, 99, 100, 101, 102, 103, 104, 105, 106] (by decide +kernel) (by decide +kernel)) (goodIn_sub (fun _ h => List.mem_cons_of_mem _ (List.mem_append_right _ h)) (by decide +kernel))) (goodIn_sub (fun _ h => List.mem_cons_of_mem _ (List.mem_append_left _ (List.mem_append_right _ h))) (by decide +kernel))
set_option maxRecDepth 20000 in
theorem gL_isWhole_X2_pullAnew : GoodIn wsL_isWhole (wsV RL 112 RX2 yX2_pullAnew wsX2_pullAnew) := goodIn_app (goodIn_of _ (by decide +kernel)) ggL_isWhole_X2_pullAnew
set_option maxRecDepth 20000 in
theorem ggL_isWhole_X2_window : GoodIn wsL_isWhole wsX2_window := goodIn_ca (goodIn_r _ [84, 23, 24, 25, 5, 26, 7, 8, 27, 14, 15, 16, 85, 86, 87, 34, 88, 68, 32, 33, 35, 36, 37, 38, 39, 40, 41, 42, 89, 90, 91, 92, 93, 94, 95, 96, 97, 98, 99, 100, 101, 102, 103, 104, 105, 106] (by decide +kernel) (by decide +kernel)) (goodIn_sub (fun _ h => List.mem_cons_of_mem _ (List.mem_append_left _ (List.mem_append_right _ h))) (by decide +kernel))
set_option maxRecDepth 20000 in
theorem gL_isWhole_X2_window : GoodIn wsL_isWhole (wsV RL 115 RX2 yX2_window wsX2_window) := goodIn_app (goodIn_of _ (by decide +kernel)) ggL_isWhole_X2_window
