theorem dL_isWhole_0 : decode cL_isWhole 0 = .ok (.iconst 1, 1) := by decide +kernel
theorem dL_isWhole_1 : decode cL_isWhole 1 = .ok (.istore_n 3, 1) := by decide +kernel
theorem dL_isWhole_2 : decode cL_isWhole 2 = .ok (.ldc 111, 2) := by decide +kernel
theorem dL_isWhole_4 : decode cL_isWhole 4 = .ok (.istore 4, 2) := by decide +kernel
theorem dL_isWhole_6 : decode cL_isWhole 6 = .ok (.iconst 0, 1) := by decide +kernel
theorem dL_isWhole_7 : decode cL_isWhole 7 = .ok (.istore 5, 2) := by decide +kernel
theorem dL_isWhole_9 : decode cL_isWhole 9 = .ok (.iconst 0, 1) := by decide +kernel
theorem dL_isWhole_10 : decode cL_isWhole 10 = .ok (.istore 6, 2) := by decide +kernel
theorem dL_isWhole_12 : decode cL_isWhole 12 = .ok (.iload 6, 2) := by decide +kernel
theorem dL_isWhole_14 : decode cL_isWhole 14 = .ok (.bipush 10, 2) := by decide +kernel
theorem dL_isWhole_16 : decode cL_isWhole 16 = .ok (.if_icmp .ge 113, 3) := by decide +kernel
theorem dL_isWhole_19 : decode cL_isWhole 19 = .ok (.iload_n 3, 1) := by decide +kernel
theorem dL_isWhole_20 : decode cL_isWhole 20 = .ok (.ifCond .eq 109, 3) := by decide +kernel
theorem dL_isWhole_23 : decode cL_isWhole 23 = .ok (.aload_n 0, 1) := by decide +kernel
theorem dL_isWhole_24 : decode cL_isWhole 24 = .ok (.iload 6, 2) := by decide +kernel
theorem dL_isWhole_26 : decode cL_isWhole 26 = .ok (.invokevirtual 92, 3) := by decide +kernel
theorem dL_isWhole_29 : decode cL_isWhole 29 = .ok (.istore 7, 2) := by decide +kernel
theorem dL_isWhole_31 : decode cL_isWhole 31 = .ok (.iload 7, 2) := by decide +kernel
theorem dL_isWhole_33 : decode cL_isWhole 33 = .ok (.iconst (-1), 1) := by decide +kernel
theorem dL_isWhole_34 : decode cL_isWhole 34 = .ok (.if_icmp .eq 89, 3) := by decide +kernel
theorem dL_isWhole_37 : decode cL_isWhole 37 = .ok (.aload_n 0, 1) := by decide +kernel
theorem dL_isWhole_38 : decode cL_isWhole 38 = .ok (.iload 7, 2) := by decide +kernel
theorem dL_isWhole_40 : decode cL_isWhole 40 = .ok (.aload_n 1, 1) := by decide +kernel
theorem dL_isWhole_41 : decode cL_isWhole 41 = .ok (.iconst 3, 1) := by decide +kernel
theorem dL_isWhole_42 : decode cL_isWhole 42 = .ok (.iaload, 1) := by decide +kernel
theorem dL_isWhole_43 : decode cL_isWhole 43 = .ok (.invokevirtual 49, 3) := by decide +kernel
theorem dL_isWhole_46 : decode cL_isWhole 46 = .ok (.istore 8, 2) := by decide +kernel
theorem dL_isWhole_48 : decode cL_isWhole 48 = .ok (.aload_n 0, 1) := by decide +kernel
theorem dL_isWhole_49 : decode cL_isWhole 49 = .ok (.iload 7, 2) := by decide +kernel
theorem dL_isWhole_51 : decode cL_isWhole 51 = .ok (.iconst 4, 1) := by decide +kernel
theorem dL_isWhole_52 : decode cL_isWhole 52 = .ok (.invokevirtual 45, 3) := by decide +kernel
theorem dL_isWhole_55 : decode cL_isWhole 55 = .ok (.iload 6, 2) := by decide +kernel
theorem dL_isWhole_57 : decode cL_isWhole 57 = .ok (.if_icmp .ne 55, 3) := by decide +kernel
theorem dL_isWhole_60 : decode cL_isWhole 60 = .ok (.aload_n 0, 1) := by decide +kernel
theorem dL_isWhole_61 : decode cL_isWhole 61 = .ok (.iload 7, 2) := by decide +kernel
theorem dL_isWhole_63 : decode cL_isWhole 63 = .ok (.iconst 1, 1) := by decide +kernel
theorem dL_isWhole_64 : decode cL_isWhole 64 = .ok (.invokevirtual 45, 3) := by decide +kernel
theorem dL_isWhole_67 : decode cL_isWhole 67 = .ok (.ifCond .ne 45, 3) := by decide +kernel
theorem dL_isWhole_70 : decode cL_isWhole 70 = .ok (.aload_n 0, 1) := by decide +kernel
theorem dL_isWhole_71 : decode cL_isWhole 71 = .ok (.iload 7, 2) := by decide +kernel
theorem dL_isWhole_73 : decode cL_isWhole 73 = .ok (.iconst 3, 1) := by decide +kernel
theorem dL_isWhole_74 : decode cL_isWhole 74 = .ok (.invokevirtual 45, 3) := by decide +kernel
theorem dL_isWhole_77 : decode cL_isWhole 77 = .ok (.iconst (-1), 1) := by decide +kernel
theorem dL_isWhole_78 : decode cL_isWhole 78 = .ok (.if_icmp .eq 34, 3) := by decide +kernel
theorem dL_isWhole_81 : decode cL_isWhole 81 = .ok (.iload 8, 2) := by decide +kernel
theorem dL_isWhole_83 : decode cL_isWhole 83 = .ok (.bipush 100, 2) := by decide +kernel
theorem dL_isWhole_85 : decode cL_isWhole 85 = .ok (.if_icmp .lt 27, 3) := by decide +kernel
theorem dL_isWhole_88 : decode cL_isWhole 88 = .ok (.iload 8, 2) := by decide +kernel
theorem dL_isWhole_90 : decode cL_isWhole 90 = .ok (.sipush 6000, 3) := by decide +kernel
theorem dL_isWhole_93 : decode cL_isWhole 93 = .ok (.if_icmp .gt 19, 3) := by decide +kernel
theorem dL_isWhole_96 : decode cL_isWhole 96 = .ok (.aload_n 0, 1) := by decide +kernel
theorem dL_isWhole_97 : decode cL_isWhole 97 = .ok (.iload 7, 2) := by decide +kernel
theorem dL_isWhole_99 : decode cL_isWhole 99 = .ok (.iconst 5, 1) := by decide +kernel
theorem dL_isWhole_100 : decode cL_isWhole 100 = .ok (.invokevirtual 45, 3) := by decide +kernel
theorem dL_isWhole_103 : decode cL_isWhole 103 = .ok (.iload 4, 2) := by decide +kernel
theorem dL_isWhole_105 : decode cL_isWhole 105 = .ok (.if_icmp .le 7, 3) := by decide +kernel
theorem dL_isWhole_108 : decode cL_isWhole 108 = .ok (.iconst 1, 1) := by decide +kernel
theorem dL_isWhole_109 : decode cL_isWhole 109 = .ok (.goto 4, 3) := by decide +kernel
theorem dL_isWhole_112 : decode cL_isWhole 112 = .ok (.iconst 0, 1) := by decide +kernel
theorem dL_isWhole_113 : decode cL_isWhole 113 = .ok (.istore_n 3, 1) := by decide +kernel
theorem dL_isWhole_114 : decode cL_isWhole 114 = .ok (.aload_n 0, 1) := by decide +kernel
theorem dL_isWhole_115 : decode cL_isWhole 115 = .ok (.iload 7, 2) := by decide +kernel
theorem dL_isWhole_117 : decode cL_isWhole 117 = .ok (.iconst 5, 1) := by decide +kernel
theorem dL_isWhole_118 : decode cL_isWhole 118 = .ok (.invokevirtual 45, 3) := by decide +kernel
theorem dL_isWhole_121 : decode cL_isWhole 121 = .ok (.istore 4, 2) := by decide +kernel
theorem dL_isWhole_123 : decode cL_isWhole 123 = .ok (.iinc 6 1, 3) := by decide +kernel
theorem dL_isWhole_126 : decode cL_isWhole 126 = .ok (.goto (-114), 3) := by decide +kernel
theorem dL_isWhole_129 : decode cL_isWhole 129 = .ok (.iconst 0, 1) := by decide +kernel
theorem dL_isWhole_130 : decode cL_isWhole 130 = .ok (.istore 6, 2) := by decide +kernel
theorem dL_isWhole_132 : decode cL_isWhole 132 = .ok (.iload 6, 2) := by decide +kernel
theorem dL_isWhole_134 : decode cL_isWhole 134 = .ok (.aload_n 1, 1) := by decide +kernel
theorem dL_isWhole_135 : decode cL_isWhole 135 = .ok (.iconst 0, 1) := by decide +kernel
theorem dL_isWhole_136 : decode cL_isWhole 136 = .ok (.iaload, 1) := by decide +kernel
theorem dL_isWhole_137 : decode cL_isWhole 137 = .ok (.if_icmp .ge 270, 3) := by decide +kernel
theorem dL_isWhole_140 : decode cL_isWhole 140 = .ok (.iload_n 3, 1) := by decide +kernel
theorem dL_isWhole_141 : decode cL_isWhole 141 = .ok (.ifCond .eq 266, 3) := by decide +kernel
theorem dL_isWhole_144 : decode cL_isWhole 144 = .ok (.aload_n 0, 1) := by decide +kernel
theorem dL_isWhole_145 : decode cL_isWhole 145 = .ok (.iload 6, 2) := by decide +kernel
theorem dL_isWhole_147 : decode cL_isWhole 147 = .ok (.iconst 3, 1) := by decide +kernel
theorem dL_isWhole_148 : decode cL_isWhole 148 = .ok (.invokevirtual 45, 3) := by decide +kernel
theorem dL_isWhole_151 : decode cL_isWhole 151 = .ok (.istore 7, 2) := by decide +kernel
theorem dL_isWhole_153 : decode cL_isWhole 153 = .ok (.iload 7, 2) := by decide +kernel
theorem dL_isWhole_155 : decode cL_isWhole 155 = .ok (.iconst (-1), 1) := by decide +kernel
theorem dL_isWhole_156 : decode cL_isWhole 156 = .ok (.if_icmp .eq 13, 3) := by decide +kernel
theorem dL_isWhole_159 : decode cL_isWhole 159 = .ok (.iload 5, 2) := by decide +kernel
theorem dL_isWhole_161 : decode cL_isWhole 161 = .ok (.iload 7, 2) := by decide +kernel
theorem dL_isWhole_163 : decode cL_isWhole 163 = .ok (.ishr, 1) := by decide +kernel
theorem dL_isWhole_164 : decode cL_isWhole 164 = .ok (.iconst 1, 1) := by decide +kernel
theorem dL_isWhole_165 : decode cL_isWhole 165 = .ok (.iand, 1) := by decide +kernel
theorem dL_isWhole_166 : decode cL_isWhole 166 = .ok (.ifCond .ne 7, 3) := by decide +kernel
theorem dL_isWhole_169 : decode cL_isWhole 169 = .ok (.iconst 1, 1) := by decide +kernel
theorem dL_isWhole_170 : decode cL_isWhole 170 = .ok (.goto 4, 3) := by decide +kernel
theorem dL_isWhole_173 : decode cL_isWhole 173 = .ok (.iconst 0, 1) := by decide +kernel
theorem dL_isWhole_174 : decode cL_isWhole 174 = .ok (.istore_n 3, 1) := by decide +kernel
theorem dL_isWhole_175 : decode cL_isWhole 175 = .ok (.iload 5, 2) := by decide +kernel
theorem dL_isWhole_177 : decode cL_isWhole 177 = .ok (.iload 7, 2) := by decide +kernel
theorem dL_isWhole_179 : decode cL_isWhole 179 = .ok (.iconst (-1), 1) := by decide +kernel
theorem dL_isWhole_180 : decode cL_isWhole 180 = .ok (.if_icmp .ne 7, 3) := by decide +kernel
theorem dL_isWhole_183 : decode cL_isWhole 183 = .ok (.iconst 0, 1) := by decide +kernel
theorem dL_isWhole_184 : decode cL_isWhole 184 = .ok (.goto 7, 3) := by decide +kernel
theorem dL_isWhole_187 : decode cL_isWhole 187 = .ok (.iconst 1, 1) := by decide +kernel
theorem dL_isWhole_188 : decode cL_isWhole 188 = .ok (.iload 7, 2) := by decide +kernel
theorem dL_isWhole_190 : decode cL_isWhole 190 = .ok (.ishl, 1) := by decide +kernel
theorem dL_isWhole_191 : decode cL_isWhole 191 = .ok (.ior, 1) := by decide +kernel
theorem dL_isWhole_192 : decode cL_isWhole 192 = .ok (.istore 5, 2) := by decide +kernel
theorem dL_isWhole_194 : decode cL_isWhole 194 = .ok (.iload_n 3, 1) := by decide +kernel
theorem dL_isWhole_195 : decode cL_isWhole 195 = .ok (.ifCond .eq 84, 3) := by decide +kernel
theorem dL_isWhole_198 : decode cL_isWhole 198 = .ok (.aload_n 0, 1) := by decide +kernel
theorem dL_isWhole_199 : decode cL_isWhole 199 = .ok (.iload 6, 2) := by decide +kernel
theorem dL_isWhole_201 : decode cL_isWhole 201 = .ok (.iconst 2, 1) := by decide +kernel
theorem dL_isWhole_202 : decode cL_isWhole 202 = .ok (.invokevirtual 45, 3) := by decide +kernel
theorem dL_isWhole_205 : decode cL_isWhole 205 = .ok (.ifCond .lt 74, 3) := by decide +kernel
theorem dL_isWhole_208 : decode cL_isWhole 208 = .ok (.aload_n 0, 1) := by decide +kernel
theorem dL_isWhole_209 : decode cL_isWhole 209 = .ok (.iload 6, 2) := by decide +kernel
theorem dL_isWhole_211 : decode cL_isWhole 211 = .ok (.iconst 2, 1) := by decide +kernel
theorem dL_isWhole_212 : decode cL_isWhole 212 = .ok (.invokevirtual 45, 3) := by decide +kernel
theorem dL_isWhole_215 : decode cL_isWhole 215 = .ok (.bipush 6, 2) := by decide +kernel
theorem dL_isWhole_217 : decode cL_isWhole 217 = .ok (.if_icmp .gt 62, 3) := by decide +kernel
theorem dL_isWhole_220 : decode cL_isWhole 220 = .ok (.aload_n 0, 1) := by decide +kernel
theorem dL_isWhole_221 : decode cL_isWhole 221 = .ok (.iload 6, 2) := by decide +kernel
theorem dL_isWhole_223 : decode cL_isWhole 223 = .ok (.iload_n 2, 1) := by decide +kernel
theorem dL_isWhole_224 : decode cL_isWhole 224 = .ok (.bipush 31, 2) := by decide +kernel
theorem dL_isWhole_226 : decode cL_isWhole 226 = .ok (.irem, 1) := by decide +kernel
theorem dL_isWhole_227 : decode cL_isWhole 227 = .ok (.invokevirtual 112, 3) := by decide +kernel
theorem dL_isWhole_230 : decode cL_isWhole 230 = .ok (.aload_n 0, 1) := by decide +kernel
theorem dL_isWhole_231 : decode cL_isWhole 231 = .ok (.iload 6, 2) := by decide +kernel
theorem dL_isWhole_233 : decode cL_isWhole 233 = .ok (.iload_n 2, 1) := by decide +kernel
theorem dL_isWhole_234 : decode cL_isWhole 234 = .ok (.bipush 31, 2) := by decide +kernel
theorem dL_isWhole_236 : decode cL_isWhole 236 = .ok (.irem, 1) := by decide +kernel
theorem dL_isWhole_237 : decode cL_isWhole 237 = .ok (.invokevirtual 49, 3) := by decide +kernel
theorem dL_isWhole_240 : decode cL_isWhole 240 = .ok (.if_icmp .ne 39, 3) := by decide +kernel
theorem dL_isWhole_243 : decode cL_isWhole 243 = .ok (.iload_n 2, 1) := by decide +kernel
theorem dL_isWhole_244 : decode cL_isWhole 244 = .ok (.bipush 31, 2) := by decide +kernel
theorem dL_isWhole_246 : decode cL_isWhole 246 = .ok (.irem, 1) := by decide +kernel
theorem dL_isWhole_247 : decode cL_isWhole 247 = .ok (.ifCond .eq 28, 3) := by decide +kernel
theorem dL_isWhole_250 : decode cL_isWhole 250 = .ok (.aload_n 0, 1) := by decide +kernel
theorem dL_isWhole_251 : decode cL_isWhole 251 = .ok (.iload 6, 2) := by decide +kernel
theorem dL_isWhole_253 : decode cL_isWhole 253 = .ok (.iload_n 2, 1) := by decide +kernel
theorem dL_isWhole_254 : decode cL_isWhole 254 = .ok (.bipush 31, 2) := by decide +kernel
theorem dL_isWhole_256 : decode cL_isWhole 256 = .ok (.irem, 1) := by decide +kernel
theorem dL_isWhole_257 : decode cL_isWhole 257 = .ok (.invokevirtual 49, 3) := by decide +kernel
theorem dL_isWhole_260 : decode cL_isWhole 260 = .ok (.aload_n 0, 1) := by decide +kernel
theorem dL_isWhole_261 : decode cL_isWhole 261 = .ok (.iload 6, 2) := by decide +kernel
theorem dL_isWhole_263 : decode cL_isWhole 263 = .ok (.iload_n 2, 1) := by decide +kernel
theorem dL_isWhole_264 : decode cL_isWhole 264 = .ok (.bipush 31, 2) := by decide +kernel
theorem dL_isWhole_266 : decode cL_isWhole 266 = .ok (.irem, 1) := by decide +kernel
theorem dL_isWhole_267 : decode cL_isWhole 267 = .ok (.iconst 1, 1) := by decide +kernel
theorem dL_isWhole_268 : decode cL_isWhole 268 = .ok (.isub, 1) := by decide +kernel
theorem dL_isWhole_269 : decode cL_isWhole 269 = .ok (.invokevirtual 49, 3) := by decide +kernel
theorem dL_isWhole_272 : decode cL_isWhole 272 = .ok (.if_icmp .lt 7, 3) := by decide +kernel
theorem dL_isWhole_275 : decode cL_isWhole 275 = .ok (.iconst 1, 1) := by decide +kernel
theorem dL_isWhole_276 : decode cL_isWhole 276 = .ok (.goto 4, 3) := by decide +kernel
theorem dL_isWhole_279 : decode cL_isWhole 279 = .ok (.iconst 0, 1) := by decide +kernel
theorem dL_isWhole_280 : decode cL_isWhole 280 = .ok (.istore_n 3, 1) := by decide +kernel
theorem dL_isWhole_281 : decode cL_isWhole 281 = .ok (.aload_n 0, 1) := by decide +kernel
theorem dL_isWhole_282 : decode cL_isWhole 282 = .ok (.iload 6, 2) := by decide +kernel
theorem dL_isWhole_284 : decode cL_isWhole 284 = .ok (.iconst 0, 1) := by decide +kernel
theorem dL_isWhole_285 : decode cL_isWhole 285 = .ok (.invokevirtual 115, 3) := by decide +kernel
theorem dL_isWhole_288 : decode cL_isWhole 288 = .ok (.istore 8, 2) := by decide +kernel
theorem dL_isWhole_290 : decode cL_isWhole 290 = .ok (.aload_n 0, 1) := by decide +kernel
theorem dL_isWhole_291 : decode cL_isWhole 291 = .ok (.iload 6, 2) := by decide +kernel
theorem dL_isWhole_293 : decode cL_isWhole 293 = .ok (.iconst 1, 1) := by decide +kernel
theorem dL_isWhole_294 : decode cL_isWhole 294 = .ok (.invokevirtual 115, 3) := by decide +kernel
theorem dL_isWhole_297 : decode cL_isWhole 297 = .ok (.istore 9, 2) := by decide +kernel
theorem dL_isWhole_299 : decode cL_isWhole 299 = .ok (.iload_n 3, 1) := by decide +kernel
theorem dL_isWhole_300 : decode cL_isWhole 300 = .ok (.ifCond .eq 99, 3) := by decide +kernel
theorem dL_isWhole_303 : decode cL_isWhole 303 = .ok (.iload 8, 2) := by decide +kernel
theorem dL_isWhole_305 : decode cL_isWhole 305 = .ok (.iconst (-1), 1) := by decide +kernel
theorem dL_isWhole_306 : decode cL_isWhole 306 = .ok (.if_icmp .ne 12, 3) := by decide +kernel
theorem dL_isWhole_309 : decode cL_isWhole 309 = .ok (.iload 9, 2) := by decide +kernel
theorem dL_isWhole_311 : decode cL_isWhole 311 = .ok (.iconst (-1), 1) := by decide +kernel
theorem dL_isWhole_312 : decode cL_isWhole 312 = .ok (.if_icmp .ne 87, 3) := by decide +kernel
theorem dL_isWhole_315 : decode cL_isWhole 315 = .ok (.goto 80, 3) := by decide +kernel
theorem dL_isWhole_318 : decode cL_isWhole 318 = .ok (.iload 8, 2) := by decide +kernel
theorem dL_isWhole_320 : decode cL_isWhole 320 = .ok (.iload 9, 2) := by decide +kernel
theorem dL_isWhole_322 : decode cL_isWhole 322 = .ok (.if_icmp .gt 77, 3) := by decide +kernel
theorem dL_isWhole_325 : decode cL_isWhole 325 = .ok (.aload_n 0, 1) := by decide +kernel
theorem dL_isWhole_326 : decode cL_isWhole 326 = .ok (.iload 6, 2) := by decide +kernel
theorem dL_isWhole_328 : decode cL_isWhole 328 = .ok (.iload 8, 2) := by decide +kernel
theorem dL_isWhole_330 : decode cL_isWhole 330 = .ok (.invokevirtual 49, 3) := by decide +kernel
theorem dL_isWhole_333 : decode cL_isWhole 333 = .ok (.bipush 100, 2) := by decide +kernel
theorem dL_isWhole_335 : decode cL_isWhole 335 = .ok (.if_icmp .lt 64, 3) := by decide +kernel
theorem dL_isWhole_338 : decode cL_isWhole 338 = .ok (.aload_n 0, 1) := by decide +kernel
theorem dL_isWhole_339 : decode cL_isWhole 339 = .ok (.iload 6, 2) := by decide +kernel
theorem dL_isWhole_341 : decode cL_isWhole 341 = .ok (.iload 9, 2) := by decide +kernel
theorem dL_isWhole_343 : decode cL_isWhole 343 = .ok (.invokevirtual 49, 3) := by decide +kernel
theorem dL_isWhole_346 : decode cL_isWhole 346 = .ok (.sipush 6000, 3) := by decide +kernel
theorem dL_isWhole_349 : decode cL_isWhole 349 = .ok (.if_icmp .gt 50, 3) := by decide +kernel
theorem dL_isWhole_352 : decode cL_isWhole 352 = .ok (.iload 8, 2) := by decide +kernel
theorem dL_isWhole_354 : decode cL_isWhole 354 = .ok (.ifCond .eq 18, 3) := by decide +kernel
theorem dL_isWhole_357 : decode cL_isWhole 357 = .ok (.aload_n 0, 1) := by decide +kernel
theorem dL_isWhole_358 : decode cL_isWhole 358 = .ok (.iload 6, 2) := by decide +kernel
theorem dL_isWhole_360 : decode cL_isWhole 360 = .ok (.iload 8, 2) := by decide +kernel
theorem dL_isWhole_362 : decode cL_isWhole 362 = .ok (.iconst 1, 1) := by decide +kernel
theorem dL_isWhole_363 : decode cL_isWhole 363 = .ok (.isub, 1) := by decide +kernel
theorem dL_isWhole_364 : decode cL_isWhole 364 = .ok (.invokevirtual 49, 3) := by decide +kernel
theorem dL_isWhole_367 : decode cL_isWhole 367 = .ok (.bipush 100, 2) := by decide +kernel
theorem dL_isWhole_369 : decode cL_isWhole 369 = .ok (.if_icmp .ge 30, 3) := by decide +kernel
theorem dL_isWhole_372 : decode cL_isWhole 372 = .ok (.iload 9, 2) := by decide +kernel
theorem dL_isWhole_374 : decode cL_isWhole 374 = .ok (.bipush 30, 2) := by decide +kernel
theorem dL_isWhole_376 : decode cL_isWhole 376 = .ok (.if_icmp .eq 19, 3) := by decide +kernel
theorem dL_isWhole_379 : decode cL_isWhole 379 = .ok (.aload_n 0, 1) := by decide +kernel
theorem dL_isWhole_380 : decode cL_isWhole 380 = .ok (.iload 6, 2) := by decide +kernel
theorem dL_isWhole_382 : decode cL_isWhole 382 = .ok (.iload 9, 2) := by decide +kernel
theorem dL_isWhole_384 : decode cL_isWhole 384 = .ok (.iconst 1, 1) := by decide +kernel
theorem dL_isWhole_385 : decode cL_isWhole 385 = .ok (.iadd, 1) := by decide +kernel
theorem dL_isWhole_386 : decode cL_isWhole 386 = .ok (.invokevirtual 49, 3) := by decide +kernel
theorem dL_isWhole_389 : decode cL_isWhole 389 = .ok (.sipush 6000, 3) := by decide +kernel
theorem dL_isWhole_392 : decode cL_isWhole 392 = .ok (.if_icmp .le 7, 3) := by decide +kernel
theorem dL_isWhole_395 : decode cL_isWhole 395 = .ok (.iconst 1, 1) := by decide +kernel
theorem dL_isWhole_396 : decode cL_isWhole 396 = .ok (.goto 4, 3) := by decide +kernel
theorem dL_isWhole_399 : decode cL_isWhole 399 = .ok (.iconst 0, 1) := by decide +kernel
theorem dL_isWhole_400 : decode cL_isWhole 400 = .ok (.istore_n 3, 1) := by decide +kernel
theorem dL_isWhole_401 : decode cL_isWhole 401 = .ok (.iinc 6 1, 3) := by decide +kernel
theorem dL_isWhole_404 : decode cL_isWhole 404 = .ok (.goto (-272), 3) := by decide +kernel
theorem dL_isWhole_407 : decode cL_isWhole 407 = .ok (.iload_n 3, 1) := by decide +kernel
theorem dL_isWhole_408 : decode cL_isWhole 408 = .ok (.ireturn, 1) := by decide +kernel
set_option maxRecDepth 20000 in
theorem ggL_law_X2_init : GoodIn wsL_law wsX2_init := goodIn_r _ [6, 7, 8, 9, 10, 11, 12, 13, 14, 279, 280, 281, 282, 283, 284, 285, 286, 287] (by decide +kernel) (by decide +kernel)
set_option maxRecDepth 20000 in
theorem gL_law_X2_init : GoodIn wsL_law (wsX2_init) := ggL_law_X2_init
set_option maxRecDepth 20000 in
theorem ggL_law_X2_called : GoodIn wsL_law wsX2_called := goodIn_r _ [18, 19, 279, 280, 281, 282, 283, 284, 285, 286, 287] (by decide +kernel) (by decide +kernel)
set_option maxRecDepth 20000 in
theorem gL_law_X2_called : GoodIn wsL_law (wsV RL 71 RX2 yX2_called wsX2_called) := goodIn_app (goodIn_of _ (by decide +kernel)) ggL_law_X2_called
set_option maxRecDepth 20000 in
theorem ggL_law_X2_lane : GoodIn wsL_law wsX2_lane := goodIn_ca (goodIn_r _ [23, 24, 25, 14, 26, 27, 28, 2, 29, 30, 31, 32, 279, 280, 281, 282, 283, 284, 285, 286, 287, 288, 289, 290, 291, 292, 293, 294, 295, 296] (by decide +kernel) (by decide +kernel)) (goodIn_sub (fun _ h => List.mem_append_left _ (List.mem_append_left _ (List.mem_append_right _ h))) (by decide +kernel))
set_option maxRecDepth 20000 in
theorem gL_law_X2_lane : GoodIn wsL_law (wsV RL 92 RX2 yX2_lane wsX2_lane) := goodIn_app (goodIn_of _ (by decide +kernel)) ggL_law_X2_lane
set_option maxRecDepth 20000 in
theorem ggL_law_L_draw : GoodIn wsL_law wsL_draw := goodIn_r _ [36, 37, 38, 39] (by decide +kernel) (by decide +kernel)
set_option maxRecDepth 20000 in
theorem gL_law_L_draw : GoodIn wsL_law (va_wsS RL 120 yL_draw wsL_draw) := goodIn_app (goodIn_of _ (by decide +kernel)) ggL_law_L_draw
theorem goodIn_c {big a : List Cond} {c : Cond} (i : Nat) (hc : big[i]? = some c) (hg : goodWord c = true) (ha : GoodIn big a) : GoodIn big (c :: a) := fun w h => (List.mem_cons.mp h).elim (fun e => e ▸ ⟨List.mem_of_getElem? hc, good_of_word hg⟩) (ha w)
set_option maxRecDepth 20000 in
theorem ggL_law_L_step : GoodIn wsL_law wsL_step := goodIn_ca (goodIn_ca (goodIn_ca (goodIn_c 42 rfl (by decide +kernel) (goodIn_r _ [43, 44, 35, 45, 46, 47, 48, 49, 2, 50, 51, 52, 53, 54, 55, 11, 10, 56, 57, 30, 31, 32, 58, 59, 60, 61, 8, 9, 62, 63, 64, 65, 66, 67, 68, 69, 70, 71, 72, 73, 74, 75, 76, 77, 78, 79, 80, 81, 82, 24, 25, 83, 84, 85, 86, 87, 88, 89, 90, 91, 92, 93, 94, 95, 96, 97, 98, 99, 100, 101, 102, 103, 104, 105, 106, 107, 108, 109, 110, 111, 112, 113, 114, 115, 116, 117, 118, 119, 13, 12, 120, 121, 122, 123, 124, 125, 126, 127, 128, 129, 130, 131, 132, 133, 134, 135, 136, 137, 138, 139, 140, 141, 142, 143, 144, 145, 146, 147, 148, 149, 150, 151, 152, 153, 154, 155, 156, 157, 158, 159, 160, 26, 161, 162, 163, 164, 20, 21, 22, 23, 14, 27, 28, 29, 165, 166, 167, 168, 169, 170, 171, 172, 173, 174, 175, 176, 177, 178, 179, 180, 181, 182, 183, 184, 185, 186, 15, 16, 17, 18, 19, 187, 188, 189, 190, 191, 192, 193, 194, 195, 196, 197, 198, 199, 200, 201, 202, 203, 204, 205, 206, 207, 208, 209, 210, 211, 212, 213, 214, 215, 216, 217, 218, 219, 220, 221, 222, 223, 224, 225, 226, 227, 228, 229, 230, 231, 232, 233, 234, 235, 236, 237, 238, 239, 240, 241, 242, 243, 244, 245, 246, 247, 248, 249, 250, 251, 252, 253, 254, 255, 256, 257, 258, 279, 280, 281, 282, 283, 284, 285, 286, 287, 288, 289, 290, 291, 292, 293, 294, 295, 296, 297, 298] (by decide +kernel) (by decide +kernel))) (goodIn_sub (fun _ h => List.mem_append_left _ (List.mem_append_right _ h)) (by decide +kernel))) (goodIn_sub (fun _ h => List.mem_append_right _ h) (by decide +kernel))) (goodIn_sub (fun _ h => List.mem_append_left _ (List.mem_append_left _ (List.mem_append_right _ h))) (by decide +kernel))
set_option maxRecDepth 20000 in
theorem gL_law_L_step : GoodIn wsL_law (va_wsS RL 124 yL_step wsL_step) := goodIn_app (goodIn_of _ (by decide +kernel)) ggL_law_L_step
theorem goodIn_c2 {big a : List Cond} {c : Cond} (i : Nat) (hc : big[i]? = some c) (hg : goodWord c = true) (ha : GoodIn big a) : GoodIn big (c :: a) := fun w h => (List.mem_cons.mp h).elim (fun e => e ▸ ⟨List.mem_of_getElem? hc, good_of_word hg⟩) (ha w)
set_option maxRecDepth 20000 in
theorem ggL_law_L_isWhole : GoodIn wsL_law wsL_isWhole := goodIn_ca (goodIn_ca (goodIn_c 261 rfl (by decide +kernel) (goodIn_r _ [262, 20, 21, 22, 2, 23, 24, 25, 14, 26, 27, 28, 29, 30, 31, 32, 104, 105, 106, 107, 51, 52, 79, 80, 81, 82, 11, 108, 109, 110, 111, 97, 98, 57, 99, 65, 100, 101, 102, 103, 63, 64, 68, 69, 70, 71, 72, 73, 74, 75, 76, 77, 78, 83, 84, 85, 86, 67, 87, 88, 89, 90, 91, 92, 93, 94, 95, 96, 263, 264, 265, 266, 267, 268, 269, 270, 271, 272, 273, 274, 275, 276, 277, 278, 246, 179, 180, 181, 279, 280, 281, 282, 283, 284, 285, 286, 287, 288, 289, 290, 291, 292, 293, 294, 295, 296] (by decide +kernel) (by decide +kernel))) (goodIn_sub (fun _ h => List.mem_append_left _ (List.mem_append_left _ (List.mem_append_right _ h))) (by decide +kernel))) (goodIn_sub (fun _ h => List.mem_append_left _ (List.mem_append_right _ h)) (by decide +kernel))
set_option maxRecDepth 20000 in
theorem gL_law_L_isWhole : GoodIn wsL_law (va_wsS RL 128 yL_isWhole wsL_isWhole) := goodIn_app (goodIn_of _ (by decide +kernel)) ggL_law_L_isWhole
theorem dL_law_0 : decode cL_law 0 = .ok (.new 11, 3) := by decide +kernel
theorem dL_law_3 : decode cL_law 3 = .ok (.dup, 1) := by decide +kernel
theorem dL_law_4 : decode cL_law 4 = .ok (.invokespecial 119, 3) := by decide +kernel
theorem dL_law_7 : decode cL_law 7 = .ok (.astore_n 1, 1) := by decide +kernel
theorem dL_law_8 : decode cL_law 8 = .ok (.iconst 4, 1) := by decide +kernel
theorem dL_law_9 : decode cL_law 9 = .ok (.newarray .int, 2) := by decide +kernel
theorem dL_law_11 : decode cL_law 11 = .ok (.astore_n 2, 1) := by decide +kernel
theorem dL_law_12 : decode cL_law 12 = .ok (.bipush 8, 2) := by decide +kernel
theorem dL_law_14 : decode cL_law 14 = .ok (.newarray .int, 2) := by decide +kernel
theorem dL_law_16 : decode cL_law 16 = .ok (.astore_n 3, 1) := by decide +kernel
theorem dL_law_17 : decode cL_law 17 = .ok (.bipush 8, 2) := by decide +kernel
theorem dL_law_19 : decode cL_law 19 = .ok (.newarray .int, 2) := by decide +kernel
theorem dL_law_21 : decode cL_law 21 = .ok (.astore 4, 2) := by decide +kernel
theorem dL_law_23 : decode cL_law 23 = .ok (.aload_n 1, 1) := by decide +kernel
theorem dL_law_24 : decode cL_law 24 = .ok (.invokevirtual 71, 3) := by decide +kernel
theorem dL_law_27 : decode cL_law 27 = .ok (.ifCond .ne 16, 3) := by decide +kernel
theorem dL_law_30 : decode cL_law 30 = .ok (.aload_n 1, 1) := by decide +kernel
theorem dL_law_31 : decode cL_law 31 = .ok (.iconst 0, 1) := by decide +kernel
theorem dL_law_32 : decode cL_law 32 = .ok (.invokevirtual 92, 3) := by decide +kernel
theorem dL_law_35 : decode cL_law 35 = .ok (.iconst (-1), 1) := by decide +kernel
theorem dL_law_36 : decode cL_law 36 = .ok (.if_icmp .ne 7, 3) := by decide +kernel
theorem dL_law_39 : decode cL_law 39 = .ok (.iconst 1, 1) := by decide +kernel
theorem dL_law_40 : decode cL_law 40 = .ok (.goto 4, 3) := by decide +kernel
theorem dL_law_43 : decode cL_law 43 = .ok (.iconst 0, 1) := by decide +kernel
theorem dL_law_44 : decode cL_law 44 = .ok (.istore 5, 2) := by decide +kernel
theorem dL_law_46 : decode cL_law 46 = .ok (.aload_n 0, 1) := by decide +kernel
theorem dL_law_47 : decode cL_law 47 = .ok (.arraylength, 1) := by decide +kernel
theorem dL_law_48 : decode cL_law 48 = .ok (.iconst 3, 1) := by decide +kernel
theorem dL_law_49 : decode cL_law 49 = .ok (.idiv, 1) := by decide +kernel
theorem dL_law_50 : decode cL_law 50 = .ok (.bipush 80, 2) := by decide +kernel
theorem dL_law_52 : decode cL_law 52 = .ok (.if_icmp .le 8, 3) := by decide +kernel
theorem dL_law_55 : decode cL_law 55 = .ok (.bipush 80, 2) := by decide +kernel
theorem dL_law_57 : decode cL_law 57 = .ok (.goto 7, 3) := by decide +kernel
theorem dL_law_60 : decode cL_law 60 = .ok (.aload_n 0, 1) := by decide +kernel
theorem dL_law_61 : decode cL_law 61 = .ok (.arraylength, 1) := by decide +kernel
theorem dL_law_62 : decode cL_law 62 = .ok (.iconst 3, 1) := by decide +kernel
theorem dL_law_63 : decode cL_law 63 = .ok (.idiv, 1) := by decide +kernel
theorem dL_law_64 : decode cL_law 64 = .ok (.istore 6, 2) := by decide +kernel
theorem dL_law_66 : decode cL_law 66 = .ok (.iconst 0, 1) := by decide +kernel
theorem dL_law_67 : decode cL_law 67 = .ok (.istore 7, 2) := by decide +kernel
theorem dL_law_69 : decode cL_law 69 = .ok (.iload 7, 2) := by decide +kernel
theorem dL_law_71 : decode cL_law 71 = .ok (.iload 6, 2) := by decide +kernel
theorem dL_law_73 : decode cL_law 73 = .ok (.if_icmp .ge 70, 3) := by decide +kernel
theorem dL_law_76 : decode cL_law 76 = .ok (.iload 5, 2) := by decide +kernel
theorem dL_law_78 : decode cL_law 78 = .ok (.ifCond .eq 65, 3) := by decide +kernel
theorem dL_law_81 : decode cL_law 81 = .ok (.aload_n 1, 1) := by decide +kernel
theorem dL_law_82 : decode cL_law 82 = .ok (.aload_n 2, 1) := by decide +kernel
theorem dL_law_83 : decode cL_law 83 = .ok (.aload_n 3, 1) := by decide +kernel
theorem dL_law_84 : decode cL_law 84 = .ok (.aload 4, 2) := by decide +kernel
theorem dL_law_86 : decode cL_law 86 = .ok (.aload_n 0, 1) := by decide +kernel
theorem dL_law_87 : decode cL_law 87 = .ok (.iconst 3, 1) := by decide +kernel
theorem dL_law_88 : decode cL_law 88 = .ok (.iload 7, 2) := by decide +kernel
theorem dL_law_90 : decode cL_law 90 = .ok (.imul, 1) := by decide +kernel
theorem dL_law_91 : decode cL_law 91 = .ok (.invokestatic 120, 3) := by decide +kernel
theorem dL_law_94 : decode cL_law 94 = .ok (.aload_n 0, 1) := by decide +kernel
theorem dL_law_95 : decode cL_law 95 = .ok (.iconst 3, 1) := by decide +kernel
theorem dL_law_96 : decode cL_law 96 = .ok (.iload 7, 2) := by decide +kernel
theorem dL_law_98 : decode cL_law 98 = .ok (.imul, 1) := by decide +kernel
theorem dL_law_99 : decode cL_law 99 = .ok (.iconst 1, 1) := by decide +kernel
theorem dL_law_100 : decode cL_law 100 = .ok (.iadd, 1) := by decide +kernel
theorem dL_law_101 : decode cL_law 101 = .ok (.invokestatic 120, 3) := by decide +kernel
theorem dL_law_104 : decode cL_law 104 = .ok (.aload_n 0, 1) := by decide +kernel
theorem dL_law_105 : decode cL_law 105 = .ok (.iconst 3, 1) := by decide +kernel
theorem dL_law_106 : decode cL_law 106 = .ok (.iload 7, 2) := by decide +kernel
theorem dL_law_108 : decode cL_law 108 = .ok (.imul, 1) := by decide +kernel
theorem dL_law_109 : decode cL_law 109 = .ok (.iconst 2, 1) := by decide +kernel
theorem dL_law_110 : decode cL_law 110 = .ok (.iadd, 1) := by decide +kernel
theorem dL_law_111 : decode cL_law 111 = .ok (.invokestatic 120, 3) := by decide +kernel
theorem dL_law_114 : decode cL_law 114 = .ok (.invokestatic 124, 3) := by decide +kernel
theorem dL_law_117 : decode cL_law 117 = .ok (.ifCond .eq 17, 3) := by decide +kernel
theorem dL_law_120 : decode cL_law 120 = .ok (.aload_n 1, 1) := by decide +kernel
theorem dL_law_121 : decode cL_law 121 = .ok (.aload_n 2, 1) := by decide +kernel
theorem dL_law_122 : decode cL_law 122 = .ok (.iload 7, 2) := by decide +kernel
theorem dL_law_124 : decode cL_law 124 = .ok (.invokestatic 128, 3) := by decide +kernel
theorem dL_law_127 : decode cL_law 127 = .ok (.ifCond .eq 7, 3) := by decide +kernel
theorem dL_law_130 : decode cL_law 130 = .ok (.iconst 1, 1) := by decide +kernel
theorem dL_law_131 : decode cL_law 131 = .ok (.goto 4, 3) := by decide +kernel
theorem dL_law_134 : decode cL_law 134 = .ok (.iconst 0, 1) := by decide +kernel
theorem dL_law_135 : decode cL_law 135 = .ok (.istore 5, 2) := by decide +kernel
theorem dL_law_137 : decode cL_law 137 = .ok (.iinc 7 1, 3) := by decide +kernel
theorem dL_law_140 : decode cL_law 140 = .ok (.goto (-71), 3) := by decide +kernel
theorem dL_law_143 : decode cL_law 143 = .ok (.iload 5, 2) := by decide +kernel
theorem dL_law_145 : decode cL_law 145 = .ok (.ireturn, 1) := by decide +kernel
abbrev vwCl : List vw_C := [(RX0, TX0, 2), (RX1, TX1, 9), (RX2, TX2, 9)]
