theorem dL_days_0 : decode cL_days 0 = .ok (.aload_n 0, 1) := by decide +kernel
theorem dL_days_1 : decode cL_days 1 = .ok (.invokevirtual 41, 3) := by decide +kernel
theorem dL_days_4 : decode cL_days 4 = .ok (.istore_n 1, 1) := by decide +kernel
theorem dL_days_5 : decode cL_days 5 = .ok (.aload_n 0, 1) := by decide +kernel
theorem dL_days_6 : decode cL_days 6 = .ok (.invokevirtual 44, 3) := by decide +kernel
theorem dL_days_9 : decode cL_days 9 = .ok (.istore_n 2, 1) := by decide +kernel
theorem dL_days_10 : decode cL_days 10 = .ok (.iconst 0, 1) := by decide +kernel
theorem dL_days_11 : decode cL_days 11 = .ok (.istore_n 3, 1) := by decide +kernel
theorem dL_days_12 : decode cL_days 12 = .ok (.iconst 0, 1) := by decide +kernel
theorem dL_days_13 : decode cL_days 13 = .ok (.istore 4, 2) := by decide +kernel
theorem dL_days_15 : decode cL_days 15 = .ok (.iconst 0, 1) := by decide +kernel
theorem dL_days_16 : decode cL_days 16 = .ok (.istore 5, 2) := by decide +kernel
theorem dL_days_18 : decode cL_days 18 = .ok (.aload_n 0, 1) := by decide +kernel
theorem dL_days_19 : decode cL_days 19 = .ok (.invokevirtual 47, 3) := by decide +kernel
theorem dL_days_22 : decode cL_days 22 = .ok (.iload_n 2, 1) := by decide +kernel
theorem dL_days_23 : decode cL_days 23 = .ok (.if_icmp .ne 15, 3) := by decide +kernel
theorem dL_days_26 : decode cL_days 26 = .ok (.aload_n 0, 1) := by decide +kernel
theorem dL_days_27 : decode cL_days 27 = .ok (.invokevirtual 50, 3) := by decide +kernel
theorem dL_days_30 : decode cL_days 30 = .ok (.iconst 5, 1) := by decide +kernel
theorem dL_days_31 : decode cL_days 31 = .ok (.if_icmp .gt 7, 3) := by decide +kernel
theorem dL_days_34 : decode cL_days 34 = .ok (.iconst 1, 1) := by decide +kernel
theorem dL_days_35 : decode cL_days 35 = .ok (.goto 4, 3) := by decide +kernel
theorem dL_days_38 : decode cL_days 38 = .ok (.iconst 0, 1) := by decide +kernel
theorem dL_days_39 : decode cL_days 39 = .ok (.istore 6, 2) := by decide +kernel
theorem dL_days_41 : decode cL_days 41 = .ok (.iconst 0, 1) := by decide +kernel
theorem dL_days_42 : decode cL_days 42 = .ok (.istore 7, 2) := by decide +kernel
theorem dL_days_44 : decode cL_days 44 = .ok (.iload 7, 2) := by decide +kernel
theorem dL_days_46 : decode cL_days 46 = .ok (.iload_n 1, 1) := by decide +kernel
theorem dL_days_47 : decode cL_days 47 = .ok (.if_icmp .ge 366, 3) := by decide +kernel
theorem dL_days_50 : decode cL_days 50 = .ok (.iload 6, 2) := by decide +kernel
theorem dL_days_52 : decode cL_days 52 = .ok (.ifCond .eq 361, 3) := by decide +kernel
theorem dL_days_55 : decode cL_days 55 = .ok (.aload_n 0, 1) := by decide +kernel
theorem dL_days_56 : decode cL_days 56 = .ok (.iload 7, 2) := by decide +kernel
theorem dL_days_58 : decode cL_days 58 = .ok (.invokevirtual 53, 3) := by decide +kernel
theorem dL_days_61 : decode cL_days 61 = .ok (.istore 8, 2) := by decide +kernel
theorem dL_days_63 : decode cL_days 63 = .ok (.iload 8, 2) := by decide +kernel
theorem dL_days_65 : decode cL_days 65 = .ok (.aload_n 0, 1) := by decide +kernel
theorem dL_days_66 : decode cL_days 66 = .ok (.iload 7, 2) := by decide +kernel
theorem dL_days_68 : decode cL_days 68 = .ok (.invokevirtual 57, 3) := by decide +kernel
theorem dL_days_71 : decode cL_days 71 = .ok (.iadd, 1) := by decide +kernel
theorem dL_days_72 : decode cL_days 72 = .ok (.istore 9, 2) := by decide +kernel
theorem dL_days_74 : decode cL_days 74 = .ok (.iconst 0, 1) := by decide +kernel
theorem dL_days_75 : decode cL_days 75 = .ok (.istore 10, 2) := by decide +kernel
theorem dL_days_77 : decode cL_days 77 = .ok (.iload_n 2, 1) := by decide +kernel
theorem dL_days_78 : decode cL_days 78 = .ok (.istore 11, 2) := by decide +kernel
theorem dL_days_80 : decode cL_days 80 = .ok (.iload_n 2, 1) := by decide +kernel
theorem dL_days_81 : decode cL_days 81 = .ok (.iload 9, 2) := by decide +kernel
theorem dL_days_83 : decode cL_days 83 = .ok (.isub, 1) := by decide +kernel
theorem dL_days_84 : decode cL_days 84 = .ok (.istore 12, 2) := by decide +kernel
theorem dL_days_86 : decode cL_days 86 = .ok (.iconst 0, 1) := by decide +kernel
theorem dL_days_87 : decode cL_days 87 = .ok (.istore 13, 2) := by decide +kernel
theorem dL_days_89 : decode cL_days 89 = .ok (.iload 13, 2) := by decide +kernel
theorem dL_days_91 : decode cL_days 91 = .ok (.iload_n 1, 1) := by decide +kernel
theorem dL_days_92 : decode cL_days 92 = .ok (.if_icmp .ge 185, 3) := by decide +kernel
theorem dL_days_95 : decode cL_days 95 = .ok (.iload 13, 2) := by decide +kernel
theorem dL_days_97 : decode cL_days 97 = .ok (.iload 7, 2) := by decide +kernel
theorem dL_days_99 : decode cL_days 99 = .ok (.if_icmp .ne 7, 3) := by decide +kernel
theorem dL_days_102 : decode cL_days 102 = .ok (.iconst (-1), 1) := by decide +kernel
theorem dL_days_103 : decode cL_days 103 = .ok (.goto 11, 3) := by decide +kernel
theorem dL_days_106 : decode cL_days 106 = .ok (.aload_n 0, 1) := by decide +kernel
theorem dL_days_107 : decode cL_days 107 = .ok (.iload 13, 2) := by decide +kernel
theorem dL_days_109 : decode cL_days 109 = .ok (.iload 7, 2) := by decide +kernel
theorem dL_days_111 : decode cL_days 111 = .ok (.invokestatic 60, 3) := by decide +kernel
theorem dL_days_114 : decode cL_days 114 = .ok (.istore 14, 2) := by decide +kernel
theorem dL_days_116 : decode cL_days 116 = .ok (.iload 13, 2) := by decide +kernel
theorem dL_days_118 : decode cL_days 118 = .ok (.iload 7, 2) := by decide +kernel
theorem dL_days_120 : decode cL_days 120 = .ok (.if_icmp .ne 7, 3) := by decide +kernel
theorem dL_days_123 : decode cL_days 123 = .ok (.iconst (-1), 1) := by decide +kernel
theorem dL_days_124 : decode cL_days 124 = .ok (.goto 11, 3) := by decide +kernel
theorem dL_days_127 : decode cL_days 127 = .ok (.aload_n 0, 1) := by decide +kernel
theorem dL_days_128 : decode cL_days 128 = .ok (.iload 7, 2) := by decide +kernel
theorem dL_days_130 : decode cL_days 130 = .ok (.iload 13, 2) := by decide +kernel
theorem dL_days_132 : decode cL_days 132 = .ok (.invokestatic 60, 3) := by decide +kernel
theorem dL_days_135 : decode cL_days 135 = .ok (.istore 15, 2) := by decide +kernel
theorem dL_days_137 : decode cL_days 137 = .ok (.iload 14, 2) := by decide +kernel
theorem dL_days_139 : decode cL_days 139 = .ok (.ifCond .ge 7, 3) := by decide +kernel
theorem dL_days_142 : decode cL_days 142 = .ok (.iconst 0, 1) := by decide +kernel
theorem dL_days_143 : decode cL_days 143 = .ok (.goto 19, 3) := by decide +kernel
theorem dL_days_146 : decode cL_days 146 = .ok (.aload_n 0, 1) := by decide +kernel
theorem dL_days_147 : decode cL_days 147 = .ok (.iload 13, 2) := by decide +kernel
theorem dL_days_149 : decode cL_days 149 = .ok (.invokevirtual 53, 3) := by decide +kernel
theorem dL_days_152 : decode cL_days 152 = .ok (.aload_n 0, 1) := by decide +kernel
theorem dL_days_153 : decode cL_days 153 = .ok (.iload 13, 2) := by decide +kernel
theorem dL_days_155 : decode cL_days 155 = .ok (.invokevirtual 57, 3) := by decide +kernel
theorem dL_days_158 : decode cL_days 158 = .ok (.iadd, 1) := by decide +kernel
theorem dL_days_159 : decode cL_days 159 = .ok (.iload 14, 2) := by decide +kernel
theorem dL_days_161 : decode cL_days 161 = .ok (.iadd, 1) := by decide +kernel
theorem dL_days_162 : decode cL_days 162 = .ok (.istore 16, 2) := by decide +kernel
theorem dL_days_164 : decode cL_days 164 = .ok (.iload 15, 2) := by decide +kernel
theorem dL_days_166 : decode cL_days 166 = .ok (.ifCond .ge 7, 3) := by decide +kernel
theorem dL_days_169 : decode cL_days 169 = .ok (.iload_n 2, 1) := by decide +kernel
theorem dL_days_170 : decode cL_days 170 = .ok (.goto 12, 3) := by decide +kernel
theorem dL_days_173 : decode cL_days 173 = .ok (.aload_n 0, 1) := by decide +kernel
theorem dL_days_174 : decode cL_days 174 = .ok (.iload 13, 2) := by decide +kernel
theorem dL_days_176 : decode cL_days 176 = .ok (.invokevirtual 64, 3) := by decide +kernel
theorem dL_days_179 : decode cL_days 179 = .ok (.iload 15, 2) := by decide +kernel
theorem dL_days_181 : decode cL_days 181 = .ok (.isub, 1) := by decide +kernel
theorem dL_days_182 : decode cL_days 182 = .ok (.istore 17, 2) := by decide +kernel
theorem dL_days_184 : decode cL_days 184 = .ok (.iload 15, 2) := by decide +kernel
theorem dL_days_186 : decode cL_days 186 = .ok (.ifCond .ge 8, 3) := by decide +kernel
theorem dL_days_189 : decode cL_days 189 = .ok (.iload 12, 2) := by decide +kernel
theorem dL_days_191 : decode cL_days 191 = .ok (.goto 15, 3) := by decide +kernel
theorem dL_days_194 : decode cL_days 194 = .ok (.aload_n 0, 1) := by decide +kernel
theorem dL_days_195 : decode cL_days 195 = .ok (.iload 13, 2) := by decide +kernel
theorem dL_days_197 : decode cL_days 197 = .ok (.invokevirtual 53, 3) := by decide +kernel
theorem dL_days_200 : decode cL_days 200 = .ok (.iload 15, 2) := by decide +kernel
theorem dL_days_202 : decode cL_days 202 = .ok (.isub, 1) := by decide +kernel
theorem dL_days_203 : decode cL_days 203 = .ok (.iload 9, 2) := by decide +kernel
theorem dL_days_205 : decode cL_days 205 = .ok (.isub, 1) := by decide +kernel
theorem dL_days_206 : decode cL_days 206 = .ok (.istore 18, 2) := by decide +kernel
theorem dL_days_208 : decode cL_days 208 = .ok (.iload 16, 2) := by decide +kernel
theorem dL_days_210 : decode cL_days 210 = .ok (.iload 10, 2) := by decide +kernel
theorem dL_days_212 : decode cL_days 212 = .ok (.if_icmp .le 8, 3) := by decide +kernel
theorem dL_days_215 : decode cL_days 215 = .ok (.iload 16, 2) := by decide +kernel
theorem dL_days_217 : decode cL_days 217 = .ok (.goto 5, 3) := by decide +kernel
theorem dL_days_220 : decode cL_days 220 = .ok (.iload 10, 2) := by decide +kernel
theorem dL_days_222 : decode cL_days 222 = .ok (.istore 10, 2) := by decide +kernel
theorem dL_days_224 : decode cL_days 224 = .ok (.iload 17, 2) := by decide +kernel
theorem dL_days_226 : decode cL_days 226 = .ok (.iload 11, 2) := by decide +kernel
theorem dL_days_228 : decode cL_days 228 = .ok (.if_icmp .ge 8, 3) := by decide +kernel
theorem dL_days_231 : decode cL_days 231 = .ok (.iload 17, 2) := by decide +kernel
theorem dL_days_233 : decode cL_days 233 = .ok (.goto 5, 3) := by decide +kernel
theorem dL_days_236 : decode cL_days 236 = .ok (.iload 11, 2) := by decide +kernel
theorem dL_days_238 : decode cL_days 238 = .ok (.istore 11, 2) := by decide +kernel
theorem dL_days_240 : decode cL_days 240 = .ok (.iload 18, 2) := by decide +kernel
theorem dL_days_242 : decode cL_days 242 = .ok (.iload 12, 2) := by decide +kernel
theorem dL_days_244 : decode cL_days 244 = .ok (.if_icmp .ge 8, 3) := by decide +kernel
theorem dL_days_247 : decode cL_days 247 = .ok (.iload 18, 2) := by decide +kernel
theorem dL_days_249 : decode cL_days 249 = .ok (.goto 5, 3) := by decide +kernel
theorem dL_days_252 : decode cL_days 252 = .ok (.iload 12, 2) := by decide +kernel
theorem dL_days_254 : decode cL_days 254 = .ok (.istore 12, 2) := by decide +kernel
theorem dL_days_256 : decode cL_days 256 = .ok (.iload 5, 2) := by decide +kernel
theorem dL_days_258 : decode cL_days 258 = .ok (.iload 14, 2) := by decide +kernel
theorem dL_days_260 : decode cL_days 260 = .ok (.ifCond .ge 7, 3) := by decide +kernel
theorem dL_days_263 : decode cL_days 263 = .ok (.iconst 0, 1) := by decide +kernel
theorem dL_days_264 : decode cL_days 264 = .ok (.goto 4, 3) := by decide +kernel
theorem dL_days_267 : decode cL_days 267 = .ok (.iconst 1, 1) := by decide +kernel
theorem dL_days_268 : decode cL_days 268 = .ok (.iadd, 1) := by decide +kernel
theorem dL_days_269 : decode cL_days 269 = .ok (.istore 5, 2) := by decide +kernel
theorem dL_days_271 : decode cL_days 271 = .ok (.iinc 13 1, 3) := by decide +kernel
theorem dL_days_274 : decode cL_days 274 = .ok (.goto (-185), 3) := by decide +kernel
theorem dL_days_277 : decode cL_days 277 = .ok (.iload 11, 2) := by decide +kernel
theorem dL_days_279 : decode cL_days 279 = .ok (.aload_n 0, 1) := by decide +kernel
theorem dL_days_280 : decode cL_days 280 = .ok (.iload 7, 2) := by decide +kernel
theorem dL_days_282 : decode cL_days 282 = .ok (.invokevirtual 57, 3) := by decide +kernel
theorem dL_days_285 : decode cL_days 285 = .ok (.isub, 1) := by decide +kernel
theorem dL_days_286 : decode cL_days 286 = .ok (.iload 8, 2) := by decide +kernel
theorem dL_days_288 : decode cL_days 288 = .ok (.isub, 1) := by decide +kernel
theorem dL_days_289 : decode cL_days 289 = .ok (.istore 13, 2) := by decide +kernel
theorem dL_days_291 : decode cL_days 291 = .ok (.iload 9, 2) := by decide +kernel
theorem dL_days_293 : decode cL_days 293 = .ok (.iload_n 3, 1) := by decide +kernel
theorem dL_days_294 : decode cL_days 294 = .ok (.if_icmp .le 8, 3) := by decide +kernel
theorem dL_days_297 : decode cL_days 297 = .ok (.iload 9, 2) := by decide +kernel
theorem dL_days_299 : decode cL_days 299 = .ok (.goto 4, 3) := by decide +kernel
theorem dL_days_302 : decode cL_days 302 = .ok (.iload_n 3, 1) := by decide +kernel
theorem dL_days_303 : decode cL_days 303 = .ok (.istore_n 3, 1) := by decide +kernel
theorem dL_days_304 : decode cL_days 304 = .ok (.iload 4, 2) := by decide +kernel
theorem dL_days_306 : decode cL_days 306 = .ok (.iload 13, 2) := by decide +kernel
theorem dL_days_308 : decode cL_days 308 = .ok (.ifCond .ne 7, 3) := by decide +kernel
theorem dL_days_311 : decode cL_days 311 = .ok (.iconst 1, 1) := by decide +kernel
theorem dL_days_312 : decode cL_days 312 = .ok (.goto 4, 3) := by decide +kernel
theorem dL_days_315 : decode cL_days 315 = .ok (.iconst 0, 1) := by decide +kernel
theorem dL_days_316 : decode cL_days 316 = .ok (.iadd, 1) := by decide +kernel
theorem dL_days_317 : decode cL_days 317 = .ok (.istore 4, 2) := by decide +kernel
theorem dL_days_319 : decode cL_days 319 = .ok (.iload 8, 2) := by decide +kernel
theorem dL_days_321 : decode cL_days 321 = .ok (.iload 10, 2) := by decide +kernel
theorem dL_days_323 : decode cL_days 323 = .ok (.if_icmp .ne 81, 3) := by decide +kernel
theorem dL_days_326 : decode cL_days 326 = .ok (.aload_n 0, 1) := by decide +kernel
theorem dL_days_327 : decode cL_days 327 = .ok (.iload 7, 2) := by decide +kernel
theorem dL_days_329 : decode cL_days 329 = .ok (.invokevirtual 64, 3) := by decide +kernel
theorem dL_days_332 : decode cL_days 332 = .ok (.iload 11, 2) := by decide +kernel
theorem dL_days_334 : decode cL_days 334 = .ok (.aload_n 0, 1) := by decide +kernel
theorem dL_days_335 : decode cL_days 335 = .ok (.iload 7, 2) := by decide +kernel
theorem dL_days_337 : decode cL_days 337 = .ok (.invokevirtual 57, 3) := by decide +kernel
theorem dL_days_340 : decode cL_days 340 = .ok (.isub, 1) := by decide +kernel
theorem dL_days_341 : decode cL_days 341 = .ok (.if_icmp .ne 63, 3) := by decide +kernel
theorem dL_days_344 : decode cL_days 344 = .ok (.aload_n 0, 1) := by decide +kernel
theorem dL_days_345 : decode cL_days 345 = .ok (.iload 7, 2) := by decide +kernel
theorem dL_days_347 : decode cL_days 347 = .ok (.invokevirtual 67, 3) := by decide +kernel
theorem dL_days_350 : decode cL_days 350 = .ok (.iload 13, 2) := by decide +kernel
theorem dL_days_352 : decode cL_days 352 = .ok (.if_icmp .ne 52, 3) := by decide +kernel
theorem dL_days_355 : decode cL_days 355 = .ok (.aload_n 0, 1) := by decide +kernel
theorem dL_days_356 : decode cL_days 356 = .ok (.iload 7, 2) := by decide +kernel
theorem dL_days_358 : decode cL_days 358 = .ok (.invokevirtual 70, 3) := by decide +kernel
theorem dL_days_361 : decode cL_days 361 = .ok (.iload 13, 2) := by decide +kernel
theorem dL_days_363 : decode cL_days 363 = .ok (.if_icmp .ne 41, 3) := by decide +kernel
theorem dL_days_366 : decode cL_days 366 = .ok (.iload 13, 2) := by decide +kernel
theorem dL_days_368 : decode cL_days 368 = .ok (.ifCond .lt 36, 3) := by decide +kernel
theorem dL_days_371 : decode cL_days 371 = .ok (.aload_n 0, 1) := by decide +kernel
theorem dL_days_372 : decode cL_days 372 = .ok (.iload 7, 2) := by decide +kernel
theorem dL_days_374 : decode cL_days 374 = .ok (.invokevirtual 73, 3) := by decide +kernel
theorem dL_days_377 : decode cL_days 377 = .ok (.iload 12, 2) := by decide +kernel
theorem dL_days_379 : decode cL_days 379 = .ok (.if_icmp .ne 25, 3) := by decide +kernel
theorem dL_days_382 : decode cL_days 382 = .ok (.aload_n 0, 1) := by decide +kernel
theorem dL_days_383 : decode cL_days 383 = .ok (.iload 7, 2) := by decide +kernel
theorem dL_days_385 : decode cL_days 385 = .ok (.invokevirtual 76, 3) := by decide +kernel
theorem dL_days_388 : decode cL_days 388 = .ok (.aload_n 0, 1) := by decide +kernel
theorem dL_days_389 : decode cL_days 389 = .ok (.iload 7, 2) := by decide +kernel
theorem dL_days_391 : decode cL_days 391 = .ok (.invokevirtual 57, 3) := by decide +kernel
theorem dL_days_394 : decode cL_days 394 = .ok (.iload 13, 2) := by decide +kernel
theorem dL_days_396 : decode cL_days 396 = .ok (.iadd, 1) := by decide +kernel
theorem dL_days_397 : decode cL_days 397 = .ok (.if_icmp .ne 7, 3) := by decide +kernel
theorem dL_days_400 : decode cL_days 400 = .ok (.iconst 1, 1) := by decide +kernel
theorem dL_days_401 : decode cL_days 401 = .ok (.goto 4, 3) := by decide +kernel
theorem dL_days_404 : decode cL_days 404 = .ok (.iconst 0, 1) := by decide +kernel
theorem dL_days_405 : decode cL_days 405 = .ok (.istore 6, 2) := by decide +kernel
theorem dL_days_407 : decode cL_days 407 = .ok (.iinc 7 1, 3) := by decide +kernel
theorem dL_days_410 : decode cL_days 410 = .ok (.goto (-366), 3) := by decide +kernel
theorem dL_days_413 : decode cL_days 413 = .ok (.iload 6, 2) := by decide +kernel
theorem dL_days_415 : decode cL_days 415 = .ok (.ifCond .eq 55, 3) := by decide +kernel
theorem dL_days_418 : decode cL_days 418 = .ok (.iload_n 2, 1) := by decide +kernel
theorem dL_days_419 : decode cL_days 419 = .ok (.iload_n 3, 1) := by decide +kernel
theorem dL_days_420 : decode cL_days 420 = .ok (.if_icmp .ne 50, 3) := by decide +kernel
theorem dL_days_423 : decode cL_days 423 = .ok (.aload_n 0, 1) := by decide +kernel
theorem dL_days_424 : decode cL_days 424 = .ok (.invokevirtual 79, 3) := by decide +kernel
theorem dL_days_427 : decode cL_days 427 = .ok (.iload 4, 2) := by decide +kernel
theorem dL_days_429 : decode cL_days 429 = .ok (.if_icmp .ne 41, 3) := by decide +kernel
theorem dL_days_432 : decode cL_days 432 = .ok (.aload_n 0, 1) := by decide +kernel
theorem dL_days_433 : decode cL_days 433 = .ok (.invokevirtual 82, 3) := by decide +kernel
theorem dL_days_436 : decode cL_days 436 = .ok (.iload 5, 2) := by decide +kernel
theorem dL_days_438 : decode cL_days 438 = .ok (.if_icmp .ne 32, 3) := by decide +kernel
theorem dL_days_441 : decode cL_days 441 = .ok (.iload 5, 2) := by decide +kernel
theorem dL_days_443 : decode cL_days 443 = .ok (.bipush 40, 2) := by decide +kernel
theorem dL_days_445 : decode cL_days 445 = .ok (.if_icmp .gt 25, 3) := by decide +kernel
theorem dL_days_448 : decode cL_days 448 = .ok (.iload_n 1, 1) := by decide +kernel
theorem dL_days_449 : decode cL_days 449 = .ok (.ifCond .eq 17, 3) := by decide +kernel
theorem dL_days_452 : decode cL_days 452 = .ok (.iload 4, 2) := by decide +kernel
theorem dL_days_454 : decode cL_days 454 = .ok (.ifCond .le 16, 3) := by decide +kernel
theorem dL_days_457 : decode cL_days 457 = .ok (.aload_n 0, 1) := by decide +kernel
theorem dL_days_458 : decode cL_days 458 = .ok (.invokevirtual 85, 3) := by decide +kernel
theorem dL_days_461 : decode cL_days 461 = .ok (.lconst 0, 1) := by decide +kernel
theorem dL_days_462 : decode cL_days 462 = .ok (.lcmp, 1) := by decide +kernel
theorem dL_days_463 : decode cL_days 463 = .ok (.ifCond .le 7, 3) := by decide +kernel
theorem dL_days_466 : decode cL_days 466 = .ok (.iconst 1, 1) := by decide +kernel
theorem dL_days_467 : decode cL_days 467 = .ok (.goto 4, 3) := by decide +kernel
theorem dL_days_470 : decode cL_days 470 = .ok (.iconst 0, 1) := by decide +kernel
theorem dL_days_471 : decode cL_days 471 = .ok (.ireturn, 1) := by decide +kernel
