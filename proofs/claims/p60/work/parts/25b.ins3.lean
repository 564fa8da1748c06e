/-! THE SMALL MACHINE: instructions, part 3 (by program) -/
theorem i0_0 : am_ins 0 0 = some (.new 223) := by decide +kernel
theorem i0_3 : am_ins 0 3 = some (.dup) := by decide +kernel
theorem i0_4 : am_ins 0 4 = some (.aload_n 0) := by decide +kernel
theorem i0_5 : am_ins 0 5 = some (.invokespecial 350) := by decide +kernel
theorem i0_8 : am_ins 0 8 = some (.astore_n 1) := by decide +kernel
theorem i0_9 : am_ins 0 9 = some (.new 142) := by decide +kernel
theorem i0_12 : am_ins 0 12 = some (.dup) := by decide +kernel
theorem i0_13 : am_ins 0 13 = some (.aload_n 1) := by decide +kernel
theorem i0_14 : am_ins 0 14 = some (.invokespecial 353) := by decide +kernel
theorem i0_17 : am_ins 0 17 = some (.astore_n 2) := by decide +kernel
theorem i0_18 : am_ins 0 18 = some (.new 18) := by decide +kernel
theorem i0_21 : am_ins 0 21 = some (.dup) := by decide +kernel
theorem i0_22 : am_ins 0 22 = some (.invokespecial 356) := by decide +kernel
theorem i0_25 : am_ins 0 25 = some (.astore_n 3) := by decide +kernel
theorem i0_26 : am_ins 0 26 = some (.aload_n 3) := by decide +kernel
theorem i0_27 : am_ins 0 27 = some (.bipush 31) := by decide +kernel
theorem i0_29 : am_ins 0 29 = some (.iconst 0) := by decide +kernel
theorem i0_30 : am_ins 0 30 = some (.iconst 0) := by decide +kernel
theorem i0_31 : am_ins 0 31 = some (.iconst 0) := by decide +kernel
theorem i0_32 : am_ins 0 32 = some (.iconst 0) := by decide +kernel
theorem i0_33 : am_ins 0 33 = some (.invokestatic 234) := by decide +kernel
theorem i0_36 : am_ins 0 36 = some (.iconst 1) := by decide +kernel
theorem i0_37 : am_ins 0 37 = some (.if_icmp .ne 58) := by decide +kernel
theorem i0_40 : am_ins 0 40 = some (.aload_n 3) := by decide +kernel
theorem i0_41 : am_ins 0 41 = some (.iconst 0) := by decide +kernel
theorem i0_42 : am_ins 0 42 = some (.iconst 0) := by decide +kernel
theorem i0_43 : am_ins 0 43 = some (.iconst 0) := by decide +kernel
theorem i0_44 : am_ins 0 44 = some (.iconst 0) := by decide +kernel
theorem i0_45 : am_ins 0 45 = some (.iconst 0) := by decide +kernel
theorem i0_46 : am_ins 0 46 = some (.invokestatic 234) := by decide +kernel
theorem i0_49 : am_ins 0 49 = some (.iconst 1) := by decide +kernel
theorem i0_50 : am_ins 0 50 = some (.if_icmp .ne 45) := by decide +kernel
theorem i0_53 : am_ins 0 53 = some (.aload_n 3) := by decide +kernel
theorem i0_54 : am_ins 0 54 = some (.bipush 25) := by decide +kernel
theorem i0_56 : am_ins 0 56 = some (.iconst 0) := by decide +kernel
theorem i0_57 : am_ins 0 57 = some (.iconst 0) := by decide +kernel
theorem i0_58 : am_ins 0 58 = some (.iconst 0) := by decide +kernel
theorem i0_59 : am_ins 0 59 = some (.iconst 0) := by decide +kernel
theorem i0_60 : am_ins 0 60 = some (.invokestatic 234) := by decide +kernel
theorem i0_63 : am_ins 0 63 = some (.iconst 1) := by decide +kernel
theorem i0_64 : am_ins 0 64 = some (.if_icmp .ne 31) := by decide +kernel
theorem i0_67 : am_ins 0 67 = some (.aload_n 3) := by decide +kernel
theorem i0_68 : am_ins 0 68 = some (.bipush 15) := by decide +kernel
theorem i0_70 : am_ins 0 70 = some (.iconst 0) := by decide +kernel
theorem i0_71 : am_ins 0 71 = some (.iconst 0) := by decide +kernel
theorem i0_72 : am_ins 0 72 = some (.iconst 0) := by decide +kernel
theorem i0_73 : am_ins 0 73 = some (.iconst 0) := by decide +kernel
theorem i0_74 : am_ins 0 74 = some (.invokestatic 234) := by decide +kernel
theorem i0_77 : am_ins 0 77 = some (.iconst 2) := by decide +kernel
theorem i0_78 : am_ins 0 78 = some (.if_icmp .ne 17) := by decide +kernel
theorem i0_81 : am_ins 0 81 = some (.aload_n 3) := by decide +kernel
theorem i0_82 : am_ins 0 82 = some (.invokevirtual 158) := by decide +kernel
theorem i0_85 : am_ins 0 85 = some (.ifCond .ne 10) := by decide +kernel
theorem i0_88 : am_ins 0 88 = some (.aload_n 3) := by decide +kernel
theorem i0_89 : am_ins 0 89 = some (.invokevirtual 357) := by decide +kernel
theorem i0_92 : am_ins 0 92 = some (.ifCond .eq 5) := by decide +kernel
theorem i0_95 : am_ins 0 95 = some (.iconst 0) := by decide +kernel
theorem i0_96 : am_ins 0 96 = some (.ireturn) := by decide +kernel
theorem i0_97 : am_ins 0 97 = some (.aload_n 3) := by decide +kernel
theorem i0_98 : am_ins 0 98 = some (.aload_n 2) := by decide +kernel
theorem i0_99 : am_ins 0 99 = some (.getfield 360) := by decide +kernel
theorem i0_102 : am_ins 0 102 = some (.invokevirtual 364) := by decide +kernel
theorem i0_105 : am_ins 0 105 = some (.invokestatic 368) := by decide +kernel
theorem i0_108 : am_ins 0 108 = some (.aload_n 2) := by decide +kernel
theorem i0_109 : am_ins 0 109 = some (.getfield 152) := by decide +kernel
theorem i0_112 : am_ins 0 112 = some (.if_icmp .ne 34) := by decide +kernel
theorem i0_115 : am_ins 0 115 = some (.aload_n 3) := by decide +kernel
theorem i0_116 : am_ins 0 116 = some (.invokevirtual 372) := by decide +kernel
theorem i0_119 : am_ins 0 119 = some (.ifCond .ne 27) := by decide +kernel
theorem i0_122 : am_ins 0 122 = some (.aload_n 3) := by decide +kernel
theorem i0_123 : am_ins 0 123 = some (.invokevirtual 375) := by decide +kernel
theorem i0_126 : am_ins 0 126 = some (.iconst (-1)) := by decide +kernel
theorem i0_127 : am_ins 0 127 = some (.if_icmp .ne 19) := by decide +kernel
theorem i0_130 : am_ins 0 130 = some (.aload_n 3) := by decide +kernel
theorem i0_131 : am_ins 0 131 = some (.invokevirtual 378) := by decide +kernel
theorem i0_134 : am_ins 0 134 = some (.iconst (-1)) := by decide +kernel
theorem i0_135 : am_ins 0 135 = some (.if_icmp .ne 11) := by decide +kernel
theorem i0_138 : am_ins 0 138 = some (.aload_n 3) := by decide +kernel
theorem i0_139 : am_ins 0 139 = some (.aload_n 2) := by decide +kernel
theorem i0_140 : am_ins 0 140 = some (.invokestatic 381) := by decide +kernel
theorem i0_143 : am_ins 0 143 = some (.ifCond .ne 5) := by decide +kernel
theorem i0_146 : am_ins 0 146 = some (.iconst 0) := by decide +kernel
theorem i0_147 : am_ins 0 147 = some (.ireturn) := by decide +kernel
theorem i0_148 : am_ins 0 148 = some (.iconst 0) := by decide +kernel
theorem i0_149 : am_ins 0 149 = some (.istore 4) := by decide +kernel
theorem i0_151 : am_ins 0 151 = some (.iload 4) := by decide +kernel
theorem i0_153 : am_ins 0 153 = some (.aload_n 2) := by decide +kernel
theorem i0_154 : am_ins 0 154 = some (.getfield 231) := by decide +kernel
theorem i0_157 : am_ins 0 157 = some (.if_icmp .ge 49) := by decide +kernel
theorem i0_160 : am_ins 0 160 = some (.aload_n 3) := by decide +kernel
theorem i0_161 : am_ins 0 161 = some (.iload 4) := by decide +kernel
theorem i0_163 : am_ins 0 163 = some (.iconst 0) := by decide +kernel
theorem i0_164 : am_ins 0 164 = some (.invokevirtual 36) := by decide +kernel
theorem i0_167 : am_ins 0 167 = some (.aload_n 2) := by decide +kernel
theorem i0_168 : am_ins 0 168 = some (.getfield 241) := by decide +kernel
theorem i0_171 : am_ins 0 171 = some (.iload 4) := by decide +kernel
theorem i0_173 : am_ins 0 173 = some (.aaload) := by decide +kernel
theorem i0_174 : am_ins 0 174 = some (.iconst 0) := by decide +kernel
theorem i0_175 : am_ins 0 175 = some (.iaload) := by decide +kernel
theorem i0_176 : am_ins 0 176 = some (.if_icmp .ne 22) := by decide +kernel
theorem i0_179 : am_ins 0 179 = some (.aload_n 3) := by decide +kernel
theorem i0_180 : am_ins 0 180 = some (.iload 4) := by decide +kernel
theorem i0_182 : am_ins 0 182 = some (.iconst 1) := by decide +kernel
theorem i0_183 : am_ins 0 183 = some (.invokevirtual 36) := by decide +kernel
theorem i0_186 : am_ins 0 186 = some (.aload_n 2) := by decide +kernel
theorem i0_187 : am_ins 0 187 = some (.getfield 241) := by decide +kernel
theorem i0_190 : am_ins 0 190 = some (.iload 4) := by decide +kernel
theorem i0_192 : am_ins 0 192 = some (.aaload) := by decide +kernel
theorem i0_193 : am_ins 0 193 = some (.iconst 1) := by decide +kernel
theorem i0_194 : am_ins 0 194 = some (.iaload) := by decide +kernel
theorem i0_195 : am_ins 0 195 = some (.if_icmp .eq 5) := by decide +kernel
theorem i0_198 : am_ins 0 198 = some (.iconst 0) := by decide +kernel
theorem i0_199 : am_ins 0 199 = some (.ireturn) := by decide +kernel
theorem i0_200 : am_ins 0 200 = some (.iinc 4 1) := by decide +kernel
theorem i0_203 : am_ins 0 203 = some (.goto (-52)) := by decide +kernel
theorem i0_206 : am_ins 0 206 = some (.aload_n 1) := by decide +kernel
theorem i0_207 : am_ins 0 207 = some (.iconst 1) := by decide +kernel
theorem i0_208 : am_ins 0 208 = some (.bipush 14) := by decide +kernel
theorem i0_210 : am_ins 0 210 = some (.invokevirtual 222) := by decide +kernel
theorem i0_213 : am_ins 0 213 = some (.istore 4) := by decide +kernel
theorem i0_215 : am_ins 0 215 = some (.iload 4) := by decide +kernel
theorem i0_217 : am_ins 0 217 = some (.ifCond .le 52) := by decide +kernel
theorem i0_220 : am_ins 0 220 = some (.aload_n 3) := by decide +kernel
theorem i0_221 : am_ins 0 221 = some (.aload_n 2) := by decide +kernel
theorem i0_222 : am_ins 0 222 = some (.invokestatic 385) := by decide +kernel
theorem i0_225 : am_ins 0 225 = some (.ifCond .eq 36) := by decide +kernel
theorem i0_228 : am_ins 0 228 = some (.aload_n 3) := by decide +kernel
theorem i0_229 : am_ins 0 229 = some (.aload_n 2) := by decide +kernel
theorem i0_230 : am_ins 0 230 = some (.invokestatic 388) := by decide +kernel
theorem i0_233 : am_ins 0 233 = some (.ifCond .eq 28) := by decide +kernel
theorem i0_236 : am_ins 0 236 = some (.aload_n 3) := by decide +kernel
theorem i0_237 : am_ins 0 237 = some (.aload_n 2) := by decide +kernel
theorem i0_238 : am_ins 0 238 = some (.invokestatic 391) := by decide +kernel
theorem i0_241 : am_ins 0 241 = some (.ifCond .eq 20) := by decide +kernel
theorem i0_244 : am_ins 0 244 = some (.aload_n 3) := by decide +kernel
theorem i0_245 : am_ins 0 245 = some (.aload_n 2) := by decide +kernel
theorem i0_246 : am_ins 0 246 = some (.aload_n 1) := by decide +kernel
theorem i0_247 : am_ins 0 247 = some (.invokestatic 394) := by decide +kernel
theorem i0_250 : am_ins 0 250 = some (.ifCond .eq 11) := by decide +kernel
theorem i0_253 : am_ins 0 253 = some (.aload_n 3) := by decide +kernel
theorem i0_254 : am_ins 0 254 = some (.aload_n 2) := by decide +kernel
theorem i0_255 : am_ins 0 255 = some (.invokestatic 381) := by decide +kernel
theorem i0_258 : am_ins 0 258 = some (.ifCond .ne 5) := by decide +kernel
theorem i0_261 : am_ins 0 261 = some (.iconst 0) := by decide +kernel
theorem i0_262 : am_ins 0 262 = some (.ireturn) := by decide +kernel
theorem i0_263 : am_ins 0 263 = some (.iinc 4 (-1)) := by decide +kernel
theorem i0_266 : am_ins 0 266 = some (.goto (-51)) := by decide +kernel
theorem i0_269 : am_ins 0 269 = some (.aload_n 3) := by decide +kernel
theorem i0_270 : am_ins 0 270 = some (.iconst 0) := by decide +kernel
theorem i0_271 : am_ins 0 271 = some (.bipush 8) := by decide +kernel
theorem i0_273 : am_ins 0 273 = some (.iconst 0) := by decide +kernel
theorem i0_274 : am_ins 0 274 = some (.iconst 0) := by decide +kernel
theorem i0_275 : am_ins 0 275 = some (.iconst 0) := by decide +kernel
theorem i0_276 : am_ins 0 276 = some (.invokestatic 234) := by decide +kernel
theorem i0_279 : am_ins 0 279 = some (.iconst 3) := by decide +kernel
theorem i0_280 : am_ins 0 280 = some (.if_icmp .ne 93) := by decide +kernel
theorem i0_283 : am_ins 0 283 = some (.aload_n 3) := by decide +kernel
theorem i0_284 : am_ins 0 284 = some (.iconst 1) := by decide +kernel
theorem i0_285 : am_ins 0 285 = some (.aload_n 2) := by decide +kernel
theorem i0_286 : am_ins 0 286 = some (.getfield 231) := by decide +kernel
theorem i0_289 : am_ins 0 289 = some (.iconst 0) := by decide +kernel
theorem i0_290 : am_ins 0 290 = some (.iconst 0) := by decide +kernel
theorem i0_291 : am_ins 0 291 = some (.iconst 0) := by decide +kernel
theorem i0_292 : am_ins 0 292 = some (.invokestatic 234) := by decide +kernel
theorem i0_295 : am_ins 0 295 = some (.iconst 2) := by decide +kernel
theorem i0_296 : am_ins 0 296 = some (.if_icmp .ne 77) := by decide +kernel
theorem i0_299 : am_ins 0 299 = some (.aload_n 3) := by decide +kernel
theorem i0_300 : am_ins 0 300 = some (.iconst 2) := by decide +kernel
theorem i0_301 : am_ins 0 301 = some (.aload_n 2) := by decide +kernel
theorem i0_302 : am_ins 0 302 = some (.getfield 152) := by decide +kernel
theorem i0_305 : am_ins 0 305 = some (.iconst 0) := by decide +kernel
theorem i0_306 : am_ins 0 306 = some (.iconst 0) := by decide +kernel
theorem i0_307 : am_ins 0 307 = some (.iconst 0) := by decide +kernel
theorem i0_308 : am_ins 0 308 = some (.invokestatic 234) := by decide +kernel
theorem i0_311 : am_ins 0 311 = some (.iconst 2) := by decide +kernel
theorem i0_312 : am_ins 0 312 = some (.if_icmp .ne 61) := by decide +kernel
theorem i0_315 : am_ins 0 315 = some (.aload_n 3) := by decide +kernel
theorem i0_316 : am_ins 0 316 = some (.iconst 3) := by decide +kernel
theorem i0_317 : am_ins 0 317 = some (.aload_n 2) := by decide +kernel
theorem i0_318 : am_ins 0 318 = some (.getfield 155) := by decide +kernel
theorem i0_321 : am_ins 0 321 = some (.iconst 0) := by decide +kernel
theorem i0_322 : am_ins 0 322 = some (.iconst 0) := by decide +kernel
theorem i0_323 : am_ins 0 323 = some (.iconst 0) := by decide +kernel
theorem i0_324 : am_ins 0 324 = some (.invokestatic 234) := by decide +kernel
theorem i0_327 : am_ins 0 327 = some (.iconst 2) := by decide +kernel
theorem i0_328 : am_ins 0 328 = some (.if_icmp .ne 45) := by decide +kernel
theorem i0_331 : am_ins 0 331 = some (.aload_n 3) := by decide +kernel
theorem i0_332 : am_ins 0 332 = some (.iconst 5) := by decide +kernel
theorem i0_333 : am_ins 0 333 = some (.iconst 0) := by decide +kernel
theorem i0_334 : am_ins 0 334 = some (.iconst 0) := by decide +kernel
theorem i0_335 : am_ins 0 335 = some (.iconst 0) := by decide +kernel
theorem i0_336 : am_ins 0 336 = some (.iconst 0) := by decide +kernel
theorem i0_337 : am_ins 0 337 = some (.invokestatic 234) := by decide +kernel
theorem i0_340 : am_ins 0 340 = some (.iconst 3) := by decide +kernel
theorem i0_341 : am_ins 0 341 = some (.if_icmp .ne 32) := by decide +kernel
theorem i0_344 : am_ins 0 344 = some (.aload_n 3) := by decide +kernel
theorem i0_345 : am_ins 0 345 = some (.iconst 5) := by decide +kernel
theorem i0_346 : am_ins 0 346 = some (.sipush 201) := by decide +kernel
theorem i0_349 : am_ins 0 349 = some (.iconst 0) := by decide +kernel
theorem i0_350 : am_ins 0 350 = some (.iconst 0) := by decide +kernel
theorem i0_351 : am_ins 0 351 = some (.iconst 0) := by decide +kernel
theorem i0_352 : am_ins 0 352 = some (.invokestatic 234) := by decide +kernel
theorem i0_355 : am_ins 0 355 = some (.iconst 3) := by decide +kernel
theorem i0_356 : am_ins 0 356 = some (.if_icmp .ne 17) := by decide +kernel
theorem i0_359 : am_ins 0 359 = some (.aload_n 3) := by decide +kernel
theorem i0_360 : am_ins 0 360 = some (.bipush 7) := by decide +kernel
theorem i0_362 : am_ins 0 362 = some (.iconst 1) := by decide +kernel
theorem i0_363 : am_ins 0 363 = some (.iconst 3) := by decide +kernel
theorem i0_364 : am_ins 0 364 = some (.iconst 0) := by decide +kernel
theorem i0_365 : am_ins 0 365 = some (.iconst 0) := by decide +kernel
theorem i0_366 : am_ins 0 366 = some (.invokestatic 234) := by decide +kernel
theorem i0_369 : am_ins 0 369 = some (.iconst 3) := by decide +kernel
theorem i0_370 : am_ins 0 370 = some (.if_icmp .eq 5) := by decide +kernel
theorem i0_373 : am_ins 0 373 = some (.iconst 0) := by decide +kernel
theorem i0_374 : am_ins 0 374 = some (.ireturn) := by decide +kernel
theorem i0_375 : am_ins 0 375 = some (.aload_n 3) := by decide +kernel
theorem i0_376 : am_ins 0 376 = some (.bipush 12) := by decide +kernel
theorem i0_378 : am_ins 0 378 = some (.bipush 8) := by decide +kernel
theorem i0_380 : am_ins 0 380 = some (.iconst 0) := by decide +kernel
theorem i0_381 : am_ins 0 381 = some (.iconst 0) := by decide +kernel
theorem i0_382 : am_ins 0 382 = some (.iconst 0) := by decide +kernel
theorem i0_383 : am_ins 0 383 = some (.invokestatic 234) := by decide +kernel
theorem i0_386 : am_ins 0 386 = some (.iconst 3) := by decide +kernel
theorem i0_387 : am_ins 0 387 = some (.if_icmp .ne 137) := by decide +kernel
theorem i0_390 : am_ins 0 390 = some (.aload_n 3) := by decide +kernel
theorem i0_391 : am_ins 0 391 = some (.bipush 30) := by decide +kernel
theorem i0_393 : am_ins 0 393 = some (.iconst 2) := by decide +kernel
theorem i0_394 : am_ins 0 394 = some (.iconst 0) := by decide +kernel
theorem i0_395 : am_ins 0 395 = some (.iconst 0) := by decide +kernel
theorem i0_396 : am_ins 0 396 = some (.iconst 0) := by decide +kernel
theorem i0_397 : am_ins 0 397 = some (.invokestatic 234) := by decide +kernel
theorem i0_400 : am_ins 0 400 = some (.iconst 3) := by decide +kernel
theorem i0_401 : am_ins 0 401 = some (.if_icmp .ne 123) := by decide +kernel
theorem i0_404 : am_ins 0 404 = some (.aload_n 3) := by decide +kernel
theorem i0_405 : am_ins 0 405 = some (.bipush 18) := by decide +kernel
theorem i0_407 : am_ins 0 407 = some (.iconst 4) := by decide +kernel
theorem i0_408 : am_ins 0 408 = some (.iconst 0) := by decide +kernel
theorem i0_409 : am_ins 0 409 = some (.iconst 0) := by decide +kernel
theorem i0_410 : am_ins 0 410 = some (.iconst 0) := by decide +kernel
theorem i0_411 : am_ins 0 411 = some (.invokestatic 234) := by decide +kernel
theorem i0_414 : am_ins 0 414 = some (.iconst 3) := by decide +kernel
theorem i0_415 : am_ins 0 415 = some (.if_icmp .ne 109) := by decide +kernel
theorem i0_418 : am_ins 0 418 = some (.aload_n 3) := by decide +kernel
theorem i0_419 : am_ins 0 419 = some (.bipush 20) := by decide +kernel
theorem i0_421 : am_ins 0 421 = some (.aload_n 2) := by decide +kernel
theorem i0_422 : am_ins 0 422 = some (.getfield 231) := by decide +kernel
theorem i0_425 : am_ins 0 425 = some (.iconst 0) := by decide +kernel
theorem i0_426 : am_ins 0 426 = some (.iconst 0) := by decide +kernel
theorem i0_427 : am_ins 0 427 = some (.iconst 0) := by decide +kernel
theorem i0_428 : am_ins 0 428 = some (.invokestatic 234) := by decide +kernel
theorem i0_431 : am_ins 0 431 = some (.iconst 2) := by decide +kernel
theorem i0_432 : am_ins 0 432 = some (.if_icmp .ne 92) := by decide +kernel
theorem i0_435 : am_ins 0 435 = some (.aload_n 3) := by decide +kernel
theorem i0_436 : am_ins 0 436 = some (.bipush 21) := by decide +kernel
theorem i0_438 : am_ins 0 438 = some (.iconst 1) := by decide +kernel
theorem i0_439 : am_ins 0 439 = some (.bipush 10) := by decide +kernel
theorem i0_441 : am_ins 0 441 = some (.iconst 0) := by decide +kernel
theorem i0_442 : am_ins 0 442 = some (.iconst 0) := by decide +kernel
theorem i0_443 : am_ins 0 443 = some (.invokestatic 234) := by decide +kernel
theorem i0_446 : am_ins 0 446 = some (.iconst 3) := by decide +kernel
theorem i0_447 : am_ins 0 447 = some (.if_icmp .ne 77) := by decide +kernel
theorem i0_450 : am_ins 0 450 = some (.aload_n 3) := by decide +kernel
theorem i0_451 : am_ins 0 451 = some (.bipush 21) := by decide +kernel
theorem i0_453 : am_ins 0 453 = some (.iconst 1) := by decide +kernel
theorem i0_454 : am_ins 0 454 = some (.iconst 1) := by decide +kernel
theorem i0_455 : am_ins 0 455 = some (.bipush 100) := by decide +kernel
theorem i0_457 : am_ins 0 457 = some (.iconst 0) := by decide +kernel
theorem i0_458 : am_ins 0 458 = some (.invokestatic 234) := by decide +kernel
theorem i0_461 : am_ins 0 461 = some (.iconst 3) := by decide +kernel
theorem i0_462 : am_ins 0 462 = some (.if_icmp .ne 62) := by decide +kernel
theorem i0_465 : am_ins 0 465 = some (.aload_n 3) := by decide +kernel
theorem i0_466 : am_ins 0 466 = some (.bipush 21) := by decide +kernel
theorem i0_468 : am_ins 0 468 = some (.iconst 1) := by decide +kernel
theorem i0_469 : am_ins 0 469 = some (.iconst 1) := by decide +kernel
theorem i0_470 : am_ins 0 470 = some (.iconst 0) := by decide +kernel
theorem i0_471 : am_ins 0 471 = some (.sipush 1000) := by decide +kernel
theorem i0_474 : am_ins 0 474 = some (.invokestatic 234) := by decide +kernel
theorem i0_477 : am_ins 0 477 = some (.iconst 3) := by decide +kernel
theorem i0_478 : am_ins 0 478 = some (.if_icmp .ne 46) := by decide +kernel
theorem i0_481 : am_ins 0 481 = some (.aload_n 3) := by decide +kernel
theorem i0_482 : am_ins 0 482 = some (.bipush 17) := by decide +kernel
theorem i0_484 : am_ins 0 484 = some (.aload_n 2) := by decide +kernel
theorem i0_485 : am_ins 0 485 = some (.getfield 257) := by decide +kernel
theorem i0_488 : am_ins 0 488 = some (.iconst 0) := by decide +kernel
theorem i0_489 : am_ins 0 489 = some (.iconst 0) := by decide +kernel
theorem i0_490 : am_ins 0 490 = some (.iconst 0) := by decide +kernel
theorem i0_491 : am_ins 0 491 = some (.invokestatic 234) := by decide +kernel
theorem i0_494 : am_ins 0 494 = some (.iconst 2) := by decide +kernel
theorem i0_495 : am_ins 0 495 = some (.if_icmp .ne 29) := by decide +kernel
theorem i0_498 : am_ins 0 498 = some (.aload_n 3) := by decide +kernel
theorem i0_499 : am_ins 0 499 = some (.bipush 24) := by decide +kernel
theorem i0_501 : am_ins 0 501 = some (.iconst 2) := by decide +kernel
theorem i0_502 : am_ins 0 502 = some (.iconst 1) := by decide +kernel
theorem i0_503 : am_ins 0 503 = some (.iconst 0) := by decide +kernel
theorem i0_504 : am_ins 0 504 = some (.iconst 0) := by decide +kernel
theorem i0_505 : am_ins 0 505 = some (.invokestatic 234) := by decide +kernel
theorem i0_508 : am_ins 0 508 = some (.iconst 3) := by decide +kernel
theorem i0_509 : am_ins 0 509 = some (.if_icmp .ne 15) := by decide +kernel
theorem i0_512 : am_ins 0 512 = some (.aload_n 3) := by decide +kernel
theorem i0_513 : am_ins 0 513 = some (.aload_n 2) := by decide +kernel
theorem i0_514 : am_ins 0 514 = some (.invokestatic 381) := by decide +kernel
theorem i0_517 : am_ins 0 517 = some (.ifCond .eq 7) := by decide +kernel
theorem i0_520 : am_ins 0 520 = some (.iconst 1) := by decide +kernel
theorem i0_521 : am_ins 0 521 = some (.goto 4) := by decide +kernel
theorem i0_524 : am_ins 0 524 = some (.iconst 0) := by decide +kernel
theorem i0_525 : am_ins 0 525 = some (.ireturn) := by decide +kernel
theorem i195_0 : am_ins 195 0 = some (.aload_n 0) := by decide +kernel
theorem i195_1 : am_ins 195 1 = some (.invokespecial 1) := by decide +kernel
theorem i195_4 : am_ins 195 4 = some (.aload_n 0) := by decide +kernel
theorem i195_5 : am_ins 195 5 = some (.new 7) := by decide +kernel
theorem i195_8 : am_ins 195 8 = some (.dup) := by decide +kernel
theorem i195_9 : am_ins 195 9 = some (.ldc 9) := by decide +kernel
theorem i195_11 : am_ins 195 11 = some (.invokespecial 11) := by decide +kernel
theorem i195_14 : am_ins 195 14 = some (.putfield 14) := by decide +kernel
theorem i195_17 : am_ins 195 17 = some (.aload_n 0) := by decide +kernel
theorem i195_18 : am_ins 195 18 = some (.iconst 4) := by decide +kernel
theorem i195_19 : am_ins 195 19 = some (.anewarray 20) := by decide +kernel
theorem i195_22 : am_ins 195 22 = some (.putfield 22) := by decide +kernel
theorem i195_25 : am_ins 195 25 = some (.aload_n 0) := by decide +kernel
theorem i195_26 : am_ins 195 26 = some (.bipush 6) := by decide +kernel
theorem i195_28 : am_ins 195 28 = some (.anewarray 20) := by decide +kernel
theorem i195_31 : am_ins 195 31 = some (.putfield 26) := by decide +kernel
theorem i195_34 : am_ins 195 34 = some (.aload_n 0) := by decide +kernel
theorem i195_35 : am_ins 195 35 = some (.bipush 60) := by decide +kernel
theorem i195_37 : am_ins 195 37 = some (.anewarray 20) := by decide +kernel
theorem i195_40 : am_ins 195 40 = some (.putfield 29) := by decide +kernel
theorem i195_43 : am_ins 195 43 = some (.aload_n 0) := by decide +kernel
theorem i195_44 : am_ins 195 44 = some (.bipush 90) := by decide +kernel
theorem i195_46 : am_ins 195 46 = some (.anewarray 32) := by decide +kernel
theorem i195_49 : am_ins 195 49 = some (.putfield 34) := by decide +kernel
theorem i195_52 : am_ins 195 52 = some (.aload_n 0) := by decide +kernel
theorem i195_53 : am_ins 195 53 = some (.bipush 16) := by decide +kernel
theorem i195_55 : am_ins 195 55 = some (.anewarray 38) := by decide +kernel
theorem i195_58 : am_ins 195 58 = some (.putfield 40) := by decide +kernel
theorem i195_61 : am_ins 195 61 = some (.aload_n 0) := by decide +kernel
theorem i195_62 : am_ins 195 62 = some (.sipush 201) := by decide +kernel
theorem i195_65 : am_ins 195 65 = some (.newarray .int) := by decide +kernel
theorem i195_67 : am_ins 195 67 = some (.putfield 44) := by decide +kernel
theorem i195_70 : am_ins 195 70 = some (.aload_n 0) := by decide +kernel
theorem i195_71 : am_ins 195 71 = some (.bipush 8) := by decide +kernel
theorem i195_73 : am_ins 195 73 = some (.newarray .int) := by decide +kernel
theorem i195_75 : am_ins 195 75 = some (.putfield 47) := by decide +kernel
theorem i195_78 : am_ins 195 78 = some (.aload_n 0) := by decide +kernel
theorem i195_79 : am_ins 195 79 = some (.aload_n 1) := by decide +kernel
theorem i195_80 : am_ins 195 80 = some (.iconst 0) := by decide +kernel
theorem i195_81 : am_ins 195 81 = some (.iconst 2) := by decide +kernel
theorem i195_82 : am_ins 195 82 = some (.invokevirtual 50) := by decide +kernel
theorem i195_85 : am_ins 195 85 = some (.putfield 56) := by decide +kernel
theorem i195_88 : am_ins 195 88 = some (.aload_n 0) := by decide +kernel
theorem i195_89 : am_ins 195 89 = some (.aload_n 1) := by decide +kernel
theorem i195_90 : am_ins 195 90 = some (.iconst 1) := by decide +kernel
theorem i195_91 : am_ins 195 91 = some (.bipush 6) := by decide +kernel
theorem i195_93 : am_ins 195 93 = some (.invokevirtual 50) := by decide +kernel
theorem i195_96 : am_ins 195 96 = some (.putfield 60) := by decide +kernel
theorem i195_99 : am_ins 195 99 = some (.aload_n 0) := by decide +kernel
theorem i195_100 : am_ins 195 100 = some (.getfield 14) := by decide +kernel
theorem i195_103 : am_ins 195 103 = some (.aload_n 0) := by decide +kernel
theorem i195_104 : am_ins 195 104 = some (.getfield 56) := by decide +kernel
theorem i195_107 : am_ins 195 107 = some (.invokevirtual 63) := by decide +kernel
theorem i195_110 : am_ins 195 110 = some (.ldc 67) := by decide +kernel
theorem i195_112 : am_ins 195 112 = some (.invokevirtual 69) := by decide +kernel
theorem i195_115 : am_ins 195 115 = some (.aload_n 0) := by decide +kernel
theorem i195_116 : am_ins 195 116 = some (.getfield 60) := by decide +kernel
theorem i195_119 : am_ins 195 119 = some (.invokevirtual 63) := by decide +kernel
theorem i195_122 : am_ins 195 122 = some (.pop) := by decide +kernel
theorem i195_123 : am_ins 195 123 = some (.aload_n 1) := by decide +kernel
theorem i195_124 : am_ins 195 124 = some (.iconst 1) := by decide +kernel
theorem i195_125 : am_ins 195 125 = some (.iconst 3) := by decide +kernel
theorem i195_126 : am_ins 195 126 = some (.invokevirtual 50) := by decide +kernel
theorem i195_129 : am_ins 195 129 = some (.istore_n 2) := by decide +kernel
theorem i195_130 : am_ins 195 130 = some (.iload_n 2) := by decide +kernel
theorem i195_131 : am_ins 195 131 = some (.ifCond .le 88) := by decide +kernel
theorem i195_134 : am_ins 195 134 = some (.aload_n 1) := by decide +kernel
theorem i195_135 : am_ins 195 135 = some (.iconst 1) := by decide +kernel
theorem i195_136 : am_ins 195 136 = some (.bipush 6) := by decide +kernel
theorem i195_138 : am_ins 195 138 = some (.invokevirtual 50) := by decide +kernel
theorem i195_141 : am_ins 195 141 = some (.bipush 6) := by decide +kernel
theorem i195_143 : am_ins 195 143 = some (.aload_n 0) := by decide +kernel
theorem i195_144 : am_ins 195 144 = some (.getfield 72) := by decide +kernel
theorem i195_147 : am_ins 195 147 = some (.imul) := by decide +kernel
theorem i195_148 : am_ins 195 148 = some (.iadd) := by decide +kernel
theorem i195_149 : am_ins 195 149 = some (.istore_n 3) := by decide +kernel
theorem i195_150 : am_ins 195 150 = some (.aload_n 1) := by decide +kernel
theorem i195_151 : am_ins 195 151 = some (.iconst 1) := by decide +kernel
theorem i195_152 : am_ins 195 152 = some (.iconst 5) := by decide +kernel
theorem i195_153 : am_ins 195 153 = some (.invokevirtual 50) := by decide +kernel
theorem i195_156 : am_ins 195 156 = some (.istore 4) := by decide +kernel
theorem i195_158 : am_ins 195 158 = some (.aload_n 0) := by decide +kernel
theorem i195_159 : am_ins 195 159 = some (.getfield 22) := by decide +kernel
theorem i195_162 : am_ins 195 162 = some (.aload_n 0) := by decide +kernel
theorem i195_163 : am_ins 195 163 = some (.getfield 72) := by decide +kernel
theorem i195_166 : am_ins 195 166 = some (.iconst 2) := by decide +kernel
theorem i195_167 : am_ins 195 167 = some (.newarray .int) := by decide +kernel
theorem i195_169 : am_ins 195 169 = some (.dup) := by decide +kernel
theorem i195_170 : am_ins 195 170 = some (.iconst 0) := by decide +kernel
theorem i195_171 : am_ins 195 171 = some (.iload_n 3) := by decide +kernel
theorem i195_172 : am_ins 195 172 = some (.iastore) := by decide +kernel
theorem i195_173 : am_ins 195 173 = some (.dup) := by decide +kernel
theorem i195_174 : am_ins 195 174 = some (.iconst 1) := by decide +kernel
theorem i195_175 : am_ins 195 175 = some (.iload 4) := by decide +kernel
theorem i195_177 : am_ins 195 177 = some (.iastore) := by decide +kernel
theorem i195_178 : am_ins 195 178 = some (.aastore) := by decide +kernel
theorem i195_179 : am_ins 195 179 = some (.aload_n 0) := by decide +kernel
theorem i195_180 : am_ins 195 180 = some (.dup) := by decide +kernel
theorem i195_181 : am_ins 195 181 = some (.getfield 72) := by decide +kernel
theorem i195_184 : am_ins 195 184 = some (.iconst 1) := by decide +kernel
theorem i195_185 : am_ins 195 185 = some (.iadd) := by decide +kernel
theorem i195_186 : am_ins 195 186 = some (.putfield 72) := by decide +kernel
theorem i195_189 : am_ins 195 189 = some (.aload_n 0) := by decide +kernel
theorem i195_190 : am_ins 195 190 = some (.getfield 14) := by decide +kernel
theorem i195_193 : am_ins 195 193 = some (.ldc 75) := by decide +kernel
theorem i195_195 : am_ins 195 195 = some (.invokevirtual 69) := by decide +kernel
theorem i195_198 : am_ins 195 198 = some (.iload_n 3) := by decide +kernel
theorem i195_199 : am_ins 195 199 = some (.invokevirtual 63) := by decide +kernel
theorem i195_202 : am_ins 195 202 = some (.bipush 32) := by decide +kernel
theorem i195_204 : am_ins 195 204 = some (.invokevirtual 77) := by decide +kernel
theorem i195_207 : am_ins 195 207 = some (.iload 4) := by decide +kernel
theorem i195_209 : am_ins 195 209 = some (.invokevirtual 63) := by decide +kernel
theorem i195_212 : am_ins 195 212 = some (.pop) := by decide +kernel
theorem i195_213 : am_ins 195 213 = some (.iinc 2 (-1)) := by decide +kernel
theorem i195_216 : am_ins 195 216 = some (.goto (-86)) := by decide +kernel
theorem i195_219 : am_ins 195 219 = some (.aload_n 1) := by decide +kernel
theorem i195_220 : am_ins 195 220 = some (.iconst 0) := by decide +kernel
theorem i195_221 : am_ins 195 221 = some (.iconst 2) := by decide +kernel
theorem i195_222 : am_ins 195 222 = some (.invokevirtual 50) := by decide +kernel
theorem i195_225 : am_ins 195 225 = some (.istore_n 2) := by decide +kernel
theorem i195_226 : am_ins 195 226 = some (.iload_n 2) := by decide +kernel
theorem i195_227 : am_ins 195 227 = some (.ifCond .le 74) := by decide +kernel
theorem i195_230 : am_ins 195 230 = some (.aload_n 1) := by decide +kernel
theorem i195_231 : am_ins 195 231 = some (.iconst 0) := by decide +kernel
theorem i195_232 : am_ins 195 232 = some (.aload_n 0) := by decide +kernel
theorem i195_233 : am_ins 195 233 = some (.getfield 72) := by decide +kernel
theorem i195_236 : am_ins 195 236 = some (.iconst 1) := by decide +kernel
theorem i195_237 : am_ins 195 237 = some (.isub) := by decide +kernel
theorem i195_238 : am_ins 195 238 = some (.invokevirtual 50) := by decide +kernel
theorem i195_241 : am_ins 195 241 = some (.istore_n 3) := by decide +kernel
theorem i195_242 : am_ins 195 242 = some (.aload_n 1) := by decide +kernel
theorem i195_243 : am_ins 195 243 = some (.iconst 1) := by decide +kernel
theorem i195_244 : am_ins 195 244 = some (.iconst 3) := by decide +kernel
theorem i195_245 : am_ins 195 245 = some (.invokevirtual 50) := by decide +kernel
theorem i195_248 : am_ins 195 248 = some (.istore 4) := by decide +kernel
theorem i195_250 : am_ins 195 250 = some (.aload_n 0) := by decide +kernel
theorem i195_251 : am_ins 195 251 = some (.getfield 14) := by decide +kernel
theorem i195_254 : am_ins 195 254 = some (.ldc 80) := by decide +kernel
theorem i195_256 : am_ins 195 256 = some (.invokevirtual 69) := by decide +kernel
theorem i195_259 : am_ins 195 259 = some (.iload_n 3) := by decide +kernel
theorem i195_260 : am_ins 195 260 = some (.invokevirtual 63) := by decide +kernel
theorem i195_263 : am_ins 195 263 = some (.bipush 32) := by decide +kernel
theorem i195_265 : am_ins 195 265 = some (.invokevirtual 77) := by decide +kernel
theorem i195_268 : am_ins 195 268 = some (.iload 4) := by decide +kernel
theorem i195_270 : am_ins 195 270 = some (.invokevirtual 63) := by decide +kernel
theorem i195_273 : am_ins 195 273 = some (.pop) := by decide +kernel
theorem i195_274 : am_ins 195 274 = some (.iconst 0) := by decide +kernel
theorem i195_275 : am_ins 195 275 = some (.istore 5) := by decide +kernel
theorem i195_277 : am_ins 195 277 = some (.iload 5) := by decide +kernel
theorem i195_279 : am_ins 195 279 = some (.iload 4) := by decide +kernel
theorem i195_281 : am_ins 195 281 = some (.if_icmp .ge 14) := by decide +kernel
theorem i195_284 : am_ins 195 284 = some (.aload_n 0) := by decide +kernel
theorem i195_285 : am_ins 195 285 = some (.iload_n 3) := by decide +kernel
theorem i195_286 : am_ins 195 286 = some (.invokevirtual 82) := by decide +kernel
theorem i195_289 : am_ins 195 289 = some (.iinc 5 1) := by decide +kernel
theorem i195_292 : am_ins 195 292 = some (.goto (-15)) := by decide +kernel
theorem i195_295 : am_ins 195 295 = some (.iinc 2 (-1)) := by decide +kernel
theorem i195_298 : am_ins 195 298 = some (.goto (-72)) := by decide +kernel
theorem i195_301 : am_ins 195 301 = some (.aload_n 1) := by decide +kernel
theorem i195_302 : am_ins 195 302 = some (.iconst 0) := by decide +kernel
theorem i195_303 : am_ins 195 303 = some (.iconst 4) := by decide +kernel
theorem i195_304 : am_ins 195 304 = some (.invokevirtual 50) := by decide +kernel
theorem i195_307 : am_ins 195 307 = some (.istore_n 2) := by decide +kernel
theorem i195_308 : am_ins 195 308 = some (.iload_n 2) := by decide +kernel
theorem i195_309 : am_ins 195 309 = some (.ifCond .le 98) := by decide +kernel
theorem i195_312 : am_ins 195 312 = some (.aload_n 1) := by decide +kernel
theorem i195_313 : am_ins 195 313 = some (.iconst 1) := by decide +kernel
theorem i195_314 : am_ins 195 314 = some (.bipush 6) := by decide +kernel
theorem i195_316 : am_ins 195 316 = some (.invokevirtual 50) := by decide +kernel
theorem i195_319 : am_ins 195 319 = some (.istore_n 3) := by decide +kernel
theorem i195_320 : am_ins 195 320 = some (.aload_n 1) := by decide +kernel
theorem i195_321 : am_ins 195 321 = some (.iconst 1) := by decide +kernel
theorem i195_322 : am_ins 195 322 = some (.iconst 4) := by decide +kernel
theorem i195_323 : am_ins 195 323 = some (.invokevirtual 50) := by decide +kernel
theorem i195_326 : am_ins 195 326 = some (.istore 4) := by decide +kernel
theorem i195_328 : am_ins 195 328 = some (.aload_n 1) := by decide +kernel
theorem i195_329 : am_ins 195 329 = some (.iconst 0) := by decide +kernel
theorem i195_330 : am_ins 195 330 = some (.bipush 9) := by decide +kernel
theorem i195_332 : am_ins 195 332 = some (.invokevirtual 50) := by decide +kernel
theorem i195_335 : am_ins 195 335 = some (.istore 5) := by decide +kernel
theorem i195_337 : am_ins 195 337 = some (.aload_n 1) := by decide +kernel
theorem i195_338 : am_ins 195 338 = some (.iconst 0) := by decide +kernel
theorem i195_339 : am_ins 195 339 = some (.iconst 3) := by decide +kernel
theorem i195_340 : am_ins 195 340 = some (.invokevirtual 50) := by decide +kernel
theorem i195_343 : am_ins 195 343 = some (.istore 6) := by decide +kernel
theorem i195_345 : am_ins 195 345 = some (.aload_n 0) := by decide +kernel
theorem i195_346 : am_ins 195 346 = some (.getfield 14) := by decide +kernel
theorem i195_349 : am_ins 195 349 = some (.ldc 86) := by decide +kernel
theorem i195_351 : am_ins 195 351 = some (.invokevirtual 69) := by decide +kernel
theorem i195_354 : am_ins 195 354 = some (.iload_n 3) := by decide +kernel
theorem i195_355 : am_ins 195 355 = some (.invokevirtual 63) := by decide +kernel
theorem i195_358 : am_ins 195 358 = some (.bipush 32) := by decide +kernel
theorem i195_360 : am_ins 195 360 = some (.invokevirtual 77) := by decide +kernel
theorem i195_363 : am_ins 195 363 = some (.iload 4) := by decide +kernel
theorem i195_365 : am_ins 195 365 = some (.invokevirtual 63) := by decide +kernel
theorem i195_368 : am_ins 195 368 = some (.bipush 32) := by decide +kernel
theorem i195_370 : am_ins 195 370 = some (.invokevirtual 77) := by decide +kernel
theorem i195_373 : am_ins 195 373 = some (.iload 5) := by decide +kernel
theorem i195_375 : am_ins 195 375 = some (.invokevirtual 63) := by decide +kernel
theorem i195_378 : am_ins 195 378 = some (.bipush 32) := by decide +kernel
theorem i195_380 : am_ins 195 380 = some (.invokevirtual 77) := by decide +kernel
theorem i195_383 : am_ins 195 383 = some (.iload 6) := by decide +kernel
theorem i195_385 : am_ins 195 385 = some (.invokevirtual 63) := by decide +kernel
theorem i195_388 : am_ins 195 388 = some (.pop) := by decide +kernel
theorem i195_389 : am_ins 195 389 = some (.aload_n 0) := by decide +kernel
theorem i195_390 : am_ins 195 390 = some (.iload_n 3) := by decide +kernel
theorem i195_391 : am_ins 195 391 = some (.iload 4) := by decide +kernel
theorem i195_393 : am_ins 195 393 = some (.iload 5) := by decide +kernel
theorem i195_395 : am_ins 195 395 = some (.iload 6) := by decide +kernel
theorem i195_397 : am_ins 195 397 = some (.invokevirtual 88) := by decide +kernel
theorem i195_400 : am_ins 195 400 = some (.pop) := by decide +kernel
theorem i195_401 : am_ins 195 401 = some (.iinc 2 (-1)) := by decide +kernel
theorem i195_404 : am_ins 195 404 = some (.goto (-96)) := by decide +kernel
theorem i195_407 : am_ins 195 407 = some (.aload_n 1) := by decide +kernel
theorem i195_408 : am_ins 195 408 = some (.iconst 0) := by decide +kernel
theorem i195_409 : am_ins 195 409 = some (.iconst 2) := by decide +kernel
theorem i195_410 : am_ins 195 410 = some (.invokevirtual 50) := by decide +kernel
theorem i195_413 : am_ins 195 413 = some (.istore_n 2) := by decide +kernel
theorem i195_414 : am_ins 195 414 = some (.iload_n 2) := by decide +kernel
theorem i195_415 : am_ins 195 415 = some (.ifCond .le 92) := by decide +kernel
theorem i195_418 : am_ins 195 418 = some (.aload_n 1) := by decide +kernel
theorem i195_419 : am_ins 195 419 = some (.iconst 1) := by decide +kernel
theorem i195_420 : am_ins 195 420 = some (.iconst 3) := by decide +kernel
theorem i195_421 : am_ins 195 421 = some (.invokevirtual 50) := by decide +kernel
theorem i195_424 : am_ins 195 424 = some (.newarray .int) := by decide +kernel
theorem i195_426 : am_ins 195 426 = some (.astore_n 3) := by decide +kernel
theorem i195_427 : am_ins 195 427 = some (.aload_n 0) := by decide +kernel
theorem i195_428 : am_ins 195 428 = some (.getfield 14) := by decide +kernel
theorem i195_431 : am_ins 195 431 = some (.ldc 92) := by decide +kernel
theorem i195_433 : am_ins 195 433 = some (.invokevirtual 69) := by decide +kernel
theorem i195_436 : am_ins 195 436 = some (.pop) := by decide +kernel
theorem i195_437 : am_ins 195 437 = some (.iconst 0) := by decide +kernel
theorem i195_438 : am_ins 195 438 = some (.istore 4) := by decide +kernel
theorem i195_440 : am_ins 195 440 = some (.iload 4) := by decide +kernel
theorem i195_442 : am_ins 195 442 = some (.aload_n 3) := by decide +kernel
theorem i195_443 : am_ins 195 443 = some (.arraylength) := by decide +kernel
theorem i195_444 : am_ins 195 444 = some (.if_icmp .ge 37) := by decide +kernel
theorem i195_447 : am_ins 195 447 = some (.aload_n 3) := by decide +kernel
theorem i195_448 : am_ins 195 448 = some (.iload 4) := by decide +kernel
theorem i195_450 : am_ins 195 450 = some (.aload_n 1) := by decide +kernel
theorem i195_451 : am_ins 195 451 = some (.iconst 1) := by decide +kernel
theorem i195_452 : am_ins 195 452 = some (.bipush 6) := by decide +kernel
theorem i195_454 : am_ins 195 454 = some (.invokevirtual 50) := by decide +kernel
theorem i195_457 : am_ins 195 457 = some (.iastore) := by decide +kernel
theorem i195_458 : am_ins 195 458 = some (.aload_n 0) := by decide +kernel
theorem i195_459 : am_ins 195 459 = some (.getfield 14) := by decide +kernel
theorem i195_462 : am_ins 195 462 = some (.bipush 32) := by decide +kernel
theorem i195_464 : am_ins 195 464 = some (.invokevirtual 77) := by decide +kernel
theorem i195_467 : am_ins 195 467 = some (.aload_n 3) := by decide +kernel
theorem i195_468 : am_ins 195 468 = some (.iload 4) := by decide +kernel
theorem i195_470 : am_ins 195 470 = some (.iaload) := by decide +kernel
theorem i195_471 : am_ins 195 471 = some (.invokevirtual 63) := by decide +kernel
theorem i195_474 : am_ins 195 474 = some (.pop) := by decide +kernel
theorem i195_475 : am_ins 195 475 = some (.iinc 4 1) := by decide +kernel
theorem i195_478 : am_ins 195 478 = some (.goto (-38)) := by decide +kernel
theorem i195_481 : am_ins 195 481 = some (.aload_n 0) := by decide +kernel
theorem i195_482 : am_ins 195 482 = some (.getfield 26) := by decide +kernel
theorem i195_485 : am_ins 195 485 = some (.aload_n 0) := by decide +kernel
theorem i195_486 : am_ins 195 486 = some (.getfield 94) := by decide +kernel
theorem i195_489 : am_ins 195 489 = some (.aload_n 3) := by decide +kernel
theorem i195_490 : am_ins 195 490 = some (.aastore) := by decide +kernel
theorem i195_491 : am_ins 195 491 = some (.aload_n 0) := by decide +kernel
theorem i195_492 : am_ins 195 492 = some (.dup) := by decide +kernel
theorem i195_493 : am_ins 195 493 = some (.getfield 94) := by decide +kernel
theorem i195_496 : am_ins 195 496 = some (.iconst 1) := by decide +kernel
theorem i195_497 : am_ins 195 497 = some (.iadd) := by decide +kernel
theorem i195_498 : am_ins 195 498 = some (.putfield 94) := by decide +kernel
theorem i195_501 : am_ins 195 501 = some (.iinc 2 (-1)) := by decide +kernel
theorem i195_504 : am_ins 195 504 = some (.goto (-90)) := by decide +kernel
theorem i195_507 : am_ins 195 507 = some (.return_) := by decide +kernel
theorem i196_0 : am_ins 196 0 = some (.aload_n 0) := by decide +kernel
theorem i196_1 : am_ins 196 1 = some (.getfield 34) := by decide +kernel
theorem i196_4 : am_ins 196 4 = some (.aload_n 0) := by decide +kernel
theorem i196_5 : am_ins 196 5 = some (.getfield 97) := by decide +kernel
theorem i196_8 : am_ins 196 8 = some (.new 32) := by decide +kernel
theorem i196_11 : am_ins 196 11 = some (.dup) := by decide +kernel
theorem i196_12 : am_ins 196 12 = some (.aload_n 0) := by decide +kernel
theorem i196_13 : am_ins 196 13 = some (.getfield 97) := by decide +kernel
theorem i196_16 : am_ins 196 16 = some (.iload_n 1) := by decide +kernel
theorem i196_17 : am_ins 196 17 = some (.aload_n 0) := by decide +kernel
theorem i196_18 : am_ins 196 18 = some (.getfield 22) := by decide +kernel
theorem i196_21 : am_ins 196 21 = some (.iload_n 1) := by decide +kernel
theorem i196_22 : am_ins 196 22 = some (.aaload) := by decide +kernel
theorem i196_23 : am_ins 196 23 = some (.iconst 0) := by decide +kernel
theorem i196_24 : am_ins 196 24 = some (.iaload) := by decide +kernel
theorem i196_25 : am_ins 196 25 = some (.invokespecial 121) := by decide +kernel
theorem i196_28 : am_ins 196 28 = some (.aastore) := by decide +kernel
theorem i196_29 : am_ins 196 29 = some (.aload_n 0) := by decide +kernel
theorem i196_30 : am_ins 196 30 = some (.dup) := by decide +kernel
theorem i196_31 : am_ins 196 31 = some (.getfield 97) := by decide +kernel
theorem i196_34 : am_ins 196 34 = some (.iconst 1) := by decide +kernel
theorem i196_35 : am_ins 196 35 = some (.iadd) := by decide +kernel
theorem i196_36 : am_ins 196 36 = some (.putfield 97) := by decide +kernel
theorem i196_39 : am_ins 196 39 = some (.return_) := by decide +kernel
theorem i197_0 : am_ins 197 0 = some (.new 38) := by decide +kernel
theorem i197_3 : am_ins 197 3 = some (.dup) := by decide +kernel
theorem i197_4 : am_ins 197 4 = some (.aload_n 0) := by decide +kernel
theorem i197_5 : am_ins 197 5 = some (.getfield 100) := by decide +kernel
theorem i197_8 : am_ins 197 8 = some (.iload_n 1) := by decide +kernel
theorem i197_9 : am_ins 197 9 = some (.iload_n 2) := by decide +kernel
theorem i197_10 : am_ins 197 10 = some (.iload_n 3) := by decide +kernel
theorem i197_11 : am_ins 197 11 = some (.iload 4) := by decide +kernel
theorem i197_13 : am_ins 197 13 = some (.invokespecial 124) := by decide +kernel
theorem i197_16 : am_ins 197 16 = some (.astore 5) := by decide +kernel
theorem i197_18 : am_ins 197 18 = some (.aload_n 0) := by decide +kernel
theorem i197_19 : am_ins 197 19 = some (.getfield 40) := by decide +kernel
theorem i197_22 : am_ins 197 22 = some (.aload_n 0) := by decide +kernel
theorem i197_23 : am_ins 197 23 = some (.getfield 100) := by decide +kernel
theorem i197_26 : am_ins 197 26 = some (.aload 5) := by decide +kernel
theorem i197_28 : am_ins 197 28 = some (.aastore) := by decide +kernel
theorem i197_29 : am_ins 197 29 = some (.aload_n 0) := by decide +kernel
theorem i197_30 : am_ins 197 30 = some (.dup) := by decide +kernel
theorem i197_31 : am_ins 197 31 = some (.getfield 100) := by decide +kernel
theorem i197_34 : am_ins 197 34 = some (.iconst 1) := by decide +kernel
theorem i197_35 : am_ins 197 35 = some (.iadd) := by decide +kernel
theorem i197_36 : am_ins 197 36 = some (.putfield 100) := by decide +kernel
theorem i197_39 : am_ins 197 39 = some (.aload_n 0) := by decide +kernel
theorem i197_40 : am_ins 197 40 = some (.getfield 44) := by decide +kernel
theorem i197_43 : am_ins 197 43 = some (.iload_n 1) := by decide +kernel
theorem i197_44 : am_ins 197 44 = some (.iaload) := by decide +kernel
theorem i197_45 : am_ins 197 45 = some (.ifCond .le 30) := by decide +kernel
theorem i197_48 : am_ins 197 48 = some (.aload 5) := by decide +kernel
theorem i197_50 : am_ins 197 50 = some (.getfield 127) := by decide +kernel
theorem i197_53 : am_ins 197 53 = some (.ifCond .le 22) := by decide +kernel
theorem i197_56 : am_ins 197 56 = some (.aload_n 0) := by decide +kernel
theorem i197_57 : am_ins 197 57 = some (.aload 5) := by decide +kernel
theorem i197_59 : am_ins 197 59 = some (.invokevirtual 130) := by decide +kernel
theorem i197_62 : am_ins 197 62 = some (.aload_n 0) := by decide +kernel
theorem i197_63 : am_ins 197 63 = some (.getfield 44) := by decide +kernel
theorem i197_66 : am_ins 197 66 = some (.iload_n 1) := by decide +kernel
theorem i197_67 : am_ins 197 67 = some (.dup2) := by decide +kernel
theorem i197_68 : am_ins 197 68 = some (.iaload) := by decide +kernel
theorem i197_69 : am_ins 197 69 = some (.iconst 1) := by decide +kernel
theorem i197_70 : am_ins 197 70 = some (.isub) := by decide +kernel
theorem i197_71 : am_ins 197 71 = some (.iastore) := by decide +kernel
theorem i197_72 : am_ins 197 72 = some (.goto (-33)) := by decide +kernel
theorem i197_75 : am_ins 197 75 = some (.aload 5) := by decide +kernel
theorem i197_77 : am_ins 197 77 = some (.getfield 133) := by decide +kernel
theorem i197_80 : am_ins 197 80 = some (.ireturn) := by decide +kernel
theorem i198_0 : am_ins 198 0 = some (.aload_n 0) := by decide +kernel
theorem i198_1 : am_ins 198 1 = some (.getfield 103) := by decide +kernel
theorem i198_4 : am_ins 198 4 = some (.aload_n 1) := by decide +kernel
theorem i198_5 : am_ins 198 5 = some (.getfield 136) := by decide +kernel
theorem i198_8 : am_ins 198 8 = some (.if_icmp .le 7) := by decide +kernel
theorem i198_11 : am_ins 198 11 = some (.iconst 1) := by decide +kernel
theorem i198_12 : am_ins 198 12 = some (.goto 4) := by decide +kernel
theorem i198_15 : am_ins 198 15 = some (.iconst 0) := by decide +kernel
theorem i198_16 : am_ins 198 16 = some (.istore_n 2) := by decide +kernel
theorem i198_17 : am_ins 198 17 = some (.aload_n 1) := by decide +kernel
theorem i198_18 : am_ins 198 18 = some (.dup) := by decide +kernel
theorem i198_19 : am_ins 198 19 = some (.getfield 127) := by decide +kernel
theorem i198_22 : am_ins 198 22 = some (.iconst 1) := by decide +kernel
theorem i198_23 : am_ins 198 23 = some (.isub) := by decide +kernel
theorem i198_24 : am_ins 198 24 = some (.putfield 127) := by decide +kernel
theorem i198_27 : am_ins 198 27 = some (.aload_n 1) := by decide +kernel
theorem i198_28 : am_ins 198 28 = some (.dup) := by decide +kernel
theorem i198_29 : am_ins 198 29 = some (.getfield 139) := by decide +kernel
theorem i198_32 : am_ins 198 32 = some (.iload_n 2) := by decide +kernel
theorem i198_33 : am_ins 198 33 = some (.ifCond .eq 7) := by decide +kernel
theorem i198_36 : am_ins 198 36 = some (.iconst 1) := by decide +kernel
theorem i198_37 : am_ins 198 37 = some (.goto 4) := by decide +kernel
theorem i198_40 : am_ins 198 40 = some (.iconst 0) := by decide +kernel
theorem i198_41 : am_ins 198 41 = some (.iadd) := by decide +kernel
theorem i198_42 : am_ins 198 42 = some (.putfield 139) := by decide +kernel
theorem i198_45 : am_ins 198 45 = some (.aload_n 1) := by decide +kernel
theorem i198_46 : am_ins 198 46 = some (.dup) := by decide +kernel
theorem i198_47 : am_ins 198 47 = some (.getfield 142) := by decide +kernel
theorem i198_50 : am_ins 198 50 = some (.iload_n 2) := by decide +kernel
theorem i198_51 : am_ins 198 51 = some (.ifCond .eq 7) := by decide +kernel
theorem i198_54 : am_ins 198 54 = some (.iconst 0) := by decide +kernel
theorem i198_55 : am_ins 198 55 = some (.goto 4) := by decide +kernel
theorem i198_58 : am_ins 198 58 = some (.iconst 1) := by decide +kernel
theorem i198_59 : am_ins 198 59 = some (.iadd) := by decide +kernel
theorem i198_60 : am_ins 198 60 = some (.putfield 142) := by decide +kernel
theorem i198_63 : am_ins 198 63 = some (.aload_n 0) := by decide +kernel
theorem i198_64 : am_ins 198 64 = some (.getfield 47) := by decide +kernel
theorem i198_67 : am_ins 198 67 = some (.iconst 4) := by decide +kernel
theorem i198_68 : am_ins 198 68 = some (.dup2) := by decide +kernel
theorem i198_69 : am_ins 198 69 = some (.iaload) := by decide +kernel
theorem i198_70 : am_ins 198 70 = some (.iload_n 2) := by decide +kernel
theorem i198_71 : am_ins 198 71 = some (.ifCond .eq 12) := by decide +kernel
theorem i198_74 : am_ins 198 74 = some (.aload_n 1) := by decide +kernel
theorem i198_75 : am_ins 198 75 = some (.getfield 145) := by decide +kernel
theorem i198_78 : am_ins 198 78 = some (.iconst 2) := by decide +kernel
theorem i198_79 : am_ins 198 79 = some (.idiv) := by decide +kernel
theorem i198_80 : am_ins 198 80 = some (.goto 7) := by decide +kernel
theorem i198_83 : am_ins 198 83 = some (.aload_n 1) := by decide +kernel
theorem i198_84 : am_ins 198 84 = some (.getfield 145) := by decide +kernel
theorem i198_87 : am_ins 198 87 = some (.iadd) := by decide +kernel
theorem i198_88 : am_ins 198 88 = some (.iastore) := by decide +kernel
theorem i198_89 : am_ins 198 89 = some (.aload_n 0) := by decide +kernel
theorem i198_90 : am_ins 198 90 = some (.getfield 47) := by decide +kernel
theorem i198_93 : am_ins 198 93 = some (.bipush 6) := by decide +kernel
theorem i198_95 : am_ins 198 95 = some (.dup2) := by decide +kernel
theorem i198_96 : am_ins 198 96 = some (.iaload) := by decide +kernel
theorem i198_97 : am_ins 198 97 = some (.iload_n 2) := by decide +kernel
theorem i198_98 : am_ins 198 98 = some (.ifCond .eq 7) := by decide +kernel
theorem i198_101 : am_ins 198 101 = some (.iconst 1) := by decide +kernel
theorem i198_102 : am_ins 198 102 = some (.goto 4) := by decide +kernel
theorem i198_105 : am_ins 198 105 = some (.iconst 0) := by decide +kernel
theorem i198_106 : am_ins 198 106 = some (.iadd) := by decide +kernel
theorem i198_107 : am_ins 198 107 = some (.iastore) := by decide +kernel
theorem i198_108 : am_ins 198 108 = some (.return_) := by decide +kernel
theorem i199_0 : am_ins 199 0 = some (.aconst_null) := by decide +kernel
theorem i199_1 : am_ins 199 1 = some (.astore_n 3) := by decide +kernel
theorem i199_2 : am_ins 199 2 = some (.iconst 0) := by decide +kernel
theorem i199_3 : am_ins 199 3 = some (.istore 4) := by decide +kernel
theorem i199_5 : am_ins 199 5 = some (.iload 4) := by decide +kernel
theorem i199_7 : am_ins 199 7 = some (.aload_n 0) := by decide +kernel
theorem i199_8 : am_ins 199 8 = some (.getfield 97) := by decide +kernel
theorem i199_11 : am_ins 199 11 = some (.if_icmp .ge 83) := by decide +kernel
theorem i199_14 : am_ins 199 14 = some (.aload_n 0) := by decide +kernel
theorem i199_15 : am_ins 199 15 = some (.aload_n 0) := by decide +kernel
theorem i199_16 : am_ins 199 16 = some (.getfield 34) := by decide +kernel
theorem i199_19 : am_ins 199 19 = some (.iload 4) := by decide +kernel
theorem i199_21 : am_ins 199 21 = some (.aaload) := by decide +kernel
theorem i199_22 : am_ins 199 22 = some (.aload_n 1) := by decide +kernel
theorem i199_23 : am_ins 199 23 = some (.invokevirtual 186) := by decide +kernel
theorem i199_26 : am_ins 199 26 = some (.ifCond .ge 6) := by decide +kernel
theorem i199_29 : am_ins 199 29 = some (.goto 59) := by decide +kernel
theorem i199_32 : am_ins 199 32 = some (.aload_n 3) := by decide +kernel
theorem i199_33 : am_ins 199 33 = some (.ifnull 47) := by decide +kernel
theorem i199_36 : am_ins 199 36 = some (.iload_n 2) := by decide +kernel
theorem i199_37 : am_ins 199 37 = some (.iconst 1) := by decide +kernel
theorem i199_38 : am_ins 199 38 = some (.if_icmp .ne 20) := by decide +kernel
theorem i199_41 : am_ins 199 41 = some (.aload_n 0) := by decide +kernel
theorem i199_42 : am_ins 199 42 = some (.getfield 34) := by decide +kernel
theorem i199_45 : am_ins 199 45 = some (.iload 4) := by decide +kernel
theorem i199_47 : am_ins 199 47 = some (.aaload) := by decide +kernel
theorem i199_48 : am_ins 199 48 = some (.getfield 154) := by decide +kernel
theorem i199_51 : am_ins 199 51 = some (.aload_n 3) := by decide +kernel
theorem i199_52 : am_ins 199 52 = some (.getfield 154) := by decide +kernel
theorem i199_55 : am_ins 199 55 = some (.if_icmp .lt 25) := by decide +kernel
theorem i199_58 : am_ins 199 58 = some (.iload_n 2) := by decide +kernel
theorem i199_59 : am_ins 199 59 = some (.iconst 2) := by decide +kernel
theorem i199_60 : am_ins 199 60 = some (.if_icmp .ne 28) := by decide +kernel
theorem i199_63 : am_ins 199 63 = some (.aload_n 0) := by decide +kernel
theorem i199_64 : am_ins 199 64 = some (.getfield 34) := by decide +kernel
theorem i199_67 : am_ins 199 67 = some (.iload 4) := by decide +kernel
theorem i199_69 : am_ins 199 69 = some (.aaload) := by decide +kernel
theorem i199_70 : am_ins 199 70 = some (.getfield 154) := by decide +kernel
theorem i199_73 : am_ins 199 73 = some (.aload_n 3) := by decide +kernel
theorem i199_74 : am_ins 199 74 = some (.getfield 154) := by decide +kernel
theorem i199_77 : am_ins 199 77 = some (.if_icmp .le 11) := by decide +kernel
theorem i199_80 : am_ins 199 80 = some (.aload_n 0) := by decide +kernel
theorem i199_81 : am_ins 199 81 = some (.getfield 34) := by decide +kernel
theorem i199_84 : am_ins 199 84 = some (.iload 4) := by decide +kernel
theorem i199_86 : am_ins 199 86 = some (.aaload) := by decide +kernel
theorem i199_87 : am_ins 199 87 = some (.astore_n 3) := by decide +kernel
theorem i199_88 : am_ins 199 88 = some (.iinc 4 1) := by decide +kernel
theorem i199_91 : am_ins 199 91 = some (.goto (-86)) := by decide +kernel
theorem i199_94 : am_ins 199 94 = some (.aload_n 3) := by decide +kernel
theorem i199_95 : am_ins 199 95 = some (.areturn) := by decide +kernel
theorem i200_0 : am_ins 200 0 = some (.aload_n 1) := by decide +kernel
theorem i200_1 : am_ins 200 1 = some (.getfield 160) := by decide +kernel
theorem i200_4 : am_ins 200 4 = some (.ifCond .ne 10) := by decide +kernel
theorem i200_7 : am_ins 200 7 = some (.aload_n 1) := by decide +kernel
theorem i200_8 : am_ins 200 8 = some (.getfield 154) := by decide +kernel
theorem i200_11 : am_ins 200 11 = some (.goto 4) := by decide +kernel
theorem i200_14 : am_ins 200 14 = some (.iconst (-1)) := by decide +kernel
theorem i200_15 : am_ins 200 15 = some (.istore_n 3) := by decide +kernel
theorem i200_16 : am_ins 200 16 = some (.aload_n 2) := by decide +kernel
theorem i200_17 : am_ins 200 17 = some (.astore 4) := by decide +kernel
theorem i200_19 : am_ins 200 19 = some (.aload 4) := by decide +kernel
theorem i200_21 : am_ins 200 21 = some (.arraylength) := by decide +kernel
theorem i200_22 : am_ins 200 22 = some (.istore 5) := by decide +kernel
theorem i200_24 : am_ins 200 24 = some (.iconst 0) := by decide +kernel
theorem i200_25 : am_ins 200 25 = some (.istore 6) := by decide +kernel
theorem i200_27 : am_ins 200 27 = some (.iload 6) := by decide +kernel
theorem i200_29 : am_ins 200 29 = some (.iload 5) := by decide +kernel
theorem i200_31 : am_ins 200 31 = some (.if_icmp .ge 40) := by decide +kernel
theorem i200_34 : am_ins 200 34 = some (.aload 4) := by decide +kernel
theorem i200_36 : am_ins 200 36 = some (.iload 6) := by decide +kernel
theorem i200_38 : am_ins 200 38 = some (.iaload) := by decide +kernel
theorem i200_39 : am_ins 200 39 = some (.istore 7) := by decide +kernel
theorem i200_41 : am_ins 200 41 = some (.iload_n 3) := by decide +kernel
theorem i200_42 : am_ins 200 42 = some (.iload 7) := by decide +kernel
theorem i200_44 : am_ins 200 44 = some (.if_icmp .ge 7) := by decide +kernel
theorem i200_47 : am_ins 200 47 = some (.iconst (-1)) := by decide +kernel
theorem i200_48 : am_ins 200 48 = some (.goto 16) := by decide +kernel
theorem i200_51 : am_ins 200 51 = some (.iconst 0) := by decide +kernel
theorem i200_52 : am_ins 200 52 = some (.iload_n 3) := by decide +kernel
theorem i200_53 : am_ins 200 53 = some (.iload 7) := by decide +kernel
theorem i200_55 : am_ins 200 55 = some (.isub) := by decide +kernel
theorem i200_56 : am_ins 200 56 = some (.aload_n 0) := by decide +kernel
theorem i200_57 : am_ins 200 57 = some (.getfield 56) := by decide +kernel
theorem i200_60 : am_ins 200 60 = some (.isub) := by decide +kernel
theorem i200_61 : am_ins 200 61 = some (.invokestatic 179) := by decide +kernel
theorem i200_64 : am_ins 200 64 = some (.istore_n 3) := by decide +kernel
theorem i200_65 : am_ins 200 65 = some (.iinc 6 1) := by decide +kernel
theorem i200_68 : am_ins 200 68 = some (.goto (-41)) := by decide +kernel
theorem i200_71 : am_ins 200 71 = some (.iload_n 3) := by decide +kernel
theorem i200_72 : am_ins 200 72 = some (.ireturn) := by decide +kernel
theorem i201_0 : am_ins 201 0 = some (.sipush 201) := by decide +kernel
theorem i201_3 : am_ins 201 3 = some (.newarray .int) := by decide +kernel
theorem i201_5 : am_ins 201 5 = some (.astore_n 2) := by decide +kernel
theorem i201_6 : am_ins 201 6 = some (.iconst 1) := by decide +kernel
theorem i201_7 : am_ins 201 7 = some (.istore_n 3) := by decide +kernel
theorem i201_8 : am_ins 201 8 = some (.aload_n 1) := by decide +kernel
theorem i201_9 : am_ins 201 9 = some (.astore 4) := by decide +kernel
theorem i201_11 : am_ins 201 11 = some (.aload 4) := by decide +kernel
theorem i201_13 : am_ins 201 13 = some (.arraylength) := by decide +kernel
theorem i201_14 : am_ins 201 14 = some (.istore 5) := by decide +kernel
theorem i201_16 : am_ins 201 16 = some (.iconst 0) := by decide +kernel
theorem i201_17 : am_ins 201 17 = some (.istore 6) := by decide +kernel
theorem i201_19 : am_ins 201 19 = some (.iload 6) := by decide +kernel
theorem i201_21 : am_ins 201 21 = some (.iload 5) := by decide +kernel
theorem i201_23 : am_ins 201 23 = some (.if_icmp .ge 45) := by decide +kernel
theorem i201_26 : am_ins 201 26 = some (.aload 4) := by decide +kernel
theorem i201_28 : am_ins 201 28 = some (.iload 6) := by decide +kernel
theorem i201_30 : am_ins 201 30 = some (.iaload) := by decide +kernel
theorem i201_31 : am_ins 201 31 = some (.istore 7) := by decide +kernel
theorem i201_33 : am_ins 201 33 = some (.aload_n 2) := by decide +kernel
theorem i201_34 : am_ins 201 34 = some (.iload 7) := by decide +kernel
theorem i201_36 : am_ins 201 36 = some (.dup2) := by decide +kernel
theorem i201_37 : am_ins 201 37 = some (.iaload) := by decide +kernel
theorem i201_38 : am_ins 201 38 = some (.iconst 1) := by decide +kernel
theorem i201_39 : am_ins 201 39 = some (.iadd) := by decide +kernel
theorem i201_40 : am_ins 201 40 = some (.iastore) := by decide +kernel
theorem i201_41 : am_ins 201 41 = some (.iload_n 3) := by decide +kernel
theorem i201_42 : am_ins 201 42 = some (.aload_n 2) := by decide +kernel
theorem i201_43 : am_ins 201 43 = some (.iload 7) := by decide +kernel
theorem i201_45 : am_ins 201 45 = some (.iaload) := by decide +kernel
theorem i201_46 : am_ins 201 46 = some (.aload_n 0) := by decide +kernel
theorem i201_47 : am_ins 201 47 = some (.iload 7) := by decide +kernel
theorem i201_49 : am_ins 201 49 = some (.invokevirtual 182) := by decide +kernel
theorem i201_52 : am_ins 201 52 = some (.if_icmp .gt 7) := by decide +kernel
theorem i201_55 : am_ins 201 55 = some (.iconst 1) := by decide +kernel
theorem i201_56 : am_ins 201 56 = some (.goto 4) := by decide +kernel
theorem i201_59 : am_ins 201 59 = some (.iconst 0) := by decide +kernel
theorem i201_60 : am_ins 201 60 = some (.iand) := by decide +kernel
theorem i201_61 : am_ins 201 61 = some (.istore_n 3) := by decide +kernel
theorem i201_62 : am_ins 201 62 = some (.iinc 6 1) := by decide +kernel
theorem i201_65 : am_ins 201 65 = some (.goto (-46)) := by decide +kernel
theorem i201_68 : am_ins 201 68 = some (.iload_n 3) := by decide +kernel
theorem i201_69 : am_ins 201 69 = some (.ireturn) := by decide +kernel
theorem i202_0 : am_ins 202 0 = some (.iconst 0) := by decide +kernel
theorem i202_1 : am_ins 202 1 = some (.istore_n 2) := by decide +kernel
theorem i202_2 : am_ins 202 2 = some (.iconst 0) := by decide +kernel
theorem i202_3 : am_ins 202 3 = some (.istore_n 3) := by decide +kernel
theorem i202_4 : am_ins 202 4 = some (.iload_n 3) := by decide +kernel
theorem i202_5 : am_ins 202 5 = some (.aload_n 0) := by decide +kernel
theorem i202_6 : am_ins 202 6 = some (.getfield 100) := by decide +kernel
theorem i202_9 : am_ins 202 9 = some (.if_icmp .ge 38) := by decide +kernel
theorem i202_12 : am_ins 202 12 = some (.iload_n 2) := by decide +kernel
theorem i202_13 : am_ins 202 13 = some (.aload_n 0) := by decide +kernel
theorem i202_14 : am_ins 202 14 = some (.getfield 40) := by decide +kernel
theorem i202_17 : am_ins 202 17 = some (.iload_n 3) := by decide +kernel
theorem i202_18 : am_ins 202 18 = some (.aaload) := by decide +kernel
theorem i202_19 : am_ins 202 19 = some (.getfield 148) := by decide +kernel
theorem i202_22 : am_ins 202 22 = some (.iload_n 1) := by decide +kernel
theorem i202_23 : am_ins 202 23 = some (.if_icmp .ne 15) := by decide +kernel
theorem i202_26 : am_ins 202 26 = some (.aload_n 0) := by decide +kernel
theorem i202_27 : am_ins 202 27 = some (.getfield 40) := by decide +kernel
theorem i202_30 : am_ins 202 30 = some (.iload_n 3) := by decide +kernel
theorem i202_31 : am_ins 202 31 = some (.aaload) := by decide +kernel
theorem i202_32 : am_ins 202 32 = some (.getfield 127) := by decide +kernel
theorem i202_35 : am_ins 202 35 = some (.goto 4) := by decide +kernel
theorem i202_38 : am_ins 202 38 = some (.iconst 0) := by decide +kernel
theorem i202_39 : am_ins 202 39 = some (.iadd) := by decide +kernel
theorem i202_40 : am_ins 202 40 = some (.istore_n 2) := by decide +kernel
theorem i202_41 : am_ins 202 41 = some (.iinc 3 1) := by decide +kernel
theorem i202_44 : am_ins 202 44 = some (.goto (-40)) := by decide +kernel
theorem i202_47 : am_ins 202 47 = some (.iload_n 2) := by decide +kernel
theorem i202_48 : am_ins 202 48 = some (.ireturn) := by decide +kernel
theorem i203_0 : am_ins 203 0 = some (.aload_n 0) := by decide +kernel
theorem i203_1 : am_ins 203 1 = some (.getfield 56) := by decide +kernel
theorem i203_4 : am_ins 203 4 = some (.aload_n 1) := by decide +kernel
theorem i203_5 : am_ins 203 5 = some (.getfield 154) := by decide +kernel
theorem i203_8 : am_ins 203 8 = some (.iload_n 2) := by decide +kernel
theorem i203_9 : am_ins 203 9 = some (.isub) := by decide +kernel
theorem i203_10 : am_ins 203 10 = some (.invokestatic 155) := by decide +kernel
theorem i203_13 : am_ins 203 13 = some (.istore_n 3) := by decide +kernel
theorem i203_14 : am_ins 203 14 = some (.aload_n 1) := by decide +kernel
theorem i203_15 : am_ins 203 15 = some (.dup) := by decide +kernel
theorem i203_16 : am_ins 203 16 = some (.getfield 154) := by decide +kernel
theorem i203_19 : am_ins 203 19 = some (.iload_n 2) := by decide +kernel
theorem i203_20 : am_ins 203 20 = some (.iload_n 3) := by decide +kernel
theorem i203_21 : am_ins 203 21 = some (.iadd) := by decide +kernel
theorem i203_22 : am_ins 203 22 = some (.isub) := by decide +kernel
theorem i203_23 : am_ins 203 23 = some (.putfield 154) := by decide +kernel
theorem i203_26 : am_ins 203 26 = some (.aload_n 1) := by decide +kernel
theorem i203_27 : am_ins 203 27 = some (.aload_n 1) := by decide +kernel
theorem i203_28 : am_ins 203 28 = some (.getfield 154) := by decide +kernel
theorem i203_31 : am_ins 203 31 = some (.ifCond .ne 7) := by decide +kernel
theorem i203_34 : am_ins 203 34 = some (.iconst 1) := by decide +kernel
theorem i203_35 : am_ins 203 35 = some (.goto 4) := by decide +kernel
theorem i203_38 : am_ins 203 38 = some (.iconst 0) := by decide +kernel
theorem i203_39 : am_ins 203 39 = some (.putfield 160) := by decide +kernel
theorem i203_42 : am_ins 203 42 = some (.aload_n 1) := by decide +kernel
theorem i203_43 : am_ins 203 43 = some (.dup) := by decide +kernel
theorem i203_44 : am_ins 203 44 = some (.getfield 163) := by decide +kernel
theorem i203_47 : am_ins 203 47 = some (.iconst 1) := by decide +kernel
theorem i203_48 : am_ins 203 48 = some (.iadd) := by decide +kernel
theorem i203_49 : am_ins 203 49 = some (.putfield 163) := by decide +kernel
theorem i203_52 : am_ins 203 52 = some (.aload_n 1) := by decide +kernel
theorem i203_53 : am_ins 203 53 = some (.iconst 1) := by decide +kernel
theorem i203_54 : am_ins 203 54 = some (.putfield 166) := by decide +kernel
theorem i203_57 : am_ins 203 57 = some (.aload_n 0) := by decide +kernel
theorem i203_58 : am_ins 203 58 = some (.aload_n 1) := by decide +kernel
theorem i203_59 : am_ins 203 59 = some (.iload_n 3) := by decide +kernel
theorem i203_60 : am_ins 203 60 = some (.iconst 1) := by decide +kernel
theorem i203_61 : am_ins 203 61 = some (.invokevirtual 170) := by decide +kernel
theorem i203_64 : am_ins 203 64 = some (.aload_n 0) := by decide +kernel
theorem i203_65 : am_ins 203 65 = some (.getfield 47) := by decide +kernel
theorem i203_68 : am_ins 203 68 = some (.iconst 5) := by decide +kernel
theorem i203_69 : am_ins 203 69 = some (.dup2) := by decide +kernel
theorem i203_70 : am_ins 203 70 = some (.iaload) := by decide +kernel
theorem i203_71 : am_ins 203 71 = some (.iconst 1) := by decide +kernel
theorem i203_72 : am_ins 203 72 = some (.iadd) := by decide +kernel
theorem i203_73 : am_ins 203 73 = some (.iastore) := by decide +kernel
theorem i203_74 : am_ins 203 74 = some (.aload_n 0) := by decide +kernel
theorem i203_75 : am_ins 203 75 = some (.getfield 47) := by decide +kernel
theorem i203_78 : am_ins 203 78 = some (.bipush 7) := by decide +kernel
theorem i203_80 : am_ins 203 80 = some (.dup2) := by decide +kernel
theorem i203_81 : am_ins 203 81 = some (.iaload) := by decide +kernel
theorem i203_82 : am_ins 203 82 = some (.iload_n 2) := by decide +kernel
theorem i203_83 : am_ins 203 83 = some (.iadd) := by decide +kernel
theorem i203_84 : am_ins 203 84 = some (.iastore) := by decide +kernel
theorem i203_85 : am_ins 203 85 = some (.aload_n 0) := by decide +kernel
theorem i203_86 : am_ins 203 86 = some (.iload_n 2) := by decide +kernel
theorem i203_87 : am_ins 203 87 = some (.invokevirtual 174) := by decide +kernel
theorem i203_90 : am_ins 203 90 = some (.astore 4) := by decide +kernel
theorem i203_92 : am_ins 203 92 = some (.aload 4) := by decide +kernel
theorem i203_94 : am_ins 203 94 = some (.ifnonnull 16) := by decide +kernel
theorem i203_97 : am_ins 203 97 = some (.aload_n 0) := by decide +kernel
theorem i203_98 : am_ins 203 98 = some (.getfield 44) := by decide +kernel
theorem i203_101 : am_ins 203 101 = some (.iload_n 2) := by decide +kernel
theorem i203_102 : am_ins 203 102 = some (.dup2) := by decide +kernel
theorem i203_103 : am_ins 203 103 = some (.iaload) := by decide +kernel
theorem i203_104 : am_ins 203 104 = some (.iconst 1) := by decide +kernel
theorem i203_105 : am_ins 203 105 = some (.iadd) := by decide +kernel
theorem i203_106 : am_ins 203 106 = some (.iastore) := by decide +kernel
theorem i203_107 : am_ins 203 107 = some (.goto 9) := by decide +kernel
theorem i203_110 : am_ins 203 110 = some (.aload_n 0) := by decide +kernel
theorem i203_111 : am_ins 203 111 = some (.aload 4) := by decide +kernel
theorem i203_113 : am_ins 203 113 = some (.invokevirtual 130) := by decide +kernel
theorem i203_116 : am_ins 203 116 = some (.aload 4) := by decide +kernel
theorem i203_118 : am_ins 203 118 = some (.ifnonnull 7) := by decide +kernel
theorem i203_121 : am_ins 203 121 = some (.iconst (-1)) := by decide +kernel
theorem i203_122 : am_ins 203 122 = some (.goto 8) := by decide +kernel
theorem i203_125 : am_ins 203 125 = some (.aload 4) := by decide +kernel
theorem i203_127 : am_ins 203 127 = some (.getfield 133) := by decide +kernel
theorem i203_130 : am_ins 203 130 = some (.istore 5) := by decide +kernel
theorem i203_132 : am_ins 203 132 = some (.aload_n 0) := by decide +kernel
theorem i203_133 : am_ins 203 133 = some (.getfield 106) := by decide +kernel
theorem i203_136 : am_ins 203 136 = some (.bipush 60) := by decide +kernel
theorem i203_138 : am_ins 203 138 = some (.if_icmp .ge 38) := by decide +kernel
theorem i203_141 : am_ins 203 141 = some (.aload_n 0) := by decide +kernel
theorem i203_142 : am_ins 203 142 = some (.getfield 29) := by decide +kernel
theorem i203_145 : am_ins 203 145 = some (.aload_n 0) := by decide +kernel
theorem i203_146 : am_ins 203 146 = some (.getfield 106) := by decide +kernel
theorem i203_149 : am_ins 203 149 = some (.iconst 4) := by decide +kernel
theorem i203_150 : am_ins 203 150 = some (.newarray .int) := by decide +kernel
theorem i203_152 : am_ins 203 152 = some (.dup) := by decide +kernel
theorem i203_153 : am_ins 203 153 = some (.iconst 0) := by decide +kernel
theorem i203_154 : am_ins 203 154 = some (.aload_n 0) := by decide +kernel
theorem i203_155 : am_ins 203 155 = some (.getfield 103) := by decide +kernel
theorem i203_158 : am_ins 203 158 = some (.iastore) := by decide +kernel
theorem i203_159 : am_ins 203 159 = some (.dup) := by decide +kernel
theorem i203_160 : am_ins 203 160 = some (.iconst 1) := by decide +kernel
theorem i203_161 : am_ins 203 161 = some (.aload_n 1) := by decide +kernel
theorem i203_162 : am_ins 203 162 = some (.getfield 178) := by decide +kernel
theorem i203_165 : am_ins 203 165 = some (.iastore) := by decide +kernel
theorem i203_166 : am_ins 203 166 = some (.dup) := by decide +kernel
theorem i203_167 : am_ins 203 167 = some (.iconst 2) := by decide +kernel
theorem i203_168 : am_ins 203 168 = some (.iload_n 2) := by decide +kernel
theorem i203_169 : am_ins 203 169 = some (.iastore) := by decide +kernel
theorem i203_170 : am_ins 203 170 = some (.dup) := by decide +kernel
theorem i203_171 : am_ins 203 171 = some (.iconst 3) := by decide +kernel
theorem i203_172 : am_ins 203 172 = some (.iload 5) := by decide +kernel
theorem i203_174 : am_ins 203 174 = some (.iastore) := by decide +kernel
theorem i203_175 : am_ins 203 175 = some (.aastore) := by decide +kernel
theorem i203_176 : am_ins 203 176 = some (.aload_n 0) := by decide +kernel
theorem i203_177 : am_ins 203 177 = some (.bipush 60) := by decide +kernel
theorem i203_179 : am_ins 203 179 = some (.aload_n 0) := by decide +kernel
theorem i203_180 : am_ins 203 180 = some (.getfield 106) := by decide +kernel
theorem i203_183 : am_ins 203 183 = some (.iconst 1) := by decide +kernel
theorem i203_184 : am_ins 203 184 = some (.iadd) := by decide +kernel
theorem i203_185 : am_ins 203 185 = some (.invokestatic 155) := by decide +kernel
theorem i203_188 : am_ins 203 188 = some (.putfield 106) := by decide +kernel
theorem i203_191 : am_ins 203 191 = some (.iload 5) := by decide +kernel
theorem i203_193 : am_ins 203 193 = some (.ireturn) := by decide +kernel
theorem i204_0 : am_ins 204 0 = some (.aload_n 0) := by decide +kernel
theorem i204_1 : am_ins 204 1 = some (.getfield 47) := by decide +kernel
theorem i204_4 : am_ins 204 4 = some (.iload_n 3) := by decide +kernel
theorem i204_5 : am_ins 204 5 = some (.dup2) := by decide +kernel
theorem i204_6 : am_ins 204 6 = some (.iaload) := by decide +kernel
theorem i204_7 : am_ins 204 7 = some (.iload_n 2) := by decide +kernel
theorem i204_8 : am_ins 204 8 = some (.iadd) := by decide +kernel
theorem i204_9 : am_ins 204 9 = some (.iastore) := by decide +kernel
theorem i204_10 : am_ins 204 10 = some (.aload_n 0) := by decide +kernel
theorem i204_11 : am_ins 204 11 = some (.getfield 47) := by decide +kernel
theorem i204_14 : am_ins 204 14 = some (.iconst 3) := by decide +kernel
theorem i204_15 : am_ins 204 15 = some (.dup2) := by decide +kernel
theorem i204_16 : am_ins 204 16 = some (.iaload) := by decide +kernel
theorem i204_17 : am_ins 204 17 = some (.iload_n 2) := by decide +kernel
theorem i204_18 : am_ins 204 18 = some (.aload_n 0) := by decide +kernel
theorem i204_19 : am_ins 204 19 = some (.getfield 22) := by decide +kernel
theorem i204_22 : am_ins 204 22 = some (.aload_n 1) := by decide +kernel
theorem i204_23 : am_ins 204 23 = some (.getfield 151) := by decide +kernel
theorem i204_26 : am_ins 204 26 = some (.aaload) := by decide +kernel
theorem i204_27 : am_ins 204 27 = some (.iconst 1) := by decide +kernel
theorem i204_28 : am_ins 204 28 = some (.iaload) := by decide +kernel
theorem i204_29 : am_ins 204 29 = some (.imul) := by decide +kernel
theorem i204_30 : am_ins 204 30 = some (.iadd) := by decide +kernel
theorem i204_31 : am_ins 204 31 = some (.iastore) := by decide +kernel
theorem i204_32 : am_ins 204 32 = some (.return_) := by decide +kernel
theorem i205_0 : am_ins 205 0 = some (.aconst_null) := by decide +kernel
theorem i205_1 : am_ins 205 1 = some (.astore_n 2) := by decide +kernel
theorem i205_2 : am_ins 205 2 = some (.aload_n 0) := by decide +kernel
theorem i205_3 : am_ins 205 3 = some (.getfield 100) := by decide +kernel
theorem i205_6 : am_ins 205 6 = some (.iconst 1) := by decide +kernel
theorem i205_7 : am_ins 205 7 = some (.isub) := by decide +kernel
theorem i205_8 : am_ins 205 8 = some (.istore_n 3) := by decide +kernel
theorem i205_9 : am_ins 205 9 = some (.iload_n 3) := by decide +kernel
theorem i205_10 : am_ins 205 10 = some (.ifCond .lt 57) := by decide +kernel
theorem i205_13 : am_ins 205 13 = some (.aload_n 0) := by decide +kernel
theorem i205_14 : am_ins 205 14 = some (.getfield 40) := by decide +kernel
theorem i205_17 : am_ins 205 17 = some (.iload_n 3) := by decide +kernel
theorem i205_18 : am_ins 205 18 = some (.aaload) := by decide +kernel
theorem i205_19 : am_ins 205 19 = some (.astore 4) := by decide +kernel
theorem i205_21 : am_ins 205 21 = some (.aload 4) := by decide +kernel
theorem i205_23 : am_ins 205 23 = some (.getfield 127) := by decide +kernel
theorem i205_26 : am_ins 205 26 = some (.ifCond .le 35) := by decide +kernel
theorem i205_29 : am_ins 205 29 = some (.iload_n 1) := by decide +kernel
theorem i205_30 : am_ins 205 30 = some (.ifCond .eq 12) := by decide +kernel
theorem i205_33 : am_ins 205 33 = some (.aload 4) := by decide +kernel
theorem i205_35 : am_ins 205 35 = some (.getfield 148) := by decide +kernel
theorem i205_38 : am_ins 205 38 = some (.iload_n 1) := by decide +kernel
theorem i205_39 : am_ins 205 39 = some (.if_icmp .ne 22) := by decide +kernel
theorem i205_42 : am_ins 205 42 = some (.aload_n 2) := by decide +kernel
theorem i205_43 : am_ins 205 43 = some (.ifnull 15) := by decide +kernel
theorem i205_46 : am_ins 205 46 = some (.aload 4) := by decide +kernel
theorem i205_48 : am_ins 205 48 = some (.getfield 136) := by decide +kernel
theorem i205_51 : am_ins 205 51 = some (.aload_n 2) := by decide +kernel
theorem i205_52 : am_ins 205 52 = some (.getfield 136) := by decide +kernel
theorem i205_55 : am_ins 205 55 = some (.if_icmp .gt 6) := by decide +kernel
theorem i205_58 : am_ins 205 58 = some (.aload 4) := by decide +kernel
theorem i205_60 : am_ins 205 60 = some (.astore_n 2) := by decide +kernel
theorem i205_61 : am_ins 205 61 = some (.iinc 3 (-1)) := by decide +kernel
theorem i205_64 : am_ins 205 64 = some (.goto (-55)) := by decide +kernel
theorem i205_67 : am_ins 205 67 = some (.aload_n 2) := by decide +kernel
theorem i205_68 : am_ins 205 68 = some (.areturn) := by decide +kernel
theorem i206_0 : am_ins 206 0 = some (.iconst 0) := by decide +kernel
theorem i206_1 : am_ins 206 1 = some (.istore_n 1) := by decide +kernel
theorem i206_2 : am_ins 206 2 = some (.iconst 0) := by decide +kernel
theorem i206_3 : am_ins 206 3 = some (.istore_n 2) := by decide +kernel
theorem i206_4 : am_ins 206 4 = some (.iload_n 2) := by decide +kernel
theorem i206_5 : am_ins 206 5 = some (.aload_n 0) := by decide +kernel
theorem i206_6 : am_ins 206 6 = some (.getfield 97) := by decide +kernel
theorem i206_9 : am_ins 206 9 = some (.if_icmp .ge 54) := by decide +kernel
theorem i206_12 : am_ins 206 12 = some (.aload_n 0) := by decide +kernel
theorem i206_13 : am_ins 206 13 = some (.getfield 34) := by decide +kernel
theorem i206_16 : am_ins 206 16 = some (.iload_n 2) := by decide +kernel
theorem i206_17 : am_ins 206 17 = some (.aaload) := by decide +kernel
theorem i206_18 : am_ins 206 18 = some (.astore_n 3) := by decide +kernel
theorem i206_19 : am_ins 206 19 = some (.aload_n 3) := by decide +kernel
theorem i206_20 : am_ins 206 20 = some (.getfield 160) := by decide +kernel
theorem i206_23 : am_ins 206 23 = some (.ifCond .ne 29) := by decide +kernel
theorem i206_26 : am_ins 206 26 = some (.aload_n 3) := by decide +kernel
theorem i206_27 : am_ins 206 27 = some (.getfield 166) := by decide +kernel
theorem i206_30 : am_ins 206 30 = some (.ifCond .eq 22) := by decide +kernel
theorem i206_33 : am_ins 206 33 = some (.aload_n 3) := by decide +kernel
theorem i206_34 : am_ins 206 34 = some (.getfield 154) := by decide +kernel
theorem i206_37 : am_ins 206 37 = some (.aload_n 0) := by decide +kernel
theorem i206_38 : am_ins 206 38 = some (.getfield 60) := by decide +kernel
theorem i206_41 : am_ins 206 41 = some (.if_icmp .ge 11) := by decide +kernel
theorem i206_44 : am_ins 206 44 = some (.iload_n 1) := by decide +kernel
theorem i206_45 : am_ins 206 45 = some (.aload_n 0) := by decide +kernel
theorem i206_46 : am_ins 206 46 = some (.aload_n 3) := by decide +kernel
theorem i206_47 : am_ins 206 47 = some (.invokevirtual 202) := by decide +kernel
theorem i206_50 : am_ins 206 50 = some (.iadd) := by decide +kernel
theorem i206_51 : am_ins 206 51 = some (.istore_n 1) := by decide +kernel
theorem i206_52 : am_ins 206 52 = some (.aload_n 3) := by decide +kernel
theorem i206_53 : am_ins 206 53 = some (.iconst 0) := by decide +kernel
theorem i206_54 : am_ins 206 54 = some (.putfield 166) := by decide +kernel
theorem i206_57 : am_ins 206 57 = some (.iinc 2 1) := by decide +kernel
theorem i206_60 : am_ins 206 60 = some (.goto (-56)) := by decide +kernel
theorem i206_63 : am_ins 206 63 = some (.aload_n 0) := by decide +kernel
theorem i206_64 : am_ins 206 64 = some (.dup) := by decide +kernel
theorem i206_65 : am_ins 206 65 = some (.getfield 103) := by decide +kernel
theorem i206_68 : am_ins 206 68 = some (.iconst 1) := by decide +kernel
theorem i206_69 : am_ins 206 69 = some (.iadd) := by decide +kernel
theorem i206_70 : am_ins 206 70 = some (.putfield 103) := by decide +kernel
theorem i206_73 : am_ins 206 73 = some (.iload_n 1) := by decide +kernel
theorem i206_74 : am_ins 206 74 = some (.ireturn) := by decide +kernel
theorem i207_0 : am_ins 207 0 = some (.aload_n 1) := by decide +kernel
theorem i207_1 : am_ins 207 1 = some (.getfield 154) := by decide +kernel
theorem i207_4 : am_ins 207 4 = some (.istore_n 2) := by decide +kernel
theorem i207_5 : am_ins 207 5 = some (.aload_n 0) := by decide +kernel
theorem i207_6 : am_ins 207 6 = some (.aload_n 1) := by decide +kernel
theorem i207_7 : am_ins 207 7 = some (.iload_n 2) := by decide +kernel
theorem i207_8 : am_ins 207 8 = some (.iconst 2) := by decide +kernel
theorem i207_9 : am_ins 207 9 = some (.invokevirtual 170) := by decide +kernel
theorem i207_12 : am_ins 207 12 = some (.aload_n 1) := by decide +kernel
theorem i207_13 : am_ins 207 13 = some (.iconst 0) := by decide +kernel
theorem i207_14 : am_ins 207 14 = some (.putfield 154) := by decide +kernel
theorem i207_17 : am_ins 207 17 = some (.aload_n 1) := by decide +kernel
theorem i207_18 : am_ins 207 18 = some (.iconst 2) := by decide +kernel
theorem i207_19 : am_ins 207 19 = some (.putfield 160) := by decide +kernel
theorem i207_22 : am_ins 207 22 = some (.iload_n 2) := by decide +kernel
theorem i207_23 : am_ins 207 23 = some (.ireturn) := by decide +kernel
theorem i208_0 : am_ins 208 0 = some (.iconst 0) := by decide +kernel
theorem i208_1 : am_ins 208 1 = some (.istore_n 1) := by decide +kernel
theorem i208_2 : am_ins 208 2 = some (.iconst 0) := by decide +kernel
theorem i208_3 : am_ins 208 3 = some (.istore_n 2) := by decide +kernel
theorem i208_4 : am_ins 208 4 = some (.iload_n 2) := by decide +kernel
theorem i208_5 : am_ins 208 5 = some (.aload_n 0) := by decide +kernel
theorem i208_6 : am_ins 208 6 = some (.getfield 100) := by decide +kernel
theorem i208_9 : am_ins 208 9 = some (.if_icmp .ge 21) := by decide +kernel
theorem i208_12 : am_ins 208 12 = some (.iload_n 1) := by decide +kernel
theorem i208_13 : am_ins 208 13 = some (.aload_n 0) := by decide +kernel
theorem i208_14 : am_ins 208 14 = some (.getfield 40) := by decide +kernel
theorem i208_17 : am_ins 208 17 = some (.iload_n 2) := by decide +kernel
theorem i208_18 : am_ins 208 18 = some (.aaload) := by decide +kernel
theorem i208_19 : am_ins 208 19 = some (.getfield 127) := by decide +kernel
theorem i208_22 : am_ins 208 22 = some (.iadd) := by decide +kernel
theorem i208_23 : am_ins 208 23 = some (.istore_n 1) := by decide +kernel
theorem i208_24 : am_ins 208 24 = some (.iinc 2 1) := by decide +kernel
theorem i208_27 : am_ins 208 27 = some (.goto (-23)) := by decide +kernel
theorem i208_30 : am_ins 208 30 = some (.iload_n 1) := by decide +kernel
theorem i208_31 : am_ins 208 31 = some (.ireturn) := by decide +kernel
theorem i209_0 : am_ins 209 0 = some (.aload_n 0) := by decide +kernel
theorem i209_1 : am_ins 209 1 = some (.aload_n 1) := by decide +kernel
theorem i209_2 : am_ins 209 2 = some (.invokestatic 23) := by decide +kernel
theorem i209_5 : am_ins 209 5 = some (.ifCond .eq 14) := by decide +kernel
theorem i209_8 : am_ins 209 8 = some (.aload_n 0) := by decide +kernel
theorem i209_9 : am_ins 209 9 = some (.aload_n 1) := by decide +kernel
theorem i209_10 : am_ins 209 10 = some (.invokevirtual 7) := by decide +kernel
theorem i209_13 : am_ins 209 13 = some (.invokevirtual 29) := by decide +kernel
theorem i209_16 : am_ins 209 16 = some (.goto 5) := by decide +kernel
theorem i209_19 : am_ins 209 19 = some (.bipush (-9)) := by decide +kernel
theorem i209_21 : am_ins 209 21 = some (.ireturn) := by decide +kernel
theorem i210_0 : am_ins 210 0 = some (.iconst 0) := by decide +kernel
theorem i210_1 : am_ins 210 1 = some (.istore_n 2) := by decide +kernel
theorem i210_2 : am_ins 210 2 = some (.iload_n 2) := by decide +kernel
theorem i210_3 : am_ins 210 3 = some (.aload_n 1) := by decide +kernel
theorem i210_4 : am_ins 210 4 = some (.invokevirtual 7) := by decide +kernel
theorem i210_7 : am_ins 210 7 = some (.if_icmp .ge 93) := by decide +kernel
theorem i210_10 : am_ins 210 10 = some (.iconst 5) := by decide +kernel
theorem i210_11 : am_ins 210 11 = some (.newarray .int) := by decide +kernel
theorem i210_13 : am_ins 210 13 = some (.astore_n 3) := by decide +kernel
theorem i210_14 : am_ins 210 14 = some (.iconst 0) := by decide +kernel
theorem i210_15 : am_ins 210 15 = some (.istore 4) := by decide +kernel
theorem i210_17 : am_ins 210 17 = some (.iload 4) := by decide +kernel
theorem i210_19 : am_ins 210 19 = some (.bipush 20) := by decide +kernel
theorem i210_21 : am_ins 210 21 = some (.if_icmp .ge 49) := by decide +kernel
theorem i210_24 : am_ins 210 24 = some (.aload_n 3) := by decide +kernel
theorem i210_25 : am_ins 210 25 = some (.iload 4) := by decide +kernel
theorem i210_27 : am_ins 210 27 = some (.iconst 4) := by decide +kernel
theorem i210_28 : am_ins 210 28 = some (.idiv) := by decide +kernel
theorem i210_29 : am_ins 210 29 = some (.aload_n 3) := by decide +kernel
theorem i210_30 : am_ins 210 30 = some (.iload 4) := by decide +kernel
theorem i210_32 : am_ins 210 32 = some (.iconst 4) := by decide +kernel
theorem i210_33 : am_ins 210 33 = some (.idiv) := by decide +kernel
theorem i210_34 : am_ins 210 34 = some (.iaload) := by decide +kernel
theorem i210_35 : am_ins 210 35 = some (.bipush 8) := by decide +kernel
theorem i210_37 : am_ins 210 37 = some (.ishl) := by decide +kernel
theorem i210_38 : am_ins 210 38 = some (.iload_n 2) := by decide +kernel
theorem i210_39 : am_ins 210 39 = some (.iload 4) := by decide +kernel
theorem i210_41 : am_ins 210 41 = some (.iadd) := by decide +kernel
theorem i210_42 : am_ins 210 42 = some (.aload_n 1) := by decide +kernel
theorem i210_43 : am_ins 210 43 = some (.invokevirtual 7) := by decide +kernel
theorem i210_46 : am_ins 210 46 = some (.if_icmp .ge 14) := by decide +kernel
theorem i210_49 : am_ins 210 49 = some (.aload_n 1) := by decide +kernel
theorem i210_50 : am_ins 210 50 = some (.iload_n 2) := by decide +kernel
theorem i210_51 : am_ins 210 51 = some (.iload 4) := by decide +kernel
theorem i210_53 : am_ins 210 53 = some (.iadd) := by decide +kernel
theorem i210_54 : am_ins 210 54 = some (.invokevirtual 13) := by decide +kernel
theorem i210_57 : am_ins 210 57 = some (.goto 5) := by decide +kernel
theorem i210_60 : am_ins 210 60 = some (.bipush 32) := by decide +kernel
theorem i210_62 : am_ins 210 62 = some (.ior) := by decide +kernel
theorem i210_63 : am_ins 210 63 = some (.iastore) := by decide +kernel
theorem i210_64 : am_ins 210 64 = some (.iinc 4 1) := by decide +kernel
theorem i210_67 : am_ins 210 67 = some (.goto (-50)) := by decide +kernel
theorem i210_70 : am_ins 210 70 = some (.aload_n 0) := by decide +kernel
theorem i210_71 : am_ins 210 71 = some (.aload_n 3) := by decide +kernel
theorem i210_72 : am_ins 210 72 = some (.iconst 0) := by decide +kernel
theorem i210_73 : am_ins 210 73 = some (.iaload) := by decide +kernel
theorem i210_74 : am_ins 210 74 = some (.aload_n 3) := by decide +kernel
theorem i210_75 : am_ins 210 75 = some (.iconst 1) := by decide +kernel
theorem i210_76 : am_ins 210 76 = some (.iaload) := by decide +kernel
theorem i210_77 : am_ins 210 77 = some (.aload_n 3) := by decide +kernel
theorem i210_78 : am_ins 210 78 = some (.iconst 2) := by decide +kernel
theorem i210_79 : am_ins 210 79 = some (.iaload) := by decide +kernel
theorem i210_80 : am_ins 210 80 = some (.aload_n 3) := by decide +kernel
theorem i210_81 : am_ins 210 81 = some (.iconst 3) := by decide +kernel
theorem i210_82 : am_ins 210 82 = some (.iaload) := by decide +kernel
theorem i210_83 : am_ins 210 83 = some (.aload_n 3) := by decide +kernel
theorem i210_84 : am_ins 210 84 = some (.iconst 4) := by decide +kernel
theorem i210_85 : am_ins 210 85 = some (.iaload) := by decide +kernel
theorem i210_86 : am_ins 210 86 = some (.invokevirtual 17) := by decide +kernel
theorem i210_89 : am_ins 210 89 = some (.ifCond .ge 5) := by decide +kernel
theorem i210_92 : am_ins 210 92 = some (.iconst 0) := by decide +kernel
theorem i210_93 : am_ins 210 93 = some (.ireturn) := by decide +kernel
theorem i210_94 : am_ins 210 94 = some (.iinc 2 20) := by decide +kernel
theorem i210_97 : am_ins 210 97 = some (.goto (-95)) := by decide +kernel
theorem i210_100 : am_ins 210 100 = some (.iconst 1) := by decide +kernel
theorem i210_101 : am_ins 210 101 = some (.ireturn) := by decide +kernel
theorem i211_0 : am_ins 211 0 = some (.aload_n 0) := by decide +kernel
theorem i211_1 : am_ins 211 1 = some (.iload_n 1) := by decide +kernel
theorem i211_2 : am_ins 211 2 = some (.iload_n 2) := by decide +kernel
theorem i211_3 : am_ins 211 3 = some (.iload_n 3) := by decide +kernel
theorem i211_4 : am_ins 211 4 = some (.iload 4) := by decide +kernel
theorem i211_6 : am_ins 211 6 = some (.iload 5) := by decide +kernel
theorem i211_8 : am_ins 211 8 = some (.invokestatic 129) := by decide +kernel
theorem i211_11 : am_ins 211 11 = some (.ldc2_w 133) := by decide +kernel
theorem i211_14 : am_ins 211 14 = some (.lcmp) := by decide +kernel
theorem i211_15 : am_ins 211 15 = some (.ifCond .ne 7) := by decide +kernel
theorem i211_18 : am_ins 211 18 = some (.iconst 0) := by decide +kernel
theorem i211_19 : am_ins 211 19 = some (.goto 4) := by decide +kernel
theorem i211_22 : am_ins 211 22 = some (.iconst 0) := by decide +kernel
theorem i211_23 : am_ins 211 23 = some (.ireturn) := by decide +kernel
theorem i211_24 : am_ins 211 24 = some (.astore 6) := by decide +kernel
theorem i211_26 : am_ins 211 26 = some (.iconst 1) := by decide +kernel
theorem i211_27 : am_ins 211 27 = some (.ireturn) := by decide +kernel
theorem i211_28 : am_ins 211 28 = some (.astore 6) := by decide +kernel
theorem i211_30 : am_ins 211 30 = some (.iconst 2) := by decide +kernel
theorem i211_31 : am_ins 211 31 = some (.ireturn) := by decide +kernel
theorem i211_32 : am_ins 211 32 = some (.astore 6) := by decide +kernel
theorem i211_34 : am_ins 211 34 = some (.iconst 3) := by decide +kernel
theorem i211_35 : am_ins 211 35 = some (.ireturn) := by decide +kernel
theorem i212_0 : am_ins 212 0 = some (.iload_n 1) := by decide +kernel
theorem i212_1 : am_ins 212 1 = some (.tableswitch 371 0 30 #[139, 146, 154, 162, 170, 178, 185, 193, 201, 209, 216, 224, 231, 238, 246, 253, 260, 268, 276, 283, 289, 296, 308, 315, 322, 330, 336, 343, 350, 357, 364]) := by decide +kernel
theorem i212_140 : am_ins 212 140 = some (.aload_n 0) := by decide +kernel
theorem i212_141 : am_ins 212 141 = some (.iload_n 2) := by decide +kernel
theorem i212_142 : am_ins 212 142 = some (.invokevirtual 33) := by decide +kernel
theorem i212_145 : am_ins 212 145 = some (.i2l) := by decide +kernel
theorem i212_146 : am_ins 212 146 = some (.lreturn) := by decide +kernel
theorem i212_147 : am_ins 212 147 = some (.aload_n 0) := by decide +kernel
theorem i212_148 : am_ins 212 148 = some (.iload_n 2) := by decide +kernel
theorem i212_149 : am_ins 212 149 = some (.iconst 1) := by decide +kernel
theorem i212_150 : am_ins 212 150 = some (.invokevirtual 36) := by decide +kernel
theorem i212_153 : am_ins 212 153 = some (.i2l) := by decide +kernel
theorem i212_154 : am_ins 212 154 = some (.lreturn) := by decide +kernel
theorem i212_155 : am_ins 212 155 = some (.aload_n 0) := by decide +kernel
theorem i212_156 : am_ins 212 156 = some (.iload_n 2) := by decide +kernel
theorem i212_157 : am_ins 212 157 = some (.iload_n 3) := by decide +kernel
theorem i212_158 : am_ins 212 158 = some (.invokevirtual 40) := by decide +kernel
theorem i212_161 : am_ins 212 161 = some (.i2l) := by decide +kernel
theorem i212_162 : am_ins 212 162 = some (.lreturn) := by decide +kernel
theorem i212_163 : am_ins 212 163 = some (.aload_n 0) := by decide +kernel
theorem i212_164 : am_ins 212 164 = some (.iload_n 2) := by decide +kernel
theorem i212_165 : am_ins 212 165 = some (.iload_n 3) := by decide +kernel
theorem i212_166 : am_ins 212 166 = some (.invokevirtual 44) := by decide +kernel
theorem i212_169 : am_ins 212 169 = some (.i2l) := by decide +kernel
theorem i212_170 : am_ins 212 170 = some (.lreturn) := by decide +kernel
theorem i212_171 : am_ins 212 171 = some (.aload_n 0) := by decide +kernel
theorem i212_172 : am_ins 212 172 = some (.iload_n 2) := by decide +kernel
theorem i212_173 : am_ins 212 173 = some (.iload_n 3) := by decide +kernel
theorem i212_174 : am_ins 212 174 = some (.invokevirtual 47) := by decide +kernel
theorem i212_177 : am_ins 212 177 = some (.i2l) := by decide +kernel
theorem i212_178 : am_ins 212 178 = some (.lreturn) := by decide +kernel
theorem i212_179 : am_ins 212 179 = some (.aload_n 0) := by decide +kernel
theorem i212_180 : am_ins 212 180 = some (.iload_n 2) := by decide +kernel
theorem i212_181 : am_ins 212 181 = some (.invokevirtual 50) := by decide +kernel
theorem i212_184 : am_ins 212 184 = some (.i2l) := by decide +kernel
theorem i212_185 : am_ins 212 185 = some (.lreturn) := by decide +kernel
theorem i212_186 : am_ins 212 186 = some (.aload_n 0) := by decide +kernel
theorem i212_187 : am_ins 212 187 = some (.iload_n 2) := by decide +kernel
theorem i212_188 : am_ins 212 188 = some (.iload_n 3) := by decide +kernel
theorem i212_189 : am_ins 212 189 = some (.invokevirtual 53) := by decide +kernel
theorem i212_192 : am_ins 212 192 = some (.i2l) := by decide +kernel
theorem i212_193 : am_ins 212 193 = some (.lreturn) := by decide +kernel
theorem i212_194 : am_ins 212 194 = some (.aload_n 0) := by decide +kernel
theorem i212_195 : am_ins 212 195 = some (.iload_n 2) := by decide +kernel
theorem i212_196 : am_ins 212 196 = some (.iload_n 3) := by decide +kernel
theorem i212_197 : am_ins 212 197 = some (.invokevirtual 56) := by decide +kernel
theorem i212_200 : am_ins 212 200 = some (.i2l) := by decide +kernel
theorem i212_201 : am_ins 212 201 = some (.lreturn) := by decide +kernel
theorem i212_202 : am_ins 212 202 = some (.aload_n 0) := by decide +kernel
theorem i212_203 : am_ins 212 203 = some (.iload_n 2) := by decide +kernel
theorem i212_204 : am_ins 212 204 = some (.iload_n 3) := by decide +kernel
theorem i212_205 : am_ins 212 205 = some (.invokevirtual 59) := by decide +kernel
theorem i212_208 : am_ins 212 208 = some (.i2l) := by decide +kernel
theorem i212_209 : am_ins 212 209 = some (.lreturn) := by decide +kernel
theorem i212_210 : am_ins 212 210 = some (.aload_n 0) := by decide +kernel
theorem i212_211 : am_ins 212 211 = some (.iload_n 2) := by decide +kernel
theorem i212_212 : am_ins 212 212 = some (.invokevirtual 62) := by decide +kernel
theorem i212_215 : am_ins 212 215 = some (.i2l) := by decide +kernel
theorem i212_216 : am_ins 212 216 = some (.lreturn) := by decide +kernel
theorem i212_217 : am_ins 212 217 = some (.aload_n 0) := by decide +kernel
theorem i212_218 : am_ins 212 218 = some (.iload_n 2) := by decide +kernel
theorem i212_219 : am_ins 212 219 = some (.iload_n 3) := by decide +kernel
theorem i212_220 : am_ins 212 220 = some (.invokevirtual 65) := by decide +kernel
theorem i212_223 : am_ins 212 223 = some (.i2l) := by decide +kernel
theorem i212_224 : am_ins 212 224 = some (.lreturn) := by decide +kernel
theorem i212_225 : am_ins 212 225 = some (.aload_n 0) := by decide +kernel
theorem i212_226 : am_ins 212 226 = some (.iload_n 2) := by decide +kernel
theorem i212_227 : am_ins 212 227 = some (.invokevirtual 68) := by decide +kernel
theorem i212_230 : am_ins 212 230 = some (.i2l) := by decide +kernel
theorem i212_231 : am_ins 212 231 = some (.lreturn) := by decide +kernel
theorem i212_232 : am_ins 212 232 = some (.aload_n 0) := by decide +kernel
theorem i212_233 : am_ins 212 233 = some (.iload_n 2) := by decide +kernel
theorem i212_234 : am_ins 212 234 = some (.invokevirtual 71) := by decide +kernel
theorem i212_237 : am_ins 212 237 = some (.i2l) := by decide +kernel
theorem i212_238 : am_ins 212 238 = some (.lreturn) := by decide +kernel
theorem i212_239 : am_ins 212 239 = some (.aload_n 0) := by decide +kernel
theorem i212_240 : am_ins 212 240 = some (.iload_n 2) := by decide +kernel
theorem i212_241 : am_ins 212 241 = some (.iload_n 3) := by decide +kernel
theorem i212_242 : am_ins 212 242 = some (.invokevirtual 74) := by decide +kernel
theorem i212_245 : am_ins 212 245 = some (.i2l) := by decide +kernel
theorem i212_246 : am_ins 212 246 = some (.lreturn) := by decide +kernel
theorem i212_247 : am_ins 212 247 = some (.aload_n 0) := by decide +kernel
theorem i212_248 : am_ins 212 248 = some (.iload_n 2) := by decide +kernel
theorem i212_249 : am_ins 212 249 = some (.invokevirtual 77) := by decide +kernel
theorem i212_252 : am_ins 212 252 = some (.i2l) := by decide +kernel
theorem i212_253 : am_ins 212 253 = some (.lreturn) := by decide +kernel
theorem i212_254 : am_ins 212 254 = some (.aload_n 0) := by decide +kernel
theorem i212_255 : am_ins 212 255 = some (.iload_n 2) := by decide +kernel
theorem i212_256 : am_ins 212 256 = some (.invokevirtual 80) := by decide +kernel
theorem i212_259 : am_ins 212 259 = some (.i2l) := by decide +kernel
theorem i212_260 : am_ins 212 260 = some (.lreturn) := by decide +kernel
theorem i212_261 : am_ins 212 261 = some (.aload_n 0) := by decide +kernel
theorem i212_262 : am_ins 212 262 = some (.iload_n 2) := by decide +kernel
theorem i212_263 : am_ins 212 263 = some (.iload_n 3) := by decide +kernel
theorem i212_264 : am_ins 212 264 = some (.invokevirtual 83) := by decide +kernel
theorem i212_267 : am_ins 212 267 = some (.i2l) := by decide +kernel
theorem i212_268 : am_ins 212 268 = some (.lreturn) := by decide +kernel
theorem i212_269 : am_ins 212 269 = some (.aload_n 0) := by decide +kernel
theorem i212_270 : am_ins 212 270 = some (.iload_n 2) := by decide +kernel
theorem i212_271 : am_ins 212 271 = some (.iload_n 3) := by decide +kernel
theorem i212_272 : am_ins 212 272 = some (.invokevirtual 86) := by decide +kernel
theorem i212_275 : am_ins 212 275 = some (.i2l) := by decide +kernel
theorem i212_276 : am_ins 212 276 = some (.lreturn) := by decide +kernel
theorem i212_277 : am_ins 212 277 = some (.aload_n 0) := by decide +kernel
theorem i212_278 : am_ins 212 278 = some (.iload_n 2) := by decide +kernel
theorem i212_279 : am_ins 212 279 = some (.invokevirtual 89) := by decide +kernel
theorem i212_282 : am_ins 212 282 = some (.i2l) := by decide +kernel
theorem i212_283 : am_ins 212 283 = some (.lreturn) := by decide +kernel
theorem i212_284 : am_ins 212 284 = some (.aload_n 0) := by decide +kernel
theorem i212_285 : am_ins 212 285 = some (.invokevirtual 92) := by decide +kernel
theorem i212_288 : am_ins 212 288 = some (.i2l) := by decide +kernel
theorem i212_289 : am_ins 212 289 = some (.lreturn) := by decide +kernel
theorem i212_290 : am_ins 212 290 = some (.aload_n 0) := by decide +kernel
theorem i212_291 : am_ins 212 291 = some (.iload_n 2) := by decide +kernel
theorem i212_292 : am_ins 212 292 = some (.invokevirtual 95) := by decide +kernel
theorem i212_295 : am_ins 212 295 = some (.i2l) := by decide +kernel
theorem i212_296 : am_ins 212 296 = some (.lreturn) := by decide +kernel
theorem i212_297 : am_ins 212 297 = some (.aload_n 0) := by decide +kernel
theorem i212_298 : am_ins 212 298 = some (.iload_n 2) := by decide +kernel
theorem i212_299 : am_ins 212 299 = some (.iload_n 3) := by decide +kernel
theorem i212_300 : am_ins 212 300 = some (.iload 4) := by decide +kernel
theorem i212_302 : am_ins 212 302 = some (.iload 5) := by decide +kernel
theorem i212_304 : am_ins 212 304 = some (.invokevirtual 98) := by decide +kernel
theorem i212_307 : am_ins 212 307 = some (.i2l) := by decide +kernel
theorem i212_308 : am_ins 212 308 = some (.lreturn) := by decide +kernel
theorem i212_309 : am_ins 212 309 = some (.aload_n 0) := by decide +kernel
theorem i212_310 : am_ins 212 310 = some (.iload_n 2) := by decide +kernel
theorem i212_311 : am_ins 212 311 = some (.invokevirtual 102) := by decide +kernel
theorem i212_314 : am_ins 212 314 = some (.i2l) := by decide +kernel
theorem i212_315 : am_ins 212 315 = some (.lreturn) := by decide +kernel
theorem i212_316 : am_ins 212 316 = some (.aload_n 0) := by decide +kernel
theorem i212_317 : am_ins 212 317 = some (.iload_n 2) := by decide +kernel
theorem i212_318 : am_ins 212 318 = some (.invokevirtual 105) := by decide +kernel
theorem i212_321 : am_ins 212 321 = some (.i2l) := by decide +kernel
theorem i212_322 : am_ins 212 322 = some (.lreturn) := by decide +kernel
theorem i212_323 : am_ins 212 323 = some (.aload_n 0) := by decide +kernel
theorem i212_324 : am_ins 212 324 = some (.iload_n 2) := by decide +kernel
theorem i212_325 : am_ins 212 325 = some (.iload_n 3) := by decide +kernel
theorem i212_326 : am_ins 212 326 = some (.invokevirtual 108) := by decide +kernel
theorem i212_329 : am_ins 212 329 = some (.i2l) := by decide +kernel
theorem i212_330 : am_ins 212 330 = some (.lreturn) := by decide +kernel
theorem i212_331 : am_ins 212 331 = some (.aload_n 0) := by decide +kernel
theorem i212_332 : am_ins 212 332 = some (.invokevirtual 111) := by decide +kernel
theorem i212_335 : am_ins 212 335 = some (.i2l) := by decide +kernel
theorem i212_336 : am_ins 212 336 = some (.lreturn) := by decide +kernel
theorem i212_337 : am_ins 212 337 = some (.aload_n 0) := by decide +kernel
theorem i212_338 : am_ins 212 338 = some (.iload_n 2) := by decide +kernel
theorem i212_339 : am_ins 212 339 = some (.invokevirtual 114) := by decide +kernel
theorem i212_342 : am_ins 212 342 = some (.i2l) := by decide +kernel
theorem i212_343 : am_ins 212 343 = some (.lreturn) := by decide +kernel
theorem i212_344 : am_ins 212 344 = some (.aload_n 0) := by decide +kernel
theorem i212_345 : am_ins 212 345 = some (.iload_n 2) := by decide +kernel
theorem i212_346 : am_ins 212 346 = some (.invokevirtual 117) := by decide +kernel
theorem i212_349 : am_ins 212 349 = some (.i2l) := by decide +kernel
theorem i212_350 : am_ins 212 350 = some (.lreturn) := by decide +kernel
theorem i212_351 : am_ins 212 351 = some (.aload_n 0) := by decide +kernel
theorem i212_352 : am_ins 212 352 = some (.iload_n 2) := by decide +kernel
theorem i212_353 : am_ins 212 353 = some (.invokevirtual 29) := by decide +kernel
theorem i212_356 : am_ins 212 356 = some (.i2l) := by decide +kernel
theorem i212_357 : am_ins 212 357 = some (.lreturn) := by decide +kernel
theorem i212_358 : am_ins 212 358 = some (.aload_n 0) := by decide +kernel
theorem i212_359 : am_ins 212 359 = some (.iload_n 2) := by decide +kernel
theorem i212_360 : am_ins 212 360 = some (.invokevirtual 120) := by decide +kernel
theorem i212_363 : am_ins 212 363 = some (.i2l) := by decide +kernel
theorem i212_364 : am_ins 212 364 = some (.lreturn) := by decide +kernel
theorem i212_365 : am_ins 212 365 = some (.aload_n 0) := by decide +kernel
theorem i212_366 : am_ins 212 366 = some (.iload_n 2) := by decide +kernel
theorem i212_367 : am_ins 212 367 = some (.invokevirtual 123) := by decide +kernel
theorem i212_370 : am_ins 212 370 = some (.i2l) := by decide +kernel
theorem i212_371 : am_ins 212 371 = some (.lreturn) := by decide +kernel
theorem i212_372 : am_ins 212 372 = some (.aload_n 0) := by decide +kernel
theorem i212_373 : am_ins 212 373 = some (.invokevirtual 126) := by decide +kernel
theorem i212_376 : am_ins 212 376 = some (.i2l) := by decide +kernel
theorem i212_377 : am_ins 212 377 = some (.lreturn) := by decide +kernel
theorem i213_0 : am_ins 213 0 = some (.aload_n 0) := by decide +kernel
theorem i213_1 : am_ins 213 1 = some (.invokevirtual 126) := by decide +kernel
theorem i213_4 : am_ins 213 4 = some (.aload_n 1) := by decide +kernel
theorem i213_5 : am_ins 213 5 = some (.getfield 141) := by decide +kernel
theorem i213_8 : am_ins 213 8 = some (.if_icmp .ne 62) := by decide +kernel
theorem i213_11 : am_ins 213 11 = some (.aload_n 0) := by decide +kernel
theorem i213_12 : am_ins 213 12 = some (.iconst 0) := by decide +kernel
theorem i213_13 : am_ins 213 13 = some (.invokevirtual 123) := by decide +kernel
theorem i213_16 : am_ins 213 16 = some (.aload_n 1) := by decide +kernel
theorem i213_17 : am_ins 213 17 = some (.getfield 146) := by decide +kernel
theorem i213_20 : am_ins 213 20 = some (.if_icmp .ne 50) := by decide +kernel
theorem i213_23 : am_ins 213 23 = some (.aload_n 0) := by decide +kernel
theorem i213_24 : am_ins 213 24 = some (.iconst 1) := by decide +kernel
theorem i213_25 : am_ins 213 25 = some (.invokevirtual 123) := by decide +kernel
theorem i213_28 : am_ins 213 28 = some (.aload_n 1) := by decide +kernel
theorem i213_29 : am_ins 213 29 = some (.getfield 149) := by decide +kernel
theorem i213_32 : am_ins 213 32 = some (.if_icmp .ne 38) := by decide +kernel
theorem i213_35 : am_ins 213 35 = some (.aload_n 0) := by decide +kernel
theorem i213_36 : am_ins 213 36 = some (.iconst 1) := by decide +kernel
theorem i213_37 : am_ins 213 37 = some (.invokevirtual 33) := by decide +kernel
theorem i213_40 : am_ins 213 40 = some (.aload_n 1) := by decide +kernel
theorem i213_41 : am_ins 213 41 = some (.getfield 152) := by decide +kernel
theorem i213_44 : am_ins 213 44 = some (.if_icmp .ne 26) := by decide +kernel
theorem i213_47 : am_ins 213 47 = some (.aload_n 0) := by decide +kernel
theorem i213_48 : am_ins 213 48 = some (.iconst 2) := by decide +kernel
theorem i213_49 : am_ins 213 49 = some (.invokevirtual 33) := by decide +kernel
theorem i213_52 : am_ins 213 52 = some (.aload_n 1) := by decide +kernel
theorem i213_53 : am_ins 213 53 = some (.getfield 155) := by decide +kernel
theorem i213_56 : am_ins 213 56 = some (.if_icmp .ne 14) := by decide +kernel
theorem i213_59 : am_ins 213 59 = some (.aload_n 0) := by decide +kernel
theorem i213_60 : am_ins 213 60 = some (.invokevirtual 158) := by decide +kernel
theorem i213_63 : am_ins 213 63 = some (.aload_n 1) := by decide +kernel
theorem i213_64 : am_ins 213 64 = some (.getfield 161) := by decide +kernel
theorem i213_67 : am_ins 213 67 = some (.if_icmp .eq 5) := by decide +kernel
theorem i213_70 : am_ins 213 70 = some (.iconst 0) := by decide +kernel
theorem i213_71 : am_ins 213 71 = some (.ireturn) := by decide +kernel
theorem i213_72 : am_ins 213 72 = some (.iconst 0) := by decide +kernel
theorem i213_73 : am_ins 213 73 = some (.istore_n 2) := by decide +kernel
theorem i213_74 : am_ins 213 74 = some (.iload_n 2) := by decide +kernel
theorem i213_75 : am_ins 213 75 = some (.bipush 8) := by decide +kernel
theorem i213_77 : am_ins 213 77 = some (.if_icmp .ge 25) := by decide +kernel
theorem i213_80 : am_ins 213 80 = some (.aload_n 0) := by decide +kernel
theorem i213_81 : am_ins 213 81 = some (.iload_n 2) := by decide +kernel
theorem i213_82 : am_ins 213 82 = some (.invokevirtual 71) := by decide +kernel
theorem i213_85 : am_ins 213 85 = some (.aload_n 1) := by decide +kernel
theorem i213_86 : am_ins 213 86 = some (.getfield 164) := by decide +kernel
theorem i213_89 : am_ins 213 89 = some (.iload_n 2) := by decide +kernel
theorem i213_90 : am_ins 213 90 = some (.iaload) := by decide +kernel
theorem i213_91 : am_ins 213 91 = some (.if_icmp .eq 5) := by decide +kernel
theorem i213_94 : am_ins 213 94 = some (.iconst 0) := by decide +kernel
theorem i213_95 : am_ins 213 95 = some (.ireturn) := by decide +kernel
theorem i213_96 : am_ins 213 96 = some (.iinc 2 1) := by decide +kernel
theorem i213_99 : am_ins 213 99 = some (.goto (-25)) := by decide +kernel
theorem i213_102 : am_ins 213 102 = some (.iconst 0) := by decide +kernel
theorem i213_103 : am_ins 213 103 = some (.istore_n 2) := by decide +kernel
theorem i213_104 : am_ins 213 104 = some (.iload_n 2) := by decide +kernel
theorem i213_105 : am_ins 213 105 = some (.aload_n 1) := by decide +kernel
theorem i213_106 : am_ins 213 106 = some (.getfield 152) := by decide +kernel
theorem i213_109 : am_ins 213 109 = some (.if_icmp .ge 91) := by decide +kernel
theorem i213_112 : am_ins 213 112 = some (.aload_n 1) := by decide +kernel
theorem i213_113 : am_ins 213 113 = some (.getfield 168) := by decide +kernel
theorem i213_116 : am_ins 213 116 = some (.iload_n 2) := by decide +kernel
theorem i213_117 : am_ins 213 117 = some (.aaload) := by decide +kernel
theorem i213_118 : am_ins 213 118 = some (.astore_n 3) := by decide +kernel
theorem i213_119 : am_ins 213 119 = some (.aload_n 0) := by decide +kernel
theorem i213_120 : am_ins 213 120 = some (.iload_n 2) := by decide +kernel
theorem i213_121 : am_ins 213 121 = some (.iconst 0) := by decide +kernel
theorem i213_122 : am_ins 213 122 = some (.invokevirtual 40) := by decide +kernel
theorem i213_125 : am_ins 213 125 = some (.aload_n 3) := by decide +kernel
theorem i213_126 : am_ins 213 126 = some (.getfield 172) := by decide +kernel
theorem i213_129 : am_ins 213 129 = some (.if_icmp .ne 63) := by decide +kernel
theorem i213_132 : am_ins 213 132 = some (.aload_n 0) := by decide +kernel
theorem i213_133 : am_ins 213 133 = some (.iload_n 2) := by decide +kernel
theorem i213_134 : am_ins 213 134 = some (.iconst 1) := by decide +kernel
theorem i213_135 : am_ins 213 135 = some (.invokevirtual 40) := by decide +kernel
theorem i213_138 : am_ins 213 138 = some (.aload_n 3) := by decide +kernel
theorem i213_139 : am_ins 213 139 = some (.getfield 176) := by decide +kernel
theorem i213_142 : am_ins 213 142 = some (.if_icmp .ne 50) := by decide +kernel
theorem i213_145 : am_ins 213 145 = some (.aload_n 0) := by decide +kernel
theorem i213_146 : am_ins 213 146 = some (.iload_n 2) := by decide +kernel
theorem i213_147 : am_ins 213 147 = some (.iconst 2) := by decide +kernel
theorem i213_148 : am_ins 213 148 = some (.invokevirtual 40) := by decide +kernel
theorem i213_151 : am_ins 213 151 = some (.aload_n 3) := by decide +kernel
theorem i213_152 : am_ins 213 152 = some (.getfield 178) := by decide +kernel
theorem i213_155 : am_ins 213 155 = some (.if_icmp .ne 37) := by decide +kernel
theorem i213_158 : am_ins 213 158 = some (.aload_n 0) := by decide +kernel
theorem i213_159 : am_ins 213 159 = some (.iload_n 2) := by decide +kernel
theorem i213_160 : am_ins 213 160 = some (.iconst 3) := by decide +kernel
theorem i213_161 : am_ins 213 161 = some (.invokevirtual 40) := by decide +kernel
theorem i213_164 : am_ins 213 164 = some (.aload_n 3) := by decide +kernel
theorem i213_165 : am_ins 213 165 = some (.getfield 181) := by decide +kernel
theorem i213_168 : am_ins 213 168 = some (.if_icmp .ne 24) := by decide +kernel
theorem i213_171 : am_ins 213 171 = some (.aload_n 0) := by decide +kernel
theorem i213_172 : am_ins 213 172 = some (.iload_n 2) := by decide +kernel
theorem i213_173 : am_ins 213 173 = some (.iconst 4) := by decide +kernel
theorem i213_174 : am_ins 213 174 = some (.invokevirtual 40) := by decide +kernel
theorem i213_177 : am_ins 213 177 = some (.aload_n 3) := by decide +kernel
theorem i213_178 : am_ins 213 178 = some (.getfield 184) := by decide +kernel
theorem i213_181 : am_ins 213 181 = some (.ifCond .eq 7) := by decide +kernel
theorem i213_184 : am_ins 213 184 = some (.iconst 1) := by decide +kernel
theorem i213_185 : am_ins 213 185 = some (.goto 4) := by decide +kernel
theorem i213_188 : am_ins 213 188 = some (.iconst 0) := by decide +kernel
theorem i213_189 : am_ins 213 189 = some (.if_icmp .eq 5) := by decide +kernel
theorem i213_192 : am_ins 213 192 = some (.iconst 0) := by decide +kernel
theorem i213_193 : am_ins 213 193 = some (.ireturn) := by decide +kernel
theorem i213_194 : am_ins 213 194 = some (.iinc 2 1) := by decide +kernel
theorem i213_197 : am_ins 213 197 = some (.goto (-93)) := by decide +kernel
theorem i213_200 : am_ins 213 200 = some (.iconst 0) := by decide +kernel
theorem i213_201 : am_ins 213 201 = some (.istore_n 2) := by decide +kernel
theorem i213_202 : am_ins 213 202 = some (.iload_n 2) := by decide +kernel
theorem i213_203 : am_ins 213 203 = some (.aload_n 1) := by decide +kernel
theorem i213_204 : am_ins 213 204 = some (.getfield 155) := by decide +kernel
theorem i213_207 : am_ins 213 207 = some (.if_icmp .ge 121) := by decide +kernel
theorem i213_210 : am_ins 213 210 = some (.aload_n 1) := by decide +kernel
theorem i213_211 : am_ins 213 211 = some (.getfield 188) := by decide +kernel
theorem i213_214 : am_ins 213 214 = some (.iload_n 2) := by decide +kernel
theorem i213_215 : am_ins 213 215 = some (.aaload) := by decide +kernel
theorem i213_216 : am_ins 213 216 = some (.astore_n 3) := by decide +kernel
theorem i213_217 : am_ins 213 217 = some (.bipush 8) := by decide +kernel
theorem i213_219 : am_ins 213 219 = some (.newarray .int) := by decide +kernel
theorem i213_221 : am_ins 213 221 = some (.dup) := by decide +kernel
theorem i213_222 : am_ins 213 222 = some (.iconst 0) := by decide +kernel
theorem i213_223 : am_ins 213 223 = some (.aload_n 3) := by decide +kernel
theorem i213_224 : am_ins 213 224 = some (.getfield 192) := by decide +kernel
theorem i213_227 : am_ins 213 227 = some (.iastore) := by decide +kernel
theorem i213_228 : am_ins 213 228 = some (.dup) := by decide +kernel
theorem i213_229 : am_ins 213 229 = some (.iconst 1) := by decide +kernel
theorem i213_230 : am_ins 213 230 = some (.aload_n 3) := by decide +kernel
theorem i213_231 : am_ins 213 231 = some (.getfield 195) := by decide +kernel
theorem i213_234 : am_ins 213 234 = some (.iastore) := by decide +kernel
theorem i213_235 : am_ins 213 235 = some (.dup) := by decide +kernel
theorem i213_236 : am_ins 213 236 = some (.iconst 2) := by decide +kernel
theorem i213_237 : am_ins 213 237 = some (.aload_n 3) := by decide +kernel
theorem i213_238 : am_ins 213 238 = some (.getfield 198) := by decide +kernel
theorem i213_241 : am_ins 213 241 = some (.iastore) := by decide +kernel
theorem i213_242 : am_ins 213 242 = some (.dup) := by decide +kernel
theorem i213_243 : am_ins 213 243 = some (.iconst 3) := by decide +kernel
theorem i213_244 : am_ins 213 244 = some (.aload_n 3) := by decide +kernel
theorem i213_245 : am_ins 213 245 = some (.getfield 201) := by decide +kernel
theorem i213_248 : am_ins 213 248 = some (.iastore) := by decide +kernel
theorem i213_249 : am_ins 213 249 = some (.dup) := by decide +kernel
theorem i213_250 : am_ins 213 250 = some (.iconst 4) := by decide +kernel
theorem i213_251 : am_ins 213 251 = some (.aload_n 3) := by decide +kernel
theorem i213_252 : am_ins 213 252 = some (.getfield 204) := by decide +kernel
theorem i213_255 : am_ins 213 255 = some (.iastore) := by decide +kernel
theorem i213_256 : am_ins 213 256 = some (.dup) := by decide +kernel
theorem i213_257 : am_ins 213 257 = some (.iconst 5) := by decide +kernel
theorem i213_258 : am_ins 213 258 = some (.aload_n 3) := by decide +kernel
theorem i213_259 : am_ins 213 259 = some (.getfield 207) := by decide +kernel
theorem i213_262 : am_ins 213 262 = some (.iastore) := by decide +kernel
theorem i213_263 : am_ins 213 263 = some (.dup) := by decide +kernel
theorem i213_264 : am_ins 213 264 = some (.bipush 6) := by decide +kernel
theorem i213_266 : am_ins 213 266 = some (.aload_n 3) := by decide +kernel
theorem i213_267 : am_ins 213 267 = some (.getfield 210) := by decide +kernel
theorem i213_270 : am_ins 213 270 = some (.iastore) := by decide +kernel
theorem i213_271 : am_ins 213 271 = some (.dup) := by decide +kernel
theorem i213_272 : am_ins 213 272 = some (.bipush 7) := by decide +kernel
theorem i213_274 : am_ins 213 274 = some (.aload_n 3) := by decide +kernel
theorem i213_275 : am_ins 213 275 = some (.getfield 213) := by decide +kernel
theorem i213_278 : am_ins 213 278 = some (.ifCond .eq 7) := by decide +kernel
theorem i213_281 : am_ins 213 281 = some (.iconst 1) := by decide +kernel
theorem i213_282 : am_ins 213 282 = some (.goto 4) := by decide +kernel
theorem i213_285 : am_ins 213 285 = some (.iconst 0) := by decide +kernel
theorem i213_286 : am_ins 213 286 = some (.iastore) := by decide +kernel
theorem i213_287 : am_ins 213 287 = some (.astore 4) := by decide +kernel
theorem i213_289 : am_ins 213 289 = some (.iconst 0) := by decide +kernel
theorem i213_290 : am_ins 213 290 = some (.istore 5) := by decide +kernel
theorem i213_292 : am_ins 213 292 = some (.iload 5) := by decide +kernel
theorem i213_294 : am_ins 213 294 = some (.bipush 8) := by decide +kernel
theorem i213_296 : am_ins 213 296 = some (.if_icmp .ge 26) := by decide +kernel
theorem i213_299 : am_ins 213 299 = some (.aload_n 0) := by decide +kernel
theorem i213_300 : am_ins 213 300 = some (.iload_n 2) := by decide +kernel
theorem i213_301 : am_ins 213 301 = some (.iload 5) := by decide +kernel
theorem i213_303 : am_ins 213 303 = some (.invokevirtual 44) := by decide +kernel
theorem i213_306 : am_ins 213 306 = some (.aload 4) := by decide +kernel
theorem i213_308 : am_ins 213 308 = some (.iload 5) := by decide +kernel
theorem i213_310 : am_ins 213 310 = some (.iaload) := by decide +kernel
theorem i213_311 : am_ins 213 311 = some (.if_icmp .eq 5) := by decide +kernel
theorem i213_314 : am_ins 213 314 = some (.iconst 0) := by decide +kernel
theorem i213_315 : am_ins 213 315 = some (.ireturn) := by decide +kernel
theorem i213_316 : am_ins 213 316 = some (.iinc 5 1) := by decide +kernel
theorem i213_319 : am_ins 213 319 = some (.goto (-27)) := by decide +kernel
theorem i213_322 : am_ins 213 322 = some (.iinc 2 1) := by decide +kernel
theorem i213_325 : am_ins 213 325 = some (.goto (-123)) := by decide +kernel
theorem i213_328 : am_ins 213 328 = some (.iconst 1) := by decide +kernel
theorem i213_329 : am_ins 213 329 = some (.istore_n 2) := by decide +kernel
theorem i213_330 : am_ins 213 330 = some (.iload_n 2) := by decide +kernel
theorem i213_331 : am_ins 213 331 = some (.bipush 9) := by decide +kernel
theorem i213_333 : am_ins 213 333 = some (.if_icmp .ge 25) := by decide +kernel
theorem i213_336 : am_ins 213 336 = some (.aload_n 0) := by decide +kernel
theorem i213_337 : am_ins 213 337 = some (.iload_n 2) := by decide +kernel
theorem i213_338 : am_ins 213 338 = some (.invokevirtual 216) := by decide +kernel
theorem i213_341 : am_ins 213 341 = some (.aload_n 1) := by decide +kernel
theorem i213_342 : am_ins 213 342 = some (.getfield 219) := by decide +kernel
theorem i213_345 : am_ins 213 345 = some (.iload_n 2) := by decide +kernel
theorem i213_346 : am_ins 213 346 = some (.iaload) := by decide +kernel
theorem i213_347 : am_ins 213 347 = some (.if_icmp .eq 5) := by decide +kernel
theorem i213_350 : am_ins 213 350 = some (.iconst 0) := by decide +kernel
theorem i213_351 : am_ins 213 351 = some (.ireturn) := by decide +kernel
theorem i213_352 : am_ins 213 352 = some (.iinc 2 1) := by decide +kernel
theorem i213_355 : am_ins 213 355 = some (.goto (-25)) := by decide +kernel
theorem i213_358 : am_ins 213 358 = some (.iconst 1) := by decide +kernel
theorem i213_359 : am_ins 213 359 = some (.ireturn) := by decide +kernel
theorem i214_0 : am_ins 214 0 = some (.aload_n 2) := by decide +kernel
theorem i214_1 : am_ins 214 1 = some (.iconst 0) := by decide +kernel
theorem i214_2 : am_ins 214 2 = some (.bipush 13) := by decide +kernel
theorem i214_4 : am_ins 214 4 = some (.invokevirtual 222) := by decide +kernel
theorem i214_7 : am_ins 214 7 = some (.istore_n 3) := by decide +kernel
theorem i214_8 : am_ins 214 8 = some (.aload_n 2) := by decide +kernel
theorem i214_9 : am_ins 214 9 = some (.iconst 1) := by decide +kernel
theorem i214_10 : am_ins 214 10 = some (.bipush 7) := by decide +kernel
theorem i214_12 : am_ins 214 12 = some (.invokevirtual 222) := by decide +kernel
theorem i214_15 : am_ins 214 15 = some (.istore 4) := by decide +kernel
theorem i214_17 : am_ins 214 17 = some (.aload_n 2) := by decide +kernel
theorem i214_18 : am_ins 214 18 = some (.iconst 0) := by decide +kernel
theorem i214_19 : am_ins 214 19 = some (.bipush 15) := by decide +kernel
theorem i214_21 : am_ins 214 21 = some (.invokevirtual 222) := by decide +kernel
theorem i214_24 : am_ins 214 24 = some (.istore 5) := by decide +kernel
theorem i214_26 : am_ins 214 26 = some (.iload_n 3) := by decide +kernel
theorem i214_27 : am_ins 214 27 = some (.iconst 2) := by decide +kernel
theorem i214_28 : am_ins 214 28 = some (.if_icmp .ge 28) := by decide +kernel
theorem i214_31 : am_ins 214 31 = some (.aload_n 0) := by decide +kernel
theorem i214_32 : am_ins 214 32 = some (.iload 5) := by decide +kernel
theorem i214_34 : am_ins 214 34 = some (.iconst 4) := by decide +kernel
theorem i214_35 : am_ins 214 35 = some (.irem) := by decide +kernel
theorem i214_36 : am_ins 214 36 = some (.invokevirtual 89) := by decide +kernel
theorem i214_39 : am_ins 214 39 = some (.aload_n 1) := by decide +kernel
theorem i214_40 : am_ins 214 40 = some (.iload 5) := by decide +kernel
theorem i214_42 : am_ins 214 42 = some (.iconst 4) := by decide +kernel
theorem i214_43 : am_ins 214 43 = some (.irem) := by decide +kernel
theorem i214_44 : am_ins 214 44 = some (.invokevirtual 227) := by decide +kernel
theorem i214_47 : am_ins 214 47 = some (.if_icmp .ne 7) := by decide +kernel
theorem i214_50 : am_ins 214 50 = some (.iconst 1) := by decide +kernel
theorem i214_51 : am_ins 214 51 = some (.goto 4) := by decide +kernel
theorem i214_54 : am_ins 214 54 = some (.iconst 0) := by decide +kernel
theorem i214_55 : am_ins 214 55 = some (.ireturn) := by decide +kernel
theorem i214_56 : am_ins 214 56 = some (.iload_n 3) := by decide +kernel
theorem i214_57 : am_ins 214 57 = some (.iconst 4) := by decide +kernel
theorem i214_58 : am_ins 214 58 = some (.if_icmp .ge 20) := by decide +kernel
theorem i214_61 : am_ins 214 61 = some (.aload_n 0) := by decide +kernel
theorem i214_62 : am_ins 214 62 = some (.invokevirtual 92) := by decide +kernel
theorem i214_65 : am_ins 214 65 = some (.aload_n 1) := by decide +kernel
theorem i214_66 : am_ins 214 66 = some (.invokevirtual 228) := by decide +kernel
theorem i214_69 : am_ins 214 69 = some (.if_icmp .ne 7) := by decide +kernel
theorem i214_72 : am_ins 214 72 = some (.iconst 1) := by decide +kernel
theorem i214_73 : am_ins 214 73 = some (.goto 4) := by decide +kernel
theorem i214_76 : am_ins 214 76 = some (.iconst 0) := by decide +kernel
theorem i214_77 : am_ins 214 77 = some (.ireturn) := by decide +kernel
theorem i214_78 : am_ins 214 78 = some (.iload_n 3) := by decide +kernel
theorem i214_79 : am_ins 214 79 = some (.iconst 4) := by decide +kernel
theorem i214_80 : am_ins 214 80 = some (.if_icmp .ne 97) := by decide +kernel
theorem i214_83 : am_ins 214 83 = some (.iload 5) := by decide +kernel
theorem i214_85 : am_ins 214 85 = some (.aload_n 1) := by decide +kernel
theorem i214_86 : am_ins 214 86 = some (.getfield 231) := by decide +kernel
theorem i214_89 : am_ins 214 89 = some (.irem) := by decide +kernel
theorem i214_90 : am_ins 214 90 = some (.istore 6) := by decide +kernel
theorem i214_92 : am_ins 214 92 = some (.aload_n 1) := by decide +kernel
theorem i214_93 : am_ins 214 93 = some (.getfield 152) := by decide +kernel
theorem i214_96 : am_ins 214 96 = some (.bipush 40) := by decide +kernel
theorem i214_98 : am_ins 214 98 = some (.if_icmp .ne 24) := by decide +kernel
theorem i214_101 : am_ins 214 101 = some (.aload_n 0) := by decide +kernel
theorem i214_102 : am_ins 214 102 = some (.bipush 20) := by decide +kernel
theorem i214_104 : am_ins 214 104 = some (.iload 6) := by decide +kernel
theorem i214_106 : am_ins 214 106 = some (.iconst 0) := by decide +kernel
theorem i214_107 : am_ins 214 107 = some (.iconst 0) := by decide +kernel
theorem i214_108 : am_ins 214 108 = some (.iconst 0) := by decide +kernel
theorem i214_109 : am_ins 214 109 = some (.invokestatic 234) := by decide +kernel
theorem i214_112 : am_ins 214 112 = some (.iconst 3) := by decide +kernel
theorem i214_113 : am_ins 214 113 = some (.if_icmp .ne 7) := by decide +kernel
theorem i214_116 : am_ins 214 116 = some (.iconst 1) := by decide +kernel
theorem i214_117 : am_ins 214 117 = some (.goto 4) := by decide +kernel
theorem i214_120 : am_ins 214 120 = some (.iconst 0) := by decide +kernel
theorem i214_121 : am_ins 214 121 = some (.ireturn) := by decide +kernel
theorem i214_122 : am_ins 214 122 = some (.aload_n 1) := by decide +kernel
theorem i214_123 : am_ins 214 123 = some (.iload 6) := by decide +kernel
theorem i214_125 : am_ins 214 125 = some (.invokevirtual 238) := by decide +kernel
theorem i214_128 : am_ins 214 128 = some (.aload_n 1) := by decide +kernel
theorem i214_129 : am_ins 214 129 = some (.getfield 164) := by decide +kernel
theorem i214_132 : am_ins 214 132 = some (.iconst 0) := by decide +kernel
theorem i214_133 : am_ins 214 133 = some (.dup2) := by decide +kernel
theorem i214_134 : am_ins 214 134 = some (.iaload) := by decide +kernel
theorem i214_135 : am_ins 214 135 = some (.aload_n 1) := by decide +kernel
theorem i214_136 : am_ins 214 136 = some (.getfield 241) := by decide +kernel
theorem i214_139 : am_ins 214 139 = some (.iload 6) := by decide +kernel
theorem i214_141 : am_ins 214 141 = some (.aaload) := by decide +kernel
theorem i214_142 : am_ins 214 142 = some (.iconst 0) := by decide +kernel
theorem i214_143 : am_ins 214 143 = some (.iaload) := by decide +kernel
theorem i214_144 : am_ins 214 144 = some (.aload_n 1) := by decide +kernel
theorem i214_145 : am_ins 214 145 = some (.getfield 241) := by decide +kernel
theorem i214_148 : am_ins 214 148 = some (.iload 6) := by decide +kernel
theorem i214_150 : am_ins 214 150 = some (.aaload) := by decide +kernel
theorem i214_151 : am_ins 214 151 = some (.iconst 1) := by decide +kernel
theorem i214_152 : am_ins 214 152 = some (.iaload) := by decide +kernel
theorem i214_153 : am_ins 214 153 = some (.imul) := by decide +kernel
theorem i214_154 : am_ins 214 154 = some (.iadd) := by decide +kernel
theorem i214_155 : am_ins 214 155 = some (.iastore) := by decide +kernel
theorem i214_156 : am_ins 214 156 = some (.aload_n 0) := by decide +kernel
theorem i214_157 : am_ins 214 157 = some (.iload 6) := by decide +kernel
theorem i214_159 : am_ins 214 159 = some (.invokevirtual 95) := by decide +kernel
theorem i214_162 : am_ins 214 162 = some (.aload_n 1) := by decide +kernel
theorem i214_163 : am_ins 214 163 = some (.getfield 152) := by decide +kernel
theorem i214_166 : am_ins 214 166 = some (.iconst 1) := by decide +kernel
theorem i214_167 : am_ins 214 167 = some (.isub) := by decide +kernel
theorem i214_168 : am_ins 214 168 = some (.if_icmp .ne 7) := by decide +kernel
theorem i214_171 : am_ins 214 171 = some (.iconst 1) := by decide +kernel
theorem i214_172 : am_ins 214 172 = some (.goto 4) := by decide +kernel
theorem i214_175 : am_ins 214 175 = some (.iconst 0) := by decide +kernel
theorem i214_176 : am_ins 214 176 = some (.ireturn) := by decide +kernel
theorem i214_177 : am_ins 214 177 = some (.iload_n 3) := by decide +kernel
theorem i214_178 : am_ins 214 178 = some (.bipush 7) := by decide +kernel
theorem i214_180 : am_ins 214 180 = some (.if_icmp .ge 92) := by decide +kernel
theorem i214_183 : am_ins 214 183 = some (.aload_n 1) := by decide +kernel
theorem i214_184 : am_ins 214 184 = some (.getfield 155) := by decide +kernel
theorem i214_187 : am_ins 214 187 = some (.bipush 16) := by decide +kernel
theorem i214_189 : am_ins 214 189 = some (.if_icmp .ne 24) := by decide +kernel
theorem i214_192 : am_ins 214 192 = some (.aload_n 0) := by decide +kernel
theorem i214_193 : am_ins 214 193 = some (.bipush 21) := by decide +kernel
theorem i214_195 : am_ins 214 195 = some (.iload 4) := by decide +kernel
theorem i214_197 : am_ins 214 197 = some (.iconst 1) := by decide +kernel
theorem i214_198 : am_ins 214 198 = some (.iconst 0) := by decide +kernel
theorem i214_199 : am_ins 214 199 = some (.iconst 0) := by decide +kernel
theorem i214_200 : am_ins 214 200 = some (.invokestatic 234) := by decide +kernel
theorem i214_203 : am_ins 214 203 = some (.iconst 3) := by decide +kernel
theorem i214_204 : am_ins 214 204 = some (.if_icmp .ne 7) := by decide +kernel
theorem i214_207 : am_ins 214 207 = some (.iconst 1) := by decide +kernel
theorem i214_208 : am_ins 214 208 = some (.goto 4) := by decide +kernel
theorem i214_211 : am_ins 214 211 = some (.iconst 0) := by decide +kernel
theorem i214_212 : am_ins 214 212 = some (.ireturn) := by decide +kernel
theorem i214_213 : am_ins 214 213 = some (.aload_n 0) := by decide +kernel
theorem i214_214 : am_ins 214 214 = some (.iload 4) := by decide +kernel
theorem i214_216 : am_ins 214 216 = some (.iconst 1) := by decide +kernel
theorem i214_217 : am_ins 214 217 = some (.iload 5) := by decide +kernel
theorem i214_219 : am_ins 214 219 = some (.iconst 3) := by decide +kernel
theorem i214_220 : am_ins 214 220 = some (.irem) := by decide +kernel
theorem i214_221 : am_ins 214 221 = some (.iadd) := by decide +kernel
theorem i214_222 : am_ins 214 222 = some (.iload 5) := by decide +kernel
theorem i214_224 : am_ins 214 224 = some (.iload 5) := by decide +kernel
theorem i214_226 : am_ins 214 226 = some (.iconst 4) := by decide +kernel
theorem i214_227 : am_ins 214 227 = some (.irem) := by decide +kernel
theorem i214_228 : am_ins 214 228 = some (.aload_n 1) := by decide +kernel
theorem i214_229 : am_ins 214 229 = some (.getfield 141) := by decide +kernel
theorem i214_232 : am_ins 214 232 = some (.iconst 2) := by decide +kernel
theorem i214_233 : am_ins 214 233 = some (.idiv) := by decide +kernel
theorem i214_234 : am_ins 214 234 = some (.iadd) := by decide +kernel
theorem i214_235 : am_ins 214 235 = some (.invokevirtual 98) := by decide +kernel
theorem i214_238 : am_ins 214 238 = some (.aload_n 1) := by decide +kernel
theorem i214_239 : am_ins 214 239 = some (.iload 4) := by decide +kernel
theorem i214_241 : am_ins 214 241 = some (.iconst 1) := by decide +kernel
theorem i214_242 : am_ins 214 242 = some (.iload 5) := by decide +kernel
theorem i214_244 : am_ins 214 244 = some (.iconst 3) := by decide +kernel
theorem i214_245 : am_ins 214 245 = some (.irem) := by decide +kernel
theorem i214_246 : am_ins 214 246 = some (.iadd) := by decide +kernel
theorem i214_247 : am_ins 214 247 = some (.iload 5) := by decide +kernel
theorem i214_249 : am_ins 214 249 = some (.iload 5) := by decide +kernel
theorem i214_251 : am_ins 214 251 = some (.iconst 4) := by decide +kernel
theorem i214_252 : am_ins 214 252 = some (.irem) := by decide +kernel
theorem i214_253 : am_ins 214 253 = some (.aload_n 1) := by decide +kernel
theorem i214_254 : am_ins 214 254 = some (.getfield 141) := by decide +kernel
theorem i214_257 : am_ins 214 257 = some (.iconst 2) := by decide +kernel
theorem i214_258 : am_ins 214 258 = some (.idiv) := by decide +kernel
theorem i214_259 : am_ins 214 259 = some (.iadd) := by decide +kernel
theorem i214_260 : am_ins 214 260 = some (.invokevirtual 245) := by decide +kernel
theorem i214_263 : am_ins 214 263 = some (.if_icmp .ne 7) := by decide +kernel
theorem i214_266 : am_ins 214 266 = some (.iconst 1) := by decide +kernel
theorem i214_267 : am_ins 214 267 = some (.goto 4) := by decide +kernel
theorem i214_270 : am_ins 214 270 = some (.iconst 0) := by decide +kernel
theorem i214_271 : am_ins 214 271 = some (.ireturn) := by decide +kernel
theorem i214_272 : am_ins 214 272 = some (.iload_n 3) := by decide +kernel
theorem i214_273 : am_ins 214 273 = some (.bipush 7) := by decide +kernel
theorem i214_275 : am_ins 214 275 = some (.if_icmp .ne 112) := by decide +kernel
theorem i214_278 : am_ins 214 278 = some (.aload_n 1) := by decide +kernel
theorem i214_279 : am_ins 214 279 = some (.getfield 155) := by decide +kernel
theorem i214_282 : am_ins 214 282 = some (.ifCond .ne 23) := by decide +kernel
theorem i214_285 : am_ins 214 285 = some (.aload_n 0) := by decide +kernel
theorem i214_286 : am_ins 214 286 = some (.bipush 22) := by decide +kernel
theorem i214_288 : am_ins 214 288 = some (.iconst 0) := by decide +kernel
theorem i214_289 : am_ins 214 289 = some (.iconst 0) := by decide +kernel
theorem i214_290 : am_ins 214 290 = some (.iconst 0) := by decide +kernel
theorem i214_291 : am_ins 214 291 = some (.iconst 0) := by decide +kernel
theorem i214_292 : am_ins 214 292 = some (.invokestatic 234) := by decide +kernel
theorem i214_295 : am_ins 214 295 = some (.iconst 2) := by decide +kernel
theorem i214_296 : am_ins 214 296 = some (.if_icmp .ne 7) := by decide +kernel
theorem i214_299 : am_ins 214 299 = some (.iconst 1) := by decide +kernel
theorem i214_300 : am_ins 214 300 = some (.goto 4) := by decide +kernel
theorem i214_303 : am_ins 214 303 = some (.iconst 0) := by decide +kernel
theorem i214_304 : am_ins 214 304 = some (.ireturn) := by decide +kernel
theorem i214_305 : am_ins 214 305 = some (.aload_n 1) := by decide +kernel
theorem i214_306 : am_ins 214 306 = some (.getfield 188) := by decide +kernel
theorem i214_309 : am_ins 214 309 = some (.iload 5) := by decide +kernel
theorem i214_311 : am_ins 214 311 = some (.aload_n 1) := by decide +kernel
theorem i214_312 : am_ins 214 312 = some (.getfield 155) := by decide +kernel
theorem i214_315 : am_ins 214 315 = some (.irem) := by decide +kernel
theorem i214_316 : am_ins 214 316 = some (.aaload) := by decide +kernel
theorem i214_317 : am_ins 214 317 = some (.astore 6) := by decide +kernel
theorem i214_319 : am_ins 214 319 = some (.aload 6) := by decide +kernel
theorem i214_321 : am_ins 214 321 = some (.getfield 204) := by decide +kernel
theorem i214_324 : am_ins 214 324 = some (.istore 7) := by decide +kernel
theorem i214_326 : am_ins 214 326 = some (.iload 7) := by decide +kernel
theorem i214_328 : am_ins 214 328 = some (.ifCond .ne 27) := by decide +kernel
theorem i214_331 : am_ins 214 331 = some (.aload_n 0) := by decide +kernel
theorem i214_332 : am_ins 214 332 = some (.bipush 22) := by decide +kernel
theorem i214_334 : am_ins 214 334 = some (.aload 6) := by decide +kernel
theorem i214_336 : am_ins 214 336 = some (.getfield 247) := by decide +kernel
theorem i214_339 : am_ins 214 339 = some (.iconst 0) := by decide +kernel
theorem i214_340 : am_ins 214 340 = some (.iconst 0) := by decide +kernel
theorem i214_341 : am_ins 214 341 = some (.iconst 0) := by decide +kernel
theorem i214_342 : am_ins 214 342 = some (.invokestatic 234) := by decide +kernel
theorem i214_345 : am_ins 214 345 = some (.iconst 3) := by decide +kernel
theorem i214_346 : am_ins 214 346 = some (.if_icmp .ne 7) := by decide +kernel
theorem i214_349 : am_ins 214 349 = some (.iconst 1) := by decide +kernel
theorem i214_350 : am_ins 214 350 = some (.goto 4) := by decide +kernel
theorem i214_353 : am_ins 214 353 = some (.iconst 0) := by decide +kernel
theorem i214_354 : am_ins 214 354 = some (.ireturn) := by decide +kernel
theorem i214_355 : am_ins 214 355 = some (.aload 6) := by decide +kernel
theorem i214_357 : am_ins 214 357 = some (.iconst 0) := by decide +kernel
theorem i214_358 : am_ins 214 358 = some (.putfield 204) := by decide +kernel
theorem i214_361 : am_ins 214 361 = some (.aload 6) := by decide +kernel
theorem i214_363 : am_ins 214 363 = some (.iconst 1) := by decide +kernel
theorem i214_364 : am_ins 214 364 = some (.putfield 213) := by decide +kernel
theorem i214_367 : am_ins 214 367 = some (.aload_n 0) := by decide +kernel
theorem i214_368 : am_ins 214 368 = some (.aload 6) := by decide +kernel
theorem i214_370 : am_ins 214 370 = some (.getfield 247) := by decide +kernel
theorem i214_373 : am_ins 214 373 = some (.invokevirtual 102) := by decide +kernel
theorem i214_376 : am_ins 214 376 = some (.iload 7) := by decide +kernel
theorem i214_378 : am_ins 214 378 = some (.if_icmp .ne 7) := by decide +kernel
theorem i214_381 : am_ins 214 381 = some (.iconst 1) := by decide +kernel
theorem i214_382 : am_ins 214 382 = some (.goto 4) := by decide +kernel
theorem i214_385 : am_ins 214 385 = some (.iconst 0) := by decide +kernel
theorem i214_386 : am_ins 214 386 = some (.ireturn) := by decide +kernel
theorem i214_387 : am_ins 214 387 = some (.iload_n 3) := by decide +kernel
theorem i214_388 : am_ins 214 388 = some (.bipush 8) := by decide +kernel
theorem i214_390 : am_ins 214 390 = some (.if_icmp .ne 97) := by decide +kernel
theorem i214_393 : am_ins 214 393 = some (.iload 5) := by decide +kernel
theorem i214_395 : am_ins 214 395 = some (.bipush 8) := by decide +kernel
theorem i214_397 : am_ins 214 397 = some (.if_icmp .ge 10) := by decide +kernel
theorem i214_400 : am_ins 214 400 = some (.aload_n 1) := by decide +kernel
theorem i214_401 : am_ins 214 401 = some (.getfield 146) := by decide +kernel
theorem i214_404 : am_ins 214 404 = some (.goto 7) := by decide +kernel
theorem i214_407 : am_ins 214 407 = some (.aload_n 1) := by decide +kernel
theorem i214_408 : am_ins 214 408 = some (.getfield 149) := by decide +kernel
theorem i214_411 : am_ins 214 411 = some (.istore 6) := by decide +kernel
theorem i214_413 : am_ins 214 413 = some (.iload 5) := by decide +kernel
theorem i214_415 : am_ins 214 415 = some (.bipush 8) := by decide +kernel
theorem i214_417 : am_ins 214 417 = some (.if_icmp .ge 12) := by decide +kernel
theorem i214_420 : am_ins 214 420 = some (.aload_n 1) := by decide +kernel
theorem i214_421 : am_ins 214 421 = some (.iload 4) := by decide +kernel
theorem i214_423 : am_ins 214 423 = some (.putfield 146) := by decide +kernel
theorem i214_426 : am_ins 214 426 = some (.goto 9) := by decide +kernel
theorem i214_429 : am_ins 214 429 = some (.aload_n 1) := by decide +kernel
theorem i214_430 : am_ins 214 430 = some (.iload 4) := by decide +kernel
theorem i214_432 : am_ins 214 432 = some (.putfield 149) := by decide +kernel
theorem i214_435 : am_ins 214 435 = some (.aload_n 0) := by decide +kernel
theorem i214_436 : am_ins 214 436 = some (.iload 5) := by decide +kernel
theorem i214_438 : am_ins 214 438 = some (.bipush 8) := by decide +kernel
theorem i214_440 : am_ins 214 440 = some (.idiv) := by decide +kernel
theorem i214_441 : am_ins 214 441 = some (.iload 4) := by decide +kernel
theorem i214_443 : am_ins 214 443 = some (.invokevirtual 108) := by decide +kernel
theorem i214_446 : am_ins 214 446 = some (.iload 6) := by decide +kernel
theorem i214_448 : am_ins 214 448 = some (.if_icmp .ne 37) := by decide +kernel
theorem i214_451 : am_ins 214 451 = some (.aload_n 0) := by decide +kernel
theorem i214_452 : am_ins 214 452 = some (.bipush 24) := by decide +kernel
theorem i214_454 : am_ins 214 454 = some (.iload 5) := by decide +kernel
theorem i214_456 : am_ins 214 456 = some (.bipush 8) := by decide +kernel
theorem i214_458 : am_ins 214 458 = some (.idiv) := by decide +kernel
theorem i214_459 : am_ins 214 459 = some (.iload 5) := by decide +kernel
theorem i214_461 : am_ins 214 461 = some (.bipush 8) := by decide +kernel
theorem i214_463 : am_ins 214 463 = some (.if_icmp .ge 8) := by decide +kernel
theorem i214_466 : am_ins 214 466 = some (.bipush 10) := by decide +kernel
theorem i214_468 : am_ins 214 468 = some (.goto 4) := by decide +kernel
theorem i214_471 : am_ins 214 471 = some (.iconst 0) := by decide +kernel
theorem i214_472 : am_ins 214 472 = some (.iconst 0) := by decide +kernel
theorem i214_473 : am_ins 214 473 = some (.iconst 0) := by decide +kernel
theorem i214_474 : am_ins 214 474 = some (.invokestatic 234) := by decide +kernel
theorem i214_477 : am_ins 214 477 = some (.iconst 3) := by decide +kernel
theorem i214_478 : am_ins 214 478 = some (.if_icmp .ne 7) := by decide +kernel
theorem i214_481 : am_ins 214 481 = some (.iconst 1) := by decide +kernel
theorem i214_482 : am_ins 214 482 = some (.goto 4) := by decide +kernel
theorem i214_485 : am_ins 214 485 = some (.iconst 0) := by decide +kernel
theorem i214_486 : am_ins 214 486 = some (.ireturn) := by decide +kernel
theorem i214_487 : am_ins 214 487 = some (.aload_n 1) := by decide +kernel
theorem i214_488 : am_ins 214 488 = some (.getfield 152) := by decide +kernel
theorem i214_491 : am_ins 214 491 = some (.ifCond .ne 25) := by decide +kernel
theorem i214_494 : am_ins 214 494 = some (.aload_n 0) := by decide +kernel
theorem i214_495 : am_ins 214 495 = some (.bipush 16) := by decide +kernel
theorem i214_497 : am_ins 214 497 = some (.iconst 0) := by decide +kernel
theorem i214_498 : am_ins 214 498 = some (.iconst 1) := by decide +kernel
theorem i214_499 : am_ins 214 499 = some (.iconst 0) := by decide +kernel
theorem i214_500 : am_ins 214 500 = some (.iconst 0) := by decide +kernel
theorem i214_501 : am_ins 214 501 = some (.invokestatic 234) := by decide +kernel
theorem i214_504 : am_ins 214 504 = some (.iconst 2) := by decide +kernel
theorem i214_505 : am_ins 214 505 = some (.if_icmp .ne 7) := by decide +kernel
theorem i214_508 : am_ins 214 508 = some (.iconst 1) := by decide +kernel
theorem i214_509 : am_ins 214 509 = some (.goto 27) := by decide +kernel
theorem i214_512 : am_ins 214 512 = some (.iconst 0) := by decide +kernel
theorem i214_513 : am_ins 214 513 = some (.goto 23) := by decide +kernel
theorem i214_516 : am_ins 214 516 = some (.aload_n 0) := by decide +kernel
theorem i214_517 : am_ins 214 517 = some (.aload_n 1) := by decide +kernel
theorem i214_518 : am_ins 214 518 = some (.aload_n 1) := by decide +kernel
theorem i214_519 : am_ins 214 519 = some (.getfield 168) := by decide +kernel
theorem i214_522 : am_ins 214 522 = some (.iload 5) := by decide +kernel
theorem i214_524 : am_ins 214 524 = some (.aload_n 1) := by decide +kernel
theorem i214_525 : am_ins 214 525 = some (.getfield 152) := by decide +kernel
theorem i214_528 : am_ins 214 528 = some (.irem) := by decide +kernel
theorem i214_529 : am_ins 214 529 = some (.aaload) := by decide +kernel
theorem i214_530 : am_ins 214 530 = some (.iload_n 3) := by decide +kernel
theorem i214_531 : am_ins 214 531 = some (.iload 4) := by decide +kernel
theorem i214_533 : am_ins 214 533 = some (.invokestatic 250) := by decide +kernel
theorem i214_536 : am_ins 214 536 = some (.ireturn) := by decide +kernel
theorem i215_0 : am_ins 215 0 = some (.iload_n 3) := by decide +kernel
theorem i215_1 : am_ins 215 1 = some (.bipush 9) := by decide +kernel
theorem i215_3 : am_ins 215 3 = some (.if_icmp .ne 55) := by decide +kernel
theorem i215_6 : am_ins 215 6 = some (.aload_n 2) := by decide +kernel
theorem i215_7 : am_ins 215 7 = some (.getfield 178) := by decide +kernel
theorem i215_10 : am_ins 215 10 = some (.ifCond .eq 26) := by decide +kernel
theorem i215_13 : am_ins 215 13 = some (.aload_n 0) := by decide +kernel
theorem i215_14 : am_ins 215 14 = some (.bipush 23) := by decide +kernel
theorem i215_16 : am_ins 215 16 = some (.aload_n 2) := by decide +kernel
theorem i215_17 : am_ins 215 17 = some (.getfield 253) := by decide +kernel
theorem i215_20 : am_ins 215 20 = some (.iconst 0) := by decide +kernel
theorem i215_21 : am_ins 215 21 = some (.iconst 0) := by decide +kernel
theorem i215_22 : am_ins 215 22 = some (.iconst 0) := by decide +kernel
theorem i215_23 : am_ins 215 23 = some (.invokestatic 234) := by decide +kernel
theorem i215_26 : am_ins 215 26 = some (.iconst 3) := by decide +kernel
theorem i215_27 : am_ins 215 27 = some (.if_icmp .ne 7) := by decide +kernel
theorem i215_30 : am_ins 215 30 = some (.iconst 1) := by decide +kernel
theorem i215_31 : am_ins 215 31 = some (.goto 4) := by decide +kernel
theorem i215_34 : am_ins 215 34 = some (.iconst 0) := by decide +kernel
theorem i215_35 : am_ins 215 35 = some (.ireturn) := by decide +kernel
theorem i215_36 : am_ins 215 36 = some (.aload_n 0) := by decide +kernel
theorem i215_37 : am_ins 215 37 = some (.aload_n 2) := by decide +kernel
theorem i215_38 : am_ins 215 38 = some (.getfield 253) := by decide +kernel
theorem i215_41 : am_ins 215 41 = some (.invokevirtual 105) := by decide +kernel
theorem i215_44 : am_ins 215 44 = some (.aload_n 1) := by decide +kernel
theorem i215_45 : am_ins 215 45 = some (.aload_n 2) := by decide +kernel
theorem i215_46 : am_ins 215 46 = some (.invokevirtual 254) := by decide +kernel
theorem i215_49 : am_ins 215 49 = some (.if_icmp .ne 7) := by decide +kernel
theorem i215_52 : am_ins 215 52 = some (.iconst 1) := by decide +kernel
theorem i215_53 : am_ins 215 53 = some (.goto 4) := by decide +kernel
theorem i215_56 : am_ins 215 56 = some (.iconst 0) := by decide +kernel
theorem i215_57 : am_ins 215 57 = some (.ireturn) := by decide +kernel
theorem i215_58 : am_ins 215 58 = some (.iload_n 3) := by decide +kernel
theorem i215_59 : am_ins 215 59 = some (.bipush 12) := by decide +kernel
theorem i215_61 : am_ins 215 61 = some (.if_icmp .lt 10) := by decide +kernel
theorem i215_64 : am_ins 215 64 = some (.aload_n 1) := by decide +kernel
theorem i215_65 : am_ins 215 65 = some (.getfield 257) := by decide +kernel
theorem i215_68 : am_ins 215 68 = some (.ifCond .ne 69) := by decide +kernel
theorem i215_71 : am_ins 215 71 = some (.aload_n 1) := by decide +kernel
theorem i215_72 : am_ins 215 72 = some (.aload_n 2) := by decide +kernel
theorem i215_73 : am_ins 215 73 = some (.iconst 1) := by decide +kernel
theorem i215_74 : am_ins 215 74 = some (.newarray .int) := by decide +kernel
theorem i215_76 : am_ins 215 76 = some (.dup) := by decide +kernel
theorem i215_77 : am_ins 215 77 = some (.iconst 0) := by decide +kernel
theorem i215_78 : am_ins 215 78 = some (.iload 4) := by decide +kernel
theorem i215_80 : am_ins 215 80 = some (.iastore) := by decide +kernel
theorem i215_81 : am_ins 215 81 = some (.invokevirtual 260) := by decide +kernel
theorem i215_84 : am_ins 215 84 = some (.ifCond .ge 27) := by decide +kernel
theorem i215_87 : am_ins 215 87 = some (.aload_n 0) := by decide +kernel
theorem i215_88 : am_ins 215 88 = some (.bipush 16) := by decide +kernel
theorem i215_90 : am_ins 215 90 = some (.aload_n 2) := by decide +kernel
theorem i215_91 : am_ins 215 91 = some (.getfield 253) := by decide +kernel
theorem i215_94 : am_ins 215 94 = some (.iload 4) := by decide +kernel
theorem i215_96 : am_ins 215 96 = some (.iconst 0) := by decide +kernel
theorem i215_97 : am_ins 215 97 = some (.iconst 0) := by decide +kernel
theorem i215_98 : am_ins 215 98 = some (.invokestatic 234) := by decide +kernel
theorem i215_101 : am_ins 215 101 = some (.iconst 3) := by decide +kernel
theorem i215_102 : am_ins 215 102 = some (.if_icmp .ne 7) := by decide +kernel
theorem i215_105 : am_ins 215 105 = some (.iconst 1) := by decide +kernel
theorem i215_106 : am_ins 215 106 = some (.goto 4) := by decide +kernel
theorem i215_109 : am_ins 215 109 = some (.iconst 0) := by decide +kernel
theorem i215_110 : am_ins 215 110 = some (.ireturn) := by decide +kernel
theorem i215_111 : am_ins 215 111 = some (.aload_n 0) := by decide +kernel
theorem i215_112 : am_ins 215 112 = some (.aload_n 2) := by decide +kernel
theorem i215_113 : am_ins 215 113 = some (.getfield 253) := by decide +kernel
theorem i215_116 : am_ins 215 116 = some (.iload 4) := by decide +kernel
theorem i215_118 : am_ins 215 118 = some (.invokevirtual 83) := by decide +kernel
theorem i215_121 : am_ins 215 121 = some (.aload_n 1) := by decide +kernel
theorem i215_122 : am_ins 215 122 = some (.aload_n 2) := by decide +kernel
theorem i215_123 : am_ins 215 123 = some (.iload 4) := by decide +kernel
theorem i215_125 : am_ins 215 125 = some (.invokevirtual 263) := by decide +kernel
theorem i215_128 : am_ins 215 128 = some (.if_icmp .ne 7) := by decide +kernel
theorem i215_131 : am_ins 215 131 = some (.iconst 1) := by decide +kernel
theorem i215_132 : am_ins 215 132 = some (.goto 4) := by decide +kernel
theorem i215_135 : am_ins 215 135 = some (.iconst 0) := by decide +kernel
theorem i215_136 : am_ins 215 136 = some (.ireturn) := by decide +kernel
theorem i215_137 : am_ins 215 137 = some (.aload_n 1) := by decide +kernel
theorem i215_138 : am_ins 215 138 = some (.getfield 266) := by decide +kernel
theorem i215_141 : am_ins 215 141 = some (.iload 4) := by decide +kernel
theorem i215_143 : am_ins 215 143 = some (.aload_n 1) := by decide +kernel
theorem i215_144 : am_ins 215 144 = some (.getfield 257) := by decide +kernel
theorem i215_147 : am_ins 215 147 = some (.irem) := by decide +kernel
theorem i215_148 : am_ins 215 148 = some (.aaload) := by decide +kernel
theorem i215_149 : am_ins 215 149 = some (.astore 5) := by decide +kernel
theorem i215_151 : am_ins 215 151 = some (.aload_n 1) := by decide +kernel
theorem i215_152 : am_ins 215 152 = some (.aload_n 2) := by decide +kernel
theorem i215_153 : am_ins 215 153 = some (.aload 5) := by decide +kernel
theorem i215_155 : am_ins 215 155 = some (.invokevirtual 260) := by decide +kernel
theorem i215_158 : am_ins 215 158 = some (.ifCond .ge 32) := by decide +kernel
theorem i215_161 : am_ins 215 161 = some (.aload_n 0) := by decide +kernel
theorem i215_162 : am_ins 215 162 = some (.bipush 17) := by decide +kernel
theorem i215_164 : am_ins 215 164 = some (.iload 4) := by decide +kernel
theorem i215_166 : am_ins 215 166 = some (.aload_n 1) := by decide +kernel
theorem i215_167 : am_ins 215 167 = some (.getfield 257) := by decide +kernel
theorem i215_170 : am_ins 215 170 = some (.irem) := by decide +kernel
theorem i215_171 : am_ins 215 171 = some (.aload_n 2) := by decide +kernel
theorem i215_172 : am_ins 215 172 = some (.getfield 253) := by decide +kernel
theorem i215_175 : am_ins 215 175 = some (.iconst 0) := by decide +kernel
theorem i215_176 : am_ins 215 176 = some (.iconst 0) := by decide +kernel
theorem i215_177 : am_ins 215 177 = some (.invokestatic 234) := by decide +kernel
theorem i215_180 : am_ins 215 180 = some (.iconst 3) := by decide +kernel
theorem i215_181 : am_ins 215 181 = some (.if_icmp .ne 7) := by decide +kernel
theorem i215_184 : am_ins 215 184 = some (.iconst 1) := by decide +kernel
theorem i215_185 : am_ins 215 185 = some (.goto 4) := by decide +kernel
theorem i215_188 : am_ins 215 188 = some (.iconst 0) := by decide +kernel
theorem i215_189 : am_ins 215 189 = some (.ireturn) := by decide +kernel
theorem i215_190 : am_ins 215 190 = some (.iconst 0) := by decide +kernel
theorem i215_191 : am_ins 215 191 = some (.istore 6) := by decide +kernel
theorem i215_193 : am_ins 215 193 = some (.aload 5) := by decide +kernel
theorem i215_195 : am_ins 215 195 = some (.astore 7) := by decide +kernel
theorem i215_197 : am_ins 215 197 = some (.aload 7) := by decide +kernel
theorem i215_199 : am_ins 215 199 = some (.arraylength) := by decide +kernel
theorem i215_200 : am_ins 215 200 = some (.istore 8) := by decide +kernel
theorem i215_202 : am_ins 215 202 = some (.iconst 0) := by decide +kernel
theorem i215_203 : am_ins 215 203 = some (.istore 9) := by decide +kernel
theorem i215_205 : am_ins 215 205 = some (.iload 9) := by decide +kernel
theorem i215_207 : am_ins 215 207 = some (.iload 8) := by decide +kernel
theorem i215_209 : am_ins 215 209 = some (.if_icmp .ge 36) := by decide +kernel
theorem i215_212 : am_ins 215 212 = some (.aload 7) := by decide +kernel
theorem i215_214 : am_ins 215 214 = some (.iload 9) := by decide +kernel
theorem i215_216 : am_ins 215 216 = some (.iaload) := by decide +kernel
theorem i215_217 : am_ins 215 217 = some (.istore 10) := by decide +kernel
theorem i215_219 : am_ins 215 219 = some (.iload 6) := by decide +kernel
theorem i215_221 : am_ins 215 221 = some (.aload_n 1) := by decide +kernel
theorem i215_222 : am_ins 215 222 = some (.aload_n 2) := by decide +kernel
theorem i215_223 : am_ins 215 223 = some (.iload 10) := by decide +kernel
theorem i215_225 : am_ins 215 225 = some (.invokevirtual 263) := by decide +kernel
theorem i215_228 : am_ins 215 228 = some (.ifCond .ge 7) := by decide +kernel
theorem i215_231 : am_ins 215 231 = some (.iconst 1) := by decide +kernel
theorem i215_232 : am_ins 215 232 = some (.goto 4) := by decide +kernel
theorem i215_235 : am_ins 215 235 = some (.iconst 0) := by decide +kernel
theorem i215_236 : am_ins 215 236 = some (.iadd) := by decide +kernel
theorem i215_237 : am_ins 215 237 = some (.istore 6) := by decide +kernel
theorem i215_239 : am_ins 215 239 = some (.iinc 9 1) := by decide +kernel
theorem i215_242 : am_ins 215 242 = some (.goto (-37)) := by decide +kernel
theorem i215_245 : am_ins 215 245 = some (.aload_n 0) := by decide +kernel
theorem i215_246 : am_ins 215 246 = some (.iload 4) := by decide +kernel
theorem i215_248 : am_ins 215 248 = some (.aload_n 1) := by decide +kernel
theorem i215_249 : am_ins 215 249 = some (.getfield 257) := by decide +kernel
theorem i215_252 : am_ins 215 252 = some (.irem) := by decide +kernel
theorem i215_253 : am_ins 215 253 = some (.aload_n 2) := by decide +kernel
theorem i215_254 : am_ins 215 254 = some (.getfield 253) := by decide +kernel
theorem i215_257 : am_ins 215 257 = some (.invokevirtual 86) := by decide +kernel
theorem i215_260 : am_ins 215 260 = some (.iload 6) := by decide +kernel
theorem i215_262 : am_ins 215 262 = some (.if_icmp .ne 7) := by decide +kernel
theorem i215_265 : am_ins 215 265 = some (.iconst 1) := by decide +kernel
theorem i215_266 : am_ins 215 266 = some (.goto 4) := by decide +kernel
theorem i215_269 : am_ins 215 269 = some (.iconst 0) := by decide +kernel
theorem i215_270 : am_ins 215 270 = some (.ireturn) := by decide +kernel
theorem i216_0 : am_ins 216 0 = some (.iconst 0) := by decide +kernel
theorem i216_1 : am_ins 216 1 = some (.istore_n 2) := by decide +kernel
theorem i216_2 : am_ins 216 2 = some (.iconst 0) := by decide +kernel
theorem i216_3 : am_ins 216 3 = some (.istore_n 3) := by decide +kernel
theorem i216_4 : am_ins 216 4 = some (.iconst 0) := by decide +kernel
theorem i216_5 : am_ins 216 5 = some (.istore 4) := by decide +kernel
theorem i216_7 : am_ins 216 7 = some (.iconst 0) := by decide +kernel
theorem i216_8 : am_ins 216 8 = some (.istore 5) := by decide +kernel
theorem i216_10 : am_ins 216 10 = some (.iconst 0) := by decide +kernel
theorem i216_11 : am_ins 216 11 = some (.istore 6) := by decide +kernel
theorem i216_13 : am_ins 216 13 = some (.iconst 0) := by decide +kernel
theorem i216_14 : am_ins 216 14 = some (.istore 7) := by decide +kernel
theorem i216_16 : am_ins 216 16 = some (.iconst 0) := by decide +kernel
theorem i216_17 : am_ins 216 17 = some (.istore 8) := by decide +kernel
theorem i216_19 : am_ins 216 19 = some (.iload 8) := by decide +kernel
theorem i216_21 : am_ins 216 21 = some (.aload_n 1) := by decide +kernel
theorem i216_22 : am_ins 216 22 = some (.getfield 152) := by decide +kernel
theorem i216_25 : am_ins 216 25 = some (.if_icmp .ge 78) := by decide +kernel
theorem i216_28 : am_ins 216 28 = some (.iload_n 2) := by decide +kernel
theorem i216_29 : am_ins 216 29 = some (.aload_n 1) := by decide +kernel
theorem i216_30 : am_ins 216 30 = some (.getfield 168) := by decide +kernel
theorem i216_33 : am_ins 216 33 = some (.iload 8) := by decide +kernel
theorem i216_35 : am_ins 216 35 = some (.aaload) := by decide +kernel
theorem i216_36 : am_ins 216 36 = some (.getfield 178) := by decide +kernel
theorem i216_39 : am_ins 216 39 = some (.ifCond .ne 7) := by decide +kernel
theorem i216_42 : am_ins 216 42 = some (.iconst 1) := by decide +kernel
theorem i216_43 : am_ins 216 43 = some (.goto 4) := by decide +kernel
theorem i216_46 : am_ins 216 46 = some (.iconst 0) := by decide +kernel
theorem i216_47 : am_ins 216 47 = some (.iadd) := by decide +kernel
theorem i216_48 : am_ins 216 48 = some (.istore_n 2) := by decide +kernel
theorem i216_49 : am_ins 216 49 = some (.iload 6) := by decide +kernel
theorem i216_51 : am_ins 216 51 = some (.aload_n 1) := by decide +kernel
theorem i216_52 : am_ins 216 52 = some (.getfield 168) := by decide +kernel
theorem i216_55 : am_ins 216 55 = some (.iload 8) := by decide +kernel
theorem i216_57 : am_ins 216 57 = some (.aaload) := by decide +kernel
theorem i216_58 : am_ins 216 58 = some (.getfield 176) := by decide +kernel
theorem i216_61 : am_ins 216 61 = some (.iadd) := by decide +kernel
theorem i216_62 : am_ins 216 62 = some (.istore 6) := by decide +kernel
theorem i216_64 : am_ins 216 64 = some (.iload 7) := by decide +kernel
theorem i216_66 : am_ins 216 66 = some (.aload_n 1) := by decide +kernel
theorem i216_67 : am_ins 216 67 = some (.getfield 168) := by decide +kernel
theorem i216_70 : am_ins 216 70 = some (.iload 8) := by decide +kernel
theorem i216_72 : am_ins 216 72 = some (.aaload) := by decide +kernel
theorem i216_73 : am_ins 216 73 = some (.getfield 176) := by decide +kernel
theorem i216_76 : am_ins 216 76 = some (.aload_n 1) := by decide +kernel
theorem i216_77 : am_ins 216 77 = some (.getfield 241) := by decide +kernel
theorem i216_80 : am_ins 216 80 = some (.aload_n 1) := by decide +kernel
theorem i216_81 : am_ins 216 81 = some (.getfield 168) := by decide +kernel
theorem i216_84 : am_ins 216 84 = some (.iload 8) := by decide +kernel
theorem i216_86 : am_ins 216 86 = some (.aaload) := by decide +kernel
theorem i216_87 : am_ins 216 87 = some (.getfield 172) := by decide +kernel
theorem i216_90 : am_ins 216 90 = some (.aaload) := by decide +kernel
theorem i216_91 : am_ins 216 91 = some (.iconst 1) := by decide +kernel
theorem i216_92 : am_ins 216 92 = some (.iaload) := by decide +kernel
theorem i216_93 : am_ins 216 93 = some (.imul) := by decide +kernel
theorem i216_94 : am_ins 216 94 = some (.iadd) := by decide +kernel
theorem i216_95 : am_ins 216 95 = some (.istore 7) := by decide +kernel
theorem i216_97 : am_ins 216 97 = some (.iinc 8 1) := by decide +kernel
theorem i216_100 : am_ins 216 100 = some (.goto (-81)) := by decide +kernel
theorem i216_103 : am_ins 216 103 = some (.iconst 0) := by decide +kernel
theorem i216_104 : am_ins 216 104 = some (.istore 8) := by decide +kernel
theorem i216_106 : am_ins 216 106 = some (.iload 8) := by decide +kernel
theorem i216_108 : am_ins 216 108 = some (.aload_n 1) := by decide +kernel
theorem i216_109 : am_ins 216 109 = some (.getfield 155) := by decide +kernel
theorem i216_112 : am_ins 216 112 = some (.if_icmp .ge 66) := by decide +kernel
theorem i216_115 : am_ins 216 115 = some (.iload_n 3) := by decide +kernel
theorem i216_116 : am_ins 216 116 = some (.aload_n 1) := by decide +kernel
theorem i216_117 : am_ins 216 117 = some (.getfield 188) := by decide +kernel
theorem i216_120 : am_ins 216 120 = some (.iload 8) := by decide +kernel
theorem i216_122 : am_ins 216 122 = some (.aaload) := by decide +kernel
theorem i216_123 : am_ins 216 123 = some (.getfield 204) := by decide +kernel
theorem i216_126 : am_ins 216 126 = some (.ifCond .le 7) := by decide +kernel
theorem i216_129 : am_ins 216 129 = some (.iconst 1) := by decide +kernel
theorem i216_130 : am_ins 216 130 = some (.goto 4) := by decide +kernel
theorem i216_133 : am_ins 216 133 = some (.iconst 0) := by decide +kernel
theorem i216_134 : am_ins 216 134 = some (.iadd) := by decide +kernel
theorem i216_135 : am_ins 216 135 = some (.istore_n 3) := by decide +kernel
theorem i216_136 : am_ins 216 136 = some (.iload 4) := by decide +kernel
theorem i216_138 : am_ins 216 138 = some (.aload_n 1) := by decide +kernel
theorem i216_139 : am_ins 216 139 = some (.getfield 188) := by decide +kernel
theorem i216_142 : am_ins 216 142 = some (.iload 8) := by decide +kernel
theorem i216_144 : am_ins 216 144 = some (.aaload) := by decide +kernel
theorem i216_145 : am_ins 216 145 = some (.getfield 201) := by decide +kernel
theorem i216_148 : am_ins 216 148 = some (.aload_n 1) := by decide +kernel
theorem i216_149 : am_ins 216 149 = some (.getfield 141) := by decide +kernel
theorem i216_152 : am_ins 216 152 = some (.if_icmp .ge 16) := by decide +kernel
theorem i216_155 : am_ins 216 155 = some (.aload_n 1) := by decide +kernel
theorem i216_156 : am_ins 216 156 = some (.getfield 188) := by decide +kernel
theorem i216_159 : am_ins 216 159 = some (.iload 8) := by decide +kernel
theorem i216_161 : am_ins 216 161 = some (.aaload) := by decide +kernel
theorem i216_162 : am_ins 216 162 = some (.getfield 204) := by decide +kernel
theorem i216_165 : am_ins 216 165 = some (.goto 4) := by decide +kernel
theorem i216_168 : am_ins 216 168 = some (.iconst 0) := by decide +kernel
theorem i216_169 : am_ins 216 169 = some (.iadd) := by decide +kernel
theorem i216_170 : am_ins 216 170 = some (.istore 4) := by decide +kernel
theorem i216_172 : am_ins 216 172 = some (.iinc 8 1) := by decide +kernel
theorem i216_175 : am_ins 216 175 = some (.goto (-69)) := by decide +kernel
theorem i216_178 : am_ins 216 178 = some (.aload_n 1) := by decide +kernel
theorem i216_179 : am_ins 216 179 = some (.getfield 219) := by decide +kernel
theorem i216_182 : am_ins 216 182 = some (.astore 8) := by decide +kernel
theorem i216_184 : am_ins 216 184 = some (.aload 8) := by decide +kernel
theorem i216_186 : am_ins 216 186 = some (.arraylength) := by decide +kernel
theorem i216_187 : am_ins 216 187 = some (.istore 9) := by decide +kernel
theorem i216_189 : am_ins 216 189 = some (.iconst 0) := by decide +kernel
theorem i216_190 : am_ins 216 190 = some (.istore 10) := by decide +kernel
theorem i216_192 : am_ins 216 192 = some (.iload 10) := by decide +kernel
theorem i216_194 : am_ins 216 194 = some (.iload 9) := by decide +kernel
theorem i216_196 : am_ins 216 196 = some (.if_icmp .ge 23) := by decide +kernel
theorem i216_199 : am_ins 216 199 = some (.aload 8) := by decide +kernel
theorem i216_201 : am_ins 216 201 = some (.iload 10) := by decide +kernel
theorem i216_203 : am_ins 216 203 = some (.iaload) := by decide +kernel
theorem i216_204 : am_ins 216 204 = some (.istore 11) := by decide +kernel
theorem i216_206 : am_ins 216 206 = some (.iload 5) := by decide +kernel
theorem i216_208 : am_ins 216 208 = some (.iload 11) := by decide +kernel
theorem i216_210 : am_ins 216 210 = some (.iadd) := by decide +kernel
theorem i216_211 : am_ins 216 211 = some (.istore 5) := by decide +kernel
theorem i216_213 : am_ins 216 213 = some (.iinc 10 1) := by decide +kernel
theorem i216_216 : am_ins 216 216 = some (.goto (-24)) := by decide +kernel
theorem i216_219 : am_ins 216 219 = some (.aload_n 1) := by decide +kernel
theorem i216_220 : am_ins 216 220 = some (.iconst 0) := by decide +kernel
theorem i216_221 : am_ins 216 221 = some (.invokevirtual 269) := by decide +kernel
theorem i216_224 : am_ins 216 224 = some (.astore 8) := by decide +kernel
theorem i216_226 : am_ins 216 226 = some (.aload_n 1) := by decide +kernel
theorem i216_227 : am_ins 216 227 = some (.iconst 1) := by decide +kernel
theorem i216_228 : am_ins 216 228 = some (.newarray .int) := by decide +kernel
theorem i216_230 : am_ins 216 230 = some (.dup) := by decide +kernel
theorem i216_231 : am_ins 216 231 = some (.iconst 0) := by decide +kernel
theorem i216_232 : am_ins 216 232 = some (.iconst 1) := by decide +kernel
theorem i216_233 : am_ins 216 233 = some (.iastore) := by decide +kernel
theorem i216_234 : am_ins 216 234 = some (.iconst 2) := by decide +kernel
theorem i216_235 : am_ins 216 235 = some (.invokevirtual 273) := by decide +kernel
theorem i216_238 : am_ins 216 238 = some (.astore 9) := by decide +kernel
theorem i216_240 : am_ins 216 240 = some (.aload_n 0) := by decide +kernel
theorem i216_241 : am_ins 216 241 = some (.iconst 0) := by decide +kernel
theorem i216_242 : am_ins 216 242 = some (.invokevirtual 33) := by decide +kernel
theorem i216_245 : am_ins 216 245 = some (.aload_n 1) := by decide +kernel
theorem i216_246 : am_ins 216 246 = some (.getfield 231) := by decide +kernel
theorem i216_249 : am_ins 216 249 = some (.if_icmp .ne 57) := by decide +kernel
theorem i216_252 : am_ins 216 252 = some (.aload_n 0) := by decide +kernel
theorem i216_253 : am_ins 216 253 = some (.iconst 3) := by decide +kernel
theorem i216_254 : am_ins 216 254 = some (.invokevirtual 33) := by decide +kernel
theorem i216_257 : am_ins 216 257 = some (.aload_n 1) := by decide +kernel
theorem i216_258 : am_ins 216 258 = some (.getfield 257) := by decide +kernel
theorem i216_261 : am_ins 216 261 = some (.if_icmp .ne 45) := by decide +kernel
theorem i216_264 : am_ins 216 264 = some (.aload_n 0) := by decide +kernel
theorem i216_265 : am_ins 216 265 = some (.iconst 4) := by decide +kernel
theorem i216_266 : am_ins 216 266 = some (.invokevirtual 33) := by decide +kernel
theorem i216_269 : am_ins 216 269 = some (.iload_n 2) := by decide +kernel
theorem i216_270 : am_ins 216 270 = some (.if_icmp .ne 36) := by decide +kernel
theorem i216_273 : am_ins 216 273 = some (.aload_n 0) := by decide +kernel
theorem i216_274 : am_ins 216 274 = some (.iconst 5) := by decide +kernel
theorem i216_275 : am_ins 216 275 = some (.invokevirtual 33) := by decide +kernel
theorem i216_278 : am_ins 216 278 = some (.iload_n 3) := by decide +kernel
theorem i216_279 : am_ins 216 279 = some (.if_icmp .ne 27) := by decide +kernel
theorem i216_282 : am_ins 216 282 = some (.aload_n 0) := by decide +kernel
theorem i216_283 : am_ins 216 283 = some (.bipush 6) := by decide +kernel
theorem i216_285 : am_ins 216 285 = some (.invokevirtual 33) := by decide +kernel
theorem i216_288 : am_ins 216 288 = some (.aload_n 1) := by decide +kernel
theorem i216_289 : am_ins 216 289 = some (.invokevirtual 276) := by decide +kernel
theorem i216_292 : am_ins 216 292 = some (.if_icmp .ne 14) := by decide +kernel
theorem i216_295 : am_ins 216 295 = some (.aload_n 0) := by decide +kernel
theorem i216_296 : am_ins 216 296 = some (.bipush 7) := by decide +kernel
theorem i216_298 : am_ins 216 298 = some (.invokevirtual 33) := by decide +kernel
theorem i216_301 : am_ins 216 301 = some (.iload 5) := by decide +kernel
theorem i216_303 : am_ins 216 303 = some (.if_icmp .eq 5) := by decide +kernel
theorem i216_306 : am_ins 216 306 = some (.iconst 0) := by decide +kernel
theorem i216_307 : am_ins 216 307 = some (.ireturn) := by decide +kernel
theorem i216_308 : am_ins 216 308 = some (.aload_n 1) := by decide +kernel
theorem i216_309 : am_ins 216 309 = some (.getfield 164) := by decide +kernel
theorem i216_312 : am_ins 216 312 = some (.iconst 5) := by decide +kernel
theorem i216_313 : am_ins 216 313 = some (.iaload) := by decide +kernel
theorem i216_314 : am_ins 216 314 = some (.ifCond .ne 7) := by decide +kernel
theorem i216_317 : am_ins 216 317 = some (.dconst 0) := by decide +kernel
theorem i216_318 : am_ins 216 318 = some (.goto 18) := by decide +kernel
theorem i216_321 : am_ins 216 321 = some (.aload_n 1) := by decide +kernel
theorem i216_322 : am_ins 216 322 = some (.getfield 164) := by decide +kernel
theorem i216_325 : am_ins 216 325 = some (.iconst 3) := by decide +kernel
theorem i216_326 : am_ins 216 326 = some (.iaload) := by decide +kernel
theorem i216_327 : am_ins 216 327 = some (.i2d) := by decide +kernel
theorem i216_328 : am_ins 216 328 = some (.aload_n 1) := by decide +kernel
theorem i216_329 : am_ins 216 329 = some (.getfield 164) := by decide +kernel
theorem i216_332 : am_ins 216 332 = some (.iconst 5) := by decide +kernel
theorem i216_333 : am_ins 216 333 = some (.iaload) := by decide +kernel
theorem i216_334 : am_ins 216 334 = some (.i2d) := by decide +kernel
theorem i216_335 : am_ins 216 335 = some (.ddiv) := by decide +kernel
theorem i216_336 : am_ins 216 336 = some (.dstore 10) := by decide +kernel
theorem i216_338 : am_ins 216 338 = some (.aload_n 1) := by decide +kernel
theorem i216_339 : am_ins 216 339 = some (.getfield 164) := by decide +kernel
theorem i216_342 : am_ins 216 342 = some (.bipush 7) := by decide +kernel
theorem i216_344 : am_ins 216 344 = some (.iaload) := by decide +kernel
theorem i216_345 : am_ins 216 345 = some (.aload_n 1) := by decide +kernel
theorem i216_346 : am_ins 216 346 = some (.getfield 164) := by decide +kernel
theorem i216_349 : am_ins 216 349 = some (.iconst 1) := by decide +kernel
theorem i216_350 : am_ins 216 350 = some (.iaload) := by decide +kernel
theorem i216_351 : am_ins 216 351 = some (.iadd) := by decide +kernel
theorem i216_352 : am_ins 216 352 = some (.aload_n 1) := by decide +kernel
theorem i216_353 : am_ins 216 353 = some (.getfield 164) := by decide +kernel
theorem i216_356 : am_ins 216 356 = some (.iconst 2) := by decide +kernel
theorem i216_357 : am_ins 216 357 = some (.iaload) := by decide +kernel
theorem i216_358 : am_ins 216 358 = some (.iadd) := by decide +kernel
theorem i216_359 : am_ins 216 359 = some (.istore 12) := by decide +kernel
theorem i216_361 : am_ins 216 361 = some (.iload 12) := by decide +kernel
theorem i216_363 : am_ins 216 363 = some (.ifCond .ne 7) := by decide +kernel
theorem i216_366 : am_ins 216 366 = some (.fconst 0) := by decide +kernel
theorem i216_367 : am_ins 216 367 = some (.goto 15) := by decide +kernel
theorem i216_370 : am_ins 216 370 = some (.aload_n 1) := by decide +kernel
theorem i216_371 : am_ins 216 371 = some (.getfield 164) := by decide +kernel
theorem i216_374 : am_ins 216 374 = some (.bipush 7) := by decide +kernel
theorem i216_376 : am_ins 216 376 = some (.iaload) := by decide +kernel
theorem i216_377 : am_ins 216 377 = some (.i2f) := by decide +kernel
theorem i216_378 : am_ins 216 378 = some (.iload 12) := by decide +kernel
theorem i216_380 : am_ins 216 380 = some (.i2f) := by decide +kernel
theorem i216_381 : am_ins 216 381 = some (.fdiv) := by decide +kernel
theorem i216_382 : am_ins 216 382 = some (.fstore 13) := by decide +kernel
theorem i216_384 : am_ins 216 384 = some (.aload_n 0) := by decide +kernel
theorem i216_385 : am_ins 216 385 = some (.invokevirtual 279) := by decide +kernel
theorem i216_388 : am_ins 216 388 = some (.iload 6) := by decide +kernel
theorem i216_390 : am_ins 216 390 = some (.if_icmp .ne 87) := by decide +kernel
theorem i216_393 : am_ins 216 393 = some (.aload_n 0) := by decide +kernel
theorem i216_394 : am_ins 216 394 = some (.invokevirtual 282) := by decide +kernel
theorem i216_397 : am_ins 216 397 = some (.iload 7) := by decide +kernel
theorem i216_399 : am_ins 216 399 = some (.if_icmp .ne 78) := by decide +kernel
theorem i216_402 : am_ins 216 402 = some (.aload_n 0) := by decide +kernel
theorem i216_403 : am_ins 216 403 = some (.invokevirtual 285) := by decide +kernel
theorem i216_406 : am_ins 216 406 = some (.iload 4) := by decide +kernel
theorem i216_408 : am_ins 216 408 = some (.if_icmp .ne 69) := by decide +kernel
theorem i216_411 : am_ins 216 411 = some (.aload_n 0) := by decide +kernel
theorem i216_412 : am_ins 216 412 = some (.invokevirtual 288) := by decide +kernel
theorem i216_415 : am_ins 216 415 = some (.aload 8) := by decide +kernel
theorem i216_417 : am_ins 216 417 = some (.ifnonnull 7) := by decide +kernel
theorem i216_420 : am_ins 216 420 = some (.iconst (-1)) := by decide +kernel
theorem i216_421 : am_ins 216 421 = some (.goto 8) := by decide +kernel
theorem i216_424 : am_ins 216 424 = some (.aload 8) := by decide +kernel
theorem i216_426 : am_ins 216 426 = some (.getfield 247) := by decide +kernel
theorem i216_429 : am_ins 216 429 = some (.if_icmp .ne 48) := by decide +kernel
theorem i216_432 : am_ins 216 432 = some (.aload_n 0) := by decide +kernel
theorem i216_433 : am_ins 216 433 = some (.invokevirtual 291) := by decide +kernel
theorem i216_436 : am_ins 216 436 = some (.aload 9) := by decide +kernel
theorem i216_438 : am_ins 216 438 = some (.ifnonnull 7) := by decide +kernel
theorem i216_441 : am_ins 216 441 = some (.iconst (-1)) := by decide +kernel
theorem i216_442 : am_ins 216 442 = some (.goto 8) := by decide +kernel
theorem i216_445 : am_ins 216 445 = some (.aload 9) := by decide +kernel
theorem i216_447 : am_ins 216 447 = some (.getfield 253) := by decide +kernel
theorem i216_450 : am_ins 216 450 = some (.if_icmp .ne 27) := by decide +kernel
theorem i216_453 : am_ins 216 453 = some (.aload_n 0) := by decide +kernel
theorem i216_454 : am_ins 216 454 = some (.invokevirtual 294) := by decide +kernel
theorem i216_457 : am_ins 216 457 = some (.dload 10) := by decide +kernel
theorem i216_459 : am_ins 216 459 = some (.dcmp .l) := by decide +kernel
theorem i216_460 : am_ins 216 460 = some (.ifCond .ne 17) := by decide +kernel
theorem i216_463 : am_ins 216 463 = some (.aload_n 0) := by decide +kernel
theorem i216_464 : am_ins 216 464 = some (.invokevirtual 298) := by decide +kernel
theorem i216_467 : am_ins 216 467 = some (.fload 13) := by decide +kernel
theorem i216_469 : am_ins 216 469 = some (.fcmp .l) := by decide +kernel
theorem i216_470 : am_ins 216 470 = some (.ifCond .ne 7) := by decide +kernel
theorem i216_473 : am_ins 216 473 = some (.iconst 1) := by decide +kernel
theorem i216_474 : am_ins 216 474 = some (.goto 4) := by decide +kernel
theorem i216_477 : am_ins 216 477 = some (.iconst 0) := by decide +kernel
theorem i216_478 : am_ins 216 478 = some (.ireturn) := by decide +kernel
theorem i217_0 : am_ins 217 0 = some (.iconst 1) := by decide +kernel
theorem i217_1 : am_ins 217 1 = some (.istore_n 2) := by decide +kernel
theorem i217_2 : am_ins 217 2 = some (.iload_n 2) := by decide +kernel
theorem i217_3 : am_ins 217 3 = some (.bipush 8) := by decide +kernel
theorem i217_5 : am_ins 217 5 = some (.if_icmp .ge 124) := by decide +kernel
theorem i217_8 : am_ins 217 8 = some (.iconst 1) := by decide +kernel
theorem i217_9 : am_ins 217 9 = some (.newarray .int) := by decide +kernel
theorem i217_11 : am_ins 217 11 = some (.dup) := by decide +kernel
theorem i217_12 : am_ins 217 12 = some (.iconst 0) := by decide +kernel
theorem i217_13 : am_ins 217 13 = some (.iload_n 2) := by decide +kernel
theorem i217_14 : am_ins 217 14 = some (.iastore) := by decide +kernel
theorem i217_15 : am_ins 217 15 = some (.astore_n 3) := by decide +kernel
theorem i217_16 : am_ins 217 16 = some (.aload_n 0) := by decide +kernel
theorem i217_17 : am_ins 217 17 = some (.iload_n 2) := by decide +kernel
theorem i217_18 : am_ins 217 18 = some (.invokevirtual 50) := by decide +kernel
theorem i217_21 : am_ins 217 21 = some (.aload_n 1) := by decide +kernel
theorem i217_22 : am_ins 217 22 = some (.iload_n 2) := by decide +kernel
theorem i217_23 : am_ins 217 23 = some (.invokevirtual 302) := by decide +kernel
theorem i217_26 : am_ins 217 26 = some (.if_icmp .eq 5) := by decide +kernel
theorem i217_29 : am_ins 217 29 = some (.iconst 0) := by decide +kernel
theorem i217_30 : am_ins 217 30 = some (.ireturn) := by decide +kernel
theorem i217_31 : am_ins 217 31 = some (.iconst 0) := by decide +kernel
theorem i217_32 : am_ins 217 32 = some (.istore 4) := by decide +kernel
theorem i217_34 : am_ins 217 34 = some (.iload 4) := by decide +kernel
theorem i217_36 : am_ins 217 36 = some (.iconst 3) := by decide +kernel
theorem i217_37 : am_ins 217 37 = some (.if_icmp .ge 44) := by decide +kernel
theorem i217_40 : am_ins 217 40 = some (.aload_n 1) := by decide +kernel
theorem i217_41 : am_ins 217 41 = some (.aload_n 3) := by decide +kernel
theorem i217_42 : am_ins 217 42 = some (.iload 4) := by decide +kernel
theorem i217_44 : am_ins 217 44 = some (.invokevirtual 273) := by decide +kernel
theorem i217_47 : am_ins 217 47 = some (.astore 5) := by decide +kernel
theorem i217_49 : am_ins 217 49 = some (.aload_n 0) := by decide +kernel
theorem i217_50 : am_ins 217 50 = some (.iload_n 2) := by decide +kernel
theorem i217_51 : am_ins 217 51 = some (.iload 4) := by decide +kernel
theorem i217_53 : am_ins 217 53 = some (.invokevirtual 56) := by decide +kernel
theorem i217_56 : am_ins 217 56 = some (.aload 5) := by decide +kernel
theorem i217_58 : am_ins 217 58 = some (.ifnonnull 7) := by decide +kernel
theorem i217_61 : am_ins 217 61 = some (.iconst (-1)) := by decide +kernel
theorem i217_62 : am_ins 217 62 = some (.goto 8) := by decide +kernel
theorem i217_65 : am_ins 217 65 = some (.aload 5) := by decide +kernel
theorem i217_67 : am_ins 217 67 = some (.getfield 253) := by decide +kernel
theorem i217_70 : am_ins 217 70 = some (.if_icmp .eq 5) := by decide +kernel
theorem i217_73 : am_ins 217 73 = some (.iconst 0) := by decide +kernel
theorem i217_74 : am_ins 217 74 = some (.ireturn) := by decide +kernel
theorem i217_75 : am_ins 217 75 = some (.iinc 4 1) := by decide +kernel
theorem i217_78 : am_ins 217 78 = some (.goto (-44)) := by decide +kernel
theorem i217_81 : am_ins 217 81 = some (.iconst 0) := by decide +kernel
theorem i217_82 : am_ins 217 82 = some (.istore 4) := by decide +kernel
theorem i217_84 : am_ins 217 84 = some (.iload 4) := by decide +kernel
theorem i217_86 : am_ins 217 86 = some (.aload_n 1) := by decide +kernel
theorem i217_87 : am_ins 217 87 = some (.getfield 152) := by decide +kernel
theorem i217_90 : am_ins 217 90 = some (.if_icmp .ge 33) := by decide +kernel
theorem i217_93 : am_ins 217 93 = some (.aload_n 0) := by decide +kernel
theorem i217_94 : am_ins 217 94 = some (.iload 4) := by decide +kernel
theorem i217_96 : am_ins 217 96 = some (.iload_n 2) := by decide +kernel
theorem i217_97 : am_ins 217 97 = some (.invokevirtual 53) := by decide +kernel
theorem i217_100 : am_ins 217 100 = some (.aload_n 1) := by decide +kernel
theorem i217_101 : am_ins 217 101 = some (.aload_n 1) := by decide +kernel
theorem i217_102 : am_ins 217 102 = some (.getfield 168) := by decide +kernel
theorem i217_105 : am_ins 217 105 = some (.iload 4) := by decide +kernel
theorem i217_107 : am_ins 217 107 = some (.aaload) := by decide +kernel
theorem i217_108 : am_ins 217 108 = some (.aload_n 3) := by decide +kernel
theorem i217_109 : am_ins 217 109 = some (.invokevirtual 260) := by decide +kernel
theorem i217_112 : am_ins 217 112 = some (.if_icmp .eq 5) := by decide +kernel
theorem i217_115 : am_ins 217 115 = some (.iconst 0) := by decide +kernel
theorem i217_116 : am_ins 217 116 = some (.ireturn) := by decide +kernel
theorem i217_117 : am_ins 217 117 = some (.iinc 4 1) := by decide +kernel
theorem i217_120 : am_ins 217 120 = some (.goto (-36)) := by decide +kernel
theorem i217_123 : am_ins 217 123 = some (.iinc 2 1) := by decide +kernel
theorem i217_126 : am_ins 217 126 = some (.goto (-124)) := by decide +kernel
theorem i217_129 : am_ins 217 129 = some (.iconst 0) := by decide +kernel
theorem i217_130 : am_ins 217 130 = some (.istore_n 2) := by decide +kernel
theorem i217_131 : am_ins 217 131 = some (.iconst 0) := by decide +kernel
theorem i217_132 : am_ins 217 132 = some (.istore_n 3) := by decide +kernel
theorem i217_133 : am_ins 217 133 = some (.iload_n 3) := by decide +kernel
theorem i217_134 : am_ins 217 134 = some (.aload_n 1) := by decide +kernel
theorem i217_135 : am_ins 217 135 = some (.getfield 257) := by decide +kernel
theorem i217_138 : am_ins 217 138 = some (.if_icmp .ge 203) := by decide +kernel
theorem i217_141 : am_ins 217 141 = some (.aload_n 1) := by decide +kernel
theorem i217_142 : am_ins 217 142 = some (.getfield 266) := by decide +kernel
theorem i217_145 : am_ins 217 145 = some (.iload_n 3) := by decide +kernel
theorem i217_146 : am_ins 217 146 = some (.aaload) := by decide +kernel
theorem i217_147 : am_ins 217 147 = some (.astore 4) := by decide +kernel
theorem i217_149 : am_ins 217 149 = some (.aload_n 1) := by decide +kernel
theorem i217_150 : am_ins 217 150 = some (.aload 4) := by decide +kernel
theorem i217_152 : am_ins 217 152 = some (.iconst 1) := by decide +kernel
theorem i217_153 : am_ins 217 153 = some (.invokevirtual 273) := by decide +kernel
theorem i217_156 : am_ins 217 156 = some (.astore 5) := by decide +kernel
theorem i217_158 : am_ins 217 158 = some (.iload_n 2) := by decide +kernel
theorem i217_159 : am_ins 217 159 = some (.aload_n 1) := by decide +kernel
theorem i217_160 : am_ins 217 160 = some (.aload 4) := by decide +kernel
theorem i217_162 : am_ins 217 162 = some (.invokevirtual 303) := by decide +kernel
theorem i217_165 : am_ins 217 165 = some (.ifCond .eq 9) := by decide +kernel
theorem i217_168 : am_ins 217 168 = some (.iconst 1) := by decide +kernel
theorem i217_169 : am_ins 217 169 = some (.iload_n 3) := by decide +kernel
theorem i217_170 : am_ins 217 170 = some (.ishl) := by decide +kernel
theorem i217_171 : am_ins 217 171 = some (.goto 4) := by decide +kernel
theorem i217_174 : am_ins 217 174 = some (.iconst 0) := by decide +kernel
theorem i217_175 : am_ins 217 175 = some (.ior) := by decide +kernel
theorem i217_176 : am_ins 217 176 = some (.istore_n 2) := by decide +kernel
theorem i217_177 : am_ins 217 177 = some (.aload_n 0) := by decide +kernel
theorem i217_178 : am_ins 217 178 = some (.iload_n 3) := by decide +kernel
theorem i217_179 : am_ins 217 179 = some (.invokevirtual 307) := by decide +kernel
theorem i217_182 : am_ins 217 182 = some (.aload 4) := by decide +kernel
theorem i217_184 : am_ins 217 184 = some (.arraylength) := by decide +kernel
theorem i217_185 : am_ins 217 185 = some (.if_icmp .ne 40) := by decide +kernel
theorem i217_188 : am_ins 217 188 = some (.aload_n 0) := by decide +kernel
theorem i217_189 : am_ins 217 189 = some (.iload_n 3) := by decide +kernel
theorem i217_190 : am_ins 217 190 = some (.invokevirtual 310) := by decide +kernel
theorem i217_193 : am_ins 217 193 = some (.aload 5) := by decide +kernel
theorem i217_195 : am_ins 217 195 = some (.ifnonnull 7) := by decide +kernel
theorem i217_198 : am_ins 217 198 = some (.iconst (-1)) := by decide +kernel
theorem i217_199 : am_ins 217 199 = some (.goto 8) := by decide +kernel
theorem i217_202 : am_ins 217 202 = some (.aload 5) := by decide +kernel
theorem i217_204 : am_ins 217 204 = some (.getfield 253) := by decide +kernel
theorem i217_207 : am_ins 217 207 = some (.if_icmp .ne 18) := by decide +kernel
theorem i217_210 : am_ins 217 210 = some (.aload_n 0) := by decide +kernel
theorem i217_211 : am_ins 217 211 = some (.iconst 4) := by decide +kernel
theorem i217_212 : am_ins 217 212 = some (.iload_n 3) := by decide +kernel
theorem i217_213 : am_ins 217 213 = some (.aload 4) := by decide +kernel
theorem i217_215 : am_ins 217 215 = some (.arraylength) := by decide +kernel
theorem i217_216 : am_ins 217 216 = some (.iconst 0) := by decide +kernel
theorem i217_217 : am_ins 217 217 = some (.iconst 0) := by decide +kernel
theorem i217_218 : am_ins 217 218 = some (.invokestatic 234) := by decide +kernel
theorem i217_221 : am_ins 217 221 = some (.iconst 2) := by decide +kernel
theorem i217_222 : am_ins 217 222 = some (.if_icmp .eq 5) := by decide +kernel
theorem i217_225 : am_ins 217 225 = some (.iconst 0) := by decide +kernel
theorem i217_226 : am_ins 217 226 = some (.ireturn) := by decide +kernel
theorem i217_227 : am_ins 217 227 = some (.iconst 0) := by decide +kernel
theorem i217_228 : am_ins 217 228 = some (.istore 6) := by decide +kernel
theorem i217_230 : am_ins 217 230 = some (.iload 6) := by decide +kernel
theorem i217_232 : am_ins 217 232 = some (.aload 4) := by decide +kernel
theorem i217_234 : am_ins 217 234 = some (.arraylength) := by decide +kernel
theorem i217_235 : am_ins 217 235 = some (.if_icmp .ge 26) := by decide +kernel
theorem i217_238 : am_ins 217 238 = some (.aload_n 0) := by decide +kernel
theorem i217_239 : am_ins 217 239 = some (.iload_n 3) := by decide +kernel
theorem i217_240 : am_ins 217 240 = some (.iload 6) := by decide +kernel
theorem i217_242 : am_ins 217 242 = some (.invokevirtual 47) := by decide +kernel
theorem i217_245 : am_ins 217 245 = some (.aload 4) := by decide +kernel
theorem i217_247 : am_ins 217 247 = some (.iload 6) := by decide +kernel
theorem i217_249 : am_ins 217 249 = some (.iaload) := by decide +kernel
theorem i217_250 : am_ins 217 250 = some (.if_icmp .eq 5) := by decide +kernel
theorem i217_253 : am_ins 217 253 = some (.iconst 0) := by decide +kernel
theorem i217_254 : am_ins 217 254 = some (.ireturn) := by decide +kernel
theorem i217_255 : am_ins 217 255 = some (.iinc 6 1) := by decide +kernel
theorem i217_258 : am_ins 217 258 = some (.goto (-28)) := by decide +kernel
theorem i217_261 : am_ins 217 261 = some (.iconst 0) := by decide +kernel
theorem i217_262 : am_ins 217 262 = some (.istore 6) := by decide +kernel
theorem i217_264 : am_ins 217 264 = some (.iload 6) := by decide +kernel
theorem i217_266 : am_ins 217 266 = some (.aload_n 1) := by decide +kernel
theorem i217_267 : am_ins 217 267 = some (.getfield 152) := by decide +kernel
theorem i217_270 : am_ins 217 270 = some (.if_icmp .ge 65) := by decide +kernel
theorem i217_273 : am_ins 217 273 = some (.aload_n 0) := by decide +kernel
theorem i217_274 : am_ins 217 274 = some (.iload_n 3) := by decide +kernel
theorem i217_275 : am_ins 217 275 = some (.iload 6) := by decide +kernel
theorem i217_277 : am_ins 217 277 = some (.invokevirtual 59) := by decide +kernel
theorem i217_280 : am_ins 217 280 = some (.aload_n 1) := by decide +kernel
theorem i217_281 : am_ins 217 281 = some (.aload_n 1) := by decide +kernel
theorem i217_282 : am_ins 217 282 = some (.getfield 168) := by decide +kernel
theorem i217_285 : am_ins 217 285 = some (.iload 6) := by decide +kernel
theorem i217_287 : am_ins 217 287 = some (.aaload) := by decide +kernel
theorem i217_288 : am_ins 217 288 = some (.aload 4) := by decide +kernel
theorem i217_290 : am_ins 217 290 = some (.invokevirtual 260) := by decide +kernel
theorem i217_293 : am_ins 217 293 = some (.if_icmp .ne 34) := by decide +kernel
theorem i217_296 : am_ins 217 296 = some (.aload_n 0) := by decide +kernel
theorem i217_297 : am_ins 217 297 = some (.iload_n 3) := by decide +kernel
theorem i217_298 : am_ins 217 298 = some (.iload 6) := by decide +kernel
theorem i217_300 : am_ins 217 300 = some (.invokevirtual 313) := by decide +kernel
theorem i217_303 : am_ins 217 303 = some (.aload_n 1) := by decide +kernel
theorem i217_304 : am_ins 217 304 = some (.aload_n 1) := by decide +kernel
theorem i217_305 : am_ins 217 305 = some (.getfield 168) := by decide +kernel
theorem i217_308 : am_ins 217 308 = some (.iload 6) := by decide +kernel
theorem i217_310 : am_ins 217 310 = some (.aaload) := by decide +kernel
theorem i217_311 : am_ins 217 311 = some (.aload 4) := by decide +kernel
theorem i217_313 : am_ins 217 313 = some (.invokevirtual 260) := by decide +kernel
theorem i217_316 : am_ins 217 316 = some (.ifCond .lt 7) := by decide +kernel
theorem i217_319 : am_ins 217 319 = some (.iconst 1) := by decide +kernel
theorem i217_320 : am_ins 217 320 = some (.goto 4) := by decide +kernel
theorem i217_323 : am_ins 217 323 = some (.iconst 0) := by decide +kernel
theorem i217_324 : am_ins 217 324 = some (.if_icmp .eq 5) := by decide +kernel
theorem i217_327 : am_ins 217 327 = some (.iconst 0) := by decide +kernel
theorem i217_328 : am_ins 217 328 = some (.ireturn) := by decide +kernel
theorem i217_329 : am_ins 217 329 = some (.iinc 6 1) := by decide +kernel
theorem i217_332 : am_ins 217 332 = some (.goto (-68)) := by decide +kernel
theorem i217_335 : am_ins 217 335 = some (.iinc 3 1) := by decide +kernel
theorem i217_338 : am_ins 217 338 = some (.goto (-205)) := by decide +kernel
theorem i217_341 : am_ins 217 341 = some (.aload_n 0) := by decide +kernel
theorem i217_342 : am_ins 217 342 = some (.invokevirtual 317) := by decide +kernel
theorem i217_345 : am_ins 217 345 = some (.iload_n 2) := by decide +kernel
theorem i217_346 : am_ins 217 346 = some (.if_icmp .ne 7) := by decide +kernel
theorem i217_349 : am_ins 217 349 = some (.iconst 1) := by decide +kernel
theorem i217_350 : am_ins 217 350 = some (.goto 4) := by decide +kernel
theorem i217_353 : am_ins 217 353 = some (.iconst 0) := by decide +kernel
theorem i217_354 : am_ins 217 354 = some (.ireturn) := by decide +kernel
theorem i218_0 : am_ins 218 0 = some (.new 321) := by decide +kernel
theorem i218_3 : am_ins 218 3 = some (.dup) := by decide +kernel
theorem i218_4 : am_ins 218 4 = some (.invokespecial 324) := by decide +kernel
theorem i218_7 : am_ins 218 7 = some (.astore_n 2) := by decide +kernel
theorem i218_8 : am_ins 218 8 = some (.iconst 0) := by decide +kernel
theorem i218_9 : am_ins 218 9 = some (.istore_n 3) := by decide +kernel
theorem i218_10 : am_ins 218 10 = some (.iload_n 3) := by decide +kernel
theorem i218_11 : am_ins 218 11 = some (.aload_n 1) := by decide +kernel
theorem i218_12 : am_ins 218 12 = some (.getfield 152) := by decide +kernel
theorem i218_15 : am_ins 218 15 = some (.if_icmp .ge 80) := by decide +kernel
theorem i218_18 : am_ins 218 18 = some (.aload_n 1) := by decide +kernel
theorem i218_19 : am_ins 218 19 = some (.getfield 168) := by decide +kernel
theorem i218_22 : am_ins 218 22 = some (.iload_n 3) := by decide +kernel
theorem i218_23 : am_ins 218 23 = some (.aaload) := by decide +kernel
theorem i218_24 : am_ins 218 24 = some (.getfield 178) := by decide +kernel
theorem i218_27 : am_ins 218 27 = some (.ifCond .eq 6) := by decide +kernel
theorem i218_30 : am_ins 218 30 = some (.goto 59) := by decide +kernel
theorem i218_33 : am_ins 218 33 = some (.aload_n 2) := by decide +kernel
theorem i218_34 : am_ins 218 34 = some (.invokevirtual 320) := by decide +kernel
theorem i218_37 : am_ins 218 37 = some (.ifCond .le 10) := by decide +kernel
theorem i218_40 : am_ins 218 40 = some (.aload_n 2) := by decide +kernel
theorem i218_41 : am_ins 218 41 = some (.bipush 44) := by decide +kernel
theorem i218_43 : am_ins 218 43 = some (.invokevirtual 325) := by decide +kernel
theorem i218_46 : am_ins 218 46 = some (.pop) := by decide +kernel
theorem i218_47 : am_ins 218 47 = some (.aload_n 2) := by decide +kernel
theorem i218_48 : am_ins 218 48 = some (.iload_n 3) := by decide +kernel
theorem i218_49 : am_ins 218 49 = some (.invokevirtual 328) := by decide +kernel
theorem i218_52 : am_ins 218 52 = some (.bipush 58) := by decide +kernel
theorem i218_54 : am_ins 218 54 = some (.invokevirtual 325) := by decide +kernel
theorem i218_57 : am_ins 218 57 = some (.aload_n 1) := by decide +kernel
theorem i218_58 : am_ins 218 58 = some (.getfield 168) := by decide +kernel
theorem i218_61 : am_ins 218 61 = some (.iload_n 3) := by decide +kernel
theorem i218_62 : am_ins 218 62 = some (.aaload) := by decide +kernel
theorem i218_63 : am_ins 218 63 = some (.getfield 176) := by decide +kernel
theorem i218_66 : am_ins 218 66 = some (.invokevirtual 328) := by decide +kernel
theorem i218_69 : am_ins 218 69 = some (.pop) := by decide +kernel
theorem i218_70 : am_ins 218 70 = some (.aload_n 1) := by decide +kernel
theorem i218_71 : am_ins 218 71 = some (.getfield 168) := by decide +kernel
theorem i218_74 : am_ins 218 74 = some (.iload_n 3) := by decide +kernel
theorem i218_75 : am_ins 218 75 = some (.aaload) := by decide +kernel
theorem i218_76 : am_ins 218 76 = some (.getfield 184) := by decide +kernel
theorem i218_79 : am_ins 218 79 = some (.ifCond .eq 10) := by decide +kernel
theorem i218_82 : am_ins 218 82 = some (.aload_n 2) := by decide +kernel
theorem i218_83 : am_ins 218 83 = some (.bipush 42) := by decide +kernel
theorem i218_85 : am_ins 218 85 = some (.invokevirtual 325) := by decide +kernel
theorem i218_88 : am_ins 218 88 = some (.pop) := by decide +kernel
theorem i218_89 : am_ins 218 89 = some (.iinc 3 1) := by decide +kernel
theorem i218_92 : am_ins 218 92 = some (.goto (-82)) := by decide +kernel
theorem i218_95 : am_ins 218 95 = some (.aload_n 2) := by decide +kernel
theorem i218_96 : am_ins 218 96 = some (.invokevirtual 320) := by decide +kernel
theorem i218_99 : am_ins 218 99 = some (.ifCond .ne 10) := by decide +kernel
theorem i218_102 : am_ins 218 102 = some (.aload_n 2) := by decide +kernel
theorem i218_103 : am_ins 218 103 = some (.bipush 45) := by decide +kernel
theorem i218_105 : am_ins 218 105 = some (.invokevirtual 325) := by decide +kernel
theorem i218_108 : am_ins 218 108 = some (.pop) := by decide +kernel
theorem i218_109 : am_ins 218 109 = some (.aload_n 0) := by decide +kernel
theorem i218_110 : am_ins 218 110 = some (.invokevirtual 331) := by decide +kernel
theorem i218_113 : am_ins 218 113 = some (.aload_n 2) := by decide +kernel
theorem i218_114 : am_ins 218 114 = some (.invokevirtual 320) := by decide +kernel
theorem i218_117 : am_ins 218 117 = some (.if_icmp .ne 11) := by decide +kernel
theorem i218_120 : am_ins 218 120 = some (.aload_n 0) := by decide +kernel
theorem i218_121 : am_ins 218 121 = some (.aload_n 2) := by decide +kernel
theorem i218_122 : am_ins 218 122 = some (.invokestatic 334) := by decide +kernel
theorem i218_125 : am_ins 218 125 = some (.ifCond .ne 5) := by decide +kernel
theorem i218_128 : am_ins 218 128 = some (.iconst 0) := by decide +kernel
theorem i218_129 : am_ins 218 129 = some (.ireturn) := by decide +kernel
theorem i218_130 : am_ins 218 130 = some (.iconst 0) := by decide +kernel
theorem i218_131 : am_ins 218 131 = some (.istore_n 3) := by decide +kernel
theorem i218_132 : am_ins 218 132 = some (.iload_n 3) := by decide +kernel
theorem i218_133 : am_ins 218 133 = some (.aload_n 1) := by decide +kernel
theorem i218_134 : am_ins 218 134 = some (.getfield 155) := by decide +kernel
theorem i218_137 : am_ins 218 137 = some (.if_icmp .ge 136) := by decide +kernel
theorem i218_140 : am_ins 218 140 = some (.aload_n 1) := by decide +kernel
theorem i218_141 : am_ins 218 141 = some (.getfield 188) := by decide +kernel
theorem i218_144 : am_ins 218 144 = some (.iload_n 3) := by decide +kernel
theorem i218_145 : am_ins 218 145 = some (.aaload) := by decide +kernel
theorem i218_146 : am_ins 218 146 = some (.astore 4) := by decide +kernel
theorem i218_148 : am_ins 218 148 = some (.aload_n 2) := by decide +kernel
theorem i218_149 : am_ins 218 149 = some (.iconst 0) := by decide +kernel
theorem i218_150 : am_ins 218 150 = some (.invokevirtual 338) := by decide +kernel
theorem i218_153 : am_ins 218 153 = some (.aload_n 2) := by decide +kernel
theorem i218_154 : am_ins 218 154 = some (.aload 4) := by decide +kernel
theorem i218_156 : am_ins 218 156 = some (.getfield 192) := by decide +kernel
theorem i218_159 : am_ins 218 159 = some (.invokevirtual 328) := by decide +kernel
theorem i218_162 : am_ins 218 162 = some (.bipush 120) := by decide +kernel
theorem i218_164 : am_ins 218 164 = some (.invokevirtual 325) := by decide +kernel
theorem i218_167 : am_ins 218 167 = some (.aload 4) := by decide +kernel
theorem i218_169 : am_ins 218 169 = some (.getfield 195) := by decide +kernel
theorem i218_172 : am_ins 218 172 = some (.invokevirtual 328) := by decide +kernel
theorem i218_175 : am_ins 218 175 = some (.bipush 32) := by decide +kernel
theorem i218_177 : am_ins 218 177 = some (.invokevirtual 325) := by decide +kernel
theorem i218_180 : am_ins 218 180 = some (.aload 4) := by decide +kernel
theorem i218_182 : am_ins 218 182 = some (.getfield 207) := by decide +kernel
theorem i218_185 : am_ins 218 185 = some (.invokevirtual 328) := by decide +kernel
theorem i218_188 : am_ins 218 188 = some (.bipush 43) := by decide +kernel
theorem i218_190 : am_ins 218 190 = some (.invokevirtual 325) := by decide +kernel
theorem i218_193 : am_ins 218 193 = some (.aload 4) := by decide +kernel
theorem i218_195 : am_ins 218 195 = some (.getfield 210) := by decide +kernel
theorem i218_198 : am_ins 218 198 = some (.invokevirtual 328) := by decide +kernel
theorem i218_201 : am_ins 218 201 = some (.bipush 47) := by decide +kernel
theorem i218_203 : am_ins 218 203 = some (.invokevirtual 325) := by decide +kernel
theorem i218_206 : am_ins 218 206 = some (.aload 4) := by decide +kernel
theorem i218_208 : am_ins 218 208 = some (.getfield 204) := by decide +kernel
theorem i218_211 : am_ins 218 211 = some (.invokevirtual 328) := by decide +kernel
theorem i218_214 : am_ins 218 214 = some (.ldc_w 341) := by decide +kernel
theorem i218_217 : am_ins 218 217 = some (.invokevirtual 343) := by decide +kernel
theorem i218_220 : am_ins 218 220 = some (.aload 4) := by decide +kernel
theorem i218_222 : am_ins 218 222 = some (.getfield 201) := by decide +kernel
theorem i218_225 : am_ins 218 225 = some (.invokevirtual 328) := by decide +kernel
theorem i218_228 : am_ins 218 228 = some (.pop) := by decide +kernel
theorem i218_229 : am_ins 218 229 = some (.aload 4) := by decide +kernel
theorem i218_231 : am_ins 218 231 = some (.getfield 213) := by decide +kernel
theorem i218_234 : am_ins 218 234 = some (.ifCond .eq 11) := by decide +kernel
theorem i218_237 : am_ins 218 237 = some (.aload_n 2) := by decide +kernel
theorem i218_238 : am_ins 218 238 = some (.ldc_w 346) := by decide +kernel
theorem i218_241 : am_ins 218 241 = some (.invokevirtual 343) := by decide +kernel
theorem i218_244 : am_ins 218 244 = some (.pop) := by decide +kernel
theorem i218_245 : am_ins 218 245 = some (.aload_n 0) := by decide +kernel
theorem i218_246 : am_ins 218 246 = some (.iload_n 3) := by decide +kernel
theorem i218_247 : am_ins 218 247 = some (.invokevirtual 77) := by decide +kernel
theorem i218_250 : am_ins 218 250 = some (.aload_n 2) := by decide +kernel
theorem i218_251 : am_ins 218 251 = some (.invokevirtual 320) := by decide +kernel
theorem i218_254 : am_ins 218 254 = some (.if_icmp .ne 11) := by decide +kernel
theorem i218_257 : am_ins 218 257 = some (.aload_n 0) := by decide +kernel
theorem i218_258 : am_ins 218 258 = some (.aload_n 2) := by decide +kernel
theorem i218_259 : am_ins 218 259 = some (.invokestatic 334) := by decide +kernel
theorem i218_262 : am_ins 218 262 = some (.ifCond .ne 5) := by decide +kernel
theorem i218_265 : am_ins 218 265 = some (.iconst 0) := by decide +kernel
theorem i218_266 : am_ins 218 266 = some (.ireturn) := by decide +kernel
theorem i218_267 : am_ins 218 267 = some (.iinc 3 1) := by decide +kernel
theorem i218_270 : am_ins 218 270 = some (.goto (-138)) := by decide +kernel
theorem i218_273 : am_ins 218 273 = some (.iconst 0) := by decide +kernel
theorem i218_274 : am_ins 218 274 = some (.istore_n 3) := by decide +kernel
theorem i218_275 : am_ins 218 275 = some (.iload_n 3) := by decide +kernel
theorem i218_276 : am_ins 218 276 = some (.aload_n 1) := by decide +kernel
theorem i218_277 : am_ins 218 277 = some (.getfield 161) := by decide +kernel
theorem i218_280 : am_ins 218 280 = some (.if_icmp .ge 45) := by decide +kernel
theorem i218_283 : am_ins 218 283 = some (.iconst 0) := by decide +kernel
theorem i218_284 : am_ins 218 284 = some (.istore 4) := by decide +kernel
theorem i218_286 : am_ins 218 286 = some (.iload 4) := by decide +kernel
theorem i218_288 : am_ins 218 288 = some (.iconst 4) := by decide +kernel
theorem i218_289 : am_ins 218 289 = some (.if_icmp .ge 30) := by decide +kernel
theorem i218_292 : am_ins 218 292 = some (.aload_n 0) := by decide +kernel
theorem i218_293 : am_ins 218 293 = some (.iload_n 3) := by decide +kernel
theorem i218_294 : am_ins 218 294 = some (.iload 4) := by decide +kernel
theorem i218_296 : am_ins 218 296 = some (.invokevirtual 74) := by decide +kernel
theorem i218_299 : am_ins 218 299 = some (.aload_n 1) := by decide +kernel
theorem i218_300 : am_ins 218 300 = some (.getfield 348) := by decide +kernel
theorem i218_303 : am_ins 218 303 = some (.iload_n 3) := by decide +kernel
theorem i218_304 : am_ins 218 304 = some (.aaload) := by decide +kernel
theorem i218_305 : am_ins 218 305 = some (.iload 4) := by decide +kernel
theorem i218_307 : am_ins 218 307 = some (.iaload) := by decide +kernel
theorem i218_308 : am_ins 218 308 = some (.if_icmp .eq 5) := by decide +kernel
theorem i218_311 : am_ins 218 311 = some (.iconst 0) := by decide +kernel
theorem i218_312 : am_ins 218 312 = some (.ireturn) := by decide +kernel
theorem i218_313 : am_ins 218 313 = some (.iinc 4 1) := by decide +kernel
theorem i218_316 : am_ins 218 316 = some (.goto (-30)) := by decide +kernel
theorem i218_319 : am_ins 218 319 = some (.iinc 3 1) := by decide +kernel
theorem i218_322 : am_ins 218 322 = some (.goto (-47)) := by decide +kernel
theorem i218_325 : am_ins 218 325 = some (.aload_n 0) := by decide +kernel
theorem i218_326 : am_ins 218 326 = some (.bipush 13) := by decide +kernel
theorem i218_328 : am_ins 218 328 = some (.aload_n 1) := by decide +kernel
theorem i218_329 : am_ins 218 329 = some (.getfield 161) := by decide +kernel
theorem i218_332 : am_ins 218 332 = some (.iconst 0) := by decide +kernel
theorem i218_333 : am_ins 218 333 = some (.iconst 0) := by decide +kernel
theorem i218_334 : am_ins 218 334 = some (.iconst 0) := by decide +kernel
theorem i218_335 : am_ins 218 335 = some (.invokestatic 234) := by decide +kernel
theorem i218_338 : am_ins 218 338 = some (.iconst 2) := by decide +kernel
theorem i218_339 : am_ins 218 339 = some (.if_icmp .ne 7) := by decide +kernel
theorem i218_342 : am_ins 218 342 = some (.iconst 1) := by decide +kernel
theorem i218_343 : am_ins 218 343 = some (.goto 4) := by decide +kernel
theorem i218_346 : am_ins 218 346 = some (.iconst 0) := by decide +kernel
theorem i218_347 : am_ins 218 347 = some (.ireturn) := by decide +kernel
theorem i219_0 : am_ins 219 0 = some (.iconst 0) := by decide +kernel
theorem i219_1 : am_ins 219 1 = some (.istore_n 2) := by decide +kernel
theorem i219_2 : am_ins 219 2 = some (.iload_n 2) := by decide +kernel
theorem i219_3 : am_ins 219 3 = some (.aload_n 1) := by decide +kernel
theorem i219_4 : am_ins 219 4 = some (.invokevirtual 320) := by decide +kernel
theorem i219_7 : am_ins 219 7 = some (.if_icmp .ge 24) := by decide +kernel
theorem i219_10 : am_ins 219 10 = some (.aload_n 0) := by decide +kernel
theorem i219_11 : am_ins 219 11 = some (.iload_n 2) := by decide +kernel
theorem i219_12 : am_ins 219 12 = some (.invokevirtual 80) := by decide +kernel
theorem i219_15 : am_ins 219 15 = some (.aload_n 1) := by decide +kernel
theorem i219_16 : am_ins 219 16 = some (.iload_n 2) := by decide +kernel
theorem i219_17 : am_ins 219 17 = some (.invokevirtual 323) := by decide +kernel
theorem i219_20 : am_ins 219 20 = some (.if_icmp .eq 5) := by decide +kernel
theorem i219_23 : am_ins 219 23 = some (.iconst 0) := by decide +kernel
theorem i219_24 : am_ins 219 24 = some (.ireturn) := by decide +kernel
theorem i219_25 : am_ins 219 25 = some (.iinc 2 1) := by decide +kernel
theorem i219_28 : am_ins 219 28 = some (.goto (-26)) := by decide +kernel
theorem i219_31 : am_ins 219 31 = some (.aload_n 0) := by decide +kernel
theorem i219_32 : am_ins 219 32 = some (.bipush 15) := by decide +kernel
theorem i219_34 : am_ins 219 34 = some (.aload_n 1) := by decide +kernel
theorem i219_35 : am_ins 219 35 = some (.invokevirtual 320) := by decide +kernel
theorem i219_38 : am_ins 219 38 = some (.iconst 0) := by decide +kernel
theorem i219_39 : am_ins 219 39 = some (.iconst 0) := by decide +kernel
theorem i219_40 : am_ins 219 40 = some (.iconst 0) := by decide +kernel
theorem i219_41 : am_ins 219 41 = some (.invokestatic 234) := by decide +kernel
theorem i219_44 : am_ins 219 44 = some (.iconst 2) := by decide +kernel
theorem i219_45 : am_ins 219 45 = some (.if_icmp .ne 7) := by decide +kernel
theorem i219_48 : am_ins 219 48 = some (.iconst 1) := by decide +kernel
theorem i219_49 : am_ins 219 49 = some (.goto 4) := by decide +kernel
theorem i219_52 : am_ins 219 52 = some (.iconst 0) := by decide +kernel
theorem i219_53 : am_ins 219 53 = some (.ireturn) := by decide +kernel
theorem i220_0 : am_ins 220 0 = some (.aload_n 0) := by decide +kernel
theorem i220_1 : am_ins 220 1 = some (.getfield 47) := by decide +kernel
theorem i220_4 : am_ins 220 4 = some (.iconst 5) := by decide +kernel
theorem i220_5 : am_ins 220 5 = some (.iaload) := by decide +kernel
theorem i220_6 : am_ins 220 6 = some (.istore_n 2) := by decide +kernel
theorem i220_7 : am_ins 220 7 = some (.iconst 0) := by decide +kernel
theorem i220_8 : am_ins 220 8 = some (.istore_n 3) := by decide +kernel
theorem i220_9 : am_ins 220 9 = some (.iload_n 3) := by decide +kernel
theorem i220_10 : am_ins 220 10 = some (.aload_n 0) := by decide +kernel
theorem i220_11 : am_ins 220 11 = some (.getfield 94) := by decide +kernel
theorem i220_14 : am_ins 220 14 = some (.if_icmp .ge 107) := by decide +kernel
theorem i220_17 : am_ins 220 17 = some (.iload_n 1) := by decide +kernel
theorem i220_18 : am_ins 220 18 = some (.iconst 3) := by decide +kernel
theorem i220_19 : am_ins 220 19 = some (.if_icmp .ne 102) := by decide +kernel
theorem i220_22 : am_ins 220 22 = some (.aload_n 0) := by decide +kernel
theorem i220_23 : am_ins 220 23 = some (.aload_n 0) := by decide +kernel
theorem i220_24 : am_ins 220 24 = some (.getfield 26) := by decide +kernel
theorem i220_27 : am_ins 220 27 = some (.iload_n 3) := by decide +kernel
theorem i220_28 : am_ins 220 28 = some (.aaload) := by decide +kernel
theorem i220_29 : am_ins 220 29 = some (.iconst 1) := by decide +kernel
theorem i220_30 : am_ins 220 30 = some (.invokevirtual 190) := by decide +kernel
theorem i220_33 : am_ins 220 33 = some (.astore 4) := by decide +kernel
theorem i220_35 : am_ins 220 35 = some (.aload 4) := by decide +kernel
theorem i220_37 : am_ins 220 37 = some (.ifnull 78) := by decide +kernel
theorem i220_40 : am_ins 220 40 = some (.aload_n 0) := by decide +kernel
theorem i220_41 : am_ins 220 41 = some (.aload_n 0) := by decide +kernel
theorem i220_42 : am_ins 220 42 = some (.getfield 26) := by decide +kernel
theorem i220_45 : am_ins 220 45 = some (.iload_n 3) := by decide +kernel
theorem i220_46 : am_ins 220 46 = some (.aaload) := by decide +kernel
theorem i220_47 : am_ins 220 47 = some (.invokevirtual 194) := by decide +kernel
theorem i220_50 : am_ins 220 50 = some (.ifCond .eq 65) := by decide +kernel
theorem i220_53 : am_ins 220 53 = some (.aload_n 0) := by decide +kernel
theorem i220_54 : am_ins 220 54 = some (.getfield 26) := by decide +kernel
theorem i220_57 : am_ins 220 57 = some (.iload_n 3) := by decide +kernel
theorem i220_58 : am_ins 220 58 = some (.aaload) := by decide +kernel
theorem i220_59 : am_ins 220 59 = some (.astore 5) := by decide +kernel
theorem i220_61 : am_ins 220 61 = some (.aload 5) := by decide +kernel
theorem i220_63 : am_ins 220 63 = some (.arraylength) := by decide +kernel
theorem i220_64 : am_ins 220 64 = some (.istore 6) := by decide +kernel
theorem i220_66 : am_ins 220 66 = some (.iconst 0) := by decide +kernel
theorem i220_67 : am_ins 220 67 = some (.istore 7) := by decide +kernel
theorem i220_69 : am_ins 220 69 = some (.iload 7) := by decide +kernel
theorem i220_71 : am_ins 220 71 = some (.iload 6) := by decide +kernel
theorem i220_73 : am_ins 220 73 = some (.if_icmp .ge 26) := by decide +kernel
theorem i220_76 : am_ins 220 76 = some (.aload 5) := by decide +kernel
theorem i220_78 : am_ins 220 78 = some (.iload 7) := by decide +kernel
theorem i220_80 : am_ins 220 80 = some (.iaload) := by decide +kernel
theorem i220_81 : am_ins 220 81 = some (.istore 8) := by decide +kernel
theorem i220_83 : am_ins 220 83 = some (.aload_n 0) := by decide +kernel
theorem i220_84 : am_ins 220 84 = some (.aload 4) := by decide +kernel
theorem i220_86 : am_ins 220 86 = some (.iload 8) := by decide +kernel
theorem i220_88 : am_ins 220 88 = some (.invokevirtual 198) := by decide +kernel
theorem i220_91 : am_ins 220 91 = some (.istore 9) := by decide +kernel
theorem i220_93 : am_ins 220 93 = some (.iinc 7 1) := by decide +kernel
theorem i220_96 : am_ins 220 96 = some (.goto (-27)) := by decide +kernel
theorem i220_99 : am_ins 220 99 = some (.aload_n 0) := by decide +kernel
theorem i220_100 : am_ins 220 100 = some (.aload_n 0) := by decide +kernel
theorem i220_101 : am_ins 220 101 = some (.getfield 26) := by decide +kernel
theorem i220_104 : am_ins 220 104 = some (.iload_n 3) := by decide +kernel
theorem i220_105 : am_ins 220 105 = some (.aaload) := by decide +kernel
theorem i220_106 : am_ins 220 106 = some (.iconst 1) := by decide +kernel
theorem i220_107 : am_ins 220 107 = some (.invokevirtual 190) := by decide +kernel
theorem i220_110 : am_ins 220 110 = some (.astore 4) := by decide +kernel
theorem i220_112 : am_ins 220 112 = some (.goto (-77)) := by decide +kernel
theorem i220_115 : am_ins 220 115 = some (.iinc 3 1) := by decide +kernel
theorem i220_118 : am_ins 220 118 = some (.goto (-109)) := by decide +kernel
theorem i220_121 : am_ins 220 121 = some (.iload_n 1) := by decide +kernel
theorem i220_122 : am_ins 220 122 = some (.iconst 3) := by decide +kernel
theorem i220_123 : am_ins 220 123 = some (.if_icmp .ne 7) := by decide +kernel
theorem i220_126 : am_ins 220 126 = some (.iconst 1) := by decide +kernel
theorem i220_127 : am_ins 220 127 = some (.goto 4) := by decide +kernel
theorem i220_130 : am_ins 220 130 = some (.iload_n 1) := by decide +kernel
theorem i220_131 : am_ins 220 131 = some (.istore_n 3) := by decide +kernel
theorem i220_132 : am_ins 220 132 = some (.iconst 1) := by decide +kernel
theorem i220_133 : am_ins 220 133 = some (.istore 4) := by decide +kernel
theorem i220_135 : am_ins 220 135 = some (.iload 4) := by decide +kernel
theorem i220_137 : am_ins 220 137 = some (.ifCond .eq 157) := by decide +kernel
theorem i220_140 : am_ins 220 140 = some (.aconst_null) := by decide +kernel
theorem i220_141 : am_ins 220 141 = some (.astore 5) := by decide +kernel
theorem i220_143 : am_ins 220 143 = some (.aload_n 0) := by decide +kernel
theorem i220_144 : am_ins 220 144 = some (.getfield 100) := by decide +kernel
theorem i220_147 : am_ins 220 147 = some (.iconst 1) := by decide +kernel
theorem i220_148 : am_ins 220 148 = some (.isub) := by decide +kernel
theorem i220_149 : am_ins 220 149 = some (.istore 6) := by decide +kernel
theorem i220_151 : am_ins 220 151 = some (.iload 6) := by decide +kernel
theorem i220_153 : am_ins 220 153 = some (.ifCond .lt 90) := by decide +kernel
theorem i220_156 : am_ins 220 156 = some (.aload_n 0) := by decide +kernel
theorem i220_157 : am_ins 220 157 = some (.getfield 40) := by decide +kernel
theorem i220_160 : am_ins 220 160 = some (.iload 6) := by decide +kernel
theorem i220_162 : am_ins 220 162 = some (.aaload) := by decide +kernel
theorem i220_163 : am_ins 220 163 = some (.astore 7) := by decide +kernel
theorem i220_165 : am_ins 220 165 = some (.aload 7) := by decide +kernel
theorem i220_167 : am_ins 220 167 = some (.getfield 127) := by decide +kernel
theorem i220_170 : am_ins 220 170 = some (.ifCond .eq 67) := by decide +kernel
theorem i220_173 : am_ins 220 173 = some (.aload_n 0) := by decide +kernel
theorem i220_174 : am_ins 220 174 = some (.iconst 1) := by decide +kernel
theorem i220_175 : am_ins 220 175 = some (.newarray .int) := by decide +kernel
theorem i220_177 : am_ins 220 177 = some (.dup) := by decide +kernel
theorem i220_178 : am_ins 220 178 = some (.iconst 0) := by decide +kernel
theorem i220_179 : am_ins 220 179 = some (.aload 7) := by decide +kernel
theorem i220_181 : am_ins 220 181 = some (.getfield 148) := by decide +kernel
theorem i220_184 : am_ins 220 184 = some (.iastore) := by decide +kernel
theorem i220_185 : am_ins 220 185 = some (.iconst 0) := by decide +kernel
theorem i220_186 : am_ins 220 186 = some (.invokevirtual 190) := by decide +kernel
theorem i220_189 : am_ins 220 189 = some (.ifnonnull 6) := by decide +kernel
theorem i220_192 : am_ins 220 192 = some (.goto 45) := by decide +kernel
theorem i220_195 : am_ins 220 195 = some (.aload 5) := by decide +kernel
theorem i220_197 : am_ins 220 197 = some (.ifnull 36) := by decide +kernel
theorem i220_200 : am_ins 220 200 = some (.iload_n 3) := by decide +kernel
theorem i220_201 : am_ins 220 201 = some (.ifCond .ne 19) := by decide +kernel
theorem i220_204 : am_ins 220 204 = some (.aload 7) := by decide +kernel
theorem i220_206 : am_ins 220 206 = some (.getfield 136) := by decide +kernel
theorem i220_209 : am_ins 220 209 = some (.aload 5) := by decide +kernel
theorem i220_211 : am_ins 220 211 = some (.getfield 136) := by decide +kernel
theorem i220_214 : am_ins 220 214 = some (.if_icmp .gt 23) := by decide +kernel
theorem i220_217 : am_ins 220 217 = some (.goto 16) := by decide +kernel
theorem i220_220 : am_ins 220 220 = some (.aload 7) := by decide +kernel
theorem i220_222 : am_ins 220 222 = some (.getfield 148) := by decide +kernel
theorem i220_225 : am_ins 220 225 = some (.aload 5) := by decide +kernel
theorem i220_227 : am_ins 220 227 = some (.getfield 148) := by decide +kernel
theorem i220_230 : am_ins 220 230 = some (.if_icmp .lt 7) := by decide +kernel
theorem i220_233 : am_ins 220 233 = some (.aload 7) := by decide +kernel
theorem i220_235 : am_ins 220 235 = some (.astore 5) := by decide +kernel
theorem i220_237 : am_ins 220 237 = some (.iinc 6 (-1)) := by decide +kernel
theorem i220_240 : am_ins 220 240 = some (.goto (-89)) := by decide +kernel
theorem i220_243 : am_ins 220 243 = some (.aload 5) := by decide +kernel
theorem i220_245 : am_ins 220 245 = some (.ifnull 7) := by decide +kernel
theorem i220_248 : am_ins 220 248 = some (.iconst 1) := by decide +kernel
theorem i220_249 : am_ins 220 249 = some (.goto 4) := by decide +kernel
theorem i220_252 : am_ins 220 252 = some (.iconst 0) := by decide +kernel
theorem i220_253 : am_ins 220 253 = some (.istore 4) := by decide +kernel
theorem i220_255 : am_ins 220 255 = some (.iload 4) := by decide +kernel
theorem i220_257 : am_ins 220 257 = some (.ifCond .eq 31) := by decide +kernel
theorem i220_260 : am_ins 220 260 = some (.aload_n 0) := by decide +kernel
theorem i220_261 : am_ins 220 261 = some (.aload_n 0) := by decide +kernel
theorem i220_262 : am_ins 220 262 = some (.iconst 1) := by decide +kernel
theorem i220_263 : am_ins 220 263 = some (.newarray .int) := by decide +kernel
theorem i220_265 : am_ins 220 265 = some (.dup) := by decide +kernel
theorem i220_266 : am_ins 220 266 = some (.iconst 0) := by decide +kernel
theorem i220_267 : am_ins 220 267 = some (.aload 5) := by decide +kernel
theorem i220_269 : am_ins 220 269 = some (.getfield 148) := by decide +kernel
theorem i220_272 : am_ins 220 272 = some (.iastore) := by decide +kernel
theorem i220_273 : am_ins 220 273 = some (.iload_n 3) := by decide +kernel
theorem i220_274 : am_ins 220 274 = some (.invokevirtual 190) := by decide +kernel
theorem i220_277 : am_ins 220 277 = some (.aload 5) := by decide +kernel
theorem i220_279 : am_ins 220 279 = some (.getfield 148) := by decide +kernel
theorem i220_282 : am_ins 220 282 = some (.invokevirtual 198) := by decide +kernel
theorem i220_285 : am_ins 220 285 = some (.goto 4) := by decide +kernel
theorem i220_288 : am_ins 220 288 = some (.iconst 0) := by decide +kernel
theorem i220_289 : am_ins 220 289 = some (.istore 6) := by decide +kernel
theorem i220_291 : am_ins 220 291 = some (.goto (-156)) := by decide +kernel
theorem i220_294 : am_ins 220 294 = some (.aload_n 0) := by decide +kernel
theorem i220_295 : am_ins 220 295 = some (.getfield 47) := by decide +kernel
theorem i220_298 : am_ins 220 298 = some (.iconst 5) := by decide +kernel
theorem i220_299 : am_ins 220 299 = some (.iaload) := by decide +kernel
theorem i220_300 : am_ins 220 300 = some (.iload_n 2) := by decide +kernel
theorem i220_301 : am_ins 220 301 = some (.isub) := by decide +kernel
theorem i220_302 : am_ins 220 302 = some (.ireturn) := by decide +kernel
