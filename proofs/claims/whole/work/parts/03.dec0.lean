theorem dX0_init_0 : decode cX0_init 0 = .ok (.aload_n 0, 1) := by decide +kernel
theorem dX0_init_1 : decode cX0_init 1 = .ok (.invokespecial 3, 3) := by decide +kernel
theorem dX0_init_4 : decode cX0_init 4 = .ok (.aload_n 0, 1) := by decide +kernel
theorem dX0_init_5 : decode cX0_init 5 = .ok (.bipush 30, 2) := by decide +kernel
theorem dX0_init_7 : decode cX0_init 7 = .ok (.newarray .int, 2) := by decide +kernel
theorem dX0_init_9 : decode cX0_init 9 = .ok (.putfield 11, 3) := by decide +kernel
theorem dX0_init_12 : decode cX0_init 12 = .ok (.aload_n 0, 1) := by decide +kernel
theorem dX0_init_13 : decode cX0_init 13 = .ok (.iconst 0, 1) := by decide +kernel
theorem dX0_init_14 : decode cX0_init 14 = .ok (.putfield 15, 3) := by decide +kernel
theorem dX0_init_17 : decode cX0_init 17 = .ok (.aload_n 0, 1) := by decide +kernel
theorem dX0_init_18 : decode cX0_init 18 = .ok (.iconst 0, 1) := by decide +kernel
theorem dX0_init_19 : decode cX0_init 19 = .ok (.putfield 19, 3) := by decide +kernel
theorem dX0_init_22 : decode cX0_init 22 = .ok (.aload_n 0, 1) := by decide +kernel
theorem dX0_init_23 : decode cX0_init 23 = .ok (.iconst 0, 1) := by decide +kernel
theorem dX0_init_24 : decode cX0_init 24 = .ok (.putfield 22, 3) := by decide +kernel
theorem dX0_init_27 : decode cX0_init 27 = .ok (.aload_n 0, 1) := by decide +kernel
theorem dX0_init_28 : decode cX0_init 28 = .ok (.iconst 0, 1) := by decide +kernel
theorem dX0_init_29 : decode cX0_init 29 = .ok (.putfield 25, 3) := by decide +kernel
theorem dX0_init_32 : decode cX0_init 32 = .ok (.aload_n 0, 1) := by decide +kernel
theorem dX0_init_33 : decode cX0_init 33 = .ok (.iconst 0, 1) := by decide +kernel
theorem dX0_init_34 : decode cX0_init 34 = .ok (.putfield 28, 3) := by decide +kernel
theorem dX0_init_37 : decode cX0_init 37 = .ok (.return_, 1) := by decide +kernel
theorem dX0_become_0 : decode cX0_become 0 = .ok (.aload_n 0, 1) := by decide +kernel
theorem dX0_become_1 : decode cX0_become 1 = .ok (.iload_n 1, 1) := by decide +kernel
theorem dX0_become_2 : decode cX0_become 2 = .ok (.putfield 19, 3) := by decide +kernel
theorem dX0_become_5 : decode cX0_become 5 = .ok (.aload_n 0, 1) := by decide +kernel
theorem dX0_become_6 : decode cX0_become 6 = .ok (.iload_n 2, 1) := by decide +kernel
theorem dX0_become_7 : decode cX0_become 7 = .ok (.putfield 22, 3) := by decide +kernel
theorem dX0_become_10 : decode cX0_become 10 = .ok (.aload_n 0, 1) := by decide +kernel
theorem dX0_become_11 : decode cX0_become 11 = .ok (.iload_n 3, 1) := by decide +kernel
theorem dX0_become_12 : decode cX0_become 12 = .ok (.putfield 25, 3) := by decide +kernel
theorem dX0_become_15 : decode cX0_become 15 = .ok (.return_, 1) := by decide +kernel
theorem dX0_perform_0 : decode cX0_perform 0 = .ok (.aload_n 0, 1) := by decide +kernel
theorem dX0_perform_1 : decode cX0_perform 1 = .ok (.iconst 0, 1) := by decide +kernel
theorem dX0_perform_2 : decode cX0_perform 2 = .ok (.putfield 15, 3) := by decide +kernel
theorem dX0_perform_5 : decode cX0_perform 5 = .ok (.aload_n 0, 1) := by decide +kernel
theorem dX0_perform_6 : decode cX0_perform 6 = .ok (.iconst 0, 1) := by decide +kernel
theorem dX0_perform_7 : decode cX0_perform 7 = .ok (.putfield 28, 3) := by decide +kernel
theorem dX0_perform_10 : decode cX0_perform 10 = .ok (.aload_n 0, 1) := by decide +kernel
theorem dX0_perform_11 : decode cX0_perform 11 = .ok (.iload_n 1, 1) := by decide +kernel
theorem dX0_perform_12 : decode cX0_perform 12 = .ok (.iload_n 2, 1) := by decide +kernel
theorem dX0_perform_13 : decode cX0_perform 13 = .ok (.iconst 0, 1) := by decide +kernel
theorem dX0_perform_14 : decode cX0_perform 14 = .ok (.invokevirtual 32, 3) := by decide +kernel
theorem dX0_perform_17 : decode cX0_perform 17 = .ok (.istore_n 3, 1) := by decide +kernel
theorem dX0_perform_18 : decode cX0_perform 18 = .ok (.aload_n 0, 1) := by decide +kernel
theorem dX0_perform_19 : decode cX0_perform 19 = .ok (.getfield 28, 3) := by decide +kernel
theorem dX0_perform_22 : decode cX0_perform 22 = .ok (.ifCond .eq 8, 3) := by decide +kernel
theorem dX0_perform_25 : decode cX0_perform 25 = .ok (.bipush (-15), 2) := by decide +kernel
theorem dX0_perform_27 : decode cX0_perform 27 = .ok (.goto 4, 3) := by decide +kernel
theorem dX0_perform_30 : decode cX0_perform 30 = .ok (.iload_n 3, 1) := by decide +kernel
theorem dX0_perform_31 : decode cX0_perform 31 = .ok (.ireturn, 1) := by decide +kernel
theorem dX0_own_0 : decode cX0_own 0 = .ok (.aload_n 0, 1) := by decide +kernel
theorem dX0_own_1 : decode cX0_own 1 = .ok (.getstatic 36, 3) := by decide +kernel
theorem dX0_own_4 : decode cX0_own 4 = .ok (.aload_n 0, 1) := by decide +kernel
theorem dX0_own_5 : decode cX0_own 5 = .ok (.getfield 19, 3) := by decide +kernel
theorem dX0_own_8 : decode cX0_own 8 = .ok (.iconst 4, 1) := by decide +kernel
theorem dX0_own_9 : decode cX0_own 9 = .ok (.imul, 1) := by decide +kernel
theorem dX0_own_10 : decode cX0_own 10 = .ok (.iload_n 1, 1) := by decide +kernel
theorem dX0_own_11 : decode cX0_own 11 = .ok (.iadd, 1) := by decide +kernel
theorem dX0_own_12 : decode cX0_own 12 = .ok (.iaload, 1) := by decide +kernel
theorem dX0_own_13 : decode cX0_own 13 = .ok (.iload_n 2, 1) := by decide +kernel
theorem dX0_own_14 : decode cX0_own 14 = .ok (.iload_n 3, 1) := by decide +kernel
theorem dX0_own_15 : decode cX0_own 15 = .ok (.invokevirtual 39, 3) := by decide +kernel
theorem dX0_own_18 : decode cX0_own 18 = .ok (.ireturn, 1) := by decide +kernel
theorem dX0_run_0 : decode cX0_run 0 = .ok (.aload_n 0, 1) := by decide +kernel
theorem dX0_run_1 : decode cX0_run 1 = .ok (.getfield 28, 3) := by decide +kernel
theorem dX0_run_4 : decode cX0_run 4 = .ok (.ifCond .ne 9, 3) := by decide +kernel
theorem dX0_run_7 : decode cX0_run 7 = .ok (.iload_n 3, 1) := by decide +kernel
theorem dX0_run_8 : decode cX0_run 8 = .ok (.bipush 40, 2) := by decide +kernel
theorem dX0_run_10 : decode cX0_run 10 = .ok (.if_icmp .le 5, 3) := by decide +kernel
theorem dX0_run_13 : decode cX0_run 13 = .ok (.iconst 0, 1) := by decide +kernel
theorem dX0_run_14 : decode cX0_run 14 = .ok (.ireturn, 1) := by decide +kernel
theorem dX0_run_15 : decode cX0_run 15 = .ok (.aload_n 0, 1) := by decide +kernel
theorem dX0_run_16 : decode cX0_run 16 = .ok (.iload_n 1, 1) := by decide +kernel
theorem dX0_run_17 : decode cX0_run 17 = .ok (.invokevirtual 42, 3) := by decide +kernel
theorem dX0_run_20 : decode cX0_run 20 = .ok (.iload_n 3, 1) := by decide +kernel
theorem dX0_run_21 : decode cX0_run 21 = .ok (.iconst 1, 1) := by decide +kernel
theorem dX0_run_22 : decode cX0_run 22 = .ok (.iadd, 1) := by decide +kernel
theorem dX0_run_23 : decode cX0_run 23 = .ok (.istore 4, 2) := by decide +kernel
theorem dX0_run_25 : decode cX0_run 25 = .ok (.iload_n 1, 1) := by decide +kernel
theorem dX0_run_26 : decode cX0_run 26 = .ok (.tableswitch 417 10 61 #[222, 232, 246, 261, 417, 417, 417, 417, 417, 417, 273, 417, 417, 417, 417, 417, 417, 417, 417, 417, 285, 297, 417, 417, 417, 417, 417, 417, 417, 417, 319, 332, 417, 417, 417, 417, 417, 417, 417, 417, 354, 371, 417, 417, 417, 417, 417, 417, 417, 417, 383, 395], 222) := by decide +kernel
theorem dX0_run_248 : decode cX0_run 248 = .ok (.iload_n 2, 1) := by decide +kernel
theorem dX0_run_249 : decode cX0_run 249 = .ok (.bipush 7, 2) := by decide +kernel
theorem dX0_run_251 : decode cX0_run 251 = .ok (.imul, 1) := by decide +kernel
theorem dX0_run_252 : decode cX0_run 252 = .ok (.aload_n 0, 1) := by decide +kernel
theorem dX0_run_253 : decode cX0_run 253 = .ok (.getfield 22, 3) := by decide +kernel
theorem dX0_run_256 : decode cX0_run 256 = .ok (.isub, 1) := by decide +kernel
theorem dX0_run_257 : decode cX0_run 257 = .ok (.ireturn, 1) := by decide +kernel
theorem dX0_run_258 : decode cX0_run 258 = .ok (.aload_n 0, 1) := by decide +kernel
theorem dX0_run_259 : decode cX0_run 259 = .ok (.iconst 0, 1) := by decide +kernel
theorem dX0_run_260 : decode cX0_run 260 = .ok (.iload_n 2, 1) := by decide +kernel
theorem dX0_run_261 : decode cX0_run 261 = .ok (.iload 4, 2) := by decide +kernel
theorem dX0_run_263 : decode cX0_run 263 = .ok (.invokevirtual 32, 3) := by decide +kernel
theorem dX0_run_266 : decode cX0_run 266 = .ok (.aload_n 0, 1) := by decide +kernel
theorem dX0_run_267 : decode cX0_run 267 = .ok (.getfield 25, 3) := by decide +kernel
theorem dX0_run_270 : decode cX0_run 270 = .ok (.iadd, 1) := by decide +kernel
theorem dX0_run_271 : decode cX0_run 271 = .ok (.ireturn, 1) := by decide +kernel
theorem dX0_run_272 : decode cX0_run 272 = .ok (.aload_n 0, 1) := by decide +kernel
theorem dX0_run_273 : decode cX0_run 273 = .ok (.iload_n 2, 1) := by decide +kernel
theorem dX0_run_274 : decode cX0_run 274 = .ok (.aload_n 0, 1) := by decide +kernel
theorem dX0_run_275 : decode cX0_run 275 = .ok (.getfield 25, 3) := by decide +kernel
theorem dX0_run_278 : decode cX0_run 278 = .ok (.aload_n 0, 1) := by decide +kernel
theorem dX0_run_279 : decode cX0_run 279 = .ok (.getfield 22, 3) := by decide +kernel
theorem dX0_run_282 : decode cX0_run 282 = .ok (.isub, 1) := by decide +kernel
theorem dX0_run_283 : decode cX0_run 283 = .ok (.invokevirtual 46, 3) := by decide +kernel
theorem dX0_run_286 : decode cX0_run 286 = .ok (.ireturn, 1) := by decide +kernel
theorem dX0_run_287 : decode cX0_run 287 = .ok (.aload_n 0, 1) := by decide +kernel
theorem dX0_run_288 : decode cX0_run 288 = .ok (.iconst 1, 1) := by decide +kernel
theorem dX0_run_289 : decode cX0_run 289 = .ok (.iload_n 2, 1) := by decide +kernel
theorem dX0_run_290 : decode cX0_run 290 = .ok (.iload 4, 2) := by decide +kernel
theorem dX0_run_292 : decode cX0_run 292 = .ok (.invokevirtual 32, 3) := by decide +kernel
theorem dX0_run_295 : decode cX0_run 295 = .ok (.bipush 50, 2) := by decide +kernel
theorem dX0_run_297 : decode cX0_run 297 = .ok (.ixor, 1) := by decide +kernel
theorem dX0_run_298 : decode cX0_run 298 = .ok (.ireturn, 1) := by decide +kernel
theorem dX0_run_299 : decode cX0_run 299 = .ok (.aload_n 0, 1) := by decide +kernel
theorem dX0_run_300 : decode cX0_run 300 = .ok (.bipush 11, 2) := by decide +kernel
theorem dX0_run_302 : decode cX0_run 302 = .ok (.iload_n 2, 1) := by decide +kernel
theorem dX0_run_303 : decode cX0_run 303 = .ok (.iload 4, 2) := by decide +kernel
theorem dX0_run_305 : decode cX0_run 305 = .ok (.invokevirtual 39, 3) := by decide +kernel
theorem dX0_run_308 : decode cX0_run 308 = .ok (.iconst 3, 1) := by decide +kernel
theorem dX0_run_309 : decode cX0_run 309 = .ok (.isub, 1) := by decide +kernel
theorem dX0_run_310 : decode cX0_run 310 = .ok (.ireturn, 1) := by decide +kernel
theorem dX0_run_311 : decode cX0_run 311 = .ok (.iconst 0, 1) := by decide +kernel
theorem dX0_run_312 : decode cX0_run 312 = .ok (.aload_n 0, 1) := by decide +kernel
theorem dX0_run_313 : decode cX0_run 313 = .ok (.bipush 10, 2) := by decide +kernel
theorem dX0_run_315 : decode cX0_run 315 = .ok (.iload_n 2, 1) := by decide +kernel
theorem dX0_run_316 : decode cX0_run 316 = .ok (.iload 4, 2) := by decide +kernel
theorem dX0_run_318 : decode cX0_run 318 = .ok (.invokevirtual 39, 3) := by decide +kernel
theorem dX0_run_321 : decode cX0_run 321 = .ok (.isub, 1) := by decide +kernel
theorem dX0_run_322 : decode cX0_run 322 = .ok (.ireturn, 1) := by decide +kernel
theorem dX0_run_323 : decode cX0_run 323 = .ok (.aload_n 0, 1) := by decide +kernel
theorem dX0_run_324 : decode cX0_run 324 = .ok (.bipush 13, 2) := by decide +kernel
theorem dX0_run_326 : decode cX0_run 326 = .ok (.iload_n 2, 1) := by decide +kernel
theorem dX0_run_327 : decode cX0_run 327 = .ok (.iload 4, 2) := by decide +kernel
theorem dX0_run_329 : decode cX0_run 329 = .ok (.invokevirtual 39, 3) := by decide +kernel
theorem dX0_run_332 : decode cX0_run 332 = .ok (.aload_n 0, 1) := by decide +kernel
theorem dX0_run_333 : decode cX0_run 333 = .ok (.iconst 2, 1) := by decide +kernel
theorem dX0_run_334 : decode cX0_run 334 = .ok (.aload_n 0, 1) := by decide +kernel
theorem dX0_run_335 : decode cX0_run 335 = .ok (.getfield 22, 3) := by decide +kernel
theorem dX0_run_338 : decode cX0_run 338 = .ok (.iload 4, 2) := by decide +kernel
theorem dX0_run_340 : decode cX0_run 340 = .ok (.invokevirtual 32, 3) := by decide +kernel
theorem dX0_run_343 : decode cX0_run 343 = .ok (.isub, 1) := by decide +kernel
theorem dX0_run_344 : decode cX0_run 344 = .ok (.ireturn, 1) := by decide +kernel
theorem dX0_run_345 : decode cX0_run 345 = .ok (.aload_n 0, 1) := by decide +kernel
theorem dX0_run_346 : decode cX0_run 346 = .ok (.bipush 30, 2) := by decide +kernel
theorem dX0_run_348 : decode cX0_run 348 = .ok (.iload_n 2, 1) := by decide +kernel
theorem dX0_run_349 : decode cX0_run 349 = .ok (.iload 4, 2) := by decide +kernel
theorem dX0_run_351 : decode cX0_run 351 = .ok (.invokevirtual 39, 3) := by decide +kernel
theorem dX0_run_354 : decode cX0_run 354 = .ok (.bipush 8, 2) := by decide +kernel
theorem dX0_run_356 : decode cX0_run 356 = .ok (.ixor, 1) := by decide +kernel
theorem dX0_run_357 : decode cX0_run 357 = .ok (.ireturn, 1) := by decide +kernel
theorem dX0_run_358 : decode cX0_run 358 = .ok (.aload_n 0, 1) := by decide +kernel
theorem dX0_run_359 : decode cX0_run 359 = .ok (.bipush 11, 2) := by decide +kernel
theorem dX0_run_361 : decode cX0_run 361 = .ok (.iload_n 2, 1) := by decide +kernel
theorem dX0_run_362 : decode cX0_run 362 = .ok (.iload 4, 2) := by decide +kernel
theorem dX0_run_364 : decode cX0_run 364 = .ok (.invokevirtual 39, 3) := by decide +kernel
theorem dX0_run_367 : decode cX0_run 367 = .ok (.aload_n 0, 1) := by decide +kernel
theorem dX0_run_368 : decode cX0_run 368 = .ok (.iconst 0, 1) := by decide +kernel
theorem dX0_run_369 : decode cX0_run 369 = .ok (.aload_n 0, 1) := by decide +kernel
theorem dX0_run_370 : decode cX0_run 370 = .ok (.getfield 25, 3) := by decide +kernel
theorem dX0_run_373 : decode cX0_run 373 = .ok (.iload 4, 2) := by decide +kernel
theorem dX0_run_375 : decode cX0_run 375 = .ok (.invokevirtual 32, 3) := by decide +kernel
theorem dX0_run_378 : decode cX0_run 378 = .ok (.iadd, 1) := by decide +kernel
theorem dX0_run_379 : decode cX0_run 379 = .ok (.ireturn, 1) := by decide +kernel
theorem dX0_run_380 : decode cX0_run 380 = .ok (.aload_n 0, 1) := by decide +kernel
theorem dX0_run_381 : decode cX0_run 381 = .ok (.bipush 12, 2) := by decide +kernel
theorem dX0_run_383 : decode cX0_run 383 = .ok (.iload_n 2, 1) := by decide +kernel
theorem dX0_run_384 : decode cX0_run 384 = .ok (.aload_n 0, 1) := by decide +kernel
theorem dX0_run_385 : decode cX0_run 385 = .ok (.getfield 22, 3) := by decide +kernel
theorem dX0_run_388 : decode cX0_run 388 = .ok (.isub, 1) := by decide +kernel
theorem dX0_run_389 : decode cX0_run 389 = .ok (.iload 4, 2) := by decide +kernel
theorem dX0_run_391 : decode cX0_run 391 = .ok (.invokevirtual 39, 3) := by decide +kernel
theorem dX0_run_394 : decode cX0_run 394 = .ok (.iconst 3, 1) := by decide +kernel
theorem dX0_run_395 : decode cX0_run 395 = .ok (.imul, 1) := by decide +kernel
theorem dX0_run_396 : decode cX0_run 396 = .ok (.ireturn, 1) := by decide +kernel
theorem dX0_run_397 : decode cX0_run 397 = .ok (.aload_n 0, 1) := by decide +kernel
theorem dX0_run_398 : decode cX0_run 398 = .ok (.bipush 10, 2) := by decide +kernel
theorem dX0_run_400 : decode cX0_run 400 = .ok (.iload_n 2, 1) := by decide +kernel
theorem dX0_run_401 : decode cX0_run 401 = .ok (.iload 4, 2) := by decide +kernel
theorem dX0_run_403 : decode cX0_run 403 = .ok (.invokevirtual 39, 3) := by decide +kernel
theorem dX0_run_406 : decode cX0_run 406 = .ok (.iconst 1, 1) := by decide +kernel
theorem dX0_run_407 : decode cX0_run 407 = .ok (.iadd, 1) := by decide +kernel
theorem dX0_run_408 : decode cX0_run 408 = .ok (.ireturn, 1) := by decide +kernel
theorem dX0_run_409 : decode cX0_run 409 = .ok (.aload_n 0, 1) := by decide +kernel
theorem dX0_run_410 : decode cX0_run 410 = .ok (.bipush 13, 2) := by decide +kernel
theorem dX0_run_412 : decode cX0_run 412 = .ok (.iload_n 2, 1) := by decide +kernel
theorem dX0_run_413 : decode cX0_run 413 = .ok (.iload 4, 2) := by decide +kernel
theorem dX0_run_415 : decode cX0_run 415 = .ok (.invokevirtual 39, 3) := by decide +kernel
theorem dX0_run_418 : decode cX0_run 418 = .ok (.iconst 2, 1) := by decide +kernel
theorem dX0_run_419 : decode cX0_run 419 = .ok (.imul, 1) := by decide +kernel
theorem dX0_run_420 : decode cX0_run 420 = .ok (.ireturn, 1) := by decide +kernel
theorem dX0_run_421 : decode cX0_run 421 = .ok (.aload_n 0, 1) := by decide +kernel
theorem dX0_run_422 : decode cX0_run 422 = .ok (.bipush 12, 2) := by decide +kernel
theorem dX0_run_424 : decode cX0_run 424 = .ok (.iload_n 2, 1) := by decide +kernel
theorem dX0_run_425 : decode cX0_run 425 = .ok (.iload 4, 2) := by decide +kernel
theorem dX0_run_427 : decode cX0_run 427 = .ok (.invokevirtual 39, 3) := by decide +kernel
theorem dX0_run_430 : decode cX0_run 430 = .ok (.aload_n 0, 1) := by decide +kernel
theorem dX0_run_431 : decode cX0_run 431 = .ok (.iconst 0, 1) := by decide +kernel
theorem dX0_run_432 : decode cX0_run 432 = .ok (.aload_n 0, 1) := by decide +kernel
theorem dX0_run_433 : decode cX0_run 433 = .ok (.getfield 22, 3) := by decide +kernel
theorem dX0_run_436 : decode cX0_run 436 = .ok (.iload 4, 2) := by decide +kernel
theorem dX0_run_438 : decode cX0_run 438 = .ok (.invokevirtual 32, 3) := by decide +kernel
theorem dX0_run_441 : decode cX0_run 441 = .ok (.isub, 1) := by decide +kernel
theorem dX0_run_442 : decode cX0_run 442 = .ok (.ireturn, 1) := by decide +kernel
theorem dX0_run_443 : decode cX0_run 443 = .ok (.iconst 0, 1) := by decide +kernel
theorem dX0_run_444 : decode cX0_run 444 = .ok (.ireturn, 1) := by decide +kernel
theorem dX0_note_0 : decode cX0_note 0 = .ok (.aload_n 0, 1) := by decide +kernel
theorem dX0_note_1 : decode cX0_note 1 = .ok (.getfield 15, 3) := by decide +kernel
theorem dX0_note_4 : decode cX0_note 4 = .ok (.bipush 30, 2) := by decide +kernel
theorem dX0_note_6 : decode cX0_note 6 = .ok (.if_icmp .ge 23, 3) := by decide +kernel
theorem dX0_note_9 : decode cX0_note 9 = .ok (.aload_n 0, 1) := by decide +kernel
theorem dX0_note_10 : decode cX0_note 10 = .ok (.getfield 11, 3) := by decide +kernel
theorem dX0_note_13 : decode cX0_note 13 = .ok (.aload_n 0, 1) := by decide +kernel
theorem dX0_note_14 : decode cX0_note 14 = .ok (.getfield 15, 3) := by decide +kernel
theorem dX0_note_17 : decode cX0_note 17 = .ok (.iload_n 1, 1) := by decide +kernel
theorem dX0_note_18 : decode cX0_note 18 = .ok (.iastore, 1) := by decide +kernel
theorem dX0_note_19 : decode cX0_note 19 = .ok (.aload_n 0, 1) := by decide +kernel
theorem dX0_note_20 : decode cX0_note 20 = .ok (.dup, 1) := by decide +kernel
theorem dX0_note_21 : decode cX0_note 21 = .ok (.getfield 15, 3) := by decide +kernel
theorem dX0_note_24 : decode cX0_note 24 = .ok (.iconst 1, 1) := by decide +kernel
theorem dX0_note_25 : decode cX0_note 25 = .ok (.iadd, 1) := by decide +kernel
theorem dX0_note_26 : decode cX0_note 26 = .ok (.putfield 15, 3) := by decide +kernel
theorem dX0_note_29 : decode cX0_note 29 = .ok (.return_, 1) := by decide +kernel
theorem dX0_quotient_0 : decode cX0_quotient 0 = .ok (.iload_n 2, 1) := by decide +kernel
theorem dX0_quotient_1 : decode cX0_quotient 1 = .ok (.ifCond .ne 10, 3) := by decide +kernel
theorem dX0_quotient_4 : decode cX0_quotient 4 = .ok (.aload_n 0, 1) := by decide +kernel
theorem dX0_quotient_5 : decode cX0_quotient 5 = .ok (.iconst 1, 1) := by decide +kernel
theorem dX0_quotient_6 : decode cX0_quotient 6 = .ok (.putfield 28, 3) := by decide +kernel
theorem dX0_quotient_9 : decode cX0_quotient 9 = .ok (.iconst 0, 1) := by decide +kernel
theorem dX0_quotient_10 : decode cX0_quotient 10 = .ok (.ireturn, 1) := by decide +kernel
theorem dX0_quotient_11 : decode cX0_quotient 11 = .ok (.iload_n 1, 1) := by decide +kernel
theorem dX0_quotient_12 : decode cX0_quotient 12 = .ok (.iload_n 2, 1) := by decide +kernel
theorem dX0_quotient_13 : decode cX0_quotient 13 = .ok (.idiv, 1) := by decide +kernel
theorem dX0_quotient_14 : decode cX0_quotient 14 = .ok (.ireturn, 1) := by decide +kernel
theorem dX1_init_0 : decode cX1_init 0 = .ok (.aload_n 0, 1) := by decide +kernel
theorem dX1_init_1 : decode cX1_init 1 = .ok (.invokespecial 1, 3) := by decide +kernel
theorem dX1_init_4 : decode cX1_init 4 = .ok (.aload_n 0, 1) := by decide +kernel
theorem dX1_init_5 : decode cX1_init 5 = .ok (.bipush 10, 2) := by decide +kernel
theorem dX1_init_7 : decode cX1_init 7 = .ok (.iconst 3, 1) := by decide +kernel
theorem dX1_init_8 : decode cX1_init 8 = .ok (.multianewarray 9 2, 4) := by decide +kernel
theorem dX1_init_12 : decode cX1_init 12 = .ok (.putfield 11, 3) := by decide +kernel
theorem dX1_init_15 : decode cX1_init 15 = .ok (.aload_n 0, 1) := by decide +kernel
theorem dX1_init_16 : decode cX1_init 16 = .ok (.iconst 0, 1) := by decide +kernel
theorem dX1_init_17 : decode cX1_init 17 = .ok (.putfield 14, 3) := by decide +kernel
theorem dX1_init_20 : decode cX1_init 20 = .ok (.return_, 1) := by decide +kernel
theorem dX1_has_0 : decode cX1_has 0 = .ok (.iload_n 1, 1) := by decide +kernel
theorem dX1_has_1 : decode cX1_has 1 = .ok (.ifCond .lt 23, 3) := by decide +kernel
theorem dX1_has_4 : decode cX1_has 4 = .ok (.iload_n 1, 1) := by decide +kernel
theorem dX1_has_5 : decode cX1_has 5 = .ok (.aload_n 0, 1) := by decide +kernel
theorem dX1_has_6 : decode cX1_has 6 = .ok (.getfield 14, 3) := by decide +kernel
theorem dX1_has_9 : decode cX1_has 9 = .ok (.if_icmp .ge 15, 3) := by decide +kernel
theorem dX1_has_12 : decode cX1_has 12 = .ok (.iload_n 2, 1) := by decide +kernel
theorem dX1_has_13 : decode cX1_has 13 = .ok (.iconst 2, 1) := by decide +kernel
theorem dX1_has_14 : decode cX1_has 14 = .ok (.invokestatic 18, 3) := by decide +kernel
theorem dX1_has_17 : decode cX1_has 17 = .ok (.ifCond .eq 7, 3) := by decide +kernel
theorem dX1_has_20 : decode cX1_has 20 = .ok (.iconst 1, 1) := by decide +kernel
theorem dX1_has_21 : decode cX1_has 21 = .ok (.goto 4, 3) := by decide +kernel
theorem dX1_has_24 : decode cX1_has 24 = .ok (.iconst 0, 1) := by decide +kernel
theorem dX1_has_25 : decode cX1_has 25 = .ok (.ireturn, 1) := by decide +kernel
theorem dX1_write_0 : decode cX1_write 0 = .ok (.aload_n 0, 1) := by decide +kernel
theorem dX1_write_1 : decode cX1_write 1 = .ok (.getfield 11, 3) := by decide +kernel
theorem dX1_write_4 : decode cX1_write 4 = .ok (.iload_n 1, 1) := by decide +kernel
theorem dX1_write_5 : decode cX1_write 5 = .ok (.aaload, 1) := by decide +kernel
theorem dX1_write_6 : decode cX1_write 6 = .ok (.iconst 0, 1) := by decide +kernel
theorem dX1_write_7 : decode cX1_write 7 = .ok (.iload_n 2, 1) := by decide +kernel
theorem dX1_write_8 : decode cX1_write 8 = .ok (.iastore, 1) := by decide +kernel
theorem dX1_write_9 : decode cX1_write 9 = .ok (.aload_n 0, 1) := by decide +kernel
theorem dX1_write_10 : decode cX1_write 10 = .ok (.getfield 11, 3) := by decide +kernel
theorem dX1_write_13 : decode cX1_write 13 = .ok (.iload_n 1, 1) := by decide +kernel
theorem dX1_write_14 : decode cX1_write 14 = .ok (.aaload, 1) := by decide +kernel
theorem dX1_write_15 : decode cX1_write 15 = .ok (.iconst 1, 1) := by decide +kernel
theorem dX1_write_16 : decode cX1_write 16 = .ok (.iload_n 3, 1) := by decide +kernel
theorem dX1_write_17 : decode cX1_write 17 = .ok (.iastore, 1) := by decide +kernel
theorem dX1_write_18 : decode cX1_write 18 = .ok (.aload_n 0, 1) := by decide +kernel
theorem dX1_write_19 : decode cX1_write 19 = .ok (.getfield 11, 3) := by decide +kernel
theorem dX1_write_22 : decode cX1_write 22 = .ok (.iload_n 1, 1) := by decide +kernel
theorem dX1_write_23 : decode cX1_write 23 = .ok (.aaload, 1) := by decide +kernel
theorem dX1_write_24 : decode cX1_write 24 = .ok (.iconst 2, 1) := by decide +kernel
theorem dX1_write_25 : decode cX1_write 25 = .ok (.iload 4, 2) := by decide +kernel
theorem dX1_write_27 : decode cX1_write 27 = .ok (.iastore, 1) := by decide +kernel
theorem dX1_write_28 : decode cX1_write 28 = .ok (.return_, 1) := by decide +kernel
theorem dX1_reads_0 : decode cX1_reads 0 = .ok (.aload_n 0, 1) := by decide +kernel
theorem dX1_reads_1 : decode cX1_reads 1 = .ok (.getfield 11, 3) := by decide +kernel
theorem dX1_reads_4 : decode cX1_reads 4 = .ok (.iload_n 1, 1) := by decide +kernel
theorem dX1_reads_5 : decode cX1_reads 5 = .ok (.aaload, 1) := by decide +kernel
theorem dX1_reads_6 : decode cX1_reads 6 = .ok (.iconst 0, 1) := by decide +kernel
theorem dX1_reads_7 : decode cX1_reads 7 = .ok (.iaload, 1) := by decide +kernel
theorem dX1_reads_8 : decode cX1_reads 8 = .ok (.iload_n 2, 1) := by decide +kernel
theorem dX1_reads_9 : decode cX1_reads 9 = .ok (.if_icmp .ne 32, 3) := by decide +kernel
theorem dX1_reads_12 : decode cX1_reads 12 = .ok (.aload_n 0, 1) := by decide +kernel
theorem dX1_reads_13 : decode cX1_reads 13 = .ok (.getfield 11, 3) := by decide +kernel
theorem dX1_reads_16 : decode cX1_reads 16 = .ok (.iload_n 1, 1) := by decide +kernel
theorem dX1_reads_17 : decode cX1_reads 17 = .ok (.aaload, 1) := by decide +kernel
theorem dX1_reads_18 : decode cX1_reads 18 = .ok (.iconst 1, 1) := by decide +kernel
theorem dX1_reads_19 : decode cX1_reads 19 = .ok (.iaload, 1) := by decide +kernel
theorem dX1_reads_20 : decode cX1_reads 20 = .ok (.iload_n 3, 1) := by decide +kernel
theorem dX1_reads_21 : decode cX1_reads 21 = .ok (.if_icmp .ne 20, 3) := by decide +kernel
theorem dX1_reads_24 : decode cX1_reads 24 = .ok (.aload_n 0, 1) := by decide +kernel
theorem dX1_reads_25 : decode cX1_reads 25 = .ok (.getfield 11, 3) := by decide +kernel
theorem dX1_reads_28 : decode cX1_reads 28 = .ok (.iload_n 1, 1) := by decide +kernel
theorem dX1_reads_29 : decode cX1_reads 29 = .ok (.aaload, 1) := by decide +kernel
theorem dX1_reads_30 : decode cX1_reads 30 = .ok (.iconst 2, 1) := by decide +kernel
theorem dX1_reads_31 : decode cX1_reads 31 = .ok (.iaload, 1) := by decide +kernel
theorem dX1_reads_32 : decode cX1_reads 32 = .ok (.iload 4, 2) := by decide +kernel
theorem dX1_reads_34 : decode cX1_reads 34 = .ok (.if_icmp .ne 7, 3) := by decide +kernel
theorem dX1_reads_37 : decode cX1_reads 37 = .ok (.iconst 1, 1) := by decide +kernel
theorem dX1_reads_38 : decode cX1_reads 38 = .ok (.goto 4, 3) := by decide +kernel
theorem dX1_reads_41 : decode cX1_reads 41 = .ok (.iconst 0, 1) := by decide +kernel
theorem dX1_reads_42 : decode cX1_reads 42 = .ok (.ireturn, 1) := by decide +kernel
theorem dX2_init_0 : decode cX2_init 0 = .ok (.aload_n 0, 1) := by decide +kernel
theorem dX2_init_1 : decode cX2_init 1 = .ok (.invokespecial 3, 3) := by decide +kernel
theorem dX2_init_4 : decode cX2_init 4 = .ok (.aload_n 0, 1) := by decide +kernel
theorem dX2_init_5 : decode cX2_init 5 = .ok (.bipush 40, 2) := by decide +kernel
theorem dX2_init_7 : decode cX2_init 7 = .ok (.newarray .int, 2) := by decide +kernel
theorem dX2_init_9 : decode cX2_init 9 = .ok (.putfield 9, 3) := by decide +kernel
theorem dX2_init_12 : decode cX2_init 12 = .ok (.aload_n 0, 1) := by decide +kernel
theorem dX2_init_13 : decode cX2_init 13 = .ok (.iconst (-1), 1) := by decide +kernel
theorem dX2_init_14 : decode cX2_init 14 = .ok (.putfield 15, 3) := by decide +kernel
theorem dX2_init_17 : decode cX2_init 17 = .ok (.aload_n 0, 1) := by decide +kernel
theorem dX2_init_18 : decode cX2_init 18 = .ok (.iconst 0, 1) := by decide +kernel
theorem dX2_init_19 : decode cX2_init 19 = .ok (.putfield 19, 3) := by decide +kernel
theorem dX2_init_22 : decode cX2_init 22 = .ok (.return_, 1) := by decide +kernel
theorem dX2_lose_0 : decode cX2_lose 0 = .ok (.aload_n 0, 1) := by decide +kernel
theorem dX2_lose_1 : decode cX2_lose 1 = .ok (.iconst (-1), 1) := by decide +kernel
theorem dX2_lose_2 : decode cX2_lose 2 = .ok (.putfield 15, 3) := by decide +kernel
theorem dX2_lose_5 : decode cX2_lose 5 = .ok (.aload_n 0, 1) := by decide +kernel
theorem dX2_lose_6 : decode cX2_lose 6 = .ok (.iconst 0, 1) := by decide +kernel
theorem dX2_lose_7 : decode cX2_lose 7 = .ok (.putfield 19, 3) := by decide +kernel
theorem dX2_lose_10 : decode cX2_lose 10 = .ok (.return_, 1) := by decide +kernel
theorem dX2_begin_0 : decode cX2_begin 0 = .ok (.aload_n 0, 1) := by decide +kernel
theorem dX2_begin_1 : decode cX2_begin 1 = .ok (.iload_n 1, 1) := by decide +kernel
theorem dX2_begin_2 : decode cX2_begin 2 = .ok (.putfield 15, 3) := by decide +kernel
theorem dX2_begin_5 : decode cX2_begin 5 = .ok (.aload_n 0, 1) := by decide +kernel
theorem dX2_begin_6 : decode cX2_begin 6 = .ok (.iload_n 2, 1) := by decide +kernel
theorem dX2_begin_7 : decode cX2_begin 7 = .ok (.putfield 19, 3) := by decide +kernel
theorem dX2_begin_10 : decode cX2_begin 10 = .ok (.iconst 0, 1) := by decide +kernel
theorem dX2_begin_11 : decode cX2_begin 11 = .ok (.istore_n 3, 1) := by decide +kernel
theorem dX2_begin_12 : decode cX2_begin 12 = .ok (.iload_n 3, 1) := by decide +kernel
theorem dX2_begin_13 : decode cX2_begin 13 = .ok (.bipush 40, 2) := by decide +kernel
theorem dX2_begin_15 : decode cX2_begin 15 = .ok (.if_icmp .ge 16, 3) := by decide +kernel
theorem dX2_begin_18 : decode cX2_begin 18 = .ok (.aload_n 0, 1) := by decide +kernel
theorem dX2_begin_19 : decode cX2_begin 19 = .ok (.getfield 9, 3) := by decide +kernel
theorem dX2_begin_22 : decode cX2_begin 22 = .ok (.iload_n 3, 1) := by decide +kernel
theorem dX2_begin_23 : decode cX2_begin 23 = .ok (.iconst 0, 1) := by decide +kernel
theorem dX2_begin_24 : decode cX2_begin 24 = .ok (.iastore, 1) := by decide +kernel
theorem dX2_begin_25 : decode cX2_begin 25 = .ok (.iinc 3 1, 3) := by decide +kernel
theorem dX2_begin_28 : decode cX2_begin 28 = .ok (.goto (-16), 3) := by decide +kernel
theorem dX2_begin_31 : decode cX2_begin 31 = .ok (.return_, 1) := by decide +kernel
theorem dX2_has_0 : decode cX2_has 0 = .ok (.iload_n 1, 1) := by decide +kernel
theorem dX2_has_1 : decode cX2_has 1 = .ok (.ifCond .lt 15, 3) := by decide +kernel
theorem dX2_has_4 : decode cX2_has 4 = .ok (.iload_n 1, 1) := by decide +kernel
theorem dX2_has_5 : decode cX2_has 5 = .ok (.aload_n 0, 1) := by decide +kernel
theorem dX2_has_6 : decode cX2_has 6 = .ok (.getfield 19, 3) := by decide +kernel
theorem dX2_has_9 : decode cX2_has 9 = .ok (.if_icmp .ge 7, 3) := by decide +kernel
theorem dX2_has_12 : decode cX2_has 12 = .ok (.iconst 1, 1) := by decide +kernel
theorem dX2_has_13 : decode cX2_has 13 = .ok (.goto 4, 3) := by decide +kernel
theorem dX2_has_16 : decode cX2_has 16 = .ok (.iconst 0, 1) := by decide +kernel
theorem dX2_has_17 : decode cX2_has 17 = .ok (.ireturn, 1) := by decide +kernel
theorem dX2_narrowed_0 : decode cX2_narrowed 0 = .ok (.aload_n 0, 1) := by decide +kernel
theorem dX2_narrowed_1 : decode cX2_narrowed 1 = .ok (.getfield 15, 3) := by decide +kernel
theorem dX2_narrowed_4 : decode cX2_narrowed 4 = .ok (.lookupswitch 34 #[(0, 28), (1, 31)], 28) := by decide +kernel
theorem dX2_narrowed_32 : decode cX2_narrowed 32 = .ok (.iload_n 1, 1) := by decide +kernel
theorem dX2_narrowed_33 : decode cX2_narrowed 33 = .ok (.i2b, 1) := by decide +kernel
theorem dX2_narrowed_34 : decode cX2_narrowed 34 = .ok (.ireturn, 1) := by decide +kernel
theorem dX2_narrowed_35 : decode cX2_narrowed 35 = .ok (.iload_n 1, 1) := by decide +kernel
theorem dX2_narrowed_36 : decode cX2_narrowed 36 = .ok (.i2s, 1) := by decide +kernel
theorem dX2_narrowed_37 : decode cX2_narrowed 37 = .ok (.ireturn, 1) := by decide +kernel
theorem dX2_narrowed_38 : decode cX2_narrowed 38 = .ok (.iload_n 1, 1) := by decide +kernel
theorem dX2_narrowed_39 : decode cX2_narrowed 39 = .ok (.ireturn, 1) := by decide +kernel
theorem dX3_init_0 : decode cX3_init 0 = .ok (.aload_n 0, 1) := by decide +kernel
theorem dX3_init_1 : decode cX3_init 1 = .ok (.invokespecial 3, 3) := by decide +kernel
theorem dX3_init_4 : decode cX3_init 4 = .ok (.aload_n 0, 1) := by decide +kernel
theorem dX3_init_5 : decode cX3_init 5 = .ok (.iconst 2, 1) := by decide +kernel
theorem dX3_init_6 : decode cX3_init 6 = .ok (.putfield 9, 3) := by decide +kernel
theorem dX3_init_9 : decode cX3_init 9 = .ok (.aload_n 0, 1) := by decide +kernel
theorem dX3_init_10 : decode cX3_init 10 = .ok (.iconst 0, 1) := by decide +kernel
theorem dX3_init_11 : decode cX3_init 11 = .ok (.putfield 15, 3) := by decide +kernel
theorem dX3_init_14 : decode cX3_init 14 = .ok (.aload_n 0, 1) := by decide +kernel
theorem dX3_init_15 : decode cX3_init 15 = .ok (.iconst (-1), 1) := by decide +kernel
theorem dX3_init_16 : decode cX3_init 16 = .ok (.putfield 18, 3) := by decide +kernel
theorem dX3_init_19 : decode cX3_init 19 = .ok (.aload_n 0, 1) := by decide +kernel
theorem dX3_init_20 : decode cX3_init 20 = .ok (.iconst 0, 1) := by decide +kernel
theorem dX3_init_21 : decode cX3_init 21 = .ok (.putfield 21, 3) := by decide +kernel
theorem dX3_init_24 : decode cX3_init 24 = .ok (.return_, 1) := by decide +kernel
theorem dX3_holdPerson_0 : decode cX3_holdPerson 0 = .ok (.aload_n 0, 1) := by decide +kernel
theorem dX3_holdPerson_1 : decode cX3_holdPerson 1 = .ok (.iconst 0, 1) := by decide +kernel
theorem dX3_holdPerson_2 : decode cX3_holdPerson 2 = .ok (.putfield 9, 3) := by decide +kernel
theorem dX3_holdPerson_5 : decode cX3_holdPerson 5 = .ok (.aload_n 0, 1) := by decide +kernel
theorem dX3_holdPerson_6 : decode cX3_holdPerson 6 = .ok (.iload_n 1, 1) := by decide +kernel
theorem dX3_holdPerson_7 : decode cX3_holdPerson 7 = .ok (.putfield 15, 3) := by decide +kernel
theorem dX3_holdPerson_10 : decode cX3_holdPerson 10 = .ok (.return_, 1) := by decide +kernel
theorem dX3_holdRow_0 : decode cX3_holdRow 0 = .ok (.aload_n 0, 1) := by decide +kernel
theorem dX3_holdRow_1 : decode cX3_holdRow 1 = .ok (.aload_n 1, 1) := by decide +kernel
theorem dX3_holdRow_2 : decode cX3_holdRow 2 = .ok (.getfield 24, 3) := by decide +kernel
theorem dX3_holdRow_5 : decode cX3_holdRow 5 = .ok (.iconst (-1), 1) := by decide +kernel
theorem dX3_holdRow_6 : decode cX3_holdRow 6 = .ok (.if_icmp .ne 7, 3) := by decide +kernel
theorem dX3_holdRow_9 : decode cX3_holdRow 9 = .ok (.iconst 2, 1) := by decide +kernel
theorem dX3_holdRow_10 : decode cX3_holdRow 10 = .ok (.goto 4, 3) := by decide +kernel
theorem dX3_holdRow_13 : decode cX3_holdRow 13 = .ok (.iconst 1, 1) := by decide +kernel
theorem dX3_holdRow_14 : decode cX3_holdRow 14 = .ok (.putfield 9, 3) := by decide +kernel
theorem dX3_holdRow_17 : decode cX3_holdRow 17 = .ok (.aload_n 0, 1) := by decide +kernel
theorem dX3_holdRow_18 : decode cX3_holdRow 18 = .ok (.aload_n 1, 1) := by decide +kernel
theorem dX3_holdRow_19 : decode cX3_holdRow 19 = .ok (.getfield 24, 3) := by decide +kernel
theorem dX3_holdRow_22 : decode cX3_holdRow 22 = .ok (.putfield 18, 3) := by decide +kernel
theorem dX3_holdRow_25 : decode cX3_holdRow 25 = .ok (.aload_n 0, 1) := by decide +kernel
theorem dX3_holdRow_26 : decode cX3_holdRow 26 = .ok (.aload_n 1, 1) := by decide +kernel
theorem dX3_holdRow_27 : decode cX3_holdRow 27 = .ok (.getfield 27, 3) := by decide +kernel
theorem dX3_holdRow_30 : decode cX3_holdRow 30 = .ok (.putfield 21, 3) := by decide +kernel
theorem dX3_holdRow_33 : decode cX3_holdRow 33 = .ok (.return_, 1) := by decide +kernel
theorem dX4_init_0 : decode cX4_init 0 = .ok (.aload_n 0, 1) := by decide +kernel
theorem dX4_init_1 : decode cX4_init 1 = .ok (.invokespecial 3, 3) := by decide +kernel
theorem dX4_init_4 : decode cX4_init 4 = .ok (.aload_n 0, 1) := by decide +kernel
theorem dX4_init_5 : decode cX4_init 5 = .ok (.sipush 200, 3) := by decide +kernel
theorem dX4_init_8 : decode cX4_init 8 = .ok (.newarray .byte, 2) := by decide +kernel
theorem dX4_init_10 : decode cX4_init 10 = .ok (.putfield 11, 3) := by decide +kernel
theorem dX4_init_13 : decode cX4_init 13 = .ok (.aload_n 0, 1) := by decide +kernel
theorem dX4_init_14 : decode cX4_init 14 = .ok (.iconst 0, 1) := by decide +kernel
theorem dX4_init_15 : decode cX4_init 15 = .ok (.putfield 15, 3) := by decide +kernel
theorem dX4_init_18 : decode cX4_init 18 = .ok (.aload_n 0, 1) := by decide +kernel
theorem dX4_init_19 : decode cX4_init 19 = .ok (.iconst 0, 1) := by decide +kernel
theorem dX4_init_20 : decode cX4_init 20 = .ok (.putfield 19, 3) := by decide +kernel
theorem dX4_init_23 : decode cX4_init 23 = .ok (.aload_n 0, 1) := by decide +kernel
theorem dX4_init_24 : decode cX4_init 24 = .ok (.iconst 0, 1) := by decide +kernel
theorem dX4_init_25 : decode cX4_init 25 = .ok (.putfield 22, 3) := by decide +kernel
theorem dX4_init_28 : decode cX4_init 28 = .ok (.aload_n 0, 1) := by decide +kernel
theorem dX4_init_29 : decode cX4_init 29 = .ok (.iconst 0, 1) := by decide +kernel
theorem dX4_init_30 : decode cX4_init 30 = .ok (.putfield 25, 3) := by decide +kernel
theorem dX4_init_33 : decode cX4_init 33 = .ok (.aload_n 0, 1) := by decide +kernel
theorem dX4_init_34 : decode cX4_init 34 = .ok (.iconst 0, 1) := by decide +kernel
theorem dX4_init_35 : decode cX4_init 35 = .ok (.putfield 28, 3) := by decide +kernel
theorem dX4_init_38 : decode cX4_init 38 = .ok (.aload_n 0, 1) := by decide +kernel
theorem dX4_init_39 : decode cX4_init 39 = .ok (.iconst 0, 1) := by decide +kernel
theorem dX4_init_40 : decode cX4_init 40 = .ok (.putfield 31, 3) := by decide +kernel
theorem dX4_init_43 : decode cX4_init 43 = .ok (.return_, 1) := by decide +kernel
theorem dX4_takeBytes_0 : decode cX4_takeBytes 0 = .ok (.aload_n 0, 1) := by decide +kernel
theorem dX4_takeBytes_1 : decode cX4_takeBytes 1 = .ok (.getfield 15, 3) := by decide +kernel
theorem dX4_takeBytes_4 : decode cX4_takeBytes 4 = .ok (.iload_n 3, 1) := by decide +kernel
theorem dX4_takeBytes_5 : decode cX4_takeBytes 5 = .ok (.iadd, 1) := by decide +kernel
theorem dX4_takeBytes_6 : decode cX4_takeBytes 6 = .ok (.sipush 200, 3) := by decide +kernel
theorem dX4_takeBytes_9 : decode cX4_takeBytes 9 = .ok (.if_icmp .le 6, 3) := by decide +kernel
theorem dX4_takeBytes_12 : decode cX4_takeBytes 12 = .ok (.bipush (-2), 2) := by decide +kernel
theorem dX4_takeBytes_14 : decode cX4_takeBytes 14 = .ok (.ireturn, 1) := by decide +kernel
theorem dX4_takeBytes_15 : decode cX4_takeBytes 15 = .ok (.iconst 0, 1) := by decide +kernel
theorem dX4_takeBytes_16 : decode cX4_takeBytes 16 = .ok (.istore 4, 2) := by decide +kernel
theorem dX4_takeBytes_18 : decode cX4_takeBytes 18 = .ok (.iload 4, 2) := by decide +kernel
theorem dX4_takeBytes_20 : decode cX4_takeBytes 20 = .ok (.iload_n 3, 1) := by decide +kernel
theorem dX4_takeBytes_21 : decode cX4_takeBytes 21 = .ok (.if_icmp .ge 30, 3) := by decide +kernel
theorem dX4_takeBytes_24 : decode cX4_takeBytes 24 = .ok (.aload_n 0, 1) := by decide +kernel
theorem dX4_takeBytes_25 : decode cX4_takeBytes 25 = .ok (.getfield 11, 3) := by decide +kernel
theorem dX4_takeBytes_28 : decode cX4_takeBytes 28 = .ok (.aload_n 0, 1) := by decide +kernel
theorem dX4_takeBytes_29 : decode cX4_takeBytes 29 = .ok (.getfield 15, 3) := by decide +kernel
theorem dX4_takeBytes_32 : decode cX4_takeBytes 32 = .ok (.iload 4, 2) := by decide +kernel
theorem dX4_takeBytes_34 : decode cX4_takeBytes 34 = .ok (.iadd, 1) := by decide +kernel
theorem dX4_takeBytes_35 : decode cX4_takeBytes 35 = .ok (.lload_n 1, 1) := by decide +kernel
theorem dX4_takeBytes_36 : decode cX4_takeBytes 36 = .ok (.bipush 8, 2) := by decide +kernel
theorem dX4_takeBytes_38 : decode cX4_takeBytes 38 = .ok (.iload 4, 2) := by decide +kernel
theorem dX4_takeBytes_40 : decode cX4_takeBytes 40 = .ok (.imul, 1) := by decide +kernel
theorem dX4_takeBytes_41 : decode cX4_takeBytes 41 = .ok (.lushr, 1) := by decide +kernel
theorem dX4_takeBytes_42 : decode cX4_takeBytes 42 = .ok (.l2i, 1) := by decide +kernel
theorem dX4_takeBytes_43 : decode cX4_takeBytes 43 = .ok (.i2b, 1) := by decide +kernel
theorem dX4_takeBytes_44 : decode cX4_takeBytes 44 = .ok (.bastore, 1) := by decide +kernel
theorem dX4_takeBytes_45 : decode cX4_takeBytes 45 = .ok (.iinc 4 1, 3) := by decide +kernel
theorem dX4_takeBytes_48 : decode cX4_takeBytes 48 = .ok (.goto (-30), 3) := by decide +kernel
theorem dX4_takeBytes_51 : decode cX4_takeBytes 51 = .ok (.aload_n 0, 1) := by decide +kernel
theorem dX4_takeBytes_52 : decode cX4_takeBytes 52 = .ok (.dup, 1) := by decide +kernel
theorem dX4_takeBytes_53 : decode cX4_takeBytes 53 = .ok (.getfield 15, 3) := by decide +kernel
theorem dX4_takeBytes_56 : decode cX4_takeBytes 56 = .ok (.iload_n 3, 1) := by decide +kernel
theorem dX4_takeBytes_57 : decode cX4_takeBytes 57 = .ok (.iadd, 1) := by decide +kernel
theorem dX4_takeBytes_58 : decode cX4_takeBytes 58 = .ok (.putfield 15, 3) := by decide +kernel
theorem dX4_takeBytes_61 : decode cX4_takeBytes 61 = .ok (.aload_n 0, 1) := by decide +kernel
theorem dX4_takeBytes_62 : decode cX4_takeBytes 62 = .ok (.getfield 15, 3) := by decide +kernel
theorem dX4_takeBytes_65 : decode cX4_takeBytes 65 = .ok (.ireturn, 1) := by decide +kernel
theorem dX4_tell_0 : decode cX4_tell 0 = .ok (.iconst 1, 1) := by decide +kernel
theorem dX4_tell_1 : decode cX4_tell 1 = .ok (.istore_n 2, 1) := by decide +kernel
theorem dX4_tell_2 : decode cX4_tell 2 = .ok (.aload_n 0, 1) := by decide +kernel
theorem dX4_tell_3 : decode cX4_tell 3 = .ok (.iconst 0, 1) := by decide +kernel
theorem dX4_tell_4 : decode cX4_tell 4 = .ok (.putfield 19, 3) := by decide +kernel
theorem dX4_tell_7 : decode cX4_tell 7 = .ok (.aload_n 0, 1) := by decide +kernel
theorem dX4_tell_8 : decode cX4_tell 8 = .ok (.invokevirtual 34, 3) := by decide +kernel
theorem dX4_tell_11 : decode cX4_tell 11 = .ok (.iconst 0, 1) := by decide +kernel
theorem dX4_tell_12 : decode cX4_tell 12 = .ok (.istore_n 3, 1) := by decide +kernel
theorem dX4_tell_13 : decode cX4_tell 13 = .ok (.iload_n 3, 1) := by decide +kernel
theorem dX4_tell_14 : decode cX4_tell 14 = .ok (.sipush 200, 3) := by decide +kernel
theorem dX4_tell_17 : decode cX4_tell 17 = .ok (.if_icmp .ge 100, 3) := by decide +kernel
theorem dX4_tell_20 : decode cX4_tell 20 = .ok (.iload_n 2, 1) := by decide +kernel
theorem dX4_tell_21 : decode cX4_tell 21 = .ok (.ifCond .eq 96, 3) := by decide +kernel
theorem dX4_tell_24 : decode cX4_tell 24 = .ok (.aload_n 0, 1) := by decide +kernel
theorem dX4_tell_25 : decode cX4_tell 25 = .ok (.getfield 25, 3) := by decide +kernel
theorem dX4_tell_28 : decode cX4_tell 28 = .ok (.ifCond .eq 89, 3) := by decide +kernel
theorem dX4_tell_31 : decode cX4_tell 31 = .ok (.aload_n 0, 1) := by decide +kernel
theorem dX4_tell_32 : decode cX4_tell 32 = .ok (.iconst 0, 1) := by decide +kernel
theorem dX4_tell_33 : decode cX4_tell 33 = .ok (.bipush 6, 2) := by decide +kernel
theorem dX4_tell_35 : decode cX4_tell 35 = .ok (.invokevirtual 37, 3) := by decide +kernel
theorem dX4_tell_38 : decode cX4_tell 38 = .ok (.ifCond .eq 18, 3) := by decide +kernel
theorem dX4_tell_41 : decode cX4_tell 41 = .ok (.aload_n 0, 1) := by decide +kernel
theorem dX4_tell_42 : decode cX4_tell 42 = .ok (.aload_n 1, 1) := by decide +kernel
theorem dX4_tell_43 : decode cX4_tell 43 = .ok (.aload_n 0, 1) := by decide +kernel
theorem dX4_tell_44 : decode cX4_tell 44 = .ok (.getfield 28, 3) := by decide +kernel
theorem dX4_tell_47 : decode cX4_tell 47 = .ok (.iconst 0, 1) := by decide +kernel
theorem dX4_tell_48 : decode cX4_tell 48 = .ok (.isub, 1) := by decide +kernel
theorem dX4_tell_49 : decode cX4_tell 49 = .ok (.invokevirtual 41, 3) := by decide +kernel
theorem dX4_tell_52 : decode cX4_tell 52 = .ok (.istore_n 2, 1) := by decide +kernel
theorem dX4_tell_53 : decode cX4_tell 53 = .ok (.goto 58, 3) := by decide +kernel
theorem dX4_tell_56 : decode cX4_tell 56 = .ok (.aload_n 0, 1) := by decide +kernel
theorem dX4_tell_57 : decode cX4_tell 57 = .ok (.bipush 6, 2) := by decide +kernel
theorem dX4_tell_59 : decode cX4_tell 59 = .ok (.bipush 6, 2) := by decide +kernel
theorem dX4_tell_61 : decode cX4_tell 61 = .ok (.invokevirtual 37, 3) := by decide +kernel
theorem dX4_tell_64 : decode cX4_tell 64 = .ok (.ifCond .eq 19, 3) := by decide +kernel
theorem dX4_tell_67 : decode cX4_tell 67 = .ok (.aload_n 0, 1) := by decide +kernel
theorem dX4_tell_68 : decode cX4_tell 68 = .ok (.aload_n 1, 1) := by decide +kernel
theorem dX4_tell_69 : decode cX4_tell 69 = .ok (.aload_n 0, 1) := by decide +kernel
theorem dX4_tell_70 : decode cX4_tell 70 = .ok (.getfield 28, 3) := by decide +kernel
theorem dX4_tell_73 : decode cX4_tell 73 = .ok (.bipush 6, 2) := by decide +kernel
theorem dX4_tell_75 : decode cX4_tell 75 = .ok (.isub, 1) := by decide +kernel
theorem dX4_tell_76 : decode cX4_tell 76 = .ok (.invokevirtual 45, 3) := by decide +kernel
theorem dX4_tell_79 : decode cX4_tell 79 = .ok (.istore_n 2, 1) := by decide +kernel
theorem dX4_tell_80 : decode cX4_tell 80 = .ok (.goto 31, 3) := by decide +kernel
theorem dX4_tell_83 : decode cX4_tell 83 = .ok (.aload_n 0, 1) := by decide +kernel
theorem dX4_tell_84 : decode cX4_tell 84 = .ok (.bipush 12, 2) := by decide +kernel
theorem dX4_tell_86 : decode cX4_tell 86 = .ok (.iconst 4, 1) := by decide +kernel
theorem dX4_tell_87 : decode cX4_tell 87 = .ok (.invokevirtual 37, 3) := by decide +kernel
theorem dX4_tell_90 : decode cX4_tell 90 = .ok (.ifCond .eq 19, 3) := by decide +kernel
theorem dX4_tell_93 : decode cX4_tell 93 = .ok (.aload_n 0, 1) := by decide +kernel
theorem dX4_tell_94 : decode cX4_tell 94 = .ok (.aload_n 1, 1) := by decide +kernel
theorem dX4_tell_95 : decode cX4_tell 95 = .ok (.aload_n 0, 1) := by decide +kernel
theorem dX4_tell_96 : decode cX4_tell 96 = .ok (.getfield 28, 3) := by decide +kernel
theorem dX4_tell_99 : decode cX4_tell 99 = .ok (.bipush 12, 2) := by decide +kernel
theorem dX4_tell_101 : decode cX4_tell 101 = .ok (.isub, 1) := by decide +kernel
theorem dX4_tell_102 : decode cX4_tell 102 = .ok (.invokevirtual 48, 3) := by decide +kernel
theorem dX4_tell_105 : decode cX4_tell 105 = .ok (.istore_n 2, 1) := by decide +kernel
theorem dX4_tell_106 : decode cX4_tell 106 = .ok (.goto 5, 3) := by decide +kernel
theorem dX4_tell_109 : decode cX4_tell 109 = .ok (.iconst 0, 1) := by decide +kernel
theorem dX4_tell_110 : decode cX4_tell 110 = .ok (.istore_n 2, 1) := by decide +kernel
theorem dX4_tell_111 : decode cX4_tell 111 = .ok (.iinc 3 1, 3) := by decide +kernel
theorem dX4_tell_114 : decode cX4_tell 114 = .ok (.goto (-101), 3) := by decide +kernel
theorem dX4_tell_117 : decode cX4_tell 117 = .ok (.iload_n 2, 1) := by decide +kernel
theorem dX4_tell_118 : decode cX4_tell 118 = .ok (.ifCond .eq 7, 3) := by decide +kernel
theorem dX4_tell_121 : decode cX4_tell 121 = .ok (.iconst (-1), 1) := by decide +kernel
theorem dX4_tell_122 : decode cX4_tell 122 = .ok (.goto 7, 3) := by decide +kernel
theorem dX4_tell_125 : decode cX4_tell 125 = .ok (.aload_n 0, 1) := by decide +kernel
theorem dX4_tell_126 : decode cX4_tell 126 = .ok (.getfield 22, 3) := by decide +kernel
theorem dX4_tell_129 : decode cX4_tell 129 = .ok (.ireturn, 1) := by decide +kernel
theorem dX4_tellPerson_0 : decode cX4_tellPerson 0 = .ok (.aload_n 1, 1) := by decide +kernel
theorem dX4_tellPerson_1 : decode cX4_tellPerson 1 = .ok (.getfield 51, 3) := by decide +kernel
theorem dX4_tellPerson_4 : decode cX4_tellPerson 4 = .ok (.bipush 8, 2) := by decide +kernel
theorem dX4_tellPerson_6 : decode cX4_tellPerson 6 = .ok (.if_icmp .lt 5, 3) := by decide +kernel
theorem dX4_tellPerson_9 : decode cX4_tellPerson 9 = .ok (.iconst 0, 1) := by decide +kernel
theorem dX4_tellPerson_10 : decode cX4_tellPerson 10 = .ok (.ireturn, 1) := by decide +kernel
theorem dX4_tellPerson_11 : decode cX4_tellPerson 11 = .ok (.aload_n 0, 1) := by decide +kernel
theorem dX4_tellPerson_12 : decode cX4_tellPerson 12 = .ok (.invokevirtual 34, 3) := by decide +kernel
theorem dX4_tellPerson_15 : decode cX4_tellPerson 15 = .ok (.aload_n 0, 1) := by decide +kernel
theorem dX4_tellPerson_16 : decode cX4_tellPerson 16 = .ok (.bipush 16, 2) := by decide +kernel
theorem dX4_tellPerson_18 : decode cX4_tellPerson 18 = .ok (.invokevirtual 56, 3) := by decide +kernel
theorem dX4_tellPerson_21 : decode cX4_tellPerson 21 = .ok (.ifCond .eq 12, 3) := by decide +kernel
theorem dX4_tellPerson_24 : decode cX4_tellPerson 24 = .ok (.aload_n 0, 1) := by decide +kernel
theorem dX4_tellPerson_25 : decode cX4_tellPerson 25 = .ok (.bipush 11, 2) := by decide +kernel
theorem dX4_tellPerson_27 : decode cX4_tellPerson 27 = .ok (.invokevirtual 60, 3) := by decide +kernel
theorem dX4_tellPerson_30 : decode cX4_tellPerson 30 = .ok (.ifCond .ne 5, 3) := by decide +kernel
theorem dX4_tellPerson_33 : decode cX4_tellPerson 33 = .ok (.iconst 0, 1) := by decide +kernel
theorem dX4_tellPerson_34 : decode cX4_tellPerson 34 = .ok (.ireturn, 1) := by decide +kernel
theorem dX4_tellPerson_35 : decode cX4_tellPerson 35 = .ok (.aload_n 0, 1) := by decide +kernel
theorem dX4_tellPerson_36 : decode cX4_tellPerson 36 = .ok (.getfield 31, 3) := by decide +kernel
theorem dX4_tellPerson_39 : decode cX4_tellPerson 39 = .ok (.istore_n 3, 1) := by decide +kernel
theorem dX4_tellPerson_40 : decode cX4_tellPerson 40 = .ok (.iconst 0, 1) := by decide +kernel
theorem dX4_tellPerson_41 : decode cX4_tellPerson 41 = .ok (.istore 4, 2) := by decide +kernel
theorem dX4_tellPerson_43 : decode cX4_tellPerson 43 = .ok (.aload_n 0, 1) := by decide +kernel
theorem dX4_tellPerson_44 : decode cX4_tellPerson 44 = .ok (.bipush 17, 2) := by decide +kernel
theorem dX4_tellPerson_46 : decode cX4_tellPerson 46 = .ok (.invokevirtual 56, 3) := by decide +kernel
theorem dX4_tellPerson_49 : decode cX4_tellPerson 49 = .ok (.ifCond .eq 20, 3) := by decide +kernel
theorem dX4_tellPerson_52 : decode cX4_tellPerson 52 = .ok (.aload_n 0, 1) := by decide +kernel
theorem dX4_tellPerson_53 : decode cX4_tellPerson 53 = .ok (.bipush 99, 2) := by decide +kernel
theorem dX4_tellPerson_55 : decode cX4_tellPerson 55 = .ok (.invokevirtual 60, 3) := by decide +kernel
theorem dX4_tellPerson_58 : decode cX4_tellPerson 58 = .ok (.ifCond .ne 5, 3) := by decide +kernel
theorem dX4_tellPerson_61 : decode cX4_tellPerson 61 = .ok (.iconst 0, 1) := by decide +kernel
theorem dX4_tellPerson_62 : decode cX4_tellPerson 62 = .ok (.ireturn, 1) := by decide +kernel
theorem dX4_tellPerson_63 : decode cX4_tellPerson 63 = .ok (.aload_n 0, 1) := by decide +kernel
theorem dX4_tellPerson_64 : decode cX4_tellPerson 64 = .ok (.getfield 31, 3) := by decide +kernel
theorem dX4_tellPerson_67 : decode cX4_tellPerson 67 = .ok (.istore 4, 2) := by decide +kernel
theorem dX4_tellPerson_69 : decode cX4_tellPerson 69 = .ok (.iconst 0, 1) := by decide +kernel
theorem dX4_tellPerson_70 : decode cX4_tellPerson 70 = .ok (.istore 5, 2) := by decide +kernel
theorem dX4_tellPerson_72 : decode cX4_tellPerson 72 = .ok (.aload_n 0, 1) := by decide +kernel
theorem dX4_tellPerson_73 : decode cX4_tellPerson 73 = .ok (.bipush 18, 2) := by decide +kernel
theorem dX4_tellPerson_75 : decode cX4_tellPerson 75 = .ok (.invokevirtual 56, 3) := by decide +kernel
theorem dX4_tellPerson_78 : decode cX4_tellPerson 78 = .ok (.ifCond .eq 29, 3) := by decide +kernel
theorem dX4_tellPerson_81 : decode cX4_tellPerson 81 = .ok (.aload_n 0, 1) := by decide +kernel
theorem dX4_tellPerson_82 : decode cX4_tellPerson 82 = .ok (.bipush 6, 2) := by decide +kernel
theorem dX4_tellPerson_84 : decode cX4_tellPerson 84 = .ok (.bipush 6, 2) := by decide +kernel
theorem dX4_tellPerson_86 : decode cX4_tellPerson 86 = .ok (.invokevirtual 37, 3) := by decide +kernel
theorem dX4_tellPerson_89 : decode cX4_tellPerson 89 = .ok (.ifCond .ne 5, 3) := by decide +kernel
theorem dX4_tellPerson_92 : decode cX4_tellPerson 92 = .ok (.iconst 0, 1) := by decide +kernel
theorem dX4_tellPerson_93 : decode cX4_tellPerson 93 = .ok (.ireturn, 1) := by decide +kernel
theorem dX4_tellPerson_94 : decode cX4_tellPerson 94 = .ok (.aload_n 0, 1) := by decide +kernel
theorem dX4_tellPerson_95 : decode cX4_tellPerson 95 = .ok (.getfield 28, 3) := by decide +kernel
theorem dX4_tellPerson_98 : decode cX4_tellPerson 98 = .ok (.bipush 6, 2) := by decide +kernel
theorem dX4_tellPerson_100 : decode cX4_tellPerson 100 = .ok (.isub, 1) := by decide +kernel
theorem dX4_tellPerson_101 : decode cX4_tellPerson 101 = .ok (.istore 5, 2) := by decide +kernel
theorem dX4_tellPerson_103 : decode cX4_tellPerson 103 = .ok (.aload_n 0, 1) := by decide +kernel
theorem dX4_tellPerson_104 : decode cX4_tellPerson 104 = .ok (.invokevirtual 34, 3) := by decide +kernel
theorem dX4_tellPerson_107 : decode cX4_tellPerson 107 = .ok (.aload_n 0, 1) := by decide +kernel
theorem dX4_tellPerson_108 : decode cX4_tellPerson 108 = .ok (.invokevirtual 63, 3) := by decide +kernel
theorem dX4_tellPerson_111 : decode cX4_tellPerson 111 = .ok (.ifCond .ne 5, 3) := by decide +kernel
theorem dX4_tellPerson_114 : decode cX4_tellPerson 114 = .ok (.iconst 0, 1) := by decide +kernel
theorem dX4_tellPerson_115 : decode cX4_tellPerson 115 = .ok (.ireturn, 1) := by decide +kernel
theorem dX4_tellPerson_116 : decode cX4_tellPerson 116 = .ok (.aload_n 1, 1) := by decide +kernel
theorem dX4_tellPerson_117 : decode cX4_tellPerson 117 = .ok (.iload_n 2, 1) := by decide +kernel
theorem dX4_tellPerson_118 : decode cX4_tellPerson 118 = .ok (.iload 5, 2) := by decide +kernel
theorem dX4_tellPerson_120 : decode cX4_tellPerson 120 = .ok (.iload 4, 2) := by decide +kernel
theorem dX4_tellPerson_122 : decode cX4_tellPerson 122 = .ok (.iload_n 3, 1) := by decide +kernel
theorem dX4_tellPerson_123 : decode cX4_tellPerson 123 = .ok (.invokevirtual 67, 3) := by decide +kernel
theorem dX4_tellPerson_126 : decode cX4_tellPerson 126 = .ok (.pop, 1) := by decide +kernel
theorem dX4_tellPerson_127 : decode cX4_tellPerson 127 = .ok (.iconst 1, 1) := by decide +kernel
theorem dX4_tellPerson_128 : decode cX4_tellPerson 128 = .ok (.ireturn, 1) := by decide +kernel
theorem dX4_tellWeight_0 : decode cX4_tellWeight 0 = .ok (.aload_n 0, 1) := by decide +kernel
theorem dX4_tellWeight_1 : decode cX4_tellWeight 1 = .ok (.invokevirtual 34, 3) := by decide +kernel
theorem dX4_tellWeight_4 : decode cX4_tellWeight 4 = .ok (.aload_n 0, 1) := by decide +kernel
theorem dX4_tellWeight_5 : decode cX4_tellWeight 5 = .ok (.bipush 19, 2) := by decide +kernel
theorem dX4_tellWeight_7 : decode cX4_tellWeight 7 = .ok (.invokevirtual 56, 3) := by decide +kernel
theorem dX4_tellWeight_10 : decode cX4_tellWeight 10 = .ok (.ifCond .eq 19, 3) := by decide +kernel
theorem dX4_tellWeight_13 : decode cX4_tellWeight 13 = .ok (.aload_n 0, 1) := by decide +kernel
theorem dX4_tellWeight_14 : decode cX4_tellWeight 14 = .ok (.bipush 99, 2) := by decide +kernel
theorem dX4_tellWeight_16 : decode cX4_tellWeight 16 = .ok (.invokevirtual 60, 3) := by decide +kernel
theorem dX4_tellWeight_19 : decode cX4_tellWeight 19 = .ok (.ifCond .eq 10, 3) := by decide +kernel
theorem dX4_tellWeight_22 : decode cX4_tellWeight 22 = .ok (.aload_n 0, 1) := by decide +kernel
theorem dX4_tellWeight_23 : decode cX4_tellWeight 23 = .ok (.invokevirtual 63, 3) := by decide +kernel
theorem dX4_tellWeight_26 : decode cX4_tellWeight 26 = .ok (.ifCond .ne 5, 3) := by decide +kernel
theorem dX4_tellWeight_29 : decode cX4_tellWeight 29 = .ok (.iconst 0, 1) := by decide +kernel
theorem dX4_tellWeight_30 : decode cX4_tellWeight 30 = .ok (.ireturn, 1) := by decide +kernel
theorem dX4_tellWeight_31 : decode cX4_tellWeight 31 = .ok (.aload_n 1, 1) := by decide +kernel
theorem dX4_tellWeight_32 : decode cX4_tellWeight 32 = .ok (.getfield 71, 3) := by decide +kernel
theorem dX4_tellWeight_35 : decode cX4_tellWeight 35 = .ok (.iload_n 2, 1) := by decide +kernel
theorem dX4_tellWeight_36 : decode cX4_tellWeight 36 = .ok (.aload_n 0, 1) := by decide +kernel
theorem dX4_tellWeight_37 : decode cX4_tellWeight 37 = .ok (.getfield 31, 3) := by decide +kernel
theorem dX4_tellWeight_40 : decode cX4_tellWeight 40 = .ok (.iastore, 1) := by decide +kernel
theorem dX4_tellWeight_41 : decode cX4_tellWeight 41 = .ok (.iconst 1, 1) := by decide +kernel
theorem dX4_tellWeight_42 : decode cX4_tellWeight 42 = .ok (.ireturn, 1) := by decide +kernel
theorem dX4_tellLaw_0 : decode cX4_tellLaw 0 = .ok (.aload_n 0, 1) := by decide +kernel
theorem dX4_tellLaw_1 : decode cX4_tellLaw 1 = .ok (.invokevirtual 34, 3) := by decide +kernel
theorem dX4_tellLaw_4 : decode cX4_tellLaw 4 = .ok (.aload_n 0, 1) := by decide +kernel
theorem dX4_tellLaw_5 : decode cX4_tellLaw 5 = .ok (.getstatic 75, 3) := by decide +kernel
theorem dX4_tellLaw_8 : decode cX4_tellLaw 8 = .ok (.iload_n 2, 1) := by decide +kernel
theorem dX4_tellLaw_9 : decode cX4_tellLaw 9 = .ok (.iaload, 1) := by decide +kernel
theorem dX4_tellLaw_10 : decode cX4_tellLaw 10 = .ok (.invokevirtual 60, 3) := by decide +kernel
theorem dX4_tellLaw_13 : decode cX4_tellLaw 13 = .ok (.ifCond .eq 10, 3) := by decide +kernel
theorem dX4_tellLaw_16 : decode cX4_tellLaw 16 = .ok (.aload_n 0, 1) := by decide +kernel
theorem dX4_tellLaw_17 : decode cX4_tellLaw 17 = .ok (.invokevirtual 63, 3) := by decide +kernel
theorem dX4_tellLaw_20 : decode cX4_tellLaw 20 = .ok (.ifCond .ne 5, 3) := by decide +kernel
theorem dX4_tellLaw_23 : decode cX4_tellLaw 23 = .ok (.iconst 0, 1) := by decide +kernel
theorem dX4_tellLaw_24 : decode cX4_tellLaw 24 = .ok (.ireturn, 1) := by decide +kernel
theorem dX4_tellLaw_25 : decode cX4_tellLaw 25 = .ok (.aload_n 1, 1) := by decide +kernel
theorem dX4_tellLaw_26 : decode cX4_tellLaw 26 = .ok (.getfield 78, 3) := by decide +kernel
theorem dX4_tellLaw_29 : decode cX4_tellLaw 29 = .ok (.iload_n 2, 1) := by decide +kernel
theorem dX4_tellLaw_30 : decode cX4_tellLaw 30 = .ok (.aload_n 0, 1) := by decide +kernel
theorem dX4_tellLaw_31 : decode cX4_tellLaw 31 = .ok (.getfield 31, 3) := by decide +kernel
theorem dX4_tellLaw_34 : decode cX4_tellLaw 34 = .ok (.iastore, 1) := by decide +kernel
theorem dX4_tellLaw_35 : decode cX4_tellLaw 35 = .ok (.iconst 1, 1) := by decide +kernel
theorem dX4_tellLaw_36 : decode cX4_tellLaw 36 = .ok (.ireturn, 1) := by decide +kernel
theorem dX4_isNameFrom_0 : decode cX4_isNameFrom 0 = .ok (.aload_n 0, 1) := by decide +kernel
theorem dX4_isNameFrom_1 : decode cX4_isNameFrom 1 = .ok (.getfield 25, 3) := by decide +kernel
theorem dX4_isNameFrom_4 : decode cX4_isNameFrom 4 = .ok (.iconst 1, 1) := by decide +kernel
theorem dX4_isNameFrom_5 : decode cX4_isNameFrom 5 = .ok (.if_icmp .ne 25, 3) := by decide +kernel
theorem dX4_isNameFrom_8 : decode cX4_isNameFrom 8 = .ok (.aload_n 0, 1) := by decide +kernel
theorem dX4_isNameFrom_9 : decode cX4_isNameFrom 9 = .ok (.getfield 28, 3) := by decide +kernel
theorem dX4_isNameFrom_12 : decode cX4_isNameFrom 12 = .ok (.iload_n 1, 1) := by decide +kernel
theorem dX4_isNameFrom_13 : decode cX4_isNameFrom 13 = .ok (.if_icmp .lt 17, 3) := by decide +kernel
theorem dX4_isNameFrom_16 : decode cX4_isNameFrom 16 = .ok (.aload_n 0, 1) := by decide +kernel
theorem dX4_isNameFrom_17 : decode cX4_isNameFrom 17 = .ok (.getfield 28, 3) := by decide +kernel
theorem dX4_isNameFrom_20 : decode cX4_isNameFrom 20 = .ok (.iload_n 1, 1) := by decide +kernel
theorem dX4_isNameFrom_21 : decode cX4_isNameFrom 21 = .ok (.iload_n 2, 1) := by decide +kernel
theorem dX4_isNameFrom_22 : decode cX4_isNameFrom 22 = .ok (.iadd, 1) := by decide +kernel
theorem dX4_isNameFrom_23 : decode cX4_isNameFrom 23 = .ok (.if_icmp .ge 7, 3) := by decide +kernel
theorem dX4_isNameFrom_26 : decode cX4_isNameFrom 26 = .ok (.iconst 1, 1) := by decide +kernel
theorem dX4_isNameFrom_27 : decode cX4_isNameFrom 27 = .ok (.goto 4, 3) := by decide +kernel
theorem dX4_isNameFrom_30 : decode cX4_isNameFrom 30 = .ok (.iconst 0, 1) := by decide +kernel
theorem dX4_isNameFrom_31 : decode cX4_isNameFrom 31 = .ok (.ireturn, 1) := by decide +kernel
theorem dX4_passName_0 : decode cX4_passName 0 = .ok (.aload_n 0, 1) := by decide +kernel
theorem dX4_passName_1 : decode cX4_passName 1 = .ok (.iload_n 1, 1) := by decide +kernel
theorem dX4_passName_2 : decode cX4_passName 2 = .ok (.iconst 1, 1) := by decide +kernel
theorem dX4_passName_3 : decode cX4_passName 3 = .ok (.invokevirtual 37, 3) := by decide +kernel
theorem dX4_passName_6 : decode cX4_passName 6 = .ok (.ifCond .ne 5, 3) := by decide +kernel
theorem dX4_passName_9 : decode cX4_passName 9 = .ok (.iconst 0, 1) := by decide +kernel
theorem dX4_passName_10 : decode cX4_passName 10 = .ok (.ireturn, 1) := by decide +kernel
theorem dX4_passName_11 : decode cX4_passName 11 = .ok (.aload_n 0, 1) := by decide +kernel
theorem dX4_passName_12 : decode cX4_passName 12 = .ok (.invokevirtual 34, 3) := by decide +kernel
theorem dX4_passName_15 : decode cX4_passName 15 = .ok (.iconst 1, 1) := by decide +kernel
theorem dX4_passName_16 : decode cX4_passName 16 = .ok (.ireturn, 1) := by decide +kernel
theorem dX4_passNumber_0 : decode cX4_passNumber 0 = .ok (.aload_n 0, 1) := by decide +kernel
theorem dX4_passNumber_1 : decode cX4_passNumber 1 = .ok (.getfield 25, 3) := by decide +kernel
theorem dX4_passNumber_4 : decode cX4_passNumber 4 = .ok (.iconst 2, 1) := by decide +kernel
theorem dX4_passNumber_5 : decode cX4_passNumber 5 = .ok (.if_icmp .ne 19, 3) := by decide +kernel
theorem dX4_passNumber_8 : decode cX4_passNumber 8 = .ok (.aload_n 0, 1) := by decide +kernel
theorem dX4_passNumber_9 : decode cX4_passNumber 9 = .ok (.getfield 28, 3) := by decide +kernel
theorem dX4_passNumber_12 : decode cX4_passNumber 12 = .ok (.iconst (-1), 1) := by decide +kernel
theorem dX4_passNumber_13 : decode cX4_passNumber 13 = .ok (.if_icmp .eq 11, 3) := by decide +kernel
theorem dX4_passNumber_16 : decode cX4_passNumber 16 = .ok (.aload_n 0, 1) := by decide +kernel
theorem dX4_passNumber_17 : decode cX4_passNumber 17 = .ok (.getfield 28, 3) := by decide +kernel
theorem dX4_passNumber_20 : decode cX4_passNumber 20 = .ok (.iload_n 1, 1) := by decide +kernel
theorem dX4_passNumber_21 : decode cX4_passNumber 21 = .ok (.if_icmp .le 5, 3) := by decide +kernel
theorem dX4_passNumber_24 : decode cX4_passNumber 24 = .ok (.iconst 0, 1) := by decide +kernel
theorem dX4_passNumber_25 : decode cX4_passNumber 25 = .ok (.ireturn, 1) := by decide +kernel
theorem dX4_passNumber_26 : decode cX4_passNumber 26 = .ok (.aload_n 0, 1) := by decide +kernel
theorem dX4_passNumber_27 : decode cX4_passNumber 27 = .ok (.aload_n 0, 1) := by decide +kernel
theorem dX4_passNumber_28 : decode cX4_passNumber 28 = .ok (.getfield 28, 3) := by decide +kernel
theorem dX4_passNumber_31 : decode cX4_passNumber 31 = .ok (.putfield 31, 3) := by decide +kernel
theorem dX4_passNumber_34 : decode cX4_passNumber 34 = .ok (.aload_n 0, 1) := by decide +kernel
theorem dX4_passNumber_35 : decode cX4_passNumber 35 = .ok (.invokevirtual 34, 3) := by decide +kernel
theorem dX4_passNumber_38 : decode cX4_passNumber 38 = .ok (.iconst 1, 1) := by decide +kernel
theorem dX4_passNumber_39 : decode cX4_passNumber 39 = .ok (.ireturn, 1) := by decide +kernel
theorem dX4_passSemicolon_0 : decode cX4_passSemicolon 0 = .ok (.aload_n 0, 1) := by decide +kernel
theorem dX4_passSemicolon_1 : decode cX4_passSemicolon 1 = .ok (.getfield 25, 3) := by decide +kernel
theorem dX4_passSemicolon_4 : decode cX4_passSemicolon 4 = .ok (.iconst 3, 1) := by decide +kernel
theorem dX4_passSemicolon_5 : decode cX4_passSemicolon 5 = .ok (.if_icmp .ne 12, 3) := by decide +kernel
theorem dX4_passSemicolon_8 : decode cX4_passSemicolon 8 = .ok (.aload_n 0, 1) := by decide +kernel
theorem dX4_passSemicolon_9 : decode cX4_passSemicolon 9 = .ok (.getfield 28, 3) := by decide +kernel
theorem dX4_passSemicolon_12 : decode cX4_passSemicolon 12 = .ok (.bipush 59, 2) := by decide +kernel
theorem dX4_passSemicolon_14 : decode cX4_passSemicolon 14 = .ok (.if_icmp .eq 5, 3) := by decide +kernel
theorem dX4_passSemicolon_17 : decode cX4_passSemicolon 17 = .ok (.iconst 0, 1) := by decide +kernel
theorem dX4_passSemicolon_18 : decode cX4_passSemicolon 18 = .ok (.ireturn, 1) := by decide +kernel
theorem dX4_passSemicolon_19 : decode cX4_passSemicolon 19 = .ok (.aload_n 0, 1) := by decide +kernel
theorem dX4_passSemicolon_20 : decode cX4_passSemicolon 20 = .ok (.invokevirtual 34, 3) := by decide +kernel
theorem dX4_passSemicolon_23 : decode cX4_passSemicolon 23 = .ok (.iconst 1, 1) := by decide +kernel
theorem dX4_passSemicolon_24 : decode cX4_passSemicolon 24 = .ok (.ireturn, 1) := by decide +kernel
theorem dX4_advance_0 : decode cX4_advance 0 = .ok (.aload_n 0, 1) := by decide +kernel
theorem dX4_advance_1 : decode cX4_advance 1 = .ok (.getfield 19, 3) := by decide +kernel
theorem dX4_advance_4 : decode cX4_advance 4 = .ok (.aload_n 0, 1) := by decide +kernel
theorem dX4_advance_5 : decode cX4_advance 5 = .ok (.getfield 15, 3) := by decide +kernel
theorem dX4_advance_8 : decode cX4_advance 8 = .ok (.if_icmp .ge 30, 3) := by decide +kernel
theorem dX4_advance_11 : decode cX4_advance 11 = .ok (.aload_n 0, 1) := by decide +kernel
theorem dX4_advance_12 : decode cX4_advance 12 = .ok (.getfield 11, 3) := by decide +kernel
theorem dX4_advance_15 : decode cX4_advance 15 = .ok (.aload_n 0, 1) := by decide +kernel
theorem dX4_advance_16 : decode cX4_advance 16 = .ok (.getfield 19, 3) := by decide +kernel
theorem dX4_advance_19 : decode cX4_advance 19 = .ok (.baload, 1) := by decide +kernel
theorem dX4_advance_20 : decode cX4_advance 20 = .ok (.bipush 32, 2) := by decide +kernel
theorem dX4_advance_22 : decode cX4_advance 22 = .ok (.if_icmp .ne 16, 3) := by decide +kernel
theorem dX4_advance_25 : decode cX4_advance 25 = .ok (.aload_n 0, 1) := by decide +kernel
theorem dX4_advance_26 : decode cX4_advance 26 = .ok (.dup, 1) := by decide +kernel
theorem dX4_advance_27 : decode cX4_advance 27 = .ok (.getfield 19, 3) := by decide +kernel
theorem dX4_advance_30 : decode cX4_advance 30 = .ok (.iconst 1, 1) := by decide +kernel
theorem dX4_advance_31 : decode cX4_advance 31 = .ok (.iadd, 1) := by decide +kernel
theorem dX4_advance_32 : decode cX4_advance 32 = .ok (.putfield 19, 3) := by decide +kernel
theorem dX4_advance_35 : decode cX4_advance 35 = .ok (.goto (-35), 3) := by decide +kernel
theorem dX4_advance_38 : decode cX4_advance 38 = .ok (.aload_n 0, 1) := by decide +kernel
theorem dX4_advance_39 : decode cX4_advance 39 = .ok (.aload_n 0, 1) := by decide +kernel
theorem dX4_advance_40 : decode cX4_advance 40 = .ok (.getfield 19, 3) := by decide +kernel
theorem dX4_advance_43 : decode cX4_advance 43 = .ok (.putfield 22, 3) := by decide +kernel
theorem dX4_advance_46 : decode cX4_advance 46 = .ok (.aload_n 0, 1) := by decide +kernel
theorem dX4_advance_47 : decode cX4_advance 47 = .ok (.getfield 19, 3) := by decide +kernel
theorem dX4_advance_50 : decode cX4_advance 50 = .ok (.aload_n 0, 1) := by decide +kernel
theorem dX4_advance_51 : decode cX4_advance 51 = .ok (.getfield 15, 3) := by decide +kernel
theorem dX4_advance_54 : decode cX4_advance 54 = .ok (.if_icmp .lt 11, 3) := by decide +kernel
theorem dX4_advance_57 : decode cX4_advance 57 = .ok (.aload_n 0, 1) := by decide +kernel
theorem dX4_advance_58 : decode cX4_advance 58 = .ok (.iconst 0, 1) := by decide +kernel
theorem dX4_advance_59 : decode cX4_advance 59 = .ok (.putfield 25, 3) := by decide +kernel
theorem dX4_advance_62 : decode cX4_advance 62 = .ok (.goto 75, 3) := by decide +kernel
theorem dX4_advance_65 : decode cX4_advance 65 = .ok (.aload_n 0, 1) := by decide +kernel
theorem dX4_advance_66 : decode cX4_advance 66 = .ok (.getfield 11, 3) := by decide +kernel
theorem dX4_advance_69 : decode cX4_advance 69 = .ok (.aload_n 0, 1) := by decide +kernel
theorem dX4_advance_70 : decode cX4_advance 70 = .ok (.getfield 19, 3) := by decide +kernel
theorem dX4_advance_73 : decode cX4_advance 73 = .ok (.baload, 1) := by decide +kernel
theorem dX4_advance_74 : decode cX4_advance 74 = .ok (.invokestatic 81, 3) := by decide +kernel
theorem dX4_advance_77 : decode cX4_advance 77 = .ok (.ifCond .eq 10, 3) := by decide +kernel
theorem dX4_advance_80 : decode cX4_advance 80 = .ok (.aload_n 0, 1) := by decide +kernel
theorem dX4_advance_81 : decode cX4_advance 81 = .ok (.invokevirtual 84, 3) := by decide +kernel
theorem dX4_advance_84 : decode cX4_advance 84 = .ok (.goto 53, 3) := by decide +kernel
theorem dX4_advance_87 : decode cX4_advance 87 = .ok (.aload_n 0, 1) := by decide +kernel
theorem dX4_advance_88 : decode cX4_advance 88 = .ok (.getfield 11, 3) := by decide +kernel
theorem dX4_advance_91 : decode cX4_advance 91 = .ok (.aload_n 0, 1) := by decide +kernel
theorem dX4_advance_92 : decode cX4_advance 92 = .ok (.getfield 19, 3) := by decide +kernel
theorem dX4_advance_95 : decode cX4_advance 95 = .ok (.baload, 1) := by decide +kernel
theorem dX4_advance_96 : decode cX4_advance 96 = .ok (.invokestatic 87, 3) := by decide +kernel
theorem dX4_advance_99 : decode cX4_advance 99 = .ok (.ifCond .eq 10, 3) := by decide +kernel
theorem dX4_advance_102 : decode cX4_advance 102 = .ok (.aload_n 0, 1) := by decide +kernel
theorem dX4_advance_103 : decode cX4_advance 103 = .ok (.invokevirtual 90, 3) := by decide +kernel
theorem dX4_advance_106 : decode cX4_advance 106 = .ok (.goto 31, 3) := by decide +kernel
theorem dX4_advance_109 : decode cX4_advance 109 = .ok (.aload_n 0, 1) := by decide +kernel
theorem dX4_advance_110 : decode cX4_advance 110 = .ok (.iconst 3, 1) := by decide +kernel
theorem dX4_advance_111 : decode cX4_advance 111 = .ok (.putfield 25, 3) := by decide +kernel
theorem dX4_advance_114 : decode cX4_advance 114 = .ok (.aload_n 0, 1) := by decide +kernel
theorem dX4_advance_115 : decode cX4_advance 115 = .ok (.aload_n 0, 1) := by decide +kernel
theorem dX4_advance_116 : decode cX4_advance 116 = .ok (.getfield 11, 3) := by decide +kernel
theorem dX4_advance_119 : decode cX4_advance 119 = .ok (.aload_n 0, 1) := by decide +kernel
theorem dX4_advance_120 : decode cX4_advance 120 = .ok (.getfield 19, 3) := by decide +kernel
theorem dX4_advance_123 : decode cX4_advance 123 = .ok (.baload, 1) := by decide +kernel
theorem dX4_advance_124 : decode cX4_advance 124 = .ok (.putfield 28, 3) := by decide +kernel
theorem dX4_advance_127 : decode cX4_advance 127 = .ok (.aload_n 0, 1) := by decide +kernel
theorem dX4_advance_128 : decode cX4_advance 128 = .ok (.dup, 1) := by decide +kernel
theorem dX4_advance_129 : decode cX4_advance 129 = .ok (.getfield 19, 3) := by decide +kernel
theorem dX4_advance_132 : decode cX4_advance 132 = .ok (.iconst 1, 1) := by decide +kernel
theorem dX4_advance_133 : decode cX4_advance 133 = .ok (.iadd, 1) := by decide +kernel
theorem dX4_advance_134 : decode cX4_advance 134 = .ok (.putfield 19, 3) := by decide +kernel
theorem dX4_advance_137 : decode cX4_advance 137 = .ok (.return_, 1) := by decide +kernel
theorem dX4_scanName_0 : decode cX4_scanName 0 = .ok (.aload_n 0, 1) := by decide +kernel
theorem dX4_scanName_1 : decode cX4_scanName 1 = .ok (.getfield 19, 3) := by decide +kernel
theorem dX4_scanName_4 : decode cX4_scanName 4 = .ok (.aload_n 0, 1) := by decide +kernel
theorem dX4_scanName_5 : decode cX4_scanName 5 = .ok (.getfield 15, 3) := by decide +kernel
theorem dX4_scanName_8 : decode cX4_scanName 8 = .ok (.if_icmp .ge 31, 3) := by decide +kernel
theorem dX4_scanName_11 : decode cX4_scanName 11 = .ok (.aload_n 0, 1) := by decide +kernel
theorem dX4_scanName_12 : decode cX4_scanName 12 = .ok (.getfield 11, 3) := by decide +kernel
theorem dX4_scanName_15 : decode cX4_scanName 15 = .ok (.aload_n 0, 1) := by decide +kernel
theorem dX4_scanName_16 : decode cX4_scanName 16 = .ok (.getfield 19, 3) := by decide +kernel
theorem dX4_scanName_19 : decode cX4_scanName 19 = .ok (.baload, 1) := by decide +kernel
theorem dX4_scanName_20 : decode cX4_scanName 20 = .ok (.invokestatic 81, 3) := by decide +kernel
theorem dX4_scanName_23 : decode cX4_scanName 23 = .ok (.ifCond .eq 16, 3) := by decide +kernel
theorem dX4_scanName_26 : decode cX4_scanName 26 = .ok (.aload_n 0, 1) := by decide +kernel
theorem dX4_scanName_27 : decode cX4_scanName 27 = .ok (.dup, 1) := by decide +kernel
theorem dX4_scanName_28 : decode cX4_scanName 28 = .ok (.getfield 19, 3) := by decide +kernel
theorem dX4_scanName_31 : decode cX4_scanName 31 = .ok (.iconst 1, 1) := by decide +kernel
theorem dX4_scanName_32 : decode cX4_scanName 32 = .ok (.iadd, 1) := by decide +kernel
theorem dX4_scanName_33 : decode cX4_scanName 33 = .ok (.putfield 19, 3) := by decide +kernel
theorem dX4_scanName_36 : decode cX4_scanName 36 = .ok (.goto (-36), 3) := by decide +kernel
theorem dX4_scanName_39 : decode cX4_scanName 39 = .ok (.aload_n 0, 1) := by decide +kernel
theorem dX4_scanName_40 : decode cX4_scanName 40 = .ok (.iconst 1, 1) := by decide +kernel
theorem dX4_scanName_41 : decode cX4_scanName 41 = .ok (.putfield 25, 3) := by decide +kernel
theorem dX4_scanName_44 : decode cX4_scanName 44 = .ok (.aload_n 0, 1) := by decide +kernel
theorem dX4_scanName_45 : decode cX4_scanName 45 = .ok (.iconst (-1), 1) := by decide +kernel
theorem dX4_scanName_46 : decode cX4_scanName 46 = .ok (.putfield 28, 3) := by decide +kernel
theorem dX4_scanName_49 : decode cX4_scanName 49 = .ok (.iconst 0, 1) := by decide +kernel
theorem dX4_scanName_50 : decode cX4_scanName 50 = .ok (.istore_n 1, 1) := by decide +kernel
theorem dX4_scanName_51 : decode cX4_scanName 51 = .ok (.iload_n 1, 1) := by decide +kernel
theorem dX4_scanName_52 : decode cX4_scanName 52 = .ok (.bipush 20, 2) := by decide +kernel
theorem dX4_scanName_54 : decode cX4_scanName 54 = .ok (.if_icmp .ge 22, 3) := by decide +kernel
theorem dX4_scanName_57 : decode cX4_scanName 57 = .ok (.aload_n 0, 1) := by decide +kernel
theorem dX4_scanName_58 : decode cX4_scanName 58 = .ok (.iload_n 1, 1) := by decide +kernel
theorem dX4_scanName_59 : decode cX4_scanName 59 = .ok (.invokevirtual 93, 3) := by decide +kernel
theorem dX4_scanName_62 : decode cX4_scanName 62 = .ok (.ifCond .eq 8, 3) := by decide +kernel
theorem dX4_scanName_65 : decode cX4_scanName 65 = .ok (.aload_n 0, 1) := by decide +kernel
theorem dX4_scanName_66 : decode cX4_scanName 66 = .ok (.iload_n 1, 1) := by decide +kernel
theorem dX4_scanName_67 : decode cX4_scanName 67 = .ok (.putfield 28, 3) := by decide +kernel
theorem dX4_scanName_70 : decode cX4_scanName 70 = .ok (.iinc 1 1, 3) := by decide +kernel
theorem dX4_scanName_73 : decode cX4_scanName 73 = .ok (.goto (-22), 3) := by decide +kernel
theorem dX4_scanName_76 : decode cX4_scanName 76 = .ok (.return_, 1) := by decide +kernel
theorem dX4_isSpelt_0 : decode cX4_isSpelt 0 = .ok (.aload_n 0, 1) := by decide +kernel
theorem dX4_isSpelt_1 : decode cX4_isSpelt 1 = .ok (.getfield 19, 3) := by decide +kernel
theorem dX4_isSpelt_4 : decode cX4_isSpelt 4 = .ok (.aload_n 0, 1) := by decide +kernel
theorem dX4_isSpelt_5 : decode cX4_isSpelt 5 = .ok (.getfield 22, 3) := by decide +kernel
theorem dX4_isSpelt_8 : decode cX4_isSpelt 8 = .ok (.isub, 1) := by decide +kernel
theorem dX4_isSpelt_9 : decode cX4_isSpelt 9 = .ok (.bipush 7, 2) := by decide +kernel
theorem dX4_isSpelt_11 : decode cX4_isSpelt 11 = .ok (.if_icmp .le 5, 3) := by decide +kernel
theorem dX4_isSpelt_14 : decode cX4_isSpelt 14 = .ok (.iconst 0, 1) := by decide +kernel
theorem dX4_isSpelt_15 : decode cX4_isSpelt 15 = .ok (.ireturn, 1) := by decide +kernel
theorem dX4_isSpelt_16 : decode cX4_isSpelt 16 = .ok (.iconst 0, 1) := by decide +kernel
theorem dX4_isSpelt_17 : decode cX4_isSpelt 17 = .ok (.istore_n 2, 1) := by decide +kernel
theorem dX4_isSpelt_18 : decode cX4_isSpelt 18 = .ok (.iload_n 2, 1) := by decide +kernel
theorem dX4_isSpelt_19 : decode cX4_isSpelt 19 = .ok (.bipush 7, 2) := by decide +kernel
theorem dX4_isSpelt_21 : decode cX4_isSpelt 21 = .ok (.if_icmp .ge 56, 3) := by decide +kernel
theorem dX4_isSpelt_24 : decode cX4_isSpelt 24 = .ok (.aload_n 0, 1) := by decide +kernel
theorem dX4_isSpelt_25 : decode cX4_isSpelt 25 = .ok (.getfield 22, 3) := by decide +kernel
theorem dX4_isSpelt_28 : decode cX4_isSpelt 28 = .ok (.iload_n 2, 1) := by decide +kernel
theorem dX4_isSpelt_29 : decode cX4_isSpelt 29 = .ok (.iadd, 1) := by decide +kernel
theorem dX4_isSpelt_30 : decode cX4_isSpelt 30 = .ok (.aload_n 0, 1) := by decide +kernel
theorem dX4_isSpelt_31 : decode cX4_isSpelt 31 = .ok (.getfield 19, 3) := by decide +kernel
theorem dX4_isSpelt_34 : decode cX4_isSpelt 34 = .ok (.if_icmp .ge 17, 3) := by decide +kernel
theorem dX4_isSpelt_37 : decode cX4_isSpelt 37 = .ok (.aload_n 0, 1) := by decide +kernel
theorem dX4_isSpelt_38 : decode cX4_isSpelt 38 = .ok (.getfield 11, 3) := by decide +kernel
theorem dX4_isSpelt_41 : decode cX4_isSpelt 41 = .ok (.aload_n 0, 1) := by decide +kernel
theorem dX4_isSpelt_42 : decode cX4_isSpelt 42 = .ok (.getfield 22, 3) := by decide +kernel
theorem dX4_isSpelt_45 : decode cX4_isSpelt 45 = .ok (.iload_n 2, 1) := by decide +kernel
theorem dX4_isSpelt_46 : decode cX4_isSpelt 46 = .ok (.iadd, 1) := by decide +kernel
theorem dX4_isSpelt_47 : decode cX4_isSpelt 47 = .ok (.baload, 1) := by decide +kernel
theorem dX4_isSpelt_48 : decode cX4_isSpelt 48 = .ok (.goto 5, 3) := by decide +kernel
theorem dX4_isSpelt_51 : decode cX4_isSpelt 51 = .ok (.bipush 32, 2) := by decide +kernel
theorem dX4_isSpelt_53 : decode cX4_isSpelt 53 = .ok (.istore_n 3, 1) := by decide +kernel
theorem dX4_isSpelt_54 : decode cX4_isSpelt 54 = .ok (.ldc 96, 2) := by decide +kernel
theorem dX4_isSpelt_56 : decode cX4_isSpelt 56 = .ok (.iload_n 1, 1) := by decide +kernel
theorem dX4_isSpelt_57 : decode cX4_isSpelt 57 = .ok (.bipush 7, 2) := by decide +kernel
theorem dX4_isSpelt_59 : decode cX4_isSpelt 59 = .ok (.imul, 1) := by decide +kernel
theorem dX4_isSpelt_60 : decode cX4_isSpelt 60 = .ok (.iload_n 2, 1) := by decide +kernel
theorem dX4_isSpelt_61 : decode cX4_isSpelt 61 = .ok (.iadd, 1) := by decide +kernel
theorem dX4_isSpelt_62 : decode cX4_isSpelt 62 = .ok (.invokevirtual 98, 3) := by decide +kernel
theorem dX4_isSpelt_65 : decode cX4_isSpelt 65 = .ok (.iload_n 3, 1) := by decide +kernel
theorem dX4_isSpelt_66 : decode cX4_isSpelt 66 = .ok (.if_icmp .eq 5, 3) := by decide +kernel
theorem dX4_isSpelt_69 : decode cX4_isSpelt 69 = .ok (.iconst 0, 1) := by decide +kernel
theorem dX4_isSpelt_70 : decode cX4_isSpelt 70 = .ok (.ireturn, 1) := by decide +kernel
theorem dX4_isSpelt_71 : decode cX4_isSpelt 71 = .ok (.iinc 2 1, 3) := by decide +kernel
theorem dX4_isSpelt_74 : decode cX4_isSpelt 74 = .ok (.goto (-56), 3) := by decide +kernel
theorem dX4_isSpelt_77 : decode cX4_isSpelt 77 = .ok (.iconst 1, 1) := by decide +kernel
theorem dX4_isSpelt_78 : decode cX4_isSpelt 78 = .ok (.ireturn, 1) := by decide +kernel
theorem dX4_scanNumber_0 : decode cX4_scanNumber 0 = .ok (.iconst 0, 1) := by decide +kernel
theorem dX4_scanNumber_1 : decode cX4_scanNumber 1 = .ok (.istore_n 1, 1) := by decide +kernel
theorem dX4_scanNumber_2 : decode cX4_scanNumber 2 = .ok (.aload_n 0, 1) := by decide +kernel
theorem dX4_scanNumber_3 : decode cX4_scanNumber 3 = .ok (.getfield 19, 3) := by decide +kernel
theorem dX4_scanNumber_6 : decode cX4_scanNumber 6 = .ok (.aload_n 0, 1) := by decide +kernel
theorem dX4_scanNumber_7 : decode cX4_scanNumber 7 = .ok (.getfield 15, 3) := by decide +kernel
theorem dX4_scanNumber_10 : decode cX4_scanNumber 10 = .ok (.if_icmp .ge 62, 3) := by decide +kernel
theorem dX4_scanNumber_13 : decode cX4_scanNumber 13 = .ok (.aload_n 0, 1) := by decide +kernel
theorem dX4_scanNumber_14 : decode cX4_scanNumber 14 = .ok (.getfield 11, 3) := by decide +kernel
theorem dX4_scanNumber_17 : decode cX4_scanNumber 17 = .ok (.aload_n 0, 1) := by decide +kernel
theorem dX4_scanNumber_18 : decode cX4_scanNumber 18 = .ok (.getfield 19, 3) := by decide +kernel
theorem dX4_scanNumber_21 : decode cX4_scanNumber 21 = .ok (.baload, 1) := by decide +kernel
theorem dX4_scanNumber_22 : decode cX4_scanNumber 22 = .ok (.invokestatic 87, 3) := by decide +kernel
theorem dX4_scanNumber_25 : decode cX4_scanNumber 25 = .ok (.ifCond .eq 47, 3) := by decide +kernel
theorem dX4_scanNumber_28 : decode cX4_scanNumber 28 = .ok (.aload_n 0, 1) := by decide +kernel
theorem dX4_scanNumber_29 : decode cX4_scanNumber 29 = .ok (.getfield 19, 3) := by decide +kernel
theorem dX4_scanNumber_32 : decode cX4_scanNumber 32 = .ok (.aload_n 0, 1) := by decide +kernel
theorem dX4_scanNumber_33 : decode cX4_scanNumber 33 = .ok (.getfield 22, 3) := by decide +kernel
theorem dX4_scanNumber_36 : decode cX4_scanNumber 36 = .ok (.isub, 1) := by decide +kernel
theorem dX4_scanNumber_37 : decode cX4_scanNumber 37 = .ok (.iconst 3, 1) := by decide +kernel
theorem dX4_scanNumber_38 : decode cX4_scanNumber 38 = .ok (.if_icmp .ge 21, 3) := by decide +kernel
theorem dX4_scanNumber_41 : decode cX4_scanNumber 41 = .ok (.iload_n 1, 1) := by decide +kernel
theorem dX4_scanNumber_42 : decode cX4_scanNumber 42 = .ok (.bipush 10, 2) := by decide +kernel
theorem dX4_scanNumber_44 : decode cX4_scanNumber 44 = .ok (.imul, 1) := by decide +kernel
theorem dX4_scanNumber_45 : decode cX4_scanNumber 45 = .ok (.aload_n 0, 1) := by decide +kernel
theorem dX4_scanNumber_46 : decode cX4_scanNumber 46 = .ok (.getfield 11, 3) := by decide +kernel
theorem dX4_scanNumber_49 : decode cX4_scanNumber 49 = .ok (.aload_n 0, 1) := by decide +kernel
theorem dX4_scanNumber_50 : decode cX4_scanNumber 50 = .ok (.getfield 19, 3) := by decide +kernel
theorem dX4_scanNumber_53 : decode cX4_scanNumber 53 = .ok (.baload, 1) := by decide +kernel
theorem dX4_scanNumber_54 : decode cX4_scanNumber 54 = .ok (.iadd, 1) := by decide +kernel
theorem dX4_scanNumber_55 : decode cX4_scanNumber 55 = .ok (.bipush 48, 2) := by decide +kernel
theorem dX4_scanNumber_57 : decode cX4_scanNumber 57 = .ok (.isub, 1) := by decide +kernel
theorem dX4_scanNumber_58 : decode cX4_scanNumber 58 = .ok (.istore_n 1, 1) := by decide +kernel
theorem dX4_scanNumber_59 : decode cX4_scanNumber 59 = .ok (.aload_n 0, 1) := by decide +kernel
theorem dX4_scanNumber_60 : decode cX4_scanNumber 60 = .ok (.dup, 1) := by decide +kernel
theorem dX4_scanNumber_61 : decode cX4_scanNumber 61 = .ok (.getfield 19, 3) := by decide +kernel
theorem dX4_scanNumber_64 : decode cX4_scanNumber 64 = .ok (.iconst 1, 1) := by decide +kernel
theorem dX4_scanNumber_65 : decode cX4_scanNumber 65 = .ok (.iadd, 1) := by decide +kernel
theorem dX4_scanNumber_66 : decode cX4_scanNumber 66 = .ok (.putfield 19, 3) := by decide +kernel
theorem dX4_scanNumber_69 : decode cX4_scanNumber 69 = .ok (.goto (-67), 3) := by decide +kernel
theorem dX4_scanNumber_72 : decode cX4_scanNumber 72 = .ok (.aload_n 0, 1) := by decide +kernel
theorem dX4_scanNumber_73 : decode cX4_scanNumber 73 = .ok (.iconst 2, 1) := by decide +kernel
theorem dX4_scanNumber_74 : decode cX4_scanNumber 74 = .ok (.putfield 25, 3) := by decide +kernel
theorem dX4_scanNumber_77 : decode cX4_scanNumber 77 = .ok (.aload_n 0, 1) := by decide +kernel
theorem dX4_scanNumber_78 : decode cX4_scanNumber 78 = .ok (.aload_n 0, 1) := by decide +kernel
theorem dX4_scanNumber_79 : decode cX4_scanNumber 79 = .ok (.getfield 19, 3) := by decide +kernel
theorem dX4_scanNumber_82 : decode cX4_scanNumber 82 = .ok (.aload_n 0, 1) := by decide +kernel
theorem dX4_scanNumber_83 : decode cX4_scanNumber 83 = .ok (.getfield 22, 3) := by decide +kernel
theorem dX4_scanNumber_86 : decode cX4_scanNumber 86 = .ok (.isub, 1) := by decide +kernel
theorem dX4_scanNumber_87 : decode cX4_scanNumber 87 = .ok (.iconst 3, 1) := by decide +kernel
theorem dX4_scanNumber_88 : decode cX4_scanNumber 88 = .ok (.if_icmp .le 7, 3) := by decide +kernel
theorem dX4_scanNumber_91 : decode cX4_scanNumber 91 = .ok (.iconst (-1), 1) := by decide +kernel
theorem dX4_scanNumber_92 : decode cX4_scanNumber 92 = .ok (.goto 4, 3) := by decide +kernel
theorem dX4_scanNumber_95 : decode cX4_scanNumber 95 = .ok (.iload_n 1, 1) := by decide +kernel
theorem dX4_scanNumber_96 : decode cX4_scanNumber 96 = .ok (.putfield 28, 3) := by decide +kernel
theorem dX4_scanNumber_99 : decode cX4_scanNumber 99 = .ok (.return_, 1) := by decide +kernel
theorem dX4_isLetter_0 : decode cX4_isLetter 0 = .ok (.iload_n 0, 1) := by decide +kernel
theorem dX4_isLetter_1 : decode cX4_isLetter 1 = .ok (.bipush 97, 2) := by decide +kernel
theorem dX4_isLetter_3 : decode cX4_isLetter 3 = .ok (.if_icmp .lt 13, 3) := by decide +kernel
theorem dX4_isLetter_6 : decode cX4_isLetter 6 = .ok (.iload_n 0, 1) := by decide +kernel
theorem dX4_isLetter_7 : decode cX4_isLetter 7 = .ok (.bipush 122, 2) := by decide +kernel
theorem dX4_isLetter_9 : decode cX4_isLetter 9 = .ok (.if_icmp .gt 7, 3) := by decide +kernel
theorem dX4_isLetter_12 : decode cX4_isLetter 12 = .ok (.iconst 1, 1) := by decide +kernel
theorem dX4_isLetter_13 : decode cX4_isLetter 13 = .ok (.goto 4, 3) := by decide +kernel
theorem dX4_isLetter_16 : decode cX4_isLetter 16 = .ok (.iconst 0, 1) := by decide +kernel
theorem dX4_isLetter_17 : decode cX4_isLetter 17 = .ok (.ireturn, 1) := by decide +kernel
theorem dX4_isDigit_0 : decode cX4_isDigit 0 = .ok (.iload_n 0, 1) := by decide +kernel
theorem dX4_isDigit_1 : decode cX4_isDigit 1 = .ok (.bipush 48, 2) := by decide +kernel
theorem dX4_isDigit_3 : decode cX4_isDigit 3 = .ok (.if_icmp .lt 13, 3) := by decide +kernel
theorem dX4_isDigit_6 : decode cX4_isDigit 6 = .ok (.iload_n 0, 1) := by decide +kernel
theorem dX4_isDigit_7 : decode cX4_isDigit 7 = .ok (.bipush 57, 2) := by decide +kernel
theorem dX4_isDigit_9 : decode cX4_isDigit 9 = .ok (.if_icmp .gt 7, 3) := by decide +kernel
theorem dX4_isDigit_12 : decode cX4_isDigit 12 = .ok (.iconst 1, 1) := by decide +kernel
theorem dX4_isDigit_13 : decode cX4_isDigit 13 = .ok (.goto 4, 3) := by decide +kernel
theorem dX4_isDigit_16 : decode cX4_isDigit 16 = .ok (.iconst 0, 1) := by decide +kernel
theorem dX4_isDigit_17 : decode cX4_isDigit 17 = .ok (.ireturn, 1) := by decide +kernel
theorem dX5_init_0 : decode cX5_init 0 = .ok (.aload_n 0, 1) := by decide +kernel
theorem dX5_init_1 : decode cX5_init 1 = .ok (.invokespecial 3, 3) := by decide +kernel
theorem dX5_init_4 : decode cX5_init 4 = .ok (.aload_n 0, 1) := by decide +kernel
theorem dX5_init_5 : decode cX5_init 5 = .ok (.iconst 4, 1) := by decide +kernel
theorem dX5_init_6 : decode cX5_init 6 = .ok (.newarray .int, 2) := by decide +kernel
theorem dX5_init_8 : decode cX5_init 8 = .ok (.putfield 9, 3) := by decide +kernel
theorem dX5_init_11 : decode cX5_init 11 = .ok (.aload_n 0, 1) := by decide +kernel
theorem dX5_init_12 : decode cX5_init 12 = .ok (.bipush 6, 2) := by decide +kernel
theorem dX5_init_14 : decode cX5_init 14 = .ok (.newarray .int, 2) := by decide +kernel
theorem dX5_init_16 : decode cX5_init 16 = .ok (.putfield 15, 3) := by decide +kernel
theorem dX5_init_19 : decode cX5_init 19 = .ok (.aload_n 0, 1) := by decide +kernel
theorem dX5_init_20 : decode cX5_init 20 = .ok (.bipush 8, 2) := by decide +kernel
theorem dX5_init_22 : decode cX5_init 22 = .ok (.newarray .int, 2) := by decide +kernel
theorem dX5_init_24 : decode cX5_init 24 = .ok (.putfield 18, 3) := by decide +kernel
theorem dX5_init_27 : decode cX5_init 27 = .ok (.aload_n 0, 1) := by decide +kernel
theorem dX5_init_28 : decode cX5_init 28 = .ok (.bipush 8, 2) := by decide +kernel
theorem dX5_init_30 : decode cX5_init 30 = .ok (.newarray .int, 2) := by decide +kernel
theorem dX5_init_32 : decode cX5_init 32 = .ok (.putfield 21, 3) := by decide +kernel
theorem dX5_init_35 : decode cX5_init 35 = .ok (.aload_n 0, 1) := by decide +kernel
theorem dX5_init_36 : decode cX5_init 36 = .ok (.bipush 8, 2) := by decide +kernel
theorem dX5_init_38 : decode cX5_init 38 = .ok (.newarray .int, 2) := by decide +kernel
theorem dX5_init_40 : decode cX5_init 40 = .ok (.putfield 24, 3) := by decide +kernel
theorem dX5_init_43 : decode cX5_init 43 = .ok (.aload_n 0, 1) := by decide +kernel
theorem dX5_init_44 : decode cX5_init 44 = .ok (.bipush 8, 2) := by decide +kernel
theorem dX5_init_46 : decode cX5_init 46 = .ok (.newarray .int, 2) := by decide +kernel
theorem dX5_init_48 : decode cX5_init 48 = .ok (.putfield 27, 3) := by decide +kernel
theorem dX5_init_51 : decode cX5_init 51 = .ok (.aload_n 0, 1) := by decide +kernel
theorem dX5_init_52 : decode cX5_init 52 = .ok (.bipush 8, 2) := by decide +kernel
theorem dX5_init_54 : decode cX5_init 54 = .ok (.newarray .int, 2) := by decide +kernel
theorem dX5_init_56 : decode cX5_init 56 = .ok (.putfield 30, 3) := by decide +kernel
theorem dX5_init_59 : decode cX5_init 59 = .ok (.aload_n 0, 1) := by decide +kernel
theorem dX5_init_60 : decode cX5_init 60 = .ok (.bipush 8, 2) := by decide +kernel
theorem dX5_init_62 : decode cX5_init 62 = .ok (.newarray .int, 2) := by decide +kernel
theorem dX5_init_64 : decode cX5_init 64 = .ok (.putfield 33, 3) := by decide +kernel
theorem dX5_init_67 : decode cX5_init 67 = .ok (.aload_n 0, 1) := by decide +kernel
theorem dX5_init_68 : decode cX5_init 68 = .ok (.iconst 0, 1) := by decide +kernel
theorem dX5_init_69 : decode cX5_init 69 = .ok (.putfield 36, 3) := by decide +kernel
theorem dX5_init_72 : decode cX5_init 72 = .ok (.aload_n 0, 1) := by decide +kernel
theorem dX5_init_73 : decode cX5_init 73 = .ok (.iconst 0, 1) := by decide +kernel
theorem dX5_init_74 : decode cX5_init 74 = .ok (.putfield 40, 3) := by decide +kernel
theorem dX5_init_77 : decode cX5_init 77 = .ok (.aload_n 0, 1) := by decide +kernel
theorem dX5_init_78 : decode cX5_init 78 = .ok (.iconst 1, 1) := by decide +kernel
theorem dX5_init_79 : decode cX5_init 79 = .ok (.putfield 43, 3) := by decide +kernel
theorem dX5_init_82 : decode cX5_init 82 = .ok (.aload_n 0, 1) := by decide +kernel
theorem dX5_init_83 : decode cX5_init 83 = .ok (.invokevirtual 46, 3) := by decide +kernel
theorem dX5_init_86 : decode cX5_init 86 = .ok (.return_, 1) := by decide +kernel
theorem dX5_startAnew_0 : decode cX5_startAnew 0 = .ok (.iconst 0, 1) := by decide +kernel
theorem dX5_startAnew_1 : decode cX5_startAnew 1 = .ok (.istore_n 1, 1) := by decide +kernel
theorem dX5_startAnew_2 : decode cX5_startAnew 2 = .ok (.iload_n 1, 1) := by decide +kernel
theorem dX5_startAnew_3 : decode cX5_startAnew 3 = .ok (.iconst 4, 1) := by decide +kernel
theorem dX5_startAnew_4 : decode cX5_startAnew 4 = .ok (.if_icmp .ge 20, 3) := by decide +kernel
theorem dX5_startAnew_7 : decode cX5_startAnew 7 = .ok (.aload_n 0, 1) := by decide +kernel
theorem dX5_startAnew_8 : decode cX5_startAnew 8 = .ok (.getfield 9, 3) := by decide +kernel
theorem dX5_startAnew_11 : decode cX5_startAnew 11 = .ok (.iload_n 1, 1) := by decide +kernel
theorem dX5_startAnew_12 : decode cX5_startAnew 12 = .ok (.getstatic 49, 3) := by decide +kernel
theorem dX5_startAnew_15 : decode cX5_startAnew 15 = .ok (.iload_n 1, 1) := by decide +kernel
theorem dX5_startAnew_16 : decode cX5_startAnew 16 = .ok (.iaload, 1) := by decide +kernel
theorem dX5_startAnew_17 : decode cX5_startAnew 17 = .ok (.iastore, 1) := by decide +kernel
theorem dX5_startAnew_18 : decode cX5_startAnew 18 = .ok (.iinc 1 1, 3) := by decide +kernel
theorem dX5_startAnew_21 : decode cX5_startAnew 21 = .ok (.goto (-19), 3) := by decide +kernel
theorem dX5_startAnew_24 : decode cX5_startAnew 24 = .ok (.iconst 0, 1) := by decide +kernel
theorem dX5_startAnew_25 : decode cX5_startAnew 25 = .ok (.istore_n 1, 1) := by decide +kernel
theorem dX5_startAnew_26 : decode cX5_startAnew 26 = .ok (.iload_n 1, 1) := by decide +kernel
theorem dX5_startAnew_27 : decode cX5_startAnew 27 = .ok (.bipush 6, 2) := by decide +kernel
theorem dX5_startAnew_29 : decode cX5_startAnew 29 = .ok (.if_icmp .ge 26, 3) := by decide +kernel
theorem dX5_startAnew_32 : decode cX5_startAnew 32 = .ok (.aload_n 0, 1) := by decide +kernel
theorem dX5_startAnew_33 : decode cX5_startAnew 33 = .ok (.getfield 15, 3) := by decide +kernel
theorem dX5_startAnew_36 : decode cX5_startAnew 36 = .ok (.iload_n 1, 1) := by decide +kernel
theorem dX5_startAnew_37 : decode cX5_startAnew 37 = .ok (.iload_n 1, 1) := by decide +kernel
theorem dX5_startAnew_38 : decode cX5_startAnew 38 = .ok (.iconst 5, 1) := by decide +kernel
theorem dX5_startAnew_39 : decode cX5_startAnew 39 = .ok (.if_icmp .ne 7, 3) := by decide +kernel
theorem dX5_startAnew_42 : decode cX5_startAnew 42 = .ok (.iconst 0, 1) := by decide +kernel
theorem dX5_startAnew_43 : decode cX5_startAnew 43 = .ok (.goto 5, 3) := by decide +kernel
theorem dX5_startAnew_46 : decode cX5_startAnew 46 = .ok (.bipush 30, 2) := by decide +kernel
theorem dX5_startAnew_48 : decode cX5_startAnew 48 = .ok (.iastore, 1) := by decide +kernel
theorem dX5_startAnew_49 : decode cX5_startAnew 49 = .ok (.iinc 1 1, 3) := by decide +kernel
theorem dX5_startAnew_52 : decode cX5_startAnew 52 = .ok (.goto (-26), 3) := by decide +kernel
theorem dX5_startAnew_55 : decode cX5_startAnew 55 = .ok (.aload_n 0, 1) := by decide +kernel
theorem dX5_startAnew_56 : decode cX5_startAnew 56 = .ok (.iconst 0, 1) := by decide +kernel
theorem dX5_startAnew_57 : decode cX5_startAnew 57 = .ok (.putfield 36, 3) := by decide +kernel
theorem dX5_startAnew_60 : decode cX5_startAnew 60 = .ok (.aload_n 0, 1) := by decide +kernel
theorem dX5_startAnew_61 : decode cX5_startAnew 61 = .ok (.iconst 0, 1) := by decide +kernel
theorem dX5_startAnew_62 : decode cX5_startAnew 62 = .ok (.putfield 40, 3) := by decide +kernel
theorem dX5_startAnew_65 : decode cX5_startAnew 65 = .ok (.return_, 1) := by decide +kernel
theorem dX5_become_0 : decode cX5_become 0 = .ok (.aload_n 1, 1) := by decide +kernel
theorem dX5_become_1 : decode cX5_become 1 = .ok (.getfield 9, 3) := by decide +kernel
theorem dX5_become_4 : decode cX5_become 4 = .ok (.iconst 0, 1) := by decide +kernel
theorem dX5_become_5 : decode cX5_become 5 = .ok (.aload_n 0, 1) := by decide +kernel
theorem dX5_become_6 : decode cX5_become 6 = .ok (.getfield 9, 3) := by decide +kernel
theorem dX5_become_9 : decode cX5_become 9 = .ok (.iconst 0, 1) := by decide +kernel
theorem dX5_become_10 : decode cX5_become 10 = .ok (.iconst 4, 1) := by decide +kernel
theorem dX5_become_11 : decode cX5_become 11 = .ok (.invokestatic 52, 3) := by decide +kernel
theorem dX5_become_14 : decode cX5_become 14 = .ok (.aload_n 1, 1) := by decide +kernel
theorem dX5_become_15 : decode cX5_become 15 = .ok (.getfield 15, 3) := by decide +kernel
theorem dX5_become_18 : decode cX5_become 18 = .ok (.iconst 0, 1) := by decide +kernel
theorem dX5_become_19 : decode cX5_become 19 = .ok (.aload_n 0, 1) := by decide +kernel
theorem dX5_become_20 : decode cX5_become 20 = .ok (.getfield 15, 3) := by decide +kernel
theorem dX5_become_23 : decode cX5_become 23 = .ok (.iconst 0, 1) := by decide +kernel
theorem dX5_become_24 : decode cX5_become 24 = .ok (.bipush 6, 2) := by decide +kernel
theorem dX5_become_26 : decode cX5_become 26 = .ok (.invokestatic 52, 3) := by decide +kernel
theorem dX5_become_29 : decode cX5_become 29 = .ok (.aload_n 1, 1) := by decide +kernel
theorem dX5_become_30 : decode cX5_become 30 = .ok (.getfield 18, 3) := by decide +kernel
theorem dX5_become_33 : decode cX5_become 33 = .ok (.iconst 0, 1) := by decide +kernel
theorem dX5_become_34 : decode cX5_become 34 = .ok (.aload_n 0, 1) := by decide +kernel
theorem dX5_become_35 : decode cX5_become 35 = .ok (.getfield 18, 3) := by decide +kernel
theorem dX5_become_38 : decode cX5_become 38 = .ok (.iconst 0, 1) := by decide +kernel
theorem dX5_become_39 : decode cX5_become 39 = .ok (.bipush 8, 2) := by decide +kernel
theorem dX5_become_41 : decode cX5_become 41 = .ok (.invokestatic 52, 3) := by decide +kernel
theorem dX5_become_44 : decode cX5_become 44 = .ok (.aload_n 1, 1) := by decide +kernel
theorem dX5_become_45 : decode cX5_become 45 = .ok (.getfield 21, 3) := by decide +kernel
theorem dX5_become_48 : decode cX5_become 48 = .ok (.iconst 0, 1) := by decide +kernel
theorem dX5_become_49 : decode cX5_become 49 = .ok (.aload_n 0, 1) := by decide +kernel
theorem dX5_become_50 : decode cX5_become 50 = .ok (.getfield 21, 3) := by decide +kernel
theorem dX5_become_53 : decode cX5_become 53 = .ok (.iconst 0, 1) := by decide +kernel
theorem dX5_become_54 : decode cX5_become 54 = .ok (.bipush 8, 2) := by decide +kernel
theorem dX5_become_56 : decode cX5_become 56 = .ok (.invokestatic 52, 3) := by decide +kernel
theorem dX5_become_59 : decode cX5_become 59 = .ok (.aload_n 1, 1) := by decide +kernel
theorem dX5_become_60 : decode cX5_become 60 = .ok (.getfield 24, 3) := by decide +kernel
theorem dX5_become_63 : decode cX5_become 63 = .ok (.iconst 0, 1) := by decide +kernel
theorem dX5_become_64 : decode cX5_become 64 = .ok (.aload_n 0, 1) := by decide +kernel
theorem dX5_become_65 : decode cX5_become 65 = .ok (.getfield 24, 3) := by decide +kernel
theorem dX5_become_68 : decode cX5_become 68 = .ok (.iconst 0, 1) := by decide +kernel
theorem dX5_become_69 : decode cX5_become 69 = .ok (.bipush 8, 2) := by decide +kernel
theorem dX5_become_71 : decode cX5_become 71 = .ok (.invokestatic 52, 3) := by decide +kernel
theorem dX5_become_74 : decode cX5_become 74 = .ok (.aload_n 1, 1) := by decide +kernel
theorem dX5_become_75 : decode cX5_become 75 = .ok (.getfield 27, 3) := by decide +kernel
theorem dX5_become_78 : decode cX5_become 78 = .ok (.iconst 0, 1) := by decide +kernel
theorem dX5_become_79 : decode cX5_become 79 = .ok (.aload_n 0, 1) := by decide +kernel
theorem dX5_become_80 : decode cX5_become 80 = .ok (.getfield 27, 3) := by decide +kernel
theorem dX5_become_83 : decode cX5_become 83 = .ok (.iconst 0, 1) := by decide +kernel
theorem dX5_become_84 : decode cX5_become 84 = .ok (.bipush 8, 2) := by decide +kernel
theorem dX5_become_86 : decode cX5_become 86 = .ok (.invokestatic 52, 3) := by decide +kernel
theorem dX5_become_89 : decode cX5_become 89 = .ok (.aload_n 1, 1) := by decide +kernel
theorem dX5_become_90 : decode cX5_become 90 = .ok (.getfield 30, 3) := by decide +kernel
theorem dX5_become_93 : decode cX5_become 93 = .ok (.iconst 0, 1) := by decide +kernel
theorem dX5_become_94 : decode cX5_become 94 = .ok (.aload_n 0, 1) := by decide +kernel
theorem dX5_become_95 : decode cX5_become 95 = .ok (.getfield 30, 3) := by decide +kernel
theorem dX5_become_98 : decode cX5_become 98 = .ok (.iconst 0, 1) := by decide +kernel
theorem dX5_become_99 : decode cX5_become 99 = .ok (.bipush 8, 2) := by decide +kernel
theorem dX5_become_101 : decode cX5_become 101 = .ok (.invokestatic 52, 3) := by decide +kernel
theorem dX5_become_104 : decode cX5_become 104 = .ok (.aload_n 0, 1) := by decide +kernel
theorem dX5_become_105 : decode cX5_become 105 = .ok (.aload_n 1, 1) := by decide +kernel
theorem dX5_become_106 : decode cX5_become 106 = .ok (.getfield 36, 3) := by decide +kernel
theorem dX5_become_109 : decode cX5_become 109 = .ok (.putfield 36, 3) := by decide +kernel
theorem dX5_become_112 : decode cX5_become 112 = .ok (.aload_n 0, 1) := by decide +kernel
theorem dX5_become_113 : decode cX5_become 113 = .ok (.aload_n 1, 1) := by decide +kernel
theorem dX5_become_114 : decode cX5_become 114 = .ok (.getfield 40, 3) := by decide +kernel
theorem dX5_become_117 : decode cX5_become 117 = .ok (.putfield 40, 3) := by decide +kernel
theorem dX5_become_120 : decode cX5_become 120 = .ok (.aload_n 0, 1) := by decide +kernel
theorem dX5_become_121 : decode cX5_become 121 = .ok (.aload_n 1, 1) := by decide +kernel
theorem dX5_become_122 : decode cX5_become 122 = .ok (.getfield 43, 3) := by decide +kernel
theorem dX5_become_125 : decode cX5_become 125 = .ok (.putfield 43, 3) := by decide +kernel
theorem dX5_become_128 : decode cX5_become 128 = .ok (.return_, 1) := by decide +kernel
theorem dX5_admit_0 : decode cX5_admit 0 = .ok (.aload_n 0, 1) := by decide +kernel
theorem dX5_admit_1 : decode cX5_admit 1 = .ok (.getfield 36, 3) := by decide +kernel
theorem dX5_admit_4 : decode cX5_admit 4 = .ok (.bipush 8, 2) := by decide +kernel
theorem dX5_admit_6 : decode cX5_admit 6 = .ok (.if_icmp .lt 6, 3) := by decide +kernel
theorem dX5_admit_9 : decode cX5_admit 9 = .ok (.bipush (-2), 2) := by decide +kernel
theorem dX5_admit_11 : decode cX5_admit 11 = .ok (.ireturn, 1) := by decide +kernel
theorem dX5_admit_12 : decode cX5_admit 12 = .ok (.aload_n 0, 1) := by decide +kernel
theorem dX5_admit_13 : decode cX5_admit 13 = .ok (.getfield 36, 3) := by decide +kernel
theorem dX5_admit_16 : decode cX5_admit 16 = .ok (.istore 5, 2) := by decide +kernel
theorem dX5_admit_18 : decode cX5_admit 18 = .ok (.aload_n 0, 1) := by decide +kernel
theorem dX5_admit_19 : decode cX5_admit 19 = .ok (.getfield 18, 3) := by decide +kernel
theorem dX5_admit_22 : decode cX5_admit 22 = .ok (.iload 5, 2) := by decide +kernel
theorem dX5_admit_24 : decode cX5_admit 24 = .ok (.iload_n 1, 1) := by decide +kernel
theorem dX5_admit_25 : decode cX5_admit 25 = .ok (.iastore, 1) := by decide +kernel
theorem dX5_admit_26 : decode cX5_admit 26 = .ok (.aload_n 0, 1) := by decide +kernel
theorem dX5_admit_27 : decode cX5_admit 27 = .ok (.getfield 21, 3) := by decide +kernel
theorem dX5_admit_30 : decode cX5_admit 30 = .ok (.iload 5, 2) := by decide +kernel
theorem dX5_admit_32 : decode cX5_admit 32 = .ok (.iload_n 2, 1) := by decide +kernel
theorem dX5_admit_33 : decode cX5_admit 33 = .ok (.iastore, 1) := by decide +kernel
theorem dX5_admit_34 : decode cX5_admit 34 = .ok (.aload_n 0, 1) := by decide +kernel
theorem dX5_admit_35 : decode cX5_admit 35 = .ok (.getfield 24, 3) := by decide +kernel
theorem dX5_admit_38 : decode cX5_admit 38 = .ok (.iload 5, 2) := by decide +kernel
theorem dX5_admit_40 : decode cX5_admit 40 = .ok (.iload_n 3, 1) := by decide +kernel
theorem dX5_admit_41 : decode cX5_admit 41 = .ok (.iastore, 1) := by decide +kernel
theorem dX5_admit_42 : decode cX5_admit 42 = .ok (.aload_n 0, 1) := by decide +kernel
theorem dX5_admit_43 : decode cX5_admit 43 = .ok (.getfield 27, 3) := by decide +kernel
theorem dX5_admit_46 : decode cX5_admit 46 = .ok (.iload 5, 2) := by decide +kernel
theorem dX5_admit_48 : decode cX5_admit 48 = .ok (.iload 4, 2) := by decide +kernel
theorem dX5_admit_50 : decode cX5_admit 50 = .ok (.iastore, 1) := by decide +kernel
theorem dX5_admit_51 : decode cX5_admit 51 = .ok (.aload_n 0, 1) := by decide +kernel
theorem dX5_admit_52 : decode cX5_admit 52 = .ok (.getfield 30, 3) := by decide +kernel
theorem dX5_admit_55 : decode cX5_admit 55 = .ok (.iload 5, 2) := by decide +kernel
theorem dX5_admit_57 : decode cX5_admit 57 = .ok (.iconst 0, 1) := by decide +kernel
theorem dX5_admit_58 : decode cX5_admit 58 = .ok (.iastore, 1) := by decide +kernel
theorem dX5_admit_59 : decode cX5_admit 59 = .ok (.aload_n 0, 1) := by decide +kernel
theorem dX5_admit_60 : decode cX5_admit 60 = .ok (.dup, 1) := by decide +kernel
theorem dX5_admit_61 : decode cX5_admit 61 = .ok (.getfield 36, 3) := by decide +kernel
theorem dX5_admit_64 : decode cX5_admit 64 = .ok (.iconst 1, 1) := by decide +kernel
theorem dX5_admit_65 : decode cX5_admit 65 = .ok (.iadd, 1) := by decide +kernel
theorem dX5_admit_66 : decode cX5_admit 66 = .ok (.putfield 36, 3) := by decide +kernel
theorem dX5_admit_69 : decode cX5_admit 69 = .ok (.iload 5, 2) := by decide +kernel
theorem dX5_admit_71 : decode cX5_admit 71 = .ok (.ireturn, 1) := by decide +kernel
theorem dX5_alter_0 : decode cX5_alter 0 = .ok (.iload_n 2, 1) := by decide +kernel
theorem dX5_alter_1 : decode cX5_alter 1 = .ok (.lookupswitch 47 #[(0, 27), (1, 37)], 27) := by decide +kernel
theorem dX5_alter_28 : decode cX5_alter 28 = .ok (.aload_n 0, 1) := by decide +kernel
theorem dX5_alter_29 : decode cX5_alter 29 = .ok (.getfield 18, 3) := by decide +kernel
theorem dX5_alter_32 : decode cX5_alter 32 = .ok (.iload_n 1, 1) := by decide +kernel
theorem dX5_alter_33 : decode cX5_alter 33 = .ok (.iload_n 3, 1) := by decide +kernel
theorem dX5_alter_34 : decode cX5_alter 34 = .ok (.iastore, 1) := by decide +kernel
theorem dX5_alter_35 : decode cX5_alter 35 = .ok (.goto 20, 3) := by decide +kernel
theorem dX5_alter_38 : decode cX5_alter 38 = .ok (.aload_n 0, 1) := by decide +kernel
theorem dX5_alter_39 : decode cX5_alter 39 = .ok (.getfield 21, 3) := by decide +kernel
theorem dX5_alter_42 : decode cX5_alter 42 = .ok (.iload_n 1, 1) := by decide +kernel
theorem dX5_alter_43 : decode cX5_alter 43 = .ok (.iload_n 3, 1) := by decide +kernel
theorem dX5_alter_44 : decode cX5_alter 44 = .ok (.iastore, 1) := by decide +kernel
theorem dX5_alter_45 : decode cX5_alter 45 = .ok (.goto 10, 3) := by decide +kernel
theorem dX5_alter_48 : decode cX5_alter 48 = .ok (.aload_n 0, 1) := by decide +kernel
theorem dX5_alter_49 : decode cX5_alter 49 = .ok (.getfield 27, 3) := by decide +kernel
theorem dX5_alter_52 : decode cX5_alter 52 = .ok (.iload_n 1, 1) := by decide +kernel
theorem dX5_alter_53 : decode cX5_alter 53 = .ok (.iload_n 3, 1) := by decide +kernel
theorem dX5_alter_54 : decode cX5_alter 54 = .ok (.iastore, 1) := by decide +kernel
theorem dX5_alter_55 : decode cX5_alter 55 = .ok (.return_, 1) := by decide +kernel
theorem dX5_leanAt_0 : decode cX5_leanAt 0 = .ok (.aload_n 0, 1) := by decide +kernel
theorem dX5_leanAt_1 : decode cX5_leanAt 1 = .ok (.getfield 15, 3) := by decide +kernel
theorem dX5_leanAt_4 : decode cX5_leanAt 4 = .ok (.aload_n 0, 1) := by decide +kernel
theorem dX5_leanAt_5 : decode cX5_leanAt 5 = .ok (.getfield 21, 3) := by decide +kernel
theorem dX5_leanAt_8 : decode cX5_leanAt 8 = .ok (.iload_n 1, 1) := by decide +kernel
theorem dX5_leanAt_9 : decode cX5_leanAt 9 = .ok (.iaload, 1) := by decide +kernel
theorem dX5_leanAt_10 : decode cX5_leanAt 10 = .ok (.iaload, 1) := by decide +kernel
theorem dX5_leanAt_11 : decode cX5_leanAt 11 = .ok (.bipush 10, 2) := by decide +kernel
theorem dX5_leanAt_13 : decode cX5_leanAt 13 = .ok (.idiv, 1) := by decide +kernel
theorem dX5_leanAt_14 : decode cX5_leanAt 14 = .ok (.istore_n 3, 1) := by decide +kernel
theorem dX5_leanAt_15 : decode cX5_leanAt 15 = .ok (.iload_n 2, 1) := by decide +kernel
theorem dX5_leanAt_16 : decode cX5_leanAt 16 = .ok (.bipush 10, 2) := by decide +kernel
theorem dX5_leanAt_18 : decode cX5_leanAt 18 = .ok (.irem, 1) := by decide +kernel
theorem dX5_leanAt_19 : decode cX5_leanAt 19 = .ok (.aload_n 0, 1) := by decide +kernel
theorem dX5_leanAt_20 : decode cX5_leanAt 20 = .ok (.getfield 9, 3) := by decide +kernel
theorem dX5_leanAt_23 : decode cX5_leanAt 23 = .ok (.iconst 0, 1) := by decide +kernel
theorem dX5_leanAt_24 : decode cX5_leanAt 24 = .ok (.iaload, 1) := by decide +kernel
theorem dX5_leanAt_25 : decode cX5_leanAt 25 = .ok (.if_icmp .ne 7, 3) := by decide +kernel
theorem dX5_leanAt_28 : decode cX5_leanAt 28 = .ok (.iload_n 3, 1) := by decide +kernel
theorem dX5_leanAt_29 : decode cX5_leanAt 29 = .ok (.goto 4, 3) := by decide +kernel
theorem dX5_leanAt_32 : decode cX5_leanAt 32 = .ok (.iconst 0, 1) := by decide +kernel
theorem dX5_leanAt_33 : decode cX5_leanAt 33 = .ok (.istore 4, 2) := by decide +kernel
theorem dX5_leanAt_35 : decode cX5_leanAt 35 = .ok (.aload_n 0, 1) := by decide +kernel
theorem dX5_leanAt_36 : decode cX5_leanAt 36 = .ok (.getfield 18, 3) := by decide +kernel
theorem dX5_leanAt_39 : decode cX5_leanAt 39 = .ok (.iload_n 1, 1) := by decide +kernel
theorem dX5_leanAt_40 : decode cX5_leanAt 40 = .ok (.iaload, 1) := by decide +kernel
theorem dX5_leanAt_41 : decode cX5_leanAt 41 = .ok (.tableswitch 69 1 5 #[35, 47, 40, 52, 67], 35) := by decide +kernel
theorem dX5_leanAt_76 : decode cX5_leanAt 76 = .ok (.iload 4, 2) := by decide +kernel
theorem dX5_leanAt_78 : decode cX5_leanAt 78 = .ok (.iconst 1, 1) := by decide +kernel
theorem dX5_leanAt_79 : decode cX5_leanAt 79 = .ok (.iadd, 1) := by decide +kernel
theorem dX5_leanAt_80 : decode cX5_leanAt 80 = .ok (.ireturn, 1) := by decide +kernel
theorem dX5_leanAt_81 : decode cX5_leanAt 81 = .ok (.iload 4, 2) := by decide +kernel
theorem dX5_leanAt_83 : decode cX5_leanAt 83 = .ok (.iconst 1, 1) := by decide +kernel
theorem dX5_leanAt_84 : decode cX5_leanAt 84 = .ok (.iadd, 1) := by decide +kernel
theorem dX5_leanAt_85 : decode cX5_leanAt 85 = .ok (.iconst 2, 1) := by decide +kernel
theorem dX5_leanAt_86 : decode cX5_leanAt 86 = .ok (.imul, 1) := by decide +kernel
theorem dX5_leanAt_87 : decode cX5_leanAt 87 = .ok (.ireturn, 1) := by decide +kernel
theorem dX5_leanAt_88 : decode cX5_leanAt 88 = .ok (.iload 4, 2) := by decide +kernel
theorem dX5_leanAt_90 : decode cX5_leanAt 90 = .ok (.iconst 1, 1) := by decide +kernel
theorem dX5_leanAt_91 : decode cX5_leanAt 91 = .ok (.isub, 1) := by decide +kernel
theorem dX5_leanAt_92 : decode cX5_leanAt 92 = .ok (.ireturn, 1) := by decide +kernel
theorem dX5_leanAt_93 : decode cX5_leanAt 93 = .ok (.iload 4, 2) := by decide +kernel
theorem dX5_leanAt_95 : decode cX5_leanAt 95 = .ok (.iconst 1, 1) := by decide +kernel
theorem dX5_leanAt_96 : decode cX5_leanAt 96 = .ok (.isub, 1) := by decide +kernel
theorem dX5_leanAt_97 : decode cX5_leanAt 97 = .ok (.aload_n 0, 1) := by decide +kernel
theorem dX5_leanAt_98 : decode cX5_leanAt 98 = .ok (.getfield 24, 3) := by decide +kernel
theorem dX5_leanAt_101 : decode cX5_leanAt 101 = .ok (.iload_n 1, 1) := by decide +kernel
theorem dX5_leanAt_102 : decode cX5_leanAt 102 = .ok (.iaload, 1) := by decide +kernel
theorem dX5_leanAt_103 : decode cX5_leanAt 103 = .ok (.bipush 10, 2) := by decide +kernel
theorem dX5_leanAt_105 : decode cX5_leanAt 105 = .ok (.idiv, 1) := by decide +kernel
theorem dX5_leanAt_106 : decode cX5_leanAt 106 = .ok (.iadd, 1) := by decide +kernel
theorem dX5_leanAt_107 : decode cX5_leanAt 107 = .ok (.ireturn, 1) := by decide +kernel
theorem dX5_leanAt_108 : decode cX5_leanAt 108 = .ok (.iload_n 3, 1) := by decide +kernel
theorem dX5_leanAt_109 : decode cX5_leanAt 109 = .ok (.ireturn, 1) := by decide +kernel
theorem dX5_leanAt_110 : decode cX5_leanAt 110 = .ok (.iload 4, 2) := by decide +kernel
theorem dX5_leanAt_112 : decode cX5_leanAt 112 = .ok (.ireturn, 1) := by decide +kernel
theorem dX5_strideOf_0 : decode cX5_strideOf 0 = .ok (.iconst 1, 1) := by decide +kernel
theorem dX5_strideOf_1 : decode cX5_strideOf 1 = .ok (.istore_n 2, 1) := by decide +kernel
theorem dX5_strideOf_2 : decode cX5_strideOf 2 = .ok (.aload_n 0, 1) := by decide +kernel
theorem dX5_strideOf_3 : decode cX5_strideOf 3 = .ok (.getfield 18, 3) := by decide +kernel
theorem dX5_strideOf_6 : decode cX5_strideOf 6 = .ok (.iload_n 1, 1) := by decide +kernel
theorem dX5_strideOf_7 : decode cX5_strideOf 7 = .ok (.iaload, 1) := by decide +kernel
theorem dX5_strideOf_8 : decode cX5_strideOf 8 = .ok (.tableswitch 68 1 5 #[36, 46, 40, 55, 66], 36) := by decide +kernel
theorem dX5_strideOf_44 : decode cX5_strideOf 44 = .ok (.iload_n 2, 1) := by decide +kernel
theorem dX5_strideOf_45 : decode cX5_strideOf 45 = .ok (.iconst 1, 1) := by decide +kernel
theorem dX5_strideOf_46 : decode cX5_strideOf 46 = .ok (.iadd, 1) := by decide +kernel
theorem dX5_strideOf_47 : decode cX5_strideOf 47 = .ok (.ireturn, 1) := by decide +kernel
theorem dX5_strideOf_48 : decode cX5_strideOf 48 = .ok (.iload_n 2, 1) := by decide +kernel
theorem dX5_strideOf_49 : decode cX5_strideOf 49 = .ok (.iconst 1, 1) := by decide +kernel
theorem dX5_strideOf_50 : decode cX5_strideOf 50 = .ok (.iadd, 1) := by decide +kernel
theorem dX5_strideOf_51 : decode cX5_strideOf 51 = .ok (.iconst 3, 1) := by decide +kernel
theorem dX5_strideOf_52 : decode cX5_strideOf 52 = .ok (.isub, 1) := by decide +kernel
theorem dX5_strideOf_53 : decode cX5_strideOf 53 = .ok (.ireturn, 1) := by decide +kernel
theorem dX5_strideOf_54 : decode cX5_strideOf 54 = .ok (.iload_n 2, 1) := by decide +kernel
theorem dX5_strideOf_55 : decode cX5_strideOf 55 = .ok (.aload_n 0, 1) := by decide +kernel
theorem dX5_strideOf_56 : decode cX5_strideOf 56 = .ok (.getfield 9, 3) := by decide +kernel
theorem dX5_strideOf_59 : decode cX5_strideOf 59 = .ok (.iconst 1, 1) := by decide +kernel
theorem dX5_strideOf_60 : decode cX5_strideOf 60 = .ok (.iaload, 1) := by decide +kernel
theorem dX5_strideOf_61 : decode cX5_strideOf 61 = .ok (.iadd, 1) := by decide +kernel
theorem dX5_strideOf_62 : decode cX5_strideOf 62 = .ok (.ireturn, 1) := by decide +kernel
theorem dX5_strideOf_63 : decode cX5_strideOf 63 = .ok (.iload_n 2, 1) := by decide +kernel
theorem dX5_strideOf_64 : decode cX5_strideOf 64 = .ok (.aload_n 0, 1) := by decide +kernel
theorem dX5_strideOf_65 : decode cX5_strideOf 65 = .ok (.getfield 9, 3) := by decide +kernel
theorem dX5_strideOf_68 : decode cX5_strideOf 68 = .ok (.iconst 1, 1) := by decide +kernel
theorem dX5_strideOf_69 : decode cX5_strideOf 69 = .ok (.iaload, 1) := by decide +kernel
theorem dX5_strideOf_70 : decode cX5_strideOf 70 = .ok (.iadd, 1) := by decide +kernel
theorem dX5_strideOf_71 : decode cX5_strideOf 71 = .ok (.iconst 2, 1) := by decide +kernel
theorem dX5_strideOf_72 : decode cX5_strideOf 72 = .ok (.imul, 1) := by decide +kernel
theorem dX5_strideOf_73 : decode cX5_strideOf 73 = .ok (.ireturn, 1) := by decide +kernel
theorem dX5_strideOf_74 : decode cX5_strideOf 74 = .ok (.iconst 0, 1) := by decide +kernel
theorem dX5_strideOf_75 : decode cX5_strideOf 75 = .ok (.ireturn, 1) := by decide +kernel
theorem dX5_strideOf_76 : decode cX5_strideOf 76 = .ok (.iload_n 2, 1) := by decide +kernel
theorem dX5_strideOf_77 : decode cX5_strideOf 77 = .ok (.ireturn, 1) := by decide +kernel
theorem dX5_spendHours_0 : decode cX5_spendHours 0 = .ok (.iconst 0, 1) := by decide +kernel
theorem dX5_spendHours_1 : decode cX5_spendHours 1 = .ok (.istore_n 2, 1) := by decide +kernel
theorem dX5_spendHours_2 : decode cX5_spendHours 2 = .ok (.iload_n 2, 1) := by decide +kernel
theorem dX5_spendHours_3 : decode cX5_spendHours 3 = .ok (.iload_n 1, 1) := by decide +kernel
theorem dX5_spendHours_4 : decode cX5_spendHours 4 = .ok (.if_icmp .ge 13, 3) := by decide +kernel
theorem dX5_spendHours_7 : decode cX5_spendHours 7 = .ok (.aload_n 0, 1) := by decide +kernel
theorem dX5_spendHours_8 : decode cX5_spendHours 8 = .ok (.invokevirtual 58, 3) := by decide +kernel
theorem dX5_spendHours_11 : decode cX5_spendHours 11 = .ok (.iinc 2 1, 3) := by decide +kernel
theorem dX5_spendHours_14 : decode cX5_spendHours 14 = .ok (.goto (-12), 3) := by decide +kernel
theorem dX5_spendHours_17 : decode cX5_spendHours 17 = .ok (.return_, 1) := by decide +kernel
theorem dX5_spendHour_0 : decode cX5_spendHour 0 = .ok (.iconst 0, 1) := by decide +kernel
theorem dX5_spendHour_1 : decode cX5_spendHour 1 = .ok (.istore_n 1, 1) := by decide +kernel
theorem dX5_spendHour_2 : decode cX5_spendHour 2 = .ok (.iload_n 1, 1) := by decide +kernel
theorem dX5_spendHour_3 : decode cX5_spendHour 3 = .ok (.aload_n 0, 1) := by decide +kernel
theorem dX5_spendHour_4 : decode cX5_spendHour 4 = .ok (.getfield 36, 3) := by decide +kernel
theorem dX5_spendHour_7 : decode cX5_spendHour 7 = .ok (.if_icmp .ge 47, 3) := by decide +kernel
theorem dX5_spendHour_10 : decode cX5_spendHour 10 = .ok (.aload_n 0, 1) := by decide +kernel
theorem dX5_spendHour_11 : decode cX5_spendHour 11 = .ok (.getfield 27, 3) := by decide +kernel
theorem dX5_spendHour_14 : decode cX5_spendHour 14 = .ok (.iload_n 1, 1) := by decide +kernel
theorem dX5_spendHour_15 : decode cX5_spendHour 15 = .ok (.aload_n 0, 1) := by decide +kernel
theorem dX5_spendHour_16 : decode cX5_spendHour 16 = .ok (.getfield 27, 3) := by decide +kernel
theorem dX5_spendHour_19 : decode cX5_spendHour 19 = .ok (.iload_n 1, 1) := by decide +kernel
theorem dX5_spendHour_20 : decode cX5_spendHour 20 = .ok (.iaload, 1) := by decide +kernel
theorem dX5_spendHour_21 : decode cX5_spendHour 21 = .ok (.aload_n 0, 1) := by decide +kernel
theorem dX5_spendHour_22 : decode cX5_spendHour 22 = .ok (.iload_n 1, 1) := by decide +kernel
theorem dX5_spendHour_23 : decode cX5_spendHour 23 = .ok (.invokevirtual 61, 3) := by decide +kernel
theorem dX5_spendHour_26 : decode cX5_spendHour 26 = .ok (.iadd, 1) := by decide +kernel
theorem dX5_spendHour_27 : decode cX5_spendHour 27 = .ok (.bipush 12, 2) := by decide +kernel
theorem dX5_spendHour_29 : decode cX5_spendHour 29 = .ok (.invokestatic 65, 3) := by decide +kernel
theorem dX5_spendHour_32 : decode cX5_spendHour 32 = .ok (.iastore, 1) := by decide +kernel
theorem dX5_spendHour_33 : decode cX5_spendHour 33 = .ok (.aload_n 0, 1) := by decide +kernel
theorem dX5_spendHour_34 : decode cX5_spendHour 34 = .ok (.getfield 33, 3) := by decide +kernel
theorem dX5_spendHour_37 : decode cX5_spendHour 37 = .ok (.iload_n 1, 1) := by decide +kernel
theorem dX5_spendHour_38 : decode cX5_spendHour 38 = .ok (.aload_n 0, 1) := by decide +kernel
theorem dX5_spendHour_39 : decode cX5_spendHour 39 = .ok (.iload_n 1, 1) := by decide +kernel
theorem dX5_spendHour_40 : decode cX5_spendHour 40 = .ok (.aload_n 0, 1) := by decide +kernel
theorem dX5_spendHour_41 : decode cX5_spendHour 41 = .ok (.getfield 40, 3) := by decide +kernel
theorem dX5_spendHour_44 : decode cX5_spendHour 44 = .ok (.invokevirtual 71, 3) := by decide +kernel
theorem dX5_spendHour_47 : decode cX5_spendHour 47 = .ok (.iastore, 1) := by decide +kernel
theorem dX5_spendHour_48 : decode cX5_spendHour 48 = .ok (.iinc 1 1, 3) := by decide +kernel
theorem dX5_spendHour_51 : decode cX5_spendHour 51 = .ok (.goto (-49), 3) := by decide +kernel
theorem dX5_spendHour_54 : decode cX5_spendHour 54 = .ok (.iconst 0, 1) := by decide +kernel
theorem dX5_spendHour_55 : decode cX5_spendHour 55 = .ok (.istore_n 1, 1) := by decide +kernel
theorem dX5_spendHour_56 : decode cX5_spendHour 56 = .ok (.iload_n 1, 1) := by decide +kernel
theorem dX5_spendHour_57 : decode cX5_spendHour 57 = .ok (.aload_n 0, 1) := by decide +kernel
theorem dX5_spendHour_58 : decode cX5_spendHour 58 = .ok (.getfield 36, 3) := by decide +kernel
theorem dX5_spendHour_61 : decode cX5_spendHour 61 = .ok (.if_icmp .ge 42, 3) := by decide +kernel
theorem dX5_spendHour_64 : decode cX5_spendHour 64 = .ok (.iload_n 1, 1) := by decide +kernel
theorem dX5_spendHour_65 : decode cX5_spendHour 65 = .ok (.iconst 1, 1) := by decide +kernel
theorem dX5_spendHour_66 : decode cX5_spendHour 66 = .ok (.iadd, 1) := by decide +kernel
theorem dX5_spendHour_67 : decode cX5_spendHour 67 = .ok (.istore_n 2, 1) := by decide +kernel
theorem dX5_spendHour_68 : decode cX5_spendHour 68 = .ok (.iload_n 2, 1) := by decide +kernel
theorem dX5_spendHour_69 : decode cX5_spendHour 69 = .ok (.aload_n 0, 1) := by decide +kernel
theorem dX5_spendHour_70 : decode cX5_spendHour 70 = .ok (.getfield 36, 3) := by decide +kernel
theorem dX5_spendHour_73 : decode cX5_spendHour 73 = .ok (.if_icmp .ge 24, 3) := by decide +kernel
theorem dX5_spendHour_76 : decode cX5_spendHour 76 = .ok (.aload_n 0, 1) := by decide +kernel
theorem dX5_spendHour_77 : decode cX5_spendHour 77 = .ok (.iload_n 1, 1) := by decide +kernel
theorem dX5_spendHour_78 : decode cX5_spendHour 78 = .ok (.iload_n 2, 1) := by decide +kernel
theorem dX5_spendHour_79 : decode cX5_spendHour 79 = .ok (.invokevirtual 74, 3) := by decide +kernel
theorem dX5_spendHour_82 : decode cX5_spendHour 82 = .ok (.ifCond .eq 9, 3) := by decide +kernel
theorem dX5_spendHour_85 : decode cX5_spendHour 85 = .ok (.aload_n 0, 1) := by decide +kernel
theorem dX5_spendHour_86 : decode cX5_spendHour 86 = .ok (.iload_n 1, 1) := by decide +kernel
theorem dX5_spendHour_87 : decode cX5_spendHour 87 = .ok (.iload_n 2, 1) := by decide +kernel
theorem dX5_spendHour_88 : decode cX5_spendHour 88 = .ok (.invokevirtual 78, 3) := by decide +kernel
theorem dX5_spendHour_91 : decode cX5_spendHour 91 = .ok (.iinc 2 1, 3) := by decide +kernel
theorem dX5_spendHour_94 : decode cX5_spendHour 94 = .ok (.goto (-26), 3) := by decide +kernel
theorem dX5_spendHour_97 : decode cX5_spendHour 97 = .ok (.iinc 1 1, 3) := by decide +kernel
theorem dX5_spendHour_100 : decode cX5_spendHour 100 = .ok (.goto (-44), 3) := by decide +kernel
theorem dX5_spendHour_103 : decode cX5_spendHour 103 = .ok (.aload_n 0, 1) := by decide +kernel
theorem dX5_spendHour_104 : decode cX5_spendHour 104 = .ok (.dup, 1) := by decide +kernel
theorem dX5_spendHour_105 : decode cX5_spendHour 105 = .ok (.getfield 40, 3) := by decide +kernel
theorem dX5_spendHour_108 : decode cX5_spendHour 108 = .ok (.iconst 1, 1) := by decide +kernel
theorem dX5_spendHour_109 : decode cX5_spendHour 109 = .ok (.iadd, 1) := by decide +kernel
theorem dX5_spendHour_110 : decode cX5_spendHour 110 = .ok (.putfield 40, 3) := by decide +kernel
theorem dX5_spendHour_113 : decode cX5_spendHour 113 = .ok (.return_, 1) := by decide +kernel
theorem dX5_findEachOther_0 : decode cX5_findEachOther 0 = .ok (.aload_n 0, 1) := by decide +kernel
theorem dX5_findEachOther_1 : decode cX5_findEachOther 1 = .ok (.getfield 27, 3) := by decide +kernel
theorem dX5_findEachOther_4 : decode cX5_findEachOther 4 = .ok (.iload_n 1, 1) := by decide +kernel
theorem dX5_findEachOther_5 : decode cX5_findEachOther 5 = .ok (.iaload, 1) := by decide +kernel
theorem dX5_findEachOther_6 : decode cX5_findEachOther 6 = .ok (.aload_n 0, 1) := by decide +kernel
theorem dX5_findEachOther_7 : decode cX5_findEachOther 7 = .ok (.getfield 27, 3) := by decide +kernel
theorem dX5_findEachOther_10 : decode cX5_findEachOther 10 = .ok (.iload_n 2, 1) := by decide +kernel
theorem dX5_findEachOther_11 : decode cX5_findEachOther 11 = .ok (.iaload, 1) := by decide +kernel
theorem dX5_findEachOther_12 : decode cX5_findEachOther 12 = .ok (.if_icmp .ne 59, 3) := by decide +kernel
theorem dX5_findEachOther_15 : decode cX5_findEachOther 15 = .ok (.aload_n 0, 1) := by decide +kernel
theorem dX5_findEachOther_16 : decode cX5_findEachOther 16 = .ok (.iload_n 1, 1) := by decide +kernel
theorem dX5_findEachOther_17 : decode cX5_findEachOther 17 = .ok (.iload_n 2, 1) := by decide +kernel
theorem dX5_findEachOther_18 : decode cX5_findEachOther 18 = .ok (.invokevirtual 82, 3) := by decide +kernel
theorem dX5_findEachOther_21 : decode cX5_findEachOther 21 = .ok (.ifCond .eq 50, 3) := by decide +kernel
theorem dX5_findEachOther_24 : decode cX5_findEachOther 24 = .ok (.aload_n 0, 1) := by decide +kernel
theorem dX5_findEachOther_25 : decode cX5_findEachOther 25 = .ok (.getfield 33, 3) := by decide +kernel
theorem dX5_findEachOther_28 : decode cX5_findEachOther 28 = .ok (.iload_n 1, 1) := by decide +kernel
theorem dX5_findEachOther_29 : decode cX5_findEachOther 29 = .ok (.iaload, 1) := by decide +kernel
theorem dX5_findEachOther_30 : decode cX5_findEachOther 30 = .ok (.ifCond .eq 41, 3) := by decide +kernel
theorem dX5_findEachOther_33 : decode cX5_findEachOther 33 = .ok (.aload_n 0, 1) := by decide +kernel
theorem dX5_findEachOther_34 : decode cX5_findEachOther 34 = .ok (.getfield 33, 3) := by decide +kernel
theorem dX5_findEachOther_37 : decode cX5_findEachOther 37 = .ok (.iload_n 2, 1) := by decide +kernel
theorem dX5_findEachOther_38 : decode cX5_findEachOther 38 = .ok (.iaload, 1) := by decide +kernel
theorem dX5_findEachOther_39 : decode cX5_findEachOther 39 = .ok (.ifCond .eq 32, 3) := by decide +kernel
theorem dX5_findEachOther_42 : decode cX5_findEachOther 42 = .ok (.aload_n 0, 1) := by decide +kernel
theorem dX5_findEachOther_43 : decode cX5_findEachOther 43 = .ok (.getfield 33, 3) := by decide +kernel
theorem dX5_findEachOther_46 : decode cX5_findEachOther 46 = .ok (.iload_n 1, 1) := by decide +kernel
theorem dX5_findEachOther_47 : decode cX5_findEachOther 47 = .ok (.iaload, 1) := by decide +kernel
theorem dX5_findEachOther_48 : decode cX5_findEachOther 48 = .ok (.aload_n 0, 1) := by decide +kernel
theorem dX5_findEachOther_49 : decode cX5_findEachOther 49 = .ok (.getfield 33, 3) := by decide +kernel
theorem dX5_findEachOther_52 : decode cX5_findEachOther 52 = .ok (.iload_n 2, 1) := by decide +kernel
theorem dX5_findEachOther_53 : decode cX5_findEachOther 53 = .ok (.iaload, 1) := by decide +kernel
theorem dX5_findEachOther_54 : decode cX5_findEachOther 54 = .ok (.isub, 1) := by decide +kernel
theorem dX5_findEachOther_55 : decode cX5_findEachOther 55 = .ok (.invokestatic 85, 3) := by decide +kernel
theorem dX5_findEachOther_58 : decode cX5_findEachOther 58 = .ok (.aload_n 0, 1) := by decide +kernel
theorem dX5_findEachOther_59 : decode cX5_findEachOther 59 = .ok (.getfield 9, 3) := by decide +kernel
theorem dX5_findEachOther_62 : decode cX5_findEachOther 62 = .ok (.iconst 2, 1) := by decide +kernel
theorem dX5_findEachOther_63 : decode cX5_findEachOther 63 = .ok (.iaload, 1) := by decide +kernel
theorem dX5_findEachOther_64 : decode cX5_findEachOther 64 = .ok (.if_icmp .gt 7, 3) := by decide +kernel
theorem dX5_findEachOther_67 : decode cX5_findEachOther 67 = .ok (.iconst 1, 1) := by decide +kernel
theorem dX5_findEachOther_68 : decode cX5_findEachOther 68 = .ok (.goto 4, 3) := by decide +kernel
theorem dX5_findEachOther_71 : decode cX5_findEachOther 71 = .ok (.iconst 0, 1) := by decide +kernel
theorem dX5_findEachOther_72 : decode cX5_findEachOther 72 = .ok (.ireturn, 1) := by decide +kernel
theorem dX5_areAlike_0 : decode cX5_areAlike 0 = .ok (.aload_n 0, 1) := by decide +kernel
theorem dX5_areAlike_1 : decode cX5_areAlike 1 = .ok (.getfield 21, 3) := by decide +kernel
theorem dX5_areAlike_4 : decode cX5_areAlike 4 = .ok (.iload_n 1, 1) := by decide +kernel
theorem dX5_areAlike_5 : decode cX5_areAlike 5 = .ok (.iaload, 1) := by decide +kernel
theorem dX5_areAlike_6 : decode cX5_areAlike 6 = .ok (.aload_n 0, 1) := by decide +kernel
theorem dX5_areAlike_7 : decode cX5_areAlike 7 = .ok (.getfield 21, 3) := by decide +kernel
theorem dX5_areAlike_10 : decode cX5_areAlike 10 = .ok (.iload_n 2, 1) := by decide +kernel
theorem dX5_areAlike_11 : decode cX5_areAlike 11 = .ok (.iaload, 1) := by decide +kernel
theorem dX5_areAlike_12 : decode cX5_areAlike 12 = .ok (.if_icmp .eq 23, 3) := by decide +kernel
theorem dX5_areAlike_15 : decode cX5_areAlike 15 = .ok (.aload_n 0, 1) := by decide +kernel
theorem dX5_areAlike_16 : decode cX5_areAlike 16 = .ok (.getfield 21, 3) := by decide +kernel
theorem dX5_areAlike_19 : decode cX5_areAlike 19 = .ok (.iload_n 1, 1) := by decide +kernel
theorem dX5_areAlike_20 : decode cX5_areAlike 20 = .ok (.iaload, 1) := by decide +kernel
theorem dX5_areAlike_21 : decode cX5_areAlike 21 = .ok (.iconst 5, 1) := by decide +kernel
theorem dX5_areAlike_22 : decode cX5_areAlike 22 = .ok (.if_icmp .eq 13, 3) := by decide +kernel
theorem dX5_areAlike_25 : decode cX5_areAlike 25 = .ok (.aload_n 0, 1) := by decide +kernel
theorem dX5_areAlike_26 : decode cX5_areAlike 26 = .ok (.getfield 21, 3) := by decide +kernel
theorem dX5_areAlike_29 : decode cX5_areAlike 29 = .ok (.iload_n 2, 1) := by decide +kernel
theorem dX5_areAlike_30 : decode cX5_areAlike 30 = .ok (.iaload, 1) := by decide +kernel
theorem dX5_areAlike_31 : decode cX5_areAlike 31 = .ok (.iconst 5, 1) := by decide +kernel
theorem dX5_areAlike_32 : decode cX5_areAlike 32 = .ok (.if_icmp .ne 7, 3) := by decide +kernel
theorem dX5_areAlike_35 : decode cX5_areAlike 35 = .ok (.iconst 1, 1) := by decide +kernel
theorem dX5_areAlike_36 : decode cX5_areAlike 36 = .ok (.goto 4, 3) := by decide +kernel
theorem dX5_areAlike_39 : decode cX5_areAlike 39 = .ok (.iconst 0, 1) := by decide +kernel
theorem dX5_areAlike_40 : decode cX5_areAlike 40 = .ok (.ireturn, 1) := by decide +kernel
theorem dX5_draw_0 : decode cX5_draw 0 = .ok (.aload_n 0, 1) := by decide +kernel
theorem dX5_draw_1 : decode cX5_draw 1 = .ok (.aload_n 0, 1) := by decide +kernel
theorem dX5_draw_2 : decode cX5_draw 2 = .ok (.getfield 43, 3) := by decide +kernel
theorem dX5_draw_5 : decode cX5_draw 5 = .ok (.ldc 88, 2) := by decide +kernel
theorem dX5_draw_7 : decode cX5_draw 7 = .ok (.imul, 1) := by decide +kernel
theorem dX5_draw_8 : decode cX5_draw 8 = .ok (.sipush 12345, 3) := by decide +kernel
theorem dX5_draw_11 : decode cX5_draw 11 = .ok (.iadd, 1) := by decide +kernel
theorem dX5_draw_12 : decode cX5_draw 12 = .ok (.putfield 43, 3) := by decide +kernel
theorem dX5_draw_15 : decode cX5_draw 15 = .ok (.aload_n 0, 1) := by decide +kernel
theorem dX5_draw_16 : decode cX5_draw 16 = .ok (.getfield 43, 3) := by decide +kernel
theorem dX5_draw_19 : decode cX5_draw 19 = .ok (.bipush 16, 2) := by decide +kernel
theorem dX5_draw_21 : decode cX5_draw 21 = .ok (.iushr, 1) := by decide +kernel
theorem dX5_draw_22 : decode cX5_draw 22 = .ok (.ireturn, 1) := by decide +kernel
theorem dX5_spendHourByDraws_0 : decode cX5_spendHourByDraws 0 = .ok (.aload_n 0, 1) := by decide +kernel
theorem dX5_spendHourByDraws_1 : decode cX5_spendHourByDraws 1 = .ok (.getfield 36, 3) := by decide +kernel
theorem dX5_spendHourByDraws_4 : decode cX5_spendHourByDraws 4 = .ok (.ifCond .le 42, 3) := by decide +kernel
theorem dX5_spendHourByDraws_7 : decode cX5_spendHourByDraws 7 = .ok (.aload_n 0, 1) := by decide +kernel
theorem dX5_spendHourByDraws_8 : decode cX5_spendHourByDraws 8 = .ok (.invokevirtual 89, 3) := by decide +kernel
theorem dX5_spendHourByDraws_11 : decode cX5_spendHourByDraws 11 = .ok (.aload_n 0, 1) := by decide +kernel
theorem dX5_spendHourByDraws_12 : decode cX5_spendHourByDraws 12 = .ok (.getfield 36, 3) := by decide +kernel
theorem dX5_spendHourByDraws_15 : decode cX5_spendHourByDraws 15 = .ok (.irem, 1) := by decide +kernel
theorem dX5_spendHourByDraws_16 : decode cX5_spendHourByDraws 16 = .ok (.istore_n 1, 1) := by decide +kernel
theorem dX5_spendHourByDraws_17 : decode cX5_spendHourByDraws 17 = .ok (.aload_n 0, 1) := by decide +kernel
theorem dX5_spendHourByDraws_18 : decode cX5_spendHourByDraws 18 = .ok (.invokevirtual 89, 3) := by decide +kernel
theorem dX5_spendHourByDraws_21 : decode cX5_spendHourByDraws 21 = .ok (.bipush 100, 2) := by decide +kernel
theorem dX5_spendHourByDraws_23 : decode cX5_spendHourByDraws 23 = .ok (.irem, 1) := by decide +kernel
theorem dX5_spendHourByDraws_24 : decode cX5_spendHourByDraws 24 = .ok (.aload_n 0, 1) := by decide +kernel
theorem dX5_spendHourByDraws_25 : decode cX5_spendHourByDraws 25 = .ok (.getfield 9, 3) := by decide +kernel
theorem dX5_spendHourByDraws_28 : decode cX5_spendHourByDraws 28 = .ok (.iconst 3, 1) := by decide +kernel
theorem dX5_spendHourByDraws_29 : decode cX5_spendHourByDraws 29 = .ok (.iaload, 1) := by decide +kernel
theorem dX5_spendHourByDraws_30 : decode cX5_spendHourByDraws 30 = .ok (.if_icmp .ge 16, 3) := by decide +kernel
theorem dX5_spendHourByDraws_33 : decode cX5_spendHourByDraws 33 = .ok (.aload_n 0, 1) := by decide +kernel
theorem dX5_spendHourByDraws_34 : decode cX5_spendHourByDraws 34 = .ok (.getfield 27, 3) := by decide +kernel
theorem dX5_spendHourByDraws_37 : decode cX5_spendHourByDraws 37 = .ok (.iload_n 1, 1) := by decide +kernel
theorem dX5_spendHourByDraws_38 : decode cX5_spendHourByDraws 38 = .ok (.aload_n 0, 1) := by decide +kernel
theorem dX5_spendHourByDraws_39 : decode cX5_spendHourByDraws 39 = .ok (.invokevirtual 89, 3) := by decide +kernel
theorem dX5_spendHourByDraws_42 : decode cX5_spendHourByDraws 42 = .ok (.bipush 12, 2) := by decide +kernel
theorem dX5_spendHourByDraws_44 : decode cX5_spendHourByDraws 44 = .ok (.irem, 1) := by decide +kernel
theorem dX5_spendHourByDraws_45 : decode cX5_spendHourByDraws 45 = .ok (.iastore, 1) := by decide +kernel
theorem dX5_spendHourByDraws_46 : decode cX5_spendHourByDraws 46 = .ok (.aload_n 0, 1) := by decide +kernel
theorem dX5_spendHourByDraws_47 : decode cX5_spendHourByDraws 47 = .ok (.invokevirtual 58, 3) := by decide +kernel
theorem dX5_spendHourByDraws_50 : decode cX5_spendHourByDraws 50 = .ok (.return_, 1) := by decide +kernel
theorem dX5_knowEachOther_0 : decode cX5_knowEachOther 0 = .ok (.aload_n 0, 1) := by decide +kernel
theorem dX5_knowEachOther_1 : decode cX5_knowEachOther 1 = .ok (.getfield 30, 3) := by decide +kernel
theorem dX5_knowEachOther_4 : decode cX5_knowEachOther 4 = .ok (.iload_n 1, 1) := by decide +kernel
theorem dX5_knowEachOther_5 : decode cX5_knowEachOther 5 = .ok (.iaload, 1) := by decide +kernel
theorem dX5_knowEachOther_6 : decode cX5_knowEachOther 6 = .ok (.iload_n 2, 1) := by decide +kernel
theorem dX5_knowEachOther_7 : decode cX5_knowEachOther 7 = .ok (.ishr, 1) := by decide +kernel
theorem dX5_knowEachOther_8 : decode cX5_knowEachOther 8 = .ok (.iconst 1, 1) := by decide +kernel
theorem dX5_knowEachOther_9 : decode cX5_knowEachOther 9 = .ok (.iand, 1) := by decide +kernel
theorem dX5_knowEachOther_10 : decode cX5_knowEachOther 10 = .ok (.iconst 1, 1) := by decide +kernel
theorem dX5_knowEachOther_11 : decode cX5_knowEachOther 11 = .ok (.if_icmp .ne 7, 3) := by decide +kernel
theorem dX5_knowEachOther_14 : decode cX5_knowEachOther 14 = .ok (.iconst 1, 1) := by decide +kernel
theorem dX5_knowEachOther_15 : decode cX5_knowEachOther 15 = .ok (.goto 4, 3) := by decide +kernel
theorem dX5_knowEachOther_18 : decode cX5_knowEachOther 18 = .ok (.iconst 0, 1) := by decide +kernel
theorem dX5_knowEachOther_19 : decode cX5_knowEachOther 19 = .ok (.ireturn, 1) := by decide +kernel
theorem dX5_acquaint_0 : decode cX5_acquaint 0 = .ok (.aload_n 0, 1) := by decide +kernel
theorem dX5_acquaint_1 : decode cX5_acquaint 1 = .ok (.getfield 30, 3) := by decide +kernel
theorem dX5_acquaint_4 : decode cX5_acquaint 4 = .ok (.iload_n 1, 1) := by decide +kernel
theorem dX5_acquaint_5 : decode cX5_acquaint 5 = .ok (.dup2, 1) := by decide +kernel
theorem dX5_acquaint_6 : decode cX5_acquaint 6 = .ok (.iaload, 1) := by decide +kernel
theorem dX5_acquaint_7 : decode cX5_acquaint 7 = .ok (.iconst 1, 1) := by decide +kernel
theorem dX5_acquaint_8 : decode cX5_acquaint 8 = .ok (.iload_n 2, 1) := by decide +kernel
theorem dX5_acquaint_9 : decode cX5_acquaint 9 = .ok (.ishl, 1) := by decide +kernel
theorem dX5_acquaint_10 : decode cX5_acquaint 10 = .ok (.ior, 1) := by decide +kernel
theorem dX5_acquaint_11 : decode cX5_acquaint 11 = .ok (.iastore, 1) := by decide +kernel
theorem dX5_acquaint_12 : decode cX5_acquaint 12 = .ok (.aload_n 0, 1) := by decide +kernel
theorem dX5_acquaint_13 : decode cX5_acquaint 13 = .ok (.getfield 30, 3) := by decide +kernel
theorem dX5_acquaint_16 : decode cX5_acquaint 16 = .ok (.iload_n 2, 1) := by decide +kernel
theorem dX5_acquaint_17 : decode cX5_acquaint 17 = .ok (.dup2, 1) := by decide +kernel
theorem dX5_acquaint_18 : decode cX5_acquaint 18 = .ok (.iaload, 1) := by decide +kernel
theorem dX5_acquaint_19 : decode cX5_acquaint 19 = .ok (.iconst 1, 1) := by decide +kernel
theorem dX5_acquaint_20 : decode cX5_acquaint 20 = .ok (.iload_n 1, 1) := by decide +kernel
theorem dX5_acquaint_21 : decode cX5_acquaint 21 = .ok (.ishl, 1) := by decide +kernel
theorem dX5_acquaint_22 : decode cX5_acquaint 22 = .ok (.ior, 1) := by decide +kernel
theorem dX5_acquaint_23 : decode cX5_acquaint 23 = .ok (.iastore, 1) := by decide +kernel
theorem dX5_acquaint_24 : decode cX5_acquaint 24 = .ok (.return_, 1) := by decide +kernel
theorem dX5_estrange_0 : decode cX5_estrange 0 = .ok (.aload_n 0, 1) := by decide +kernel
theorem dX5_estrange_1 : decode cX5_estrange 1 = .ok (.getfield 30, 3) := by decide +kernel
theorem dX5_estrange_4 : decode cX5_estrange 4 = .ok (.iload_n 1, 1) := by decide +kernel
theorem dX5_estrange_5 : decode cX5_estrange 5 = .ok (.dup2, 1) := by decide +kernel
theorem dX5_estrange_6 : decode cX5_estrange 6 = .ok (.iaload, 1) := by decide +kernel
theorem dX5_estrange_7 : decode cX5_estrange 7 = .ok (.iconst 1, 1) := by decide +kernel
theorem dX5_estrange_8 : decode cX5_estrange 8 = .ok (.iload_n 2, 1) := by decide +kernel
theorem dX5_estrange_9 : decode cX5_estrange 9 = .ok (.ishl, 1) := by decide +kernel
theorem dX5_estrange_10 : decode cX5_estrange 10 = .ok (.iconst (-1), 1) := by decide +kernel
theorem dX5_estrange_11 : decode cX5_estrange 11 = .ok (.ixor, 1) := by decide +kernel
theorem dX5_estrange_12 : decode cX5_estrange 12 = .ok (.iand, 1) := by decide +kernel
theorem dX5_estrange_13 : decode cX5_estrange 13 = .ok (.iastore, 1) := by decide +kernel
theorem dX5_estrange_14 : decode cX5_estrange 14 = .ok (.aload_n 0, 1) := by decide +kernel
theorem dX5_estrange_15 : decode cX5_estrange 15 = .ok (.getfield 30, 3) := by decide +kernel
theorem dX5_estrange_18 : decode cX5_estrange 18 = .ok (.iload_n 2, 1) := by decide +kernel
theorem dX5_estrange_19 : decode cX5_estrange 19 = .ok (.dup2, 1) := by decide +kernel
theorem dX5_estrange_20 : decode cX5_estrange 20 = .ok (.iaload, 1) := by decide +kernel
theorem dX5_estrange_21 : decode cX5_estrange 21 = .ok (.iconst 1, 1) := by decide +kernel
theorem dX5_estrange_22 : decode cX5_estrange 22 = .ok (.iload_n 1, 1) := by decide +kernel
theorem dX5_estrange_23 : decode cX5_estrange 23 = .ok (.ishl, 1) := by decide +kernel
theorem dX5_estrange_24 : decode cX5_estrange 24 = .ok (.iconst (-1), 1) := by decide +kernel
theorem dX5_estrange_25 : decode cX5_estrange 25 = .ok (.ixor, 1) := by decide +kernel
theorem dX5_estrange_26 : decode cX5_estrange 26 = .ok (.iand, 1) := by decide +kernel
theorem dX5_estrange_27 : decode cX5_estrange 27 = .ok (.iastore, 1) := by decide +kernel
theorem dX5_estrange_28 : decode cX5_estrange 28 = .ok (.return_, 1) := by decide +kernel
theorem dX5_knownBy_0 : decode cX5_knownBy 0 = .ok (.aload_n 0, 1) := by decide +kernel
theorem dX5_knownBy_1 : decode cX5_knownBy 1 = .ok (.getfield 30, 3) := by decide +kernel
theorem dX5_knownBy_4 : decode cX5_knownBy 4 = .ok (.iload_n 1, 1) := by decide +kernel
theorem dX5_knownBy_5 : decode cX5_knownBy 5 = .ok (.iaload, 1) := by decide +kernel
theorem dX5_knownBy_6 : decode cX5_knownBy 6 = .ok (.invokestatic 93, 3) := by decide +kernel
theorem dX5_knownBy_9 : decode cX5_knownBy 9 = .ok (.ireturn, 1) := by decide +kernel
theorem dX5_pairs_0 : decode cX5_pairs 0 = .ok (.iconst 0, 1) := by decide +kernel
theorem dX5_pairs_1 : decode cX5_pairs 1 = .ok (.istore_n 1, 1) := by decide +kernel
theorem dX5_pairs_2 : decode cX5_pairs 2 = .ok (.iconst 0, 1) := by decide +kernel
theorem dX5_pairs_3 : decode cX5_pairs 3 = .ok (.istore_n 2, 1) := by decide +kernel
theorem dX5_pairs_4 : decode cX5_pairs 4 = .ok (.iload_n 2, 1) := by decide +kernel
theorem dX5_pairs_5 : decode cX5_pairs 5 = .ok (.aload_n 0, 1) := by decide +kernel
theorem dX5_pairs_6 : decode cX5_pairs 6 = .ok (.getfield 36, 3) := by decide +kernel
theorem dX5_pairs_9 : decode cX5_pairs 9 = .ok (.if_icmp .ge 17, 3) := by decide +kernel
theorem dX5_pairs_12 : decode cX5_pairs 12 = .ok (.iload_n 1, 1) := by decide +kernel
theorem dX5_pairs_13 : decode cX5_pairs 13 = .ok (.aload_n 0, 1) := by decide +kernel
theorem dX5_pairs_14 : decode cX5_pairs 14 = .ok (.iload_n 2, 1) := by decide +kernel
theorem dX5_pairs_15 : decode cX5_pairs 15 = .ok (.invokevirtual 98, 3) := by decide +kernel
theorem dX5_pairs_18 : decode cX5_pairs 18 = .ok (.iadd, 1) := by decide +kernel
theorem dX5_pairs_19 : decode cX5_pairs 19 = .ok (.istore_n 1, 1) := by decide +kernel
theorem dX5_pairs_20 : decode cX5_pairs 20 = .ok (.iinc 2 1, 3) := by decide +kernel
theorem dX5_pairs_23 : decode cX5_pairs 23 = .ok (.goto (-19), 3) := by decide +kernel
theorem dX5_pairs_26 : decode cX5_pairs 26 = .ok (.iload_n 1, 1) := by decide +kernel
theorem dX5_pairs_27 : decode cX5_pairs 27 = .ok (.iconst 2, 1) := by decide +kernel
theorem dX5_pairs_28 : decode cX5_pairs 28 = .ok (.idiv, 1) := by decide +kernel
theorem dX5_pairs_29 : decode cX5_pairs 29 = .ok (.ireturn, 1) := by decide +kernel
theorem dX5_strangers_0 : decode cX5_strangers 0 = .ok (.iconst 0, 1) := by decide +kernel
theorem dX5_strangers_1 : decode cX5_strangers 1 = .ok (.istore_n 1, 1) := by decide +kernel
theorem dX5_strangers_2 : decode cX5_strangers 2 = .ok (.iconst 0, 1) := by decide +kernel
theorem dX5_strangers_3 : decode cX5_strangers 3 = .ok (.istore_n 2, 1) := by decide +kernel
theorem dX5_strangers_4 : decode cX5_strangers 4 = .ok (.iload_n 2, 1) := by decide +kernel
theorem dX5_strangers_5 : decode cX5_strangers 5 = .ok (.aload_n 0, 1) := by decide +kernel
theorem dX5_strangers_6 : decode cX5_strangers 6 = .ok (.getfield 36, 3) := by decide +kernel
theorem dX5_strangers_9 : decode cX5_strangers 9 = .ok (.if_icmp .ge 24, 3) := by decide +kernel
theorem dX5_strangers_12 : decode cX5_strangers 12 = .ok (.aload_n 0, 1) := by decide +kernel
theorem dX5_strangers_13 : decode cX5_strangers 13 = .ok (.getfield 30, 3) := by decide +kernel
theorem dX5_strangers_16 : decode cX5_strangers 16 = .ok (.iload_n 2, 1) := by decide +kernel
theorem dX5_strangers_17 : decode cX5_strangers 17 = .ok (.iaload, 1) := by decide +kernel
theorem dX5_strangers_18 : decode cX5_strangers 18 = .ok (.ifCond .ne 9, 3) := by decide +kernel
theorem dX5_strangers_21 : decode cX5_strangers 21 = .ok (.iload_n 1, 1) := by decide +kernel
theorem dX5_strangers_22 : decode cX5_strangers 22 = .ok (.iconst 1, 1) := by decide +kernel
theorem dX5_strangers_23 : decode cX5_strangers 23 = .ok (.iload_n 2, 1) := by decide +kernel
theorem dX5_strangers_24 : decode cX5_strangers 24 = .ok (.ishl, 1) := by decide +kernel
theorem dX5_strangers_25 : decode cX5_strangers 25 = .ok (.ior, 1) := by decide +kernel
theorem dX5_strangers_26 : decode cX5_strangers 26 = .ok (.istore_n 1, 1) := by decide +kernel
theorem dX5_strangers_27 : decode cX5_strangers 27 = .ok (.iinc 2 1, 3) := by decide +kernel
theorem dX5_strangers_30 : decode cX5_strangers 30 = .ok (.goto (-26), 3) := by decide +kernel
theorem dX5_strangers_33 : decode cX5_strangers 33 = .ok (.iload_n 1, 1) := by decide +kernel
theorem dX5_strangers_34 : decode cX5_strangers 34 = .ok (.ireturn, 1) := by decide +kernel
theorem dX5_placesTaken_0 : decode cX5_placesTaken 0 = .ok (.iconst 0, 1) := by decide +kernel
theorem dX5_placesTaken_1 : decode cX5_placesTaken 1 = .ok (.istore_n 1, 1) := by decide +kernel
theorem dX5_placesTaken_2 : decode cX5_placesTaken 2 = .ok (.iconst 0, 1) := by decide +kernel
theorem dX5_placesTaken_3 : decode cX5_placesTaken 3 = .ok (.istore_n 2, 1) := by decide +kernel
theorem dX5_placesTaken_4 : decode cX5_placesTaken 4 = .ok (.iload_n 2, 1) := by decide +kernel
theorem dX5_placesTaken_5 : decode cX5_placesTaken 5 = .ok (.aload_n 0, 1) := by decide +kernel
theorem dX5_placesTaken_6 : decode cX5_placesTaken 6 = .ok (.getfield 36, 3) := by decide +kernel
theorem dX5_placesTaken_9 : decode cX5_placesTaken 9 = .ok (.if_icmp .ge 20, 3) := by decide +kernel
theorem dX5_placesTaken_12 : decode cX5_placesTaken 12 = .ok (.iload_n 1, 1) := by decide +kernel
theorem dX5_placesTaken_13 : decode cX5_placesTaken 13 = .ok (.iconst 1, 1) := by decide +kernel
theorem dX5_placesTaken_14 : decode cX5_placesTaken 14 = .ok (.aload_n 0, 1) := by decide +kernel
theorem dX5_placesTaken_15 : decode cX5_placesTaken 15 = .ok (.getfield 27, 3) := by decide +kernel
theorem dX5_placesTaken_18 : decode cX5_placesTaken 18 = .ok (.iload_n 2, 1) := by decide +kernel
theorem dX5_placesTaken_19 : decode cX5_placesTaken 19 = .ok (.iaload, 1) := by decide +kernel
theorem dX5_placesTaken_20 : decode cX5_placesTaken 20 = .ok (.ishl, 1) := by decide +kernel
theorem dX5_placesTaken_21 : decode cX5_placesTaken 21 = .ok (.ior, 1) := by decide +kernel
theorem dX5_placesTaken_22 : decode cX5_placesTaken 22 = .ok (.istore_n 1, 1) := by decide +kernel
theorem dX5_placesTaken_23 : decode cX5_placesTaken 23 = .ok (.iinc 2 1, 3) := by decide +kernel
theorem dX5_placesTaken_26 : decode cX5_placesTaken 26 = .ok (.goto (-22), 3) := by decide +kernel
theorem dX5_placesTaken_29 : decode cX5_placesTaken 29 = .ok (.iload_n 1, 1) := by decide +kernel
theorem dX5_placesTaken_30 : decode cX5_placesTaken 30 = .ok (.ireturn, 1) := by decide +kernel
theorem dX5_pegsHad_0 : decode cX5_pegsHad 0 = .ok (.iconst 0, 1) := by decide +kernel
theorem dX5_pegsHad_1 : decode cX5_pegsHad 1 = .ok (.istore_n 1, 1) := by decide +kernel
theorem dX5_pegsHad_2 : decode cX5_pegsHad 2 = .ok (.iconst 0, 1) := by decide +kernel
theorem dX5_pegsHad_3 : decode cX5_pegsHad 3 = .ok (.istore_n 2, 1) := by decide +kernel
theorem dX5_pegsHad_4 : decode cX5_pegsHad 4 = .ok (.iload_n 2, 1) := by decide +kernel
theorem dX5_pegsHad_5 : decode cX5_pegsHad 5 = .ok (.aload_n 0, 1) := by decide +kernel
theorem dX5_pegsHad_6 : decode cX5_pegsHad 6 = .ok (.getfield 36, 3) := by decide +kernel
theorem dX5_pegsHad_9 : decode cX5_pegsHad 9 = .ok (.if_icmp .ge 20, 3) := by decide +kernel
theorem dX5_pegsHad_12 : decode cX5_pegsHad 12 = .ok (.iload_n 1, 1) := by decide +kernel
theorem dX5_pegsHad_13 : decode cX5_pegsHad 13 = .ok (.iconst 1, 1) := by decide +kernel
theorem dX5_pegsHad_14 : decode cX5_pegsHad 14 = .ok (.aload_n 0, 1) := by decide +kernel
theorem dX5_pegsHad_15 : decode cX5_pegsHad 15 = .ok (.getfield 21, 3) := by decide +kernel
theorem dX5_pegsHad_18 : decode cX5_pegsHad 18 = .ok (.iload_n 2, 1) := by decide +kernel
theorem dX5_pegsHad_19 : decode cX5_pegsHad 19 = .ok (.iaload, 1) := by decide +kernel
theorem dX5_pegsHad_20 : decode cX5_pegsHad 20 = .ok (.ishl, 1) := by decide +kernel
theorem dX5_pegsHad_21 : decode cX5_pegsHad 21 = .ok (.ior, 1) := by decide +kernel
theorem dX5_pegsHad_22 : decode cX5_pegsHad 22 = .ok (.istore_n 1, 1) := by decide +kernel
theorem dX5_pegsHad_23 : decode cX5_pegsHad 23 = .ok (.iinc 2 1, 3) := by decide +kernel
theorem dX5_pegsHad_26 : decode cX5_pegsHad 26 = .ok (.goto (-22), 3) := by decide +kernel
theorem dX5_pegsHad_29 : decode cX5_pegsHad 29 = .ok (.iload_n 1, 1) := by decide +kernel
theorem dX5_pegsHad_30 : decode cX5_pegsHad 30 = .ok (.ireturn, 1) := by decide +kernel
theorem dX5_peopleOfPeg_0 : decode cX5_peopleOfPeg 0 = .ok (.iconst 0, 1) := by decide +kernel
theorem dX5_peopleOfPeg_1 : decode cX5_peopleOfPeg 1 = .ok (.istore_n 2, 1) := by decide +kernel
theorem dX5_peopleOfPeg_2 : decode cX5_peopleOfPeg 2 = .ok (.iconst 0, 1) := by decide +kernel
theorem dX5_peopleOfPeg_3 : decode cX5_peopleOfPeg 3 = .ok (.istore_n 3, 1) := by decide +kernel
theorem dX5_peopleOfPeg_4 : decode cX5_peopleOfPeg 4 = .ok (.iload_n 3, 1) := by decide +kernel
theorem dX5_peopleOfPeg_5 : decode cX5_peopleOfPeg 5 = .ok (.aload_n 0, 1) := by decide +kernel
theorem dX5_peopleOfPeg_6 : decode cX5_peopleOfPeg 6 = .ok (.getfield 36, 3) := by decide +kernel
theorem dX5_peopleOfPeg_9 : decode cX5_peopleOfPeg 9 = .ok (.if_icmp .ge 25, 3) := by decide +kernel
theorem dX5_peopleOfPeg_12 : decode cX5_peopleOfPeg 12 = .ok (.aload_n 0, 1) := by decide +kernel
theorem dX5_peopleOfPeg_13 : decode cX5_peopleOfPeg 13 = .ok (.getfield 21, 3) := by decide +kernel
theorem dX5_peopleOfPeg_16 : decode cX5_peopleOfPeg 16 = .ok (.iload_n 3, 1) := by decide +kernel
theorem dX5_peopleOfPeg_17 : decode cX5_peopleOfPeg 17 = .ok (.iaload, 1) := by decide +kernel
theorem dX5_peopleOfPeg_18 : decode cX5_peopleOfPeg 18 = .ok (.iload_n 1, 1) := by decide +kernel
theorem dX5_peopleOfPeg_19 : decode cX5_peopleOfPeg 19 = .ok (.if_icmp .ne 9, 3) := by decide +kernel
theorem dX5_peopleOfPeg_22 : decode cX5_peopleOfPeg 22 = .ok (.iload_n 2, 1) := by decide +kernel
theorem dX5_peopleOfPeg_23 : decode cX5_peopleOfPeg 23 = .ok (.iconst 1, 1) := by decide +kernel
theorem dX5_peopleOfPeg_24 : decode cX5_peopleOfPeg 24 = .ok (.iload_n 3, 1) := by decide +kernel
theorem dX5_peopleOfPeg_25 : decode cX5_peopleOfPeg 25 = .ok (.ishl, 1) := by decide +kernel
theorem dX5_peopleOfPeg_26 : decode cX5_peopleOfPeg 26 = .ok (.ior, 1) := by decide +kernel
theorem dX5_peopleOfPeg_27 : decode cX5_peopleOfPeg 27 = .ok (.istore_n 2, 1) := by decide +kernel
theorem dX5_peopleOfPeg_28 : decode cX5_peopleOfPeg 28 = .ok (.iinc 3 1, 3) := by decide +kernel
theorem dX5_peopleOfPeg_31 : decode cX5_peopleOfPeg 31 = .ok (.goto (-27), 3) := by decide +kernel
theorem dX5_peopleOfPeg_34 : decode cX5_peopleOfPeg 34 = .ok (.iload_n 2, 1) := by decide +kernel
theorem dX5_peopleOfPeg_35 : decode cX5_peopleOfPeg 35 = .ok (.ireturn, 1) := by decide +kernel
theorem dX5_othersBeside_0 : decode cX5_othersBeside 0 = .ok (.iconst 0, 1) := by decide +kernel
theorem dX5_othersBeside_1 : decode cX5_othersBeside 1 = .ok (.istore_n 2, 1) := by decide +kernel
theorem dX5_othersBeside_2 : decode cX5_othersBeside 2 = .ok (.iconst 0, 1) := by decide +kernel
theorem dX5_othersBeside_3 : decode cX5_othersBeside 3 = .ok (.istore_n 3, 1) := by decide +kernel
theorem dX5_othersBeside_4 : decode cX5_othersBeside 4 = .ok (.iload_n 3, 1) := by decide +kernel
theorem dX5_othersBeside_5 : decode cX5_othersBeside 5 = .ok (.aload_n 0, 1) := by decide +kernel
theorem dX5_othersBeside_6 : decode cX5_othersBeside 6 = .ok (.getfield 36, 3) := by decide +kernel
theorem dX5_othersBeside_9 : decode cX5_othersBeside 9 = .ok (.if_icmp .ge 32, 3) := by decide +kernel
theorem dX5_othersBeside_12 : decode cX5_othersBeside 12 = .ok (.iload_n 3, 1) := by decide +kernel
theorem dX5_othersBeside_13 : decode cX5_othersBeside 13 = .ok (.iload_n 1, 1) := by decide +kernel
theorem dX5_othersBeside_14 : decode cX5_othersBeside 14 = .ok (.if_icmp .eq 21, 3) := by decide +kernel
theorem dX5_othersBeside_17 : decode cX5_othersBeside 17 = .ok (.aload_n 0, 1) := by decide +kernel
theorem dX5_othersBeside_18 : decode cX5_othersBeside 18 = .ok (.getfield 27, 3) := by decide +kernel
theorem dX5_othersBeside_21 : decode cX5_othersBeside 21 = .ok (.iload_n 3, 1) := by decide +kernel
theorem dX5_othersBeside_22 : decode cX5_othersBeside 22 = .ok (.iaload, 1) := by decide +kernel
theorem dX5_othersBeside_23 : decode cX5_othersBeside 23 = .ok (.aload_n 0, 1) := by decide +kernel
theorem dX5_othersBeside_24 : decode cX5_othersBeside 24 = .ok (.getfield 27, 3) := by decide +kernel
theorem dX5_othersBeside_27 : decode cX5_othersBeside 27 = .ok (.iload_n 1, 1) := by decide +kernel
theorem dX5_othersBeside_28 : decode cX5_othersBeside 28 = .ok (.iaload, 1) := by decide +kernel
theorem dX5_othersBeside_29 : decode cX5_othersBeside 29 = .ok (.if_icmp .ne 6, 3) := by decide +kernel
theorem dX5_othersBeside_32 : decode cX5_othersBeside 32 = .ok (.iinc 2 1, 3) := by decide +kernel
theorem dX5_othersBeside_35 : decode cX5_othersBeside 35 = .ok (.iinc 3 1, 3) := by decide +kernel
theorem dX5_othersBeside_38 : decode cX5_othersBeside 38 = .ok (.goto (-34), 3) := by decide +kernel
theorem dX5_othersBeside_41 : decode cX5_othersBeside 41 = .ok (.iload_n 2, 1) := by decide +kernel
theorem dX5_othersBeside_42 : decode cX5_othersBeside 42 = .ok (.ireturn, 1) := by decide +kernel
theorem dX5_circleOf_0 : decode cX5_circleOf 0 = .ok (.iconst 1, 1) := by decide +kernel
theorem dX5_circleOf_1 : decode cX5_circleOf 1 = .ok (.iload_n 1, 1) := by decide +kernel
theorem dX5_circleOf_2 : decode cX5_circleOf 2 = .ok (.ishl, 1) := by decide +kernel
theorem dX5_circleOf_3 : decode cX5_circleOf 3 = .ok (.istore_n 2, 1) := by decide +kernel
theorem dX5_circleOf_4 : decode cX5_circleOf 4 = .ok (.iconst 0, 1) := by decide +kernel
theorem dX5_circleOf_5 : decode cX5_circleOf 5 = .ok (.istore_n 3, 1) := by decide +kernel
theorem dX5_circleOf_6 : decode cX5_circleOf 6 = .ok (.iload_n 3, 1) := by decide +kernel
theorem dX5_circleOf_7 : decode cX5_circleOf 7 = .ok (.aload_n 0, 1) := by decide +kernel
theorem dX5_circleOf_8 : decode cX5_circleOf 8 = .ok (.getfield 36, 3) := by decide +kernel
theorem dX5_circleOf_11 : decode cX5_circleOf 11 = .ok (.if_icmp .ge 47, 3) := by decide +kernel
theorem dX5_circleOf_14 : decode cX5_circleOf 14 = .ok (.iconst 0, 1) := by decide +kernel
theorem dX5_circleOf_15 : decode cX5_circleOf 15 = .ok (.istore 4, 2) := by decide +kernel
theorem dX5_circleOf_17 : decode cX5_circleOf 17 = .ok (.iload 4, 2) := by decide +kernel
theorem dX5_circleOf_19 : decode cX5_circleOf 19 = .ok (.aload_n 0, 1) := by decide +kernel
theorem dX5_circleOf_20 : decode cX5_circleOf 20 = .ok (.getfield 36, 3) := by decide +kernel
theorem dX5_circleOf_23 : decode cX5_circleOf 23 = .ok (.if_icmp .ge 29, 3) := by decide +kernel
theorem dX5_circleOf_26 : decode cX5_circleOf 26 = .ok (.iload_n 2, 1) := by decide +kernel
theorem dX5_circleOf_27 : decode cX5_circleOf 27 = .ok (.iload 4, 2) := by decide +kernel
theorem dX5_circleOf_29 : decode cX5_circleOf 29 = .ok (.ishr, 1) := by decide +kernel
theorem dX5_circleOf_30 : decode cX5_circleOf 30 = .ok (.iconst 1, 1) := by decide +kernel
theorem dX5_circleOf_31 : decode cX5_circleOf 31 = .ok (.iand, 1) := by decide +kernel
theorem dX5_circleOf_32 : decode cX5_circleOf 32 = .ok (.iconst 1, 1) := by decide +kernel
theorem dX5_circleOf_33 : decode cX5_circleOf 33 = .ok (.if_icmp .ne 13, 3) := by decide +kernel
theorem dX5_circleOf_36 : decode cX5_circleOf 36 = .ok (.iload_n 2, 1) := by decide +kernel
theorem dX5_circleOf_37 : decode cX5_circleOf 37 = .ok (.aload_n 0, 1) := by decide +kernel
theorem dX5_circleOf_38 : decode cX5_circleOf 38 = .ok (.getfield 30, 3) := by decide +kernel
theorem dX5_circleOf_41 : decode cX5_circleOf 41 = .ok (.iload 4, 2) := by decide +kernel
theorem dX5_circleOf_43 : decode cX5_circleOf 43 = .ok (.iaload, 1) := by decide +kernel
theorem dX5_circleOf_44 : decode cX5_circleOf 44 = .ok (.ior, 1) := by decide +kernel
theorem dX5_circleOf_45 : decode cX5_circleOf 45 = .ok (.istore_n 2, 1) := by decide +kernel
theorem dX5_circleOf_46 : decode cX5_circleOf 46 = .ok (.iinc 4 1, 3) := by decide +kernel
theorem dX5_circleOf_49 : decode cX5_circleOf 49 = .ok (.goto (-32), 3) := by decide +kernel
theorem dX5_circleOf_52 : decode cX5_circleOf 52 = .ok (.iinc 3 1, 3) := by decide +kernel
theorem dX5_circleOf_55 : decode cX5_circleOf 55 = .ok (.goto (-49), 3) := by decide +kernel
theorem dX5_circleOf_58 : decode cX5_circleOf 58 = .ok (.iload_n 2, 1) := by decide +kernel
theorem dX5_circleOf_59 : decode cX5_circleOf 59 = .ok (.ireturn, 1) := by decide +kernel
theorem dX5_circles_0 : decode cX5_circles 0 = .ok (.iconst 0, 1) := by decide +kernel
theorem dX5_circles_1 : decode cX5_circles 1 = .ok (.istore_n 1, 1) := by decide +kernel
theorem dX5_circles_2 : decode cX5_circles 2 = .ok (.iconst 0, 1) := by decide +kernel
theorem dX5_circles_3 : decode cX5_circles 3 = .ok (.istore_n 2, 1) := by decide +kernel
theorem dX5_circles_4 : decode cX5_circles 4 = .ok (.iload_n 2, 1) := by decide +kernel
theorem dX5_circles_5 : decode cX5_circles 5 = .ok (.aload_n 0, 1) := by decide +kernel
theorem dX5_circles_6 : decode cX5_circles 6 = .ok (.getfield 36, 3) := by decide +kernel
theorem dX5_circles_9 : decode cX5_circles 9 = .ok (.if_icmp .ge 28, 3) := by decide +kernel
theorem dX5_circles_12 : decode cX5_circles 12 = .ok (.aload_n 0, 1) := by decide +kernel
theorem dX5_circles_13 : decode cX5_circles 13 = .ok (.iload_n 2, 1) := by decide +kernel
theorem dX5_circles_14 : decode cX5_circles 14 = .ok (.invokevirtual 101, 3) := by decide +kernel
theorem dX5_circles_17 : decode cX5_circles 17 = .ok (.iconst 1, 1) := by decide +kernel
theorem dX5_circles_18 : decode cX5_circles 18 = .ok (.iload_n 2, 1) := by decide +kernel
theorem dX5_circles_19 : decode cX5_circles 19 = .ok (.ishl, 1) := by decide +kernel
theorem dX5_circles_20 : decode cX5_circles 20 = .ok (.iconst 1, 1) := by decide +kernel
theorem dX5_circles_21 : decode cX5_circles 21 = .ok (.isub, 1) := by decide +kernel
theorem dX5_circles_22 : decode cX5_circles 22 = .ok (.iand, 1) := by decide +kernel
theorem dX5_circles_23 : decode cX5_circles 23 = .ok (.istore_n 3, 1) := by decide +kernel
theorem dX5_circles_24 : decode cX5_circles 24 = .ok (.iload_n 3, 1) := by decide +kernel
theorem dX5_circles_25 : decode cX5_circles 25 = .ok (.ifCond .ne 6, 3) := by decide +kernel
theorem dX5_circles_28 : decode cX5_circles 28 = .ok (.iinc 1 1, 3) := by decide +kernel
theorem dX5_circles_31 : decode cX5_circles 31 = .ok (.iinc 2 1, 3) := by decide +kernel
theorem dX5_circles_34 : decode cX5_circles 34 = .ok (.goto (-30), 3) := by decide +kernel
theorem dX5_circles_37 : decode cX5_circles 37 = .ok (.iload_n 1, 1) := by decide +kernel
theorem dX5_circles_38 : decode cX5_circles 38 = .ok (.ireturn, 1) := by decide +kernel
theorem dX5_wholeWeight_0 : decode cX5_wholeWeight 0 = .ok (.iconst 0, 1) := by decide +kernel
theorem dX5_wholeWeight_1 : decode cX5_wholeWeight 1 = .ok (.istore_n 1, 1) := by decide +kernel
theorem dX5_wholeWeight_2 : decode cX5_wholeWeight 2 = .ok (.iconst 0, 1) := by decide +kernel
theorem dX5_wholeWeight_3 : decode cX5_wholeWeight 3 = .ok (.istore_n 2, 1) := by decide +kernel
theorem dX5_wholeWeight_4 : decode cX5_wholeWeight 4 = .ok (.iload_n 2, 1) := by decide +kernel
theorem dX5_wholeWeight_5 : decode cX5_wholeWeight 5 = .ok (.bipush 6, 2) := by decide +kernel
theorem dX5_wholeWeight_7 : decode cX5_wholeWeight 7 = .ok (.if_icmp .ge 18, 3) := by decide +kernel
theorem dX5_wholeWeight_10 : decode cX5_wholeWeight 10 = .ok (.iload_n 1, 1) := by decide +kernel
theorem dX5_wholeWeight_11 : decode cX5_wholeWeight 11 = .ok (.aload_n 0, 1) := by decide +kernel
theorem dX5_wholeWeight_12 : decode cX5_wholeWeight 12 = .ok (.getfield 15, 3) := by decide +kernel
theorem dX5_wholeWeight_15 : decode cX5_wholeWeight 15 = .ok (.iload_n 2, 1) := by decide +kernel
theorem dX5_wholeWeight_16 : decode cX5_wholeWeight 16 = .ok (.iaload, 1) := by decide +kernel
theorem dX5_wholeWeight_17 : decode cX5_wholeWeight 17 = .ok (.iadd, 1) := by decide +kernel
theorem dX5_wholeWeight_18 : decode cX5_wholeWeight 18 = .ok (.istore_n 1, 1) := by decide +kernel
theorem dX5_wholeWeight_19 : decode cX5_wholeWeight 19 = .ok (.iinc 2 1, 3) := by decide +kernel
theorem dX5_wholeWeight_22 : decode cX5_wholeWeight 22 = .ok (.goto (-18), 3) := by decide +kernel
theorem dX5_wholeWeight_25 : decode cX5_wholeWeight 25 = .ok (.iload_n 1, 1) := by decide +kernel
theorem dX5_wholeWeight_26 : decode cX5_wholeWeight 26 = .ok (.ireturn, 1) := by decide +kernel
theorem dX5_restsOfDifference_0 : decode cX5_restsOfDifference 0 = .ok (.iconst 0, 1) := by decide +kernel
theorem dX5_restsOfDifference_1 : decode cX5_restsOfDifference 1 = .ok (.istore_n 3, 1) := by decide +kernel
theorem dX5_restsOfDifference_2 : decode cX5_restsOfDifference 2 = .ok (.iconst 0, 1) := by decide +kernel
theorem dX5_restsOfDifference_3 : decode cX5_restsOfDifference 3 = .ok (.istore 4, 2) := by decide +kernel
theorem dX5_restsOfDifference_5 : decode cX5_restsOfDifference 5 = .ok (.iload 4, 2) := by decide +kernel
theorem dX5_restsOfDifference_7 : decode cX5_restsOfDifference 7 = .ok (.bipush 10, 2) := by decide +kernel
theorem dX5_restsOfDifference_9 : decode cX5_restsOfDifference 9 = .ok (.if_icmp .ge 33, 3) := by decide +kernel
theorem dX5_restsOfDifference_12 : decode cX5_restsOfDifference 12 = .ok (.aload_n 0, 1) := by decide +kernel
theorem dX5_restsOfDifference_13 : decode cX5_restsOfDifference 13 = .ok (.iload_n 1, 1) := by decide +kernel
theorem dX5_restsOfDifference_14 : decode cX5_restsOfDifference 14 = .ok (.iload 4, 2) := by decide +kernel
theorem dX5_restsOfDifference_16 : decode cX5_restsOfDifference 16 = .ok (.invokevirtual 71, 3) := by decide +kernel
theorem dX5_restsOfDifference_19 : decode cX5_restsOfDifference 19 = .ok (.aload_n 0, 1) := by decide +kernel
theorem dX5_restsOfDifference_20 : decode cX5_restsOfDifference 20 = .ok (.iload_n 2, 1) := by decide +kernel
theorem dX5_restsOfDifference_21 : decode cX5_restsOfDifference 21 = .ok (.iload 4, 2) := by decide +kernel
theorem dX5_restsOfDifference_23 : decode cX5_restsOfDifference 23 = .ok (.invokevirtual 71, 3) := by decide +kernel
theorem dX5_restsOfDifference_26 : decode cX5_restsOfDifference 26 = .ok (.if_icmp .eq 10, 3) := by decide +kernel
theorem dX5_restsOfDifference_29 : decode cX5_restsOfDifference 29 = .ok (.iload_n 3, 1) := by decide +kernel
theorem dX5_restsOfDifference_30 : decode cX5_restsOfDifference 30 = .ok (.iconst 1, 1) := by decide +kernel
theorem dX5_restsOfDifference_31 : decode cX5_restsOfDifference 31 = .ok (.iload 4, 2) := by decide +kernel
theorem dX5_restsOfDifference_33 : decode cX5_restsOfDifference 33 = .ok (.ishl, 1) := by decide +kernel
theorem dX5_restsOfDifference_34 : decode cX5_restsOfDifference 34 = .ok (.ior, 1) := by decide +kernel
theorem dX5_restsOfDifference_35 : decode cX5_restsOfDifference 35 = .ok (.istore_n 3, 1) := by decide +kernel
theorem dX5_restsOfDifference_36 : decode cX5_restsOfDifference 36 = .ok (.iinc 4 1, 3) := by decide +kernel
theorem dX5_restsOfDifference_39 : decode cX5_restsOfDifference 39 = .ok (.goto (-34), 3) := by decide +kernel
theorem dX5_restsOfDifference_42 : decode cX5_restsOfDifference 42 = .ok (.iload_n 3, 1) := by decide +kernel
theorem dX5_restsOfDifference_43 : decode cX5_restsOfDifference 43 = .ok (.ireturn, 1) := by decide +kernel
theorem dJ6_bitCount_0f7a4_0 : decode cJ6_bitCount_0f7a4 0 = .ok (.iload_n 0, 1) := by decide +kernel
theorem dJ6_bitCount_0f7a4_1 : decode cJ6_bitCount_0f7a4 1 = .ok (.iload_n 0, 1) := by decide +kernel
theorem dJ6_bitCount_0f7a4_2 : decode cJ6_bitCount_0f7a4 2 = .ok (.iconst 1, 1) := by decide +kernel
theorem dJ6_bitCount_0f7a4_3 : decode cJ6_bitCount_0f7a4 3 = .ok (.iushr, 1) := by decide +kernel
theorem dJ6_bitCount_0f7a4_4 : decode cJ6_bitCount_0f7a4 4 = .ok (.ldc_w 265, 3) := by decide +kernel
theorem dJ6_bitCount_0f7a4_7 : decode cJ6_bitCount_0f7a4 7 = .ok (.iand, 1) := by decide +kernel
theorem dJ6_bitCount_0f7a4_8 : decode cJ6_bitCount_0f7a4 8 = .ok (.isub, 1) := by decide +kernel
theorem dJ6_bitCount_0f7a4_9 : decode cJ6_bitCount_0f7a4 9 = .ok (.istore_n 0, 1) := by decide +kernel
theorem dJ6_bitCount_0f7a4_10 : decode cJ6_bitCount_0f7a4 10 = .ok (.iload_n 0, 1) := by decide +kernel
theorem dJ6_bitCount_0f7a4_11 : decode cJ6_bitCount_0f7a4 11 = .ok (.ldc_w 266, 3) := by decide +kernel
theorem dJ6_bitCount_0f7a4_14 : decode cJ6_bitCount_0f7a4 14 = .ok (.iand, 1) := by decide +kernel
theorem dJ6_bitCount_0f7a4_15 : decode cJ6_bitCount_0f7a4 15 = .ok (.iload_n 0, 1) := by decide +kernel
theorem dJ6_bitCount_0f7a4_16 : decode cJ6_bitCount_0f7a4 16 = .ok (.iconst 2, 1) := by decide +kernel
theorem dJ6_bitCount_0f7a4_17 : decode cJ6_bitCount_0f7a4 17 = .ok (.iushr, 1) := by decide +kernel
theorem dJ6_bitCount_0f7a4_18 : decode cJ6_bitCount_0f7a4 18 = .ok (.ldc_w 266, 3) := by decide +kernel
theorem dJ6_bitCount_0f7a4_21 : decode cJ6_bitCount_0f7a4 21 = .ok (.iand, 1) := by decide +kernel
theorem dJ6_bitCount_0f7a4_22 : decode cJ6_bitCount_0f7a4 22 = .ok (.iadd, 1) := by decide +kernel
theorem dJ6_bitCount_0f7a4_23 : decode cJ6_bitCount_0f7a4 23 = .ok (.istore_n 0, 1) := by decide +kernel
theorem dJ6_bitCount_0f7a4_24 : decode cJ6_bitCount_0f7a4 24 = .ok (.iload_n 0, 1) := by decide +kernel
theorem dJ6_bitCount_0f7a4_25 : decode cJ6_bitCount_0f7a4 25 = .ok (.iload_n 0, 1) := by decide +kernel
theorem dJ6_bitCount_0f7a4_26 : decode cJ6_bitCount_0f7a4 26 = .ok (.iconst 4, 1) := by decide +kernel
theorem dJ6_bitCount_0f7a4_27 : decode cJ6_bitCount_0f7a4 27 = .ok (.iushr, 1) := by decide +kernel
theorem dJ6_bitCount_0f7a4_28 : decode cJ6_bitCount_0f7a4 28 = .ok (.iadd, 1) := by decide +kernel
theorem dJ6_bitCount_0f7a4_29 : decode cJ6_bitCount_0f7a4 29 = .ok (.ldc_w 267, 3) := by decide +kernel
theorem dJ6_bitCount_0f7a4_32 : decode cJ6_bitCount_0f7a4 32 = .ok (.iand, 1) := by decide +kernel
theorem dJ6_bitCount_0f7a4_33 : decode cJ6_bitCount_0f7a4 33 = .ok (.istore_n 0, 1) := by decide +kernel
theorem dJ6_bitCount_0f7a4_34 : decode cJ6_bitCount_0f7a4 34 = .ok (.iload_n 0, 1) := by decide +kernel
theorem dJ6_bitCount_0f7a4_35 : decode cJ6_bitCount_0f7a4 35 = .ok (.iload_n 0, 1) := by decide +kernel
theorem dJ6_bitCount_0f7a4_36 : decode cJ6_bitCount_0f7a4 36 = .ok (.bipush 8, 2) := by decide +kernel
theorem dJ6_bitCount_0f7a4_38 : decode cJ6_bitCount_0f7a4 38 = .ok (.iushr, 1) := by decide +kernel
theorem dJ6_bitCount_0f7a4_39 : decode cJ6_bitCount_0f7a4 39 = .ok (.iadd, 1) := by decide +kernel
theorem dJ6_bitCount_0f7a4_40 : decode cJ6_bitCount_0f7a4 40 = .ok (.istore_n 0, 1) := by decide +kernel
theorem dJ6_bitCount_0f7a4_41 : decode cJ6_bitCount_0f7a4 41 = .ok (.iload_n 0, 1) := by decide +kernel
theorem dJ6_bitCount_0f7a4_42 : decode cJ6_bitCount_0f7a4 42 = .ok (.iload_n 0, 1) := by decide +kernel
theorem dJ6_bitCount_0f7a4_43 : decode cJ6_bitCount_0f7a4 43 = .ok (.bipush 16, 2) := by decide +kernel
theorem dJ6_bitCount_0f7a4_45 : decode cJ6_bitCount_0f7a4 45 = .ok (.iushr, 1) := by decide +kernel
theorem dJ6_bitCount_0f7a4_46 : decode cJ6_bitCount_0f7a4 46 = .ok (.iadd, 1) := by decide +kernel
theorem dJ6_bitCount_0f7a4_47 : decode cJ6_bitCount_0f7a4 47 = .ok (.istore_n 0, 1) := by decide +kernel
theorem dJ6_bitCount_0f7a4_48 : decode cJ6_bitCount_0f7a4 48 = .ok (.iload_n 0, 1) := by decide +kernel
theorem dJ6_bitCount_0f7a4_49 : decode cJ6_bitCount_0f7a4 49 = .ok (.bipush 63, 2) := by decide +kernel
theorem dJ6_bitCount_0f7a4_51 : decode cJ6_bitCount_0f7a4 51 = .ok (.iand, 1) := by decide +kernel
theorem dJ6_bitCount_0f7a4_52 : decode cJ6_bitCount_0f7a4 52 = .ok (.ireturn, 1) := by decide +kernel
theorem dJ9_floorMod_7cf53_0 : decode cJ9_floorMod_7cf53 0 = .ok (.iload_n 0, 1) := by decide +kernel
theorem dJ9_floorMod_7cf53_1 : decode cJ9_floorMod_7cf53 1 = .ok (.iload_n 1, 1) := by decide +kernel
theorem dJ9_floorMod_7cf53_2 : decode cJ9_floorMod_7cf53 2 = .ok (.irem, 1) := by decide +kernel
theorem dJ9_floorMod_7cf53_3 : decode cJ9_floorMod_7cf53 3 = .ok (.istore_n 2, 1) := by decide +kernel
theorem dJ9_floorMod_7cf53_4 : decode cJ9_floorMod_7cf53 4 = .ok (.iload_n 0, 1) := by decide +kernel
theorem dJ9_floorMod_7cf53_5 : decode cJ9_floorMod_7cf53 5 = .ok (.iload_n 1, 1) := by decide +kernel
theorem dJ9_floorMod_7cf53_6 : decode cJ9_floorMod_7cf53 6 = .ok (.ixor, 1) := by decide +kernel
theorem dJ9_floorMod_7cf53_7 : decode cJ9_floorMod_7cf53 7 = .ok (.ifCond .ge 11, 3) := by decide +kernel
theorem dJ9_floorMod_7cf53_10 : decode cJ9_floorMod_7cf53 10 = .ok (.iload_n 2, 1) := by decide +kernel
theorem dJ9_floorMod_7cf53_11 : decode cJ9_floorMod_7cf53 11 = .ok (.ifCond .eq 7, 3) := by decide +kernel
theorem dJ9_floorMod_7cf53_14 : decode cJ9_floorMod_7cf53 14 = .ok (.iload_n 2, 1) := by decide +kernel
theorem dJ9_floorMod_7cf53_15 : decode cJ9_floorMod_7cf53 15 = .ok (.iload_n 1, 1) := by decide +kernel
theorem dJ9_floorMod_7cf53_16 : decode cJ9_floorMod_7cf53 16 = .ok (.iadd, 1) := by decide +kernel
theorem dJ9_floorMod_7cf53_17 : decode cJ9_floorMod_7cf53 17 = .ok (.ireturn, 1) := by decide +kernel
theorem dJ9_floorMod_7cf53_18 : decode cJ9_floorMod_7cf53 18 = .ok (.iload_n 2, 1) := by decide +kernel
theorem dJ9_floorMod_7cf53_19 : decode cJ9_floorMod_7cf53 19 = .ok (.ireturn, 1) := by decide +kernel
theorem dJ9_abs_0f7a4_0 : decode cJ9_abs_0f7a4 0 = .ok (.iload_n 0, 1) := by decide +kernel
theorem dJ9_abs_0f7a4_1 : decode cJ9_abs_0f7a4 1 = .ok (.ifCond .ge 8, 3) := by decide +kernel
theorem dJ9_abs_0f7a4_4 : decode cJ9_abs_0f7a4 4 = .ok (.iload_n 0, 1) := by decide +kernel
theorem dJ9_abs_0f7a4_5 : decode cJ9_abs_0f7a4 5 = .ok (.ineg, 1) := by decide +kernel
theorem dJ9_abs_0f7a4_6 : decode cJ9_abs_0f7a4 6 = .ok (.goto 4, 3) := by decide +kernel
theorem dJ9_abs_0f7a4_9 : decode cJ9_abs_0f7a4 9 = .ok (.iload_n 0, 1) := by decide +kernel
theorem dJ9_abs_0f7a4_10 : decode cJ9_abs_0f7a4 10 = .ok (.ireturn, 1) := by decide +kernel
theorem dJ9_max_7cf53_0 : decode cJ9_max_7cf53 0 = .ok (.iload_n 0, 1) := by decide +kernel
theorem dJ9_max_7cf53_1 : decode cJ9_max_7cf53 1 = .ok (.iload_n 1, 1) := by decide +kernel
theorem dJ9_max_7cf53_2 : decode cJ9_max_7cf53 2 = .ok (.if_icmp .lt 7, 3) := by decide +kernel
theorem dJ9_max_7cf53_5 : decode cJ9_max_7cf53 5 = .ok (.iload_n 0, 1) := by decide +kernel
theorem dJ9_max_7cf53_6 : decode cJ9_max_7cf53 6 = .ok (.goto 4, 3) := by decide +kernel
theorem dJ9_max_7cf53_9 : decode cJ9_max_7cf53 9 = .ok (.iload_n 1, 1) := by decide +kernel
theorem dJ9_max_7cf53_10 : decode cJ9_max_7cf53 10 = .ok (.ireturn, 1) := by decide +kernel
theorem dJ9_max_f86c9_0 : decode cJ9_max_f86c9 0 = .ok (.lload_n 0, 1) := by decide +kernel
theorem dJ9_max_f86c9_1 : decode cJ9_max_f86c9 1 = .ok (.lload_n 2, 1) := by decide +kernel
theorem dJ9_max_f86c9_2 : decode cJ9_max_f86c9 2 = .ok (.lcmp, 1) := by decide +kernel
theorem dJ9_max_f86c9_3 : decode cJ9_max_f86c9 3 = .ok (.ifCond .lt 7, 3) := by decide +kernel
theorem dJ9_max_f86c9_6 : decode cJ9_max_f86c9 6 = .ok (.lload_n 0, 1) := by decide +kernel
theorem dJ9_max_f86c9_7 : decode cJ9_max_f86c9 7 = .ok (.goto 4, 3) := by decide +kernel
theorem dJ9_max_f86c9_10 : decode cJ9_max_f86c9 10 = .ok (.lload_n 2, 1) := by decide +kernel
theorem dJ9_max_f86c9_11 : decode cJ9_max_f86c9 11 = .ok (.lreturn, 1) := by decide +kernel
theorem dJ9_min_7cf53_0 : decode cJ9_min_7cf53 0 = .ok (.iload_n 0, 1) := by decide +kernel
theorem dJ9_min_7cf53_1 : decode cJ9_min_7cf53 1 = .ok (.iload_n 1, 1) := by decide +kernel
theorem dJ9_min_7cf53_2 : decode cJ9_min_7cf53 2 = .ok (.if_icmp .gt 7, 3) := by decide +kernel
theorem dJ9_min_7cf53_5 : decode cJ9_min_7cf53 5 = .ok (.iload_n 0, 1) := by decide +kernel
theorem dJ9_min_7cf53_6 : decode cJ9_min_7cf53 6 = .ok (.goto 4, 3) := by decide +kernel
theorem dJ9_min_7cf53_9 : decode cJ9_min_7cf53 9 = .ok (.iload_n 1, 1) := by decide +kernel
theorem dJ9_min_7cf53_10 : decode cJ9_min_7cf53 10 = .ok (.ireturn, 1) := by decide +kernel
theorem dJ0_charAt_5068e_0 : decode cJ0_charAt_5068e 0 = .ok (.aload_n 0, 1) := by decide +kernel
theorem dJ0_charAt_5068e_1 : decode cJ0_charAt_5068e 1 = .ok (.invokevirtual 492, 3) := by decide +kernel
theorem dJ0_charAt_5068e_4 : decode cJ0_charAt_5068e 4 = .ok (.ifCond .eq 12, 3) := by decide +kernel
theorem dJ0_charAt_5068e_7 : decode cJ0_charAt_5068e 7 = .ok (.aload_n 0, 1) := by decide +kernel
theorem dJ0_charAt_5068e_8 : decode cJ0_charAt_5068e 8 = .ok (.getfield 9, 3) := by decide +kernel
theorem dJ0_charAt_5068e_11 : decode cJ0_charAt_5068e 11 = .ok (.iload_n 1, 1) := by decide +kernel
theorem dJ0_charAt_5068e_12 : decode cJ0_charAt_5068e 12 = .ok (.invokestatic 495, 3) := by decide +kernel
theorem dJ0_charAt_5068e_15 : decode cJ0_charAt_5068e 15 = .ok (.ireturn, 1) := by decide +kernel
theorem dJ0_charAt_5068e_16 : decode cJ0_charAt_5068e 16 = .ok (.aload_n 0, 1) := by decide +kernel
theorem dJ0_charAt_5068e_17 : decode cJ0_charAt_5068e 17 = .ok (.getfield 9, 3) := by decide +kernel
theorem dJ0_charAt_5068e_20 : decode cJ0_charAt_5068e 20 = .ok (.iload_n 1, 1) := by decide +kernel
theorem dJ0_charAt_5068e_21 : decode cJ0_charAt_5068e 21 = .ok (.invokestatic 498, 3) := by decide +kernel
theorem dJ0_charAt_5068e_24 : decode cJ0_charAt_5068e 24 = .ok (.ireturn, 1) := by decide +kernel
theorem dJ0_isLatin1_aae02_0 : decode cJ0_isLatin1_aae02 0 = .ok (.getstatic 38, 3) := by decide +kernel
theorem dJ0_isLatin1_aae02_3 : decode cJ0_isLatin1_aae02 3 = .ok (.ifCond .eq 14, 3) := by decide +kernel
theorem dJ0_isLatin1_aae02_6 : decode cJ0_isLatin1_aae02 6 = .ok (.aload_n 0, 1) := by decide +kernel
theorem dJ0_isLatin1_aae02_7 : decode cJ0_isLatin1_aae02 7 = .ok (.getfield 15, 3) := by decide +kernel
theorem dJ0_isLatin1_aae02_10 : decode cJ0_isLatin1_aae02 10 = .ok (.ifCond .ne 7, 3) := by decide +kernel
theorem dJ0_isLatin1_aae02_13 : decode cJ0_isLatin1_aae02 13 = .ok (.iconst 1, 1) := by decide +kernel
theorem dJ0_isLatin1_aae02_14 : decode cJ0_isLatin1_aae02 14 = .ok (.goto 4, 3) := by decide +kernel
theorem dJ0_isLatin1_aae02_17 : decode cJ0_isLatin1_aae02 17 = .ok (.iconst 0, 1) := by decide +kernel
theorem dJ0_isLatin1_aae02_18 : decode cJ0_isLatin1_aae02 18 = .ok (.ireturn, 1) := by decide +kernel
theorem dJ0_checkIndex_df160_0 : decode cJ0_checkIndex_df160 0 = .ok (.iload_n 0, 1) := by decide +kernel
theorem dJ0_checkIndex_df160_1 : decode cJ0_checkIndex_df160 1 = .ok (.iload_n 1, 1) := by decide +kernel
theorem dJ0_checkIndex_df160_2 : decode cJ0_checkIndex_df160 2 = .ok (.getstatic 1053, 3) := by decide +kernel
theorem dJ0_checkIndex_df160_5 : decode cJ0_checkIndex_df160 5 = .ok (.invokestatic 1059, 3) := by decide +kernel
theorem dJ0_checkIndex_df160_8 : decode cJ0_checkIndex_df160 8 = .ok (.pop, 1) := by decide +kernel
theorem dJ0_checkIndex_df160_9 : decode cJ0_checkIndex_df160 9 = .ok (.return_, 1) := by decide +kernel
theorem dJ1_charAt_3b067_0 : decode cJ1_charAt_3b067 0 = .ok (.iload_n 1, 1) := by decide +kernel
theorem dJ1_charAt_3b067_1 : decode cJ1_charAt_3b067 1 = .ok (.aload_n 0, 1) := by decide +kernel
theorem dJ1_charAt_3b067_2 : decode cJ1_charAt_3b067 2 = .ok (.arraylength, 1) := by decide +kernel
theorem dJ1_charAt_3b067_3 : decode cJ1_charAt_3b067 3 = .ok (.invokestatic 9, 3) := by decide +kernel
theorem dJ1_charAt_3b067_6 : decode cJ1_charAt_3b067 6 = .ok (.aload_n 0, 1) := by decide +kernel
theorem dJ1_charAt_3b067_7 : decode cJ1_charAt_3b067 7 = .ok (.iload_n 1, 1) := by decide +kernel
theorem dJ1_charAt_3b067_8 : decode cJ1_charAt_3b067 8 = .ok (.baload, 1) := by decide +kernel
theorem dJ1_charAt_3b067_9 : decode cJ1_charAt_3b067 9 = .ok (.sipush 255, 3) := by decide +kernel
theorem dJ1_charAt_3b067_12 : decode cJ1_charAt_3b067 12 = .ok (.iand, 1) := by decide +kernel
theorem dJ1_charAt_3b067_13 : decode cJ1_charAt_3b067 13 = .ok (.i2c, 1) := by decide +kernel
theorem dJ1_charAt_3b067_14 : decode cJ1_charAt_3b067 14 = .ok (.ireturn, 1) := by decide +kernel
theorem dJ2_getChar_3b067_0 : decode cJ2_getChar_3b067 0 = .ok (.getstatic 44, 3) := by decide +kernel
theorem dJ2_getChar_3b067_3 : decode cJ2_getChar_3b067 3 = .ok (.ifCond .ne 25, 3) := by decide +kernel
theorem dJ2_getChar_3b067_6 : decode cJ2_getChar_3b067 6 = .ok (.iload_n 1, 1) := by decide +kernel
theorem dJ2_getChar_3b067_7 : decode cJ2_getChar_3b067 7 = .ok (.ifCond .lt 11, 3) := by decide +kernel
theorem dJ2_getChar_3b067_10 : decode cJ2_getChar_3b067 10 = .ok (.iload_n 1, 1) := by decide +kernel
theorem dJ2_getChar_3b067_11 : decode cJ2_getChar_3b067 11 = .ok (.aload_n 0, 1) := by decide +kernel
theorem dJ2_getChar_3b067_12 : decode cJ2_getChar_3b067 12 = .ok (.invokestatic 48, 3) := by decide +kernel
theorem dJ2_getChar_3b067_15 : decode cJ2_getChar_3b067 15 = .ok (.if_icmp .lt 13, 3) := by decide +kernel
theorem dJ2_getChar_3b067_18 : decode cJ2_getChar_3b067 18 = .ok (.new 52, 3) := by decide +kernel
theorem dJ2_getChar_3b067_21 : decode cJ2_getChar_3b067 21 = .ok (.dup, 1) := by decide +kernel
theorem dJ2_getChar_3b067_22 : decode cJ2_getChar_3b067 22 = .ok (.ldc 54, 2) := by decide +kernel
theorem dJ2_getChar_3b067_24 : decode cJ2_getChar_3b067 24 = .ok (.invokespecial 56, 3) := by decide +kernel
theorem dJ2_getChar_3b067_27 : decode cJ2_getChar_3b067 27 = .ok (.athrow, 1) := by decide +kernel
theorem dJ2_getChar_3b067_28 : decode cJ2_getChar_3b067 28 = .ok (.iload_n 1, 1) := by decide +kernel
theorem dJ2_getChar_3b067_29 : decode cJ2_getChar_3b067 29 = .ok (.iconst 1, 1) := by decide +kernel
theorem dJ2_getChar_3b067_30 : decode cJ2_getChar_3b067 30 = .ok (.ishl, 1) := by decide +kernel
theorem dJ2_getChar_3b067_31 : decode cJ2_getChar_3b067 31 = .ok (.istore_n 1, 1) := by decide +kernel
theorem dJ2_getChar_3b067_32 : decode cJ2_getChar_3b067 32 = .ok (.aload_n 0, 1) := by decide +kernel
theorem dJ2_getChar_3b067_33 : decode cJ2_getChar_3b067 33 = .ok (.iload_n 1, 1) := by decide +kernel
theorem dJ2_getChar_3b067_34 : decode cJ2_getChar_3b067 34 = .ok (.iinc 1 1, 3) := by decide +kernel
theorem dJ2_getChar_3b067_37 : decode cJ2_getChar_3b067 37 = .ok (.baload, 1) := by decide +kernel
theorem dJ2_getChar_3b067_38 : decode cJ2_getChar_3b067 38 = .ok (.sipush 255, 3) := by decide +kernel
theorem dJ2_getChar_3b067_41 : decode cJ2_getChar_3b067 41 = .ok (.iand, 1) := by decide +kernel
theorem dJ2_getChar_3b067_42 : decode cJ2_getChar_3b067 42 = .ok (.getstatic 59, 3) := by decide +kernel
theorem dJ2_getChar_3b067_45 : decode cJ2_getChar_3b067 45 = .ok (.ishl, 1) := by decide +kernel
theorem dJ2_getChar_3b067_46 : decode cJ2_getChar_3b067 46 = .ok (.aload_n 0, 1) := by decide +kernel
theorem dJ2_getChar_3b067_47 : decode cJ2_getChar_3b067 47 = .ok (.iload_n 1, 1) := by decide +kernel
theorem dJ2_getChar_3b067_48 : decode cJ2_getChar_3b067 48 = .ok (.baload, 1) := by decide +kernel
theorem dJ2_getChar_3b067_49 : decode cJ2_getChar_3b067 49 = .ok (.sipush 255, 3) := by decide +kernel
theorem dJ2_getChar_3b067_52 : decode cJ2_getChar_3b067 52 = .ok (.iand, 1) := by decide +kernel
theorem dJ2_getChar_3b067_53 : decode cJ2_getChar_3b067 53 = .ok (.getstatic 63, 3) := by decide +kernel
theorem dJ2_getChar_3b067_56 : decode cJ2_getChar_3b067 56 = .ok (.ishl, 1) := by decide +kernel
theorem dJ2_getChar_3b067_57 : decode cJ2_getChar_3b067 57 = .ok (.ior, 1) := by decide +kernel
theorem dJ2_getChar_3b067_58 : decode cJ2_getChar_3b067 58 = .ok (.i2c, 1) := by decide +kernel
theorem dJ2_getChar_3b067_59 : decode cJ2_getChar_3b067 59 = .ok (.ireturn, 1) := by decide +kernel
theorem dJ2_length_9d52b_0 : decode cJ2_length_9d52b 0 = .ok (.aload_n 0, 1) := by decide +kernel
theorem dJ2_length_9d52b_1 : decode cJ2_length_9d52b 1 = .ok (.arraylength, 1) := by decide +kernel
theorem dJ2_length_9d52b_2 : decode cJ2_length_9d52b 2 = .ok (.iconst 1, 1) := by decide +kernel
theorem dJ2_length_9d52b_3 : decode cJ2_length_9d52b 3 = .ok (.ishr, 1) := by decide +kernel
theorem dJ2_length_9d52b_4 : decode cJ2_length_9d52b 4 = .ok (.ireturn, 1) := by decide +kernel
theorem dJ2_charAt_3b067_0 : decode cJ2_charAt_3b067 0 = .ok (.iload_n 1, 1) := by decide +kernel
theorem dJ2_charAt_3b067_1 : decode cJ2_charAt_3b067 1 = .ok (.aload_n 0, 1) := by decide +kernel
theorem dJ2_charAt_3b067_2 : decode cJ2_charAt_3b067 2 = .ok (.invokestatic 67, 3) := by decide +kernel
theorem dJ2_charAt_3b067_5 : decode cJ2_charAt_3b067 5 = .ok (.aload_n 0, 1) := by decide +kernel
theorem dJ2_charAt_3b067_6 : decode cJ2_charAt_3b067 6 = .ok (.iload_n 1, 1) := by decide +kernel
theorem dJ2_charAt_3b067_7 : decode cJ2_charAt_3b067 7 = .ok (.invokestatic 71, 3) := by decide +kernel
theorem dJ2_charAt_3b067_10 : decode cJ2_charAt_3b067 10 = .ok (.ireturn, 1) := by decide +kernel
theorem dJ2_checkIndex_2214a_0 : decode cJ2_checkIndex_2214a 0 = .ok (.iload_n 0, 1) := by decide +kernel
theorem dJ2_checkIndex_2214a_1 : decode cJ2_checkIndex_2214a 1 = .ok (.aload_n 1, 1) := by decide +kernel
theorem dJ2_checkIndex_2214a_2 : decode cJ2_checkIndex_2214a 2 = .ok (.invokestatic 48, 3) := by decide +kernel
theorem dJ2_checkIndex_2214a_5 : decode cJ2_checkIndex_2214a 5 = .ok (.invokestatic 414, 3) := by decide +kernel
theorem dJ2_checkIndex_2214a_8 : decode cJ2_checkIndex_2214a 8 = .ok (.return_, 1) := by decide +kernel
theorem dJ3_checkIndex_8e157_0 : decode cJ3_checkIndex_8e157 0 = .ok (.iload_n 0, 1) := by decide +kernel
theorem dJ3_checkIndex_8e157_1 : decode cJ3_checkIndex_8e157 1 = .ok (.ifCond .lt 8, 3) := by decide +kernel
theorem dJ3_checkIndex_8e157_4 : decode cJ3_checkIndex_8e157 4 = .ok (.iload_n 0, 1) := by decide +kernel
theorem dJ3_checkIndex_8e157_5 : decode cJ3_checkIndex_8e157 5 = .ok (.iload_n 1, 1) := by decide +kernel
theorem dJ3_checkIndex_8e157_6 : decode cJ3_checkIndex_8e157 6 = .ok (.if_icmp .lt 10, 3) := by decide +kernel
theorem dJ3_checkIndex_8e157_9 : decode cJ3_checkIndex_8e157 9 = .ok (.aload_n 2, 1) := by decide +kernel
theorem dJ3_checkIndex_8e157_10 : decode cJ3_checkIndex_8e157 10 = .ok (.iload_n 0, 1) := by decide +kernel
theorem dJ3_checkIndex_8e157_11 : decode cJ3_checkIndex_8e157 11 = .ok (.iload_n 1, 1) := by decide +kernel
theorem dJ3_checkIndex_8e157_12 : decode cJ3_checkIndex_8e157 12 = .ok (.invokestatic 95, 3) := by decide +kernel
theorem dJ3_checkIndex_8e157_15 : decode cJ3_checkIndex_8e157 15 = .ok (.athrow, 1) := by decide +kernel
theorem dJ3_checkIndex_8e157_16 : decode cJ3_checkIndex_8e157 16 = .ok (.iload_n 0, 1) := by decide +kernel
theorem dJ3_checkIndex_8e157_17 : decode cJ3_checkIndex_8e157 17 = .ok (.ireturn, 1) := by decide +kernel
