abbrev mL_law : MI := (⟨RL, "law", "([I)Z"⟩, cL_law, 4, some .boolean)
theorem cmp_rf (r : Int64) : lg_cmp r r = 0 := by
  unfold lg_cmp
  rw [if_neg (fun q => Int64.lt_irrefl q), if_pos rfl]
set_option maxHeartbeats 4000000 in
set_option maxRecDepth 20000 in
theorem law_feed {sc : pg_Sc} {Q : pg_Q} {i : Nat} {g : pg_S} (hB : sc.1 < 2 ^ 31) (hi : i + 5 ≤ sc.1) (I : INV g) (k : ∀ g', INV g' → pg_Go sc 40 mL_law 1702 [(0, .ref 906), (1, .ref 0), (2, .ref 59), (3, .int (nI i))] [] g' Q) : pg_Go sc 40 mL_law 232 [(0, .ref 906), (1, .ref 0), (2, .ref 59), (3, .int (nI i))] [] g Q := by
  refine go_aload_n (pc' := 233) dL_law_232 rfl rfl ?_
  refine go_aload_n (pc' := 234) dL_law_233 rfl rfl ?_
  refine go_iload_n (pc' := 235) dL_law_234 rfl rfl ?_
  refine go_iconst (pc' := 236) 1 dL_law_235 rfl (by decide) ?_
  refine go_iadd (pc' := 237) dL_law_236 rfl ?_
  refine go_scr (pc' := 238) (i + 1) dL_law_237 rfl (by rw [show (1 : Int32) = nI 1 from rfl, nI_add]) (by omega) hB ?_
  refine go_i2l (pc' := 239) dL_law_238 rfl ?_
  refine go_bipush (pc' := 241) 32 dL_law_239 rfl (by decide) ?_
  refine go_lshl (pc' := 242) dL_law_241 rfl ?_
  refine go_aload_n (pc' := 243) dL_law_242 rfl rfl ?_
  refine go_iload_n (pc' := 244) dL_law_243 rfl rfl ?_
  refine go_iconst (pc' := 245) 2 dL_law_244 rfl (by decide) ?_
  refine go_iadd (pc' := 246) dL_law_245 rfl ?_
  refine go_scr (pc' := 247) (i + 2) dL_law_246 rfl (by rw [show (2 : Int32) = nI 2 from rfl, nI_add]) (by omega) hB ?_
  refine go_i2l (pc' := 248) dL_law_247 rfl ?_
  refine go_ldc2 (pc' := 251) dL_law_248 rfl clRL_13 ?_
  refine go_land (pc' := 252) dL_law_251 rfl ?_
  refine go_lor (pc' := 253) dL_law_252 rfl ?_
  refine go_aload_n (pc' := 254) dL_law_253 rfl rfl ?_
  refine go_iload_n (pc' := 255) dL_law_254 rfl rfl ?_
  refine go_iconst (pc' := 256) 3 dL_law_255 rfl (by decide) ?_
  refine go_iadd (pc' := 257) dL_law_256 rfl ?_
  refine go_scr (pc' := 258) (i + 3) dL_law_257 rfl (by rw [show (3 : Int32) = nI 3 from rfl, nI_add]) (by omega) hB ?_
  refine go_cVi2 (pc' := 261) (M' := mX6_feed) (d' := 2) dL_law_258 rfl cvRL_15 rfl rfl (by decide) rfl (Nat.le_of_ble_eq_true rfl) ?_
  refine sy_feed I (fun r g1 hm => ?_)
  refine go_aload_n (pc' := 262) dL_law_261 rfl rfl ?_
  refine go_aload_n (pc' := 263) dL_law_262 rfl rfl ?_
  refine go_iload_n (pc' := 264) dL_law_263 rfl rfl ?_
  refine go_iconst (pc' := 265) 1 dL_law_264 rfl (by decide) ?_
  refine go_iadd (pc' := 266) dL_law_265 rfl ?_
  refine go_scr (pc' := 267) (i + 1) dL_law_266 rfl (by rw [show (1 : Int32) = nI 1 from rfl, nI_add]) (by omega) hB ?_
  refine go_i2l (pc' := 268) dL_law_267 rfl ?_
  refine go_bipush (pc' := 270) 32 dL_law_268 rfl (by decide) ?_
  refine go_lshl (pc' := 271) dL_law_270 rfl ?_
  refine go_aload_n (pc' := 272) dL_law_271 rfl rfl ?_
  refine go_iload_n (pc' := 273) dL_law_272 rfl rfl ?_
  refine go_iconst (pc' := 274) 2 dL_law_273 rfl (by decide) ?_
  refine go_iadd (pc' := 275) dL_law_274 rfl ?_
  refine go_scr (pc' := 276) (i + 2) dL_law_275 rfl (by rw [show (2 : Int32) = nI 2 from rfl, nI_add]) (by omega) hB ?_
  refine go_i2l (pc' := 277) dL_law_276 rfl ?_
  refine go_ldc2 (pc' := 280) dL_law_277 rfl clRL_13 ?_
  refine go_land (pc' := 281) dL_law_280 rfl ?_
  refine go_lor (pc' := 282) dL_law_281 rfl ?_
  refine go_aload_n (pc' := 283) dL_law_282 rfl rfl ?_
  refine go_iload_n (pc' := 284) dL_law_283 rfl rfl ?_
  refine go_iconst (pc' := 285) 3 dL_law_284 rfl (by decide) ?_
  refine go_iadd (pc' := 286) dL_law_285 rfl ?_
  refine go_scr (pc' := 287) (i + 3) dL_law_286 rfl (by rw [show (3 : Int32) = nI 3 from rfl, nI_add]) (by omega) hB ?_
  refine go_cVi2 (pc' := 290) (M' := mX7_feed) (d' := 2) dL_law_287 rfl cvRL_19 rfl rfl (by decide) rfl (Nat.le_of_ble_eq_true rfl) ?_
  refine hm _ (fun g2 I2 => ?_)
  refine go_icmp_eq (pc' := 293) (tgt := 1702) dL_law_290 rfl (by decide) (fun h_290 => ?_) (fun h_290 => absurd (rfl) h_290)
  exact k g2 I2
set_option maxHeartbeats 4000000 in
set_option maxRecDepth 20000 in
theorem law_school {sc : pg_Sc} {Q : pg_Q} {i : Nat} {g : pg_S} (hB : sc.1 < 2 ^ 31) (hi : i + 5 ≤ sc.1) (I : INV g) (k : ∀ g', INV g' → pg_Go sc 40 mL_law 1702 [(0, .ref 906), (1, .ref 0), (2, .ref 59), (3, .int (nI i))] [] g' Q) : pg_Go sc 40 mL_law 295 [(0, .ref 906), (1, .ref 0), (2, .ref 59), (3, .int (nI i))] [] g Q := by
  refine go_aload_n (pc' := 296) dL_law_295 rfl rfl ?_
  refine go_cVi0 (pc' := 299) (M' := mX6_school) (d' := 12) dL_law_296 rfl cvRL_20 rfl rfl (by decide) rfl (Nat.le_of_ble_eq_true rfl) ?_
  refine sy_school I (fun r g1 hm => ?_)
  refine go_aload_n (pc' := 300) dL_law_299 rfl rfl ?_
  refine go_cVi0 (pc' := 303) (M' := mX7_school) (d' := 7) dL_law_300 rfl cvRL_24 rfl rfl (by decide) rfl (Nat.le_of_ble_eq_true rfl) ?_
  refine hm _ (fun g2 I2 => ?_)
  refine go_icmp_eq (pc' := 306) (tgt := 1702) dL_law_303 rfl (by decide) (fun h_303 => ?_) (fun h_303 => absurd (rfl) h_303)
  exact k g2 I2
set_option maxHeartbeats 4000000 in
set_option maxRecDepth 20000 in
theorem law_set {sc : pg_Sc} {Q : pg_Q} {i : Nat} {g : pg_S} (hB : sc.1 < 2 ^ 31) (hi : i + 5 ≤ sc.1) (I : INV g) (k : ∀ g', INV g' → pg_Go sc 40 mL_law 1702 [(0, .ref 906), (1, .ref 0), (2, .ref 59), (3, .int (nI i))] [] g' Q) : pg_Go sc 40 mL_law 308 [(0, .ref 906), (1, .ref 0), (2, .ref 59), (3, .int (nI i))] [] g Q := by
  refine go_aload_n (pc' := 309) dL_law_308 rfl rfl ?_
  refine go_aload_n (pc' := 310) dL_law_309 rfl rfl ?_
  refine go_iload_n (pc' := 311) dL_law_310 rfl rfl ?_
  refine go_iconst (pc' := 312) 1 dL_law_311 rfl (by decide) ?_
  refine go_iadd (pc' := 313) dL_law_312 rfl ?_
  refine go_scr (pc' := 314) (i + 1) dL_law_313 rfl (by rw [show (1 : Int32) = nI 1 from rfl, nI_add]) (by omega) hB ?_
  refine go_aload_n (pc' := 315) dL_law_314 rfl rfl ?_
  refine go_iload_n (pc' := 316) dL_law_315 rfl rfl ?_
  refine go_iconst (pc' := 317) 2 dL_law_316 rfl (by decide) ?_
  refine go_iadd (pc' := 318) dL_law_317 rfl ?_
  refine go_scr (pc' := 319) (i + 2) dL_law_318 rfl (by rw [show (2 : Int32) = nI 2 from rfl, nI_add]) (by omega) hB ?_
  refine go_cVi2 (pc' := 322) (M' := mX6_set) (d' := 2) dL_law_319 rfl cvRL_25 rfl rfl (by decide) rfl (Nat.le_of_ble_eq_true rfl) ?_
  refine sy_set I (fun r g1 hm => ?_)
  refine go_aload_n (pc' := 323) dL_law_322 rfl rfl ?_
  refine go_aload_n (pc' := 324) dL_law_323 rfl rfl ?_
  refine go_iload_n (pc' := 325) dL_law_324 rfl rfl ?_
  refine go_iconst (pc' := 326) 1 dL_law_325 rfl (by decide) ?_
  refine go_iadd (pc' := 327) dL_law_326 rfl ?_
  refine go_scr (pc' := 328) (i + 1) dL_law_327 rfl (by rw [show (1 : Int32) = nI 1 from rfl, nI_add]) (by omega) hB ?_
  refine go_aload_n (pc' := 329) dL_law_328 rfl rfl ?_
  refine go_iload_n (pc' := 330) dL_law_329 rfl rfl ?_
  refine go_iconst (pc' := 331) 2 dL_law_330 rfl (by decide) ?_
  refine go_iadd (pc' := 332) dL_law_331 rfl ?_
  refine go_scr (pc' := 333) (i + 2) dL_law_332 rfl (by rw [show (2 : Int32) = nI 2 from rfl, nI_add]) (by omega) hB ?_
  refine go_cVi2 (pc' := 336) (M' := mX7_set) (d' := 2) dL_law_333 rfl cvRL_29 rfl rfl (by decide) rfl (Nat.le_of_ble_eq_true rfl) ?_
  refine hm _ (fun g2 I2 => ?_)
  refine go_icmp_eq (pc' := 339) (tgt := 1702) dL_law_336 rfl (by decide) (fun h_336 => ?_) (fun h_336 => absurd (rfl) h_336)
  exact k g2 I2
set_option maxHeartbeats 4000000 in
set_option maxRecDepth 20000 in
theorem law_lawOf {sc : pg_Sc} {Q : pg_Q} {i : Nat} {g : pg_S} (hB : sc.1 < 2 ^ 31) (hi : i + 5 ≤ sc.1) (I : INV g) (k : ∀ g', INV g' → pg_Go sc 40 mL_law 1702 [(0, .ref 906), (1, .ref 0), (2, .ref 59), (3, .int (nI i))] [] g' Q) : pg_Go sc 40 mL_law 341 [(0, .ref 906), (1, .ref 0), (2, .ref 59), (3, .int (nI i))] [] g Q := by
  refine go_aload_n (pc' := 342) dL_law_341 rfl rfl ?_
  refine go_aload_n (pc' := 343) dL_law_342 rfl rfl ?_
  refine go_iload_n (pc' := 344) dL_law_343 rfl rfl ?_
  refine go_iconst (pc' := 345) 1 dL_law_344 rfl (by decide) ?_
  refine go_iadd (pc' := 346) dL_law_345 rfl ?_
  refine go_scr (pc' := 347) (i + 1) dL_law_346 rfl (by rw [show (1 : Int32) = nI 1 from rfl, nI_add]) (by omega) hB ?_
  refine go_cVi1 (pc' := 350) (M' := mX6_lawOf) (d' := 2) dL_law_347 rfl cvRL_30 rfl rfl (by decide) rfl (Nat.le_of_ble_eq_true rfl) ?_
  refine sy_lawOf I (fun r g1 hm => ?_)
  refine go_aload_n (pc' := 351) dL_law_350 rfl rfl ?_
  refine go_aload_n (pc' := 352) dL_law_351 rfl rfl ?_
  refine go_iload_n (pc' := 353) dL_law_352 rfl rfl ?_
  refine go_iconst (pc' := 354) 1 dL_law_353 rfl (by decide) ?_
  refine go_iadd (pc' := 355) dL_law_354 rfl ?_
  refine go_scr (pc' := 356) (i + 1) dL_law_355 rfl (by rw [show (1 : Int32) = nI 1 from rfl, nI_add]) (by omega) hB ?_
  refine go_cVi1 (pc' := 359) (M' := mX7_lawOf) (d' := 2) dL_law_356 rfl cvRL_34 rfl rfl (by decide) rfl (Nat.le_of_ble_eq_true rfl) ?_
  refine hm _ (fun g2 I2 => ?_)
  refine go_icmp_eq (pc' := 362) (tgt := 1702) dL_law_359 rfl (by decide) (fun h_359 => ?_) (fun h_359 => absurd (rfl) h_359)
  exact k g2 I2
set_option maxHeartbeats 4000000 in
set_option maxRecDepth 20000 in
theorem law_person {sc : pg_Sc} {Q : pg_Q} {i : Nat} {g : pg_S} (hB : sc.1 < 2 ^ 31) (hi : i + 5 ≤ sc.1) (I : INV g) (k : ∀ g', INV g' → pg_Go sc 40 mL_law 1702 [(0, .ref 906), (1, .ref 0), (2, .ref 59), (3, .int (nI i))] [] g' Q) : pg_Go sc 40 mL_law 364 [(0, .ref 906), (1, .ref 0), (2, .ref 59), (3, .int (nI i))] [] g Q := by
  refine go_aload_n (pc' := 365) dL_law_364 rfl rfl ?_
  refine go_aload_n (pc' := 366) dL_law_365 rfl rfl ?_
  refine go_iload_n (pc' := 367) dL_law_366 rfl rfl ?_
  refine go_iconst (pc' := 368) 1 dL_law_367 rfl (by decide) ?_
  refine go_iadd (pc' := 369) dL_law_368 rfl ?_
  refine go_scr (pc' := 370) (i + 1) dL_law_369 rfl (by rw [show (1 : Int32) = nI 1 from rfl, nI_add]) (by omega) hB ?_
  refine go_aload_n (pc' := 371) dL_law_370 rfl rfl ?_
  refine go_iload_n (pc' := 372) dL_law_371 rfl rfl ?_
  refine go_iconst (pc' := 373) 2 dL_law_372 rfl (by decide) ?_
  refine go_iadd (pc' := 374) dL_law_373 rfl ?_
  refine go_scr (pc' := 375) (i + 2) dL_law_374 rfl (by rw [show (2 : Int32) = nI 2 from rfl, nI_add]) (by omega) hB ?_
  refine go_aload_n (pc' := 376) dL_law_375 rfl rfl ?_
  refine go_iload_n (pc' := 377) dL_law_376 rfl rfl ?_
  refine go_iconst (pc' := 378) 3 dL_law_377 rfl (by decide) ?_
  refine go_iadd (pc' := 379) dL_law_378 rfl ?_
  refine go_scr (pc' := 380) (i + 3) dL_law_379 rfl (by rw [show (3 : Int32) = nI 3 from rfl, nI_add]) (by omega) hB ?_
  refine go_aload_n (pc' := 381) dL_law_380 rfl rfl ?_
  refine go_iload_n (pc' := 382) dL_law_381 rfl rfl ?_
  refine go_iconst (pc' := 383) 4 dL_law_382 rfl (by decide) ?_
  refine go_iadd (pc' := 384) dL_law_383 rfl ?_
  refine go_scr (pc' := 385) (i + 4) dL_law_384 rfl (by rw [show (4 : Int32) = nI 4 from rfl, nI_add]) (by omega) hB ?_
  refine go_cVi4 (pc' := 388) (M' := mX6_person) (d' := 2) dL_law_385 rfl cvRL_35 rfl rfl (by decide) rfl (Nat.le_of_ble_eq_true rfl) ?_
  refine sy_person I (fun r g1 hm => ?_)
  refine go_aload_n (pc' := 389) dL_law_388 rfl rfl ?_
  refine go_aload_n (pc' := 390) dL_law_389 rfl rfl ?_
  refine go_iload_n (pc' := 391) dL_law_390 rfl rfl ?_
  refine go_iconst (pc' := 392) 1 dL_law_391 rfl (by decide) ?_
  refine go_iadd (pc' := 393) dL_law_392 rfl ?_
  refine go_scr (pc' := 394) (i + 1) dL_law_393 rfl (by rw [show (1 : Int32) = nI 1 from rfl, nI_add]) (by omega) hB ?_
  refine go_aload_n (pc' := 395) dL_law_394 rfl rfl ?_
  refine go_iload_n (pc' := 396) dL_law_395 rfl rfl ?_
  refine go_iconst (pc' := 397) 2 dL_law_396 rfl (by decide) ?_
  refine go_iadd (pc' := 398) dL_law_397 rfl ?_
  refine go_scr (pc' := 399) (i + 2) dL_law_398 rfl (by rw [show (2 : Int32) = nI 2 from rfl, nI_add]) (by omega) hB ?_
  refine go_aload_n (pc' := 400) dL_law_399 rfl rfl ?_
  refine go_iload_n (pc' := 401) dL_law_400 rfl rfl ?_
  refine go_iconst (pc' := 402) 3 dL_law_401 rfl (by decide) ?_
  refine go_iadd (pc' := 403) dL_law_402 rfl ?_
  refine go_scr (pc' := 404) (i + 3) dL_law_403 rfl (by rw [show (3 : Int32) = nI 3 from rfl, nI_add]) (by omega) hB ?_
  refine go_aload_n (pc' := 405) dL_law_404 rfl rfl ?_
  refine go_iload_n (pc' := 406) dL_law_405 rfl rfl ?_
  refine go_iconst (pc' := 407) 4 dL_law_406 rfl (by decide) ?_
  refine go_iadd (pc' := 408) dL_law_407 rfl ?_
  refine go_scr (pc' := 409) (i + 4) dL_law_408 rfl (by rw [show (4 : Int32) = nI 4 from rfl, nI_add]) (by omega) hB ?_
  refine go_cVi4 (pc' := 412) (M' := mX7_person) (d' := 4) dL_law_409 rfl cvRL_39 rfl rfl (by decide) rfl (Nat.le_of_ble_eq_true rfl) ?_
  refine hm _ (fun g2 I2 => ?_)
  refine go_icmp_eq (pc' := 415) (tgt := 1702) dL_law_412 rfl (by decide) (fun h_412 => ?_) (fun h_412 => absurd (rfl) h_412)
  exact k g2 I2
set_option maxHeartbeats 4000000 in
set_option maxRecDepth 20000 in
theorem law_of {sc : pg_Sc} {Q : pg_Q} {i : Nat} {g : pg_S} (hB : sc.1 < 2 ^ 31) (hi : i + 5 ≤ sc.1) (I : INV g) (k : ∀ g', INV g' → pg_Go sc 40 mL_law 1702 [(0, .ref 906), (1, .ref 0), (2, .ref 59), (3, .int (nI i))] [] g' Q) : pg_Go sc 40 mL_law 417 [(0, .ref 906), (1, .ref 0), (2, .ref 59), (3, .int (nI i))] [] g Q := by
  refine go_aload_n (pc' := 418) dL_law_417 rfl rfl ?_
  refine go_aload_n (pc' := 419) dL_law_418 rfl rfl ?_
  refine go_iload_n (pc' := 420) dL_law_419 rfl rfl ?_
  refine go_iconst (pc' := 421) 1 dL_law_420 rfl (by decide) ?_
  refine go_iadd (pc' := 422) dL_law_421 rfl ?_
  refine go_scr (pc' := 423) (i + 1) dL_law_422 rfl (by rw [show (1 : Int32) = nI 1 from rfl, nI_add]) (by omega) hB ?_
  refine go_aload_n (pc' := 424) dL_law_423 rfl rfl ?_
  refine go_iload_n (pc' := 425) dL_law_424 rfl rfl ?_
  refine go_iconst (pc' := 426) 2 dL_law_425 rfl (by decide) ?_
  refine go_iadd (pc' := 427) dL_law_426 rfl ?_
  refine go_scr (pc' := 428) (i + 2) dL_law_427 rfl (by rw [show (2 : Int32) = nI 2 from rfl, nI_add]) (by omega) hB ?_
  refine go_cVi2 (pc' := 431) (M' := mX6_of) (d' := 2) dL_law_428 rfl cvRL_40 rfl rfl (by decide) rfl (Nat.le_of_ble_eq_true rfl) ?_
  refine sy_of I (fun r g1 hm => ?_)
  refine go_aload_n (pc' := 432) dL_law_431 rfl rfl ?_
  refine go_aload_n (pc' := 433) dL_law_432 rfl rfl ?_
  refine go_iload_n (pc' := 434) dL_law_433 rfl rfl ?_
  refine go_iconst (pc' := 435) 1 dL_law_434 rfl (by decide) ?_
  refine go_iadd (pc' := 436) dL_law_435 rfl ?_
  refine go_scr (pc' := 437) (i + 1) dL_law_436 rfl (by rw [show (1 : Int32) = nI 1 from rfl, nI_add]) (by omega) hB ?_
  refine go_aload_n (pc' := 438) dL_law_437 rfl rfl ?_
  refine go_iload_n (pc' := 439) dL_law_438 rfl rfl ?_
  refine go_iconst (pc' := 440) 2 dL_law_439 rfl (by decide) ?_
  refine go_iadd (pc' := 441) dL_law_440 rfl ?_
  refine go_scr (pc' := 442) (i + 2) dL_law_441 rfl (by rw [show (2 : Int32) = nI 2 from rfl, nI_add]) (by omega) hB ?_
  refine go_cVi2 (pc' := 445) (M' := mX7_of) (d' := 3) dL_law_442 rfl cvRL_43 rfl rfl (by decide) rfl (Nat.le_of_ble_eq_true rfl) ?_
  refine hm _ (fun g2 I2 => ?_)
  refine go_icmp_eq (pc' := 448) (tgt := 1702) dL_law_445 rfl (by decide) (fun h_445 => ?_) (fun h_445 => absurd (rfl) h_445)
  exact k g2 I2
set_option maxHeartbeats 4000000 in
set_option maxRecDepth 20000 in
theorem law_leans {sc : pg_Sc} {Q : pg_Q} {i : Nat} {g : pg_S} (hB : sc.1 < 2 ^ 31) (hi : i + 5 ≤ sc.1) (I : INV g) (k : ∀ g', INV g' → pg_Go sc 40 mL_law 1702 [(0, .ref 906), (1, .ref 0), (2, .ref 59), (3, .int (nI i))] [] g' Q) : pg_Go sc 40 mL_law 450 [(0, .ref 906), (1, .ref 0), (2, .ref 59), (3, .int (nI i))] [] g Q := by
  refine go_aload_n (pc' := 451) dL_law_450 rfl rfl ?_
  refine go_aload_n (pc' := 452) dL_law_451 rfl rfl ?_
  refine go_iload_n (pc' := 453) dL_law_452 rfl rfl ?_
  refine go_iconst (pc' := 454) 1 dL_law_453 rfl (by decide) ?_
  refine go_iadd (pc' := 455) dL_law_454 rfl ?_
  refine go_scr (pc' := 456) (i + 1) dL_law_455 rfl (by rw [show (1 : Int32) = nI 1 from rfl, nI_add]) (by omega) hB ?_
  refine go_aload_n (pc' := 457) dL_law_456 rfl rfl ?_
  refine go_iload_n (pc' := 458) dL_law_457 rfl rfl ?_
  refine go_iconst (pc' := 459) 2 dL_law_458 rfl (by decide) ?_
  refine go_iadd (pc' := 460) dL_law_459 rfl ?_
  refine go_scr (pc' := 461) (i + 2) dL_law_460 rfl (by rw [show (2 : Int32) = nI 2 from rfl, nI_add]) (by omega) hB ?_
  refine go_cVi2 (pc' := 464) (M' := mX6_leans) (d' := 2) dL_law_461 rfl cvRL_44 rfl rfl (by decide) rfl (Nat.le_of_ble_eq_true rfl) ?_
  refine sy_leans I (fun r g1 hm => ?_)
  refine go_aload_n (pc' := 465) dL_law_464 rfl rfl ?_
  refine go_aload_n (pc' := 466) dL_law_465 rfl rfl ?_
  refine go_iload_n (pc' := 467) dL_law_466 rfl rfl ?_
  refine go_iconst (pc' := 468) 1 dL_law_467 rfl (by decide) ?_
  refine go_iadd (pc' := 469) dL_law_468 rfl ?_
  refine go_scr (pc' := 470) (i + 1) dL_law_469 rfl (by rw [show (1 : Int32) = nI 1 from rfl, nI_add]) (by omega) hB ?_
  refine go_aload_n (pc' := 471) dL_law_470 rfl rfl ?_
  refine go_iload_n (pc' := 472) dL_law_471 rfl rfl ?_
  refine go_iconst (pc' := 473) 2 dL_law_472 rfl (by decide) ?_
  refine go_iadd (pc' := 474) dL_law_473 rfl ?_
  refine go_scr (pc' := 475) (i + 2) dL_law_474 rfl (by rw [show (2 : Int32) = nI 2 from rfl, nI_add]) (by omega) hB ?_
  refine go_cVi2 (pc' := 478) (M' := mX7_leans) (d' := 3) dL_law_475 rfl cvRL_47 rfl rfl (by decide) rfl (Nat.le_of_ble_eq_true rfl) ?_
  refine hm _ (fun g2 I2 => ?_)
  refine go_icmp_eq (pc' := 481) (tgt := 1702) dL_law_478 rfl (by decide) (fun h_478 => ?_) (fun h_478 => absurd (rfl) h_478)
  exact k g2 I2
set_option maxHeartbeats 4000000 in
set_option maxRecDepth 20000 in
theorem law_strides {sc : pg_Sc} {Q : pg_Q} {i : Nat} {g : pg_S} (hB : sc.1 < 2 ^ 31) (hi : i + 5 ≤ sc.1) (I : INV g) (k : ∀ g', INV g' → pg_Go sc 40 mL_law 1702 [(0, .ref 906), (1, .ref 0), (2, .ref 59), (3, .int (nI i))] [] g' Q) : pg_Go sc 40 mL_law 483 [(0, .ref 906), (1, .ref 0), (2, .ref 59), (3, .int (nI i))] [] g Q := by
  refine go_aload_n (pc' := 484) dL_law_483 rfl rfl ?_
  refine go_aload_n (pc' := 485) dL_law_484 rfl rfl ?_
  refine go_iload_n (pc' := 486) dL_law_485 rfl rfl ?_
  refine go_iconst (pc' := 487) 1 dL_law_486 rfl (by decide) ?_
  refine go_iadd (pc' := 488) dL_law_487 rfl ?_
  refine go_scr (pc' := 489) (i + 1) dL_law_488 rfl (by rw [show (1 : Int32) = nI 1 from rfl, nI_add]) (by omega) hB ?_
  refine go_cVi1 (pc' := 492) (M' := mX6_strides) (d' := 2) dL_law_489 rfl cvRL_48 rfl rfl (by decide) rfl (Nat.le_of_ble_eq_true rfl) ?_
  refine sy_strides I (fun r g1 hm => ?_)
  refine go_aload_n (pc' := 493) dL_law_492 rfl rfl ?_
  refine go_aload_n (pc' := 494) dL_law_493 rfl rfl ?_
  refine go_iload_n (pc' := 495) dL_law_494 rfl rfl ?_
  refine go_iconst (pc' := 496) 1 dL_law_495 rfl (by decide) ?_
  refine go_iadd (pc' := 497) dL_law_496 rfl ?_
  refine go_scr (pc' := 498) (i + 1) dL_law_497 rfl (by rw [show (1 : Int32) = nI 1 from rfl, nI_add]) (by omega) hB ?_
  refine go_cVi1 (pc' := 501) (M' := mX7_strides) (d' := 3) dL_law_498 rfl cvRL_51 rfl rfl (by decide) rfl (Nat.le_of_ble_eq_true rfl) ?_
  refine hm _ (fun g2 I2 => ?_)
  refine go_icmp_eq (pc' := 504) (tgt := 1702) dL_law_501 rfl (by decide) (fun h_501 => ?_) (fun h_501 => absurd (rfl) h_501)
  exact k g2 I2
set_option maxHeartbeats 4000000 in
set_option maxRecDepth 20000 in
theorem law_mind {sc : pg_Sc} {Q : pg_Q} {i : Nat} {g : pg_S} (hB : sc.1 < 2 ^ 31) (hi : i + 5 ≤ sc.1) (I : INV g) (k : ∀ g', INV g' → pg_Go sc 40 mL_law 1702 [(0, .ref 906), (1, .ref 0), (2, .ref 59), (3, .int (nI i))] [] g' Q) : pg_Go sc 40 mL_law 506 [(0, .ref 906), (1, .ref 0), (2, .ref 59), (3, .int (nI i))] [] g Q := by
  refine go_aload_n (pc' := 507) dL_law_506 rfl rfl ?_
  refine go_aload_n (pc' := 508) dL_law_507 rfl rfl ?_
  refine go_iload_n (pc' := 509) dL_law_508 rfl rfl ?_
  refine go_iconst (pc' := 510) 1 dL_law_509 rfl (by decide) ?_
  refine go_iadd (pc' := 511) dL_law_510 rfl ?_
  refine go_scr (pc' := 512) (i + 1) dL_law_511 rfl (by rw [show (1 : Int32) = nI 1 from rfl, nI_add]) (by omega) hB ?_
  refine go_aload_n (pc' := 513) dL_law_512 rfl rfl ?_
  refine go_iload_n (pc' := 514) dL_law_513 rfl rfl ?_
  refine go_iconst (pc' := 515) 2 dL_law_514 rfl (by decide) ?_
  refine go_iadd (pc' := 516) dL_law_515 rfl ?_
  refine go_scr (pc' := 517) (i + 2) dL_law_516 rfl (by rw [show (2 : Int32) = nI 2 from rfl, nI_add]) (by omega) hB ?_
  refine go_aload_n (pc' := 518) dL_law_517 rfl rfl ?_
  refine go_iload_n (pc' := 519) dL_law_518 rfl rfl ?_
  refine go_iconst (pc' := 520) 3 dL_law_519 rfl (by decide) ?_
  refine go_iadd (pc' := 521) dL_law_520 rfl ?_
  refine go_scr (pc' := 522) (i + 3) dL_law_521 rfl (by rw [show (3 : Int32) = nI 3 from rfl, nI_add]) (by omega) hB ?_
  refine go_cVi3 (pc' := 525) (M' := mX6_mind) (d' := 2) dL_law_522 rfl cvRL_52 rfl rfl (by decide) rfl (Nat.le_of_ble_eq_true rfl) ?_
  refine sy_mind I (fun r g1 hm => ?_)
  refine go_aload_n (pc' := 526) dL_law_525 rfl rfl ?_
  refine go_aload_n (pc' := 527) dL_law_526 rfl rfl ?_
  refine go_iload_n (pc' := 528) dL_law_527 rfl rfl ?_
  refine go_iconst (pc' := 529) 1 dL_law_528 rfl (by decide) ?_
  refine go_iadd (pc' := 530) dL_law_529 rfl ?_
  refine go_scr (pc' := 531) (i + 1) dL_law_530 rfl (by rw [show (1 : Int32) = nI 1 from rfl, nI_add]) (by omega) hB ?_
  refine go_aload_n (pc' := 532) dL_law_531 rfl rfl ?_
  refine go_iload_n (pc' := 533) dL_law_532 rfl rfl ?_
  refine go_iconst (pc' := 534) 2 dL_law_533 rfl (by decide) ?_
  refine go_iadd (pc' := 535) dL_law_534 rfl ?_
  refine go_scr (pc' := 536) (i + 2) dL_law_535 rfl (by rw [show (2 : Int32) = nI 2 from rfl, nI_add]) (by omega) hB ?_
  refine go_aload_n (pc' := 537) dL_law_536 rfl rfl ?_
  refine go_iload_n (pc' := 538) dL_law_537 rfl rfl ?_
  refine go_iconst (pc' := 539) 3 dL_law_538 rfl (by decide) ?_
  refine go_iadd (pc' := 540) dL_law_539 rfl ?_
  refine go_scr (pc' := 541) (i + 3) dL_law_540 rfl (by rw [show (3 : Int32) = nI 3 from rfl, nI_add]) (by omega) hB ?_
  refine go_cVi3 (pc' := 544) (M' := mX7_mind) (d' := 4) dL_law_541 rfl cvRL_56 rfl rfl (by decide) rfl (Nat.le_of_ble_eq_true rfl) ?_
  refine hm _ (fun g2 I2 => ?_)
  refine go_icmp_eq (pc' := 547) (tgt := 1702) dL_law_544 rfl (by decide) (fun h_544 => ?_) (fun h_544 => absurd (rfl) h_544)
  exact k g2 I2
set_option maxHeartbeats 4000000 in
set_option maxRecDepth 20000 in
theorem law_age {sc : pg_Sc} {Q : pg_Q} {i : Nat} {g : pg_S} (hB : sc.1 < 2 ^ 31) (hi : i + 5 ≤ sc.1) (I : INV g) (k : ∀ g', INV g' → pg_Go sc 40 mL_law 1702 [(0, .ref 906), (1, .ref 0), (2, .ref 59), (3, .int (nI i))] [] g' Q) : pg_Go sc 40 mL_law 549 [(0, .ref 906), (1, .ref 0), (2, .ref 59), (3, .int (nI i))] [] g Q := by
  refine go_aload_n (pc' := 550) dL_law_549 rfl rfl ?_
  refine go_aload_n (pc' := 551) dL_law_550 rfl rfl ?_
  refine go_iload_n (pc' := 552) dL_law_551 rfl rfl ?_
  refine go_iconst (pc' := 553) 1 dL_law_552 rfl (by decide) ?_
  refine go_iadd (pc' := 554) dL_law_553 rfl ?_
  refine go_scr (pc' := 555) (i + 1) dL_law_554 rfl (by rw [show (1 : Int32) = nI 1 from rfl, nI_add]) (by omega) hB ?_
  refine go_aload_n (pc' := 556) dL_law_555 rfl rfl ?_
  refine go_iload_n (pc' := 557) dL_law_556 rfl rfl ?_
  refine go_iconst (pc' := 558) 2 dL_law_557 rfl (by decide) ?_
  refine go_iadd (pc' := 559) dL_law_558 rfl ?_
  refine go_scr (pc' := 560) (i + 2) dL_law_559 rfl (by rw [show (2 : Int32) = nI 2 from rfl, nI_add]) (by omega) hB ?_
  refine go_cVi2 (pc' := 563) (M' := mX6_age) (d' := 2) dL_law_560 rfl cvRL_57 rfl rfl (by decide) rfl (Nat.le_of_ble_eq_true rfl) ?_
  refine sy_age I (fun r g1 hm => ?_)
  refine go_aload_n (pc' := 564) dL_law_563 rfl rfl ?_
  refine go_aload_n (pc' := 565) dL_law_564 rfl rfl ?_
  refine go_iload_n (pc' := 566) dL_law_565 rfl rfl ?_
  refine go_iconst (pc' := 567) 1 dL_law_566 rfl (by decide) ?_
  refine go_iadd (pc' := 568) dL_law_567 rfl ?_
  refine go_scr (pc' := 569) (i + 1) dL_law_568 rfl (by rw [show (1 : Int32) = nI 1 from rfl, nI_add]) (by omega) hB ?_
  refine go_aload_n (pc' := 570) dL_law_569 rfl rfl ?_
  refine go_iload_n (pc' := 571) dL_law_570 rfl rfl ?_
  refine go_iconst (pc' := 572) 2 dL_law_571 rfl (by decide) ?_
  refine go_iadd (pc' := 573) dL_law_572 rfl ?_
  refine go_scr (pc' := 574) (i + 2) dL_law_573 rfl (by rw [show (2 : Int32) = nI 2 from rfl, nI_add]) (by omega) hB ?_
  refine go_cVi2 (pc' := 577) (M' := mX7_age) (d' := 3) dL_law_574 rfl cvRL_60 rfl rfl (by decide) rfl (Nat.le_of_ble_eq_true rfl) ?_
  refine hm _ (fun g2 I2 => ?_)
  refine go_icmp_eq (pc' := 580) (tgt := 1702) dL_law_577 rfl (by decide) (fun h_577 => ?_) (fun h_577 => absurd (rfl) h_577)
  exact k g2 I2
set_option maxHeartbeats 4000000 in
set_option maxRecDepth 20000 in
theorem law_bring {sc : pg_Sc} {Q : pg_Q} {i : Nat} {g : pg_S} (hB : sc.1 < 2 ^ 31) (hi : i + 5 ≤ sc.1) (I : INV g) (k : ∀ g', INV g' → pg_Go sc 40 mL_law 1702 [(0, .ref 906), (1, .ref 0), (2, .ref 59), (3, .int (nI i))] [] g' Q) : pg_Go sc 40 mL_law 582 [(0, .ref 906), (1, .ref 0), (2, .ref 59), (3, .int (nI i))] [] g Q := by
  refine go_aload_n (pc' := 583) dL_law_582 rfl rfl ?_
  refine go_aload_n (pc' := 584) dL_law_583 rfl rfl ?_
  refine go_iload_n (pc' := 585) dL_law_584 rfl rfl ?_
  refine go_iconst (pc' := 586) 1 dL_law_585 rfl (by decide) ?_
  refine go_iadd (pc' := 587) dL_law_586 rfl ?_
  refine go_scr (pc' := 588) (i + 1) dL_law_587 rfl (by rw [show (1 : Int32) = nI 1 from rfl, nI_add]) (by omega) hB ?_
  refine go_aload_n (pc' := 589) dL_law_588 rfl rfl ?_
  refine go_iload_n (pc' := 590) dL_law_589 rfl rfl ?_
  refine go_iconst (pc' := 591) 2 dL_law_590 rfl (by decide) ?_
  refine go_iadd (pc' := 592) dL_law_591 rfl ?_
  refine go_scr (pc' := 593) (i + 2) dL_law_592 rfl (by rw [show (2 : Int32) = nI 2 from rfl, nI_add]) (by omega) hB ?_
  refine go_cVi2 (pc' := 596) (M' := mX6_bring) (d' := 2) dL_law_593 rfl cvRL_61 rfl rfl (by decide) rfl (Nat.le_of_ble_eq_true rfl) ?_
  refine sy_bring I (fun r g1 hm => ?_)
  refine go_aload_n (pc' := 597) dL_law_596 rfl rfl ?_
  refine go_aload_n (pc' := 598) dL_law_597 rfl rfl ?_
  refine go_iload_n (pc' := 599) dL_law_598 rfl rfl ?_
  refine go_iconst (pc' := 600) 1 dL_law_599 rfl (by decide) ?_
  refine go_iadd (pc' := 601) dL_law_600 rfl ?_
  refine go_scr (pc' := 602) (i + 1) dL_law_601 rfl (by rw [show (1 : Int32) = nI 1 from rfl, nI_add]) (by omega) hB ?_
  refine go_aload_n (pc' := 603) dL_law_602 rfl rfl ?_
  refine go_iload_n (pc' := 604) dL_law_603 rfl rfl ?_
  refine go_iconst (pc' := 605) 2 dL_law_604 rfl (by decide) ?_
  refine go_iadd (pc' := 606) dL_law_605 rfl ?_
  refine go_scr (pc' := 607) (i + 2) dL_law_606 rfl (by rw [show (2 : Int32) = nI 2 from rfl, nI_add]) (by omega) hB ?_
  refine go_cVi2 (pc' := 610) (M' := mX7_bring) (d' := 3) dL_law_607 rfl cvRL_64 rfl rfl (by decide) rfl (Nat.le_of_ble_eq_true rfl) ?_
  refine hm _ (fun g2 I2 => ?_)
  refine go_icmp_eq (pc' := 613) (tgt := 1702) dL_law_610 rfl (by decide) (fun h_610 => ?_) (fun h_610 => absurd (rfl) h_610)
  exact k g2 I2
set_option maxHeartbeats 4000000 in
set_option maxRecDepth 20000 in
theorem law_know {sc : pg_Sc} {Q : pg_Q} {i : Nat} {g : pg_S} (hB : sc.1 < 2 ^ 31) (hi : i + 5 ≤ sc.1) (I : INV g) (k : ∀ g', INV g' → pg_Go sc 40 mL_law 1702 [(0, .ref 906), (1, .ref 0), (2, .ref 59), (3, .int (nI i))] [] g' Q) : pg_Go sc 40 mL_law 615 [(0, .ref 906), (1, .ref 0), (2, .ref 59), (3, .int (nI i))] [] g Q := by
  refine go_aload_n (pc' := 616) dL_law_615 rfl rfl ?_
  refine go_aload_n (pc' := 617) dL_law_616 rfl rfl ?_
  refine go_iload_n (pc' := 618) dL_law_617 rfl rfl ?_
  refine go_iconst (pc' := 619) 1 dL_law_618 rfl (by decide) ?_
  refine go_iadd (pc' := 620) dL_law_619 rfl ?_
  refine go_scr (pc' := 621) (i + 1) dL_law_620 rfl (by rw [show (1 : Int32) = nI 1 from rfl, nI_add]) (by omega) hB ?_
  refine go_aload_n (pc' := 622) dL_law_621 rfl rfl ?_
  refine go_iload_n (pc' := 623) dL_law_622 rfl rfl ?_
  refine go_iconst (pc' := 624) 2 dL_law_623 rfl (by decide) ?_
  refine go_iadd (pc' := 625) dL_law_624 rfl ?_
  refine go_scr (pc' := 626) (i + 2) dL_law_625 rfl (by rw [show (2 : Int32) = nI 2 from rfl, nI_add]) (by omega) hB ?_
  refine go_aload_n (pc' := 627) dL_law_626 rfl rfl ?_
  refine go_iload_n (pc' := 628) dL_law_627 rfl rfl ?_
  refine go_iconst (pc' := 629) 3 dL_law_628 rfl (by decide) ?_
  refine go_iadd (pc' := 630) dL_law_629 rfl ?_
  refine go_scr (pc' := 631) (i + 3) dL_law_630 rfl (by rw [show (3 : Int32) = nI 3 from rfl, nI_add]) (by omega) hB ?_
  refine go_cVi3 (pc' := 634) (M' := mX6_know) (d' := 3) dL_law_631 rfl cvRL_65 rfl rfl (by decide) rfl (Nat.le_of_ble_eq_true rfl) ?_
  refine sy_know I (fun r g1 hm => ?_)
  refine go_aload_n (pc' := 635) dL_law_634 rfl rfl ?_
  refine go_aload_n (pc' := 636) dL_law_635 rfl rfl ?_
  refine go_iload_n (pc' := 637) dL_law_636 rfl rfl ?_
  refine go_iconst (pc' := 638) 1 dL_law_637 rfl (by decide) ?_
  refine go_iadd (pc' := 639) dL_law_638 rfl ?_
  refine go_scr (pc' := 640) (i + 1) dL_law_639 rfl (by rw [show (1 : Int32) = nI 1 from rfl, nI_add]) (by omega) hB ?_
  refine go_aload_n (pc' := 641) dL_law_640 rfl rfl ?_
  refine go_iload_n (pc' := 642) dL_law_641 rfl rfl ?_
  refine go_iconst (pc' := 643) 2 dL_law_642 rfl (by decide) ?_
  refine go_iadd (pc' := 644) dL_law_643 rfl ?_
  refine go_scr (pc' := 645) (i + 2) dL_law_644 rfl (by rw [show (2 : Int32) = nI 2 from rfl, nI_add]) (by omega) hB ?_
  refine go_aload_n (pc' := 646) dL_law_645 rfl rfl ?_
  refine go_iload_n (pc' := 647) dL_law_646 rfl rfl ?_
  refine go_iconst (pc' := 648) 3 dL_law_647 rfl (by decide) ?_
  refine go_iadd (pc' := 649) dL_law_648 rfl ?_
  refine go_scr (pc' := 650) (i + 3) dL_law_649 rfl (by rw [show (3 : Int32) = nI 3 from rfl, nI_add]) (by omega) hB ?_
  refine go_cVi3 (pc' := 653) (M' := mX7_know) (d' := 3) dL_law_650 rfl cvRL_68 rfl rfl (by decide) rfl (Nat.le_of_ble_eq_true rfl) ?_
  refine hm _ (fun g2 I2 => ?_)
  refine go_icmp_eq (pc' := 656) (tgt := 1702) dL_law_653 rfl (by decide) (fun h_653 => ?_) (fun h_653 => absurd (rfl) h_653)
  exact k g2 I2
set_option maxHeartbeats 4000000 in
set_option maxRecDepth 20000 in
theorem law_weigh {sc : pg_Sc} {Q : pg_Q} {i : Nat} {g : pg_S} (hB : sc.1 < 2 ^ 31) (hi : i + 5 ≤ sc.1) (I : INV g) (k : ∀ g', INV g' → pg_Go sc 40 mL_law 1702 [(0, .ref 906), (1, .ref 0), (2, .ref 59), (3, .int (nI i))] [] g' Q) : pg_Go sc 40 mL_law 658 [(0, .ref 906), (1, .ref 0), (2, .ref 59), (3, .int (nI i))] [] g Q := by
  refine go_aload_n (pc' := 659) dL_law_658 rfl rfl ?_
  refine go_aload_n (pc' := 660) dL_law_659 rfl rfl ?_
  refine go_iload_n (pc' := 661) dL_law_660 rfl rfl ?_
  refine go_iconst (pc' := 662) 1 dL_law_661 rfl (by decide) ?_
  refine go_iadd (pc' := 663) dL_law_662 rfl ?_
  refine go_scr (pc' := 664) (i + 1) dL_law_663 rfl (by rw [show (1 : Int32) = nI 1 from rfl, nI_add]) (by omega) hB ?_
  refine go_aload_n (pc' := 665) dL_law_664 rfl rfl ?_
  refine go_iload_n (pc' := 666) dL_law_665 rfl rfl ?_
  refine go_iconst (pc' := 667) 2 dL_law_666 rfl (by decide) ?_
  refine go_iadd (pc' := 668) dL_law_667 rfl ?_
  refine go_scr (pc' := 669) (i + 2) dL_law_668 rfl (by rw [show (2 : Int32) = nI 2 from rfl, nI_add]) (by omega) hB ?_
  refine go_cVi2 (pc' := 672) (M' := mX6_weigh) (d' := 2) dL_law_669 rfl cvRL_69 rfl rfl (by decide) rfl (Nat.le_of_ble_eq_true rfl) ?_
  refine sy_weigh I (fun r g1 hm => ?_)
  refine go_aload_n (pc' := 673) dL_law_672 rfl rfl ?_
  refine go_aload_n (pc' := 674) dL_law_673 rfl rfl ?_
  refine go_iload_n (pc' := 675) dL_law_674 rfl rfl ?_
  refine go_iconst (pc' := 676) 1 dL_law_675 rfl (by decide) ?_
  refine go_iadd (pc' := 677) dL_law_676 rfl ?_
  refine go_scr (pc' := 678) (i + 1) dL_law_677 rfl (by rw [show (1 : Int32) = nI 1 from rfl, nI_add]) (by omega) hB ?_
  refine go_aload_n (pc' := 679) dL_law_678 rfl rfl ?_
  refine go_iload_n (pc' := 680) dL_law_679 rfl rfl ?_
  refine go_iconst (pc' := 681) 2 dL_law_680 rfl (by decide) ?_
  refine go_iadd (pc' := 682) dL_law_681 rfl ?_
  refine go_scr (pc' := 683) (i + 2) dL_law_682 rfl (by rw [show (2 : Int32) = nI 2 from rfl, nI_add]) (by omega) hB ?_
  refine go_cVi2 (pc' := 686) (M' := mX7_weigh) (d' := 3) dL_law_683 rfl cvRL_72 rfl rfl (by decide) rfl (Nat.le_of_ble_eq_true rfl) ?_
  refine hm _ (fun g2 I2 => ?_)
  refine go_icmp_eq (pc' := 689) (tgt := 1702) dL_law_686 rfl (by decide) (fun h_686 => ?_) (fun h_686 => absurd (rfl) h_686)
  exact k g2 I2
set_option maxHeartbeats 4000000 in
set_option maxRecDepth 20000 in
theorem law_peg {sc : pg_Sc} {Q : pg_Q} {i : Nat} {g : pg_S} (hB : sc.1 < 2 ^ 31) (hi : i + 5 ≤ sc.1) (I : INV g) (k : ∀ g', INV g' → pg_Go sc 40 mL_law 1702 [(0, .ref 906), (1, .ref 0), (2, .ref 59), (3, .int (nI i))] [] g' Q) : pg_Go sc 40 mL_law 691 [(0, .ref 906), (1, .ref 0), (2, .ref 59), (3, .int (nI i))] [] g Q := by
  refine go_aload_n (pc' := 692) dL_law_691 rfl rfl ?_
  refine go_aload_n (pc' := 693) dL_law_692 rfl rfl ?_
  refine go_iload_n (pc' := 694) dL_law_693 rfl rfl ?_
  refine go_iconst (pc' := 695) 1 dL_law_694 rfl (by decide) ?_
  refine go_iadd (pc' := 696) dL_law_695 rfl ?_
  refine go_scr (pc' := 697) (i + 1) dL_law_696 rfl (by rw [show (1 : Int32) = nI 1 from rfl, nI_add]) (by omega) hB ?_
  refine go_aload_n (pc' := 698) dL_law_697 rfl rfl ?_
  refine go_iload_n (pc' := 699) dL_law_698 rfl rfl ?_
  refine go_iconst (pc' := 700) 2 dL_law_699 rfl (by decide) ?_
  refine go_iadd (pc' := 701) dL_law_700 rfl ?_
  refine go_scr (pc' := 702) (i + 2) dL_law_701 rfl (by rw [show (2 : Int32) = nI 2 from rfl, nI_add]) (by omega) hB ?_
  refine go_cVi2 (pc' := 705) (M' := mX6_peg) (d' := 2) dL_law_702 rfl cvRL_73 rfl rfl (by decide) rfl (Nat.le_of_ble_eq_true rfl) ?_
  refine sy_peg I (fun r g1 hm => ?_)
  refine go_aload_n (pc' := 706) dL_law_705 rfl rfl ?_
  refine go_aload_n (pc' := 707) dL_law_706 rfl rfl ?_
  refine go_iload_n (pc' := 708) dL_law_707 rfl rfl ?_
  refine go_iconst (pc' := 709) 1 dL_law_708 rfl (by decide) ?_
  refine go_iadd (pc' := 710) dL_law_709 rfl ?_
  refine go_scr (pc' := 711) (i + 1) dL_law_710 rfl (by rw [show (1 : Int32) = nI 1 from rfl, nI_add]) (by omega) hB ?_
  refine go_aload_n (pc' := 712) dL_law_711 rfl rfl ?_
  refine go_iload_n (pc' := 713) dL_law_712 rfl rfl ?_
  refine go_iconst (pc' := 714) 2 dL_law_713 rfl (by decide) ?_
  refine go_iadd (pc' := 715) dL_law_714 rfl ?_
  refine go_scr (pc' := 716) (i + 2) dL_law_715 rfl (by rw [show (2 : Int32) = nI 2 from rfl, nI_add]) (by omega) hB ?_
  refine go_cVi2 (pc' := 719) (M' := mX7_peg) (d' := 3) dL_law_716 rfl cvRL_76 rfl rfl (by decide) rfl (Nat.le_of_ble_eq_true rfl) ?_
  refine hm _ (fun g2 I2 => ?_)
  refine go_icmp_eq (pc' := 722) (tgt := 1702) dL_law_719 rfl (by decide) (fun h_719 => ?_) (fun h_719 => absurd (rfl) h_719)
  exact k g2 I2
set_option maxHeartbeats 4000000 in
set_option maxRecDepth 20000 in
theorem law_hours {sc : pg_Sc} {Q : pg_Q} {i : Nat} {g : pg_S} (hB : sc.1 < 2 ^ 31) (hi : i + 5 ≤ sc.1) (I : INV g) (k : ∀ g', INV g' → pg_Go sc 40 mL_law 1702 [(0, .ref 906), (1, .ref 0), (2, .ref 59), (3, .int (nI i))] [] g' Q) : pg_Go sc 40 mL_law 724 [(0, .ref 906), (1, .ref 0), (2, .ref 59), (3, .int (nI i))] [] g Q := by
  refine go_aload_n (pc' := 725) dL_law_724 rfl rfl ?_
  refine go_aload_n (pc' := 726) dL_law_725 rfl rfl ?_
  refine go_iload_n (pc' := 727) dL_law_726 rfl rfl ?_
  refine go_iconst (pc' := 728) 1 dL_law_727 rfl (by decide) ?_
  refine go_iadd (pc' := 729) dL_law_728 rfl ?_
  refine go_scr (pc' := 730) (i + 1) dL_law_729 rfl (by rw [show (1 : Int32) = nI 1 from rfl, nI_add]) (by omega) hB ?_
  refine go_cVi1 (pc' := 733) (M' := mX6_hours) (d' := 5) dL_law_730 rfl cvRL_77 rfl rfl (by decide) rfl (Nat.le_of_ble_eq_true rfl) ?_
  refine sy_hours I (fun r g1 hm => ?_)
  refine go_aload_n (pc' := 734) dL_law_733 rfl rfl ?_
  refine go_aload_n (pc' := 735) dL_law_734 rfl rfl ?_
  refine go_iload_n (pc' := 736) dL_law_735 rfl rfl ?_
  refine go_iconst (pc' := 737) 1 dL_law_736 rfl (by decide) ?_
  refine go_iadd (pc' := 738) dL_law_737 rfl ?_
  refine go_scr (pc' := 739) (i + 1) dL_law_738 rfl (by rw [show (1 : Int32) = nI 1 from rfl, nI_add]) (by omega) hB ?_
  refine go_cVi1 (pc' := 742) (M' := mX7_hours) (d' := 5) dL_law_739 rfl cvRL_80 rfl rfl (by decide) rfl (Nat.le_of_ble_eq_true rfl) ?_
  refine hm _ (fun g2 I2 => ?_)
  refine go_icmp_eq (pc' := 745) (tgt := 1702) dL_law_742 rfl (by decide) (fun h_742 => ?_) (fun h_742 => absurd (rfl) h_742)
  exact k g2 I2
set_option maxHeartbeats 4000000 in
set_option maxRecDepth 20000 in
theorem law_seed {sc : pg_Sc} {Q : pg_Q} {i : Nat} {g : pg_S} (hB : sc.1 < 2 ^ 31) (hi : i + 5 ≤ sc.1) (I : INV g) (k : ∀ g', INV g' → pg_Go sc 40 mL_law 1702 [(0, .ref 906), (1, .ref 0), (2, .ref 59), (3, .int (nI i))] [] g' Q) : pg_Go sc 40 mL_law 747 [(0, .ref 906), (1, .ref 0), (2, .ref 59), (3, .int (nI i))] [] g Q := by
  refine go_aload_n (pc' := 748) dL_law_747 rfl rfl ?_
  refine go_aload_n (pc' := 749) dL_law_748 rfl rfl ?_
  refine go_iload_n (pc' := 750) dL_law_749 rfl rfl ?_
  refine go_iconst (pc' := 751) 1 dL_law_750 rfl (by decide) ?_
  refine go_iadd (pc' := 752) dL_law_751 rfl ?_
  refine go_scr (pc' := 753) (i + 1) dL_law_752 rfl (by rw [show (1 : Int32) = nI 1 from rfl, nI_add]) (by omega) hB ?_
  refine go_cVi1 (pc' := 756) (M' := mX6_seed) (d' := 1) dL_law_753 rfl cvRL_81 rfl rfl (by decide) rfl (Nat.le_of_ble_eq_true rfl) ?_
  refine sy_seed I (fun r g1 hm => ?_)
  refine go_aload_n (pc' := 757) dL_law_756 rfl rfl ?_
  refine go_aload_n (pc' := 758) dL_law_757 rfl rfl ?_
  refine go_iload_n (pc' := 759) dL_law_758 rfl rfl ?_
  refine go_iconst (pc' := 760) 1 dL_law_759 rfl (by decide) ?_
  refine go_iadd (pc' := 761) dL_law_760 rfl ?_
  refine go_scr (pc' := 762) (i + 1) dL_law_761 rfl (by rw [show (1 : Int32) = nI 1 from rfl, nI_add]) (by omega) hB ?_
  refine go_cVi1 (pc' := 765) (M' := mX7_seed) (d' := 2) dL_law_762 rfl cvRL_84 rfl rfl (by decide) rfl (Nat.le_of_ble_eq_true rfl) ?_
  refine hm _ (fun g2 I2 => ?_)
  refine go_icmp_eq (pc' := 768) (tgt := 1702) dL_law_765 rfl (by decide) (fun h_765 => ?_) (fun h_765 => absurd (rfl) h_765)
  exact k g2 I2
set_option maxHeartbeats 4000000 in
set_option maxRecDepth 20000 in
theorem law_hour {sc : pg_Sc} {Q : pg_Q} {i : Nat} {g : pg_S} (hB : sc.1 < 2 ^ 31) (hi : i + 5 ≤ sc.1) (I : INV g) (k : ∀ g', INV g' → pg_Go sc 40 mL_law 1702 [(0, .ref 906), (1, .ref 0), (2, .ref 59), (3, .int (nI i))] [] g' Q) : pg_Go sc 40 mL_law 770 [(0, .ref 906), (1, .ref 0), (2, .ref 59), (3, .int (nI i))] [] g Q := by
  refine go_aload_n (pc' := 771) dL_law_770 rfl rfl ?_
  refine go_cVi0 (pc' := 774) (M' := mX6_hour) (d' := 5) dL_law_771 rfl cvRL_85 rfl rfl (by decide) rfl (Nat.le_of_ble_eq_true rfl) ?_
  refine sy_hour I (fun r g1 hm => ?_)
  refine go_aload_n (pc' := 775) dL_law_774 rfl rfl ?_
  refine go_cVi0 (pc' := 778) (M' := mX7_hour) (d' := 6) dL_law_775 rfl cvRL_88 rfl rfl (by decide) rfl (Nat.le_of_ble_eq_true rfl) ?_
  refine hm _ (fun g2 I2 => ?_)
  refine go_icmp_eq (pc' := 781) (tgt := 1702) dL_law_778 rfl (by decide) (fun h_778 => ?_) (fun h_778 => absurd (rfl) h_778)
  exact k g2 I2
set_option maxHeartbeats 4000000 in
set_option maxRecDepth 20000 in
theorem law_found {sc : pg_Sc} {Q : pg_Q} {i : Nat} {g : pg_S} (hB : sc.1 < 2 ^ 31) (hi : i + 5 ≤ sc.1) (I : INV g) (k : ∀ g', INV g' → pg_Go sc 40 mL_law 1702 [(0, .ref 906), (1, .ref 0), (2, .ref 59), (3, .int (nI i))] [] g' Q) : pg_Go sc 40 mL_law 783 [(0, .ref 906), (1, .ref 0), (2, .ref 59), (3, .int (nI i))] [] g Q := by
  refine go_aload_n (pc' := 784) dL_law_783 rfl rfl ?_
  refine go_aload_n (pc' := 785) dL_law_784 rfl rfl ?_
  refine go_iload_n (pc' := 786) dL_law_785 rfl rfl ?_
  refine go_iconst (pc' := 787) 1 dL_law_786 rfl (by decide) ?_
  refine go_iadd (pc' := 788) dL_law_787 rfl ?_
  refine go_scr (pc' := 789) (i + 1) dL_law_788 rfl (by rw [show (1 : Int32) = nI 1 from rfl, nI_add]) (by omega) hB ?_
  refine go_cVi1 (pc' := 792) (M' := mX6_found) (d' := 5) dL_law_789 rfl cvRL_89 rfl rfl (by decide) rfl (Nat.le_of_ble_eq_true rfl) ?_
  refine sy_found I (fun r g1 hm => ?_)
  refine go_aload_n (pc' := 793) dL_law_792 rfl rfl ?_
  refine go_aload_n (pc' := 794) dL_law_793 rfl rfl ?_
  refine go_iload_n (pc' := 795) dL_law_794 rfl rfl ?_
  refine go_iconst (pc' := 796) 1 dL_law_795 rfl (by decide) ?_
  refine go_iadd (pc' := 797) dL_law_796 rfl ?_
  refine go_scr (pc' := 798) (i + 1) dL_law_797 rfl (by rw [show (1 : Int32) = nI 1 from rfl, nI_add]) (by omega) hB ?_
  refine go_cVi1 (pc' := 801) (M' := mX7_found) (d' := 6) dL_law_798 rfl cvRL_92 rfl rfl (by decide) rfl (Nat.le_of_ble_eq_true rfl) ?_
  refine hm _ (fun g2 I2 => ?_)
  refine go_icmp_eq (pc' := 804) (tgt := 1702) dL_law_801 rfl (by decide) (fun h_801 => ?_) (fun h_801 => absurd (rfl) h_801)
  exact k g2 I2
set_option maxHeartbeats 4000000 in
set_option maxRecDepth 20000 in
theorem law_state {sc : pg_Sc} {Q : pg_Q} {i : Nat} {g : pg_S} (hB : sc.1 < 2 ^ 31) (hi : i + 5 ≤ sc.1) (I : INV g) (k : ∀ g', INV g' → pg_Go sc 40 mL_law 1702 [(0, .ref 906), (1, .ref 0), (2, .ref 59), (3, .int (nI i))] [] g' Q) : pg_Go sc 40 mL_law 806 [(0, .ref 906), (1, .ref 0), (2, .ref 59), (3, .int (nI i))] [] g Q := by
  refine go_aload_n (pc' := 807) dL_law_806 rfl rfl ?_
  refine go_aload_n (pc' := 808) dL_law_807 rfl rfl ?_
  refine go_iload_n (pc' := 809) dL_law_808 rfl rfl ?_
  refine go_iconst (pc' := 810) 1 dL_law_809 rfl (by decide) ?_
  refine go_iadd (pc' := 811) dL_law_810 rfl ?_
  refine go_scr (pc' := 812) (i + 1) dL_law_811 rfl (by rw [show (1 : Int32) = nI 1 from rfl, nI_add]) (by omega) hB ?_
  refine go_cVi1 (pc' := 815) (M' := mX6_state) (d' := 4) dL_law_812 rfl cvRL_93 rfl rfl (by decide) rfl (Nat.le_of_ble_eq_true rfl) ?_
  refine sy_state I (fun r g1 hm => ?_)
  refine go_aload_n (pc' := 816) dL_law_815 rfl rfl ?_
  refine go_aload_n (pc' := 817) dL_law_816 rfl rfl ?_
  refine go_iload_n (pc' := 818) dL_law_817 rfl rfl ?_
  refine go_iconst (pc' := 819) 1 dL_law_818 rfl (by decide) ?_
  refine go_iadd (pc' := 820) dL_law_819 rfl ?_
  refine go_scr (pc' := 821) (i + 1) dL_law_820 rfl (by rw [show (1 : Int32) = nI 1 from rfl, nI_add]) (by omega) hB ?_
  refine go_cVi1 (pc' := 824) (M' := mX7_state) (d' := 4) dL_law_821 rfl cvRL_96 rfl rfl (by decide) rfl (Nat.le_of_ble_eq_true rfl) ?_
  refine hm _ (fun g2 I2 => ?_)
  refine go_icmp_eq (pc' := 827) (tgt := 1702) dL_law_824 rfl (by decide) (fun h_824 => ?_) (fun h_824 => absurd (rfl) h_824)
  exact k g2 I2
set_option maxHeartbeats 4000000 in
set_option maxRecDepth 20000 in
theorem law_ahead {sc : pg_Sc} {Q : pg_Q} {i : Nat} {g : pg_S} (hB : sc.1 < 2 ^ 31) (hi : i + 5 ≤ sc.1) (I : INV g) (k : ∀ g', INV g' → pg_Go sc 40 mL_law 1702 [(0, .ref 906), (1, .ref 0), (2, .ref 59), (3, .int (nI i))] [] g' Q) : pg_Go sc 40 mL_law 829 [(0, .ref 906), (1, .ref 0), (2, .ref 59), (3, .int (nI i))] [] g Q := by
  refine go_aload_n (pc' := 830) dL_law_829 rfl rfl ?_
  refine go_aload_n (pc' := 831) dL_law_830 rfl rfl ?_
  refine go_iload_n (pc' := 832) dL_law_831 rfl rfl ?_
  refine go_iconst (pc' := 833) 1 dL_law_832 rfl (by decide) ?_
  refine go_iadd (pc' := 834) dL_law_833 rfl ?_
  refine go_scr (pc' := 835) (i + 1) dL_law_834 rfl (by rw [show (1 : Int32) = nI 1 from rfl, nI_add]) (by omega) hB ?_
  refine go_aload_n (pc' := 836) dL_law_835 rfl rfl ?_
  refine go_iload_n (pc' := 837) dL_law_836 rfl rfl ?_
  refine go_iconst (pc' := 838) 2 dL_law_837 rfl (by decide) ?_
  refine go_iadd (pc' := 839) dL_law_838 rfl ?_
  refine go_scr (pc' := 840) (i + 2) dL_law_839 rfl (by rw [show (2 : Int32) = nI 2 from rfl, nI_add]) (by omega) hB ?_
  refine go_aload_n (pc' := 841) dL_law_840 rfl rfl ?_
  refine go_iload_n (pc' := 842) dL_law_841 rfl rfl ?_
  refine go_iconst (pc' := 843) 3 dL_law_842 rfl (by decide) ?_
  refine go_iadd (pc' := 844) dL_law_843 rfl ?_
  refine go_scr (pc' := 845) (i + 3) dL_law_844 rfl (by rw [show (3 : Int32) = nI 3 from rfl, nI_add]) (by omega) hB ?_
  refine go_cVi3 (pc' := 848) (M' := mX6_ahead) (d' := 5) dL_law_845 rfl cvRL_97 rfl rfl (by decide) rfl (Nat.le_of_ble_eq_true rfl) ?_
  refine sy_ahead I (fun r g1 hm => ?_)
  refine go_aload_n (pc' := 849) dL_law_848 rfl rfl ?_
  refine go_aload_n (pc' := 850) dL_law_849 rfl rfl ?_
  refine go_iload_n (pc' := 851) dL_law_850 rfl rfl ?_
  refine go_iconst (pc' := 852) 1 dL_law_851 rfl (by decide) ?_
  refine go_iadd (pc' := 853) dL_law_852 rfl ?_
  refine go_scr (pc' := 854) (i + 1) dL_law_853 rfl (by rw [show (1 : Int32) = nI 1 from rfl, nI_add]) (by omega) hB ?_
  refine go_aload_n (pc' := 855) dL_law_854 rfl rfl ?_
  refine go_iload_n (pc' := 856) dL_law_855 rfl rfl ?_
  refine go_iconst (pc' := 857) 2 dL_law_856 rfl (by decide) ?_
  refine go_iadd (pc' := 858) dL_law_857 rfl ?_
  refine go_scr (pc' := 859) (i + 2) dL_law_858 rfl (by rw [show (2 : Int32) = nI 2 from rfl, nI_add]) (by omega) hB ?_
  refine go_aload_n (pc' := 860) dL_law_859 rfl rfl ?_
  refine go_iload_n (pc' := 861) dL_law_860 rfl rfl ?_
  refine go_iconst (pc' := 862) 3 dL_law_861 rfl (by decide) ?_
  refine go_iadd (pc' := 863) dL_law_862 rfl ?_
  refine go_scr (pc' := 864) (i + 3) dL_law_863 rfl (by rw [show (3 : Int32) = nI 3 from rfl, nI_add]) (by omega) hB ?_
  refine go_cVi3 (pc' := 867) (M' := mX7_ahead) (d' := 6) dL_law_864 rfl cvRL_100 rfl rfl (by decide) rfl (Nat.le_of_ble_eq_true rfl) ?_
  refine hm _ (fun g2 I2 => ?_)
  refine go_icmp_eq (pc' := 870) (tgt := 1702) dL_law_867 rfl (by decide) (fun h_867 => ?_) (fun h_867 => absurd (rfl) h_867)
  exact k g2 I2
set_option maxHeartbeats 4000000 in
set_option maxRecDepth 20000 in
theorem law_meet {sc : pg_Sc} {Q : pg_Q} {i : Nat} {g : pg_S} (hB : sc.1 < 2 ^ 31) (hi : i + 5 ≤ sc.1) (I : INV g) (k : ∀ g', INV g' → pg_Go sc 40 mL_law 1702 [(0, .ref 906), (1, .ref 0), (2, .ref 59), (3, .int (nI i))] [] g' Q) : pg_Go sc 40 mL_law 872 [(0, .ref 906), (1, .ref 0), (2, .ref 59), (3, .int (nI i))] [] g Q := by
  refine go_aload_n (pc' := 873) dL_law_872 rfl rfl ?_
  refine go_aload_n (pc' := 874) dL_law_873 rfl rfl ?_
  refine go_iload_n (pc' := 875) dL_law_874 rfl rfl ?_
  refine go_iconst (pc' := 876) 1 dL_law_875 rfl (by decide) ?_
  refine go_iadd (pc' := 877) dL_law_876 rfl ?_
  refine go_scr (pc' := 878) (i + 1) dL_law_877 rfl (by rw [show (1 : Int32) = nI 1 from rfl, nI_add]) (by omega) hB ?_
  refine go_aload_n (pc' := 879) dL_law_878 rfl rfl ?_
  refine go_iload_n (pc' := 880) dL_law_879 rfl rfl ?_
  refine go_iconst (pc' := 881) 2 dL_law_880 rfl (by decide) ?_
  refine go_iadd (pc' := 882) dL_law_881 rfl ?_
  refine go_scr (pc' := 883) (i + 2) dL_law_882 rfl (by rw [show (2 : Int32) = nI 2 from rfl, nI_add]) (by omega) hB ?_
  refine go_cVi2 (pc' := 886) (M' := mX6_meet) (d' := 4) dL_law_883 rfl cvRL_101 rfl rfl (by decide) rfl (Nat.le_of_ble_eq_true rfl) ?_
  refine sy_meet I (fun r g1 hm => ?_)
  refine go_aload_n (pc' := 887) dL_law_886 rfl rfl ?_
  refine go_aload_n (pc' := 888) dL_law_887 rfl rfl ?_
  refine go_iload_n (pc' := 889) dL_law_888 rfl rfl ?_
  refine go_iconst (pc' := 890) 1 dL_law_889 rfl (by decide) ?_
  refine go_iadd (pc' := 891) dL_law_890 rfl ?_
  refine go_scr (pc' := 892) (i + 1) dL_law_891 rfl (by rw [show (1 : Int32) = nI 1 from rfl, nI_add]) (by omega) hB ?_
  refine go_aload_n (pc' := 893) dL_law_892 rfl rfl ?_
  refine go_iload_n (pc' := 894) dL_law_893 rfl rfl ?_
  refine go_iconst (pc' := 895) 2 dL_law_894 rfl (by decide) ?_
  refine go_iadd (pc' := 896) dL_law_895 rfl ?_
  refine go_scr (pc' := 897) (i + 2) dL_law_896 rfl (by rw [show (2 : Int32) = nI 2 from rfl, nI_add]) (by omega) hB ?_
  refine go_cVi2 (pc' := 900) (M' := mX7_meet) (d' := 5) dL_law_897 rfl cvRL_104 rfl rfl (by decide) rfl (Nat.le_of_ble_eq_true rfl) ?_
  refine hm _ (fun g2 I2 => ?_)
  refine go_icmp_eq (pc' := 903) (tgt := 1702) dL_law_900 rfl (by decide) (fun h_900 => ?_) (fun h_900 => absurd (rfl) h_900)
  exact k g2 I2
set_option maxHeartbeats 4000000 in
set_option maxRecDepth 20000 in
theorem law_gather {sc : pg_Sc} {Q : pg_Q} {i : Nat} {g : pg_S} (hB : sc.1 < 2 ^ 31) (hi : i + 5 ≤ sc.1) (I : INV g) (k : ∀ g', INV g' → pg_Go sc 40 mL_law 1702 [(0, .ref 906), (1, .ref 0), (2, .ref 59), (3, .int (nI i))] [] g' Q) : pg_Go sc 40 mL_law 905 [(0, .ref 906), (1, .ref 0), (2, .ref 59), (3, .int (nI i))] [] g Q := by
  refine go_aload_n (pc' := 906) dL_law_905 rfl rfl ?_
  refine go_cVi0 (pc' := 909) (M' := mX6_gather) (d' := 4) dL_law_906 rfl cvRL_105 rfl rfl (by decide) rfl (Nat.le_of_ble_eq_true rfl) ?_
  refine sy_gather I (fun r g1 hm => ?_)
  refine go_aload_n (pc' := 910) dL_law_909 rfl rfl ?_
  refine go_cVi0 (pc' := 913) (M' := mX7_gather) (d' := 5) dL_law_910 rfl cvRL_108 rfl rfl (by decide) rfl (Nat.le_of_ble_eq_true rfl) ?_
  refine hm _ (fun g2 I2 => ?_)
  refine go_icmp_eq (pc' := 916) (tgt := 1702) dL_law_913 rfl (by decide) (fun h_913 => ?_) (fun h_913 => absurd (rfl) h_913)
  exact k g2 I2
set_option maxHeartbeats 4000000 in
set_option maxRecDepth 20000 in
theorem law_alone {sc : pg_Sc} {Q : pg_Q} {i : Nat} {g : pg_S} (hB : sc.1 < 2 ^ 31) (hi : i + 5 ≤ sc.1) (I : INV g) (k : ∀ g', INV g' → pg_Go sc 40 mL_law 1702 [(0, .ref 906), (1, .ref 0), (2, .ref 59), (3, .int (nI i))] [] g' Q) : pg_Go sc 40 mL_law 918 [(0, .ref 906), (1, .ref 0), (2, .ref 59), (3, .int (nI i))] [] g Q := by
  refine go_aload_n (pc' := 919) dL_law_918 rfl rfl ?_
  refine go_aload_n (pc' := 920) dL_law_919 rfl rfl ?_
  refine go_iload_n (pc' := 921) dL_law_920 rfl rfl ?_
  refine go_iconst (pc' := 922) 1 dL_law_921 rfl (by decide) ?_
  refine go_iadd (pc' := 923) dL_law_922 rfl ?_
  refine go_scr (pc' := 924) (i + 1) dL_law_923 rfl (by rw [show (1 : Int32) = nI 1 from rfl, nI_add]) (by omega) hB ?_
  refine go_cVi1 (pc' := 927) (M' := mX6_alone) (d' := 4) dL_law_924 rfl cvRL_109 rfl rfl (by decide) rfl (Nat.le_of_ble_eq_true rfl) ?_
  refine sy_alone I (fun r g1 hm => ?_)
  refine go_aload_n (pc' := 928) dL_law_927 rfl rfl ?_
  refine go_aload_n (pc' := 929) dL_law_928 rfl rfl ?_
  refine go_iload_n (pc' := 930) dL_law_929 rfl rfl ?_
  refine go_iconst (pc' := 931) 1 dL_law_930 rfl (by decide) ?_
  refine go_iadd (pc' := 932) dL_law_931 rfl ?_
  refine go_scr (pc' := 933) (i + 1) dL_law_932 rfl (by rw [show (1 : Int32) = nI 1 from rfl, nI_add]) (by omega) hB ?_
  refine go_cVi1 (pc' := 936) (M' := mX7_alone) (d' := 5) dL_law_933 rfl cvRL_112 rfl rfl (by decide) rfl (Nat.le_of_ble_eq_true rfl) ?_
  refine hm _ (fun g2 I2 => ?_)
  refine go_icmp_eq (pc' := 939) (tgt := 1702) dL_law_936 rfl (by decide) (fun h_936 => ?_) (fun h_936 => absurd (rfl) h_936)
  exact k g2 I2
set_option maxHeartbeats 4000000 in
set_option maxRecDepth 20000 in
theorem law_pegFor {sc : pg_Sc} {Q : pg_Q} {i : Nat} {g : pg_S} (hB : sc.1 < 2 ^ 31) (hi : i + 5 ≤ sc.1) (I : INV g) (k : ∀ g', INV g' → pg_Go sc 40 mL_law 1702 [(0, .ref 906), (1, .ref 0), (2, .ref 59), (3, .int (nI i))] [] g' Q) : pg_Go sc 40 mL_law 941 [(0, .ref 906), (1, .ref 0), (2, .ref 59), (3, .int (nI i))] [] g Q := by
  refine go_aload_n (pc' := 942) dL_law_941 rfl rfl ?_
  refine go_aload_n (pc' := 943) dL_law_942 rfl rfl ?_
  refine go_iload_n (pc' := 944) dL_law_943 rfl rfl ?_
  refine go_iconst (pc' := 945) 1 dL_law_944 rfl (by decide) ?_
  refine go_iadd (pc' := 946) dL_law_945 rfl ?_
  refine go_scr (pc' := 947) (i + 1) dL_law_946 rfl (by rw [show (1 : Int32) = nI 1 from rfl, nI_add]) (by omega) hB ?_
  refine go_aload_n (pc' := 948) dL_law_947 rfl rfl ?_
  refine go_iload_n (pc' := 949) dL_law_948 rfl rfl ?_
  refine go_iconst (pc' := 950) 2 dL_law_949 rfl (by decide) ?_
  refine go_iadd (pc' := 951) dL_law_950 rfl ?_
  refine go_scr (pc' := 952) (i + 2) dL_law_951 rfl (by rw [show (2 : Int32) = nI 2 from rfl, nI_add]) (by omega) hB ?_
  refine go_cVi2 (pc' := 955) (M' := mX6_pegFor) (d' := 6) dL_law_952 rfl cvRL_113 rfl rfl (by decide) rfl (Nat.le_of_ble_eq_true rfl) ?_
  refine sy_pegFor I (fun r g1 hm => ?_)
  refine go_aload_n (pc' := 956) dL_law_955 rfl rfl ?_
  refine go_aload_n (pc' := 957) dL_law_956 rfl rfl ?_
  refine go_iload_n (pc' := 958) dL_law_957 rfl rfl ?_
  refine go_iconst (pc' := 959) 1 dL_law_958 rfl (by decide) ?_
  refine go_iadd (pc' := 960) dL_law_959 rfl ?_
  refine go_scr (pc' := 961) (i + 1) dL_law_960 rfl (by rw [show (1 : Int32) = nI 1 from rfl, nI_add]) (by omega) hB ?_
  refine go_aload_n (pc' := 962) dL_law_961 rfl rfl ?_
  refine go_iload_n (pc' := 963) dL_law_962 rfl rfl ?_
  refine go_iconst (pc' := 964) 2 dL_law_963 rfl (by decide) ?_
  refine go_iadd (pc' := 965) dL_law_964 rfl ?_
  refine go_scr (pc' := 966) (i + 2) dL_law_965 rfl (by rw [show (2 : Int32) = nI 2 from rfl, nI_add]) (by omega) hB ?_
  refine go_cVi2 (pc' := 969) (M' := mX7_pegFor) (d' := 7) dL_law_966 rfl cvRL_116 rfl rfl (by decide) rfl (Nat.le_of_ble_eq_true rfl) ?_
  refine hm _ (fun g2 I2 => ?_)
  refine go_icmp_eq (pc' := 972) (tgt := 1702) dL_law_969 rfl (by decide) (fun h_969 => ?_) (fun h_969 => absurd (rfl) h_969)
  exact k g2 I2
set_option maxHeartbeats 4000000 in
set_option maxRecDepth 20000 in
theorem law_kindFor {sc : pg_Sc} {Q : pg_Q} {i : Nat} {g : pg_S} (hB : sc.1 < 2 ^ 31) (hi : i + 5 ≤ sc.1) (I : INV g) (k : ∀ g', INV g' → pg_Go sc 40 mL_law 1702 [(0, .ref 906), (1, .ref 0), (2, .ref 59), (3, .int (nI i))] [] g' Q) : pg_Go sc 40 mL_law 974 [(0, .ref 906), (1, .ref 0), (2, .ref 59), (3, .int (nI i))] [] g Q := by
  refine go_aload_n (pc' := 975) dL_law_974 rfl rfl ?_
  refine go_aload_n (pc' := 976) dL_law_975 rfl rfl ?_
  refine go_iload_n (pc' := 977) dL_law_976 rfl rfl ?_
  refine go_iconst (pc' := 978) 1 dL_law_977 rfl (by decide) ?_
  refine go_iadd (pc' := 979) dL_law_978 rfl ?_
  refine go_scr (pc' := 980) (i + 1) dL_law_979 rfl (by rw [show (1 : Int32) = nI 1 from rfl, nI_add]) (by omega) hB ?_
  refine go_aload_n (pc' := 981) dL_law_980 rfl rfl ?_
  refine go_iload_n (pc' := 982) dL_law_981 rfl rfl ?_
  refine go_iconst (pc' := 983) 2 dL_law_982 rfl (by decide) ?_
  refine go_iadd (pc' := 984) dL_law_983 rfl ?_
  refine go_scr (pc' := 985) (i + 2) dL_law_984 rfl (by rw [show (2 : Int32) = nI 2 from rfl, nI_add]) (by omega) hB ?_
  refine go_cVi2 (pc' := 988) (M' := mX6_kindFor) (d' := 6) dL_law_985 rfl cvRL_117 rfl rfl (by decide) rfl (Nat.le_of_ble_eq_true rfl) ?_
  refine sy_kindFor I (fun r g1 hm => ?_)
  refine go_aload_n (pc' := 989) dL_law_988 rfl rfl ?_
  refine go_aload_n (pc' := 990) dL_law_989 rfl rfl ?_
  refine go_iload_n (pc' := 991) dL_law_990 rfl rfl ?_
  refine go_iconst (pc' := 992) 1 dL_law_991 rfl (by decide) ?_
  refine go_iadd (pc' := 993) dL_law_992 rfl ?_
  refine go_scr (pc' := 994) (i + 1) dL_law_993 rfl (by rw [show (1 : Int32) = nI 1 from rfl, nI_add]) (by omega) hB ?_
  refine go_aload_n (pc' := 995) dL_law_994 rfl rfl ?_
  refine go_iload_n (pc' := 996) dL_law_995 rfl rfl ?_
  refine go_iconst (pc' := 997) 2 dL_law_996 rfl (by decide) ?_
  refine go_iadd (pc' := 998) dL_law_997 rfl ?_
  refine go_scr (pc' := 999) (i + 2) dL_law_998 rfl (by rw [show (2 : Int32) = nI 2 from rfl, nI_add]) (by omega) hB ?_
  refine go_cVi2 (pc' := 1002) (M' := mX7_kindFor) (d' := 7) dL_law_999 rfl cvRL_120 rfl rfl (by decide) rfl (Nat.le_of_ble_eq_true rfl) ?_
  refine hm _ (fun g2 I2 => ?_)
  refine go_icmp_eq (pc' := 1005) (tgt := 1702) dL_law_1002 rfl (by decide) (fun h_1002 => ?_) (fun h_1002 => absurd (rfl) h_1002)
  exact k g2 I2
set_option maxHeartbeats 4000000 in
set_option maxRecDepth 20000 in
theorem law_placeFor {sc : pg_Sc} {Q : pg_Q} {i : Nat} {g : pg_S} (hB : sc.1 < 2 ^ 31) (hi : i + 5 ≤ sc.1) (I : INV g) (k : ∀ g', INV g' → pg_Go sc 40 mL_law 1702 [(0, .ref 906), (1, .ref 0), (2, .ref 59), (3, .int (nI i))] [] g' Q) : pg_Go sc 40 mL_law 1007 [(0, .ref 906), (1, .ref 0), (2, .ref 59), (3, .int (nI i))] [] g Q := by
  refine go_aload_n (pc' := 1008) dL_law_1007 rfl rfl ?_
  refine go_aload_n (pc' := 1009) dL_law_1008 rfl rfl ?_
  refine go_iload_n (pc' := 1010) dL_law_1009 rfl rfl ?_
  refine go_iconst (pc' := 1011) 1 dL_law_1010 rfl (by decide) ?_
  refine go_iadd (pc' := 1012) dL_law_1011 rfl ?_
  refine go_scr (pc' := 1013) (i + 1) dL_law_1012 rfl (by rw [show (1 : Int32) = nI 1 from rfl, nI_add]) (by omega) hB ?_
  refine go_aload_n (pc' := 1014) dL_law_1013 rfl rfl ?_
  refine go_iload_n (pc' := 1015) dL_law_1014 rfl rfl ?_
  refine go_iconst (pc' := 1016) 2 dL_law_1015 rfl (by decide) ?_
  refine go_iadd (pc' := 1017) dL_law_1016 rfl ?_
  refine go_scr (pc' := 1018) (i + 2) dL_law_1017 rfl (by rw [show (2 : Int32) = nI 2 from rfl, nI_add]) (by omega) hB ?_
  refine go_cVi2 (pc' := 1021) (M' := mX6_placeFor) (d' := 6) dL_law_1018 rfl cvRL_121 rfl rfl (by decide) rfl (Nat.le_of_ble_eq_true rfl) ?_
  refine sy_placeFor I (fun r g1 hm => ?_)
  refine go_aload_n (pc' := 1022) dL_law_1021 rfl rfl ?_
  refine go_aload_n (pc' := 1023) dL_law_1022 rfl rfl ?_
  refine go_iload_n (pc' := 1024) dL_law_1023 rfl rfl ?_
  refine go_iconst (pc' := 1025) 1 dL_law_1024 rfl (by decide) ?_
  refine go_iadd (pc' := 1026) dL_law_1025 rfl ?_
  refine go_scr (pc' := 1027) (i + 1) dL_law_1026 rfl (by rw [show (1 : Int32) = nI 1 from rfl, nI_add]) (by omega) hB ?_
  refine go_aload_n (pc' := 1028) dL_law_1027 rfl rfl ?_
  refine go_iload_n (pc' := 1029) dL_law_1028 rfl rfl ?_
  refine go_iconst (pc' := 1030) 2 dL_law_1029 rfl (by decide) ?_
  refine go_iadd (pc' := 1031) dL_law_1030 rfl ?_
  refine go_scr (pc' := 1032) (i + 2) dL_law_1031 rfl (by rw [show (2 : Int32) = nI 2 from rfl, nI_add]) (by omega) hB ?_
  refine go_cVi2 (pc' := 1035) (M' := mX7_placeFor) (d' := 7) dL_law_1032 rfl cvRL_124 rfl rfl (by decide) rfl (Nat.le_of_ble_eq_true rfl) ?_
  refine hm _ (fun g2 I2 => ?_)
  refine go_icmp_eq (pc' := 1038) (tgt := 1702) dL_law_1035 rfl (by decide) (fun h_1035 => ?_) (fun h_1035 => absurd (rfl) h_1035)
  exact k g2 I2
set_option maxHeartbeats 4000000 in
set_option maxRecDepth 20000 in
theorem law_circle {sc : pg_Sc} {Q : pg_Q} {i : Nat} {g : pg_S} (hB : sc.1 < 2 ^ 31) (hi : i + 5 ≤ sc.1) (I : INV g) (k : ∀ g', INV g' → pg_Go sc 40 mL_law 1702 [(0, .ref 906), (1, .ref 0), (2, .ref 59), (3, .int (nI i))] [] g' Q) : pg_Go sc 40 mL_law 1040 [(0, .ref 906), (1, .ref 0), (2, .ref 59), (3, .int (nI i))] [] g Q := by
  refine go_aload_n (pc' := 1041) dL_law_1040 rfl rfl ?_
  refine go_aload_n (pc' := 1042) dL_law_1041 rfl rfl ?_
  refine go_iload_n (pc' := 1043) dL_law_1042 rfl rfl ?_
  refine go_iconst (pc' := 1044) 1 dL_law_1043 rfl (by decide) ?_
  refine go_iadd (pc' := 1045) dL_law_1044 rfl ?_
  refine go_scr (pc' := 1046) (i + 1) dL_law_1045 rfl (by rw [show (1 : Int32) = nI 1 from rfl, nI_add]) (by omega) hB ?_
  refine go_cVi1 (pc' := 1049) (M' := mX6_circle) (d' := 2) dL_law_1046 rfl cvRL_125 rfl rfl (by decide) rfl (Nat.le_of_ble_eq_true rfl) ?_
  refine sy_circle I (fun r g1 hm => ?_)
  refine go_aload_n (pc' := 1050) dL_law_1049 rfl rfl ?_
  refine go_aload_n (pc' := 1051) dL_law_1050 rfl rfl ?_
  refine go_iload_n (pc' := 1052) dL_law_1051 rfl rfl ?_
  refine go_iconst (pc' := 1053) 1 dL_law_1052 rfl (by decide) ?_
  refine go_iadd (pc' := 1054) dL_law_1053 rfl ?_
  refine go_scr (pc' := 1055) (i + 1) dL_law_1054 rfl (by rw [show (1 : Int32) = nI 1 from rfl, nI_add]) (by omega) hB ?_
  refine go_cVi1 (pc' := 1058) (M' := mX7_circle) (d' := 3) dL_law_1055 rfl cvRL_128 rfl rfl (by decide) rfl (Nat.le_of_ble_eq_true rfl) ?_
  refine hm _ (fun g2 I2 => ?_)
  refine go_icmp_eq (pc' := 1061) (tgt := 1702) dL_law_1058 rfl (by decide) (fun h_1058 => ?_) (fun h_1058 => absurd (rfl) h_1058)
  exact k g2 I2
set_option maxHeartbeats 4000000 in
set_option maxRecDepth 20000 in
theorem law_apart {sc : pg_Sc} {Q : pg_Q} {i : Nat} {g : pg_S} (hB : sc.1 < 2 ^ 31) (hi : i + 5 ≤ sc.1) (I : INV g) (k : ∀ g', INV g' → pg_Go sc 40 mL_law 1702 [(0, .ref 906), (1, .ref 0), (2, .ref 59), (3, .int (nI i))] [] g' Q) : pg_Go sc 40 mL_law 1063 [(0, .ref 906), (1, .ref 0), (2, .ref 59), (3, .int (nI i))] [] g Q := by
  refine go_aload_n (pc' := 1064) dL_law_1063 rfl rfl ?_
  refine go_cVi0 (pc' := 1067) (M' := mX6_apart) (d' := 4) dL_law_1064 rfl cvRL_129 rfl rfl (by decide) rfl (Nat.le_of_ble_eq_true rfl) ?_
  refine sy_apart I (fun r g1 hm => ?_)
  refine go_aload_n (pc' := 1068) dL_law_1067 rfl rfl ?_
  refine go_cVi0 (pc' := 1071) (M' := mX7_apart) (d' := 4) dL_law_1068 rfl cvRL_132 rfl rfl (by decide) rfl (Nat.le_of_ble_eq_true rfl) ?_
  refine hm _ (fun g2 I2 => ?_)
  refine go_icmp_eq (pc' := 1074) (tgt := 1702) dL_law_1071 rfl (by decide) (fun h_1071 => ?_) (fun h_1071 => absurd (rfl) h_1071)
  exact k g2 I2
set_option maxHeartbeats 4000000 in
set_option maxRecDepth 20000 in
theorem law_fits {sc : pg_Sc} {Q : pg_Q} {i : Nat} {g : pg_S} (hB : sc.1 < 2 ^ 31) (hi : i + 5 ≤ sc.1) (I : INV g) (k : ∀ g', INV g' → pg_Go sc 40 mL_law 1702 [(0, .ref 906), (1, .ref 0), (2, .ref 59), (3, .int (nI i))] [] g' Q) : pg_Go sc 40 mL_law 1076 [(0, .ref 906), (1, .ref 0), (2, .ref 59), (3, .int (nI i))] [] g Q := by
  refine go_aload_n (pc' := 1077) dL_law_1076 rfl rfl ?_
  refine go_aload_n (pc' := 1078) dL_law_1077 rfl rfl ?_
  refine go_iload_n (pc' := 1079) dL_law_1078 rfl rfl ?_
  refine go_iconst (pc' := 1080) 1 dL_law_1079 rfl (by decide) ?_
  refine go_iadd (pc' := 1081) dL_law_1080 rfl ?_
  refine go_scr (pc' := 1082) (i + 1) dL_law_1081 rfl (by rw [show (1 : Int32) = nI 1 from rfl, nI_add]) (by omega) hB ?_
  refine go_aload_n (pc' := 1083) dL_law_1082 rfl rfl ?_
  refine go_iload_n (pc' := 1084) dL_law_1083 rfl rfl ?_
  refine go_iconst (pc' := 1085) 2 dL_law_1084 rfl (by decide) ?_
  refine go_iadd (pc' := 1086) dL_law_1085 rfl ?_
  refine go_scr (pc' := 1087) (i + 2) dL_law_1086 rfl (by rw [show (2 : Int32) = nI 2 from rfl, nI_add]) (by omega) hB ?_
  refine go_aload_n (pc' := 1088) dL_law_1087 rfl rfl ?_
  refine go_iload_n (pc' := 1089) dL_law_1088 rfl rfl ?_
  refine go_iconst (pc' := 1090) 3 dL_law_1089 rfl (by decide) ?_
  refine go_iadd (pc' := 1091) dL_law_1090 rfl ?_
  refine go_scr (pc' := 1092) (i + 3) dL_law_1091 rfl (by rw [show (3 : Int32) = nI 3 from rfl, nI_add]) (by omega) hB ?_
  refine go_cVi3 (pc' := 1095) (M' := mX6_fits) (d' := 5) dL_law_1092 rfl cvRL_133 rfl rfl (by decide) rfl (Nat.le_of_ble_eq_true rfl) ?_
  refine sy_fits I (fun r g1 hm => ?_)
  refine go_aload_n (pc' := 1096) dL_law_1095 rfl rfl ?_
  refine go_aload_n (pc' := 1097) dL_law_1096 rfl rfl ?_
  refine go_iload_n (pc' := 1098) dL_law_1097 rfl rfl ?_
  refine go_iconst (pc' := 1099) 1 dL_law_1098 rfl (by decide) ?_
  refine go_iadd (pc' := 1100) dL_law_1099 rfl ?_
  refine go_scr (pc' := 1101) (i + 1) dL_law_1100 rfl (by rw [show (1 : Int32) = nI 1 from rfl, nI_add]) (by omega) hB ?_
  refine go_aload_n (pc' := 1102) dL_law_1101 rfl rfl ?_
  refine go_iload_n (pc' := 1103) dL_law_1102 rfl rfl ?_
  refine go_iconst (pc' := 1104) 2 dL_law_1103 rfl (by decide) ?_
  refine go_iadd (pc' := 1105) dL_law_1104 rfl ?_
  refine go_scr (pc' := 1106) (i + 2) dL_law_1105 rfl (by rw [show (2 : Int32) = nI 2 from rfl, nI_add]) (by omega) hB ?_
  refine go_aload_n (pc' := 1107) dL_law_1106 rfl rfl ?_
  refine go_iload_n (pc' := 1108) dL_law_1107 rfl rfl ?_
  refine go_iconst (pc' := 1109) 3 dL_law_1108 rfl (by decide) ?_
  refine go_iadd (pc' := 1110) dL_law_1109 rfl ?_
  refine go_scr (pc' := 1111) (i + 3) dL_law_1110 rfl (by rw [show (3 : Int32) = nI 3 from rfl, nI_add]) (by omega) hB ?_
  refine go_cVi3 (pc' := 1114) (M' := mX7_fits) (d' := 6) dL_law_1111 rfl cvRL_136 rfl rfl (by decide) rfl (Nat.le_of_ble_eq_true rfl) ?_
  refine hm _ (fun g2 I2 => ?_)
  refine go_icmp_eq (pc' := 1117) (tgt := 1702) dL_law_1114 rfl (by decide) (fun h_1114 => ?_) (fun h_1114 => absurd (rfl) h_1114)
  exact k g2 I2
set_option maxHeartbeats 4000000 in
set_option maxRecDepth 20000 in
theorem law_odds {sc : pg_Sc} {Q : pg_Q} {i : Nat} {g : pg_S} (hB : sc.1 < 2 ^ 31) (hi : i + 5 ≤ sc.1) (I : INV g) (k : ∀ g', INV g' → pg_Go sc 40 mL_law 1702 [(0, .ref 906), (1, .ref 0), (2, .ref 59), (3, .int (nI i))] [] g' Q) : pg_Go sc 40 mL_law 1119 [(0, .ref 906), (1, .ref 0), (2, .ref 59), (3, .int (nI i))] [] g Q := by
  refine go_aload_n (pc' := 1120) dL_law_1119 rfl rfl ?_
  refine go_aload_n (pc' := 1121) dL_law_1120 rfl rfl ?_
  refine go_iload_n (pc' := 1122) dL_law_1121 rfl rfl ?_
  refine go_iconst (pc' := 1123) 1 dL_law_1122 rfl (by decide) ?_
  refine go_iadd (pc' := 1124) dL_law_1123 rfl ?_
  refine go_scr (pc' := 1125) (i + 1) dL_law_1124 rfl (by rw [show (1 : Int32) = nI 1 from rfl, nI_add]) (by omega) hB ?_
  refine go_aload_n (pc' := 1126) dL_law_1125 rfl rfl ?_
  refine go_iload_n (pc' := 1127) dL_law_1126 rfl rfl ?_
  refine go_iconst (pc' := 1128) 2 dL_law_1127 rfl (by decide) ?_
  refine go_iadd (pc' := 1129) dL_law_1128 rfl ?_
  refine go_scr (pc' := 1130) (i + 2) dL_law_1129 rfl (by rw [show (2 : Int32) = nI 2 from rfl, nI_add]) (by omega) hB ?_
  refine go_aload_n (pc' := 1131) dL_law_1130 rfl rfl ?_
  refine go_iload_n (pc' := 1132) dL_law_1131 rfl rfl ?_
  refine go_iconst (pc' := 1133) 3 dL_law_1132 rfl (by decide) ?_
  refine go_iadd (pc' := 1134) dL_law_1133 rfl ?_
  refine go_scr (pc' := 1135) (i + 3) dL_law_1134 rfl (by rw [show (3 : Int32) = nI 3 from rfl, nI_add]) (by omega) hB ?_
  refine go_cVl3 (pc' := 1138) (M' := mX6_odds) (d' := 3) dL_law_1135 rfl cvRL_137 rfl rfl (by decide) rfl (Nat.le_of_ble_eq_true rfl) ?_
  refine sy_odds I (fun r g1 hm => ?_)
  refine go_aload_n (pc' := 1139) dL_law_1138 rfl rfl ?_
  refine go_aload_n (pc' := 1140) dL_law_1139 rfl rfl ?_
  refine go_iload_n (pc' := 1141) dL_law_1140 rfl rfl ?_
  refine go_iconst (pc' := 1142) 1 dL_law_1141 rfl (by decide) ?_
  refine go_iadd (pc' := 1143) dL_law_1142 rfl ?_
  refine go_scr (pc' := 1144) (i + 1) dL_law_1143 rfl (by rw [show (1 : Int32) = nI 1 from rfl, nI_add]) (by omega) hB ?_
  refine go_aload_n (pc' := 1145) dL_law_1144 rfl rfl ?_
  refine go_iload_n (pc' := 1146) dL_law_1145 rfl rfl ?_
  refine go_iconst (pc' := 1147) 2 dL_law_1146 rfl (by decide) ?_
  refine go_iadd (pc' := 1148) dL_law_1147 rfl ?_
  refine go_scr (pc' := 1149) (i + 2) dL_law_1148 rfl (by rw [show (2 : Int32) = nI 2 from rfl, nI_add]) (by omega) hB ?_
  refine go_aload_n (pc' := 1150) dL_law_1149 rfl rfl ?_
  refine go_iload_n (pc' := 1151) dL_law_1150 rfl rfl ?_
  refine go_iconst (pc' := 1152) 3 dL_law_1151 rfl (by decide) ?_
  refine go_iadd (pc' := 1153) dL_law_1152 rfl ?_
  refine go_scr (pc' := 1154) (i + 3) dL_law_1153 rfl (by rw [show (3 : Int32) = nI 3 from rfl, nI_add]) (by omega) hB ?_
  refine go_cVl3 (pc' := 1157) (M' := mX7_odds) (d' := 2) dL_law_1154 rfl cvRL_141 rfl rfl (by decide) rfl (Nat.le_of_ble_eq_true rfl) ?_
  refine hm _ (fun g2 I2 => ?_)
  refine go_lcmp (pc' := 1158) dL_law_1157 rfl ?_
  refine go_if_eq (pc' := 1161) (tgt := 1702) dL_law_1158 rfl (by decide) (fun h_1158 => ?_) (fun h_1158 => absurd (cmp_rf r) h_1158)
  exact k g2 I2
set_option maxHeartbeats 4000000 in
set_option maxRecDepth 20000 in
theorem law_hope {sc : pg_Sc} {Q : pg_Q} {i : Nat} {g : pg_S} (hB : sc.1 < 2 ^ 31) (hi : i + 5 ≤ sc.1) (I : INV g) (k : ∀ g', INV g' → pg_Go sc 40 mL_law 1702 [(0, .ref 906), (1, .ref 0), (2, .ref 59), (3, .int (nI i))] [] g' Q) : pg_Go sc 40 mL_law 1163 [(0, .ref 906), (1, .ref 0), (2, .ref 59), (3, .int (nI i))] [] g Q := by
  refine go_aload_n (pc' := 1164) dL_law_1163 rfl rfl ?_
  refine go_aload_n (pc' := 1165) dL_law_1164 rfl rfl ?_
  refine go_iload_n (pc' := 1166) dL_law_1165 rfl rfl ?_
  refine go_iconst (pc' := 1167) 1 dL_law_1166 rfl (by decide) ?_
  refine go_iadd (pc' := 1168) dL_law_1167 rfl ?_
  refine go_scr (pc' := 1169) (i + 1) dL_law_1168 rfl (by rw [show (1 : Int32) = nI 1 from rfl, nI_add]) (by omega) hB ?_
  refine go_aload_n (pc' := 1170) dL_law_1169 rfl rfl ?_
  refine go_iload_n (pc' := 1171) dL_law_1170 rfl rfl ?_
  refine go_iconst (pc' := 1172) 2 dL_law_1171 rfl (by decide) ?_
  refine go_iadd (pc' := 1173) dL_law_1172 rfl ?_
  refine go_scr (pc' := 1174) (i + 2) dL_law_1173 rfl (by rw [show (2 : Int32) = nI 2 from rfl, nI_add]) (by omega) hB ?_
  refine go_cVl2 (pc' := 1177) (M' := mX6_hope) (d' := 3) dL_law_1174 rfl cvRL_142 rfl rfl (by decide) rfl (Nat.le_of_ble_eq_true rfl) ?_
  refine sy_hope I (fun r g1 hm => ?_)
  refine go_aload_n (pc' := 1178) dL_law_1177 rfl rfl ?_
  refine go_aload_n (pc' := 1179) dL_law_1178 rfl rfl ?_
  refine go_iload_n (pc' := 1180) dL_law_1179 rfl rfl ?_
  refine go_iconst (pc' := 1181) 1 dL_law_1180 rfl (by decide) ?_
  refine go_iadd (pc' := 1182) dL_law_1181 rfl ?_
  refine go_scr (pc' := 1183) (i + 1) dL_law_1182 rfl (by rw [show (1 : Int32) = nI 1 from rfl, nI_add]) (by omega) hB ?_
  refine go_aload_n (pc' := 1184) dL_law_1183 rfl rfl ?_
  refine go_iload_n (pc' := 1185) dL_law_1184 rfl rfl ?_
  refine go_iconst (pc' := 1186) 2 dL_law_1185 rfl (by decide) ?_
  refine go_iadd (pc' := 1187) dL_law_1186 rfl ?_
  refine go_scr (pc' := 1188) (i + 2) dL_law_1187 rfl (by rw [show (2 : Int32) = nI 2 from rfl, nI_add]) (by omega) hB ?_
  refine go_cVl2 (pc' := 1191) (M' := mX7_hope) (d' := 2) dL_law_1188 rfl cvRL_146 rfl rfl (by decide) rfl (Nat.le_of_ble_eq_true rfl) ?_
  refine hm _ (fun g2 I2 => ?_)
  refine go_lcmp (pc' := 1192) dL_law_1191 rfl ?_
  refine go_if_eq (pc' := 1195) (tgt := 1702) dL_law_1192 rfl (by decide) (fun h_1192 => ?_) (fun h_1192 => absurd (cmp_rf r) h_1192)
  exact k g2 I2
set_option maxHeartbeats 4000000 in
set_option maxRecDepth 20000 in
theorem law_prove {sc : pg_Sc} {Q : pg_Q} {i : Nat} {g : pg_S} (hB : sc.1 < 2 ^ 31) (hi : i + 5 ≤ sc.1) (I : INV g) (k : ∀ g', INV g' → pg_Go sc 40 mL_law 1702 [(0, .ref 906), (1, .ref 0), (2, .ref 59), (3, .int (nI i))] [] g' Q) : pg_Go sc 40 mL_law 1197 [(0, .ref 906), (1, .ref 0), (2, .ref 59), (3, .int (nI i))] [] g Q := by
  refine go_aload_n (pc' := 1198) dL_law_1197 rfl rfl ?_
  refine go_aload_n (pc' := 1199) dL_law_1198 rfl rfl ?_
  refine go_iload_n (pc' := 1200) dL_law_1199 rfl rfl ?_
  refine go_iconst (pc' := 1201) 1 dL_law_1200 rfl (by decide) ?_
  refine go_iadd (pc' := 1202) dL_law_1201 rfl ?_
  refine go_scr (pc' := 1203) (i + 1) dL_law_1202 rfl (by rw [show (1 : Int32) = nI 1 from rfl, nI_add]) (by omega) hB ?_
  refine go_aload_n (pc' := 1204) dL_law_1203 rfl rfl ?_
  refine go_iload_n (pc' := 1205) dL_law_1204 rfl rfl ?_
  refine go_iconst (pc' := 1206) 2 dL_law_1205 rfl (by decide) ?_
  refine go_iadd (pc' := 1207) dL_law_1206 rfl ?_
  refine go_scr (pc' := 1208) (i + 2) dL_law_1207 rfl (by rw [show (2 : Int32) = nI 2 from rfl, nI_add]) (by omega) hB ?_
  refine go_cVi2 (pc' := 1211) (M' := mX6_prove) (d' := 4) dL_law_1208 rfl cvRL_147 rfl rfl (by decide) rfl (Nat.le_of_ble_eq_true rfl) ?_
  refine sy_prove I (fun r g1 hm => ?_)
  refine go_aload_n (pc' := 1212) dL_law_1211 rfl rfl ?_
  refine go_aload_n (pc' := 1213) dL_law_1212 rfl rfl ?_
  refine go_iload_n (pc' := 1214) dL_law_1213 rfl rfl ?_
  refine go_iconst (pc' := 1215) 1 dL_law_1214 rfl (by decide) ?_
  refine go_iadd (pc' := 1216) dL_law_1215 rfl ?_
  refine go_scr (pc' := 1217) (i + 1) dL_law_1216 rfl (by rw [show (1 : Int32) = nI 1 from rfl, nI_add]) (by omega) hB ?_
  refine go_aload_n (pc' := 1218) dL_law_1217 rfl rfl ?_
  refine go_iload_n (pc' := 1219) dL_law_1218 rfl rfl ?_
  refine go_iconst (pc' := 1220) 2 dL_law_1219 rfl (by decide) ?_
  refine go_iadd (pc' := 1221) dL_law_1220 rfl ?_
  refine go_scr (pc' := 1222) (i + 2) dL_law_1221 rfl (by rw [show (2 : Int32) = nI 2 from rfl, nI_add]) (by omega) hB ?_
  refine go_cVi2 (pc' := 1225) (M' := mX7_prove) (d' := 6) dL_law_1222 rfl cvRL_150 rfl rfl (by decide) rfl (Nat.le_of_ble_eq_true rfl) ?_
  refine hm _ (fun g2 I2 => ?_)
  refine go_icmp_eq (pc' := 1228) (tgt := 1702) dL_law_1225 rfl (by decide) (fun h_1225 => ?_) (fun h_1225 => absurd (rfl) h_1225)
  exact k g2 I2
set_option maxHeartbeats 4000000 in
set_option maxRecDepth 20000 in
theorem law_row {sc : pg_Sc} {Q : pg_Q} {i : Nat} {g : pg_S} (hB : sc.1 < 2 ^ 31) (hi : i + 5 ≤ sc.1) (I : INV g) (k : ∀ g', INV g' → pg_Go sc 40 mL_law 1702 [(0, .ref 906), (1, .ref 0), (2, .ref 59), (3, .int (nI i))] [] g' Q) : pg_Go sc 40 mL_law 1230 [(0, .ref 906), (1, .ref 0), (2, .ref 59), (3, .int (nI i))] [] g Q := by
  refine go_aload_n (pc' := 1231) dL_law_1230 rfl rfl ?_
  refine go_aload_n (pc' := 1232) dL_law_1231 rfl rfl ?_
  refine go_iload_n (pc' := 1233) dL_law_1232 rfl rfl ?_
  refine go_iconst (pc' := 1234) 1 dL_law_1233 rfl (by decide) ?_
  refine go_iadd (pc' := 1235) dL_law_1234 rfl ?_
  refine go_scr (pc' := 1236) (i + 1) dL_law_1235 rfl (by rw [show (1 : Int32) = nI 1 from rfl, nI_add]) (by omega) hB ?_
  refine go_aload_n (pc' := 1237) dL_law_1236 rfl rfl ?_
  refine go_iload_n (pc' := 1238) dL_law_1237 rfl rfl ?_
  refine go_iconst (pc' := 1239) 2 dL_law_1238 rfl (by decide) ?_
  refine go_iadd (pc' := 1240) dL_law_1239 rfl ?_
  refine go_scr (pc' := 1241) (i + 2) dL_law_1240 rfl (by rw [show (2 : Int32) = nI 2 from rfl, nI_add]) (by omega) hB ?_
  refine go_cVi2 (pc' := 1244) (M' := mX6_row) (d' := 3) dL_law_1241 rfl cvRL_151 rfl rfl (by decide) rfl (Nat.le_of_ble_eq_true rfl) ?_
  refine sy_row I (fun r g1 hm => ?_)
  refine go_aload_n (pc' := 1245) dL_law_1244 rfl rfl ?_
  refine go_aload_n (pc' := 1246) dL_law_1245 rfl rfl ?_
  refine go_iload_n (pc' := 1247) dL_law_1246 rfl rfl ?_
  refine go_iconst (pc' := 1248) 1 dL_law_1247 rfl (by decide) ?_
  refine go_iadd (pc' := 1249) dL_law_1248 rfl ?_
  refine go_scr (pc' := 1250) (i + 1) dL_law_1249 rfl (by rw [show (1 : Int32) = nI 1 from rfl, nI_add]) (by omega) hB ?_
  refine go_aload_n (pc' := 1251) dL_law_1250 rfl rfl ?_
  refine go_iload_n (pc' := 1252) dL_law_1251 rfl rfl ?_
  refine go_iconst (pc' := 1253) 2 dL_law_1252 rfl (by decide) ?_
  refine go_iadd (pc' := 1254) dL_law_1253 rfl ?_
  refine go_scr (pc' := 1255) (i + 2) dL_law_1254 rfl (by rw [show (2 : Int32) = nI 2 from rfl, nI_add]) (by omega) hB ?_
  refine go_cVi2 (pc' := 1258) (M' := mX7_row) (d' := 3) dL_law_1255 rfl cvRL_154 rfl rfl (by decide) rfl (Nat.le_of_ble_eq_true rfl) ?_
  refine hm _ (fun g2 I2 => ?_)
  refine go_icmp_eq (pc' := 1261) (tgt := 1702) dL_law_1258 rfl (by decide) (fun h_1258 => ?_) (fun h_1258 => absurd (rfl) h_1258)
  exact k g2 I2
set_option maxHeartbeats 4000000 in
set_option maxRecDepth 20000 in
theorem law_alterRow {sc : pg_Sc} {Q : pg_Q} {i : Nat} {g : pg_S} (hB : sc.1 < 2 ^ 31) (hi : i + 5 ≤ sc.1) (I : INV g) (k : ∀ g', INV g' → pg_Go sc 40 mL_law 1702 [(0, .ref 906), (1, .ref 0), (2, .ref 59), (3, .int (nI i))] [] g' Q) : pg_Go sc 40 mL_law 1263 [(0, .ref 906), (1, .ref 0), (2, .ref 59), (3, .int (nI i))] [] g Q := by
  refine go_aload_n (pc' := 1264) dL_law_1263 rfl rfl ?_
  refine go_aload_n (pc' := 1265) dL_law_1264 rfl rfl ?_
  refine go_iload_n (pc' := 1266) dL_law_1265 rfl rfl ?_
  refine go_iconst (pc' := 1267) 1 dL_law_1266 rfl (by decide) ?_
  refine go_iadd (pc' := 1268) dL_law_1267 rfl ?_
  refine go_scr (pc' := 1269) (i + 1) dL_law_1268 rfl (by rw [show (1 : Int32) = nI 1 from rfl, nI_add]) (by omega) hB ?_
  refine go_aload_n (pc' := 1270) dL_law_1269 rfl rfl ?_
  refine go_iload_n (pc' := 1271) dL_law_1270 rfl rfl ?_
  refine go_iconst (pc' := 1272) 2 dL_law_1271 rfl (by decide) ?_
  refine go_iadd (pc' := 1273) dL_law_1272 rfl ?_
  refine go_scr (pc' := 1274) (i + 2) dL_law_1273 rfl (by rw [show (2 : Int32) = nI 2 from rfl, nI_add]) (by omega) hB ?_
  refine go_aload_n (pc' := 1275) dL_law_1274 rfl rfl ?_
  refine go_iload_n (pc' := 1276) dL_law_1275 rfl rfl ?_
  refine go_iconst (pc' := 1277) 3 dL_law_1276 rfl (by decide) ?_
  refine go_iadd (pc' := 1278) dL_law_1277 rfl ?_
  refine go_scr (pc' := 1279) (i + 3) dL_law_1278 rfl (by rw [show (3 : Int32) = nI 3 from rfl, nI_add]) (by omega) hB ?_
  refine go_cVi3 (pc' := 1282) (M' := mX6_alterRow) (d' := 3) dL_law_1279 rfl cvRL_155 rfl rfl (by decide) rfl (Nat.le_of_ble_eq_true rfl) ?_
  refine sy_alterRow I (fun r g1 hm => ?_)
  refine go_aload_n (pc' := 1283) dL_law_1282 rfl rfl ?_
  refine go_aload_n (pc' := 1284) dL_law_1283 rfl rfl ?_
  refine go_iload_n (pc' := 1285) dL_law_1284 rfl rfl ?_
  refine go_iconst (pc' := 1286) 1 dL_law_1285 rfl (by decide) ?_
  refine go_iadd (pc' := 1287) dL_law_1286 rfl ?_
  refine go_scr (pc' := 1288) (i + 1) dL_law_1287 rfl (by rw [show (1 : Int32) = nI 1 from rfl, nI_add]) (by omega) hB ?_
  refine go_aload_n (pc' := 1289) dL_law_1288 rfl rfl ?_
  refine go_iload_n (pc' := 1290) dL_law_1289 rfl rfl ?_
  refine go_iconst (pc' := 1291) 2 dL_law_1290 rfl (by decide) ?_
  refine go_iadd (pc' := 1292) dL_law_1291 rfl ?_
  refine go_scr (pc' := 1293) (i + 2) dL_law_1292 rfl (by rw [show (2 : Int32) = nI 2 from rfl, nI_add]) (by omega) hB ?_
  refine go_aload_n (pc' := 1294) dL_law_1293 rfl rfl ?_
  refine go_iload_n (pc' := 1295) dL_law_1294 rfl rfl ?_
  refine go_iconst (pc' := 1296) 3 dL_law_1295 rfl (by decide) ?_
  refine go_iadd (pc' := 1297) dL_law_1296 rfl ?_
  refine go_scr (pc' := 1298) (i + 3) dL_law_1297 rfl (by rw [show (3 : Int32) = nI 3 from rfl, nI_add]) (by omega) hB ?_
  refine go_cVi3 (pc' := 1301) (M' := mX7_alterRow) (d' := 3) dL_law_1298 rfl cvRL_158 rfl rfl (by decide) rfl (Nat.le_of_ble_eq_true rfl) ?_
  refine hm _ (fun g2 I2 => ?_)
  refine go_icmp_eq (pc' := 1304) (tgt := 1702) dL_law_1301 rfl (by decide) (fun h_1301 => ?_) (fun h_1301 => absurd (rfl) h_1301)
  exact k g2 I2
set_option maxHeartbeats 4000000 in
set_option maxRecDepth 20000 in
theorem law_judge {sc : pg_Sc} {Q : pg_Q} {i : Nat} {g : pg_S} (hB : sc.1 < 2 ^ 31) (hi : i + 5 ≤ sc.1) (I : INV g) (k : ∀ g', INV g' → pg_Go sc 40 mL_law 1702 [(0, .ref 906), (1, .ref 0), (2, .ref 59), (3, .int (nI i))] [] g' Q) : pg_Go sc 40 mL_law 1306 [(0, .ref 906), (1, .ref 0), (2, .ref 59), (3, .int (nI i))] [] g Q := by
  refine go_aload_n (pc' := 1307) dL_law_1306 rfl rfl ?_
  refine go_aload_n (pc' := 1308) dL_law_1307 rfl rfl ?_
  refine go_iload_n (pc' := 1309) dL_law_1308 rfl rfl ?_
  refine go_iconst (pc' := 1310) 1 dL_law_1309 rfl (by decide) ?_
  refine go_iadd (pc' := 1311) dL_law_1310 rfl ?_
  refine go_scr (pc' := 1312) (i + 1) dL_law_1311 rfl (by rw [show (1 : Int32) = nI 1 from rfl, nI_add]) (by omega) hB ?_
  refine go_cVi1 (pc' := 1315) (M' := mX6_judge) (d' := 4) dL_law_1312 rfl cvRL_159 rfl rfl (by decide) rfl (Nat.le_of_ble_eq_true rfl) ?_
  refine sy_judge I (fun r g1 hm => ?_)
  refine go_aload_n (pc' := 1316) dL_law_1315 rfl rfl ?_
  refine go_aload_n (pc' := 1317) dL_law_1316 rfl rfl ?_
  refine go_iload_n (pc' := 1318) dL_law_1317 rfl rfl ?_
  refine go_iconst (pc' := 1319) 1 dL_law_1318 rfl (by decide) ?_
  refine go_iadd (pc' := 1320) dL_law_1319 rfl ?_
  refine go_scr (pc' := 1321) (i + 1) dL_law_1320 rfl (by rw [show (1 : Int32) = nI 1 from rfl, nI_add]) (by omega) hB ?_
  refine go_cVi1 (pc' := 1324) (M' := mX7_judge) (d' := 6) dL_law_1321 rfl cvRL_162 rfl rfl (by decide) rfl (Nat.le_of_ble_eq_true rfl) ?_
  refine hm _ (fun g2 I2 => ?_)
  refine go_icmp_eq (pc' := 1327) (tgt := 1702) dL_law_1324 rfl (by decide) (fun h_1324 => ?_) (fun h_1324 => absurd (rfl) h_1324)
  exact k g2 I2
set_option maxHeartbeats 4000000 in
set_option maxRecDepth 20000 in
theorem law_minds {sc : pg_Sc} {Q : pg_Q} {i : Nat} {g : pg_S} (hB : sc.1 < 2 ^ 31) (hi : i + 5 ≤ sc.1) (I : INV g) (k : ∀ g', INV g' → pg_Go sc 40 mL_law 1702 [(0, .ref 906), (1, .ref 0), (2, .ref 59), (3, .int (nI i))] [] g' Q) : pg_Go sc 40 mL_law 1329 [(0, .ref 906), (1, .ref 0), (2, .ref 59), (3, .int (nI i))] [] g Q := by
  refine go_aload_n (pc' := 1330) dL_law_1329 rfl rfl ?_
  refine go_aload_n (pc' := 1331) dL_law_1330 rfl rfl ?_
  refine go_iload_n (pc' := 1332) dL_law_1331 rfl rfl ?_
  refine go_iconst (pc' := 1333) 1 dL_law_1332 rfl (by decide) ?_
  refine go_iadd (pc' := 1334) dL_law_1333 rfl ?_
  refine go_scr (pc' := 1335) (i + 1) dL_law_1334 rfl (by rw [show (1 : Int32) = nI 1 from rfl, nI_add]) (by omega) hB ?_
  refine go_aload_n (pc' := 1336) dL_law_1335 rfl rfl ?_
  refine go_iload_n (pc' := 1337) dL_law_1336 rfl rfl ?_
  refine go_iconst (pc' := 1338) 2 dL_law_1337 rfl (by decide) ?_
  refine go_iadd (pc' := 1339) dL_law_1338 rfl ?_
  refine go_scr (pc' := 1340) (i + 2) dL_law_1339 rfl (by rw [show (2 : Int32) = nI 2 from rfl, nI_add]) (by omega) hB ?_
  refine go_aload_n (pc' := 1341) dL_law_1340 rfl rfl ?_
  refine go_iload_n (pc' := 1342) dL_law_1341 rfl rfl ?_
  refine go_iconst (pc' := 1343) 3 dL_law_1342 rfl (by decide) ?_
  refine go_iadd (pc' := 1344) dL_law_1343 rfl ?_
  refine go_scr (pc' := 1345) (i + 3) dL_law_1344 rfl (by rw [show (3 : Int32) = nI 3 from rfl, nI_add]) (by omega) hB ?_
  refine go_aload_n (pc' := 1346) dL_law_1345 rfl rfl ?_
  refine go_iload_n (pc' := 1347) dL_law_1346 rfl rfl ?_
  refine go_iconst (pc' := 1348) 4 dL_law_1347 rfl (by decide) ?_
  refine go_iadd (pc' := 1349) dL_law_1348 rfl ?_
  refine go_scr (pc' := 1350) (i + 4) dL_law_1349 rfl (by rw [show (4 : Int32) = nI 4 from rfl, nI_add]) (by omega) hB ?_
  refine go_cVi4 (pc' := 1353) (M' := mX6_minds) (d' := 3) dL_law_1350 rfl cvRL_163 rfl rfl (by decide) rfl (Nat.le_of_ble_eq_true rfl) ?_
  refine sy_minds I (fun r g1 hm => ?_)
  refine go_aload_n (pc' := 1354) dL_law_1353 rfl rfl ?_
  refine go_aload_n (pc' := 1355) dL_law_1354 rfl rfl ?_
  refine go_iload_n (pc' := 1356) dL_law_1355 rfl rfl ?_
  refine go_iconst (pc' := 1357) 1 dL_law_1356 rfl (by decide) ?_
  refine go_iadd (pc' := 1358) dL_law_1357 rfl ?_
  refine go_scr (pc' := 1359) (i + 1) dL_law_1358 rfl (by rw [show (1 : Int32) = nI 1 from rfl, nI_add]) (by omega) hB ?_
  refine go_aload_n (pc' := 1360) dL_law_1359 rfl rfl ?_
  refine go_iload_n (pc' := 1361) dL_law_1360 rfl rfl ?_
  refine go_iconst (pc' := 1362) 2 dL_law_1361 rfl (by decide) ?_
  refine go_iadd (pc' := 1363) dL_law_1362 rfl ?_
  refine go_scr (pc' := 1364) (i + 2) dL_law_1363 rfl (by rw [show (2 : Int32) = nI 2 from rfl, nI_add]) (by omega) hB ?_
  refine go_aload_n (pc' := 1365) dL_law_1364 rfl rfl ?_
  refine go_iload_n (pc' := 1366) dL_law_1365 rfl rfl ?_
  refine go_iconst (pc' := 1367) 3 dL_law_1366 rfl (by decide) ?_
  refine go_iadd (pc' := 1368) dL_law_1367 rfl ?_
  refine go_scr (pc' := 1369) (i + 3) dL_law_1368 rfl (by rw [show (3 : Int32) = nI 3 from rfl, nI_add]) (by omega) hB ?_
  refine go_aload_n (pc' := 1370) dL_law_1369 rfl rfl ?_
  refine go_iload_n (pc' := 1371) dL_law_1370 rfl rfl ?_
  refine go_iconst (pc' := 1372) 4 dL_law_1371 rfl (by decide) ?_
  refine go_iadd (pc' := 1373) dL_law_1372 rfl ?_
  refine go_scr (pc' := 1374) (i + 4) dL_law_1373 rfl (by rw [show (4 : Int32) = nI 4 from rfl, nI_add]) (by omega) hB ?_
  refine go_cVi4 (pc' := 1377) (M' := mX7_minds) (d' := 3) dL_law_1374 rfl cvRL_166 rfl rfl (by decide) rfl (Nat.le_of_ble_eq_true rfl) ?_
  refine hm _ (fun g2 I2 => ?_)
  refine go_icmp_eq (pc' := 1380) (tgt := 1702) dL_law_1377 rfl (by decide) (fun h_1377 => ?_) (fun h_1377 => absurd (rfl) h_1377)
  exact k g2 I2
set_option maxHeartbeats 4000000 in
set_option maxRecDepth 20000 in
theorem law_sheet {sc : pg_Sc} {Q : pg_Q} {i : Nat} {g : pg_S} (hB : sc.1 < 2 ^ 31) (hi : i + 5 ≤ sc.1) (I : INV g) (k : ∀ g', INV g' → pg_Go sc 40 mL_law 1702 [(0, .ref 906), (1, .ref 0), (2, .ref 59), (3, .int (nI i))] [] g' Q) : pg_Go sc 40 mL_law 1382 [(0, .ref 906), (1, .ref 0), (2, .ref 59), (3, .int (nI i))] [] g Q := by
  refine go_aload_n (pc' := 1383) dL_law_1382 rfl rfl ?_
  refine go_aload_n (pc' := 1384) dL_law_1383 rfl rfl ?_
  refine go_iload_n (pc' := 1385) dL_law_1384 rfl rfl ?_
  refine go_iconst (pc' := 1386) 1 dL_law_1385 rfl (by decide) ?_
  refine go_iadd (pc' := 1387) dL_law_1386 rfl ?_
  refine go_scr (pc' := 1388) (i + 1) dL_law_1387 rfl (by rw [show (1 : Int32) = nI 1 from rfl, nI_add]) (by omega) hB ?_
  refine go_aload_n (pc' := 1389) dL_law_1388 rfl rfl ?_
  refine go_iload_n (pc' := 1390) dL_law_1389 rfl rfl ?_
  refine go_iconst (pc' := 1391) 2 dL_law_1390 rfl (by decide) ?_
  refine go_iadd (pc' := 1392) dL_law_1391 rfl ?_
  refine go_scr (pc' := 1393) (i + 2) dL_law_1392 rfl (by rw [show (2 : Int32) = nI 2 from rfl, nI_add]) (by omega) hB ?_
  refine go_aload_n (pc' := 1394) dL_law_1393 rfl rfl ?_
  refine go_iload_n (pc' := 1395) dL_law_1394 rfl rfl ?_
  refine go_iconst (pc' := 1396) 3 dL_law_1395 rfl (by decide) ?_
  refine go_iadd (pc' := 1397) dL_law_1396 rfl ?_
  refine go_scr (pc' := 1398) (i + 3) dL_law_1397 rfl (by rw [show (3 : Int32) = nI 3 from rfl, nI_add]) (by omega) hB ?_
  refine go_cVi3 (pc' := 1401) (M' := mX6_sheet) (d' := 3) dL_law_1398 rfl cvRL_167 rfl rfl (by decide) rfl (Nat.le_of_ble_eq_true rfl) ?_
  refine sy_sheet I (fun r g1 hm => ?_)
  refine go_aload_n (pc' := 1402) dL_law_1401 rfl rfl ?_
  refine go_aload_n (pc' := 1403) dL_law_1402 rfl rfl ?_
  refine go_iload_n (pc' := 1404) dL_law_1403 rfl rfl ?_
  refine go_iconst (pc' := 1405) 1 dL_law_1404 rfl (by decide) ?_
  refine go_iadd (pc' := 1406) dL_law_1405 rfl ?_
  refine go_scr (pc' := 1407) (i + 1) dL_law_1406 rfl (by rw [show (1 : Int32) = nI 1 from rfl, nI_add]) (by omega) hB ?_
  refine go_aload_n (pc' := 1408) dL_law_1407 rfl rfl ?_
  refine go_iload_n (pc' := 1409) dL_law_1408 rfl rfl ?_
  refine go_iconst (pc' := 1410) 2 dL_law_1409 rfl (by decide) ?_
  refine go_iadd (pc' := 1411) dL_law_1410 rfl ?_
  refine go_scr (pc' := 1412) (i + 2) dL_law_1411 rfl (by rw [show (2 : Int32) = nI 2 from rfl, nI_add]) (by omega) hB ?_
  refine go_aload_n (pc' := 1413) dL_law_1412 rfl rfl ?_
  refine go_iload_n (pc' := 1414) dL_law_1413 rfl rfl ?_
  refine go_iconst (pc' := 1415) 3 dL_law_1414 rfl (by decide) ?_
  refine go_iadd (pc' := 1416) dL_law_1415 rfl ?_
  refine go_scr (pc' := 1417) (i + 3) dL_law_1416 rfl (by rw [show (3 : Int32) = nI 3 from rfl, nI_add]) (by omega) hB ?_
  refine go_cVi3 (pc' := 1420) (M' := mX7_sheet) (d' := 3) dL_law_1417 rfl cvRL_170 rfl rfl (by decide) rfl (Nat.le_of_ble_eq_true rfl) ?_
  refine hm _ (fun g2 I2 => ?_)
  refine go_icmp_eq (pc' := 1423) (tgt := 1702) dL_law_1420 rfl (by decide) (fun h_1420 => ?_) (fun h_1420 => absurd (rfl) h_1420)
  exact k g2 I2
set_option maxHeartbeats 4000000 in
set_option maxRecDepth 20000 in
theorem law_put {sc : pg_Sc} {Q : pg_Q} {i : Nat} {g : pg_S} (hB : sc.1 < 2 ^ 31) (hi : i + 5 ≤ sc.1) (I : INV g) (k : ∀ g', INV g' → pg_Go sc 40 mL_law 1702 [(0, .ref 906), (1, .ref 0), (2, .ref 59), (3, .int (nI i))] [] g' Q) : pg_Go sc 40 mL_law 1425 [(0, .ref 906), (1, .ref 0), (2, .ref 59), (3, .int (nI i))] [] g Q := by
  refine go_aload_n (pc' := 1426) dL_law_1425 rfl rfl ?_
  refine go_aload_n (pc' := 1427) dL_law_1426 rfl rfl ?_
  refine go_iload_n (pc' := 1428) dL_law_1427 rfl rfl ?_
  refine go_iconst (pc' := 1429) 1 dL_law_1428 rfl (by decide) ?_
  refine go_iadd (pc' := 1430) dL_law_1429 rfl ?_
  refine go_scr (pc' := 1431) (i + 1) dL_law_1430 rfl (by rw [show (1 : Int32) = nI 1 from rfl, nI_add]) (by omega) hB ?_
  refine go_aload_n (pc' := 1432) dL_law_1431 rfl rfl ?_
  refine go_iload_n (pc' := 1433) dL_law_1432 rfl rfl ?_
  refine go_iconst (pc' := 1434) 2 dL_law_1433 rfl (by decide) ?_
  refine go_iadd (pc' := 1435) dL_law_1434 rfl ?_
  refine go_scr (pc' := 1436) (i + 2) dL_law_1435 rfl (by rw [show (2 : Int32) = nI 2 from rfl, nI_add]) (by omega) hB ?_
  refine go_aload_n (pc' := 1437) dL_law_1436 rfl rfl ?_
  refine go_iload_n (pc' := 1438) dL_law_1437 rfl rfl ?_
  refine go_iconst (pc' := 1439) 3 dL_law_1438 rfl (by decide) ?_
  refine go_iadd (pc' := 1440) dL_law_1439 rfl ?_
  refine go_scr (pc' := 1441) (i + 3) dL_law_1440 rfl (by rw [show (3 : Int32) = nI 3 from rfl, nI_add]) (by omega) hB ?_
  refine go_cVi3 (pc' := 1444) (M' := mX6_put) (d' := 3) dL_law_1441 rfl cvRL_171 rfl rfl (by decide) rfl (Nat.le_of_ble_eq_true rfl) ?_
  refine sy_put I (fun r g1 hm => ?_)
  refine go_aload_n (pc' := 1445) dL_law_1444 rfl rfl ?_
  refine go_aload_n (pc' := 1446) dL_law_1445 rfl rfl ?_
  refine go_iload_n (pc' := 1447) dL_law_1446 rfl rfl ?_
  refine go_iconst (pc' := 1448) 1 dL_law_1447 rfl (by decide) ?_
  refine go_iadd (pc' := 1449) dL_law_1448 rfl ?_
  refine go_scr (pc' := 1450) (i + 1) dL_law_1449 rfl (by rw [show (1 : Int32) = nI 1 from rfl, nI_add]) (by omega) hB ?_
  refine go_aload_n (pc' := 1451) dL_law_1450 rfl rfl ?_
  refine go_iload_n (pc' := 1452) dL_law_1451 rfl rfl ?_
  refine go_iconst (pc' := 1453) 2 dL_law_1452 rfl (by decide) ?_
  refine go_iadd (pc' := 1454) dL_law_1453 rfl ?_
  refine go_scr (pc' := 1455) (i + 2) dL_law_1454 rfl (by rw [show (2 : Int32) = nI 2 from rfl, nI_add]) (by omega) hB ?_
  refine go_aload_n (pc' := 1456) dL_law_1455 rfl rfl ?_
  refine go_iload_n (pc' := 1457) dL_law_1456 rfl rfl ?_
  refine go_iconst (pc' := 1458) 3 dL_law_1457 rfl (by decide) ?_
  refine go_iadd (pc' := 1459) dL_law_1458 rfl ?_
  refine go_scr (pc' := 1460) (i + 3) dL_law_1459 rfl (by rw [show (3 : Int32) = nI 3 from rfl, nI_add]) (by omega) hB ?_
  refine go_cVi3 (pc' := 1463) (M' := mX7_put) (d' := 3) dL_law_1460 rfl cvRL_174 rfl rfl (by decide) rfl (Nat.le_of_ble_eq_true rfl) ?_
  refine hm _ (fun g2 I2 => ?_)
  refine go_icmp_eq (pc' := 1466) (tgt := 1702) dL_law_1463 rfl (by decide) (fun h_1463 => ?_) (fun h_1463 => absurd (rfl) h_1463)
  exact k g2 I2
set_option maxHeartbeats 4000000 in
set_option maxRecDepth 20000 in
theorem law_item {sc : pg_Sc} {Q : pg_Q} {i : Nat} {g : pg_S} (hB : sc.1 < 2 ^ 31) (hi : i + 5 ≤ sc.1) (I : INV g) (k : ∀ g', INV g' → pg_Go sc 40 mL_law 1702 [(0, .ref 906), (1, .ref 0), (2, .ref 59), (3, .int (nI i))] [] g' Q) : pg_Go sc 40 mL_law 1468 [(0, .ref 906), (1, .ref 0), (2, .ref 59), (3, .int (nI i))] [] g Q := by
  refine go_aload_n (pc' := 1469) dL_law_1468 rfl rfl ?_
  refine go_aload_n (pc' := 1470) dL_law_1469 rfl rfl ?_
  refine go_iload_n (pc' := 1471) dL_law_1470 rfl rfl ?_
  refine go_iconst (pc' := 1472) 1 dL_law_1471 rfl (by decide) ?_
  refine go_iadd (pc' := 1473) dL_law_1472 rfl ?_
  refine go_scr (pc' := 1474) (i + 1) dL_law_1473 rfl (by rw [show (1 : Int32) = nI 1 from rfl, nI_add]) (by omega) hB ?_
  refine go_aload_n (pc' := 1475) dL_law_1474 rfl rfl ?_
  refine go_iload_n (pc' := 1476) dL_law_1475 rfl rfl ?_
  refine go_iconst (pc' := 1477) 2 dL_law_1476 rfl (by decide) ?_
  refine go_iadd (pc' := 1478) dL_law_1477 rfl ?_
  refine go_scr (pc' := 1479) (i + 2) dL_law_1478 rfl (by rw [show (2 : Int32) = nI 2 from rfl, nI_add]) (by omega) hB ?_
  refine go_aload_n (pc' := 1480) dL_law_1479 rfl rfl ?_
  refine go_iload_n (pc' := 1481) dL_law_1480 rfl rfl ?_
  refine go_iconst (pc' := 1482) 3 dL_law_1481 rfl (by decide) ?_
  refine go_iadd (pc' := 1483) dL_law_1482 rfl ?_
  refine go_scr (pc' := 1484) (i + 3) dL_law_1483 rfl (by rw [show (3 : Int32) = nI 3 from rfl, nI_add]) (by omega) hB ?_
  refine go_cVi3 (pc' := 1487) (M' := mX6_item) (d' := 3) dL_law_1484 rfl cvRL_175 rfl rfl (by decide) rfl (Nat.le_of_ble_eq_true rfl) ?_
  refine sy_item I (fun r g1 hm => ?_)
  refine go_aload_n (pc' := 1488) dL_law_1487 rfl rfl ?_
  refine go_aload_n (pc' := 1489) dL_law_1488 rfl rfl ?_
  refine go_iload_n (pc' := 1490) dL_law_1489 rfl rfl ?_
  refine go_iconst (pc' := 1491) 1 dL_law_1490 rfl (by decide) ?_
  refine go_iadd (pc' := 1492) dL_law_1491 rfl ?_
  refine go_scr (pc' := 1493) (i + 1) dL_law_1492 rfl (by rw [show (1 : Int32) = nI 1 from rfl, nI_add]) (by omega) hB ?_
  refine go_aload_n (pc' := 1494) dL_law_1493 rfl rfl ?_
  refine go_iload_n (pc' := 1495) dL_law_1494 rfl rfl ?_
  refine go_iconst (pc' := 1496) 2 dL_law_1495 rfl (by decide) ?_
  refine go_iadd (pc' := 1497) dL_law_1496 rfl ?_
  refine go_scr (pc' := 1498) (i + 2) dL_law_1497 rfl (by rw [show (2 : Int32) = nI 2 from rfl, nI_add]) (by omega) hB ?_
  refine go_aload_n (pc' := 1499) dL_law_1498 rfl rfl ?_
  refine go_iload_n (pc' := 1500) dL_law_1499 rfl rfl ?_
  refine go_iconst (pc' := 1501) 3 dL_law_1500 rfl (by decide) ?_
  refine go_iadd (pc' := 1502) dL_law_1501 rfl ?_
  refine go_scr (pc' := 1503) (i + 3) dL_law_1502 rfl (by rw [show (3 : Int32) = nI 3 from rfl, nI_add]) (by omega) hB ?_
  refine go_cVi3 (pc' := 1506) (M' := mX7_item) (d' := 3) dL_law_1503 rfl cvRL_178 rfl rfl (by decide) rfl (Nat.le_of_ble_eq_true rfl) ?_
  refine hm _ (fun g2 I2 => ?_)
  refine go_icmp_eq (pc' := 1509) (tgt := 1702) dL_law_1506 rfl (by decide) (fun h_1506 => ?_) (fun h_1506 => absurd (rfl) h_1506)
  exact k g2 I2
set_option maxHeartbeats 4000000 in
set_option maxRecDepth 20000 in
theorem law_shelf {sc : pg_Sc} {Q : pg_Q} {i : Nat} {g : pg_S} (hB : sc.1 < 2 ^ 31) (hi : i + 5 ≤ sc.1) (I : INV g) (k : ∀ g', INV g' → pg_Go sc 40 mL_law 1702 [(0, .ref 906), (1, .ref 0), (2, .ref 59), (3, .int (nI i))] [] g' Q) : pg_Go sc 40 mL_law 1511 [(0, .ref 906), (1, .ref 0), (2, .ref 59), (3, .int (nI i))] [] g Q := by
  refine go_aload_n (pc' := 1512) dL_law_1511 rfl rfl ?_
  refine go_aload_n (pc' := 1513) dL_law_1512 rfl rfl ?_
  refine go_iload_n (pc' := 1514) dL_law_1513 rfl rfl ?_
  refine go_iconst (pc' := 1515) 1 dL_law_1514 rfl (by decide) ?_
  refine go_iadd (pc' := 1516) dL_law_1515 rfl ?_
  refine go_scr (pc' := 1517) (i + 1) dL_law_1516 rfl (by rw [show (1 : Int32) = nI 1 from rfl, nI_add]) (by omega) hB ?_
  refine go_aload_n (pc' := 1518) dL_law_1517 rfl rfl ?_
  refine go_iload_n (pc' := 1519) dL_law_1518 rfl rfl ?_
  refine go_iconst (pc' := 1520) 2 dL_law_1519 rfl (by decide) ?_
  refine go_iadd (pc' := 1521) dL_law_1520 rfl ?_
  refine go_scr (pc' := 1522) (i + 2) dL_law_1521 rfl (by rw [show (2 : Int32) = nI 2 from rfl, nI_add]) (by omega) hB ?_
  refine go_aload_n (pc' := 1523) dL_law_1522 rfl rfl ?_
  refine go_iload_n (pc' := 1524) dL_law_1523 rfl rfl ?_
  refine go_iconst (pc' := 1525) 3 dL_law_1524 rfl (by decide) ?_
  refine go_iadd (pc' := 1526) dL_law_1525 rfl ?_
  refine go_scr (pc' := 1527) (i + 3) dL_law_1526 rfl (by rw [show (3 : Int32) = nI 3 from rfl, nI_add]) (by omega) hB ?_
  refine go_cVi3 (pc' := 1530) (M' := mX6_shelf) (d' := 3) dL_law_1527 rfl cvRL_179 rfl rfl (by decide) rfl (Nat.le_of_ble_eq_true rfl) ?_
  refine sy_shelf I (fun r g1 hm => ?_)
  refine go_aload_n (pc' := 1531) dL_law_1530 rfl rfl ?_
  refine go_aload_n (pc' := 1532) dL_law_1531 rfl rfl ?_
  refine go_iload_n (pc' := 1533) dL_law_1532 rfl rfl ?_
  refine go_iconst (pc' := 1534) 1 dL_law_1533 rfl (by decide) ?_
  refine go_iadd (pc' := 1535) dL_law_1534 rfl ?_
  refine go_scr (pc' := 1536) (i + 1) dL_law_1535 rfl (by rw [show (1 : Int32) = nI 1 from rfl, nI_add]) (by omega) hB ?_
  refine go_aload_n (pc' := 1537) dL_law_1536 rfl rfl ?_
  refine go_iload_n (pc' := 1538) dL_law_1537 rfl rfl ?_
  refine go_iconst (pc' := 1539) 2 dL_law_1538 rfl (by decide) ?_
  refine go_iadd (pc' := 1540) dL_law_1539 rfl ?_
  refine go_scr (pc' := 1541) (i + 2) dL_law_1540 rfl (by rw [show (2 : Int32) = nI 2 from rfl, nI_add]) (by omega) hB ?_
  refine go_aload_n (pc' := 1542) dL_law_1541 rfl rfl ?_
  refine go_iload_n (pc' := 1543) dL_law_1542 rfl rfl ?_
  refine go_iconst (pc' := 1544) 3 dL_law_1543 rfl (by decide) ?_
  refine go_iadd (pc' := 1545) dL_law_1544 rfl ?_
  refine go_scr (pc' := 1546) (i + 3) dL_law_1545 rfl (by rw [show (3 : Int32) = nI 3 from rfl, nI_add]) (by omega) hB ?_
  refine go_cVi3 (pc' := 1549) (M' := mX7_shelf) (d' := 4) dL_law_1546 rfl cvRL_182 rfl rfl (by decide) rfl (Nat.le_of_ble_eq_true rfl) ?_
  refine hm _ (fun g2 I2 => ?_)
  refine go_icmp_eq (pc' := 1552) (tgt := 1702) dL_law_1549 rfl (by decide) (fun h_1549 => ?_) (fun h_1549 => absurd (rfl) h_1549)
  exact k g2 I2
set_option maxHeartbeats 4000000 in
set_option maxRecDepth 20000 in
theorem law_taken {sc : pg_Sc} {Q : pg_Q} {i : Nat} {g : pg_S} (hB : sc.1 < 2 ^ 31) (hi : i + 5 ≤ sc.1) (I : INV g) (k : ∀ g', INV g' → pg_Go sc 40 mL_law 1702 [(0, .ref 906), (1, .ref 0), (2, .ref 59), (3, .int (nI i))] [] g' Q) : pg_Go sc 40 mL_law 1554 [(0, .ref 906), (1, .ref 0), (2, .ref 59), (3, .int (nI i))] [] g Q := by
  refine go_aload_n (pc' := 1555) dL_law_1554 rfl rfl ?_
  refine go_aload_n (pc' := 1556) dL_law_1555 rfl rfl ?_
  refine go_iload_n (pc' := 1557) dL_law_1556 rfl rfl ?_
  refine go_iconst (pc' := 1558) 1 dL_law_1557 rfl (by decide) ?_
  refine go_iadd (pc' := 1559) dL_law_1558 rfl ?_
  refine go_scr (pc' := 1560) (i + 1) dL_law_1559 rfl (by rw [show (1 : Int32) = nI 1 from rfl, nI_add]) (by omega) hB ?_
  refine go_aload_n (pc' := 1561) dL_law_1560 rfl rfl ?_
  refine go_iload_n (pc' := 1562) dL_law_1561 rfl rfl ?_
  refine go_iconst (pc' := 1563) 2 dL_law_1562 rfl (by decide) ?_
  refine go_iadd (pc' := 1564) dL_law_1563 rfl ?_
  refine go_scr (pc' := 1565) (i + 2) dL_law_1564 rfl (by rw [show (2 : Int32) = nI 2 from rfl, nI_add]) (by omega) hB ?_
  refine go_cVi2 (pc' := 1568) (M' := mX6_taken) (d' := 3) dL_law_1565 rfl cvRL_183 rfl rfl (by decide) rfl (Nat.le_of_ble_eq_true rfl) ?_
  refine sy_taken I (fun r g1 hm => ?_)
  refine go_aload_n (pc' := 1569) dL_law_1568 rfl rfl ?_
  refine go_aload_n (pc' := 1570) dL_law_1569 rfl rfl ?_
  refine go_iload_n (pc' := 1571) dL_law_1570 rfl rfl ?_
  refine go_iconst (pc' := 1572) 1 dL_law_1571 rfl (by decide) ?_
  refine go_iadd (pc' := 1573) dL_law_1572 rfl ?_
  refine go_scr (pc' := 1574) (i + 1) dL_law_1573 rfl (by rw [show (1 : Int32) = nI 1 from rfl, nI_add]) (by omega) hB ?_
  refine go_aload_n (pc' := 1575) dL_law_1574 rfl rfl ?_
  refine go_iload_n (pc' := 1576) dL_law_1575 rfl rfl ?_
  refine go_iconst (pc' := 1577) 2 dL_law_1576 rfl (by decide) ?_
  refine go_iadd (pc' := 1578) dL_law_1577 rfl ?_
  refine go_scr (pc' := 1579) (i + 2) dL_law_1578 rfl (by rw [show (2 : Int32) = nI 2 from rfl, nI_add]) (by omega) hB ?_
  refine go_cVi2 (pc' := 1582) (M' := mX7_taken) (d' := 4) dL_law_1579 rfl cvRL_186 rfl rfl (by decide) rfl (Nat.le_of_ble_eq_true rfl) ?_
  refine hm _ (fun g2 I2 => ?_)
  refine go_icmp_eq (pc' := 1585) (tgt := 1702) dL_law_1582 rfl (by decide) (fun h_1582 => ?_) (fun h_1582 => absurd (rfl) h_1582)
  exact k g2 I2
set_option maxHeartbeats 4000000 in
set_option maxRecDepth 20000 in
theorem law_act {sc : pg_Sc} {Q : pg_Q} {i : Nat} {g : pg_S} (hB : sc.1 < 2 ^ 31) (hi : i + 5 ≤ sc.1) (I : INV g) (k : ∀ g', INV g' → pg_Go sc 40 mL_law 1702 [(0, .ref 906), (1, .ref 0), (2, .ref 59), (3, .int (nI i))] [] g' Q) : pg_Go sc 40 mL_law 1587 [(0, .ref 906), (1, .ref 0), (2, .ref 59), (3, .int (nI i))] [] g Q := by
  refine go_aload_n (pc' := 1588) dL_law_1587 rfl rfl ?_
  refine go_aload_n (pc' := 1589) dL_law_1588 rfl rfl ?_
  refine go_iload_n (pc' := 1590) dL_law_1589 rfl rfl ?_
  refine go_iconst (pc' := 1591) 1 dL_law_1590 rfl (by decide) ?_
  refine go_iadd (pc' := 1592) dL_law_1591 rfl ?_
  refine go_scr (pc' := 1593) (i + 1) dL_law_1592 rfl (by rw [show (1 : Int32) = nI 1 from rfl, nI_add]) (by omega) hB ?_
  refine go_aload_n (pc' := 1594) dL_law_1593 rfl rfl ?_
  refine go_iload_n (pc' := 1595) dL_law_1594 rfl rfl ?_
  refine go_iconst (pc' := 1596) 2 dL_law_1595 rfl (by decide) ?_
  refine go_iadd (pc' := 1597) dL_law_1596 rfl ?_
  refine go_scr (pc' := 1598) (i + 2) dL_law_1597 rfl (by rw [show (2 : Int32) = nI 2 from rfl, nI_add]) (by omega) hB ?_
  refine go_aload_n (pc' := 1599) dL_law_1598 rfl rfl ?_
  refine go_iload_n (pc' := 1600) dL_law_1599 rfl rfl ?_
  refine go_iconst (pc' := 1601) 3 dL_law_1600 rfl (by decide) ?_
  refine go_iadd (pc' := 1602) dL_law_1601 rfl ?_
  refine go_scr (pc' := 1603) (i + 3) dL_law_1602 rfl (by rw [show (3 : Int32) = nI 3 from rfl, nI_add]) (by omega) hB ?_
  refine go_cVi3 (pc' := 1606) (M' := mX6_act) (d' := 32) dL_law_1603 rfl cvRL_187 rfl rfl (by decide) rfl (Nat.le_of_ble_eq_true rfl) ?_
  refine sy_act I (fun r g1 hm => ?_)
  refine go_aload_n (pc' := 1607) dL_law_1606 rfl rfl ?_
  refine go_aload_n (pc' := 1608) dL_law_1607 rfl rfl ?_
  refine go_iload_n (pc' := 1609) dL_law_1608 rfl rfl ?_
  refine go_iconst (pc' := 1610) 1 dL_law_1609 rfl (by decide) ?_
  refine go_iadd (pc' := 1611) dL_law_1610 rfl ?_
  refine go_scr (pc' := 1612) (i + 1) dL_law_1611 rfl (by rw [show (1 : Int32) = nI 1 from rfl, nI_add]) (by omega) hB ?_
  refine go_aload_n (pc' := 1613) dL_law_1612 rfl rfl ?_
  refine go_iload_n (pc' := 1614) dL_law_1613 rfl rfl ?_
  refine go_iconst (pc' := 1615) 2 dL_law_1614 rfl (by decide) ?_
  refine go_iadd (pc' := 1616) dL_law_1615 rfl ?_
  refine go_scr (pc' := 1617) (i + 2) dL_law_1616 rfl (by rw [show (2 : Int32) = nI 2 from rfl, nI_add]) (by omega) hB ?_
  refine go_aload_n (pc' := 1618) dL_law_1617 rfl rfl ?_
  refine go_iload_n (pc' := 1619) dL_law_1618 rfl rfl ?_
  refine go_iconst (pc' := 1620) 3 dL_law_1619 rfl (by decide) ?_
  refine go_iadd (pc' := 1621) dL_law_1620 rfl ?_
  refine go_scr (pc' := 1622) (i + 3) dL_law_1621 rfl (by rw [show (3 : Int32) = nI 3 from rfl, nI_add]) (by omega) hB ?_
  refine go_cVi3 (pc' := 1625) (M' := mX7_act) (d' := 9) dL_law_1622 rfl cvRL_190 rfl rfl (by decide) rfl (Nat.le_of_ble_eq_true rfl) ?_
  refine hm _ (fun g2 I2 => ?_)
  refine go_icmp_eq (pc' := 1628) (tgt := 1702) dL_law_1625 rfl (by decide) (fun h_1625 => ?_) (fun h_1625 => absurd (rfl) h_1625)
  exact k g2 I2
set_option maxHeartbeats 4000000 in
set_option maxRecDepth 20000 in
theorem law_trace {sc : pg_Sc} {Q : pg_Q} {i : Nat} {g : pg_S} (hB : sc.1 < 2 ^ 31) (hi : i + 5 ≤ sc.1) (I : INV g) (k : ∀ g', INV g' → pg_Go sc 40 mL_law 1702 [(0, .ref 906), (1, .ref 0), (2, .ref 59), (3, .int (nI i))] [] g' Q) : pg_Go sc 40 mL_law 1630 [(0, .ref 906), (1, .ref 0), (2, .ref 59), (3, .int (nI i))] [] g Q := by
  refine go_aload_n (pc' := 1631) dL_law_1630 rfl rfl ?_
  refine go_aload_n (pc' := 1632) dL_law_1631 rfl rfl ?_
  refine go_iload_n (pc' := 1633) dL_law_1632 rfl rfl ?_
  refine go_iconst (pc' := 1634) 1 dL_law_1633 rfl (by decide) ?_
  refine go_iadd (pc' := 1635) dL_law_1634 rfl ?_
  refine go_scr (pc' := 1636) (i + 1) dL_law_1635 rfl (by rw [show (1 : Int32) = nI 1 from rfl, nI_add]) (by omega) hB ?_
  refine go_cVi1 (pc' := 1639) (M' := mX6_trace) (d' := 1) dL_law_1636 rfl cvRL_191 rfl rfl (by decide) rfl (Nat.le_of_ble_eq_true rfl) ?_
  refine sy_trace I (fun r g1 hm => ?_)
  refine go_aload_n (pc' := 1640) dL_law_1639 rfl rfl ?_
  refine go_aload_n (pc' := 1641) dL_law_1640 rfl rfl ?_
  refine go_iload_n (pc' := 1642) dL_law_1641 rfl rfl ?_
  refine go_iconst (pc' := 1643) 1 dL_law_1642 rfl (by decide) ?_
  refine go_iadd (pc' := 1644) dL_law_1643 rfl ?_
  refine go_scr (pc' := 1645) (i + 1) dL_law_1644 rfl (by rw [show (1 : Int32) = nI 1 from rfl, nI_add]) (by omega) hB ?_
  refine go_cVi1 (pc' := 1648) (M' := mX7_trace) (d' := 2) dL_law_1645 rfl cvRL_194 rfl rfl (by decide) rfl (Nat.le_of_ble_eq_true rfl) ?_
  refine hm _ (fun g2 I2 => ?_)
  refine go_icmp_eq (pc' := 1651) (tgt := 1702) dL_law_1648 rfl (by decide) (fun h_1648 => ?_) (fun h_1648 => absurd (rfl) h_1648)
  exact k g2 I2
set_option maxHeartbeats 4000000 in
set_option maxRecDepth 20000 in
theorem law_many {sc : pg_Sc} {Q : pg_Q} {i : Nat} {g : pg_S} (hB : sc.1 < 2 ^ 31) (hi : i + 5 ≤ sc.1) (I : INV g) (k : ∀ g', INV g' → pg_Go sc 40 mL_law 1702 [(0, .ref 906), (1, .ref 0), (2, .ref 59), (3, .int (nI i))] [] g' Q) : pg_Go sc 40 mL_law 1653 [(0, .ref 906), (1, .ref 0), (2, .ref 59), (3, .int (nI i))] [] g Q := by
  refine go_aload_n (pc' := 1654) dL_law_1653 rfl rfl ?_
  refine go_aload_n (pc' := 1655) dL_law_1654 rfl rfl ?_
  refine go_iload_n (pc' := 1656) dL_law_1655 rfl rfl ?_
  refine go_iconst (pc' := 1657) 1 dL_law_1656 rfl (by decide) ?_
  refine go_iadd (pc' := 1658) dL_law_1657 rfl ?_
  refine go_scr (pc' := 1659) (i + 1) dL_law_1658 rfl (by rw [show (1 : Int32) = nI 1 from rfl, nI_add]) (by omega) hB ?_
  refine go_cVi1 (pc' := 1662) (M' := mX6_many) (d' := 2) dL_law_1659 rfl cvRL_195 rfl rfl (by decide) rfl (Nat.le_of_ble_eq_true rfl) ?_
  refine sy_many I (fun r g1 hm => ?_)
  refine go_aload_n (pc' := 1663) dL_law_1662 rfl rfl ?_
  refine go_aload_n (pc' := 1664) dL_law_1663 rfl rfl ?_
  refine go_iload_n (pc' := 1665) dL_law_1664 rfl rfl ?_
  refine go_iconst (pc' := 1666) 1 dL_law_1665 rfl (by decide) ?_
  refine go_iadd (pc' := 1667) dL_law_1666 rfl ?_
  refine go_scr (pc' := 1668) (i + 1) dL_law_1667 rfl (by rw [show (1 : Int32) = nI 1 from rfl, nI_add]) (by omega) hB ?_
  refine go_cVi1 (pc' := 1671) (M' := mX7_many) (d' := 4) dL_law_1668 rfl cvRL_198 rfl rfl (by decide) rfl (Nat.le_of_ble_eq_true rfl) ?_
  refine hm _ (fun g2 I2 => ?_)
  refine go_icmp_eq (pc' := 1674) (tgt := 1702) dL_law_1671 rfl (by decide) (fun h_1671 => ?_) (fun h_1671 => absurd (rfl) h_1671)
  exact k g2 I2
set_option maxHeartbeats 4000000 in
set_option maxRecDepth 20000 in
theorem law_keep {sc : pg_Sc} {Q : pg_Q} {i : Nat} {g : pg_S} (hB : sc.1 < 2 ^ 31) (hi : i + 5 ≤ sc.1) (I : INV g) (k : ∀ g', INV g' → pg_Go sc 40 mL_law 1702 [(0, .ref 906), (1, .ref 0), (2, .ref 59), (3, .int (nI i))] [] g' Q) : pg_Go sc 40 mL_law 1676 [(0, .ref 906), (1, .ref 0), (2, .ref 59), (3, .int (nI i))] [] g Q := by
  refine go_aload_n (pc' := 1677) dL_law_1676 rfl rfl ?_
  refine go_cVi0 (pc' := 1680) (M' := mX6_keep) (d' := 2) dL_law_1677 rfl cvRL_199 rfl rfl (by decide) rfl (Nat.le_of_ble_eq_true rfl) ?_
  refine sy_keep I (fun r g1 hm => ?_)
  refine go_aload_n (pc' := 1681) dL_law_1680 rfl rfl ?_
  refine go_cVi0 (pc' := 1684) (M' := mX7_keep) (d' := 2) dL_law_1681 rfl cvRL_202 rfl rfl (by decide) rfl (Nat.le_of_ble_eq_true rfl) ?_
  refine hm _ (fun g2 I2 => ?_)
  refine go_icmp_eq (pc' := 1687) (tgt := 1702) dL_law_1684 rfl (by decide) (fun h_1684 => ?_) (fun h_1684 => absurd (rfl) h_1684)
  exact k g2 I2
set_option maxHeartbeats 4000000 in
set_option maxRecDepth 20000 in
theorem law_again {sc : pg_Sc} {Q : pg_Q} {i : Nat} {g : pg_S} (hB : sc.1 < 2 ^ 31) (hi : i + 5 ≤ sc.1) (I : INV g) (k : ∀ g', INV g' → pg_Go sc 40 mL_law 1702 [(0, .ref 906), (1, .ref 0), (2, .ref 59), (3, .int (nI i))] [] g' Q) : pg_Go sc 40 mL_law 1689 [(0, .ref 906), (1, .ref 0), (2, .ref 59), (3, .int (nI i))] [] g Q := by
  refine go_aload_n (pc' := 1690) dL_law_1689 rfl rfl ?_
  refine go_cVi0 (pc' := 1693) (M' := mX6_again) (d' := 2) dL_law_1690 rfl cvRL_203 rfl rfl (by decide) rfl (Nat.le_of_ble_eq_true rfl) ?_
  refine sy_again I (fun r g1 hm => ?_)
  refine go_aload_n (pc' := 1694) dL_law_1693 rfl rfl ?_
  refine go_cVi0 (pc' := 1697) (M' := mX7_again) (d' := 2) dL_law_1694 rfl cvRL_206 rfl rfl (by decide) rfl (Nat.le_of_ble_eq_true rfl) ?_
  refine hm _ (fun g2 I2 => ?_)
  refine go_icmp_eq (pc' := 1700) (tgt := 1702) dL_law_1697 rfl (by decide) (fun h_1697 => ?_) (fun h_1697 => absurd (rfl) h_1697)
  exact k g2 I2
