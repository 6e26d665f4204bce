set_option maxRecDepth 100000 in
theorem lc_dust {g : Gt} {p : Program} {e : Env} {s : State} {m : MethodId} {below : List Frame} {meth : Method} {c : Code} {b L nc ns i : Nat} {xs : Nat → Int32} {σ : Sg} (C : CL g p s m meth c b L xs) (hi : i + 6 ≤ L) (hn : nc ≤ 600000 ∧ ns ≤ 7302250) (h : Rel σ) (kk : ∀ t, Rel t → JL g p e s m below meth c b nc ns 1574 (LV g b i) [] t) : JL g p e s m below meth c b nc ns 228 (LV g b i) [] σ := by
  obtain ⟨x, P, hd, h1⟩ := st_dust g (xs (i + 1)).toInt (xs (i + 2)).toInt (iI_rng _) (iI_rng _) σ h
  simp only [iI_of] at hd
  refine rl_aload (pc := 228) C dL_law_228 rfl 1 rfl ?_
  refine rl_arg (pc := 229) C 1 (by omega) dL_law_229 dL_law_230 dL_law_231 rfl dL_law_232 dL_law_233 ?_
  refine rl_arg (pc := 234) C 2 (by omega) dL_law_234 dL_law_235 dL_law_236 rfl dL_law_237 dL_law_238 ?_
  refine rl_call (pc := 239) C hd yX4_dust_w O_40 rfl rfl t_241 ⟨by decide, by decide⟩ (Nat.le_of_ble_eq_true rfl) hn rfl dL_law_239 (fun v s1 hp => ?_)
  obtain ⟨rfl, Q, he, h2⟩ := h1 v s1 hp
  simp only [iI_of] at he
  refine rl_aload (pc := 242) C dL_law_242 rfl 2 rfl ?_
  refine rl_arg (pc := 243) C 1 (by omega) dL_law_243 dL_law_244 dL_law_245 rfl dL_law_246 dL_law_247 ?_
  refine rl_arg (pc := 248) C 2 (by omega) dL_law_248 dL_law_249 dL_law_250 rfl dL_law_251 dL_law_252 ?_
  refine rl_call (pc := 253) C he yX5_dust_w O_41 rfl rfl t_838 ⟨by decide, by decide⟩ (Nat.le_of_ble_eq_true rfl) hn rfl dL_law_253 (fun v2 t hq => ?_)
  obtain ⟨rfl, hR⟩ := h2 v2 t hq
  refine rl_eq (pc := 256) C 1574 dL_law_256 (by decide) ?_
  exact kk t hR
set_option maxRecDepth 100000 in
theorem lc_surface {g : Gt} {p : Program} {e : Env} {s : State} {m : MethodId} {below : List Frame} {meth : Method} {c : Code} {b L nc ns i : Nat} {xs : Nat → Int32} {σ : Sg} (C : CL g p s m meth c b L xs) (hi : i + 6 ≤ L) (hn : nc ≤ 600000 ∧ ns ≤ 7302250) (h : Rel σ) (kk : ∀ t, Rel t → JL g p e s m below meth c b nc ns 1574 (LV g b i) [] t) : JL g p e s m below meth c b nc ns 261 (LV g b i) [] σ := by
  obtain ⟨x, P, hd, h1⟩ := st_surface g (xs (i + 1)).toInt (xs (i + 2)).toInt (iI_rng _) (iI_rng _) σ h
  simp only [iI_of] at hd
  refine rl_aload (pc := 261) C dL_law_261 rfl 1 rfl ?_
  refine rl_arg (pc := 262) C 1 (by omega) dL_law_262 dL_law_263 dL_law_264 rfl dL_law_265 dL_law_266 ?_
  refine rl_arg (pc := 267) C 2 (by omega) dL_law_267 dL_law_268 dL_law_269 rfl dL_law_270 dL_law_271 ?_
  refine rl_call (pc := 272) C hd yX4_surface_w O_40 rfl rfl t_256 ⟨by decide, by decide⟩ (Nat.le_of_ble_eq_true rfl) hn rfl dL_law_272 (fun v s1 hp => ?_)
  obtain ⟨rfl, Q, he, h2⟩ := h1 v s1 hp
  simp only [iI_of] at he
  refine rl_aload (pc := 275) C dL_law_275 rfl 2 rfl ?_
  refine rl_arg (pc := 276) C 1 (by omega) dL_law_276 dL_law_277 dL_law_278 rfl dL_law_279 dL_law_280 ?_
  refine rl_arg (pc := 281) C 2 (by omega) dL_law_281 dL_law_282 dL_law_283 rfl dL_law_284 dL_law_285 ?_
  refine rl_call (pc := 286) C he yX5_surface_w O_41 rfl rfl t_859 ⟨by decide, by decide⟩ (Nat.le_of_ble_eq_true rfl) hn rfl dL_law_286 (fun v2 t hq => ?_)
  obtain ⟨rfl, hR⟩ := h2 v2 t hq
  refine rl_eq (pc := 289) C 1574 dL_law_289 (by decide) ?_
  exact kk t hR
set_option maxRecDepth 100000 in
theorem lc_law {g : Gt} {p : Program} {e : Env} {s : State} {m : MethodId} {below : List Frame} {meth : Method} {c : Code} {b L nc ns i : Nat} {xs : Nat → Int32} {σ : Sg} (C : CL g p s m meth c b L xs) (hi : i + 6 ≤ L) (hn : nc ≤ 600000 ∧ ns ≤ 7302250) (h : Rel σ) (kk : ∀ t, Rel t → JL g p e s m below meth c b nc ns 1574 (LV g b i) [] t) : JL g p e s m below meth c b nc ns 294 (LV g b i) [] σ := by
  obtain ⟨x, P, hd, h1⟩ := st_law g (xs (i + 1)).toInt (xs (i + 2)).toInt (iI_rng _) (iI_rng _) σ h
  simp only [iI_of] at hd
  refine rl_aload (pc := 294) C dL_law_294 rfl 1 rfl ?_
  refine rl_arg (pc := 295) C 1 (by omega) dL_law_295 dL_law_296 dL_law_297 rfl dL_law_298 dL_law_299 ?_
  refine rl_arg (pc := 300) C 2 (by omega) dL_law_300 dL_law_301 dL_law_302 rfl dL_law_303 dL_law_304 ?_
  refine rl_call (pc := 305) C hd yX4_law_w O_40 rfl rfl t_273 ⟨by decide, by decide⟩ (Nat.le_of_ble_eq_true rfl) hn rfl dL_law_305 (fun v s1 hp => ?_)
  obtain ⟨rfl, Q, he, h2⟩ := h1 v s1 hp
  simp only [iI_of] at he
  refine rl_aload (pc := 308) C dL_law_308 rfl 2 rfl ?_
  refine rl_arg (pc := 309) C 1 (by omega) dL_law_309 dL_law_310 dL_law_311 rfl dL_law_312 dL_law_313 ?_
  refine rl_arg (pc := 314) C 2 (by omega) dL_law_314 dL_law_315 dL_law_316 rfl dL_law_317 dL_law_318 ?_
  refine rl_call (pc := 319) C he yX5_law_w O_41 rfl rfl t_882 ⟨by decide, by decide⟩ (Nat.le_of_ble_eq_true rfl) hn rfl dL_law_319 (fun v2 t hq => ?_)
  obtain ⟨rfl, hR⟩ := h2 v2 t hq
  refine rl_eq (pc := 322) C 1574 dL_law_322 (by decide) ?_
  exact kk t hR
set_option maxRecDepth 100000 in
theorem lc_tenant {g : Gt} {p : Program} {e : Env} {s : State} {m : MethodId} {below : List Frame} {meth : Method} {c : Code} {b L nc ns i : Nat} {xs : Nat → Int32} {σ : Sg} (C : CL g p s m meth c b L xs) (hi : i + 6 ≤ L) (hn : nc ≤ 600000 ∧ ns ≤ 7302250) (h : Rel σ) (kk : ∀ t, Rel t → JL g p e s m below meth c b nc ns 1574 (LV g b i) [] t) : JL g p e s m below meth c b nc ns 327 (LV g b i) [] σ := by
  obtain ⟨x, P, hd, h1⟩ := st_tenant g (xs (i + 1)).toInt (xs (i + 2)).toInt (iI_rng _) (iI_rng _) σ h
  simp only [iI_of] at hd
  refine rl_aload (pc := 327) C dL_law_327 rfl 1 rfl ?_
  refine rl_arg (pc := 328) C 1 (by omega) dL_law_328 dL_law_329 dL_law_330 rfl dL_law_331 dL_law_332 ?_
  refine rl_arg (pc := 333) C 2 (by omega) dL_law_333 dL_law_334 dL_law_335 rfl dL_law_336 dL_law_337 ?_
  refine rl_call (pc := 338) C hd yX4_tenant_w O_40 rfl rfl t_277 ⟨by decide, by decide⟩ (Nat.le_of_ble_eq_true rfl) hn rfl dL_law_338 (fun v s1 hp => ?_)
  obtain ⟨rfl, Q, he, h2⟩ := h1 v s1 hp
  simp only [iI_of] at he
  refine rl_aload (pc := 341) C dL_law_341 rfl 2 rfl ?_
  refine rl_arg (pc := 342) C 1 (by omega) dL_law_342 dL_law_343 dL_law_344 rfl dL_law_345 dL_law_346 ?_
  refine rl_arg (pc := 347) C 2 (by omega) dL_law_347 dL_law_348 dL_law_349 rfl dL_law_350 dL_law_351 ?_
  refine rl_call (pc := 352) C he yX5_tenant_w O_41 rfl rfl t_888 ⟨by decide, by decide⟩ (Nat.le_of_ble_eq_true rfl) hn rfl dL_law_352 (fun v2 t hq => ?_)
  obtain ⟨rfl, hR⟩ := h2 v2 t hq
  refine rl_eq (pc := 355) C 1574 dL_law_355 (by decide) ?_
  exact kk t hR
set_option maxRecDepth 100000 in
theorem lc_of {g : Gt} {p : Program} {e : Env} {s : State} {m : MethodId} {below : List Frame} {meth : Method} {c : Code} {b L nc ns i : Nat} {xs : Nat → Int32} {σ : Sg} (C : CL g p s m meth c b L xs) (hi : i + 6 ≤ L) (hn : nc ≤ 600000 ∧ ns ≤ 7302250) (h : Rel σ) (kk : ∀ t, Rel t → JL g p e s m below meth c b nc ns 1574 (LV g b i) [] t) : JL g p e s m below meth c b nc ns 360 (LV g b i) [] σ := by
  obtain ⟨x, P, hd, h1⟩ := st_of g (xs (i + 1)).toInt (xs (i + 2)).toInt (iI_rng _) (iI_rng _) σ h
  simp only [iI_of] at hd
  refine rl_aload (pc := 360) C dL_law_360 rfl 1 rfl ?_
  refine rl_arg (pc := 361) C 1 (by omega) dL_law_361 dL_law_362 dL_law_363 rfl dL_law_364 dL_law_365 ?_
  refine rl_arg (pc := 366) C 2 (by omega) dL_law_366 dL_law_367 dL_law_368 rfl dL_law_369 dL_law_370 ?_
  refine rl_call (pc := 371) C hd yX4_of_w O_40 rfl rfl t_288 ⟨by decide, by decide⟩ (Nat.le_of_ble_eq_true rfl) hn rfl dL_law_371 (fun v s1 hp => ?_)
  obtain ⟨rfl, Q, he, h2⟩ := h1 v s1 hp
  simp only [iI_of] at he
  refine rl_aload (pc := 374) C dL_law_374 rfl 2 rfl ?_
  refine rl_arg (pc := 375) C 1 (by omega) dL_law_375 dL_law_376 dL_law_377 rfl dL_law_378 dL_law_379 ?_
  refine rl_arg (pc := 380) C 2 (by omega) dL_law_380 dL_law_381 dL_law_382 rfl dL_law_383 dL_law_384 ?_
  refine rl_call (pc := 385) C he yX5_of_w O_41 rfl rfl t_901 ⟨by decide, by decide⟩ (Nat.le_of_ble_eq_true rfl) hn rfl dL_law_385 (fun v2 t hq => ?_)
  obtain ⟨rfl, hR⟩ := h2 v2 t hq
  refine rl_eq (pc := 388) C 1574 dL_law_388 (by decide) ?_
  exact kk t hR
set_option maxRecDepth 100000 in
theorem lc_change {g : Gt} {p : Program} {e : Env} {s : State} {m : MethodId} {below : List Frame} {meth : Method} {c : Code} {b L nc ns i : Nat} {xs : Nat → Int32} {σ : Sg} (C : CL g p s m meth c b L xs) (hi : i + 6 ≤ L) (hn : nc ≤ 600000 ∧ ns ≤ 7302250) (h : Rel σ) (kk : ∀ t, Rel t → JL g p e s m below meth c b nc ns 1574 (LV g b i) [] t) : JL g p e s m below meth c b nc ns 393 (LV g b i) [] σ := by
  obtain ⟨x, P, hd, h1⟩ := st_change g (xs (i + 1)).toInt (xs (i + 2)).toInt (xs (i + 3)).toInt (iI_rng _) (iI_rng _) (iI_rng _) σ h
  simp only [iI_of] at hd
  refine rl_aload (pc := 393) C dL_law_393 rfl 1 rfl ?_
  refine rl_arg (pc := 394) C 1 (by omega) dL_law_394 dL_law_395 dL_law_396 rfl dL_law_397 dL_law_398 ?_
  refine rl_arg (pc := 399) C 2 (by omega) dL_law_399 dL_law_400 dL_law_401 rfl dL_law_402 dL_law_403 ?_
  refine rl_arg (pc := 404) C 3 (by omega) dL_law_404 dL_law_405 dL_law_406 rfl dL_law_407 dL_law_408 ?_
  refine rl_call (pc := 409) C hd yX4_change_w O_40 rfl rfl t_312 ⟨by decide, by decide⟩ (Nat.le_of_ble_eq_true rfl) hn rfl dL_law_409 (fun v s1 hp => ?_)
  obtain ⟨rfl, Q, he, h2⟩ := h1 v s1 hp
  simp only [iI_of] at he
  refine rl_aload (pc := 412) C dL_law_412 rfl 2 rfl ?_
  refine rl_arg (pc := 413) C 1 (by omega) dL_law_413 dL_law_414 dL_law_415 rfl dL_law_416 dL_law_417 ?_
  refine rl_arg (pc := 418) C 2 (by omega) dL_law_418 dL_law_419 dL_law_420 rfl dL_law_421 dL_law_422 ?_
  refine rl_arg (pc := 423) C 3 (by omega) dL_law_423 dL_law_424 dL_law_425 rfl dL_law_426 dL_law_427 ?_
  refine rl_call (pc := 428) C he yX5_change_w O_41 rfl rfl t_925 ⟨by decide, by decide⟩ (Nat.le_of_ble_eq_true rfl) hn rfl dL_law_428 (fun v2 t hq => ?_)
  obtain ⟨rfl, hR⟩ := h2 v2 t hq
  refine rl_eq (pc := 431) C 1574 dL_law_431 (by decide) ?_
  exact kk t hR
set_option maxRecDepth 100000 in
theorem lc_mark {g : Gt} {p : Program} {e : Env} {s : State} {m : MethodId} {below : List Frame} {meth : Method} {c : Code} {b L nc ns i : Nat} {xs : Nat → Int32} {σ : Sg} (C : CL g p s m meth c b L xs) (hi : i + 6 ≤ L) (hn : nc ≤ 600000 ∧ ns ≤ 7302250) (h : Rel σ) (kk : ∀ t, Rel t → JL g p e s m below meth c b nc ns 1574 (LV g b i) [] t) : JL g p e s m below meth c b nc ns 436 (LV g b i) [] σ := by
  obtain ⟨x, P, hd, h1⟩ := st_mark g (xs (i + 1)).toInt (xs (i + 2)).toInt (iI_rng _) (iI_rng _) σ h
  simp only [iI_of] at hd
  refine rl_aload (pc := 436) C dL_law_436 rfl 1 rfl ?_
  refine rl_arg (pc := 437) C 1 (by omega) dL_law_437 dL_law_438 dL_law_439 rfl dL_law_440 dL_law_441 ?_
  refine rl_arg (pc := 442) C 2 (by omega) dL_law_442 dL_law_443 dL_law_444 rfl dL_law_445 dL_law_446 ?_
  refine rl_call (pc := 447) C hd yX4_mark_w O_40 rfl rfl t_320 ⟨by decide, by decide⟩ (Nat.le_of_ble_eq_true rfl) hn rfl dL_law_447 (fun v s1 hp => ?_)
  obtain ⟨rfl, Q, he, h2⟩ := h1 v s1 hp
  simp only [iI_of] at he
  refine rl_aload (pc := 450) C dL_law_450 rfl 2 rfl ?_
  refine rl_arg (pc := 451) C 1 (by omega) dL_law_451 dL_law_452 dL_law_453 rfl dL_law_454 dL_law_455 ?_
  refine rl_arg (pc := 456) C 2 (by omega) dL_law_456 dL_law_457 dL_law_458 rfl dL_law_459 dL_law_460 ?_
  refine rl_call (pc := 461) C he yX5_mark_w O_41 rfl rfl t_930 ⟨by decide, by decide⟩ (Nat.le_of_ble_eq_true rfl) hn rfl dL_law_461 (fun v2 t hq => ?_)
  obtain ⟨rfl, hR⟩ := h2 v2 t hq
  refine rl_eq (pc := 464) C 1574 dL_law_464 (by decide) ?_
  exact kk t hR
set_option maxRecDepth 100000 in
theorem lc_charter {g : Gt} {p : Program} {e : Env} {s : State} {m : MethodId} {below : List Frame} {meth : Method} {c : Code} {b L nc ns i : Nat} {xs : Nat → Int32} {σ : Sg} (C : CL g p s m meth c b L xs) (hi : i + 6 ≤ L) (hn : nc ≤ 600000 ∧ ns ≤ 7302250) (h : Rel σ) (kk : ∀ t, Rel t → JL g p e s m below meth c b nc ns 1574 (LV g b i) [] t) : JL g p e s m below meth c b nc ns 469 (LV g b i) [] σ := by
  obtain ⟨x, P, hd, h1⟩ := st_charter g (xs (i + 1)).toInt (xs (i + 2)).toInt (xs (i + 3)).toInt (iI_rng _) (iI_rng _) (iI_rng _) σ h
  simp only [iI_of] at hd
  refine rl_aload (pc := 469) C dL_law_469 rfl 1 rfl ?_
  refine rl_arg (pc := 470) C 1 (by omega) dL_law_470 dL_law_471 dL_law_472 rfl dL_law_473 dL_law_474 ?_
  refine rl_arg (pc := 475) C 2 (by omega) dL_law_475 dL_law_476 dL_law_477 rfl dL_law_478 dL_law_479 ?_
  refine rl_arg (pc := 480) C 3 (by omega) dL_law_480 dL_law_481 dL_law_482 rfl dL_law_483 dL_law_484 ?_
  refine rl_call (pc := 485) C hd yX4_charter_w O_40 rfl rfl t_324 ⟨by decide, by decide⟩ (Nat.le_of_ble_eq_true rfl) hn rfl dL_law_485 (fun v s1 hp => ?_)
  obtain ⟨rfl, Q, he, h2⟩ := h1 v s1 hp
  simp only [iI_of] at he
  refine rl_aload (pc := 488) C dL_law_488 rfl 2 rfl ?_
  refine rl_arg (pc := 489) C 1 (by omega) dL_law_489 dL_law_490 dL_law_491 rfl dL_law_492 dL_law_493 ?_
  refine rl_arg (pc := 494) C 2 (by omega) dL_law_494 dL_law_495 dL_law_496 rfl dL_law_497 dL_law_498 ?_
  refine rl_arg (pc := 499) C 3 (by omega) dL_law_499 dL_law_500 dL_law_501 rfl dL_law_502 dL_law_503 ?_
  refine rl_call (pc := 504) C he yX5_charter_w O_41 rfl rfl t_934 ⟨by decide, by decide⟩ (Nat.le_of_ble_eq_true rfl) hn rfl dL_law_504 (fun v2 t hq => ?_)
  obtain ⟨rfl, hR⟩ := h2 v2 t hq
  refine rl_eq (pc := 507) C 1574 dL_law_507 (by decide) ?_
  exact kk t hR
set_option maxRecDepth 100000 in
theorem lc_swap {g : Gt} {p : Program} {e : Env} {s : State} {m : MethodId} {below : List Frame} {meth : Method} {c : Code} {b L nc ns i : Nat} {xs : Nat → Int32} {σ : Sg} (C : CL g p s m meth c b L xs) (hi : i + 6 ≤ L) (hn : nc ≤ 600000 ∧ ns ≤ 7302250) (h : Rel σ) (kk : ∀ t, Rel t → JL g p e s m below meth c b nc ns 1574 (LV g b i) [] t) : JL g p e s m below meth c b nc ns 512 (LV g b i) [] σ := by
  obtain ⟨x, P, hd, h1⟩ := st_swap g (xs (i + 1)).toInt (xs (i + 2)).toInt (iI_rng _) (iI_rng _) σ h
  simp only [iI_of] at hd
  refine rl_aload (pc := 512) C dL_law_512 rfl 1 rfl ?_
  refine rl_arg (pc := 513) C 1 (by omega) dL_law_513 dL_law_514 dL_law_515 rfl dL_law_516 dL_law_517 ?_
  refine rl_arg (pc := 518) C 2 (by omega) dL_law_518 dL_law_519 dL_law_520 rfl dL_law_521 dL_law_522 ?_
  refine rl_call (pc := 523) C hd yX4_swap_w O_40 rfl rfl t_328 ⟨by decide, by decide⟩ (Nat.le_of_ble_eq_true rfl) hn rfl dL_law_523 (fun v s1 hp => ?_)
  obtain ⟨rfl, Q, he, h2⟩ := h1 v s1 hp
  simp only [iI_of] at he
  refine rl_aload (pc := 526) C dL_law_526 rfl 2 rfl ?_
  refine rl_arg (pc := 527) C 1 (by omega) dL_law_527 dL_law_528 dL_law_529 rfl dL_law_530 dL_law_531 ?_
  refine rl_arg (pc := 532) C 2 (by omega) dL_law_532 dL_law_533 dL_law_534 rfl dL_law_535 dL_law_536 ?_
  refine rl_call (pc := 537) C he yX5_swap_w O_41 rfl rfl t_938 ⟨by decide, by decide⟩ (Nat.le_of_ble_eq_true rfl) hn rfl dL_law_537 (fun v2 t hq => ?_)
  obtain ⟨rfl, hR⟩ := h2 v2 t hq
  refine rl_eq (pc := 540) C 1574 dL_law_540 (by decide) ?_
  exact kk t hR
set_option maxRecDepth 100000 in
theorem lc_sneeze {g : Gt} {p : Program} {e : Env} {s : State} {m : MethodId} {below : List Frame} {meth : Method} {c : Code} {b L nc ns i : Nat} {xs : Nat → Int32} {σ : Sg} (C : CL g p s m meth c b L xs) (hi : i + 6 ≤ L) (hn : nc ≤ 600000 ∧ ns ≤ 7302250) (h : Rel σ) (kk : ∀ t, Rel t → JL g p e s m below meth c b nc ns 1574 (LV g b i) [] t) : JL g p e s m below meth c b nc ns 545 (LV g b i) [] σ := by
  obtain ⟨x, P, hd, h1⟩ := st_sneeze g (xs (i + 1)).toInt (xs (i + 2)).toInt (iI_rng _) (iI_rng _) σ h
  simp only [iI_of] at hd
  refine rl_aload (pc := 545) C dL_law_545 rfl 1 rfl ?_
  refine rl_arg (pc := 546) C 1 (by omega) dL_law_546 dL_law_547 dL_law_548 rfl dL_law_549 dL_law_550 ?_
  refine rl_arg (pc := 551) C 2 (by omega) dL_law_551 dL_law_552 dL_law_553 rfl dL_law_554 dL_law_555 ?_
  refine rl_call (pc := 556) C hd yX4_sneeze_w O_40 rfl rfl t_336 ⟨by decide, by decide⟩ (Nat.le_of_ble_eq_true rfl) hn rfl dL_law_556 (fun v s1 hp => ?_)
  obtain ⟨rfl, Q, he, h2⟩ := h1 v s1 hp
  simp only [iI_of] at he
  refine rl_aload (pc := 559) C dL_law_559 rfl 2 rfl ?_
  refine rl_arg (pc := 560) C 1 (by omega) dL_law_560 dL_law_561 dL_law_562 rfl dL_law_563 dL_law_564 ?_
  refine rl_arg (pc := 565) C 2 (by omega) dL_law_565 dL_law_566 dL_law_567 rfl dL_law_568 dL_law_569 ?_
  refine rl_call (pc := 570) C he yX5_sneeze_w O_41 rfl rfl t_946 ⟨by decide, by decide⟩ (Nat.le_of_ble_eq_true rfl) hn rfl dL_law_570 (fun v2 t hq => ?_)
  obtain ⟨rfl, hR⟩ := h2 v2 t hq
  refine rl_eq (pc := 573) C 1574 dL_law_573 (by decide) ?_
  exact kk t hR
set_option maxRecDepth 100000 in
theorem lc_go {g : Gt} {p : Program} {e : Env} {s : State} {m : MethodId} {below : List Frame} {meth : Method} {c : Code} {b L nc ns i : Nat} {xs : Nat → Int32} {σ : Sg} (C : CL g p s m meth c b L xs) (hi : i + 6 ≤ L) (hn : nc ≤ 600000 ∧ ns ≤ 7302250) (h : Rel σ) (kk : ∀ t, Rel t → JL g p e s m below meth c b nc ns 1574 (LV g b i) [] t) : JL g p e s m below meth c b nc ns 578 (LV g b i) [] σ := by
  obtain ⟨x, P, hd, h1⟩ := st_go g (xs (i + 1)).toInt (iI_rng _) σ h
  simp only [iI_of] at hd
  refine rl_aload (pc := 578) C dL_law_578 rfl 1 rfl ?_
  refine rl_arg (pc := 579) C 1 (by omega) dL_law_579 dL_law_580 dL_law_581 rfl dL_law_582 dL_law_583 ?_
  refine rl_call (pc := 584) C hd yX4_go_w O_40 rfl rfl t_350 ⟨by decide, by decide⟩ (Nat.le_of_ble_eq_true rfl) hn rfl dL_law_584 (fun v s1 hp => ?_)
  obtain ⟨rfl, Q, he, h2⟩ := h1 v s1 hp
  simp only [iI_of] at he
  refine rl_aload (pc := 587) C dL_law_587 rfl 2 rfl ?_
  refine rl_arg (pc := 588) C 1 (by omega) dL_law_588 dL_law_589 dL_law_590 rfl dL_law_591 dL_law_592 ?_
  refine rl_call (pc := 593) C he yX5_go_w O_41 rfl rfl t_961 ⟨by decide, by decide⟩ (Nat.le_of_ble_eq_true rfl) hn rfl dL_law_593 (fun v2 t hq => ?_)
  obtain ⟨rfl, hR⟩ := h2 v2 t hq
  refine rl_eq (pc := 596) C 1574 dL_law_596 (by decide) ?_
  exact kk t hR
set_option maxRecDepth 100000 in
theorem lc_now {g : Gt} {p : Program} {e : Env} {s : State} {m : MethodId} {below : List Frame} {meth : Method} {c : Code} {b L nc ns i : Nat} {xs : Nat → Int32} {σ : Sg} (C : CL g p s m meth c b L xs) (hi : i + 6 ≤ L) (hn : nc ≤ 600000 ∧ ns ≤ 7302250) (h : Rel σ) (kk : ∀ t, Rel t → JL g p e s m below meth c b nc ns 1574 (LV g b i) [] t) : JL g p e s m below meth c b nc ns 601 (LV g b i) [] σ := by
  obtain ⟨x, P, hd, h1⟩ := st_now g (xs (i + 1)).toInt (iI_rng _) σ h
  simp only [iI_of] at hd
  refine rl_aload (pc := 601) C dL_law_601 rfl 1 rfl ?_
  refine rl_arg (pc := 602) C 1 (by omega) dL_law_602 dL_law_603 dL_law_604 rfl dL_law_605 dL_law_606 ?_
  refine rl_call (pc := 607) C hd yX4_now_w O_40 rfl rfl t_396 ⟨by decide, by decide⟩ (Nat.le_of_ble_eq_true rfl) hn rfl dL_law_607 (fun v s1 hp => ?_)
  obtain ⟨rfl, Q, he, h2⟩ := h1 v s1 hp
  simp only [iI_of] at he
  refine rl_aload (pc := 610) C dL_law_610 rfl 2 rfl ?_
  refine rl_arg (pc := 611) C 1 (by omega) dL_law_611 dL_law_612 dL_law_613 rfl dL_law_614 dL_law_615 ?_
  refine rl_call (pc := 616) C he yX5_now_w O_41 rfl rfl t_996 ⟨by decide, by decide⟩ (Nat.le_of_ble_eq_true rfl) hn rfl dL_law_616 (fun v2 t hq => ?_)
  obtain ⟨rfl, hR⟩ := h2 v2 t hq
  refine rl_eq (pc := 619) C 1574 dL_law_619 (by decide) ?_
  exact kk t hR
set_option maxRecDepth 100000 in
theorem lc_ahead {g : Gt} {p : Program} {e : Env} {s : State} {m : MethodId} {below : List Frame} {meth : Method} {c : Code} {b L nc ns i : Nat} {xs : Nat → Int32} {σ : Sg} (C : CL g p s m meth c b L xs) (hi : i + 6 ≤ L) (hn : nc ≤ 600000 ∧ ns ≤ 7302250) (h : Rel σ) (kk : ∀ t, Rel t → JL g p e s m below meth c b nc ns 1574 (LV g b i) [] t) : JL g p e s m below meth c b nc ns 624 (LV g b i) [] σ := by
  obtain ⟨x, P, hd, h1⟩ := st_ahead g (xs (i + 1)).toInt (xs (i + 2)).toInt (iI_rng _) (iI_rng _) σ h
  simp only [iI_of] at hd
  refine rl_aload (pc := 624) C dL_law_624 rfl 1 rfl ?_
  refine rl_arg (pc := 625) C 1 (by omega) dL_law_625 dL_law_626 dL_law_627 rfl dL_law_628 dL_law_629 ?_
  refine rl_arg (pc := 630) C 2 (by omega) dL_law_630 dL_law_631 dL_law_632 rfl dL_law_633 dL_law_634 ?_
  refine rl_call (pc := 635) C hd yX4_ahead_w O_40 rfl rfl t_417 ⟨by decide, by decide⟩ (Nat.le_of_ble_eq_true rfl) hn rfl dL_law_635 (fun v s1 hp => ?_)
  obtain ⟨rfl, Q, he, h2⟩ := h1 v s1 hp
  simp only [iI_of] at he
  refine rl_aload (pc := 638) C dL_law_638 rfl 2 rfl ?_
  refine rl_arg (pc := 639) C 1 (by omega) dL_law_639 dL_law_640 dL_law_641 rfl dL_law_642 dL_law_643 ?_
  refine rl_arg (pc := 644) C 2 (by omega) dL_law_644 dL_law_645 dL_law_646 rfl dL_law_647 dL_law_648 ?_
  refine rl_call (pc := 649) C he yX5_ahead_w O_41 rfl rfl t_1016 ⟨by decide, by decide⟩ (Nat.le_of_ble_eq_true rfl) hn rfl dL_law_649 (fun v2 t hq => ?_)
  obtain ⟨rfl, hR⟩ := h2 v2 t hq
  refine rl_eq (pc := 652) C 1574 dL_law_652 (by decide) ?_
  exact kk t hR
set_option maxRecDepth 100000 in
theorem lc_goods {g : Gt} {p : Program} {e : Env} {s : State} {m : MethodId} {below : List Frame} {meth : Method} {c : Code} {b L nc ns i : Nat} {xs : Nat → Int32} {σ : Sg} (C : CL g p s m meth c b L xs) (hi : i + 6 ≤ L) (hn : nc ≤ 600000 ∧ ns ≤ 7302250) (h : Rel σ) (kk : ∀ t, Rel t → JL g p e s m below meth c b nc ns 1574 (LV g b i) [] t) : JL g p e s m below meth c b nc ns 657 (LV g b i) [] σ := by
  obtain ⟨x, P, hd, h1⟩ := st_goods g (xs (i + 1)).toInt (xs (i + 2)).toInt (iI_rng _) (iI_rng _) σ h
  simp only [iI_of] at hd
  refine rl_aload (pc := 657) C dL_law_657 rfl 1 rfl ?_
  refine rl_arg (pc := 658) C 1 (by omega) dL_law_658 dL_law_659 dL_law_660 rfl dL_law_661 dL_law_662 ?_
  refine rl_arg (pc := 663) C 2 (by omega) dL_law_663 dL_law_664 dL_law_665 rfl dL_law_666 dL_law_667 ?_
  refine rl_call (pc := 668) C hd yX4_goods_w O_40 rfl rfl t_432 ⟨by decide, by decide⟩ (Nat.le_of_ble_eq_true rfl) hn rfl dL_law_668 (fun v s1 hp => ?_)
  obtain ⟨rfl, Q, he, h2⟩ := h1 v s1 hp
  simp only [iI_of] at he
  refine rl_aload (pc := 671) C dL_law_671 rfl 2 rfl ?_
  refine rl_arg (pc := 672) C 1 (by omega) dL_law_672 dL_law_673 dL_law_674 rfl dL_law_675 dL_law_676 ?_
  refine rl_arg (pc := 677) C 2 (by omega) dL_law_677 dL_law_678 dL_law_679 rfl dL_law_680 dL_law_681 ?_
  refine rl_call (pc := 682) C he yX5_goods_w O_41 rfl rfl t_1032 ⟨by decide, by decide⟩ (Nat.le_of_ble_eq_true rfl) hn rfl dL_law_682 (fun v2 t hq => ?_)
  obtain ⟨rfl, hR⟩ := h2 v2 t hq
  refine rl_eq (pc := 685) C 1574 dL_law_685 (by decide) ?_
  exact kk t hR
set_option maxRecDepth 100000 in
theorem lc_holder {g : Gt} {p : Program} {e : Env} {s : State} {m : MethodId} {below : List Frame} {meth : Method} {c : Code} {b L nc ns i : Nat} {xs : Nat → Int32} {σ : Sg} (C : CL g p s m meth c b L xs) (hi : i + 6 ≤ L) (hn : nc ≤ 600000 ∧ ns ≤ 7302250) (h : Rel σ) (kk : ∀ t, Rel t → JL g p e s m below meth c b nc ns 1574 (LV g b i) [] t) : JL g p e s m below meth c b nc ns 690 (LV g b i) [] σ := by
  obtain ⟨x, P, hd, h1⟩ := st_holder g (xs (i + 1)).toInt (xs (i + 2)).toInt (iI_rng _) (iI_rng _) σ h
  simp only [iI_of] at hd
  refine rl_aload (pc := 690) C dL_law_690 rfl 1 rfl ?_
  refine rl_arg (pc := 691) C 1 (by omega) dL_law_691 dL_law_692 dL_law_693 rfl dL_law_694 dL_law_695 ?_
  refine rl_arg (pc := 696) C 2 (by omega) dL_law_696 dL_law_697 dL_law_698 rfl dL_law_699 dL_law_700 ?_
  refine rl_call (pc := 701) C hd yX4_holder_w O_40 rfl rfl t_436 ⟨by decide, by decide⟩ (Nat.le_of_ble_eq_true rfl) hn rfl dL_law_701 (fun v s1 hp => ?_)
  obtain ⟨rfl, Q, he, h2⟩ := h1 v s1 hp
  simp only [iI_of] at he
  refine rl_aload (pc := 704) C dL_law_704 rfl 2 rfl ?_
  refine rl_arg (pc := 705) C 1 (by omega) dL_law_705 dL_law_706 dL_law_707 rfl dL_law_708 dL_law_709 ?_
  refine rl_arg (pc := 710) C 2 (by omega) dL_law_710 dL_law_711 dL_law_712 rfl dL_law_713 dL_law_714 ?_
  refine rl_call (pc := 715) C he yX5_holder_w O_41 rfl rfl t_1040 ⟨by decide, by decide⟩ (Nat.le_of_ble_eq_true rfl) hn rfl dL_law_715 (fun v2 t hq => ?_)
  obtain ⟨rfl, hR⟩ := h2 v2 t hq
  refine rl_eq (pc := 718) C 1574 dL_law_718 (by decide) ?_
  exact kk t hR
set_option maxRecDepth 100000 in
theorem lc_when {g : Gt} {p : Program} {e : Env} {s : State} {m : MethodId} {below : List Frame} {meth : Method} {c : Code} {b L nc ns i : Nat} {xs : Nat → Int32} {σ : Sg} (C : CL g p s m meth c b L xs) (hi : i + 6 ≤ L) (hn : nc ≤ 600000 ∧ ns ≤ 7302250) (h : Rel σ) (kk : ∀ t, Rel t → JL g p e s m below meth c b nc ns 1574 (LV g b i) [] t) : JL g p e s m below meth c b nc ns 723 (LV g b i) [] σ := by
  obtain ⟨x, P, hd, h1⟩ := st_when g (xs (i + 1)).toInt (xs (i + 2)).toInt (iI_rng _) (iI_rng _) σ h
  simp only [iI_of] at hd
  refine rl_aload (pc := 723) C dL_law_723 rfl 1 rfl ?_
  refine rl_arg (pc := 724) C 1 (by omega) dL_law_724 dL_law_725 dL_law_726 rfl dL_law_727 dL_law_728 ?_
  refine rl_arg (pc := 729) C 2 (by omega) dL_law_729 dL_law_730 dL_law_731 rfl dL_law_732 dL_law_733 ?_
  refine rl_call (pc := 734) C hd yX4_when_w O_40 rfl rfl t_440 ⟨by decide, by decide⟩ (Nat.le_of_ble_eq_true rfl) hn rfl dL_law_734 (fun v s1 hp => ?_)
  obtain ⟨rfl, Q, he, h2⟩ := h1 v s1 hp
  simp only [iI_of] at he
  refine rl_aload (pc := 737) C dL_law_737 rfl 2 rfl ?_
  refine rl_arg (pc := 738) C 1 (by omega) dL_law_738 dL_law_739 dL_law_740 rfl dL_law_741 dL_law_742 ?_
  refine rl_arg (pc := 743) C 2 (by omega) dL_law_743 dL_law_744 dL_law_745 rfl dL_law_746 dL_law_747 ?_
  refine rl_call (pc := 748) C he yX5_when_w O_41 rfl rfl t_1044 ⟨by decide, by decide⟩ (Nat.le_of_ble_eq_true rfl) hn rfl dL_law_748 (fun v2 t hq => ?_)
  obtain ⟨rfl, hR⟩ := h2 v2 t hq
  refine rl_eq (pc := 751) C 1574 dL_law_751 (by decide) ?_
  exact kk t hR
set_option maxRecDepth 100000 in
theorem lc_clash {g : Gt} {p : Program} {e : Env} {s : State} {m : MethodId} {below : List Frame} {meth : Method} {c : Code} {b L nc ns i : Nat} {xs : Nat → Int32} {σ : Sg} (C : CL g p s m meth c b L xs) (hi : i + 6 ≤ L) (hn : nc ≤ 600000 ∧ ns ≤ 7302250) (h : Rel σ) (kk : ∀ t, Rel t → JL g p e s m below meth c b nc ns 1574 (LV g b i) [] t) : JL g p e s m below meth c b nc ns 756 (LV g b i) [] σ := by
  obtain ⟨x, P, hd, h1⟩ := st_clash g σ h
  refine rl_aload (pc := 756) C dL_law_756 rfl 1 rfl ?_
  refine rl_call (pc := 757) C hd yX4_clash_w O_40 rfl rfl t_445 ⟨by decide, by decide⟩ (Nat.le_of_ble_eq_true rfl) hn rfl dL_law_757 (fun v s1 hp => ?_)
  obtain ⟨rfl, Q, he, h2⟩ := h1 v s1 hp
  refine rl_aload (pc := 760) C dL_law_760 rfl 2 rfl ?_
  refine rl_call (pc := 761) C he yX5_clash_w O_41 rfl rfl t_1053 ⟨by decide, by decide⟩ (Nat.le_of_ble_eq_true rfl) hn rfl dL_law_761 (fun v2 t hq => ?_)
  obtain ⟨rfl, hR⟩ := h2 v2 t hq
  refine rl_eq (pc := 764) C 1574 dL_law_764 (by decide) ?_
  exact kk t hR
set_option maxRecDepth 100000 in
theorem lc_rich {g : Gt} {p : Program} {e : Env} {s : State} {m : MethodId} {below : List Frame} {meth : Method} {c : Code} {b L nc ns i : Nat} {xs : Nat → Int32} {σ : Sg} (C : CL g p s m meth c b L xs) (hi : i + 6 ≤ L) (hn : nc ≤ 600000 ∧ ns ≤ 7302250) (h : Rel σ) (kk : ∀ t, Rel t → JL g p e s m below meth c b nc ns 1574 (LV g b i) [] t) : JL g p e s m below meth c b nc ns 769 (LV g b i) [] σ := by
  obtain ⟨x, P, hd, h1⟩ := st_rich g (xs (i + 1)).toInt (xs (i + 2)).toInt (iI_rng _) (iI_rng _) σ h
  simp only [iI_of] at hd
  refine rl_aload (pc := 769) C dL_law_769 rfl 1 rfl ?_
  refine rl_arg (pc := 770) C 1 (by omega) dL_law_770 dL_law_771 dL_law_772 rfl dL_law_773 dL_law_774 ?_
  refine rl_arg (pc := 775) C 2 (by omega) dL_law_775 dL_law_776 dL_law_777 rfl dL_law_778 dL_law_779 ?_
  refine rl_call (pc := 780) C hd yX4_rich_w O_40 rfl rfl t_453 ⟨by decide, by decide⟩ (Nat.le_of_ble_eq_true rfl) hn rfl dL_law_780 (fun v s1 hp => ?_)
  obtain ⟨rfl, Q, he, h2⟩ := h1 v s1 hp
  simp only [iI_of] at he
  refine rl_aload (pc := 783) C dL_law_783 rfl 2 rfl ?_
  refine rl_arg (pc := 784) C 1 (by omega) dL_law_784 dL_law_785 dL_law_786 rfl dL_law_787 dL_law_788 ?_
  refine rl_arg (pc := 789) C 2 (by omega) dL_law_789 dL_law_790 dL_law_791 rfl dL_law_792 dL_law_793 ?_
  refine rl_call (pc := 794) C he yX5_rich_w O_41 rfl rfl t_1061 ⟨by decide, by decide⟩ (Nat.le_of_ble_eq_true rfl) hn rfl dL_law_794 (fun v2 t hq => ?_)
  obtain ⟨rfl, hR⟩ := h2 v2 t hq
  refine rl_eq (pc := 797) C 1574 dL_law_797 (by decide) ?_
  exact kk t hR
set_option maxRecDepth 100000 in
theorem lc_seat {g : Gt} {p : Program} {e : Env} {s : State} {m : MethodId} {below : List Frame} {meth : Method} {c : Code} {b L nc ns i : Nat} {xs : Nat → Int32} {σ : Sg} (C : CL g p s m meth c b L xs) (hi : i + 6 ≤ L) (hn : nc ≤ 600000 ∧ ns ≤ 7302250) (h : Rel σ) (kk : ∀ t, Rel t → JL g p e s m below meth c b nc ns 1574 (LV g b i) [] t) : JL g p e s m below meth c b nc ns 802 (LV g b i) [] σ := by
  obtain ⟨x, P, hd, h1⟩ := st_seat g (xs (i + 1)).toInt (xs (i + 2)).toInt (iI_rng _) (iI_rng _) σ h
  simp only [iI_of] at hd
  refine rl_aload (pc := 802) C dL_law_802 rfl 1 rfl ?_
  refine rl_arg (pc := 803) C 1 (by omega) dL_law_803 dL_law_804 dL_law_805 rfl dL_law_806 dL_law_807 ?_
  refine rl_arg (pc := 808) C 2 (by omega) dL_law_808 dL_law_809 dL_law_810 rfl dL_law_811 dL_law_812 ?_
  refine rl_call (pc := 813) C hd yX4_seat_w O_40 rfl rfl t_457 ⟨by decide, by decide⟩ (Nat.le_of_ble_eq_true rfl) hn rfl dL_law_813 (fun v s1 hp => ?_)
  obtain ⟨rfl, Q, he, h2⟩ := h1 v s1 hp
  simp only [iI_of] at he
  refine rl_aload (pc := 816) C dL_law_816 rfl 2 rfl ?_
  refine rl_arg (pc := 817) C 1 (by omega) dL_law_817 dL_law_818 dL_law_819 rfl dL_law_820 dL_law_821 ?_
  refine rl_arg (pc := 822) C 2 (by omega) dL_law_822 dL_law_823 dL_law_824 rfl dL_law_825 dL_law_826 ?_
  refine rl_call (pc := 827) C he yX5_seat_w O_41 rfl rfl t_1065 ⟨by decide, by decide⟩ (Nat.le_of_ble_eq_true rfl) hn rfl dL_law_827 (fun v2 t hq => ?_)
  obtain ⟨rfl, hR⟩ := h2 v2 t hq
  refine rl_eq (pc := 830) C 1574 dL_law_830 (by decide) ?_
  exact kk t hR
set_option maxRecDepth 100000 in
theorem lc_kindFor {g : Gt} {p : Program} {e : Env} {s : State} {m : MethodId} {below : List Frame} {meth : Method} {c : Code} {b L nc ns i : Nat} {xs : Nat → Int32} {σ : Sg} (C : CL g p s m meth c b L xs) (hi : i + 6 ≤ L) (hn : nc ≤ 600000 ∧ ns ≤ 7302250) (h : Rel σ) (kk : ∀ t, Rel t → JL g p e s m below meth c b nc ns 1574 (LV g b i) [] t) : JL g p e s m below meth c b nc ns 835 (LV g b i) [] σ := by
  obtain ⟨x, P, hd, h1⟩ := st_kindFor g (xs (i + 1)).toInt (xs (i + 2)).toInt (iI_rng _) (iI_rng _) σ h
  simp only [iI_of] at hd
  refine rl_aload (pc := 835) C dL_law_835 rfl 1 rfl ?_
  refine rl_arg (pc := 836) C 1 (by omega) dL_law_836 dL_law_837 dL_law_838 rfl dL_law_839 dL_law_840 ?_
  refine rl_arg (pc := 841) C 2 (by omega) dL_law_841 dL_law_842 dL_law_843 rfl dL_law_844 dL_law_845 ?_
  refine rl_call (pc := 846) C hd yX4_kindFor_w O_40 rfl rfl t_469 ⟨by decide, by decide⟩ (Nat.le_of_ble_eq_true rfl) hn rfl dL_law_846 (fun v s1 hp => ?_)
  obtain ⟨rfl, Q, he, h2⟩ := h1 v s1 hp
  simp only [iI_of] at he
  refine rl_aload (pc := 849) C dL_law_849 rfl 2 rfl ?_
  refine rl_arg (pc := 850) C 1 (by omega) dL_law_850 dL_law_851 dL_law_852 rfl dL_law_853 dL_law_854 ?_
  refine rl_arg (pc := 855) C 2 (by omega) dL_law_855 dL_law_856 dL_law_857 rfl dL_law_858 dL_law_859 ?_
  refine rl_call (pc := 860) C he yX5_kindFor_w O_41 rfl rfl t_1076 ⟨by decide, by decide⟩ (Nat.le_of_ble_eq_true rfl) hn rfl dL_law_860 (fun v2 t hq => ?_)
  obtain ⟨rfl, hR⟩ := h2 v2 t hq
  refine rl_eq (pc := 863) C 1574 dL_law_863 (by decide) ?_
  exact kk t hR
set_option maxRecDepth 100000 in
theorem lc_draught {g : Gt} {p : Program} {e : Env} {s : State} {m : MethodId} {below : List Frame} {meth : Method} {c : Code} {b L nc ns i : Nat} {xs : Nat → Int32} {σ : Sg} (C : CL g p s m meth c b L xs) (hi : i + 6 ≤ L) (hn : nc ≤ 600000 ∧ ns ≤ 7302250) (h : Rel σ) (kk : ∀ t, Rel t → JL g p e s m below meth c b nc ns 1574 (LV g b i) [] t) : JL g p e s m below meth c b nc ns 868 (LV g b i) [] σ := by
  obtain ⟨x, P, hd, h1⟩ := st_draught g (xs (i + 1)).toInt (xs (i + 2)).toInt (iI_rng _) (iI_rng _) σ h
  simp only [iI_of] at hd
  refine rl_aload (pc := 868) C dL_law_868 rfl 1 rfl ?_
  refine rl_arg (pc := 869) C 1 (by omega) dL_law_869 dL_law_870 dL_law_871 rfl dL_law_872 dL_law_873 ?_
  refine rl_arg (pc := 874) C 2 (by omega) dL_law_874 dL_law_875 dL_law_876 rfl dL_law_877 dL_law_878 ?_
  refine rl_call (pc := 879) C hd yX4_draught_w O_40 rfl rfl t_473 ⟨by decide, by decide⟩ (Nat.le_of_ble_eq_true rfl) hn rfl dL_law_879 (fun v s1 hp => ?_)
  obtain ⟨rfl, Q, he, h2⟩ := h1 v s1 hp
  simp only [iI_of] at he
  refine rl_aload (pc := 882) C dL_law_882 rfl 2 rfl ?_
  refine rl_arg (pc := 883) C 1 (by omega) dL_law_883 dL_law_884 dL_law_885 rfl dL_law_886 dL_law_887 ?_
  refine rl_arg (pc := 888) C 2 (by omega) dL_law_888 dL_law_889 dL_law_890 rfl dL_law_891 dL_law_892 ?_
  refine rl_call (pc := 893) C he yX5_draught_w O_41 rfl rfl t_1080 ⟨by decide, by decide⟩ (Nat.le_of_ble_eq_true rfl) hn rfl dL_law_893 (fun v2 t hq => ?_)
  obtain ⟨rfl, hR⟩ := h2 v2 t hq
  refine rl_eq (pc := 896) C 1574 dL_law_896 (by decide) ?_
  exact kk t hR
set_option maxRecDepth 100000 in
theorem lc_fallFor {g : Gt} {p : Program} {e : Env} {s : State} {m : MethodId} {below : List Frame} {meth : Method} {c : Code} {b L nc ns i : Nat} {xs : Nat → Int32} {σ : Sg} (C : CL g p s m meth c b L xs) (hi : i + 6 ≤ L) (hn : nc ≤ 600000 ∧ ns ≤ 7302250) (h : Rel σ) (kk : ∀ t, Rel t → JL g p e s m below meth c b nc ns 1574 (LV g b i) [] t) : JL g p e s m below meth c b nc ns 901 (LV g b i) [] σ := by
  obtain ⟨x, P, hd, h1⟩ := st_fallFor g (xs (i + 1)).toInt (xs (i + 2)).toInt (iI_rng _) (iI_rng _) σ h
  simp only [iI_of] at hd
  refine rl_aload (pc := 901) C dL_law_901 rfl 1 rfl ?_
  refine rl_arg (pc := 902) C 1 (by omega) dL_law_902 dL_law_903 dL_law_904 rfl dL_law_905 dL_law_906 ?_
  refine rl_arg (pc := 907) C 2 (by omega) dL_law_907 dL_law_908 dL_law_909 rfl dL_law_910 dL_law_911 ?_
  refine rl_call (pc := 912) C hd yX4_fallFor_w O_40 rfl rfl t_477 ⟨by decide, by decide⟩ (Nat.le_of_ble_eq_true rfl) hn rfl dL_law_912 (fun v s1 hp => ?_)
  obtain ⟨rfl, Q, he, h2⟩ := h1 v s1 hp
  simp only [iI_of] at he
  refine rl_aload (pc := 915) C dL_law_915 rfl 2 rfl ?_
  refine rl_arg (pc := 916) C 1 (by omega) dL_law_916 dL_law_917 dL_law_918 rfl dL_law_919 dL_law_920 ?_
  refine rl_arg (pc := 921) C 2 (by omega) dL_law_921 dL_law_922 dL_law_923 rfl dL_law_924 dL_law_925 ?_
  refine rl_call (pc := 926) C he yX5_fallFor_w O_41 rfl rfl t_1084 ⟨by decide, by decide⟩ (Nat.le_of_ble_eq_true rfl) hn rfl dL_law_926 (fun v2 t hq => ?_)
  obtain ⟨rfl, hR⟩ := h2 v2 t hq
  refine rl_eq (pc := 929) C 1574 dL_law_929 (by decide) ?_
  exact kk t hR
set_option maxRecDepth 100000 in
theorem lc_swapFor {g : Gt} {p : Program} {e : Env} {s : State} {m : MethodId} {below : List Frame} {meth : Method} {c : Code} {b L nc ns i : Nat} {xs : Nat → Int32} {σ : Sg} (C : CL g p s m meth c b L xs) (hi : i + 6 ≤ L) (hn : nc ≤ 600000 ∧ ns ≤ 7302250) (h : Rel σ) (kk : ∀ t, Rel t → JL g p e s m below meth c b nc ns 1574 (LV g b i) [] t) : JL g p e s m below meth c b nc ns 934 (LV g b i) [] σ := by
  obtain ⟨x, P, hd, h1⟩ := st_swapFor g (xs (i + 1)).toInt (xs (i + 2)).toInt (iI_rng _) (iI_rng _) σ h
  simp only [iI_of] at hd
  refine rl_aload (pc := 934) C dL_law_934 rfl 1 rfl ?_
  refine rl_arg (pc := 935) C 1 (by omega) dL_law_935 dL_law_936 dL_law_937 rfl dL_law_938 dL_law_939 ?_
  refine rl_arg (pc := 940) C 2 (by omega) dL_law_940 dL_law_941 dL_law_942 rfl dL_law_943 dL_law_944 ?_
  refine rl_call (pc := 945) C hd yX4_swapFor_w O_40 rfl rfl t_485 ⟨by decide, by decide⟩ (Nat.le_of_ble_eq_true rfl) hn rfl dL_law_945 (fun v s1 hp => ?_)
  obtain ⟨rfl, Q, he, h2⟩ := h1 v s1 hp
  simp only [iI_of] at he
  refine rl_aload (pc := 948) C dL_law_948 rfl 2 rfl ?_
  refine rl_arg (pc := 949) C 1 (by omega) dL_law_949 dL_law_950 dL_law_951 rfl dL_law_952 dL_law_953 ?_
  refine rl_arg (pc := 954) C 2 (by omega) dL_law_954 dL_law_955 dL_law_956 rfl dL_law_957 dL_law_958 ?_
  refine rl_call (pc := 959) C he yX5_swapFor_w O_41 rfl rfl t_1092 ⟨by decide, by decide⟩ (Nat.le_of_ble_eq_true rfl) hn rfl dL_law_959 (fun v2 t hq => ?_)
  obtain ⟨rfl, hR⟩ := h2 v2 t hq
  refine rl_eq (pc := 962) C 1574 dL_law_962 (by decide) ?_
  exact kk t hR
set_option maxRecDepth 100000 in
theorem lc_brooms {g : Gt} {p : Program} {e : Env} {s : State} {m : MethodId} {below : List Frame} {meth : Method} {c : Code} {b L nc ns i : Nat} {xs : Nat → Int32} {σ : Sg} (C : CL g p s m meth c b L xs) (hi : i + 6 ≤ L) (hn : nc ≤ 600000 ∧ ns ≤ 7302250) (h : Rel σ) (kk : ∀ t, Rel t → JL g p e s m below meth c b nc ns 1574 (LV g b i) [] t) : JL g p e s m below meth c b nc ns 967 (LV g b i) [] σ := by
  obtain ⟨x, P, hd, h1⟩ := st_brooms g (xs (i + 1)).toInt (xs (i + 2)).toInt (iI_rng _) (iI_rng _) σ h
  simp only [iI_of] at hd
  refine rl_aload (pc := 967) C dL_law_967 rfl 1 rfl ?_
  refine rl_arg (pc := 968) C 1 (by omega) dL_law_968 dL_law_969 dL_law_970 rfl dL_law_971 dL_law_972 ?_
  refine rl_arg (pc := 973) C 2 (by omega) dL_law_973 dL_law_974 dL_law_975 rfl dL_law_976 dL_law_977 ?_
  refine rl_call (pc := 978) C hd yX4_brooms_w O_40 rfl rfl t_489 ⟨by decide, by decide⟩ (Nat.le_of_ble_eq_true rfl) hn rfl dL_law_978 (fun v s1 hp => ?_)
  obtain ⟨rfl, Q, he, h2⟩ := h1 v s1 hp
  simp only [iI_of] at he
  refine rl_aload (pc := 981) C dL_law_981 rfl 2 rfl ?_
  refine rl_arg (pc := 982) C 1 (by omega) dL_law_982 dL_law_983 dL_law_984 rfl dL_law_985 dL_law_986 ?_
  refine rl_arg (pc := 987) C 2 (by omega) dL_law_987 dL_law_988 dL_law_989 rfl dL_law_990 dL_law_991 ?_
  refine rl_call (pc := 992) C he yX5_brooms_w O_41 rfl rfl t_1096 ⟨by decide, by decide⟩ (Nat.le_of_ble_eq_true rfl) hn rfl dL_law_992 (fun v2 t hq => ?_)
  obtain ⟨rfl, hR⟩ := h2 v2 t hq
  refine rl_eq (pc := 995) C 1574 dL_law_995 (by decide) ?_
  exact kk t hR
set_option maxRecDepth 100000 in
theorem lc_without {g : Gt} {p : Program} {e : Env} {s : State} {m : MethodId} {below : List Frame} {meth : Method} {c : Code} {b L nc ns i : Nat} {xs : Nat → Int32} {σ : Sg} (C : CL g p s m meth c b L xs) (hi : i + 6 ≤ L) (hn : nc ≤ 600000 ∧ ns ≤ 7302250) (h : Rel σ) (kk : ∀ t, Rel t → JL g p e s m below meth c b nc ns 1574 (LV g b i) [] t) : JL g p e s m below meth c b nc ns 1000 (LV g b i) [] σ := by
  obtain ⟨x, P, hd, h1⟩ := st_without g (xs (i + 1)).toInt (iI_rng _) σ h
  simp only [iI_of] at hd
  refine rl_aload (pc := 1000) C dL_law_1000 rfl 1 rfl ?_
  refine rl_arg (pc := 1001) C 1 (by omega) dL_law_1001 dL_law_1002 dL_law_1003 rfl dL_law_1004 dL_law_1005 ?_
  refine rl_call (pc := 1006) C hd yX4_without_w O_40 rfl rfl t_503 ⟨by decide, by decide⟩ (Nat.le_of_ble_eq_true rfl) hn rfl dL_law_1006 (fun v s1 hp => ?_)
  obtain ⟨rfl, Q, he, h2⟩ := h1 v s1 hp
  simp only [iI_of] at he
  refine rl_aload (pc := 1009) C dL_law_1009 rfl 2 rfl ?_
  refine rl_arg (pc := 1010) C 1 (by omega) dL_law_1010 dL_law_1011 dL_law_1012 rfl dL_law_1013 dL_law_1014 ?_
  refine rl_call (pc := 1015) C he yX5_without_w O_41 rfl rfl t_1108 ⟨by decide, by decide⟩ (Nat.le_of_ble_eq_true rfl) hn rfl dL_law_1015 (fun v2 t hq => ?_)
  obtain ⟨rfl, hR⟩ := h2 v2 t hq
  refine rl_eq (pc := 1018) C 1574 dL_law_1018 (by decide) ?_
  exact kk t hR
set_option maxRecDepth 100000 in
theorem lc_fits {g : Gt} {p : Program} {e : Env} {s : State} {m : MethodId} {below : List Frame} {meth : Method} {c : Code} {b L nc ns i : Nat} {xs : Nat → Int32} {σ : Sg} (C : CL g p s m meth c b L xs) (hi : i + 6 ≤ L) (hn : nc ≤ 600000 ∧ ns ≤ 7302250) (h : Rel σ) (kk : ∀ t, Rel t → JL g p e s m below meth c b nc ns 1574 (LV g b i) [] t) : JL g p e s m below meth c b nc ns 1023 (LV g b i) [] σ := by
  obtain ⟨x, P, hd, h1⟩ := st_fits g (xs (i + 1)).toInt (xs (i + 2)).toInt (iI_rng _) (iI_rng _) σ h
  simp only [iI_of] at hd
  refine rl_aload (pc := 1023) C dL_law_1023 rfl 1 rfl ?_
  refine rl_arg (pc := 1024) C 1 (by omega) dL_law_1024 dL_law_1025 dL_law_1026 rfl dL_law_1027 dL_law_1028 ?_
  refine rl_arg (pc := 1029) C 2 (by omega) dL_law_1029 dL_law_1030 dL_law_1031 rfl dL_law_1032 dL_law_1033 ?_
  refine rl_call (pc := 1034) C hd yX4_fits_w O_40 rfl rfl t_507 ⟨by decide, by decide⟩ (Nat.le_of_ble_eq_true rfl) hn rfl dL_law_1034 (fun v s1 hp => ?_)
  obtain ⟨rfl, Q, he, h2⟩ := h1 v s1 hp
  simp only [iI_of] at he
  refine rl_aload (pc := 1037) C dL_law_1037 rfl 2 rfl ?_
  refine rl_arg (pc := 1038) C 1 (by omega) dL_law_1038 dL_law_1039 dL_law_1040 rfl dL_law_1041 dL_law_1042 ?_
  refine rl_arg (pc := 1043) C 2 (by omega) dL_law_1043 dL_law_1044 dL_law_1045 rfl dL_law_1046 dL_law_1047 ?_
  refine rl_call (pc := 1048) C he yX5_fits_w O_41 rfl rfl t_1112 ⟨by decide, by decide⟩ (Nat.le_of_ble_eq_true rfl) hn rfl dL_law_1048 (fun v2 t hq => ?_)
  obtain ⟨rfl, hR⟩ := h2 v2 t hq
  refine rl_eq (pc := 1051) C 1574 dL_law_1051 (by decide) ?_
  exact kk t hR
set_option maxRecDepth 100000 in
theorem lc_kinds {g : Gt} {p : Program} {e : Env} {s : State} {m : MethodId} {below : List Frame} {meth : Method} {c : Code} {b L nc ns i : Nat} {xs : Nat → Int32} {σ : Sg} (C : CL g p s m meth c b L xs) (hi : i + 6 ≤ L) (hn : nc ≤ 600000 ∧ ns ≤ 7302250) (h : Rel σ) (kk : ∀ t, Rel t → JL g p e s m below meth c b nc ns 1574 (LV g b i) [] t) : JL g p e s m below meth c b nc ns 1056 (LV g b i) [] σ := by
  obtain ⟨x, P, hd, h1⟩ := st_kinds g (xs (i + 1)).toInt (xs (i + 2)).toInt (iI_rng _) (iI_rng _) σ h
  simp only [iI_of] at hd
  refine rl_aload (pc := 1056) C dL_law_1056 rfl 1 rfl ?_
  refine rl_arg (pc := 1057) C 1 (by omega) dL_law_1057 dL_law_1058 dL_law_1059 rfl dL_law_1060 dL_law_1061 ?_
  refine rl_arg (pc := 1062) C 2 (by omega) dL_law_1062 dL_law_1063 dL_law_1064 rfl dL_law_1065 dL_law_1066 ?_
  refine rl_call (pc := 1067) C hd yX4_kinds_w O_40 rfl rfl t_526 ⟨by decide, by decide⟩ (Nat.le_of_ble_eq_true rfl) hn rfl dL_law_1067 (fun v s1 hp => ?_)
  obtain ⟨rfl, Q, he, h2⟩ := h1 v s1 hp
  simp only [iI_of] at he
  refine rl_aload (pc := 1070) C dL_law_1070 rfl 2 rfl ?_
  refine rl_arg (pc := 1071) C 1 (by omega) dL_law_1071 dL_law_1072 dL_law_1073 rfl dL_law_1074 dL_law_1075 ?_
  refine rl_arg (pc := 1076) C 2 (by omega) dL_law_1076 dL_law_1077 dL_law_1078 rfl dL_law_1079 dL_law_1080 ?_
  refine rl_call (pc := 1081) C he yX5_kinds_w O_41 rfl rfl t_1136 ⟨by decide, by decide⟩ (Nat.le_of_ble_eq_true rfl) hn rfl dL_law_1081 (fun v2 t hq => ?_)
  obtain ⟨rfl, hR⟩ := h2 v2 t hq
  refine rl_eq (pc := 1084) C 1574 dL_law_1084 (by decide) ?_
  exact kk t hR
set_option maxRecDepth 100000 in
theorem lc_sneezes {g : Gt} {p : Program} {e : Env} {s : State} {m : MethodId} {below : List Frame} {meth : Method} {c : Code} {b L nc ns i : Nat} {xs : Nat → Int32} {σ : Sg} (C : CL g p s m meth c b L xs) (hi : i + 6 ≤ L) (hn : nc ≤ 600000 ∧ ns ≤ 7302250) (h : Rel σ) (kk : ∀ t, Rel t → JL g p e s m below meth c b nc ns 1574 (LV g b i) [] t) : JL g p e s m below meth c b nc ns 1089 (LV g b i) [] σ := by
  obtain ⟨x, P, hd, h1⟩ := st_sneezes g (xs (i + 1)).toInt (iI_rng _) σ h
  simp only [iI_of] at hd
  refine rl_aload (pc := 1089) C dL_law_1089 rfl 1 rfl ?_
  refine rl_arg (pc := 1090) C 1 (by omega) dL_law_1090 dL_law_1091 dL_law_1092 rfl dL_law_1093 dL_law_1094 ?_
  refine rl_call (pc := 1095) C hd yX4_sneezes_w O_40 rfl rfl t_530 ⟨by decide, by decide⟩ (Nat.le_of_ble_eq_true rfl) hn rfl dL_law_1095 (fun v s1 hp => ?_)
  obtain ⟨rfl, Q, he, h2⟩ := h1 v s1 hp
  simp only [iI_of] at he
  refine rl_aload (pc := 1098) C dL_law_1098 rfl 2 rfl ?_
  refine rl_arg (pc := 1099) C 1 (by omega) dL_law_1099 dL_law_1100 dL_law_1101 rfl dL_law_1102 dL_law_1103 ?_
  refine rl_call (pc := 1104) C he yX5_sneezes_w O_41 rfl rfl t_1140 ⟨by decide, by decide⟩ (Nat.le_of_ble_eq_true rfl) hn rfl dL_law_1104 (fun v2 t hq => ?_)
  obtain ⟨rfl, hR⟩ := h2 v2 t hq
  refine rl_eq (pc := 1107) C 1574 dL_law_1107 (by decide) ?_
  exact kk t hR
set_option maxRecDepth 100000 in
theorem lc_odds {g : Gt} {p : Program} {e : Env} {s : State} {m : MethodId} {below : List Frame} {meth : Method} {c : Code} {b L nc ns i : Nat} {xs : Nat → Int32} {σ : Sg} (C : CL g p s m meth c b L xs) (hi : i + 6 ≤ L) (hn : nc ≤ 600000 ∧ ns ≤ 7302250) (h : Rel σ) (kk : ∀ t, Rel t → JL g p e s m below meth c b nc ns 1574 (LV g b i) [] t) : JL g p e s m below meth c b nc ns 1112 (LV g b i) [] σ := by
  obtain ⟨x, P, hd, h1⟩ := st_odds g (xs (i + 1)).toInt (xs (i + 2)).toInt (iI_rng _) (iI_rng _) σ h
  simp only [iI_of] at hd
  refine rl_aload (pc := 1112) C dL_law_1112 rfl 1 rfl ?_
  refine rl_arg (pc := 1113) C 1 (by omega) dL_law_1113 dL_law_1114 dL_law_1115 rfl dL_law_1116 dL_law_1117 ?_
  refine rl_arg (pc := 1118) C 2 (by omega) dL_law_1118 dL_law_1119 dL_law_1120 rfl dL_law_1121 dL_law_1122 ?_
  refine rl_call (pc := 1123) C hd yX4_odds_w O_40 rfl rfl t_539 ⟨by decide, by decide⟩ (Nat.le_of_ble_eq_true rfl) hn rfl dL_law_1123 (fun v s1 hp => ?_)
  obtain ⟨rfl, Q, he, h2⟩ := h1 v s1 hp
  simp only [iI_of] at he
  refine rl_aload (pc := 1126) C dL_law_1126 rfl 2 rfl ?_
  refine rl_arg (pc := 1127) C 1 (by omega) dL_law_1127 dL_law_1128 dL_law_1129 rfl dL_law_1130 dL_law_1131 ?_
  refine rl_arg (pc := 1132) C 2 (by omega) dL_law_1132 dL_law_1133 dL_law_1134 rfl dL_law_1135 dL_law_1136 ?_
  refine rl_call (pc := 1137) C he yX5_odds_w O_41 rfl rfl t_1149 ⟨by decide, by decide⟩ (Nat.le_of_ble_eq_true rfl) hn rfl dL_law_1137 (fun v2 t hq => ?_)
  obtain ⟨rfl, hR⟩ := h2 v2 t hq
  refine rl_leq (pc := 1140) C 1574 dL_law_1140 dL_law_1141 (by decide) ?_
  exact kk t hR
set_option maxRecDepth 100000 in
theorem lc_seed {g : Gt} {p : Program} {e : Env} {s : State} {m : MethodId} {below : List Frame} {meth : Method} {c : Code} {b L nc ns i : Nat} {xs : Nat → Int32} {σ : Sg} (C : CL g p s m meth c b L xs) (hi : i + 6 ≤ L) (hn : nc ≤ 600000 ∧ ns ≤ 7302250) (h : Rel σ) (kk : ∀ t, Rel t → JL g p e s m below meth c b nc ns 1574 (LV g b i) [] t) : JL g p e s m below meth c b nc ns 1146 (LV g b i) [] σ := by
  obtain ⟨x, P, hd, h1⟩ := st_seed g (xs (i + 1)).toInt (iI_rng _) σ h
  simp only [iI_of] at hd
  refine rl_aload (pc := 1146) C dL_law_1146 rfl 1 rfl ?_
  refine rl_arg (pc := 1147) C 1 (by omega) dL_law_1147 dL_law_1148 dL_law_1149 rfl dL_law_1150 dL_law_1151 ?_
  refine rl_call (pc := 1152) C hd yX4_seed_w O_40 rfl rfl t_546 ⟨by decide, by decide⟩ (Nat.le_of_ble_eq_true rfl) hn rfl dL_law_1152 (fun v s1 hp => ?_)
  obtain ⟨rfl, Q, he, h2⟩ := h1 v s1 hp
  simp only [iI_of] at he
  refine rl_aload (pc := 1155) C dL_law_1155 rfl 2 rfl ?_
  refine rl_arg (pc := 1156) C 1 (by omega) dL_law_1156 dL_law_1157 dL_law_1158 rfl dL_law_1159 dL_law_1160 ?_
  refine rl_call (pc := 1161) C he yX5_seed_w O_41 rfl rfl t_1154 ⟨by decide, by decide⟩ (Nat.le_of_ble_eq_true rfl) hn rfl dL_law_1161 (fun v2 t hq => ?_)
  obtain ⟨rfl, hR⟩ := h2 v2 t hq
  refine rl_eq (pc := 1164) C 1574 dL_law_1164 (by decide) ?_
  exact kk t hR
set_option maxRecDepth 100000 in
theorem lc_feed {g : Gt} {p : Program} {e : Env} {s : State} {m : MethodId} {below : List Frame} {meth : Method} {c : Code} {b L nc ns i : Nat} {xs : Nat → Int32} {σ : Sg} (C : CL g p s m meth c b L xs) (hi : i + 6 ≤ L) (hn : nc ≤ 600000 ∧ ns ≤ 7302250) (h : Rel σ) (kk : ∀ t, Rel t → JL g p e s m below meth c b nc ns 1574 (LV g b i) [] t) : JL g p e s m below meth c b nc ns 1169 (LV g b i) [] σ := by
  obtain ⟨x, P, hd, h1⟩ := st_feed g (xs (i + 1)).toInt (xs (i + 2)).toInt (iI_rng _) (iI_rng _) σ h
  simp only [iI_of] at hd
  refine rl_aload (pc := 1169) C dL_law_1169 rfl 1 rfl ?_
  refine rl_arg (pc := 1170) C 1 (by omega) dL_law_1170 dL_law_1171 dL_law_1172 rfl dL_law_1173 dL_law_1174 ?_
  refine rl_arg (pc := 1175) C 2 (by omega) dL_law_1175 dL_law_1176 dL_law_1177 rfl dL_law_1178 dL_law_1179 ?_
  refine rl_call (pc := 1180) C hd yX4_feed_w O_40 rfl rfl t_550 ⟨by decide, by decide⟩ (Nat.le_of_ble_eq_true rfl) hn rfl dL_law_1180 (fun v s1 hp => ?_)
  obtain ⟨rfl, Q, he, h2⟩ := h1 v s1 hp
  simp only [iI_of] at he
  refine rl_aload (pc := 1183) C dL_law_1183 rfl 2 rfl ?_
  refine rl_arg (pc := 1184) C 1 (by omega) dL_law_1184 dL_law_1185 dL_law_1186 rfl dL_law_1187 dL_law_1188 ?_
  refine rl_arg (pc := 1189) C 2 (by omega) dL_law_1189 dL_law_1190 dL_law_1191 rfl dL_law_1192 dL_law_1193 ?_
  refine rl_call (pc := 1194) C he yX5_feed_w O_41 rfl rfl t_1158 ⟨by decide, by decide⟩ (Nat.le_of_ble_eq_true rfl) hn rfl dL_law_1194 (fun v2 t hq => ?_)
  obtain ⟨rfl, hR⟩ := h2 v2 t hq
  refine rl_eq (pc := 1197) C 1574 dL_law_1197 (by decide) ?_
  exact kk t hR
set_option maxRecDepth 100000 in
theorem lc_wipe {g : Gt} {p : Program} {e : Env} {s : State} {m : MethodId} {below : List Frame} {meth : Method} {c : Code} {b L nc ns i : Nat} {xs : Nat → Int32} {σ : Sg} (C : CL g p s m meth c b L xs) (hi : i + 6 ≤ L) (hn : nc ≤ 600000 ∧ ns ≤ 7302250) (h : Rel σ) (kk : ∀ t, Rel t → JL g p e s m below meth c b nc ns 1574 (LV g b i) [] t) : JL g p e s m below meth c b nc ns 1202 (LV g b i) [] σ := by
  obtain ⟨x, P, hd, h1⟩ := st_wipe g σ h
  refine rl_aload (pc := 1202) C dL_law_1202 rfl 1 rfl ?_
  refine rl_call (pc := 1203) C hd yX4_wipe_w O_40 rfl rfl t_558 ⟨by decide, by decide⟩ (Nat.le_of_ble_eq_true rfl) hn rfl dL_law_1203 (fun v s1 hp => ?_)
  obtain ⟨rfl, Q, he, h2⟩ := h1 v s1 hp
  refine rl_aload (pc := 1206) C dL_law_1206 rfl 2 rfl ?_
  refine rl_call (pc := 1207) C he yX5_wipe_w O_41 rfl rfl t_1163 ⟨by decide, by decide⟩ (Nat.le_of_ble_eq_true rfl) hn rfl dL_law_1207 (fun v2 t hq => ?_)
  obtain ⟨rfl, hR⟩ := h2 v2 t hq
  refine rl_eq (pc := 1210) C 1574 dL_law_1210 (by decide) ?_
  exact kk t hR
set_option maxRecDepth 100000 in
theorem lc_text {g : Gt} {p : Program} {e : Env} {s : State} {m : MethodId} {below : List Frame} {meth : Method} {c : Code} {b L nc ns i : Nat} {xs : Nat → Int32} {σ : Sg} (C : CL g p s m meth c b L xs) (hi : i + 6 ≤ L) (hn : nc ≤ 600000 ∧ ns ≤ 7302250) (h : Rel σ) (kk : ∀ t, Rel t → JL g p e s m below meth c b nc ns 1574 (LV g b i) [] t) : JL g p e s m below meth c b nc ns 1215 (LV g b i) [] σ := by
  obtain ⟨x, P, hd, h1⟩ := st_text g σ h
  refine rl_aload (pc := 1215) C dL_law_1215 rfl 1 rfl ?_
  refine rl_call (pc := 1216) C hd yX4_text_w O_40 rfl rfl t_562 ⟨by decide, by decide⟩ (Nat.le_of_ble_eq_true rfl) hn rfl dL_law_1216 (fun v s1 hp => ?_)
  obtain ⟨rfl, Q, he, h2⟩ := h1 v s1 hp
  refine rl_aload (pc := 1219) C dL_law_1219 rfl 2 rfl ?_
  refine rl_call (pc := 1220) C he yX5_text_w O_41 rfl rfl t_1167 ⟨by decide, by decide⟩ (Nat.le_of_ble_eq_true rfl) hn rfl dL_law_1220 (fun v2 t hq => ?_)
  obtain ⟨rfl, hR⟩ := h2 v2 t hq
  refine rl_eq (pc := 1223) C 1574 dL_law_1223 (by decide) ?_
  exact kk t hR
set_option maxRecDepth 100000 in
theorem lc_hold {g : Gt} {p : Program} {e : Env} {s : State} {m : MethodId} {below : List Frame} {meth : Method} {c : Code} {b L nc ns i : Nat} {xs : Nat → Int32} {σ : Sg} (C : CL g p s m meth c b L xs) (hi : i + 6 ≤ L) (hn : nc ≤ 600000 ∧ ns ≤ 7302250) (h : Rel σ) (kk : ∀ t, Rel t → JL g p e s m below meth c b nc ns 1574 (LV g b i) [] t) : JL g p e s m below meth c b nc ns 1228 (LV g b i) [] σ := by
  obtain ⟨x, P, hd, h1⟩ := st_hold g (xs (i + 1)).toInt (xs (i + 2)).toInt (iI_rng _) (iI_rng _) σ h
  simp only [iI_of] at hd
  refine rl_aload (pc := 1228) C dL_law_1228 rfl 1 rfl ?_
  refine rl_arg (pc := 1229) C 1 (by omega) dL_law_1229 dL_law_1230 dL_law_1231 rfl dL_law_1232 dL_law_1233 ?_
  refine rl_arg (pc := 1234) C 2 (by omega) dL_law_1234 dL_law_1235 dL_law_1236 rfl dL_law_1237 dL_law_1238 ?_
  refine rl_call (pc := 1239) C hd yX4_hold_w O_40 rfl rfl t_700 ⟨by decide, by decide⟩ (Nat.le_of_ble_eq_true rfl) hn rfl dL_law_1239 (fun v s1 hp => ?_)
  obtain ⟨rfl, Q, he, h2⟩ := h1 v s1 hp
  simp only [iI_of] at he
  refine rl_aload (pc := 1242) C dL_law_1242 rfl 2 rfl ?_
  refine rl_arg (pc := 1243) C 1 (by omega) dL_law_1243 dL_law_1244 dL_law_1245 rfl dL_law_1246 dL_law_1247 ?_
  refine rl_arg (pc := 1248) C 2 (by omega) dL_law_1248 dL_law_1249 dL_law_1250 rfl dL_law_1251 dL_law_1252 ?_
  refine rl_call (pc := 1253) C he yX5_hold_w O_41 rfl rfl t_1248 ⟨by decide, by decide⟩ (Nat.le_of_ble_eq_true rfl) hn rfl dL_law_1253 (fun v2 t hq => ?_)
  obtain ⟨rfl, hR⟩ := h2 v2 t hq
  refine rl_eq (pc := 1256) C 1574 dL_law_1256 (by decide) ?_
  exact kk t hR
set_option maxRecDepth 100000 in
theorem lc_as {g : Gt} {p : Program} {e : Env} {s : State} {m : MethodId} {below : List Frame} {meth : Method} {c : Code} {b L nc ns i : Nat} {xs : Nat → Int32} {σ : Sg} (C : CL g p s m meth c b L xs) (hi : i + 6 ≤ L) (hn : nc ≤ 600000 ∧ ns ≤ 7302250) (h : Rel σ) (kk : ∀ t, Rel t → JL g p e s m below meth c b nc ns 1574 (LV g b i) [] t) : JL g p e s m below meth c b nc ns 1261 (LV g b i) [] σ := by
  obtain ⟨x, P, hd, h1⟩ := st_as g (xs (i + 1)).toInt (xs (i + 2)).toInt (iI_rng _) (iI_rng _) σ h
  simp only [iI_of] at hd
  refine rl_aload (pc := 1261) C dL_law_1261 rfl 1 rfl ?_
  refine rl_arg (pc := 1262) C 1 (by omega) dL_law_1262 dL_law_1263 dL_law_1264 rfl dL_law_1265 dL_law_1266 ?_
  refine rl_arg (pc := 1267) C 2 (by omega) dL_law_1267 dL_law_1268 dL_law_1269 rfl dL_law_1270 dL_law_1271 ?_
  refine rl_call (pc := 1272) C hd yX4_as_w O_40 rfl rfl t_707 ⟨by decide, by decide⟩ (Nat.le_of_ble_eq_true rfl) hn rfl dL_law_1272 (fun v s1 hp => ?_)
  obtain ⟨rfl, Q, he, h2⟩ := h1 v s1 hp
  simp only [iI_of] at he
  refine rl_aload (pc := 1275) C dL_law_1275 rfl 2 rfl ?_
  refine rl_arg (pc := 1276) C 1 (by omega) dL_law_1276 dL_law_1277 dL_law_1278 rfl dL_law_1279 dL_law_1280 ?_
  refine rl_arg (pc := 1281) C 2 (by omega) dL_law_1281 dL_law_1282 dL_law_1283 rfl dL_law_1284 dL_law_1285 ?_
  refine rl_call (pc := 1286) C he yX5_as_w O_41 rfl rfl t_1256 ⟨by decide, by decide⟩ (Nat.le_of_ble_eq_true rfl) hn rfl dL_law_1286 (fun v2 t hq => ?_)
  obtain ⟨rfl, hR⟩ := h2 v2 t hq
  refine rl_eq (pc := 1289) C 1574 dL_law_1289 (by decide) ?_
  exact kk t hR
set_option maxRecDepth 100000 in
theorem lc_sheet {g : Gt} {p : Program} {e : Env} {s : State} {m : MethodId} {below : List Frame} {meth : Method} {c : Code} {b L nc ns i : Nat} {xs : Nat → Int32} {σ : Sg} (C : CL g p s m meth c b L xs) (hi : i + 6 ≤ L) (hn : nc ≤ 600000 ∧ ns ≤ 7302250) (h : Rel σ) (kk : ∀ t, Rel t → JL g p e s m below meth c b nc ns 1574 (LV g b i) [] t) : JL g p e s m below meth c b nc ns 1294 (LV g b i) [] σ := by
  obtain ⟨x, P, hd, h1⟩ := st_sheet g (xs (i + 1)).toInt (xs (i + 2)).toInt (xs (i + 3)).toInt (iI_rng _) (iI_rng _) (iI_rng _) σ h
  simp only [iI_of] at hd
  refine rl_aload (pc := 1294) C dL_law_1294 rfl 1 rfl ?_
  refine rl_arg (pc := 1295) C 1 (by omega) dL_law_1295 dL_law_1296 dL_law_1297 rfl dL_law_1298 dL_law_1299 ?_
  refine rl_arg (pc := 1300) C 2 (by omega) dL_law_1300 dL_law_1301 dL_law_1302 rfl dL_law_1303 dL_law_1304 ?_
  refine rl_arg (pc := 1305) C 3 (by omega) dL_law_1305 dL_law_1306 dL_law_1307 rfl dL_law_1308 dL_law_1309 ?_
  refine rl_call (pc := 1310) C hd yX4_sheet_w O_40 rfl rfl t_716 ⟨by decide, by decide⟩ (Nat.le_of_ble_eq_true rfl) hn rfl dL_law_1310 (fun v s1 hp => ?_)
  obtain ⟨rfl, Q, he, h2⟩ := h1 v s1 hp
  simp only [iI_of] at he
  refine rl_aload (pc := 1313) C dL_law_1313 rfl 2 rfl ?_
  refine rl_arg (pc := 1314) C 1 (by omega) dL_law_1314 dL_law_1315 dL_law_1316 rfl dL_law_1317 dL_law_1318 ?_
  refine rl_arg (pc := 1319) C 2 (by omega) dL_law_1319 dL_law_1320 dL_law_1321 rfl dL_law_1322 dL_law_1323 ?_
  refine rl_arg (pc := 1324) C 3 (by omega) dL_law_1324 dL_law_1325 dL_law_1326 rfl dL_law_1327 dL_law_1328 ?_
  refine rl_call (pc := 1329) C he yX5_sheet_w O_41 rfl rfl t_1264 ⟨by decide, by decide⟩ (Nat.le_of_ble_eq_true rfl) hn rfl dL_law_1329 (fun v2 t hq => ?_)
  obtain ⟨rfl, hR⟩ := h2 v2 t hq
  refine rl_eq (pc := 1332) C 1574 dL_law_1332 (by decide) ?_
  exact kk t hR
set_option maxRecDepth 100000 in
theorem lc_write {g : Gt} {p : Program} {e : Env} {s : State} {m : MethodId} {below : List Frame} {meth : Method} {c : Code} {b L nc ns i : Nat} {xs : Nat → Int32} {σ : Sg} (C : CL g p s m meth c b L xs) (hi : i + 6 ≤ L) (hn : nc ≤ 600000 ∧ ns ≤ 7302250) (h : Rel σ) (kk : ∀ t, Rel t → JL g p e s m below meth c b nc ns 1574 (LV g b i) [] t) : JL g p e s m below meth c b nc ns 1337 (LV g b i) [] σ := by
  obtain ⟨x, P, hd, h1⟩ := st_write g (xs (i + 1)).toInt (xs (i + 2)).toInt (xs (i + 3)).toInt (iI_rng _) (iI_rng _) (iI_rng _) σ h
  simp only [iI_of] at hd
  refine rl_aload (pc := 1337) C dL_law_1337 rfl 1 rfl ?_
  refine rl_arg (pc := 1338) C 1 (by omega) dL_law_1338 dL_law_1339 dL_law_1340 rfl dL_law_1341 dL_law_1342 ?_
  refine rl_arg (pc := 1343) C 2 (by omega) dL_law_1343 dL_law_1344 dL_law_1345 rfl dL_law_1346 dL_law_1347 ?_
  refine rl_arg (pc := 1348) C 3 (by omega) dL_law_1348 dL_law_1349 dL_law_1350 rfl dL_law_1351 dL_law_1352 ?_
  refine rl_call (pc := 1353) C hd yX4_write_w O_40 rfl rfl t_724 ⟨by decide, by decide⟩ (Nat.le_of_ble_eq_true rfl) hn rfl dL_law_1353 (fun v s1 hp => ?_)
  obtain ⟨rfl, Q, he, h2⟩ := h1 v s1 hp
  simp only [iI_of] at he
  refine rl_aload (pc := 1356) C dL_law_1356 rfl 2 rfl ?_
  refine rl_arg (pc := 1357) C 1 (by omega) dL_law_1357 dL_law_1358 dL_law_1359 rfl dL_law_1360 dL_law_1361 ?_
  refine rl_arg (pc := 1362) C 2 (by omega) dL_law_1362 dL_law_1363 dL_law_1364 rfl dL_law_1365 dL_law_1366 ?_
  refine rl_arg (pc := 1367) C 3 (by omega) dL_law_1367 dL_law_1368 dL_law_1369 rfl dL_law_1370 dL_law_1371 ?_
  refine rl_call (pc := 1372) C he yX5_write_w O_41 rfl rfl t_1269 ⟨by decide, by decide⟩ (Nat.le_of_ble_eq_true rfl) hn rfl dL_law_1372 (fun v2 t hq => ?_)
  obtain ⟨rfl, hR⟩ := h2 v2 t hq
  refine rl_eq (pc := 1375) C 1574 dL_law_1375 (by decide) ?_
  exact kk t hR
set_option maxRecDepth 100000 in
theorem lc_copy {g : Gt} {p : Program} {e : Env} {s : State} {m : MethodId} {below : List Frame} {meth : Method} {c : Code} {b L nc ns i : Nat} {xs : Nat → Int32} {σ : Sg} (C : CL g p s m meth c b L xs) (hi : i + 6 ≤ L) (hn : nc ≤ 600000 ∧ ns ≤ 7302250) (h : Rel σ) (kk : ∀ t, Rel t → JL g p e s m below meth c b nc ns 1574 (LV g b i) [] t) : JL g p e s m below meth c b nc ns 1380 (LV g b i) [] σ := by
  obtain ⟨x, P, hd, h1⟩ := st_copy g (xs (i + 1)).toInt (xs (i + 2)).toInt (xs (i + 3)).toInt (xs (i + 4)).toInt (xs (i + 5)).toInt (iI_rng _) (iI_rng _) (iI_rng _) (iI_rng _) (iI_rng _) σ h
  simp only [iI_of] at hd
  refine rl_aload (pc := 1380) C dL_law_1380 rfl 1 rfl ?_
  refine rl_arg (pc := 1381) C 1 (by omega) dL_law_1381 dL_law_1382 dL_law_1383 rfl dL_law_1384 dL_law_1385 ?_
  refine rl_arg (pc := 1386) C 2 (by omega) dL_law_1386 dL_law_1387 dL_law_1388 rfl dL_law_1389 dL_law_1390 ?_
  refine rl_arg (pc := 1391) C 3 (by omega) dL_law_1391 dL_law_1392 dL_law_1393 rfl dL_law_1394 dL_law_1395 ?_
  refine rl_arg (pc := 1396) C 4 (by omega) dL_law_1396 dL_law_1397 dL_law_1398 rfl dL_law_1399 dL_law_1400 ?_
  refine rl_arg (pc := 1401) C 5 (by omega) dL_law_1401 dL_law_1402 dL_law_1403 rfl dL_law_1404 dL_law_1405 ?_
  refine rl_call (pc := 1406) C hd yX4_copy_w O_40 rfl rfl t_732 ⟨by decide, by decide⟩ (Nat.le_of_ble_eq_true rfl) hn rfl dL_law_1406 (fun v s1 hp => ?_)
  obtain ⟨rfl, Q, he, h2⟩ := h1 v s1 hp
  simp only [iI_of] at he
  refine rl_aload (pc := 1409) C dL_law_1409 rfl 2 rfl ?_
  refine rl_arg (pc := 1410) C 1 (by omega) dL_law_1410 dL_law_1411 dL_law_1412 rfl dL_law_1413 dL_law_1414 ?_
  refine rl_arg (pc := 1415) C 2 (by omega) dL_law_1415 dL_law_1416 dL_law_1417 rfl dL_law_1418 dL_law_1419 ?_
  refine rl_arg (pc := 1420) C 3 (by omega) dL_law_1420 dL_law_1421 dL_law_1422 rfl dL_law_1423 dL_law_1424 ?_
  refine rl_arg (pc := 1425) C 4 (by omega) dL_law_1425 dL_law_1426 dL_law_1427 rfl dL_law_1428 dL_law_1429 ?_
  refine rl_arg (pc := 1430) C 5 (by omega) dL_law_1430 dL_law_1431 dL_law_1432 rfl dL_law_1433 dL_law_1434 ?_
  refine rl_call (pc := 1435) C he yX5_copy_w O_41 rfl rfl t_1276 ⟨by decide, by decide⟩ (Nat.le_of_ble_eq_true rfl) hn rfl dL_law_1435 (fun v2 t hq => ?_)
  obtain ⟨rfl, hR⟩ := h2 v2 t hq
  refine rl_eq (pc := 1438) C 1574 dL_law_1438 (by decide) ?_
  exact kk t hR
set_option maxRecDepth 100000 in
theorem lc_load {g : Gt} {p : Program} {e : Env} {s : State} {m : MethodId} {below : List Frame} {meth : Method} {c : Code} {b L nc ns i : Nat} {xs : Nat → Int32} {σ : Sg} (C : CL g p s m meth c b L xs) (hi : i + 6 ≤ L) (hn : nc ≤ 600000 ∧ ns ≤ 7302250) (h : Rel σ) (kk : ∀ t, Rel t → JL g p e s m below meth c b nc ns 1574 (LV g b i) [] t) : JL g p e s m below meth c b nc ns 1443 (LV g b i) [] σ := by
  obtain ⟨x, P, hd, h1⟩ := st_load g (xs (i + 1)).toInt (iI_rng _) σ h
  simp only [iI_of] at hd
  refine rl_aload (pc := 1443) C dL_law_1443 rfl 1 rfl ?_
  refine rl_arg (pc := 1444) C 1 (by omega) dL_law_1444 dL_law_1445 dL_law_1446 rfl dL_law_1447 dL_law_1448 ?_
  refine rl_call (pc := 1449) C hd yX4_load_w O_40 rfl rfl t_741 ⟨by decide, by decide⟩ (Nat.le_of_ble_eq_true rfl) hn rfl dL_law_1449 (fun v s1 hp => ?_)
  obtain ⟨rfl, Q, he, h2⟩ := h1 v s1 hp
  simp only [iI_of] at he
  refine rl_aload (pc := 1452) C dL_law_1452 rfl 2 rfl ?_
  refine rl_arg (pc := 1453) C 1 (by omega) dL_law_1453 dL_law_1454 dL_law_1455 rfl dL_law_1456 dL_law_1457 ?_
  refine rl_call (pc := 1458) C he yX5_load_w O_41 rfl rfl t_1280 ⟨by decide, by decide⟩ (Nat.le_of_ble_eq_true rfl) hn rfl dL_law_1458 (fun v2 t hq => ?_)
  obtain ⟨rfl, hR⟩ := h2 v2 t hq
  refine rl_eq (pc := 1461) C 1574 dL_law_1461 (by decide) ?_
  exact kk t hR
set_option maxRecDepth 100000 in
theorem lc_judge {g : Gt} {p : Program} {e : Env} {s : State} {m : MethodId} {below : List Frame} {meth : Method} {c : Code} {b L nc ns i : Nat} {xs : Nat → Int32} {σ : Sg} (C : CL g p s m meth c b L xs) (hi : i + 6 ≤ L) (hn : nc ≤ 600000 ∧ ns ≤ 7302250) (h : Rel σ) (kk : ∀ t, Rel t → JL g p e s m below meth c b nc ns 1574 (LV g b i) [] t) : JL g p e s m below meth c b nc ns 1466 (LV g b i) [] σ := by
  obtain ⟨x, P, hd, h1⟩ := st_judge g (xs (i + 1)).toInt (iI_rng _) σ h
  simp only [iI_of] at hd
  refine rl_aload (pc := 1466) C dL_law_1466 rfl 1 rfl ?_
  refine rl_arg (pc := 1467) C 1 (by omega) dL_law_1467 dL_law_1468 dL_law_1469 rfl dL_law_1470 dL_law_1471 ?_
  refine rl_call (pc := 1472) C hd yX4_judge_w O_40 rfl rfl t_745 ⟨by decide, by decide⟩ (Nat.le_of_ble_eq_true rfl) hn rfl dL_law_1472 (fun v s1 hp => ?_)
  obtain ⟨rfl, Q, he, h2⟩ := h1 v s1 hp
  simp only [iI_of] at he
  refine rl_aload (pc := 1475) C dL_law_1475 rfl 2 rfl ?_
  refine rl_arg (pc := 1476) C 1 (by omega) dL_law_1476 dL_law_1477 dL_law_1478 rfl dL_law_1479 dL_law_1480 ?_
  refine rl_call (pc := 1481) C he yX5_judge_w O_41 rfl rfl t_1284 ⟨by decide, by decide⟩ (Nat.le_of_ble_eq_true rfl) hn rfl dL_law_1481 (fun v2 t hq => ?_)
  obtain ⟨rfl, hR⟩ := h2 v2 t hq
  refine rl_eq (pc := 1484) C 1574 dL_law_1484 (by decide) ?_
  exact kk t hR
set_option maxRecDepth 100000 in
theorem lc_image {g : Gt} {p : Program} {e : Env} {s : State} {m : MethodId} {below : List Frame} {meth : Method} {c : Code} {b L nc ns i : Nat} {xs : Nat → Int32} {σ : Sg} (C : CL g p s m meth c b L xs) (hi : i + 6 ≤ L) (hn : nc ≤ 600000 ∧ ns ≤ 7302250) (h : Rel σ) (kk : ∀ t, Rel t → JL g p e s m below meth c b nc ns 1574 (LV g b i) [] t) : JL g p e s m below meth c b nc ns 1489 (LV g b i) [] σ := by
  obtain ⟨x, P, hd, h1⟩ := st_image g σ h
  refine rl_aload (pc := 1489) C dL_law_1489 rfl 1 rfl ?_
  refine rl_call (pc := 1490) C hd yX4_image_w O_40 rfl rfl t_749 ⟨by decide, by decide⟩ (Nat.le_of_ble_eq_true rfl) hn rfl dL_law_1490 (fun v s1 hp => ?_)
  obtain ⟨rfl, Q, he, h2⟩ := h1 v s1 hp
  refine rl_aload (pc := 1493) C dL_law_1493 rfl 2 rfl ?_
  refine rl_call (pc := 1494) C he yX5_image_w O_41 rfl rfl t_1288 ⟨by decide, by decide⟩ (Nat.le_of_ble_eq_true rfl) hn rfl dL_law_1494 (fun v2 t hq => ?_)
  obtain ⟨rfl, hR⟩ := h2 v2 t hq
  refine rl_eq (pc := 1497) C 1574 dL_law_1497 (by decide) ?_
  exact kk t hR
set_option maxRecDepth 100000 in
theorem lc_undo {g : Gt} {p : Program} {e : Env} {s : State} {m : MethodId} {below : List Frame} {meth : Method} {c : Code} {b L nc ns i : Nat} {xs : Nat → Int32} {σ : Sg} (C : CL g p s m meth c b L xs) (hi : i + 6 ≤ L) (hn : nc ≤ 600000 ∧ ns ≤ 7302250) (h : Rel σ) (kk : ∀ t, Rel t → JL g p e s m below meth c b nc ns 1574 (LV g b i) [] t) : JL g p e s m below meth c b nc ns 1502 (LV g b i) [] σ := by
  obtain ⟨x, P, hd, h1⟩ := st_undo g σ h
  refine rl_aload (pc := 1502) C dL_law_1502 rfl 1 rfl ?_
  refine rl_call (pc := 1503) C hd yX4_undo_w O_40 rfl rfl t_753 ⟨by decide, by decide⟩ (Nat.le_of_ble_eq_true rfl) hn rfl dL_law_1503 (fun v s1 hp => ?_)
  obtain ⟨rfl, Q, he, h2⟩ := h1 v s1 hp
  refine rl_aload (pc := 1506) C dL_law_1506 rfl 2 rfl ?_
  refine rl_call (pc := 1507) C he yX5_undo_w O_41 rfl rfl t_1292 ⟨by decide, by decide⟩ (Nat.le_of_ble_eq_true rfl) hn rfl dL_law_1507 (fun v2 t hq => ?_)
  obtain ⟨rfl, hR⟩ := h2 v2 t hq
  refine rl_eq (pc := 1510) C 1574 dL_law_1510 (by decide) ?_
  exact kk t hR
set_option maxRecDepth 100000 in
theorem lc_tear {g : Gt} {p : Program} {e : Env} {s : State} {m : MethodId} {below : List Frame} {meth : Method} {c : Code} {b L nc ns i : Nat} {xs : Nat → Int32} {σ : Sg} (C : CL g p s m meth c b L xs) (hi : i + 6 ≤ L) (hn : nc ≤ 600000 ∧ ns ≤ 7302250) (h : Rel σ) (kk : ∀ t, Rel t → JL g p e s m below meth c b nc ns 1574 (LV g b i) [] t) : JL g p e s m below meth c b nc ns 1515 (LV g b i) [] σ := by
  obtain ⟨x, P, hd, h1⟩ := st_tear g σ h
  refine rl_aload (pc := 1515) C dL_law_1515 rfl 1 rfl ?_
  refine rl_call (pc := 1516) C hd yX4_tear_w O_40 rfl rfl t_757 ⟨by decide, by decide⟩ (Nat.le_of_ble_eq_true rfl) hn rfl dL_law_1516 (fun v s1 hp => ?_)
  obtain ⟨rfl, Q, he, h2⟩ := h1 v s1 hp
  refine rl_aload (pc := 1519) C dL_law_1519 rfl 2 rfl ?_
  refine rl_call (pc := 1520) C he yX5_tear_w O_41 rfl rfl t_1296 ⟨by decide, by decide⟩ (Nat.le_of_ble_eq_true rfl) hn rfl dL_law_1520 (fun v2 t hq => ?_)
  obtain ⟨rfl, hR⟩ := h2 v2 t hq
  refine rl_eq (pc := 1523) C 1574 dL_law_1523 (by decide) ?_
  exact kk t hR
set_option maxRecDepth 100000 in
theorem lc_count {g : Gt} {p : Program} {e : Env} {s : State} {m : MethodId} {below : List Frame} {meth : Method} {c : Code} {b L nc ns i : Nat} {xs : Nat → Int32} {σ : Sg} (C : CL g p s m meth c b L xs) (hi : i + 6 ≤ L) (hn : nc ≤ 600000 ∧ ns ≤ 7302250) (h : Rel σ) (kk : ∀ t, Rel t → JL g p e s m below meth c b nc ns 1574 (LV g b i) [] t) : JL g p e s m below meth c b nc ns 1528 (LV g b i) [] σ := by
  obtain ⟨x, P, hd, h1⟩ := st_count g (xs (i + 1)).toInt (iI_rng _) σ h
  simp only [iI_of] at hd
  refine rl_aload (pc := 1528) C dL_law_1528 rfl 1 rfl ?_
  refine rl_arg (pc := 1529) C 1 (by omega) dL_law_1529 dL_law_1530 dL_law_1531 rfl dL_law_1532 dL_law_1533 ?_
  refine rl_call (pc := 1534) C hd yX4_count_w O_40 rfl rfl t_761 ⟨by decide, by decide⟩ (Nat.le_of_ble_eq_true rfl) hn rfl dL_law_1534 (fun v s1 hp => ?_)
  obtain ⟨rfl, Q, he, h2⟩ := h1 v s1 hp
  simp only [iI_of] at he
  refine rl_aload (pc := 1537) C dL_law_1537 rfl 2 rfl ?_
  refine rl_arg (pc := 1538) C 1 (by omega) dL_law_1538 dL_law_1539 dL_law_1540 rfl dL_law_1541 dL_law_1542 ?_
  refine rl_call (pc := 1543) C he yX5_count_w O_41 rfl rfl t_1300 ⟨by decide, by decide⟩ (Nat.le_of_ble_eq_true rfl) hn rfl dL_law_1543 (fun v2 t hq => ?_)
  obtain ⟨rfl, hR⟩ := h2 v2 t hq
  refine rl_eq (pc := 1546) C 1574 dL_law_1546 (by decide) ?_
  exact kk t hR
set_option maxRecDepth 100000 in
theorem lc_status {g : Gt} {p : Program} {e : Env} {s : State} {m : MethodId} {below : List Frame} {meth : Method} {c : Code} {b L nc ns i : Nat} {xs : Nat → Int32} {σ : Sg} (C : CL g p s m meth c b L xs) (hi : i + 6 ≤ L) (hn : nc ≤ 600000 ∧ ns ≤ 7302250) (h : Rel σ) (kk : ∀ t, Rel t → JL g p e s m below meth c b nc ns 1574 (LV g b i) [] t) : JL g p e s m below meth c b nc ns 1551 (LV g b i) [] σ := by
  obtain ⟨x, P, hd, h1⟩ := st_status g (xs (i + 1)).toInt (iI_rng _) σ h
  simp only [iI_of] at hd
  refine rl_aload (pc := 1551) C dL_law_1551 rfl 1 rfl ?_
  refine rl_arg (pc := 1552) C 1 (by omega) dL_law_1552 dL_law_1553 dL_law_1554 rfl dL_law_1555 dL_law_1556 ?_
  refine rl_call (pc := 1557) C hd yX4_status_w O_40 rfl rfl t_769 ⟨by decide, by decide⟩ (Nat.le_of_ble_eq_true rfl) hn rfl dL_law_1557 (fun v s1 hp => ?_)
  obtain ⟨rfl, Q, he, h2⟩ := h1 v s1 hp
  simp only [iI_of] at he
  refine rl_aload (pc := 1560) C dL_law_1560 rfl 2 rfl ?_
  refine rl_arg (pc := 1561) C 1 (by omega) dL_law_1561 dL_law_1562 dL_law_1563 rfl dL_law_1564 dL_law_1565 ?_
  refine rl_call (pc := 1566) C he yX5_status_w O_41 rfl rfl t_1308 ⟨by decide, by decide⟩ (Nat.le_of_ble_eq_true rfl) hn rfl dL_law_1566 (fun v2 t hq => ?_)
  obtain ⟨rfl, hR⟩ := h2 v2 t hq
  refine rl_eq (pc := 1569) C 1574 dL_law_1569 (by decide) ?_
  exact kk t hR
theorem mask_63 (a : Int32) : 0 ≤ (a &&& 63).toInt ∧ (a &&& 63).toInt ≤ 63 := by
  have h := pk_and a (m := 63) 6 (by decide)
  rw [h, nI_toInt (by omega)]
  omega
set_option maxRecDepth 100000 in
set_option maxHeartbeats 4000000 in
theorem law_body {g : Gt} {p : Program} {e : Env} {s : State} {m : MethodId} {below : List Frame} {meth : Method} {c : Code} {b L nc ns i : Nat} {xs : Nat → Int32} {σ : Sg} (C : CL g p s m meth c b L xs) (hi : i + 6 ≤ L) (hn : nc ≤ 600000 ∧ ns ≤ 7302250) (h : Rel σ) (kk : ∀ t, Rel t → JL g p e s m below meth c b nc ns 1574 (LV g b i) [] t) : JL g p e s m below meth c b nc ns 27 (LV g b i) [] σ := by
  refine rl_first (pc := 27) C (by omega) dL_law_27 dL_law_28 dL_law_29 ?_
  refine rl_mask (pc := 30) C dL_law_30 dL_law_32 ?_
  have hv := mask_63 (xs i)
  by_cases h45 : 44 < (xs i &&& 63).toInt
  · exact rl_tabOut (pc := 33) C 1574 dL_law_33 (Or.inr h45) (by decide) (kk σ h)
  · rcases (show (xs i &&& 63).toInt = 0 ∨ (xs i &&& 63).toInt = 1 ∨ (xs i &&& 63).toInt = 2 ∨ (xs i &&& 63).toInt = 3 ∨ (xs i &&& 63).toInt = 4 ∨ (xs i &&& 63).toInt = 5 ∨ (xs i &&& 63).toInt = 6 ∨ (xs i &&& 63).toInt = 7 ∨ (xs i &&& 63).toInt = 8 ∨ (xs i &&& 63).toInt = 9 ∨ (xs i &&& 63).toInt = 10 ∨ (xs i &&& 63).toInt = 11 ∨ (xs i &&& 63).toInt = 12 ∨ (xs i &&& 63).toInt = 13 ∨ (xs i &&& 63).toInt = 14 ∨ (xs i &&& 63).toInt = 15 ∨ (xs i &&& 63).toInt = 16 ∨ (xs i &&& 63).toInt = 17 ∨ (xs i &&& 63).toInt = 18 ∨ (xs i &&& 63).toInt = 19 ∨ (xs i &&& 63).toInt = 20 ∨ (xs i &&& 63).toInt = 21 ∨ (xs i &&& 63).toInt = 22 ∨ (xs i &&& 63).toInt = 23 ∨ (xs i &&& 63).toInt = 24 ∨ (xs i &&& 63).toInt = 25 ∨ (xs i &&& 63).toInt = 26 ∨ (xs i &&& 63).toInt = 27 ∨ (xs i &&& 63).toInt = 28 ∨ (xs i &&& 63).toInt = 29 ∨ (xs i &&& 63).toInt = 30 ∨ (xs i &&& 63).toInt = 31 ∨ (xs i &&& 63).toInt = 32 ∨ (xs i &&& 63).toInt = 33 ∨ (xs i &&& 63).toInt = 34 ∨ (xs i &&& 63).toInt = 35 ∨ (xs i &&& 63).toInt = 36 ∨ (xs i &&& 63).toInt = 37 ∨ (xs i &&& 63).toInt = 38 ∨ (xs i &&& 63).toInt = 39 ∨ (xs i &&& 63).toInt = 40 ∨ (xs i &&& 63).toInt = 41 ∨ (xs i &&& 63).toInt = 42 ∨ (xs i &&& 63).toInt = 43 ∨ (xs i &&& 63).toInt = 44 by omega) with q | q | q | q | q | q | q | q | q | q | q | q | q | q | q | q | q | q | q | q | q | q | q | q | q | q | q | q | q | q | q | q | q | q | q | q | q | q | q | q | q | q | q | q | q
    · exact rl_tabIn (pc := 33) C 0 228 dL_law_33 q (by decide) (by decide) rfl (by decide) (lc_dust C hi hn h kk)
    · exact rl_tabIn (pc := 33) C 1 261 dL_law_33 q (by decide) (by decide) rfl (by decide) (lc_surface C hi hn h kk)
    · exact rl_tabIn (pc := 33) C 2 294 dL_law_33 q (by decide) (by decide) rfl (by decide) (lc_law C hi hn h kk)
    · exact rl_tabIn (pc := 33) C 3 327 dL_law_33 q (by decide) (by decide) rfl (by decide) (lc_tenant C hi hn h kk)
    · exact rl_tabIn (pc := 33) C 4 360 dL_law_33 q (by decide) (by decide) rfl (by decide) (lc_of C hi hn h kk)
    · exact rl_tabIn (pc := 33) C 5 393 dL_law_33 q (by decide) (by decide) rfl (by decide) (lc_change C hi hn h kk)
    · exact rl_tabIn (pc := 33) C 6 436 dL_law_33 q (by decide) (by decide) rfl (by decide) (lc_mark C hi hn h kk)
    · exact rl_tabIn (pc := 33) C 7 469 dL_law_33 q (by decide) (by decide) rfl (by decide) (lc_charter C hi hn h kk)
    · exact rl_tabIn (pc := 33) C 8 512 dL_law_33 q (by decide) (by decide) rfl (by decide) (lc_swap C hi hn h kk)
    · exact rl_tabIn (pc := 33) C 9 545 dL_law_33 q (by decide) (by decide) rfl (by decide) (lc_sneeze C hi hn h kk)
    · exact rl_tabIn (pc := 33) C 10 578 dL_law_33 q (by decide) (by decide) rfl (by decide) (lc_go C hi hn h kk)
    · exact rl_tabIn (pc := 33) C 11 601 dL_law_33 q (by decide) (by decide) rfl (by decide) (lc_now C hi hn h kk)
    · exact rl_tabIn (pc := 33) C 12 624 dL_law_33 q (by decide) (by decide) rfl (by decide) (lc_ahead C hi hn h kk)
    · exact rl_tabIn (pc := 33) C 13 657 dL_law_33 q (by decide) (by decide) rfl (by decide) (lc_goods C hi hn h kk)
    · exact rl_tabIn (pc := 33) C 14 690 dL_law_33 q (by decide) (by decide) rfl (by decide) (lc_holder C hi hn h kk)
    · exact rl_tabIn (pc := 33) C 15 723 dL_law_33 q (by decide) (by decide) rfl (by decide) (lc_when C hi hn h kk)
    · exact rl_tabIn (pc := 33) C 16 756 dL_law_33 q (by decide) (by decide) rfl (by decide) (lc_clash C hi hn h kk)
    · exact rl_tabIn (pc := 33) C 17 769 dL_law_33 q (by decide) (by decide) rfl (by decide) (lc_rich C hi hn h kk)
    · exact rl_tabIn (pc := 33) C 18 802 dL_law_33 q (by decide) (by decide) rfl (by decide) (lc_seat C hi hn h kk)
    · exact rl_tabIn (pc := 33) C 19 835 dL_law_33 q (by decide) (by decide) rfl (by decide) (lc_kindFor C hi hn h kk)
    · exact rl_tabIn (pc := 33) C 20 868 dL_law_33 q (by decide) (by decide) rfl (by decide) (lc_draught C hi hn h kk)
    · exact rl_tabIn (pc := 33) C 21 901 dL_law_33 q (by decide) (by decide) rfl (by decide) (lc_fallFor C hi hn h kk)
    · exact rl_tabIn (pc := 33) C 22 934 dL_law_33 q (by decide) (by decide) rfl (by decide) (lc_swapFor C hi hn h kk)
    · exact rl_tabIn (pc := 33) C 23 967 dL_law_33 q (by decide) (by decide) rfl (by decide) (lc_brooms C hi hn h kk)
    · exact rl_tabIn (pc := 33) C 24 1000 dL_law_33 q (by decide) (by decide) rfl (by decide) (lc_without C hi hn h kk)
    · exact rl_tabIn (pc := 33) C 25 1023 dL_law_33 q (by decide) (by decide) rfl (by decide) (lc_fits C hi hn h kk)
    · exact rl_tabIn (pc := 33) C 26 1056 dL_law_33 q (by decide) (by decide) rfl (by decide) (lc_kinds C hi hn h kk)
    · exact rl_tabIn (pc := 33) C 27 1089 dL_law_33 q (by decide) (by decide) rfl (by decide) (lc_sneezes C hi hn h kk)
    · exact rl_tabIn (pc := 33) C 28 1112 dL_law_33 q (by decide) (by decide) rfl (by decide) (lc_odds C hi hn h kk)
    · exact rl_tabIn (pc := 33) C 29 1146 dL_law_33 q (by decide) (by decide) rfl (by decide) (lc_seed C hi hn h kk)
    · exact rl_tabIn (pc := 33) C 30 1169 dL_law_33 q (by decide) (by decide) rfl (by decide) (lc_feed C hi hn h kk)
    · exact rl_tabIn (pc := 33) C 31 1202 dL_law_33 q (by decide) (by decide) rfl (by decide) (lc_wipe C hi hn h kk)
    · exact rl_tabIn (pc := 33) C 32 1215 dL_law_33 q (by decide) (by decide) rfl (by decide) (lc_text C hi hn h kk)
    · exact rl_tabIn (pc := 33) C 33 1228 dL_law_33 q (by decide) (by decide) rfl (by decide) (lc_hold C hi hn h kk)
    · exact rl_tabIn (pc := 33) C 34 1261 dL_law_33 q (by decide) (by decide) rfl (by decide) (lc_as C hi hn h kk)
    · exact rl_tabIn (pc := 33) C 35 1294 dL_law_33 q (by decide) (by decide) rfl (by decide) (lc_sheet C hi hn h kk)
    · exact rl_tabIn (pc := 33) C 36 1337 dL_law_33 q (by decide) (by decide) rfl (by decide) (lc_write C hi hn h kk)
    · exact rl_tabIn (pc := 33) C 37 1380 dL_law_33 q (by decide) (by decide) rfl (by decide) (lc_copy C hi hn h kk)
    · exact rl_tabIn (pc := 33) C 38 1443 dL_law_33 q (by decide) (by decide) rfl (by decide) (lc_load C hi hn h kk)
    · exact rl_tabIn (pc := 33) C 39 1466 dL_law_33 q (by decide) (by decide) rfl (by decide) (lc_judge C hi hn h kk)
    · exact rl_tabIn (pc := 33) C 40 1489 dL_law_33 q (by decide) (by decide) rfl (by decide) (lc_image C hi hn h kk)
    · exact rl_tabIn (pc := 33) C 41 1502 dL_law_33 q (by decide) (by decide) rfl (by decide) (lc_undo C hi hn h kk)
    · exact rl_tabIn (pc := 33) C 42 1515 dL_law_33 q (by decide) (by decide) rfl (by decide) (lc_tear C hi hn h kk)
    · exact rl_tabIn (pc := 33) C 43 1528 dL_law_33 q (by decide) (by decide) rfl (by decide) (lc_count C hi hn h kk)
    · exact rl_tabIn (pc := 33) C 44 1551 dL_law_33 q (by decide) (by decide) rfl (by decide) (lc_status C hi hn h kk)
theorem law_loop {g : Gt} {p : Program} {e : Env} {s : State} {m : MethodId} {below : List Frame} {meth : Method} {c : Code} {b L nc ns : Nat} {xs : Nat → Int32} (C : CL g p s m meth c b L xs) (hn : nc ≤ 600000 ∧ ns ≤ 7302250) : ∀ (n i : Nat) (σ : Sg), L ≤ i + n → i ≤ 3072 → Rel σ → JL g p e s m below meth c b nc ns 18 (LV g b i) [] σ
  | 0, i, σ, h1, h2, h => rl_head C h2 hn (fun q => absurd q (by omega))
  | n + 1, i, σ, h1, h2, h => rl_head C h2 hn (fun q => law_body C q hn h (fun t ht => rl_next C (law_loop C hn n (i + 6) t (by omega) (by have := C.2.2.2.2.2.1.2.2; omega) ht)))
