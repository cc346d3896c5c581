section LCA
variable {p : Program} {l : Launch} {e : Env} {s : State} {m : MethodId} {below : List Frame} {meth : Method} {c : Code} {b L : Nat} {xs : Nat → Int32} {ac am : Nat → Nat} {D : va_G} {yc ym : Nat → ClassId} {kc ks : Nat} {i : Nat} {σ τ : xH} {S : St}
set_option maxHeartbeats 2000000 in
theorem law_thing (B : lB p s m meth c b L xs ac am D yc ym kc ks) (h6 : i + 6 ≤ L) (hS : cS σ S) (hM : mS τ S) (hO : sOk S) (hk : ∀ σ τ S, cS σ S → mS τ S → sOk S → Lw p l e s m below meth c b ac am D yc ym kc ks 1452 i [] σ τ) : Lw p l e s m below meth c b ac am D yc ym kc ks 204 i [] σ τ := by
  refine r_x B dL_law_204 ?_
  refine r_s (k := 1) B (by omega) dL_law_205 dL_law_206 dL_law_207 dL_law_208 dL_law_209 ?_
  refine r_s (k := 2) B (by omega) dL_law_210 dL_law_211 dL_law_212 dL_law_213 dL_law_214 ?_
  refine r_s (k := 3) B (by omega) dL_law_215 dL_law_216 dL_law_217 dL_law_218 dL_law_219 ?_
  refine r_cC3 B dL_law_220 okX4_thing ml_L_13 rfl (Nat.le_of_ble_eq_true rfl) ⟨by decide, by decide⟩ (Nat.le_of_ble_eq_true rfl) (c_X4_thing hS _ _ _ (fun σ1 hS1 => ?_))
  refine r_m B dL_law_223 ?_
  refine r_s (k := 1) B (by omega) dL_law_224 dL_law_225 dL_law_226 dL_law_227 dL_law_228 ?_
  refine r_s (k := 2) B (by omega) dL_law_229 dL_law_230 dL_law_231 dL_law_232 dL_law_233 ?_
  refine r_s (k := 3) B (by omega) dL_law_234 dL_law_235 dL_law_236 dL_law_237 dL_law_238 ?_
  refine r_cM3 B dL_law_239 okX5_thing ml_L_17 rfl (Nat.le_of_ble_eq_true rfl) ⟨by decide, by decide⟩ (Nat.le_of_ble_eq_true rfl) (c_X5_thing hM hO.1 _ _ _ (fun τ1 hM1 => ?_))
  refine r_eq (tgt := 1452) B dL_law_242 rfl rfl ?_
  exact hk _ _ _ hS1 hM1 (k_thing hO _ _ _)
set_option maxHeartbeats 2000000 in
theorem law_stretch (B : lB p s m meth c b L xs ac am D yc ym kc ks) (h6 : i + 6 ≤ L) (hS : cS σ S) (hM : mS τ S) (hO : sOk S) (hk : ∀ σ τ S, cS σ S → mS τ S → sOk S → Lw p l e s m below meth c b ac am D yc ym kc ks 1452 i [] σ τ) : Lw p l e s m below meth c b ac am D yc ym kc ks 247 i [] σ τ := by
  refine r_x B dL_law_247 ?_
  refine r_s (k := 1) B (by omega) dL_law_248 dL_law_249 dL_law_250 dL_law_251 dL_law_252 ?_
  refine r_s (k := 2) B (by omega) dL_law_253 dL_law_254 dL_law_255 dL_law_256 dL_law_257 ?_
  refine r_s (k := 3) B (by omega) dL_law_258 dL_law_259 dL_law_260 dL_law_261 dL_law_262 ?_
  refine r_cC3 B dL_law_263 okX4_stretch ml_L_18 rfl (Nat.le_of_ble_eq_true rfl) ⟨by decide, by decide⟩ (Nat.le_of_ble_eq_true rfl) (c_X4_stretch hS _ _ _ (fun σ1 hS1 => ?_))
  refine r_m B dL_law_266 ?_
  refine r_s (k := 1) B (by omega) dL_law_267 dL_law_268 dL_law_269 dL_law_270 dL_law_271 ?_
  refine r_s (k := 2) B (by omega) dL_law_272 dL_law_273 dL_law_274 dL_law_275 dL_law_276 ?_
  refine r_s (k := 3) B (by omega) dL_law_277 dL_law_278 dL_law_279 dL_law_280 dL_law_281 ?_
  refine r_cM3 B dL_law_282 okX5_stretch ml_L_21 rfl (Nat.le_of_ble_eq_true rfl) ⟨by decide, by decide⟩ (Nat.le_of_ble_eq_true rfl) (c_X5_stretch hM hO.1 _ _ _ (fun τ1 hM1 => ?_))
  refine r_eq (tgt := 1452) B dL_law_285 rfl rfl ?_
  exact hk _ _ _ hS1 hM1 (k_stretch hO _ _ _)
set_option maxHeartbeats 2000000 in
theorem law_high (B : lB p s m meth c b L xs ac am D yc ym kc ks) (h6 : i + 6 ≤ L) (hS : cS σ S) (hM : mS τ S) (hO : sOk S) (hk : ∀ σ τ S, cS σ S → mS τ S → sOk S → Lw p l e s m below meth c b ac am D yc ym kc ks 1452 i [] σ τ) : Lw p l e s m below meth c b ac am D yc ym kc ks 290 i [] σ τ := by
  refine r_x B dL_law_290 ?_
  refine r_s (k := 1) B (by omega) dL_law_291 dL_law_292 dL_law_293 dL_law_294 dL_law_295 ?_
  refine r_cC1 B dL_law_296 okX4_high ml_L_22 rfl (Nat.le_of_ble_eq_true rfl) ⟨by decide, by decide⟩ (Nat.le_of_ble_eq_true rfl) (c_X4_high hS _ (fun σ1 hS1 => ?_))
  refine r_m B dL_law_299 ?_
  refine r_s (k := 1) B (by omega) dL_law_300 dL_law_301 dL_law_302 dL_law_303 dL_law_304 ?_
  refine r_cM1 B dL_law_305 okX5_high ml_L_26 rfl (Nat.le_of_ble_eq_true rfl) ⟨by decide, by decide⟩ (Nat.le_of_ble_eq_true rfl) (c_X5_high hM hO.1 _ (fun τ1 hM1 => ?_))
  refine r_eq (tgt := 1452) B dL_law_308 rfl rfl ?_
  exact hk _ _ _ hS1 hM1 (k_high hO _)
set_option maxHeartbeats 2000000 in
theorem law_street (B : lB p s m meth c b L xs ac am D yc ym kc ks) (h6 : i + 6 ≤ L) (hS : cS σ S) (hM : mS τ S) (hO : sOk S) (hk : ∀ σ τ S, cS σ S → mS τ S → sOk S → Lw p l e s m below meth c b ac am D yc ym kc ks 1452 i [] σ τ) : Lw p l e s m below meth c b ac am D yc ym kc ks 313 i [] σ τ := by
  refine r_x B dL_law_313 ?_
  refine r_s (k := 1) B (by omega) dL_law_314 dL_law_315 dL_law_316 dL_law_317 dL_law_318 ?_
  refine r_s (k := 2) B (by omega) dL_law_319 dL_law_320 dL_law_321 dL_law_322 dL_law_323 ?_
  refine r_cC2 B dL_law_324 okX4_street ml_L_27 rfl (Nat.le_of_ble_eq_true rfl) ⟨by decide, by decide⟩ (Nat.le_of_ble_eq_true rfl) (c_X4_street hS _ _ (fun σ1 hS1 => ?_))
  refine r_m B dL_law_327 ?_
  refine r_s (k := 1) B (by omega) dL_law_328 dL_law_329 dL_law_330 dL_law_331 dL_law_332 ?_
  refine r_s (k := 2) B (by omega) dL_law_333 dL_law_334 dL_law_335 dL_law_336 dL_law_337 ?_
  refine r_cM2 B dL_law_338 okX5_street ml_L_31 rfl (Nat.le_of_ble_eq_true rfl) ⟨by decide, by decide⟩ (Nat.le_of_ble_eq_true rfl) (c_X5_street hM hO.1 _ _ (fun τ1 hM1 => ?_))
  refine r_eq (tgt := 1452) B dL_law_341 rfl rfl ?_
  exact hk _ _ _ hS1 hM1 (k_street hO _ _)
set_option maxHeartbeats 2000000 in
theorem law_now (B : lB p s m meth c b L xs ac am D yc ym kc ks) (h6 : i + 6 ≤ L) (hS : cS σ S) (hM : mS τ S) (hO : sOk S) (hk : ∀ σ τ S, cS σ S → mS τ S → sOk S → Lw p l e s m below meth c b ac am D yc ym kc ks 1452 i [] σ τ) : Lw p l e s m below meth c b ac am D yc ym kc ks 346 i [] σ τ := by
  refine r_x B dL_law_346 ?_
  refine r_s (k := 1) B (by omega) dL_law_347 dL_law_348 dL_law_349 dL_law_350 dL_law_351 ?_
  refine r_cC1 B dL_law_352 okX4_now ml_L_32 rfl (Nat.le_of_ble_eq_true rfl) ⟨by decide, by decide⟩ (Nat.le_of_ble_eq_true rfl) (c_X4_now hS _ (fun σ1 hS1 => ?_))
  refine r_m B dL_law_355 ?_
  refine r_s (k := 1) B (by omega) dL_law_356 dL_law_357 dL_law_358 dL_law_359 dL_law_360 ?_
  refine r_cM1 B dL_law_361 okX5_now ml_L_35 rfl (Nat.le_of_ble_eq_true rfl) ⟨by decide, by decide⟩ (Nat.le_of_ble_eq_true rfl) (c_X5_now hM hO.1 _ (fun τ1 hM1 => ?_))
  refine r_eq (tgt := 1452) B dL_law_364 rfl rfl ?_
  exact hk _ _ _ hS1 hM1 (k_now hO _)
set_option maxHeartbeats 2000000 in
theorem law_driver (B : lB p s m meth c b L xs ac am D yc ym kc ks) (h6 : i + 6 ≤ L) (hS : cS σ S) (hM : mS τ S) (hO : sOk S) (hk : ∀ σ τ S, cS σ S → mS τ S → sOk S → Lw p l e s m below meth c b ac am D yc ym kc ks 1452 i [] σ τ) : Lw p l e s m below meth c b ac am D yc ym kc ks 369 i [] σ τ := by
  refine r_x B dL_law_369 ?_
  refine r_s (k := 1) B (by omega) dL_law_370 dL_law_371 dL_law_372 dL_law_373 dL_law_374 ?_
  refine r_cC1 B dL_law_375 okX4_driver ml_L_36 rfl (Nat.le_of_ble_eq_true rfl) ⟨by decide, by decide⟩ (Nat.le_of_ble_eq_true rfl) (c_X4_driver hS _ (fun σ1 hS1 => ?_))
  refine r_m B dL_law_378 ?_
  refine r_s (k := 1) B (by omega) dL_law_379 dL_law_380 dL_law_381 dL_law_382 dL_law_383 ?_
  refine r_cM1 B dL_law_384 okX5_driver ml_L_39 rfl (Nat.le_of_ble_eq_true rfl) ⟨by decide, by decide⟩ (Nat.le_of_ble_eq_true rfl) (c_X5_driver hM hO.1 _ (fun τ1 hM1 => ?_))
  refine r_eq (tgt := 1452) B dL_law_387 rfl rfl ?_
  exact hk _ _ _ hS1 hM1 (k_driver hO _)
set_option maxHeartbeats 2000000 in
theorem law_of (B : lB p s m meth c b L xs ac am D yc ym kc ks) (h6 : i + 6 ≤ L) (hS : cS σ S) (hM : mS τ S) (hO : sOk S) (hk : ∀ σ τ S, cS σ S → mS τ S → sOk S → Lw p l e s m below meth c b ac am D yc ym kc ks 1452 i [] σ τ) : Lw p l e s m below meth c b ac am D yc ym kc ks 392 i [] σ τ := by
  refine r_x B dL_law_392 ?_
  refine r_s (k := 1) B (by omega) dL_law_393 dL_law_394 dL_law_395 dL_law_396 dL_law_397 ?_
  refine r_s (k := 2) B (by omega) dL_law_398 dL_law_399 dL_law_400 dL_law_401 dL_law_402 ?_
  refine r_cC2 B dL_law_403 okX4_of ml_L_40 rfl (Nat.le_of_ble_eq_true rfl) ⟨by decide, by decide⟩ (Nat.le_of_ble_eq_true rfl) (c_X4_of hS _ _ (fun σ1 hS1 => ?_))
  refine r_m B dL_law_406 ?_
  refine r_s (k := 1) B (by omega) dL_law_407 dL_law_408 dL_law_409 dL_law_410 dL_law_411 ?_
  refine r_s (k := 2) B (by omega) dL_law_412 dL_law_413 dL_law_414 dL_law_415 dL_law_416 ?_
  refine r_cM2 B dL_law_417 okX5_of ml_L_43 rfl (Nat.le_of_ble_eq_true rfl) ⟨by decide, by decide⟩ (Nat.le_of_ble_eq_true rfl) (c_X5_of hM hO.1 _ _ (fun τ1 hM1 => ?_))
  refine r_eq (tgt := 1452) B dL_law_420 rfl rfl ?_
  exact hk _ _ _ hS1 hM1 (k_of hO _ _)
set_option maxHeartbeats 2000000 in
theorem law_set (B : lB p s m meth c b L xs ac am D yc ym kc ks) (h6 : i + 6 ≤ L) (hS : cS σ S) (hM : mS τ S) (hO : sOk S) (hk : ∀ σ τ S, cS σ S → mS τ S → sOk S → Lw p l e s m below meth c b ac am D yc ym kc ks 1452 i [] σ τ) : Lw p l e s m below meth c b ac am D yc ym kc ks 425 i [] σ τ := by
  refine r_x B dL_law_425 ?_
  refine r_s (k := 1) B (by omega) dL_law_426 dL_law_427 dL_law_428 dL_law_429 dL_law_430 ?_
  refine r_s (k := 2) B (by omega) dL_law_431 dL_law_432 dL_law_433 dL_law_434 dL_law_435 ?_
  refine r_s (k := 3) B (by omega) dL_law_436 dL_law_437 dL_law_438 dL_law_439 dL_law_440 ?_
  refine r_cC3 B dL_law_441 okX4_set ml_L_44 rfl (Nat.le_of_ble_eq_true rfl) ⟨by decide, by decide⟩ (Nat.le_of_ble_eq_true rfl) (c_X4_set hS _ _ _ (fun σ1 hS1 => ?_))
  refine r_m B dL_law_444 ?_
  refine r_s (k := 1) B (by omega) dL_law_445 dL_law_446 dL_law_447 dL_law_448 dL_law_449 ?_
  refine r_s (k := 2) B (by omega) dL_law_450 dL_law_451 dL_law_452 dL_law_453 dL_law_454 ?_
  refine r_s (k := 3) B (by omega) dL_law_455 dL_law_456 dL_law_457 dL_law_458 dL_law_459 ?_
  refine r_cM3 B dL_law_460 okX5_set ml_L_47 rfl (Nat.le_of_ble_eq_true rfl) ⟨by decide, by decide⟩ (Nat.le_of_ble_eq_true rfl) (c_X5_set hM hO.1 _ _ _ (fun τ1 hM1 => ?_))
  refine r_eq (tgt := 1452) B dL_law_463 rfl rfl ?_
  exact hk _ _ _ hS1 hM1 (k_set hO _ _ _)
set_option maxHeartbeats 2000000 in
theorem law_turn (B : lB p s m meth c b L xs ac am D yc ym kc ks) (h6 : i + 6 ≤ L) (hS : cS σ S) (hM : mS τ S) (hO : sOk S) (hk : ∀ σ τ S, cS σ S → mS τ S → sOk S → Lw p l e s m below meth c b ac am D yc ym kc ks 1452 i [] σ τ) : Lw p l e s m below meth c b ac am D yc ym kc ks 468 i [] σ τ := by
  refine r_x B dL_law_468 ?_
  refine r_s (k := 1) B (by omega) dL_law_469 dL_law_470 dL_law_471 dL_law_472 dL_law_473 ?_
  refine r_s (k := 2) B (by omega) dL_law_474 dL_law_475 dL_law_476 dL_law_477 dL_law_478 ?_
  refine r_cC2 B dL_law_479 okX4_turn ml_L_48 rfl (Nat.le_of_ble_eq_true rfl) ⟨by decide, by decide⟩ (Nat.le_of_ble_eq_true rfl) (c_X4_turn hS _ _ (fun σ1 hS1 => ?_))
  refine r_m B dL_law_482 ?_
  refine r_s (k := 1) B (by omega) dL_law_483 dL_law_484 dL_law_485 dL_law_486 dL_law_487 ?_
  refine r_s (k := 2) B (by omega) dL_law_488 dL_law_489 dL_law_490 dL_law_491 dL_law_492 ?_
  refine r_cM2 B dL_law_493 okX5_turn ml_L_51 rfl (Nat.le_of_ble_eq_true rfl) ⟨by decide, by decide⟩ (Nat.le_of_ble_eq_true rfl) (c_X5_turn hM hO.1 _ _ (fun τ1 hM1 => ?_))
  refine r_eq (tgt := 1452) B dL_law_496 rfl rfl ?_
  exact hk _ _ _ hS1 hM1 (k_turn hO _ _)
set_option maxHeartbeats 2000000 in
theorem law_as (B : lB p s m meth c b L xs ac am D yc ym kc ks) (h6 : i + 6 ≤ L) (hS : cS σ S) (hM : mS τ S) (hO : sOk S) (hk : ∀ σ τ S, cS σ S → mS τ S → sOk S → Lw p l e s m below meth c b ac am D yc ym kc ks 1452 i [] σ τ) : Lw p l e s m below meth c b ac am D yc ym kc ks 501 i [] σ τ := by
  refine r_x B dL_law_501 ?_
  refine r_s (k := 1) B (by omega) dL_law_502 dL_law_503 dL_law_504 dL_law_505 dL_law_506 ?_
  refine r_s (k := 2) B (by omega) dL_law_507 dL_law_508 dL_law_509 dL_law_510 dL_law_511 ?_
  refine r_cC2 B dL_law_512 okX4_as ml_L_52 rfl (Nat.le_of_ble_eq_true rfl) ⟨by decide, by decide⟩ (Nat.le_of_ble_eq_true rfl) (c_X4_as hS hO.1 _ _ (fun σ1 hS1 => ?_))
  refine r_m B dL_law_515 ?_
  refine r_s (k := 1) B (by omega) dL_law_516 dL_law_517 dL_law_518 dL_law_519 dL_law_520 ?_
  refine r_s (k := 2) B (by omega) dL_law_521 dL_law_522 dL_law_523 dL_law_524 dL_law_525 ?_
  refine r_cM2 B dL_law_526 okX5_as ml_L_55 rfl (Nat.le_of_ble_eq_true rfl) ⟨by decide, by decide⟩ (Nat.le_of_ble_eq_true rfl) (c_X5_as hM hO.1 _ _ (fun τ1 hM1 => ?_))
  refine r_eq (tgt := 1452) B dL_law_529 rfl rfl ?_
  exact hk _ _ _ hS1 hM1 (k_as hO _ _)
set_option maxHeartbeats 2000000 in
theorem law_slows (B : lB p s m meth c b L xs ac am D yc ym kc ks) (h6 : i + 6 ≤ L) (hS : cS σ S) (hM : mS τ S) (hO : sOk S) (hk : ∀ σ τ S, cS σ S → mS τ S → sOk S → Lw p l e s m below meth c b ac am D yc ym kc ks 1452 i [] σ τ) : Lw p l e s m below meth c b ac am D yc ym kc ks 534 i [] σ τ := by
  refine r_x B dL_law_534 ?_
  refine r_s (k := 1) B (by omega) dL_law_535 dL_law_536 dL_law_537 dL_law_538 dL_law_539 ?_
  refine r_s (k := 2) B (by omega) dL_law_540 dL_law_541 dL_law_542 dL_law_543 dL_law_544 ?_
  refine r_s (k := 3) B (by omega) dL_law_545 dL_law_546 dL_law_547 dL_law_548 dL_law_549 ?_
  refine r_cC3 B dL_law_550 okX4_slows ml_L_56 rfl (Nat.le_of_ble_eq_true rfl) ⟨by decide, by decide⟩ (Nat.le_of_ble_eq_true rfl) (c_X4_slows hS _ _ _ (fun σ1 hS1 => ?_))
  refine r_m B dL_law_553 ?_
  refine r_s (k := 1) B (by omega) dL_law_554 dL_law_555 dL_law_556 dL_law_557 dL_law_558 ?_
  refine r_s (k := 2) B (by omega) dL_law_559 dL_law_560 dL_law_561 dL_law_562 dL_law_563 ?_
  refine r_s (k := 3) B (by omega) dL_law_564 dL_law_565 dL_law_566 dL_law_567 dL_law_568 ?_
  refine r_cM3 B dL_law_569 okX5_slows ml_L_59 rfl (Nat.le_of_ble_eq_true rfl) ⟨by decide, by decide⟩ (Nat.le_of_ble_eq_true rfl) (c_X5_slows hM hO.1 _ _ _ (fun τ1 hM1 => ?_))
  refine r_eq (tgt := 1452) B dL_law_572 rfl rfl ?_
  exact hk _ _ _ hS1 hM1 (k_slows hO _ _ _)
set_option maxHeartbeats 2000000 in
theorem law_quick (B : lB p s m meth c b L xs ac am D yc ym kc ks) (h6 : i + 6 ≤ L) (hS : cS σ S) (hM : mS τ S) (hO : sOk S) (hk : ∀ σ τ S, cS σ S → mS τ S → sOk S → Lw p l e s m below meth c b ac am D yc ym kc ks 1452 i [] σ τ) : Lw p l e s m below meth c b ac am D yc ym kc ks 577 i [] σ τ := by
  refine r_x B dL_law_577 ?_
  refine r_s (k := 1) B (by omega) dL_law_578 dL_law_579 dL_law_580 dL_law_581 dL_law_582 ?_
  refine r_s (k := 2) B (by omega) dL_law_583 dL_law_584 dL_law_585 dL_law_586 dL_law_587 ?_
  refine r_s (k := 3) B (by omega) dL_law_588 dL_law_589 dL_law_590 dL_law_591 dL_law_592 ?_
  refine r_cC3 B dL_law_593 okX4_quick ml_L_60 rfl (Nat.le_of_ble_eq_true rfl) ⟨by decide, by decide⟩ (Nat.le_of_ble_eq_true rfl) (c_X4_quick hS _ _ _ (fun σ1 hS1 => ?_))
  refine r_m B dL_law_596 ?_
  refine r_s (k := 1) B (by omega) dL_law_597 dL_law_598 dL_law_599 dL_law_600 dL_law_601 ?_
  refine r_s (k := 2) B (by omega) dL_law_602 dL_law_603 dL_law_604 dL_law_605 dL_law_606 ?_
  refine r_s (k := 3) B (by omega) dL_law_607 dL_law_608 dL_law_609 dL_law_610 dL_law_611 ?_
  refine r_cM3 B dL_law_612 okX5_quick ml_L_63 rfl (Nat.le_of_ble_eq_true rfl) ⟨by decide, by decide⟩ (Nat.le_of_ble_eq_true rfl) (c_X5_quick hM hO.1 _ _ _ (fun τ1 hM1 => ?_))
  refine r_eq (tgt := 1452) B dL_law_615 rfl rfl ?_
  exact hk _ _ _ hS1 hM1 (k_quick hO _ _ _)
set_option maxHeartbeats 2000000 in
theorem law_takes (B : lB p s m meth c b L xs ac am D yc ym kc ks) (h6 : i + 6 ≤ L) (hS : cS σ S) (hM : mS τ S) (hO : sOk S) (hk : ∀ σ τ S, cS σ S → mS τ S → sOk S → Lw p l e s m below meth c b ac am D yc ym kc ks 1452 i [] σ τ) : Lw p l e s m below meth c b ac am D yc ym kc ks 620 i [] σ τ := by
  refine r_x B dL_law_620 ?_
  refine r_s (k := 1) B (by omega) dL_law_621 dL_law_622 dL_law_623 dL_law_624 dL_law_625 ?_
  refine r_s (k := 2) B (by omega) dL_law_626 dL_law_627 dL_law_628 dL_law_629 dL_law_630 ?_
  refine r_cC2 B dL_law_631 okX4_takes ml_L_64 rfl (Nat.le_of_ble_eq_true rfl) ⟨by decide, by decide⟩ (Nat.le_of_ble_eq_true rfl) (c_X4_takes hS _ _ (fun σ1 hS1 => ?_))
  refine r_m B dL_law_634 ?_
  refine r_s (k := 1) B (by omega) dL_law_635 dL_law_636 dL_law_637 dL_law_638 dL_law_639 ?_
  refine r_s (k := 2) B (by omega) dL_law_640 dL_law_641 dL_law_642 dL_law_643 dL_law_644 ?_
  refine r_cM2 B dL_law_645 okX5_takes ml_L_67 rfl (Nat.le_of_ble_eq_true rfl) ⟨by decide, by decide⟩ (Nat.le_of_ble_eq_true rfl) (c_X5_takes hM hO.1 _ _ (fun τ1 hM1 => ?_))
  refine r_eq (tgt := 1452) B dL_law_648 rfl rfl ?_
  exact hk _ _ _ hS1 hM1 (k_takes hO _ _)
end LCA
