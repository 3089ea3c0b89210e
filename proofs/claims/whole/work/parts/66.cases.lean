-- the law: its cases
section LK
variable {p : Program} {l : Launch} {e : Env} {s : State} {m : MethodId} {below : List Frame} {meth : Method} {c : Code} {b L : Nat} {xs : Nat → Int32} {g : GT} {M : Mem} {i : Nat}
set_option maxRecDepth 20000 in
theorem law_0 (X : LX p s m meth c b L xs g) (hR : Rel M) (hi : i + 6 ≤ L) (k : ∀ M2 : Mem, Rel M2 → LK p l e s m below meth c b g M2 1253 (lo0 g b i) []) : LK p l e s m below meth c b g M 188 (lo0 g b i) [] := by
  refine l_aload X 189 2 rfl rfl dL_188 rfl ?_
  refine l_arg X hi 1 194 (by decide) (by decide) dL_189 dL_190 dL_191 dL_192 dL_193 rfl ?_
  refine l_arg X hi 2 199 (by decide) (by decide) dL_194 dL_195 dL_196 dL_197 dL_198 rfl ?_
  refine l_arg X hi 3 204 (by decide) (by decide) dL_199 dL_200 dL_201 dL_202 dL_203 rfl ?_
  refine l_call X 207 (As := [.int (xs (i + 1)), .int (xs (i + 2)), .int (xs (i + 3))]) (st := []) 90 (by decide) (ce_90 g _) rfl rfl mwL_13 vlX9_plough (r_plough l g hR ((xs (i + 1))) ((xs (i + 2))) ((xs (i + 3)))) mlX9_plough (by decide) (by decide) rfl rfl (Nat.le_of_ble_eq_true rfl) dL_204 rfl (fun r M1 hM1 => ?_)
  refine l_aload X 208 3 rfl rfl dL_207 rfl ?_
  refine l_arg X hi 1 213 (by decide) (by decide) dL_208 dL_209 dL_210 dL_211 dL_212 rfl ?_
  refine l_arg X hi 2 218 (by decide) (by decide) dL_213 dL_214 dL_215 dL_216 dL_217 rfl ?_
  refine l_arg X hi 3 223 (by decide) (by decide) dL_218 dL_219 dL_220 dL_221 dL_222 rfl ?_
  refine l_call X 226 (As := [.int (xs (i + 1)), .int (xs (i + 2)), .int (xs (i + 3))]) (st := [.int r]) 91 (by decide) (ce_91 g _) rfl rfl mwL_17 vlX10_plough hM1 mlX10_plough (by decide) (by decide) rfl rfl (Nat.le_of_ble_eq_true rfl) dL_223 rfl (fun r2 M2 hM2 => ?_)
  obtain ⟨rfl, hR2⟩ := hM2
  exact l_eq X 1253 dL_226 (by decide) (k M2 hR2)
set_option maxRecDepth 20000 in
theorem law_1 (X : LX p s m meth c b L xs g) (hR : Rel M) (hi : i + 6 ≤ L) (k : ∀ M2 : Mem, Rel M2 → LK p l e s m below meth c b g M2 1253 (lo0 g b i) []) : LK p l e s m below meth c b g M 231 (lo0 g b i) [] := by
  refine l_aload X 232 2 rfl rfl dL_231 rfl ?_
  refine l_arg X hi 1 237 (by decide) (by decide) dL_232 dL_233 dL_234 dL_235 dL_236 rfl ?_
  refine l_arg X hi 2 242 (by decide) (by decide) dL_237 dL_238 dL_239 dL_240 dL_241 rfl ?_
  refine l_call X 245 (As := [.int (xs (i + 1)), .int (xs (i + 2))]) (st := []) 90 (by decide) (ce_90 g _) rfl rfl mwL_18 vlX9_furrowIs (r_furrowIs l g hR ((xs (i + 1))) ((xs (i + 2)))) mlX9_furrowIs (by decide) (by decide) rfl rfl (Nat.le_of_ble_eq_true rfl) dL_242 rfl (fun r M1 hM1 => ?_)
  refine l_aload X 246 3 rfl rfl dL_245 rfl ?_
  refine l_arg X hi 1 251 (by decide) (by decide) dL_246 dL_247 dL_248 dL_249 dL_250 rfl ?_
  refine l_arg X hi 2 256 (by decide) (by decide) dL_251 dL_252 dL_253 dL_254 dL_255 rfl ?_
  refine l_call X 259 (As := [.int (xs (i + 1)), .int (xs (i + 2))]) (st := [.int r]) 91 (by decide) (ce_91 g _) rfl rfl mwL_22 vlX10_furrowIs hM1 mlX10_furrowIs (by decide) (by decide) rfl rfl (Nat.le_of_ble_eq_true rfl) dL_256 rfl (fun r2 M2 hM2 => ?_)
  obtain ⟨rfl, hR2⟩ := hM2
  exact l_eq X 1253 dL_259 (by decide) (k M2 hR2)
set_option maxRecDepth 20000 in
theorem law_2 (X : LX p s m meth c b L xs g) (hR : Rel M) (hi : i + 6 ≤ L) (k : ∀ M2 : Mem, Rel M2 → LK p l e s m below meth c b g M2 1253 (lo0 g b i) []) : LK p l e s m below meth c b g M 264 (lo0 g b i) [] := by
  refine l_aload X 265 2 rfl rfl dL_264 rfl ?_
  refine l_arg X hi 1 270 (by decide) (by decide) dL_265 dL_266 dL_267 dL_268 dL_269 rfl ?_
  refine l_arg X hi 2 275 (by decide) (by decide) dL_270 dL_271 dL_272 dL_273 dL_274 rfl ?_
  refine l_call X 278 (As := [.int (xs (i + 1)), .int (xs (i + 2))]) (st := []) 90 (by decide) (ce_90 g _) rfl rfl mwL_23 vlX9_become (r_become l g hR ((xs (i + 1))) ((xs (i + 2)))) mlX9_become (by decide) (by decide) rfl rfl (Nat.le_of_ble_eq_true rfl) dL_275 rfl (fun r M1 hM1 => ?_)
  refine l_aload X 279 3 rfl rfl dL_278 rfl ?_
  refine l_arg X hi 1 284 (by decide) (by decide) dL_279 dL_280 dL_281 dL_282 dL_283 rfl ?_
  refine l_arg X hi 2 289 (by decide) (by decide) dL_284 dL_285 dL_286 dL_287 dL_288 rfl ?_
  refine l_call X 292 (As := [.int (xs (i + 1)), .int (xs (i + 2))]) (st := [.int r]) 91 (by decide) (ce_91 g _) rfl rfl mwL_26 vlX10_become hM1 mlX10_become (by decide) (by decide) rfl rfl (Nat.le_of_ble_eq_true rfl) dL_289 rfl (fun r2 M2 hM2 => ?_)
  obtain ⟨rfl, hR2⟩ := hM2
  exact l_eq X 1253 dL_292 (by decide) (k M2 hR2)
set_option maxRecDepth 20000 in
theorem law_3 (X : LX p s m meth c b L xs g) (hR : Rel M) (hi : i + 6 ≤ L) (k : ∀ M2 : Mem, Rel M2 → LK p l e s m below meth c b g M2 1253 (lo0 g b i) []) : LK p l e s m below meth c b g M 297 (lo0 g b i) [] := by
  refine l_aload X 298 2 rfl rfl dL_297 rfl ?_
  refine l_arg X hi 1 303 (by decide) (by decide) dL_298 dL_299 dL_300 dL_301 dL_302 rfl ?_
  refine l_arg X hi 2 308 (by decide) (by decide) dL_303 dL_304 dL_305 dL_306 dL_307 rfl ?_
  refine l_call X 311 (As := [.int (xs (i + 1)), .int (xs (i + 2))]) (st := []) 90 (by decide) (ce_90 g _) rfl rfl mwL_27 vlX9_as (r_as l g hR ((xs (i + 1))) ((xs (i + 2)))) mlX9_as (by decide) (by decide) rfl rfl (Nat.le_of_ble_eq_true rfl) dL_308 rfl (fun r M1 hM1 => ?_)
  refine l_aload X 312 3 rfl rfl dL_311 rfl ?_
  refine l_arg X hi 1 317 (by decide) (by decide) dL_312 dL_313 dL_314 dL_315 dL_316 rfl ?_
  refine l_arg X hi 2 322 (by decide) (by decide) dL_317 dL_318 dL_319 dL_320 dL_321 rfl ?_
  refine l_call X 325 (As := [.int (xs (i + 1)), .int (xs (i + 2))]) (st := [.int r]) 91 (by decide) (ce_91 g _) rfl rfl mwL_30 vlX10_as hM1 mlX10_as (by decide) (by decide) rfl rfl (Nat.le_of_ble_eq_true rfl) dL_322 rfl (fun r2 M2 hM2 => ?_)
  obtain ⟨rfl, hR2⟩ := hM2
  exact l_eq X 1253 dL_325 (by decide) (k M2 hR2)
set_option maxRecDepth 20000 in
theorem law_4 (X : LX p s m meth c b L xs g) (hR : Rel M) (hi : i + 6 ≤ L) (k : ∀ M2 : Mem, Rel M2 → LK p l e s m below meth c b g M2 1253 (lo0 g b i) []) : LK p l e s m below meth c b g M 330 (lo0 g b i) [] := by
  refine l_aload X 331 2 rfl rfl dL_330 rfl ?_
  refine l_arg X hi 1 336 (by decide) (by decide) dL_331 dL_332 dL_333 dL_334 dL_335 rfl ?_
  refine l_arg X hi 2 341 (by decide) (by decide) dL_336 dL_337 dL_338 dL_339 dL_340 rfl ?_
  refine l_call X 344 (As := [.int (xs (i + 1)), .int (xs (i + 2))]) (st := []) 90 (by decide) (ce_90 g _) rfl rfl mwL_31 vlX9_answers (r_answers l g hR ((xs (i + 1))) ((xs (i + 2)))) mlX9_answers (by decide) (by decide) rfl rfl (Nat.le_of_ble_eq_true rfl) dL_341 rfl (fun r M1 hM1 => ?_)
  refine l_aload X 345 3 rfl rfl dL_344 rfl ?_
  refine l_arg X hi 1 350 (by decide) (by decide) dL_345 dL_346 dL_347 dL_348 dL_349 rfl ?_
  refine l_arg X hi 2 355 (by decide) (by decide) dL_350 dL_351 dL_352 dL_353 dL_354 rfl ?_
  refine l_call X 358 (As := [.int (xs (i + 1)), .int (xs (i + 2))]) (st := [.int r]) 91 (by decide) (ce_91 g _) rfl rfl mwL_34 vlX10_answers hM1 mlX10_answers (by decide) (by decide) rfl rfl (Nat.le_of_ble_eq_true rfl) dL_355 rfl (fun r2 M2 hM2 => ?_)
  obtain ⟨rfl, hR2⟩ := hM2
  exact l_eq X 1253 dL_358 (by decide) (k M2 hR2)
set_option maxRecDepth 20000 in
theorem law_5 (X : LX p s m meth c b L xs g) (hR : Rel M) (hi : i + 6 ≤ L) (k : ∀ M2 : Mem, Rel M2 → LK p l e s m below meth c b g M2 1253 (lo0 g b i) []) : LK p l e s m below meth c b g M 363 (lo0 g b i) [] := by
  refine l_aload X 364 2 rfl rfl dL_363 rfl ?_
  refine l_arg X hi 1 369 (by decide) (by decide) dL_364 dL_365 dL_366 dL_367 dL_368 rfl ?_
  refine l_arg X hi 2 374 (by decide) (by decide) dL_369 dL_370 dL_371 dL_372 dL_373 rfl ?_
  refine l_call X 377 (As := [.int (xs (i + 1)), .int (xs (i + 2))]) (st := []) 90 (by decide) (ce_90 g _) rfl rfl mwL_35 vlX9_cover (r_cover l g hR ((xs (i + 1))) ((xs (i + 2)))) mlX9_cover (by decide) (by decide) rfl rfl (Nat.le_of_ble_eq_true rfl) dL_374 rfl (fun r M1 hM1 => ?_)
  refine l_aload X 378 3 rfl rfl dL_377 rfl ?_
  refine l_arg X hi 1 383 (by decide) (by decide) dL_378 dL_379 dL_380 dL_381 dL_382 rfl ?_
  refine l_arg X hi 2 388 (by decide) (by decide) dL_383 dL_384 dL_385 dL_386 dL_387 rfl ?_
  refine l_call X 391 (As := [.int (xs (i + 1)), .int (xs (i + 2))]) (st := [.int r]) 91 (by decide) (ce_91 g _) rfl rfl mwL_38 vlX10_cover hM1 mlX10_cover (by decide) (by decide) rfl rfl (Nat.le_of_ble_eq_true rfl) dL_388 rfl (fun r2 M2 hM2 => ?_)
  obtain ⟨rfl, hR2⟩ := hM2
  exact l_eq X 1253 dL_391 (by decide) (k M2 hR2)
set_option maxRecDepth 20000 in
theorem law_6 (X : LX p s m meth c b L xs g) (hR : Rel M) (hi : i + 6 ≤ L) (k : ∀ M2 : Mem, Rel M2 → LK p l e s m below meth c b g M2 1253 (lo0 g b i) []) : LK p l e s m below meth c b g M 396 (lo0 g b i) [] := by
  refine l_aload X 397 2 rfl rfl dL_396 rfl ?_
  refine l_arg X hi 1 402 (by decide) (by decide) dL_397 dL_398 dL_399 dL_400 dL_401 rfl ?_
  refine l_arg X hi 2 407 (by decide) (by decide) dL_402 dL_403 dL_404 dL_405 dL_406 rfl ?_
  refine l_call X 410 (As := [.int (xs (i + 1)), .int (xs (i + 2))]) (st := []) 90 (by decide) (ce_90 g _) rfl rfl mwL_39 vlX9_redraw (r_redraw l g hR ((xs (i + 1))) ((xs (i + 2)))) mlX9_redraw (by decide) (by decide) rfl rfl (Nat.le_of_ble_eq_true rfl) dL_407 rfl (fun r M1 hM1 => ?_)
  refine l_aload X 411 3 rfl rfl dL_410 rfl ?_
  refine l_arg X hi 1 416 (by decide) (by decide) dL_411 dL_412 dL_413 dL_414 dL_415 rfl ?_
  refine l_arg X hi 2 421 (by decide) (by decide) dL_416 dL_417 dL_418 dL_419 dL_420 rfl ?_
  refine l_call X 424 (As := [.int (xs (i + 1)), .int (xs (i + 2))]) (st := [.int r]) 91 (by decide) (ce_91 g _) rfl rfl mwL_42 vlX10_redraw hM1 mlX10_redraw (by decide) (by decide) rfl rfl (Nat.le_of_ble_eq_true rfl) dL_421 rfl (fun r2 M2 hM2 => ?_)
  obtain ⟨rfl, hR2⟩ := hM2
  exact l_eq X 1253 dL_424 (by decide) (k M2 hR2)
set_option maxRecDepth 20000 in
theorem law_7 (X : LX p s m meth c b L xs g) (hR : Rel M) (hi : i + 6 ≤ L) (k : ∀ M2 : Mem, Rel M2 → LK p l e s m below meth c b g M2 1253 (lo0 g b i) []) : LK p l e s m below meth c b g M 429 (lo0 g b i) [] := by
  refine l_aload X 430 2 rfl rfl dL_429 rfl ?_
  refine l_arg X hi 1 435 (by decide) (by decide) dL_430 dL_431 dL_432 dL_433 dL_434 rfl ?_
  refine l_call X 438 (As := [.int (xs (i + 1))]) (st := []) 90 (by decide) (ce_90 g _) rfl rfl mwL_43 vlX9_patience (r_patience l g hR ((xs (i + 1)))) mlX9_patience (by decide) (by decide) rfl rfl (Nat.le_of_ble_eq_true rfl) dL_435 rfl (fun r M1 hM1 => ?_)
  refine l_aload X 439 3 rfl rfl dL_438 rfl ?_
  refine l_arg X hi 1 444 (by decide) (by decide) dL_439 dL_440 dL_441 dL_442 dL_443 rfl ?_
  refine l_call X 447 (As := [.int (xs (i + 1))]) (st := [.int r]) 91 (by decide) (ce_91 g _) rfl rfl mwL_47 vlX10_patience hM1 mlX10_patience (by decide) (by decide) rfl rfl (Nat.le_of_ble_eq_true rfl) dL_444 rfl (fun r2 M2 hM2 => ?_)
  obtain ⟨rfl, hR2⟩ := hM2
  exact l_eq X 1253 dL_447 (by decide) (k M2 hR2)
set_option maxRecDepth 20000 in
theorem law_8 (X : LX p s m meth c b L xs g) (hR : Rel M) (hi : i + 6 ≤ L) (k : ∀ M2 : Mem, Rel M2 → LK p l e s m below meth c b g M2 1253 (lo0 g b i) []) : LK p l e s m below meth c b g M 452 (lo0 g b i) [] := by
  refine l_aload X 453 2 rfl rfl dL_452 rfl ?_
  refine l_arg X hi 1 458 (by decide) (by decide) dL_453 dL_454 dL_455 dL_456 dL_457 rfl ?_
  refine l_i2l X 459 dL_458 rfl ?_
  refine l_bipush X 461 (v := 32) (by decide) dL_459 rfl ?_
  refine l_lshl X 462 dL_461 rfl ?_
  refine l_arg X hi 2 467 (by decide) (by decide) dL_462 dL_463 dL_464 dL_465 dL_466 rfl ?_
  refine l_i2l X 468 dL_467 rfl ?_
  refine l_ldc2 X 471 cwL_48 dL_468 rfl ?_
  refine l_land X 472 dL_471 rfl ?_
  refine l_lor X 473 dL_472 rfl ?_
  refine l_arg X hi 3 478 (by decide) (by decide) dL_473 dL_474 dL_475 dL_476 dL_477 rfl ?_
  refine l_call X 481 (As := [.long (((xs (i + 1)).toInt64 <<< ((32 : Int32).toInt64 &&& 63)) ||| ((xs (i + 2)).toInt64 &&& 4294967295)), .int (xs (i + 3))]) (st := []) 90 (by decide) (ce_90 g _) rfl rfl mwL_50 vlX9_feed (r_feed l g hR ((((xs (i + 1)).toInt64 <<< ((32 : Int32).toInt64 &&& 63)) ||| ((xs (i + 2)).toInt64 &&& 4294967295))) ((xs (i + 3)))) mlX9_feed (by decide) (by decide) rfl rfl (Nat.le_of_ble_eq_true rfl) dL_478 rfl (fun r M1 hM1 => ?_)
  refine l_aload X 482 3 rfl rfl dL_481 rfl ?_
  refine l_arg X hi 1 487 (by decide) (by decide) dL_482 dL_483 dL_484 dL_485 dL_486 rfl ?_
  refine l_i2l X 488 dL_487 rfl ?_
  refine l_bipush X 490 (v := 32) (by decide) dL_488 rfl ?_
  refine l_lshl X 491 dL_490 rfl ?_
  refine l_arg X hi 2 496 (by decide) (by decide) dL_491 dL_492 dL_493 dL_494 dL_495 rfl ?_
  refine l_i2l X 497 dL_496 rfl ?_
  refine l_ldc2 X 500 cwL_48 dL_497 rfl ?_
  refine l_land X 501 dL_500 rfl ?_
  refine l_lor X 502 dL_501 rfl ?_
  refine l_arg X hi 3 507 (by decide) (by decide) dL_502 dL_503 dL_504 dL_505 dL_506 rfl ?_
  refine l_call X 510 (As := [.long (((xs (i + 1)).toInt64 <<< ((32 : Int32).toInt64 &&& 63)) ||| ((xs (i + 2)).toInt64 &&& 4294967295)), .int (xs (i + 3))]) (st := [.int r]) 91 (by decide) (ce_91 g _) rfl rfl mwL_54 vlX10_feed hM1 mlX10_feed (by decide) (by decide) rfl rfl (Nat.le_of_ble_eq_true rfl) dL_507 rfl (fun r2 M2 hM2 => ?_)
  obtain ⟨rfl, hR2⟩ := hM2
  exact l_eq X 1253 dL_510 (by decide) (k M2 hR2)
set_option maxRecDepth 20000 in
theorem law_9 (X : LX p s m meth c b L xs g) (hR : Rel M) (hi : i + 6 ≤ L) (k : ∀ M2 : Mem, Rel M2 → LK p l e s m below meth c b g M2 1253 (lo0 g b i) []) : LK p l e s m below meth c b g M 515 (lo0 g b i) [] := by
  refine l_aload X 516 2 rfl rfl dL_515 rfl ?_
  refine l_arg X hi 1 521 (by decide) (by decide) dL_516 dL_517 dL_518 dL_519 dL_520 rfl ?_
  refine l_call X 524 (As := [.int (xs (i + 1))]) (st := []) 90 (by decide) (ce_90 g _) rfl rfl mwL_55 vlX9_text (r_text l g hR ((xs (i + 1)))) mlX9_text (by decide) (by decide) rfl rfl (Nat.le_of_ble_eq_true rfl) dL_521 rfl (fun r M1 hM1 => ?_)
  refine l_aload X 525 3 rfl rfl dL_524 rfl ?_
  refine l_arg X hi 1 530 (by decide) (by decide) dL_525 dL_526 dL_527 dL_528 dL_529 rfl ?_
  refine l_call X 533 (As := [.int (xs (i + 1))]) (st := [.int r]) 91 (by decide) (ce_91 g _) rfl rfl mwL_58 vlX10_text hM1 mlX10_text (by decide) (by decide) rfl rfl (Nat.le_of_ble_eq_true rfl) dL_530 rfl (fun r2 M2 hM2 => ?_)
  obtain ⟨rfl, hR2⟩ := hM2
  exact l_eq X 1253 dL_533 (by decide) (k M2 hR2)
set_option maxRecDepth 20000 in
theorem law_10 (X : LX p s m meth c b L xs g) (hR : Rel M) (hi : i + 6 ≤ L) (k : ∀ M2 : Mem, Rel M2 → LK p l e s m below meth c b g M2 1253 (lo0 g b i) []) : LK p l e s m below meth c b g M 538 (lo0 g b i) [] := by
  refine l_aload X 539 2 rfl rfl dL_538 rfl ?_
  refine l_arg X hi 1 544 (by decide) (by decide) dL_539 dL_540 dL_541 dL_542 dL_543 rfl ?_
  refine l_call X 547 (As := [.int (xs (i + 1))]) (st := []) 90 (by decide) (ce_90 g _) rfl rfl mwL_59 vlX9_untell (r_untell l g hR ((xs (i + 1)))) mlX9_untell (by decide) (by decide) rfl rfl (Nat.le_of_ble_eq_true rfl) dL_544 rfl (fun r M1 hM1 => ?_)
  refine l_aload X 548 3 rfl rfl dL_547 rfl ?_
  refine l_arg X hi 1 553 (by decide) (by decide) dL_548 dL_549 dL_550 dL_551 dL_552 rfl ?_
  refine l_call X 556 (As := [.int (xs (i + 1))]) (st := [.int r]) 91 (by decide) (ce_91 g _) rfl rfl mwL_62 vlX10_untell hM1 mlX10_untell (by decide) (by decide) rfl rfl (Nat.le_of_ble_eq_true rfl) dL_553 rfl (fun r2 M2 hM2 => ?_)
  obtain ⟨rfl, hR2⟩ := hM2
  exact l_eq X 1253 dL_556 (by decide) (k M2 hR2)
set_option maxRecDepth 20000 in
theorem law_11 (X : LX p s m meth c b L xs g) (hR : Rel M) (hi : i + 6 ≤ L) (k : ∀ M2 : Mem, Rel M2 → LK p l e s m below meth c b g M2 1253 (lo0 g b i) []) : LK p l e s m below meth c b g M 561 (lo0 g b i) [] := by
  refine l_aload X 562 2 rfl rfl dL_561 rfl ?_
  refine l_arg X hi 1 567 (by decide) (by decide) dL_562 dL_563 dL_564 dL_565 dL_566 rfl ?_
  refine l_arg X hi 2 572 (by decide) (by decide) dL_567 dL_568 dL_569 dL_570 dL_571 rfl ?_
  refine l_arg X hi 3 577 (by decide) (by decide) dL_572 dL_573 dL_574 dL_575 dL_576 rfl ?_
  refine l_arg X hi 4 582 (by decide) (by decide) dL_577 dL_578 dL_579 dL_580 dL_581 rfl ?_
  refine l_call X 585 (As := [.int (xs (i + 1)), .int (xs (i + 2)), .int (xs (i + 3)), .int (xs (i + 4))]) (st := []) 90 (by decide) (ce_90 g _) rfl rfl mwL_63 vlX9_law (r_law l g hR ((xs (i + 1))) ((xs (i + 2))) ((xs (i + 3))) ((xs (i + 4)))) mlX9_law (by decide) (by decide) rfl rfl (Nat.le_of_ble_eq_true rfl) dL_582 rfl (fun r M1 hM1 => ?_)
  refine l_aload X 586 3 rfl rfl dL_585 rfl ?_
  refine l_arg X hi 1 591 (by decide) (by decide) dL_586 dL_587 dL_588 dL_589 dL_590 rfl ?_
  refine l_arg X hi 2 596 (by decide) (by decide) dL_591 dL_592 dL_593 dL_594 dL_595 rfl ?_
  refine l_arg X hi 3 601 (by decide) (by decide) dL_596 dL_597 dL_598 dL_599 dL_600 rfl ?_
  refine l_arg X hi 4 606 (by decide) (by decide) dL_601 dL_602 dL_603 dL_604 dL_605 rfl ?_
  refine l_call X 609 (As := [.int (xs (i + 1)), .int (xs (i + 2)), .int (xs (i + 3)), .int (xs (i + 4))]) (st := [.int r]) 91 (by decide) (ce_91 g _) rfl rfl mwL_67 vlX10_law hM1 mlX10_law (by decide) (by decide) rfl rfl (Nat.le_of_ble_eq_true rfl) dL_606 rfl (fun r2 M2 hM2 => ?_)
  obtain ⟨rfl, hR2⟩ := hM2
  exact l_eq X 1253 dL_609 (by decide) (k M2 hR2)
set_option maxRecDepth 20000 in
theorem law_12 (X : LX p s m meth c b L xs g) (hR : Rel M) (hi : i + 6 ≤ L) (k : ∀ M2 : Mem, Rel M2 → LK p l e s m below meth c b g M2 1253 (lo0 g b i) []) : LK p l e s m below meth c b g M 614 (lo0 g b i) [] := by
  refine l_aload X 615 2 rfl rfl dL_614 rfl ?_
  refine l_arg X hi 1 620 (by decide) (by decide) dL_615 dL_616 dL_617 dL_618 dL_619 rfl ?_
  refine l_call X 623 (As := [.int (xs (i + 1))]) (st := []) 90 (by decide) (ce_90 g _) rfl rfl mwL_68 vlX9_years (r_years l g hR ((xs (i + 1)))) mlX9_years (by decide) (by decide) rfl rfl (Nat.le_of_ble_eq_true rfl) dL_620 rfl (fun r M1 hM1 => ?_)
  refine l_aload X 624 3 rfl rfl dL_623 rfl ?_
  refine l_arg X hi 1 629 (by decide) (by decide) dL_624 dL_625 dL_626 dL_627 dL_628 rfl ?_
  refine l_call X 632 (As := [.int (xs (i + 1))]) (st := [.int r]) 91 (by decide) (ce_91 g _) rfl rfl mwL_71 vlX10_years hM1 mlX10_years (by decide) (by decide) rfl rfl (Nat.le_of_ble_eq_true rfl) dL_629 rfl (fun r2 M2 hM2 => ?_)
  obtain ⟨rfl, hR2⟩ := hM2
  exact l_eq X 1253 dL_632 (by decide) (k M2 hR2)
set_option maxRecDepth 20000 in
theorem law_13 (X : LX p s m meth c b L xs g) (hR : Rel M) (hi : i + 6 ≤ L) (k : ∀ M2 : Mem, Rel M2 → LK p l e s m below meth c b g M2 1253 (lo0 g b i) []) : LK p l e s m below meth c b g M 637 (lo0 g b i) [] := by
  refine l_aload X 638 2 rfl rfl dL_637 rfl ?_
  refine l_arg X hi 1 643 (by decide) (by decide) dL_638 dL_639 dL_640 dL_641 dL_642 rfl ?_
  refine l_call X 646 (As := [.int (xs (i + 1))]) (st := []) 90 (by decide) (ce_90 g _) rfl rfl mwL_72 vlX9_loose (r_loose l g hR ((xs (i + 1)))) mlX9_loose (by decide) (by decide) rfl rfl (Nat.le_of_ble_eq_true rfl) dL_643 rfl (fun r M1 hM1 => ?_)
  refine l_aload X 647 3 rfl rfl dL_646 rfl ?_
  refine l_arg X hi 1 652 (by decide) (by decide) dL_647 dL_648 dL_649 dL_650 dL_651 rfl ?_
  refine l_call X 655 (As := [.int (xs (i + 1))]) (st := [.int r]) 91 (by decide) (ce_91 g _) rfl rfl mwL_75 vlX10_loose hM1 mlX10_loose (by decide) (by decide) rfl rfl (Nat.le_of_ble_eq_true rfl) dL_652 rfl (fun r2 M2 hM2 => ?_)
  obtain ⟨rfl, hR2⟩ := hM2
  exact l_eq X 1253 dL_655 (by decide) (k M2 hR2)
set_option maxRecDepth 20000 in
theorem law_14 (X : LX p s m meth c b L xs g) (hR : Rel M) (hi : i + 6 ≤ L) (k : ∀ M2 : Mem, Rel M2 → LK p l e s m below meth c b g M2 1253 (lo0 g b i) []) : LK p l e s m below meth c b g M 660 (lo0 g b i) [] := by
  refine l_aload X 661 2 rfl rfl dL_660 rfl ?_
  refine l_arg X hi 1 666 (by decide) (by decide) dL_661 dL_662 dL_663 dL_664 dL_665 rfl ?_
  refine l_call X 669 (As := [.int (xs (i + 1))]) (st := []) 90 (by decide) (ce_90 g _) rfl rfl mwL_76 vlX9_seed (r_seed l g hR ((xs (i + 1)))) mlX9_seed (by decide) (by decide) rfl rfl (Nat.le_of_ble_eq_true rfl) dL_666 rfl (fun r M1 hM1 => ?_)
  refine l_aload X 670 3 rfl rfl dL_669 rfl ?_
  refine l_arg X hi 1 675 (by decide) (by decide) dL_670 dL_671 dL_672 dL_673 dL_674 rfl ?_
  refine l_call X 678 (As := [.int (xs (i + 1))]) (st := [.int r]) 91 (by decide) (ce_91 g _) rfl rfl mwL_79 vlX10_seed hM1 mlX10_seed (by decide) (by decide) rfl rfl (Nat.le_of_ble_eq_true rfl) dL_675 rfl (fun r2 M2 hM2 => ?_)
  obtain ⟨rfl, hR2⟩ := hM2
  exact l_eq X 1253 dL_678 (by decide) (k M2 hR2)
set_option maxRecDepth 20000 in
theorem law_15 (X : LX p s m meth c b L xs g) (hR : Rel M) (hi : i + 6 ≤ L) (k : ∀ M2 : Mem, Rel M2 → LK p l e s m below meth c b g M2 1253 (lo0 g b i) []) : LK p l e s m below meth c b g M 683 (lo0 g b i) [] := by
  refine l_aload X 684 2 rfl rfl dL_683 rfl ?_
  refine l_arg X hi 1 689 (by decide) (by decide) dL_684 dL_685 dL_686 dL_687 dL_688 rfl ?_
  refine l_call X 692 (As := [.int (xs (i + 1))]) (st := []) 90 (by decide) (ce_90 g _) rfl rfl mwL_80 vlX9_talk (r_talk l g hR ((xs (i + 1)))) mlX9_talk (by decide) (by decide) rfl rfl (Nat.le_of_ble_eq_true rfl) dL_689 rfl (fun r M1 hM1 => ?_)
  refine l_aload X 693 3 rfl rfl dL_692 rfl ?_
  refine l_arg X hi 1 698 (by decide) (by decide) dL_693 dL_694 dL_695 dL_696 dL_697 rfl ?_
  refine l_call X 701 (As := [.int (xs (i + 1))]) (st := [.int r]) 91 (by decide) (ce_91 g _) rfl rfl mwL_83 vlX10_talk hM1 mlX10_talk (by decide) (by decide) rfl rfl (Nat.le_of_ble_eq_true rfl) dL_698 rfl (fun r2 M2 hM2 => ?_)
  obtain ⟨rfl, hR2⟩ := hM2
  exact l_eq X 1253 dL_701 (by decide) (k M2 hR2)
set_option maxRecDepth 20000 in
theorem law_16 (X : LX p s m meth c b L xs g) (hR : Rel M) (hi : i + 6 ≤ L) (k : ∀ M2 : Mem, Rel M2 → LK p l e s m below meth c b g M2 1253 (lo0 g b i) []) : LK p l e s m below meth c b g M 706 (lo0 g b i) [] := by
  refine l_aload X 707 2 rfl rfl dL_706 rfl ?_
  refine l_arg X hi 1 712 (by decide) (by decide) dL_707 dL_708 dL_709 dL_710 dL_711 rfl ?_
  refine l_call X 715 (As := [.int (xs (i + 1))]) (st := []) 90 (by decide) (ce_90 g _) rfl rfl mwL_84 vlX9_meaning (r_meaning l g hR ((xs (i + 1)))) mlX9_meaning (by decide) (by decide) rfl rfl (Nat.le_of_ble_eq_true rfl) dL_712 rfl (fun r M1 hM1 => ?_)
  refine l_aload X 716 3 rfl rfl dL_715 rfl ?_
  refine l_arg X hi 1 721 (by decide) (by decide) dL_716 dL_717 dL_718 dL_719 dL_720 rfl ?_
  refine l_call X 724 (As := [.int (xs (i + 1))]) (st := [.int r]) 91 (by decide) (ce_91 g _) rfl rfl mwL_87 vlX10_meaning hM1 mlX10_meaning (by decide) (by decide) rfl rfl (Nat.le_of_ble_eq_true rfl) dL_721 rfl (fun r2 M2 hM2 => ?_)
  obtain ⟨rfl, hR2⟩ := hM2
  exact l_eq X 1253 dL_724 (by decide) (k M2 hR2)
set_option maxRecDepth 20000 in
theorem law_17 (X : LX p s m meth c b L xs g) (hR : Rel M) (hi : i + 6 ≤ L) (k : ∀ M2 : Mem, Rel M2 → LK p l e s m below meth c b g M2 1253 (lo0 g b i) []) : LK p l e s m below meth c b g M 729 (lo0 g b i) [] := by
  refine l_aload X 730 2 rfl rfl dL_729 rfl ?_
  refine l_arg X hi 1 735 (by decide) (by decide) dL_730 dL_731 dL_732 dL_733 dL_734 rfl ?_
  refine l_arg X hi 2 740 (by decide) (by decide) dL_735 dL_736 dL_737 dL_738 dL_739 rfl ?_
  refine l_call X 743 (As := [.int (xs (i + 1)), .int (xs (i + 2))]) (st := []) 90 (by decide) (ce_90 g _) rfl rfl mwL_88 vlX9_then (r_then l g hR ((xs (i + 1))) ((xs (i + 2)))) mlX9_then (by decide) (by decide) rfl rfl (Nat.le_of_ble_eq_true rfl) dL_740 rfl (fun r M1 hM1 => ?_)
  refine l_aload X 744 3 rfl rfl dL_743 rfl ?_
  refine l_arg X hi 1 749 (by decide) (by decide) dL_744 dL_745 dL_746 dL_747 dL_748 rfl ?_
  refine l_arg X hi 2 754 (by decide) (by decide) dL_749 dL_750 dL_751 dL_752 dL_753 rfl ?_
  refine l_call X 757 (As := [.int (xs (i + 1)), .int (xs (i + 2))]) (st := [.int r]) 91 (by decide) (ce_91 g _) rfl rfl mwL_91 vlX10_then hM1 mlX10_then (by decide) (by decide) rfl rfl (Nat.le_of_ble_eq_true rfl) dL_754 rfl (fun r2 M2 hM2 => ?_)
  obtain ⟨rfl, hR2⟩ := hM2
  exact l_eq X 1253 dL_757 (by decide) (k M2 hR2)
set_option maxRecDepth 20000 in
theorem law_18 (X : LX p s m meth c b L xs g) (hR : Rel M) (hi : i + 6 ≤ L) (k : ∀ M2 : Mem, Rel M2 → LK p l e s m below meth c b g M2 1253 (lo0 g b i) []) : LK p l e s m below meth c b g M 762 (lo0 g b i) [] := by
  refine l_aload X 763 2 rfl rfl dL_762 rfl ?_
  refine l_arg X hi 1 768 (by decide) (by decide) dL_763 dL_764 dL_765 dL_766 dL_767 rfl ?_
  refine l_call X 771 (As := [.int (xs (i + 1))]) (st := []) 90 (by decide) (ce_90 g _) rfl rfl mwL_92 vlX9_fewest (r_fewest l g hR ((xs (i + 1)))) mlX9_fewest (by decide) (by decide) rfl rfl (Nat.le_of_ble_eq_true rfl) dL_768 rfl (fun r M1 hM1 => ?_)
  refine l_aload X 772 3 rfl rfl dL_771 rfl ?_
  refine l_arg X hi 1 777 (by decide) (by decide) dL_772 dL_773 dL_774 dL_775 dL_776 rfl ?_
  refine l_call X 780 (As := [.int (xs (i + 1))]) (st := [.int r]) 91 (by decide) (ce_91 g _) rfl rfl mwL_95 vlX10_fewest hM1 mlX10_fewest (by decide) (by decide) rfl rfl (Nat.le_of_ble_eq_true rfl) dL_777 rfl (fun r2 M2 hM2 => ?_)
  obtain ⟨rfl, hR2⟩ := hM2
  exact l_eq X 1253 dL_780 (by decide) (k M2 hR2)
set_option maxRecDepth 20000 in
theorem law_19 (X : LX p s m meth c b L xs g) (hR : Rel M) (hi : i + 6 ≤ L) (k : ∀ M2 : Mem, Rel M2 → LK p l e s m below meth c b g M2 1253 (lo0 g b i) []) : LK p l e s m below meth c b g M 785 (lo0 g b i) [] := by
  refine l_aload X 786 2 rfl rfl dL_785 rfl ?_
  refine l_arg X hi 1 791 (by decide) (by decide) dL_786 dL_787 dL_788 dL_789 dL_790 rfl ?_
  refine l_arg X hi 2 796 (by decide) (by decide) dL_791 dL_792 dL_793 dL_794 dL_795 rfl ?_
  refine l_call X 799 (As := [.int (xs (i + 1)), .int (xs (i + 2))]) (st := []) 90 (by decide) (ce_90 g _) rfl rfl mwL_96 vlX9_reply (r_reply l g hR ((xs (i + 1))) ((xs (i + 2)))) mlX9_reply (by decide) (by decide) rfl rfl (Nat.le_of_ble_eq_true rfl) dL_796 rfl (fun r M1 hM1 => ?_)
  refine l_aload X 800 3 rfl rfl dL_799 rfl ?_
  refine l_arg X hi 1 805 (by decide) (by decide) dL_800 dL_801 dL_802 dL_803 dL_804 rfl ?_
  refine l_arg X hi 2 810 (by decide) (by decide) dL_805 dL_806 dL_807 dL_808 dL_809 rfl ?_
  refine l_call X 813 (As := [.int (xs (i + 1)), .int (xs (i + 2))]) (st := [.int r]) 91 (by decide) (ce_91 g _) rfl rfl mwL_99 vlX10_reply hM1 mlX10_reply (by decide) (by decide) rfl rfl (Nat.le_of_ble_eq_true rfl) dL_810 rfl (fun r2 M2 hM2 => ?_)
  obtain ⟨rfl, hR2⟩ := hM2
  exact l_eq X 1253 dL_813 (by decide) (k M2 hR2)
set_option maxRecDepth 20000 in
theorem law_20 (X : LX p s m meth c b L xs g) (hR : Rel M) (hi : i + 6 ≤ L) (k : ∀ M2 : Mem, Rel M2 → LK p l e s m below meth c b g M2 1253 (lo0 g b i) []) : LK p l e s m below meth c b g M 818 (lo0 g b i) [] := by
  refine l_aload X 819 2 rfl rfl dL_818 rfl ?_
  refine l_arg X hi 1 824 (by decide) (by decide) dL_819 dL_820 dL_821 dL_822 dL_823 rfl ?_
  refine l_arg X hi 2 829 (by decide) (by decide) dL_824 dL_825 dL_826 dL_827 dL_828 rfl ?_
  refine l_arg X hi 3 834 (by decide) (by decide) dL_829 dL_830 dL_831 dL_832 dL_833 rfl ?_
  refine l_call X 837 (As := [.int (xs (i + 1)), .int (xs (i + 2)), .int (xs (i + 3))]) (st := []) 90 (by decide) (ce_90 g _) rfl rfl mwL_100 vlX9_odds (r_odds l g hR ((xs (i + 1))) ((xs (i + 2))) ((xs (i + 3)))) mlX9_odds (by decide) (by decide) rfl rfl (Nat.le_of_ble_eq_true rfl) dL_834 rfl (fun r M1 hM1 => ?_)
  refine l_aload X 838 3 rfl rfl dL_837 rfl ?_
  refine l_arg X hi 1 843 (by decide) (by decide) dL_838 dL_839 dL_840 dL_841 dL_842 rfl ?_
  refine l_arg X hi 2 848 (by decide) (by decide) dL_843 dL_844 dL_845 dL_846 dL_847 rfl ?_
  refine l_arg X hi 3 853 (by decide) (by decide) dL_848 dL_849 dL_850 dL_851 dL_852 rfl ?_
  refine l_call X 856 (As := [.int (xs (i + 1)), .int (xs (i + 2)), .int (xs (i + 3))]) (st := [.int r]) 91 (by decide) (ce_91 g _) rfl rfl mwL_103 vlX10_odds hM1 mlX10_odds (by decide) (by decide) rfl rfl (Nat.le_of_ble_eq_true rfl) dL_853 rfl (fun r2 M2 hM2 => ?_)
  obtain ⟨rfl, hR2⟩ := hM2
  exact l_eq X 1253 dL_856 (by decide) (k M2 hR2)
set_option maxRecDepth 20000 in
theorem law_21 (X : LX p s m meth c b L xs g) (hR : Rel M) (hi : i + 6 ≤ L) (k : ∀ M2 : Mem, Rel M2 → LK p l e s m below meth c b g M2 1253 (lo0 g b i) []) : LK p l e s m below meth c b g M 861 (lo0 g b i) [] := by
  refine l_aload X 862 2 rfl rfl dL_861 rfl ?_
  refine l_arg X hi 1 867 (by decide) (by decide) dL_862 dL_863 dL_864 dL_865 dL_866 rfl ?_
  refine l_call X 870 (As := [.int (xs (i + 1))]) (st := []) 90 (by decide) (ce_90 g _) rfl rfl mwL_104 vlX9_fits (r_fits l g hR ((xs (i + 1)))) mlX9_fits (by decide) (by decide) rfl rfl (Nat.le_of_ble_eq_true rfl) dL_867 rfl (fun r M1 hM1 => ?_)
  refine l_aload X 871 3 rfl rfl dL_870 rfl ?_
  refine l_arg X hi 1 876 (by decide) (by decide) dL_871 dL_872 dL_873 dL_874 dL_875 rfl ?_
  refine l_call X 879 (As := [.int (xs (i + 1))]) (st := [.int r]) 91 (by decide) (ce_91 g _) rfl rfl mwL_107 vlX10_fits hM1 mlX10_fits (by decide) (by decide) rfl rfl (Nat.le_of_ble_eq_true rfl) dL_876 rfl (fun r2 M2 hM2 => ?_)
  obtain ⟨rfl, hR2⟩ := hM2
  exact l_eq X 1253 dL_879 (by decide) (k M2 hR2)
set_option maxRecDepth 20000 in
theorem law_22 (X : LX p s m meth c b L xs g) (hR : Rel M) (hi : i + 6 ≤ L) (k : ∀ M2 : Mem, Rel M2 → LK p l e s m below meth c b g M2 1253 (lo0 g b i) []) : LK p l e s m below meth c b g M 884 (lo0 g b i) [] := by
  refine l_aload X 885 2 rfl rfl dL_884 rfl ?_
  refine l_arg X hi 1 890 (by decide) (by decide) dL_885 dL_886 dL_887 dL_888 dL_889 rfl ?_
  refine l_arg X hi 2 895 (by decide) (by decide) dL_890 dL_891 dL_892 dL_893 dL_894 rfl ?_
  refine l_arg X hi 3 900 (by decide) (by decide) dL_895 dL_896 dL_897 dL_898 dL_899 rfl ?_
  refine l_call X 903 (As := [.int (xs (i + 1)), .int (xs (i + 2)), .int (xs (i + 3))]) (st := []) 90 (by decide) (ce_90 g _) rfl rfl mwL_108 vlX9_voice (r_voice l g hR ((xs (i + 1))) ((xs (i + 2))) ((xs (i + 3)))) mlX9_voice (by decide) (by decide) rfl rfl (Nat.le_of_ble_eq_true rfl) dL_900 rfl (fun r M1 hM1 => ?_)
  refine l_aload X 904 3 rfl rfl dL_903 rfl ?_
  refine l_arg X hi 1 909 (by decide) (by decide) dL_904 dL_905 dL_906 dL_907 dL_908 rfl ?_
  refine l_arg X hi 2 914 (by decide) (by decide) dL_909 dL_910 dL_911 dL_912 dL_913 rfl ?_
  refine l_arg X hi 3 919 (by decide) (by decide) dL_914 dL_915 dL_916 dL_917 dL_918 rfl ?_
  refine l_call X 922 (As := [.int (xs (i + 1)), .int (xs (i + 2)), .int (xs (i + 3))]) (st := [.int r]) 91 (by decide) (ce_91 g _) rfl rfl mwL_111 vlX10_voice hM1 mlX10_voice (by decide) (by decide) rfl rfl (Nat.le_of_ble_eq_true rfl) dL_919 rfl (fun r2 M2 hM2 => ?_)
  obtain ⟨rfl, hR2⟩ := hM2
  exact l_eq X 1253 dL_922 (by decide) (k M2 hR2)
set_option maxRecDepth 20000 in
theorem law_23 (X : LX p s m meth c b L xs g) (hR : Rel M) (hi : i + 6 ≤ L) (k : ∀ M2 : Mem, Rel M2 → LK p l e s m below meth c b g M2 1253 (lo0 g b i) []) : LK p l e s m below meth c b g M 927 (lo0 g b i) [] := by
  refine l_aload X 928 2 rfl rfl dL_927 rfl ?_
  refine l_arg X hi 1 933 (by decide) (by decide) dL_928 dL_929 dL_930 dL_931 dL_932 rfl ?_
  refine l_call X 936 (As := [.int (xs (i + 1))]) (st := []) 90 (by decide) (ce_90 g _) rfl rfl mwL_112 vlX9_body (r_body l g hR ((xs (i + 1)))) mlX9_body (by decide) (by decide) rfl rfl (Nat.le_of_ble_eq_true rfl) dL_933 rfl (fun r M1 hM1 => ?_)
  refine l_aload X 937 3 rfl rfl dL_936 rfl ?_
  refine l_arg X hi 1 942 (by decide) (by decide) dL_937 dL_938 dL_939 dL_940 dL_941 rfl ?_
  refine l_call X 945 (As := [.int (xs (i + 1))]) (st := [.int r]) 91 (by decide) (ce_91 g _) rfl rfl mwL_115 vlX10_body hM1 mlX10_body (by decide) (by decide) rfl rfl (Nat.le_of_ble_eq_true rfl) dL_942 rfl (fun r2 M2 hM2 => ?_)
  obtain ⟨rfl, hR2⟩ := hM2
  exact l_eq X 1253 dL_945 (by decide) (k M2 hR2)
set_option maxRecDepth 20000 in
theorem law_24 (X : LX p s m meth c b L xs g) (hR : Rel M) (hi : i + 6 ≤ L) (k : ∀ M2 : Mem, Rel M2 → LK p l e s m below meth c b g M2 1253 (lo0 g b i) []) : LK p l e s m below meth c b g M 950 (lo0 g b i) [] := by
  refine l_aload X 951 2 rfl rfl dL_950 rfl ?_
  refine l_arg X hi 1 956 (by decide) (by decide) dL_951 dL_952 dL_953 dL_954 dL_955 rfl ?_
  refine l_arg X hi 2 961 (by decide) (by decide) dL_956 dL_957 dL_958 dL_959 dL_960 rfl ?_
  refine l_arg X hi 3 966 (by decide) (by decide) dL_961 dL_962 dL_963 dL_964 dL_965 rfl ?_
  refine l_call X 969 (As := [.int (xs (i + 1)), .int (xs (i + 2)), .int (xs (i + 3))]) (st := []) 90 (by decide) (ce_90 g _) rfl rfl mwL_116 vlX9_sheet (r_sheet l g hR ((xs (i + 1))) ((xs (i + 2))) ((xs (i + 3)))) mlX9_sheet (by decide) (by decide) rfl rfl (Nat.le_of_ble_eq_true rfl) dL_966 rfl (fun r M1 hM1 => ?_)
  refine l_aload X 970 3 rfl rfl dL_969 rfl ?_
  refine l_arg X hi 1 975 (by decide) (by decide) dL_970 dL_971 dL_972 dL_973 dL_974 rfl ?_
  refine l_arg X hi 2 980 (by decide) (by decide) dL_975 dL_976 dL_977 dL_978 dL_979 rfl ?_
  refine l_arg X hi 3 985 (by decide) (by decide) dL_980 dL_981 dL_982 dL_983 dL_984 rfl ?_
  refine l_call X 988 (As := [.int (xs (i + 1)), .int (xs (i + 2)), .int (xs (i + 3))]) (st := [.int r]) 91 (by decide) (ce_91 g _) rfl rfl mwL_119 vlX10_sheet hM1 mlX10_sheet (by decide) (by decide) rfl rfl (Nat.le_of_ble_eq_true rfl) dL_985 rfl (fun r2 M2 hM2 => ?_)
  obtain ⟨rfl, hR2⟩ := hM2
  exact l_eq X 1253 dL_988 (by decide) (k M2 hR2)
set_option maxRecDepth 20000 in
theorem law_25 (X : LX p s m meth c b L xs g) (hR : Rel M) (hi : i + 6 ≤ L) (k : ∀ M2 : Mem, Rel M2 → LK p l e s m below meth c b g M2 1253 (lo0 g b i) []) : LK p l e s m below meth c b g M 993 (lo0 g b i) [] := by
  refine l_aload X 994 2 rfl rfl dL_993 rfl ?_
  refine l_arg X hi 1 999 (by decide) (by decide) dL_994 dL_995 dL_996 dL_997 dL_998 rfl ?_
  refine l_arg X hi 2 1004 (by decide) (by decide) dL_999 dL_1000 dL_1001 dL_1002 dL_1003 rfl ?_
  refine l_arg X hi 3 1009 (by decide) (by decide) dL_1004 dL_1005 dL_1006 dL_1007 dL_1008 rfl ?_
  refine l_call X 1012 (As := [.int (xs (i + 1)), .int (xs (i + 2)), .int (xs (i + 3))]) (st := []) 90 (by decide) (ce_90 g _) rfl rfl mwL_120 vlX9_put (r_put l g hR ((xs (i + 1))) ((xs (i + 2))) ((xs (i + 3)))) mlX9_put (by decide) (by decide) rfl rfl (Nat.le_of_ble_eq_true rfl) dL_1009 rfl (fun r M1 hM1 => ?_)
  refine l_aload X 1013 3 rfl rfl dL_1012 rfl ?_
  refine l_arg X hi 1 1018 (by decide) (by decide) dL_1013 dL_1014 dL_1015 dL_1016 dL_1017 rfl ?_
  refine l_arg X hi 2 1023 (by decide) (by decide) dL_1018 dL_1019 dL_1020 dL_1021 dL_1022 rfl ?_
  refine l_arg X hi 3 1028 (by decide) (by decide) dL_1023 dL_1024 dL_1025 dL_1026 dL_1027 rfl ?_
  refine l_call X 1031 (As := [.int (xs (i + 1)), .int (xs (i + 2)), .int (xs (i + 3))]) (st := [.int r]) 91 (by decide) (ce_91 g _) rfl rfl mwL_123 vlX10_put hM1 mlX10_put (by decide) (by decide) rfl rfl (Nat.le_of_ble_eq_true rfl) dL_1028 rfl (fun r2 M2 hM2 => ?_)
  obtain ⟨rfl, hR2⟩ := hM2
  exact l_eq X 1253 dL_1031 (by decide) (k M2 hR2)
set_option maxRecDepth 20000 in
theorem law_26 (X : LX p s m meth c b L xs g) (hR : Rel M) (hi : i + 6 ≤ L) (k : ∀ M2 : Mem, Rel M2 → LK p l e s m below meth c b g M2 1253 (lo0 g b i) []) : LK p l e s m below meth c b g M 1036 (lo0 g b i) [] := by
  refine l_aload X 1037 2 rfl rfl dL_1036 rfl ?_
  refine l_arg X hi 1 1042 (by decide) (by decide) dL_1037 dL_1038 dL_1039 dL_1040 dL_1041 rfl ?_
  refine l_arg X hi 2 1047 (by decide) (by decide) dL_1042 dL_1043 dL_1044 dL_1045 dL_1046 rfl ?_
  refine l_arg X hi 3 1052 (by decide) (by decide) dL_1047 dL_1048 dL_1049 dL_1050 dL_1051 rfl ?_
  refine l_arg X hi 4 1057 (by decide) (by decide) dL_1052 dL_1053 dL_1054 dL_1055 dL_1056 rfl ?_
  refine l_arg X hi 5 1062 (by decide) (by decide) dL_1057 dL_1058 dL_1059 dL_1060 dL_1061 rfl ?_
  refine l_call X 1065 (As := [.int (xs (i + 1)), .int (xs (i + 2)), .int (xs (i + 3)), .int (xs (i + 4)), .int (xs (i + 5))]) (st := []) 90 (by decide) (ce_90 g _) rfl rfl mwL_124 vlX9_move (r_move l g hR ((xs (i + 1))) ((xs (i + 2))) ((xs (i + 3))) ((xs (i + 4))) ((xs (i + 5)))) mlX9_move (by decide) (by decide) rfl rfl (Nat.le_of_ble_eq_true rfl) dL_1062 rfl (fun r M1 hM1 => ?_)
  refine l_aload X 1066 3 rfl rfl dL_1065 rfl ?_
  refine l_arg X hi 1 1071 (by decide) (by decide) dL_1066 dL_1067 dL_1068 dL_1069 dL_1070 rfl ?_
  refine l_arg X hi 2 1076 (by decide) (by decide) dL_1071 dL_1072 dL_1073 dL_1074 dL_1075 rfl ?_
  refine l_arg X hi 3 1081 (by decide) (by decide) dL_1076 dL_1077 dL_1078 dL_1079 dL_1080 rfl ?_
  refine l_arg X hi 4 1086 (by decide) (by decide) dL_1081 dL_1082 dL_1083 dL_1084 dL_1085 rfl ?_
  refine l_arg X hi 5 1091 (by decide) (by decide) dL_1086 dL_1087 dL_1088 dL_1089 dL_1090 rfl ?_
  refine l_call X 1094 (As := [.int (xs (i + 1)), .int (xs (i + 2)), .int (xs (i + 3)), .int (xs (i + 4)), .int (xs (i + 5))]) (st := [.int r]) 91 (by decide) (ce_91 g _) rfl rfl mwL_128 vlX10_move hM1 mlX10_move (by decide) (by decide) rfl rfl (Nat.le_of_ble_eq_true rfl) dL_1091 rfl (fun r2 M2 hM2 => ?_)
  obtain ⟨rfl, hR2⟩ := hM2
  exact l_eq X 1253 dL_1094 (by decide) (k M2 hR2)
set_option maxRecDepth 20000 in
theorem law_27 (X : LX p s m meth c b L xs g) (hR : Rel M) (hi : i + 6 ≤ L) (k : ∀ M2 : Mem, Rel M2 → LK p l e s m below meth c b g M2 1253 (lo0 g b i) []) : LK p l e s m below meth c b g M 1099 (lo0 g b i) [] := by
  refine l_aload X 1100 2 rfl rfl dL_1099 rfl ?_
  refine l_arg X hi 1 1105 (by decide) (by decide) dL_1100 dL_1101 dL_1102 dL_1103 dL_1104 rfl ?_
  refine l_call X 1108 (As := [.int (xs (i + 1))]) (st := []) 90 (by decide) (ce_90 g _) rfl rfl mwL_129 vlX9_lines (r_lines l g hR ((xs (i + 1)))) mlX9_lines (by decide) (by decide) rfl rfl (Nat.le_of_ble_eq_true rfl) dL_1105 rfl (fun r M1 hM1 => ?_)
  refine l_aload X 1109 3 rfl rfl dL_1108 rfl ?_
  refine l_arg X hi 1 1114 (by decide) (by decide) dL_1109 dL_1110 dL_1111 dL_1112 dL_1113 rfl ?_
  refine l_call X 1117 (As := [.int (xs (i + 1))]) (st := [.int r]) 91 (by decide) (ce_91 g _) rfl rfl mwL_132 vlX10_lines hM1 mlX10_lines (by decide) (by decide) rfl rfl (Nat.le_of_ble_eq_true rfl) dL_1114 rfl (fun r2 M2 hM2 => ?_)
  obtain ⟨rfl, hR2⟩ := hM2
  exact l_eq X 1253 dL_1117 (by decide) (k M2 hR2)
set_option maxRecDepth 20000 in
theorem law_28 (X : LX p s m meth c b L xs g) (hR : Rel M) (hi : i + 6 ≤ L) (k : ∀ M2 : Mem, Rel M2 → LK p l e s m below meth c b g M2 1253 (lo0 g b i) []) : LK p l e s m below meth c b g M 1122 (lo0 g b i) [] := by
  refine l_aload X 1123 2 rfl rfl dL_1122 rfl ?_
  refine l_arg X hi 1 1128 (by decide) (by decide) dL_1123 dL_1124 dL_1125 dL_1126 dL_1127 rfl ?_
  refine l_call X 1131 (As := [.int (xs (i + 1))]) (st := []) 90 (by decide) (ce_90 g _) rfl rfl mwL_133 vlX9_judge (r_judge l g hR ((xs (i + 1)))) mlX9_judge (by decide) (by decide) rfl rfl (Nat.le_of_ble_eq_true rfl) dL_1128 rfl (fun r M1 hM1 => ?_)
  refine l_aload X 1132 3 rfl rfl dL_1131 rfl ?_
  refine l_arg X hi 1 1137 (by decide) (by decide) dL_1132 dL_1133 dL_1134 dL_1135 dL_1136 rfl ?_
  refine l_call X 1140 (As := [.int (xs (i + 1))]) (st := [.int r]) 91 (by decide) (ce_91 g _) rfl rfl mwL_136 vlX10_judge hM1 mlX10_judge (by decide) (by decide) rfl rfl (Nat.le_of_ble_eq_true rfl) dL_1137 rfl (fun r2 M2 hM2 => ?_)
  obtain ⟨rfl, hR2⟩ := hM2
  exact l_eq X 1253 dL_1140 (by decide) (k M2 hR2)
set_option maxRecDepth 20000 in
theorem law_29 (X : LX p s m meth c b L xs g) (hR : Rel M) (hi : i + 6 ≤ L) (k : ∀ M2 : Mem, Rel M2 → LK p l e s m below meth c b g M2 1253 (lo0 g b i) []) : LK p l e s m below meth c b g M 1145 (lo0 g b i) [] := by
  refine l_aload X 1146 2 rfl rfl dL_1145 rfl ?_
  refine l_call X 1149 (As := []) (st := []) 90 (by decide) (ce_90 g _) rfl rfl mwL_137 vlX9_image (r_image l g hR) mlX9_image (by decide) (by decide) rfl rfl (Nat.le_of_ble_eq_true rfl) dL_1146 rfl (fun r M1 hM1 => ?_)
  refine l_aload X 1150 3 rfl rfl dL_1149 rfl ?_
  refine l_call X 1153 (As := []) (st := [.int r]) 91 (by decide) (ce_91 g _) rfl rfl mwL_141 vlX10_image hM1 mlX10_image (by decide) (by decide) rfl rfl (Nat.le_of_ble_eq_true rfl) dL_1150 rfl (fun r2 M2 hM2 => ?_)
  obtain ⟨rfl, hR2⟩ := hM2
  exact l_eq X 1253 dL_1153 (by decide) (k M2 hR2)
set_option maxRecDepth 20000 in
theorem law_30 (X : LX p s m meth c b L xs g) (hR : Rel M) (hi : i + 6 ≤ L) (k : ∀ M2 : Mem, Rel M2 → LK p l e s m below meth c b g M2 1253 (lo0 g b i) []) : LK p l e s m below meth c b g M 1158 (lo0 g b i) [] := by
  refine l_aload X 1159 2 rfl rfl dL_1158 rfl ?_
  refine l_call X 1162 (As := []) (st := []) 90 (by decide) (ce_90 g _) rfl rfl mwL_142 vlX9_restore (r_restore l g hR) mlX9_restore (by decide) (by decide) rfl rfl (Nat.le_of_ble_eq_true rfl) dL_1159 rfl (fun r M1 hM1 => ?_)
  refine l_aload X 1163 3 rfl rfl dL_1162 rfl ?_
  refine l_call X 1166 (As := []) (st := [.int r]) 91 (by decide) (ce_91 g _) rfl rfl mwL_145 vlX10_restore hM1 mlX10_restore (by decide) (by decide) rfl rfl (Nat.le_of_ble_eq_true rfl) dL_1163 rfl (fun r2 M2 hM2 => ?_)
  obtain ⟨rfl, hR2⟩ := hM2
  exact l_eq X 1253 dL_1166 (by decide) (k M2 hR2)
set_option maxRecDepth 20000 in
theorem law_31 (X : LX p s m meth c b L xs g) (hR : Rel M) (hi : i + 6 ≤ L) (k : ∀ M2 : Mem, Rel M2 → LK p l e s m below meth c b g M2 1253 (lo0 g b i) []) : LK p l e s m below meth c b g M 1171 (lo0 g b i) [] := by
  refine l_aload X 1172 2 rfl rfl dL_1171 rfl ?_
  refine l_arg X hi 1 1177 (by decide) (by decide) dL_1172 dL_1173 dL_1174 dL_1175 dL_1176 rfl ?_
  refine l_call X 1180 (As := [.int (xs (i + 1))]) (st := []) 90 (by decide) (ce_90 g _) rfl rfl mwL_146 vlX9_tell (r_tell l g hR ((xs (i + 1)))) mlX9_tell (by decide) (by decide) rfl rfl (Nat.le_of_ble_eq_true rfl) dL_1177 rfl (fun r M1 hM1 => ?_)
  refine l_aload X 1181 3 rfl rfl dL_1180 rfl ?_
  refine l_arg X hi 1 1186 (by decide) (by decide) dL_1181 dL_1182 dL_1183 dL_1184 dL_1185 rfl ?_
  refine l_call X 1189 (As := [.int (xs (i + 1))]) (st := [.int r]) 91 (by decide) (ce_91 g _) rfl rfl mwL_149 vlX10_tell hM1 mlX10_tell (by decide) (by decide) rfl rfl (Nat.le_of_ble_eq_true rfl) dL_1186 rfl (fun r2 M2 hM2 => ?_)
  obtain ⟨rfl, hR2⟩ := hM2
  exact l_eq X 1253 dL_1189 (by decide) (k M2 hR2)
set_option maxRecDepth 20000 in
theorem law_32 (X : LX p s m meth c b L xs g) (hR : Rel M) (hi : i + 6 ≤ L) (k : ∀ M2 : Mem, Rel M2 → LK p l e s m below meth c b g M2 1253 (lo0 g b i) []) : LK p l e s m below meth c b g M 1194 (lo0 g b i) [] := by
  refine l_aload X 1195 2 rfl rfl dL_1194 rfl ?_
  refine l_call X 1198 (As := []) (st := []) 90 (by decide) (ce_90 g _) rfl rfl mwL_150 vlX9_check (r_check l g hR) mlX9_check (by decide) (by decide) rfl rfl (Nat.le_of_ble_eq_true rfl) dL_1195 rfl (fun r M1 hM1 => ?_)
  refine l_aload X 1199 3 rfl rfl dL_1198 rfl ?_
  refine l_call X 1202 (As := []) (st := [.int r]) 91 (by decide) (ce_91 g _) rfl rfl mwL_153 vlX10_check hM1 mlX10_check (by decide) (by decide) rfl rfl (Nat.le_of_ble_eq_true rfl) dL_1199 rfl (fun r2 M2 hM2 => ?_)
  obtain ⟨rfl, hR2⟩ := hM2
  exact l_eq X 1253 dL_1202 (by decide) (k M2 hR2)
set_option maxRecDepth 20000 in
theorem law_33 (X : LX p s m meth c b L xs g) (hR : Rel M) (hi : i + 6 ≤ L) (k : ∀ M2 : Mem, Rel M2 → LK p l e s m below meth c b g M2 1253 (lo0 g b i) []) : LK p l e s m below meth c b g M 1207 (lo0 g b i) [] := by
  refine l_aload X 1208 2 rfl rfl dL_1207 rfl ?_
  refine l_arg X hi 1 1213 (by decide) (by decide) dL_1208 dL_1209 dL_1210 dL_1211 dL_1212 rfl ?_
  refine l_call X 1216 (As := [.int (xs (i + 1))]) (st := []) 90 (by decide) (ce_90 g _) rfl rfl mwL_154 vlX9_count (r_count l g hR ((xs (i + 1)))) mlX9_count (by decide) (by decide) rfl rfl (Nat.le_of_ble_eq_true rfl) dL_1213 rfl (fun r M1 hM1 => ?_)
  refine l_aload X 1217 3 rfl rfl dL_1216 rfl ?_
  refine l_arg X hi 1 1222 (by decide) (by decide) dL_1217 dL_1218 dL_1219 dL_1220 dL_1221 rfl ?_
  refine l_call X 1225 (As := [.int (xs (i + 1))]) (st := [.int r]) 91 (by decide) (ce_91 g _) rfl rfl mwL_157 vlX10_count hM1 mlX10_count (by decide) (by decide) rfl rfl (Nat.le_of_ble_eq_true rfl) dL_1222 rfl (fun r2 M2 hM2 => ?_)
  obtain ⟨rfl, hR2⟩ := hM2
  exact l_eq X 1253 dL_1225 (by decide) (k M2 hR2)
set_option maxRecDepth 20000 in
theorem law_34 (X : LX p s m meth c b L xs g) (hR : Rel M) (hi : i + 6 ≤ L) (k : ∀ M2 : Mem, Rel M2 → LK p l e s m below meth c b g M2 1253 (lo0 g b i) []) : LK p l e s m below meth c b g M 1230 (lo0 g b i) [] := by
  refine l_aload X 1231 2 rfl rfl dL_1230 rfl ?_
  refine l_arg X hi 1 1236 (by decide) (by decide) dL_1231 dL_1232 dL_1233 dL_1234 dL_1235 rfl ?_
  refine l_call X 1239 (As := [.int (xs (i + 1))]) (st := []) 90 (by decide) (ce_90 g _) rfl rfl mwL_158 vlX9_told (r_told l g hR ((xs (i + 1)))) mlX9_told (by decide) (by decide) rfl rfl (Nat.le_of_ble_eq_true rfl) dL_1236 rfl (fun r M1 hM1 => ?_)
  refine l_aload X 1240 3 rfl rfl dL_1239 rfl ?_
  refine l_arg X hi 1 1245 (by decide) (by decide) dL_1240 dL_1241 dL_1242 dL_1243 dL_1244 rfl ?_
  refine l_call X 1248 (As := [.int (xs (i + 1))]) (st := [.int r]) 91 (by decide) (ce_91 g _) rfl rfl mwL_161 vlX10_told hM1 mlX10_told (by decide) (by decide) rfl rfl (Nat.le_of_ble_eq_true rfl) dL_1245 rfl (fun r2 M2 hM2 => ?_)
  obtain ⟨rfl, hR2⟩ := hM2
  exact l_eq X 1253 dL_1248 (by decide) (k M2 hR2)
end LK
