section
variable {g : Gl} {F : Fx} {I : Ty} {L : TL} {R : TR} {N : TN} {n kr sr b Ln i : Nat} {xs : Nat → Int32}
theorem law_0 (hX : ScrF g F b Ln xs) (hi : i + 6 ≤ Ln) (hJ : JX I L R N n) (kk : ∀ (I2 : Ty) (L2 : TL) (R2 : TR) (N2 : TN) (n2 : Nat), JX I2 L2 R2 N2 n2 → V g F cL_law RL 4 100 1289 (lvL g b i) [] I2 L2 R2 N2 n2 kr sr) : V g F cL_law RL 4 100 184 (lvL g b i) [] I L R N n (kr + 2) (sr + 102) := by
  refine v_weak (Nat.le_add_right kr 2) (Nat.le_add_right sr 102) ?_
  refine v_aload_n dL_law_184 rfl 2 rfl ?_
  refine v_arg (k := 1) hX (by omega) rfl dL_law_185 dL_law_186 dL_law_187 dL_law_188 dL_law_189 ?_
  refine v_arg (k := 2) hX (by omega) rfl dL_law_190 dL_law_191 dL_law_192 dL_law_193 dL_law_194 ?_
  refine v_arg (k := 3) hX (by omega) rfl dL_law_195 dL_law_196 dL_law_197 dL_law_198 dL_law_199 ?_
  refine v_both (as := [.int (xs (i + 1)), .int (xs (i + 2)), .int (xs (i + 3))]) (s_traveller hJ (xs (i + 1)) (xs (i + 2)) (xs (i + 3))) (JX_n hJ) lk_L_13 dL_law_200 rfl rfl (by decide) kr sr rfl rfl (fun r I1 L1 R1 N1 n1 post9 hn1 hM9 hfin => ?_)
  refine v_aload_n dL_law_203 rfl 1 rfl ?_
  refine v_arg (k := 1) hX (by omega) rfl dL_law_204 dL_law_205 dL_law_206 dL_law_207 dL_law_208 ?_
  refine v_arg (k := 2) hX (by omega) rfl dL_law_209 dL_law_210 dL_law_211 dL_law_212 dL_law_213 ?_
  refine v_arg (k := 3) hX (by omega) rfl dL_law_214 dL_law_215 dL_law_216 dL_law_217 dL_law_218 ?_
  exact v_then (as := [.int (xs (i + 1)), .int (xs (i + 2)), .int (xs (i + 3))]) hn1 hM9 hfin lk_L_17 dL_law_219 rfl rfl (by decide) dL_law_222 (by decide) kk
theorem law_1 (hX : ScrF g F b Ln xs) (hi : i + 6 ≤ Ln) (hJ : JX I L R N n) (kk : ∀ (I2 : Ty) (L2 : TL) (R2 : TR) (N2 : TN) (n2 : Nat), JX I2 L2 R2 N2 n2 → V g F cL_law RL 4 100 1289 (lvL g b i) [] I2 L2 R2 N2 n2 kr sr) : V g F cL_law RL 4 100 227 (lvL g b i) [] I L R N n (kr + 2) (sr + 102) := by
  refine v_weak (Nat.le_add_right kr 2) (Nat.le_add_right sr 102) ?_
  refine v_aload_n dL_law_227 rfl 2 rfl ?_
  refine v_arg (k := 1) hX (by omega) rfl dL_law_228 dL_law_229 dL_law_230 dL_law_231 dL_law_232 ?_
  refine v_arg (k := 2) hX (by omega) rfl dL_law_233 dL_law_234 dL_law_235 dL_law_236 dL_law_237 ?_
  refine v_both (as := [.int (xs (i + 1)), .int (xs (i + 2))]) (s_of hJ (xs (i + 1)) (xs (i + 2))) (JX_n hJ) lk_L_18 dL_law_238 rfl rfl (by decide) kr sr rfl rfl (fun r I1 L1 R1 N1 n1 post9 hn1 hM9 hfin => ?_)
  refine v_aload_n dL_law_241 rfl 1 rfl ?_
  refine v_arg (k := 1) hX (by omega) rfl dL_law_242 dL_law_243 dL_law_244 dL_law_245 dL_law_246 ?_
  refine v_arg (k := 2) hX (by omega) rfl dL_law_247 dL_law_248 dL_law_249 dL_law_250 dL_law_251 ?_
  exact v_then (as := [.int (xs (i + 1)), .int (xs (i + 2))]) hn1 hM9 hfin lk_L_22 dL_law_252 rfl rfl (by decide) dL_law_255 (by decide) kk
theorem law_2 (hX : ScrF g F b Ln xs) (hi : i + 6 ≤ Ln) (hJ : JX I L R N n) (kk : ∀ (I2 : Ty) (L2 : TL) (R2 : TR) (N2 : TN) (n2 : Nat), JX I2 L2 R2 N2 n2 → V g F cL_law RL 4 100 1289 (lvL g b i) [] I2 L2 R2 N2 n2 kr sr) : V g F cL_law RL 4 100 260 (lvL g b i) [] I L R N n (kr + 2) (sr + 102) := by
  refine v_weak (Nat.le_add_right kr 2) (Nat.le_add_right sr 102) ?_
  refine v_aload_n dL_law_260 rfl 2 rfl ?_
  refine v_arg (k := 1) hX (by omega) rfl dL_law_261 dL_law_262 dL_law_263 dL_law_264 dL_law_265 ?_
  refine v_arg (k := 2) hX (by omega) rfl dL_law_266 dL_law_267 dL_law_268 dL_law_269 dL_law_270 ?_
  refine v_both (as := [.int (xs (i + 1)), .int (xs (i + 2))]) (s_welcome hJ (xs (i + 1)) (xs (i + 2))) (JX_n hJ) lk_L_23 dL_law_271 rfl rfl (by decide) kr sr rfl rfl (fun r I1 L1 R1 N1 n1 post9 hn1 hM9 hfin => ?_)
  refine v_aload_n dL_law_274 rfl 1 rfl ?_
  refine v_arg (k := 1) hX (by omega) rfl dL_law_275 dL_law_276 dL_law_277 dL_law_278 dL_law_279 ?_
  refine v_arg (k := 2) hX (by omega) rfl dL_law_280 dL_law_281 dL_law_282 dL_law_283 dL_law_284 ?_
  exact v_then (as := [.int (xs (i + 1)), .int (xs (i + 2))]) hn1 hM9 hfin lk_L_26 dL_law_285 rfl rfl (by decide) dL_law_288 (by decide) kk
theorem law_3 (hX : ScrF g F b Ln xs) (hi : i + 6 ≤ Ln) (hJ : JX I L R N n) (kk : ∀ (I2 : Ty) (L2 : TL) (R2 : TR) (N2 : TN) (n2 : Nat), JX I2 L2 R2 N2 n2 → V g F cL_law RL 4 100 1289 (lvL g b i) [] I2 L2 R2 N2 n2 kr sr) : V g F cL_law RL 4 100 293 (lvL g b i) [] I L R N n (kr + 2) (sr + 102) := by
  refine v_weak (Nat.le_add_right kr 2) (Nat.le_add_right sr 102) ?_
  refine v_aload_n dL_law_293 rfl 2 rfl ?_
  refine v_arg (k := 1) hX (by omega) rfl dL_law_294 dL_law_295 dL_law_296 dL_law_297 dL_law_298 ?_
  refine v_arg (k := 2) hX (by omega) rfl dL_law_299 dL_law_300 dL_law_301 dL_law_302 dL_law_303 ?_
  refine v_both (as := [.int (xs (i + 1)), .int (xs (i + 2))]) (s_goal hJ (xs (i + 1)) (xs (i + 2))) (JX_n hJ) lk_L_27 dL_law_304 rfl rfl (by decide) kr sr rfl rfl (fun r I1 L1 R1 N1 n1 post9 hn1 hM9 hfin => ?_)
  refine v_aload_n dL_law_307 rfl 1 rfl ?_
  refine v_arg (k := 1) hX (by omega) rfl dL_law_308 dL_law_309 dL_law_310 dL_law_311 dL_law_312 ?_
  refine v_arg (k := 2) hX (by omega) rfl dL_law_313 dL_law_314 dL_law_315 dL_law_316 dL_law_317 ?_
  exact v_then (as := [.int (xs (i + 1)), .int (xs (i + 2))]) hn1 hM9 hfin lk_L_30 dL_law_318 rfl rfl (by decide) dL_law_321 (by decide) kk
theorem law_4 (hX : ScrF g F b Ln xs) (hi : i + 6 ≤ Ln) (hJ : JX I L R N n) (kk : ∀ (I2 : Ty) (L2 : TL) (R2 : TR) (N2 : TN) (n2 : Nat), JX I2 L2 R2 N2 n2 → V g F cL_law RL 4 100 1289 (lvL g b i) [] I2 L2 R2 N2 n2 kr sr) : V g F cL_law RL 4 100 326 (lvL g b i) [] I L R N n (kr + 2) (sr + 102) := by
  refine v_weak (Nat.le_add_right kr 2) (Nat.le_add_right sr 102) ?_
  refine v_aload_n dL_law_326 rfl 2 rfl ?_
  refine v_arg (k := 1) hX (by omega) rfl dL_law_327 dL_law_328 dL_law_329 dL_law_330 dL_law_331 ?_
  refine v_arg (k := 2) hX (by omega) rfl dL_law_332 dL_law_333 dL_law_334 dL_law_335 dL_law_336 ?_
  refine v_both (as := [.int (xs (i + 1)), .int (xs (i + 2))]) (s_put hJ (xs (i + 1)) (xs (i + 2))) (JX_n hJ) lk_L_31 dL_law_337 rfl rfl (by decide) kr sr rfl rfl (fun r I1 L1 R1 N1 n1 post9 hn1 hM9 hfin => ?_)
  refine v_aload_n dL_law_340 rfl 1 rfl ?_
  refine v_arg (k := 1) hX (by omega) rfl dL_law_341 dL_law_342 dL_law_343 dL_law_344 dL_law_345 ?_
  refine v_arg (k := 2) hX (by omega) rfl dL_law_346 dL_law_347 dL_law_348 dL_law_349 dL_law_350 ?_
  exact v_then (as := [.int (xs (i + 1)), .int (xs (i + 2))]) hn1 hM9 hfin lk_L_34 dL_law_351 rfl rfl (by decide) dL_law_354 (by decide) kk
theorem law_5 (hX : ScrF g F b Ln xs) (hi : i + 6 ≤ Ln) (hJ : JX I L R N n) (kk : ∀ (I2 : Ty) (L2 : TL) (R2 : TR) (N2 : TN) (n2 : Nat), JX I2 L2 R2 N2 n2 → V g F cL_law RL 4 100 1289 (lvL g b i) [] I2 L2 R2 N2 n2 kr sr) : V g F cL_law RL 4 100 359 (lvL g b i) [] I L R N n (kr + 2) (sr + 102) := by
  refine v_weak (Nat.le_add_right kr 2) (Nat.le_add_right sr 102) ?_
  refine v_aload_n dL_law_359 rfl 2 rfl ?_
  refine v_arg (k := 1) hX (by omega) rfl dL_law_360 dL_law_361 dL_law_362 dL_law_363 dL_law_364 ?_
  refine v_arg (k := 2) hX (by omega) rfl dL_law_365 dL_law_366 dL_law_367 dL_law_368 dL_law_369 ?_
  refine v_both (as := [.int (xs (i + 1)), .int (xs (i + 2))]) (s_chart hJ (xs (i + 1)) (xs (i + 2))) (JX_n hJ) lk_L_35 dL_law_370 rfl rfl (by decide) kr sr rfl rfl (fun r I1 L1 R1 N1 n1 post9 hn1 hM9 hfin => ?_)
  refine v_aload_n dL_law_373 rfl 1 rfl ?_
  refine v_arg (k := 1) hX (by omega) rfl dL_law_374 dL_law_375 dL_law_376 dL_law_377 dL_law_378 ?_
  refine v_arg (k := 2) hX (by omega) rfl dL_law_379 dL_law_380 dL_law_381 dL_law_382 dL_law_383 ?_
  exact v_then (as := [.int (xs (i + 1)), .int (xs (i + 2))]) hn1 hM9 hfin lk_L_38 dL_law_384 rfl rfl (by decide) dL_law_387 (by decide) kk
theorem law_6 (hX : ScrF g F b Ln xs) (hi : i + 6 ≤ Ln) (hJ : JX I L R N n) (kk : ∀ (I2 : Ty) (L2 : TL) (R2 : TR) (N2 : TN) (n2 : Nat), JX I2 L2 R2 N2 n2 → V g F cL_law RL 4 100 1289 (lvL g b i) [] I2 L2 R2 N2 n2 kr sr) : V g F cL_law RL 4 100 392 (lvL g b i) [] I L R N n (kr + 2) (sr + 102) := by
  refine v_weak (Nat.le_add_right kr 2) (Nat.le_add_right sr 102) ?_
  refine v_aload_n dL_law_392 rfl 2 rfl ?_
  refine v_arg (k := 1) hX (by omega) rfl dL_law_393 dL_law_394 dL_law_395 dL_law_396 dL_law_397 ?_
  refine v_arg (k := 2) hX (by omega) rfl dL_law_398 dL_law_399 dL_law_400 dL_law_401 dL_law_402 ?_
  refine v_both (as := [.int (xs (i + 1)), .int (xs (i + 2))]) (s_gate hJ (xs (i + 1)) (xs (i + 2))) (JX_n hJ) lk_L_39 dL_law_403 rfl rfl (by decide) kr sr rfl rfl (fun r I1 L1 R1 N1 n1 post9 hn1 hM9 hfin => ?_)
  refine v_aload_n dL_law_406 rfl 1 rfl ?_
  refine v_arg (k := 1) hX (by omega) rfl dL_law_407 dL_law_408 dL_law_409 dL_law_410 dL_law_411 ?_
  refine v_arg (k := 2) hX (by omega) rfl dL_law_412 dL_law_413 dL_law_414 dL_law_415 dL_law_416 ?_
  exact v_then (as := [.int (xs (i + 1)), .int (xs (i + 2))]) hn1 hM9 hfin lk_L_42 dL_law_417 rfl rfl (by decide) dL_law_420 (by decide) kk
theorem law_7 (hX : ScrF g F b Ln xs) (hi : i + 6 ≤ Ln) (hJ : JX I L R N n) (kk : ∀ (I2 : Ty) (L2 : TL) (R2 : TR) (N2 : TN) (n2 : Nat), JX I2 L2 R2 N2 n2 → V g F cL_law RL 4 100 1289 (lvL g b i) [] I2 L2 R2 N2 n2 kr sr) : V g F cL_law RL 4 100 425 (lvL g b i) [] I L R N n (kr + 2) (sr + 102) := by
  refine v_weak (Nat.le_add_right kr 2) (Nat.le_add_right sr 102) ?_
  refine v_aload_n dL_law_425 rfl 2 rfl ?_
  refine v_arg (k := 1) hX (by omega) rfl dL_law_426 dL_law_427 dL_law_428 dL_law_429 dL_law_430 ?_
  refine v_arg (k := 2) hX (by omega) rfl dL_law_431 dL_law_432 dL_law_433 dL_law_434 dL_law_435 ?_
  refine v_arg (k := 3) hX (by omega) rfl dL_law_436 dL_law_437 dL_law_438 dL_law_439 dL_law_440 ?_
  refine v_both (as := [.int (xs (i + 1)), .int (xs (i + 2)), .int (xs (i + 3))]) (s_row hJ (xs (i + 1)) (xs (i + 2)) (xs (i + 3))) (JX_n hJ) lk_L_43 dL_law_441 rfl rfl (by decide) kr sr rfl rfl (fun r I1 L1 R1 N1 n1 post9 hn1 hM9 hfin => ?_)
  refine v_aload_n dL_law_444 rfl 1 rfl ?_
  refine v_arg (k := 1) hX (by omega) rfl dL_law_445 dL_law_446 dL_law_447 dL_law_448 dL_law_449 ?_
  refine v_arg (k := 2) hX (by omega) rfl dL_law_450 dL_law_451 dL_law_452 dL_law_453 dL_law_454 ?_
  refine v_arg (k := 3) hX (by omega) rfl dL_law_455 dL_law_456 dL_law_457 dL_law_458 dL_law_459 ?_
  exact v_then (as := [.int (xs (i + 1)), .int (xs (i + 2)), .int (xs (i + 3))]) hn1 hM9 hfin lk_L_46 dL_law_460 rfl rfl (by decide) dL_law_463 (by decide) kk
theorem law_8 (hX : ScrF g F b Ln xs) (hi : i + 6 ≤ Ln) (hJ : JX I L R N n) (kk : ∀ (I2 : Ty) (L2 : TL) (R2 : TR) (N2 : TN) (n2 : Nat), JX I2 L2 R2 N2 n2 → V g F cL_law RL 4 100 1289 (lvL g b i) [] I2 L2 R2 N2 n2 kr sr) : V g F cL_law RL 4 100 468 (lvL g b i) [] I L R N n (kr + 2) (sr + 102) := by
  refine v_weak (Nat.le_add_right kr 2) (Nat.le_add_right sr 102) ?_
  refine v_aload_n dL_law_468 rfl 2 rfl ?_
  refine v_arg (k := 1) hX (by omega) rfl dL_law_469 dL_law_470 dL_law_471 dL_law_472 dL_law_473 ?_
  refine v_both (as := [.int (xs (i + 1))]) (s_feed hJ (xs (i + 1))) (JX_n hJ) lk_L_47 dL_law_474 rfl rfl (by decide) kr sr rfl rfl (fun r I1 L1 R1 N1 n1 post9 hn1 hM9 hfin => ?_)
  refine v_aload_n dL_law_477 rfl 1 rfl ?_
  refine v_arg (k := 1) hX (by omega) rfl dL_law_478 dL_law_479 dL_law_480 dL_law_481 dL_law_482 ?_
  exact v_then (as := [.int (xs (i + 1))]) hn1 hM9 hfin lk_L_51 dL_law_483 rfl rfl (by decide) dL_law_486 (by decide) kk
theorem law_9 (hX : ScrF g F b Ln xs) (hi : i + 6 ≤ Ln) (hJ : JX I L R N n) (kk : ∀ (I2 : Ty) (L2 : TL) (R2 : TR) (N2 : TN) (n2 : Nat), JX I2 L2 R2 N2 n2 → V g F cL_law RL 4 100 1289 (lvL g b i) [] I2 L2 R2 N2 n2 kr sr) : V g F cL_law RL 4 100 491 (lvL g b i) [] I L R N n (kr + 2) (sr + 102) := by
  refine v_aload_n dL_law_491 rfl 2 rfl ?_
  refine v_both (as := []) (s_nation hJ) (JX_n hJ) lk_L_52 dL_law_492 rfl rfl (by decide) kr sr rfl rfl (fun r I1 L1 R1 N1 n1 post9 hn1 hM9 hfin => ?_)
  refine v_aload_n dL_law_495 rfl 1 rfl ?_
  exact v_then (as := []) hn1 hM9 hfin lk_L_56 dL_law_496 rfl rfl (by decide) dL_law_499 (by decide) kk
theorem law_10 (hX : ScrF g F b Ln xs) (hi : i + 6 ≤ Ln) (hJ : JX I L R N n) (kk : ∀ (I2 : Ty) (L2 : TL) (R2 : TR) (N2 : TN) (n2 : Nat), JX I2 L2 R2 N2 n2 → V g F cL_law RL 4 100 1289 (lvL g b i) [] I2 L2 R2 N2 n2 kr sr) : V g F cL_law RL 4 100 504 (lvL g b i) [] I L R N n (kr + 2) (sr + 102) := by
  refine v_weak (Nat.le_add_right kr 2) (Nat.le_add_right sr 102) ?_
  refine v_aload_n dL_law_504 rfl 2 rfl ?_
  refine v_arg (k := 1) hX (by omega) rfl dL_law_505 dL_law_506 dL_law_507 dL_law_508 dL_law_509 ?_
  refine v_both (as := [.int (xs (i + 1))]) (s_told hJ (xs (i + 1))) (JX_n hJ) lk_L_57 dL_law_510 rfl rfl (by decide) kr sr rfl rfl (fun r I1 L1 R1 N1 n1 post9 hn1 hM9 hfin => ?_)
  refine v_aload_n dL_law_513 rfl 1 rfl ?_
  refine v_arg (k := 1) hX (by omega) rfl dL_law_514 dL_law_515 dL_law_516 dL_law_517 dL_law_518 ?_
  exact v_then (as := [.int (xs (i + 1))]) hn1 hM9 hfin lk_L_60 dL_law_519 rfl rfl (by decide) dL_law_522 (by decide) kk
theorem law_11 (hX : ScrF g F b Ln xs) (hi : i + 6 ≤ Ln) (hJ : JX I L R N n) (kk : ∀ (I2 : Ty) (L2 : TL) (R2 : TR) (N2 : TN) (n2 : Nat), JX I2 L2 R2 N2 n2 → V g F cL_law RL 4 100 1289 (lvL g b i) [] I2 L2 R2 N2 n2 kr sr) : V g F cL_law RL 4 100 527 (lvL g b i) [] I L R N n (kr + 2) (sr + 102) := by
  refine v_weak (Nat.le_add_right kr 2) (Nat.le_add_right sr 102) ?_
  refine v_aload_n dL_law_527 rfl 2 rfl ?_
  refine v_arg (k := 1) hX (by omega) rfl dL_law_528 dL_law_529 dL_law_530 dL_law_531 dL_law_532 ?_
  refine v_both (as := [.int (xs (i + 1))]) (s_pass hJ (xs (i + 1))) (JX_n hJ) lk_L_61 dL_law_533 rfl rfl (by decide) kr sr rfl rfl (fun r I1 L1 R1 N1 n1 post9 hn1 hM9 hfin => ?_)
  refine v_aload_n dL_law_536 rfl 1 rfl ?_
  refine v_arg (k := 1) hX (by omega) rfl dL_law_537 dL_law_538 dL_law_539 dL_law_540 dL_law_541 ?_
  exact v_then (as := [.int (xs (i + 1))]) hn1 hM9 hfin lk_L_64 dL_law_542 rfl rfl (by decide) dL_law_545 (by decide) kk
theorem law_12 (hX : ScrF g F b Ln xs) (hi : i + 6 ≤ Ln) (hJ : JX I L R N n) (kk : ∀ (I2 : Ty) (L2 : TL) (R2 : TR) (N2 : TN) (n2 : Nat), JX I2 L2 R2 N2 n2 → V g F cL_law RL 4 100 1289 (lvL g b i) [] I2 L2 R2 N2 n2 kr sr) : V g F cL_law RL 4 100 550 (lvL g b i) [] I L R N n (kr + 2) (sr + 102) := by
  refine v_weak (Nat.le_add_right kr 2) (Nat.le_add_right sr 102) ?_
  refine v_aload_n dL_law_550 rfl 2 rfl ?_
  refine v_arg (k := 1) hX (by omega) rfl dL_law_551 dL_law_552 dL_law_553 dL_law_554 dL_law_555 ?_
  refine v_arg (k := 2) hX (by omega) rfl dL_law_556 dL_law_557 dL_law_558 dL_law_559 dL_law_560 ?_
  refine v_both (as := [.int (xs (i + 1)), .int (xs (i + 2))]) (s_on hJ (xs (i + 1)) (xs (i + 2))) (JX_n hJ) lk_L_65 dL_law_561 rfl rfl (by decide) kr sr rfl rfl (fun r I1 L1 R1 N1 n1 post9 hn1 hM9 hfin => ?_)
  refine v_aload_n dL_law_564 rfl 1 rfl ?_
  refine v_arg (k := 1) hX (by omega) rfl dL_law_565 dL_law_566 dL_law_567 dL_law_568 dL_law_569 ?_
  refine v_arg (k := 2) hX (by omega) rfl dL_law_570 dL_law_571 dL_law_572 dL_law_573 dL_law_574 ?_
  exact v_then (as := [.int (xs (i + 1)), .int (xs (i + 2))]) hn1 hM9 hfin lk_L_68 dL_law_575 rfl rfl (by decide) dL_law_578 (by decide) kk
theorem law_13 (hX : ScrF g F b Ln xs) (hi : i + 6 ≤ Ln) (hJ : JX I L R N n) (kk : ∀ (I2 : Ty) (L2 : TL) (R2 : TR) (N2 : TN) (n2 : Nat), JX I2 L2 R2 N2 n2 → V g F cL_law RL 4 100 1289 (lvL g b i) [] I2 L2 R2 N2 n2 kr sr) : V g F cL_law RL 4 100 583 (lvL g b i) [] I L R N n (kr + 2) (sr + 102) := by
  refine v_weak (Nat.le_add_right kr 2) (Nat.le_add_right sr 102) ?_
  refine v_aload_n dL_law_583 rfl 2 rfl ?_
  refine v_arg (k := 1) hX (by omega) rfl dL_law_584 dL_law_585 dL_law_586 dL_law_587 dL_law_588 ?_
  refine v_arg (k := 2) hX (by omega) rfl dL_law_589 dL_law_590 dL_law_591 dL_law_592 dL_law_593 ?_
  refine v_arg (k := 3) hX (by omega) rfl dL_law_594 dL_law_595 dL_law_596 dL_law_597 dL_law_598 ?_
  refine v_both (as := [.int (xs (i + 1)), .int (xs (i + 2)), .int (xs (i + 3))]) (s_way hJ (xs (i + 1)) (xs (i + 2)) (xs (i + 3))) (JX_n hJ) lk_L_69 dL_law_599 rfl rfl (by decide) kr sr rfl rfl (fun r I1 L1 R1 N1 n1 post9 hn1 hM9 hfin => ?_)
  refine v_aload_n dL_law_602 rfl 1 rfl ?_
  refine v_arg (k := 1) hX (by omega) rfl dL_law_603 dL_law_604 dL_law_605 dL_law_606 dL_law_607 ?_
  refine v_arg (k := 2) hX (by omega) rfl dL_law_608 dL_law_609 dL_law_610 dL_law_611 dL_law_612 ?_
  refine v_arg (k := 3) hX (by omega) rfl dL_law_613 dL_law_614 dL_law_615 dL_law_616 dL_law_617 ?_
  exact v_then (as := [.int (xs (i + 1)), .int (xs (i + 2)), .int (xs (i + 3))]) hn1 hM9 hfin lk_L_72 dL_law_618 rfl rfl (by decide) dL_law_621 (by decide) kk
theorem law_14 (hX : ScrF g F b Ln xs) (hi : i + 6 ≤ Ln) (hJ : JX I L R N n) (kk : ∀ (I2 : Ty) (L2 : TL) (R2 : TR) (N2 : TN) (n2 : Nat), JX I2 L2 R2 N2 n2 → V g F cL_law RL 4 100 1289 (lvL g b i) [] I2 L2 R2 N2 n2 kr sr) : V g F cL_law RL 4 100 626 (lvL g b i) [] I L R N n (kr + 2) (sr + 102) := by
  refine v_weak (Nat.le_add_right kr 2) (Nat.le_add_right sr 102) ?_
  refine v_aload_n dL_law_626 rfl 2 rfl ?_
  refine v_arg (k := 1) hX (by omega) rfl dL_law_627 dL_law_628 dL_law_629 dL_law_630 dL_law_631 ?_
  refine v_arg (k := 2) hX (by omega) rfl dL_law_632 dL_law_633 dL_law_634 dL_law_635 dL_law_636 ?_
  refine v_both (as := [.int (xs (i + 1)), .int (xs (i + 2))]) (s_straight hJ (xs (i + 1)) (xs (i + 2))) (JX_n hJ) lk_L_73 dL_law_637 rfl rfl (by decide) kr sr rfl rfl (fun r I1 L1 R1 N1 n1 post9 hn1 hM9 hfin => ?_)
  refine v_aload_n dL_law_640 rfl 1 rfl ?_
  refine v_arg (k := 1) hX (by omega) rfl dL_law_641 dL_law_642 dL_law_643 dL_law_644 dL_law_645 ?_
  refine v_arg (k := 2) hX (by omega) rfl dL_law_646 dL_law_647 dL_law_648 dL_law_649 dL_law_650 ?_
  exact v_then (as := [.int (xs (i + 1)), .int (xs (i + 2))]) hn1 hM9 hfin lk_L_76 dL_law_651 rfl rfl (by decide) dL_law_654 (by decide) kk
theorem law_15 (hX : ScrF g F b Ln xs) (hi : i + 6 ≤ Ln) (hJ : JX I L R N n) (kk : ∀ (I2 : Ty) (L2 : TL) (R2 : TR) (N2 : TN) (n2 : Nat), JX I2 L2 R2 N2 n2 → V g F cL_law RL 4 100 1289 (lvL g b i) [] I2 L2 R2 N2 n2 kr sr) : V g F cL_law RL 4 100 659 (lvL g b i) [] I L R N n (kr + 2) (sr + 102) := by
  refine v_weak (Nat.le_add_right kr 2) (Nat.le_add_right sr 102) ?_
  refine v_aload_n dL_law_659 rfl 2 rfl ?_
  refine v_arg (k := 1) hX (by omega) rfl dL_law_660 dL_law_661 dL_law_662 dL_law_663 dL_law_664 ?_
  refine v_arg (k := 2) hX (by omega) rfl dL_law_665 dL_law_666 dL_law_667 dL_law_668 dL_law_669 ?_
  refine v_arg (k := 3) hX (by omega) rfl dL_law_670 dL_law_671 dL_law_672 dL_law_673 dL_law_674 ?_
  refine v_both (as := [.int (xs (i + 1)), .int (xs (i + 2)), .int (xs (i + 3))]) (s_see hJ (xs (i + 1)) (xs (i + 2)) (xs (i + 3))) (JX_n hJ) lk_L_77 dL_law_675 rfl rfl (by decide) kr sr rfl rfl (fun r I1 L1 R1 N1 n1 post9 hn1 hM9 hfin => ?_)
  refine v_aload_n dL_law_678 rfl 1 rfl ?_
  refine v_arg (k := 1) hX (by omega) rfl dL_law_679 dL_law_680 dL_law_681 dL_law_682 dL_law_683 ?_
  refine v_arg (k := 2) hX (by omega) rfl dL_law_684 dL_law_685 dL_law_686 dL_law_687 dL_law_688 ?_
  refine v_arg (k := 3) hX (by omega) rfl dL_law_689 dL_law_690 dL_law_691 dL_law_692 dL_law_693 ?_
  exact v_then (as := [.int (xs (i + 1)), .int (xs (i + 2)), .int (xs (i + 3))]) hn1 hM9 hfin lk_L_80 dL_law_694 rfl rfl (by decide) dL_law_697 (by decide) kk
theorem law_16 (hX : ScrF g F b Ln xs) (hi : i + 6 ≤ Ln) (hJ : JX I L R N n) (kk : ∀ (I2 : Ty) (L2 : TL) (R2 : TR) (N2 : TN) (n2 : Nat), JX I2 L2 R2 N2 n2 → V g F cL_law RL 4 100 1289 (lvL g b i) [] I2 L2 R2 N2 n2 kr sr) : V g F cL_law RL 4 100 702 (lvL g b i) [] I L R N n (kr + 2) (sr + 102) := by
  refine v_weak (Nat.le_add_right kr 2) (Nat.le_add_right sr 102) ?_
  refine v_aload_n dL_law_702 rfl 2 rfl ?_
  refine v_arg (k := 1) hX (by omega) rfl dL_law_703 dL_law_704 dL_law_705 dL_law_706 dL_law_707 ?_
  refine v_arg (k := 2) hX (by omega) rfl dL_law_708 dL_law_709 dL_law_710 dL_law_711 dL_law_712 ?_
  refine v_both (as := [.int (xs (i + 1)), .int (xs (i + 2))]) (s_can hJ (xs (i + 1)) (xs (i + 2))) (JX_n hJ) lk_L_81 dL_law_713 rfl rfl (by decide) kr sr rfl rfl (fun r I1 L1 R1 N1 n1 post9 hn1 hM9 hfin => ?_)
  refine v_aload_n dL_law_716 rfl 1 rfl ?_
  refine v_arg (k := 1) hX (by omega) rfl dL_law_717 dL_law_718 dL_law_719 dL_law_720 dL_law_721 ?_
  refine v_arg (k := 2) hX (by omega) rfl dL_law_722 dL_law_723 dL_law_724 dL_law_725 dL_law_726 ?_
  exact v_then (as := [.int (xs (i + 1)), .int (xs (i + 2))]) hn1 hM9 hfin lk_L_84 dL_law_727 rfl rfl (by decide) dL_law_730 (by decide) kk
theorem law_17 (hX : ScrF g F b Ln xs) (hi : i + 6 ≤ Ln) (hJ : JX I L R N n) (kk : ∀ (I2 : Ty) (L2 : TL) (R2 : TR) (N2 : TN) (n2 : Nat), JX I2 L2 R2 N2 n2 → V g F cL_law RL 4 100 1289 (lvL g b i) [] I2 L2 R2 N2 n2 kr sr) : V g F cL_law RL 4 100 735 (lvL g b i) [] I L R N n (kr + 2) (sr + 102) := by
  refine v_weak (Nat.le_add_right kr 2) (Nat.le_add_right sr 102) ?_
  refine v_aload_n dL_law_735 rfl 2 rfl ?_
  refine v_arg (k := 1) hX (by omega) rfl dL_law_736 dL_law_737 dL_law_738 dL_law_739 dL_law_740 ?_
  refine v_arg (k := 2) hX (by omega) rfl dL_law_741 dL_law_742 dL_law_743 dL_law_744 dL_law_745 ?_
  refine v_bothL (as := [.int (xs (i + 1)), .int (xs (i + 2))]) (s_odds hJ (xs (i + 1)) (xs (i + 2))) (JX_n hJ) lk_L_85 dL_law_746 rfl rfl (by decide) kr sr rfl rfl (fun r I1 L1 R1 N1 n1 post9 hn1 hM9 hfin => ?_)
  refine v_aload_n dL_law_749 rfl 1 rfl ?_
  refine v_arg (k := 1) hX (by omega) rfl dL_law_750 dL_law_751 dL_law_752 dL_law_753 dL_law_754 ?_
  refine v_arg (k := 2) hX (by omega) rfl dL_law_755 dL_law_756 dL_law_757 dL_law_758 dL_law_759 ?_
  exact v_thenL (as := [.int (xs (i + 1)), .int (xs (i + 2))]) hn1 hM9 hfin lk_L_89 dL_law_760 rfl rfl (by decide) dL_law_763 dL_law_764 (by decide) kk
theorem law_18 (hX : ScrF g F b Ln xs) (hi : i + 6 ≤ Ln) (hJ : JX I L R N n) (kk : ∀ (I2 : Ty) (L2 : TL) (R2 : TR) (N2 : TN) (n2 : Nat), JX I2 L2 R2 N2 n2 → V g F cL_law RL 4 100 1289 (lvL g b i) [] I2 L2 R2 N2 n2 kr sr) : V g F cL_law RL 4 100 769 (lvL g b i) [] I L R N n (kr + 2) (sr + 102) := by
  refine v_weak (Nat.le_add_right kr 2) (Nat.le_add_right sr 102) ?_
  refine v_aload_n dL_law_769 rfl 2 rfl ?_
  refine v_arg (k := 1) hX (by omega) rfl dL_law_770 dL_law_771 dL_law_772 dL_law_773 dL_law_774 ?_
  refine v_bothL (as := [.int (xs (i + 1))]) (s_mean hJ (xs (i + 1))) (JX_n hJ) lk_L_90 dL_law_775 rfl rfl (by decide) kr sr rfl rfl (fun r I1 L1 R1 N1 n1 post9 hn1 hM9 hfin => ?_)
  refine v_aload_n dL_law_778 rfl 1 rfl ?_
  refine v_arg (k := 1) hX (by omega) rfl dL_law_779 dL_law_780 dL_law_781 dL_law_782 dL_law_783 ?_
  exact v_thenL (as := [.int (xs (i + 1))]) hn1 hM9 hfin lk_L_94 dL_law_784 rfl rfl (by decide) dL_law_787 dL_law_788 (by decide) kk
theorem law_19 (hX : ScrF g F b Ln xs) (hi : i + 6 ≤ Ln) (hJ : JX I L R N n) (kk : ∀ (I2 : Ty) (L2 : TL) (R2 : TR) (N2 : TN) (n2 : Nat), JX I2 L2 R2 N2 n2 → V g F cL_law RL 4 100 1289 (lvL g b i) [] I2 L2 R2 N2 n2 kr sr) : V g F cL_law RL 4 100 793 (lvL g b i) [] I L R N n (kr + 2) (sr + 102) := by
  refine v_weak (Nat.le_add_right kr 2) (Nat.le_add_right sr 102) ?_
  refine v_aload_n dL_law_793 rfl 2 rfl ?_
  refine v_arg (k := 1) hX (by omega) rfl dL_law_794 dL_law_795 dL_law_796 dL_law_797 dL_law_798 ?_
  refine v_arg (k := 2) hX (by omega) rfl dL_law_799 dL_law_800 dL_law_801 dL_law_802 dL_law_803 ?_
  refine v_both (as := [.int (xs (i + 1)), .int (xs (i + 2))]) (s_plan hJ (xs (i + 1)) (xs (i + 2))) (JX_n hJ) lk_L_95 dL_law_804 rfl rfl (by decide) kr sr rfl rfl (fun r I1 L1 R1 N1 n1 post9 hn1 hM9 hfin => ?_)
  refine v_aload_n dL_law_807 rfl 1 rfl ?_
  refine v_arg (k := 1) hX (by omega) rfl dL_law_808 dL_law_809 dL_law_810 dL_law_811 dL_law_812 ?_
  refine v_arg (k := 2) hX (by omega) rfl dL_law_813 dL_law_814 dL_law_815 dL_law_816 dL_law_817 ?_
  exact v_then (as := [.int (xs (i + 1)), .int (xs (i + 2))]) hn1 hM9 hfin lk_L_98 dL_law_818 rfl rfl (by decide) dL_law_821 (by decide) kk
theorem law_20 (hX : ScrF g F b Ln xs) (hi : i + 6 ≤ Ln) (hJ : JX I L R N n) (kk : ∀ (I2 : Ty) (L2 : TL) (R2 : TR) (N2 : TN) (n2 : Nat), JX I2 L2 R2 N2 n2 → V g F cL_law RL 4 100 1289 (lvL g b i) [] I2 L2 R2 N2 n2 kr sr) : V g F cL_law RL 4 100 826 (lvL g b i) [] I L R N n (kr + 2) (sr + 102) := by
  refine v_weak (Nat.le_add_right kr 2) (Nat.le_add_right sr 102) ?_
  refine v_aload_n dL_law_826 rfl 2 rfl ?_
  refine v_arg (k := 1) hX (by omega) rfl dL_law_827 dL_law_828 dL_law_829 dL_law_830 dL_law_831 ?_
  refine v_both (as := [.int (xs (i + 1))]) (s_ends hJ (xs (i + 1))) (JX_n hJ) lk_L_99 dL_law_832 rfl rfl (by decide) kr sr rfl rfl (fun r I1 L1 R1 N1 n1 post9 hn1 hM9 hfin => ?_)
  refine v_aload_n dL_law_835 rfl 1 rfl ?_
  refine v_arg (k := 1) hX (by omega) rfl dL_law_836 dL_law_837 dL_law_838 dL_law_839 dL_law_840 ?_
  exact v_then (as := [.int (xs (i + 1))]) hn1 hM9 hfin lk_L_102 dL_law_841 rfl rfl (by decide) dL_law_844 (by decide) kk
theorem law_21 (hX : ScrF g F b Ln xs) (hi : i + 6 ≤ Ln) (hJ : JX I L R N n) (kk : ∀ (I2 : Ty) (L2 : TL) (R2 : TR) (N2 : TN) (n2 : Nat), JX I2 L2 R2 N2 n2 → V g F cL_law RL 4 100 1289 (lvL g b i) [] I2 L2 R2 N2 n2 kr sr) : V g F cL_law RL 4 100 849 (lvL g b i) [] I L R N n (kr + 2) (sr + 102) := by
  refine v_weak (Nat.le_add_right kr 2) (Nat.le_add_right sr 102) ?_
  refine v_aload_n dL_law_849 rfl 2 rfl ?_
  refine v_arg (k := 1) hX (by omega) rfl dL_law_850 dL_law_851 dL_law_852 dL_law_853 dL_law_854 ?_
  refine v_arg (k := 2) hX (by omega) rfl dL_law_855 dL_law_856 dL_law_857 dL_law_858 dL_law_859 ?_
  refine v_both (as := [.int (xs (i + 1)), .int (xs (i + 2))]) (s_book hJ (xs (i + 1)) (xs (i + 2))) (JX_n hJ) lk_L_103 dL_law_860 rfl rfl (by decide) kr sr rfl rfl (fun r I1 L1 R1 N1 n1 post9 hn1 hM9 hfin => ?_)
  refine v_aload_n dL_law_863 rfl 1 rfl ?_
  refine v_arg (k := 1) hX (by omega) rfl dL_law_864 dL_law_865 dL_law_866 dL_law_867 dL_law_868 ?_
  refine v_arg (k := 2) hX (by omega) rfl dL_law_869 dL_law_870 dL_law_871 dL_law_872 dL_law_873 ?_
  exact v_then (as := [.int (xs (i + 1)), .int (xs (i + 2))]) hn1 hM9 hfin lk_L_106 dL_law_874 rfl rfl (by decide) dL_law_877 (by decide) kk
theorem law_22 (hX : ScrF g F b Ln xs) (hi : i + 6 ≤ Ln) (hJ : JX I L R N n) (kk : ∀ (I2 : Ty) (L2 : TL) (R2 : TR) (N2 : TN) (n2 : Nat), JX I2 L2 R2 N2 n2 → V g F cL_law RL 4 100 1289 (lvL g b i) [] I2 L2 R2 N2 n2 kr sr) : V g F cL_law RL 4 100 882 (lvL g b i) [] I L R N n (kr + 2) (sr + 102) := by
  refine v_weak (Nat.le_add_right kr 2) (Nat.le_add_right sr 102) ?_
  refine v_aload_n dL_law_882 rfl 2 rfl ?_
  refine v_both (as := []) (s_looked hJ) (JX_n hJ) lk_L_107 dL_law_883 rfl rfl (by decide) kr sr rfl rfl (fun r I1 L1 R1 N1 n1 post9 hn1 hM9 hfin => ?_)
  refine v_aload_n dL_law_886 rfl 1 rfl ?_
  exact v_then (as := []) hn1 hM9 hfin lk_L_110 dL_law_887 rfl rfl (by decide) dL_law_890 (by decide) kk
theorem law_23 (hX : ScrF g F b Ln xs) (hi : i + 6 ≤ Ln) (hJ : JX I L R N n) (kk : ∀ (I2 : Ty) (L2 : TL) (R2 : TR) (N2 : TN) (n2 : Nat), JX I2 L2 R2 N2 n2 → V g F cL_law RL 4 100 1289 (lvL g b i) [] I2 L2 R2 N2 n2 kr sr) : V g F cL_law RL 4 100 895 (lvL g b i) [] I L R N n (kr + 2) (sr + 102) := by
  refine v_weak (Nat.le_add_right kr 2) (Nat.le_add_right sr 102) ?_
  refine v_aload_n dL_law_895 rfl 2 rfl ?_
  refine v_arg (k := 1) hX (by omega) rfl dL_law_896 dL_law_897 dL_law_898 dL_law_899 dL_law_900 ?_
  refine v_arg (k := 2) hX (by omega) rfl dL_law_901 dL_law_902 dL_law_903 dL_law_904 dL_law_905 ?_
  refine v_both (as := [.int (xs (i + 1)), .int (xs (i + 2))]) (s_judge hJ (xs (i + 1)) (xs (i + 2))) (JX_n hJ) lk_L_111 dL_law_906 rfl rfl (by decide) kr sr rfl rfl (fun r I1 L1 R1 N1 n1 post9 hn1 hM9 hfin => ?_)
  refine v_aload_n dL_law_909 rfl 1 rfl ?_
  refine v_arg (k := 1) hX (by omega) rfl dL_law_910 dL_law_911 dL_law_912 dL_law_913 dL_law_914 ?_
  refine v_arg (k := 2) hX (by omega) rfl dL_law_915 dL_law_916 dL_law_917 dL_law_918 dL_law_919 ?_
  exact v_then (as := [.int (xs (i + 1)), .int (xs (i + 2))]) hn1 hM9 hfin lk_L_114 dL_law_920 rfl rfl (by decide) dL_law_923 (by decide) kk
theorem law_24 (hX : ScrF g F b Ln xs) (hi : i + 6 ≤ Ln) (hJ : JX I L R N n) (kk : ∀ (I2 : Ty) (L2 : TL) (R2 : TR) (N2 : TN) (n2 : Nat), JX I2 L2 R2 N2 n2 → V g F cL_law RL 4 100 1289 (lvL g b i) [] I2 L2 R2 N2 n2 kr sr) : V g F cL_law RL 4 100 928 (lvL g b i) [] I L R N n (kr + 2) (sr + 102) := by
  refine v_weak (Nat.le_add_right kr 2) (Nat.le_add_right sr 102) ?_
  refine v_aload_n dL_law_928 rfl 2 rfl ?_
  refine v_both (as := []) (s_image hJ) (JX_n hJ) lk_L_115 dL_law_929 rfl rfl (by decide) kr sr rfl rfl (fun r I1 L1 R1 N1 n1 post9 hn1 hM9 hfin => ?_)
  refine v_aload_n dL_law_932 rfl 1 rfl ?_
  exact v_then (as := []) hn1 hM9 hfin lk_L_118 dL_law_933 rfl rfl (by decide) dL_law_936 (by decide) kk
theorem law_25 (hX : ScrF g F b Ln xs) (hi : i + 6 ≤ Ln) (hJ : JX I L R N n) (kk : ∀ (I2 : Ty) (L2 : TL) (R2 : TR) (N2 : TN) (n2 : Nat), JX I2 L2 R2 N2 n2 → V g F cL_law RL 4 100 1289 (lvL g b i) [] I2 L2 R2 N2 n2 kr sr) : V g F cL_law RL 4 100 941 (lvL g b i) [] I L R N n (kr + 2) (sr + 102) := by
  refine v_weak (Nat.le_add_right kr 2) (Nat.le_add_right sr 102) ?_
  refine v_aload_n dL_law_941 rfl 2 rfl ?_
  refine v_both (as := []) (s_undo hJ) (JX_n hJ) lk_L_119 dL_law_942 rfl rfl (by decide) kr sr rfl rfl (fun r I1 L1 R1 N1 n1 post9 hn1 hM9 hfin => ?_)
  refine v_aload_n dL_law_945 rfl 1 rfl ?_
  exact v_then (as := []) hn1 hM9 hfin lk_L_122 dL_law_946 rfl rfl (by decide) dL_law_949 (by decide) kk
theorem law_26 (hX : ScrF g F b Ln xs) (hi : i + 6 ≤ Ln) (hJ : JX I L R N n) (kk : ∀ (I2 : Ty) (L2 : TL) (R2 : TR) (N2 : TN) (n2 : Nat), JX I2 L2 R2 N2 n2 → V g F cL_law RL 4 100 1289 (lvL g b i) [] I2 L2 R2 N2 n2 kr sr) : V g F cL_law RL 4 100 954 (lvL g b i) [] I L R N n (kr + 2) (sr + 102) := by
  refine v_weak (Nat.le_add_right kr 2) (Nat.le_add_right sr 102) ?_
  refine v_aload_n dL_law_954 rfl 2 rfl ?_
  refine v_arg (k := 1) hX (by omega) rfl dL_law_955 dL_law_956 dL_law_957 dL_law_958 dL_law_959 ?_
  refine v_arg (k := 2) hX (by omega) rfl dL_law_960 dL_law_961 dL_law_962 dL_law_963 dL_law_964 ?_
  refine v_arg (k := 3) hX (by omega) rfl dL_law_965 dL_law_966 dL_law_967 dL_law_968 dL_law_969 ?_
  refine v_both (as := [.int (xs (i + 1)), .int (xs (i + 2)), .int (xs (i + 3))]) (s_act hJ (xs (i + 1)) (xs (i + 2)) (xs (i + 3))) (JX_n hJ) lk_L_123 dL_law_970 rfl rfl (by decide) kr sr rfl rfl (fun r I1 L1 R1 N1 n1 post9 hn1 hM9 hfin => ?_)
  refine v_aload_n dL_law_973 rfl 1 rfl ?_
  refine v_arg (k := 1) hX (by omega) rfl dL_law_974 dL_law_975 dL_law_976 dL_law_977 dL_law_978 ?_
  refine v_arg (k := 2) hX (by omega) rfl dL_law_979 dL_law_980 dL_law_981 dL_law_982 dL_law_983 ?_
  refine v_arg (k := 3) hX (by omega) rfl dL_law_984 dL_law_985 dL_law_986 dL_law_987 dL_law_988 ?_
  exact v_then (as := [.int (xs (i + 1)), .int (xs (i + 2)), .int (xs (i + 3))]) hn1 hM9 hfin lk_L_126 dL_law_989 rfl rfl (by decide) dL_law_992 (by decide) kk
theorem law_27 (hX : ScrF g F b Ln xs) (hi : i + 6 ≤ Ln) (hJ : JX I L R N n) (kk : ∀ (I2 : Ty) (L2 : TL) (R2 : TR) (N2 : TN) (n2 : Nat), JX I2 L2 R2 N2 n2 → V g F cL_law RL 4 100 1289 (lvL g b i) [] I2 L2 R2 N2 n2 kr sr) : V g F cL_law RL 4 100 997 (lvL g b i) [] I L R N n (kr + 2) (sr + 102) := by
  refine v_weak (Nat.le_add_right kr 2) (Nat.le_add_right sr 102) ?_
  refine v_aload_n dL_law_997 rfl 2 rfl ?_
  refine v_arg (k := 1) hX (by omega) rfl dL_law_998 dL_law_999 dL_law_1000 dL_law_1001 dL_law_1002 ?_
  refine v_both (as := [.int (xs (i + 1))]) (s_trace hJ (xs (i + 1))) (JX_n hJ) lk_L_127 dL_law_1003 rfl rfl (by decide) kr sr rfl rfl (fun r I1 L1 R1 N1 n1 post9 hn1 hM9 hfin => ?_)
  refine v_aload_n dL_law_1006 rfl 1 rfl ?_
  refine v_arg (k := 1) hX (by omega) rfl dL_law_1007 dL_law_1008 dL_law_1009 dL_law_1010 dL_law_1011 ?_
  exact v_then (as := [.int (xs (i + 1))]) hn1 hM9 hfin lk_L_130 dL_law_1012 rfl rfl (by decide) dL_law_1015 (by decide) kk
theorem law_28 (hX : ScrF g F b Ln xs) (hi : i + 6 ≤ Ln) (hJ : JX I L R N n) (kk : ∀ (I2 : Ty) (L2 : TL) (R2 : TR) (N2 : TN) (n2 : Nat), JX I2 L2 R2 N2 n2 → V g F cL_law RL 4 100 1289 (lvL g b i) [] I2 L2 R2 N2 n2 kr sr) : V g F cL_law RL 4 100 1020 (lvL g b i) [] I L R N n (kr + 2) (sr + 102) := by
  refine v_weak (Nat.le_add_right kr 2) (Nat.le_add_right sr 102) ?_
  refine v_aload_n dL_law_1020 rfl 2 rfl ?_
  refine v_arg (k := 1) hX (by omega) rfl dL_law_1021 dL_law_1022 dL_law_1023 dL_law_1024 dL_law_1025 ?_
  refine v_arg (k := 2) hX (by omega) rfl dL_law_1026 dL_law_1027 dL_law_1028 dL_law_1029 dL_law_1030 ?_
  refine v_both (as := [.int (xs (i + 1)), .int (xs (i + 2))]) (s_taken hJ (xs (i + 1)) (xs (i + 2))) (JX_n hJ) lk_L_131 dL_law_1031 rfl rfl (by decide) kr sr rfl rfl (fun r I1 L1 R1 N1 n1 post9 hn1 hM9 hfin => ?_)
  refine v_aload_n dL_law_1034 rfl 1 rfl ?_
  refine v_arg (k := 1) hX (by omega) rfl dL_law_1035 dL_law_1036 dL_law_1037 dL_law_1038 dL_law_1039 ?_
  refine v_arg (k := 2) hX (by omega) rfl dL_law_1040 dL_law_1041 dL_law_1042 dL_law_1043 dL_law_1044 ?_
  exact v_then (as := [.int (xs (i + 1)), .int (xs (i + 2))]) hn1 hM9 hfin lk_L_134 dL_law_1045 rfl rfl (by decide) dL_law_1048 (by decide) kk
theorem law_29 (hX : ScrF g F b Ln xs) (hi : i + 6 ≤ Ln) (hJ : JX I L R N n) (kk : ∀ (I2 : Ty) (L2 : TL) (R2 : TR) (N2 : TN) (n2 : Nat), JX I2 L2 R2 N2 n2 → V g F cL_law RL 4 100 1289 (lvL g b i) [] I2 L2 R2 N2 n2 kr sr) : V g F cL_law RL 4 100 1053 (lvL g b i) [] I L R N n (kr + 2) (sr + 102) := by
  refine v_weak (Nat.le_add_right kr 2) (Nat.le_add_right sr 102) ?_
  refine v_aload_n dL_law_1053 rfl 2 rfl ?_
  refine v_arg (k := 1) hX (by omega) rfl dL_law_1054 dL_law_1055 dL_law_1056 dL_law_1057 dL_law_1058 ?_
  refine v_both (as := [.int (xs (i + 1))]) (s_count hJ (xs (i + 1))) (JX_n hJ) lk_L_135 dL_law_1059 rfl rfl (by decide) kr sr rfl rfl (fun r I1 L1 R1 N1 n1 post9 hn1 hM9 hfin => ?_)
  refine v_aload_n dL_law_1062 rfl 1 rfl ?_
  refine v_arg (k := 1) hX (by omega) rfl dL_law_1063 dL_law_1064 dL_law_1065 dL_law_1066 dL_law_1067 ?_
  exact v_then (as := [.int (xs (i + 1))]) hn1 hM9 hfin lk_L_138 dL_law_1068 rfl rfl (by decide) dL_law_1071 (by decide) kk
theorem law_30 (hX : ScrF g F b Ln xs) (hi : i + 6 ≤ Ln) (hJ : JX I L R N n) (kk : ∀ (I2 : Ty) (L2 : TL) (R2 : TR) (N2 : TN) (n2 : Nat), JX I2 L2 R2 N2 n2 → V g F cL_law RL 4 100 1289 (lvL g b i) [] I2 L2 R2 N2 n2 kr sr) : V g F cL_law RL 4 100 1076 (lvL g b i) [] I L R N n (kr + 2) (sr + 102) := by
  refine v_weak (Nat.le_add_right kr 2) (Nat.le_add_right sr 102) ?_
  refine v_aload_n dL_law_1076 rfl 2 rfl ?_
  refine v_arg (k := 1) hX (by omega) rfl dL_law_1077 dL_law_1078 dL_law_1079 dL_law_1080 dL_law_1081 ?_
  refine v_arg (k := 2) hX (by omega) rfl dL_law_1082 dL_law_1083 dL_law_1084 dL_law_1085 dL_law_1086 ?_
  refine v_arg (k := 3) hX (by omega) rfl dL_law_1087 dL_law_1088 dL_law_1089 dL_law_1090 dL_law_1091 ?_
  refine v_both (as := [.int (xs (i + 1)), .int (xs (i + 2)), .int (xs (i + 3))]) (s_tape hJ (xs (i + 1)) (xs (i + 2)) (xs (i + 3))) (JX_n hJ) lk_L_139 dL_law_1092 rfl rfl (by decide) kr sr rfl rfl (fun r I1 L1 R1 N1 n1 post9 hn1 hM9 hfin => ?_)
  refine v_aload_n dL_law_1095 rfl 1 rfl ?_
  refine v_arg (k := 1) hX (by omega) rfl dL_law_1096 dL_law_1097 dL_law_1098 dL_law_1099 dL_law_1100 ?_
  refine v_arg (k := 2) hX (by omega) rfl dL_law_1101 dL_law_1102 dL_law_1103 dL_law_1104 dL_law_1105 ?_
  refine v_arg (k := 3) hX (by omega) rfl dL_law_1106 dL_law_1107 dL_law_1108 dL_law_1109 dL_law_1110 ?_
  exact v_then (as := [.int (xs (i + 1)), .int (xs (i + 2)), .int (xs (i + 3))]) hn1 hM9 hfin lk_L_142 dL_law_1111 rfl rfl (by decide) dL_law_1114 (by decide) kk
theorem law_31 (hX : ScrF g F b Ln xs) (hi : i + 6 ≤ Ln) (hJ : JX I L R N n) (kk : ∀ (I2 : Ty) (L2 : TL) (R2 : TR) (N2 : TN) (n2 : Nat), JX I2 L2 R2 N2 n2 → V g F cL_law RL 4 100 1289 (lvL g b i) [] I2 L2 R2 N2 n2 kr sr) : V g F cL_law RL 4 100 1119 (lvL g b i) [] I L R N n (kr + 2) (sr + 102) := by
  refine v_weak (Nat.le_add_right kr 2) (Nat.le_add_right sr 102) ?_
  refine v_aload_n dL_law_1119 rfl 2 rfl ?_
  refine v_arg (k := 1) hX (by omega) rfl dL_law_1120 dL_law_1121 dL_law_1122 dL_law_1123 dL_law_1124 ?_
  refine v_arg (k := 2) hX (by omega) rfl dL_law_1125 dL_law_1126 dL_law_1127 dL_law_1128 dL_law_1129 ?_
  refine v_arg (k := 3) hX (by omega) rfl dL_law_1130 dL_law_1131 dL_law_1132 dL_law_1133 dL_law_1134 ?_
  refine v_i2l dL_law_1135 ?_
  refine v_bipush (v := 32) dL_law_1136 (by decide) ?_
  refine v_lshl dL_law_1138 ?_
  refine v_arg (k := 4) hX (by omega) rfl dL_law_1139 dL_law_1140 dL_law_1141 dL_law_1142 dL_law_1143 ?_
  refine v_i2l dL_law_1144 ?_
  refine v_ldc2 (v := 4294967295) dL_law_1145 uc_L_143 ?_
  refine v_land dL_law_1148 ?_
  refine v_lor dL_law_1149 ?_
  refine v_both (as := [.int (xs (i + 1)), .int (xs (i + 2)), .long ((xs (i + 3)).toInt64 <<< ((32 : Int32).toInt64 &&& 63) ||| ((xs (i + 4)).toInt64 &&& 4294967295))]) (s_item hJ (xs (i + 1)) (xs (i + 2)) ((xs (i + 3)).toInt64 <<< ((32 : Int32).toInt64 &&& 63) ||| ((xs (i + 4)).toInt64 &&& 4294967295))) (JX_n hJ) lk_L_145 dL_law_1150 rfl rfl (by decide) kr sr rfl rfl (fun r I1 L1 R1 N1 n1 post9 hn1 hM9 hfin => ?_)
  refine v_aload_n dL_law_1153 rfl 1 rfl ?_
  refine v_arg (k := 1) hX (by omega) rfl dL_law_1154 dL_law_1155 dL_law_1156 dL_law_1157 dL_law_1158 ?_
  refine v_arg (k := 2) hX (by omega) rfl dL_law_1159 dL_law_1160 dL_law_1161 dL_law_1162 dL_law_1163 ?_
  refine v_arg (k := 3) hX (by omega) rfl dL_law_1164 dL_law_1165 dL_law_1166 dL_law_1167 dL_law_1168 ?_
  refine v_i2l dL_law_1169 ?_
  refine v_bipush (v := 32) dL_law_1170 (by decide) ?_
  refine v_lshl dL_law_1172 ?_
  refine v_arg (k := 4) hX (by omega) rfl dL_law_1173 dL_law_1174 dL_law_1175 dL_law_1176 dL_law_1177 ?_
  refine v_i2l dL_law_1178 ?_
  refine v_ldc2 (v := 4294967295) dL_law_1179 uc_L_143 ?_
  refine v_land dL_law_1182 ?_
  refine v_lor dL_law_1183 ?_
  exact v_then (as := [.int (xs (i + 1)), .int (xs (i + 2)), .long ((xs (i + 3)).toInt64 <<< ((32 : Int32).toInt64 &&& 63) ||| ((xs (i + 4)).toInt64 &&& 4294967295))]) hn1 hM9 hfin lk_L_149 dL_law_1184 rfl rfl (by decide) dL_law_1187 (by decide) kk
theorem law_32 (hX : ScrF g F b Ln xs) (hi : i + 6 ≤ Ln) (hJ : JX I L R N n) (kk : ∀ (I2 : Ty) (L2 : TL) (R2 : TR) (N2 : TN) (n2 : Nat), JX I2 L2 R2 N2 n2 → V g F cL_law RL 4 100 1289 (lvL g b i) [] I2 L2 R2 N2 n2 kr sr) : V g F cL_law RL 4 100 1192 (lvL g b i) [] I L R N n (kr + 2) (sr + 102) := by
  refine v_weak (Nat.le_add_right kr 2) (Nat.le_add_right sr 102) ?_
  refine v_aload_n dL_law_1192 rfl 2 rfl ?_
  refine v_arg (k := 1) hX (by omega) rfl dL_law_1193 dL_law_1194 dL_law_1195 dL_law_1196 dL_law_1197 ?_
  refine v_arg (k := 2) hX (by omega) rfl dL_law_1198 dL_law_1199 dL_law_1200 dL_law_1201 dL_law_1202 ?_
  refine v_bothL (as := [.int (xs (i + 1)), .int (xs (i + 2))]) (s_read hJ (xs (i + 1)) (xs (i + 2))) (JX_n hJ) lk_L_150 dL_law_1203 rfl rfl (by decide) kr sr rfl rfl (fun r I1 L1 R1 N1 n1 post9 hn1 hM9 hfin => ?_)
  refine v_aload_n dL_law_1206 rfl 1 rfl ?_
  refine v_arg (k := 1) hX (by omega) rfl dL_law_1207 dL_law_1208 dL_law_1209 dL_law_1210 dL_law_1211 ?_
  refine v_arg (k := 2) hX (by omega) rfl dL_law_1212 dL_law_1213 dL_law_1214 dL_law_1215 dL_law_1216 ?_
  exact v_thenL (as := [.int (xs (i + 1)), .int (xs (i + 2))]) hn1 hM9 hfin lk_L_153 dL_law_1217 rfl rfl (by decide) dL_law_1220 dL_law_1221 (by decide) kk
theorem law_33 (hX : ScrF g F b Ln xs) (hi : i + 6 ≤ Ln) (hJ : JX I L R N n) (kk : ∀ (I2 : Ty) (L2 : TL) (R2 : TR) (N2 : TN) (n2 : Nat), JX I2 L2 R2 N2 n2 → V g F cL_law RL 4 100 1289 (lvL g b i) [] I2 L2 R2 N2 n2 kr sr) : V g F cL_law RL 4 100 1226 (lvL g b i) [] I L R N n (kr + 2) (sr + 102) := by
  refine v_weak (Nat.le_add_right kr 2) (Nat.le_add_right sr 102) ?_
  refine v_aload_n dL_law_1226 rfl 2 rfl ?_
  refine v_arg (k := 1) hX (by omega) rfl dL_law_1227 dL_law_1228 dL_law_1229 dL_law_1230 dL_law_1231 ?_
  refine v_arg (k := 2) hX (by omega) rfl dL_law_1232 dL_law_1233 dL_law_1234 dL_law_1235 dL_law_1236 ?_
  refine v_arg (k := 3) hX (by omega) rfl dL_law_1237 dL_law_1238 dL_law_1239 dL_law_1240 dL_law_1241 ?_
  refine v_arg (k := 4) hX (by omega) rfl dL_law_1242 dL_law_1243 dL_law_1244 dL_law_1245 dL_law_1246 ?_
  refine v_arg (k := 5) hX (by omega) rfl dL_law_1247 dL_law_1248 dL_law_1249 dL_law_1250 dL_law_1251 ?_
  refine v_both (as := [.int (xs (i + 1)), .int (xs (i + 2)), .int (xs (i + 3)), .int (xs (i + 4)), .int (xs (i + 5))]) (s_shift hJ (xs (i + 1)) (xs (i + 2)) (xs (i + 3)) (xs (i + 4)) (xs (i + 5))) (JX_n hJ) lk_L_154 dL_law_1252 rfl rfl (by decide) kr sr rfl rfl (fun r I1 L1 R1 N1 n1 post9 hn1 hM9 hfin => ?_)
  refine v_aload_n dL_law_1255 rfl 1 rfl ?_
  refine v_arg (k := 1) hX (by omega) rfl dL_law_1256 dL_law_1257 dL_law_1258 dL_law_1259 dL_law_1260 ?_
  refine v_arg (k := 2) hX (by omega) rfl dL_law_1261 dL_law_1262 dL_law_1263 dL_law_1264 dL_law_1265 ?_
  refine v_arg (k := 3) hX (by omega) rfl dL_law_1266 dL_law_1267 dL_law_1268 dL_law_1269 dL_law_1270 ?_
  refine v_arg (k := 4) hX (by omega) rfl dL_law_1271 dL_law_1272 dL_law_1273 dL_law_1274 dL_law_1275 ?_
  refine v_arg (k := 5) hX (by omega) rfl dL_law_1276 dL_law_1277 dL_law_1278 dL_law_1279 dL_law_1280 ?_
  exact v_then (as := [.int (xs (i + 1)), .int (xs (i + 2)), .int (xs (i + 3)), .int (xs (i + 4)), .int (xs (i + 5))]) hn1 hM9 hfin lk_L_158 dL_law_1281 rfl rfl (by decide) dL_law_1284 (by decide) kk
end
