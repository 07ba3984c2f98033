set_option maxHeartbeats 4000000 in
set_option maxRecDepth 100000 in
theorem lc_0 {E : EV} {D : va_G} {cy : Nat → ClassId} {P Q O : PP} {x m o b : Nat} {xs : Nat → Int32} (C : Cx E D cy 7 code RL) (X : Lx E b 7 xs) (F : FC P x) (M : FM Q m) : G E room_1 D cy 7 (pM (pM P Q) O) 157 11788 188 [(4, .int 0), (3, .ref o), (2, .ref m), (1, .ref x), (0, .ref b)] [] := by
  refine g_aload_n C dW_188 rfl 3 rfl ?_
  refine g_rd C X 4 0 rfl rfl iw_1 dW_189 dW_190 dW_192 dW_193 dW_194 ?_
  refine g_rd C X 4 0 rfl rfl iw_2 dW_195 dW_196 dW_198 dW_199 dW_200 ?_
  refine g_callVI (rest := []) C mv_L_19 [.int (xs 1), .int (xs 2)] (frI1 (frI1 (c_X11_book F))) (pM_1 (pM_1 F.1)) (pM_K1 (pM_1 F.1) (pM_K1 F.1 F.2.1)) rfl rfl (by decide) (Nat.le_of_ble_eq_true rfl) (by decide) dW_201 (fun r1 U1 h1 => ?_)
  obtain ⟨_, ⟨P2, h1, rfl⟩, rfl⟩ := h1
  refine g_off (fun o2 => ?_)
  refine g_aload_n C dW_204 rfl 2 rfl ?_
  refine g_rd C X 4 0 rfl rfl iw_1 dW_205 dW_206 dW_208 dW_209 dW_210 ?_
  refine g_rd C X 4 0 rfl rfl iw_2 dW_211 dW_212 dW_214 dW_215 dW_216 ?_
  refine g_callVI (rest := [.int r1]) C mv_L_23 [.int (xs 1), .int (xs 2)] (frI1 (frI2 (c_X12_book M))) (pM_1 (pM_2 M.1)) (pM_K1 (pM_2 M.1) (pM_K2 (o2 _ M.1) M.2.1)) rfl rfl (by decide) (Nat.le_of_ble_eq_true rfl) (by decide) dW_217 (fun r2 U2 h2 => ?_)
  obtain ⟨_, ⟨Q2, h2, rfl⟩, rfl⟩ := h2
  have e9 : r1 = r2 := by rcases h1 with ⟨rfl, a1⟩ | ⟨rfl, a1⟩ <;> rcases h2 with ⟨rfl, a2⟩ | ⟨rfl, a2⟩ <;> first | rfl | exact absurd a1 a2 | exact absurd a2 a1
  exact b_icmp_eq C 2015 dW_220 (by decide) (fun _ => law_tail C X (Nat.le_of_ble_eq_true rfl) (Nat.le_of_ble_eq_true rfl)) (fun h => absurd e9 h)
set_option maxHeartbeats 4000000 in
set_option maxRecDepth 100000 in
theorem lc_1 {E : EV} {D : va_G} {cy : Nat → ClassId} {P Q O : PP} {x m o b : Nat} {xs : Nat → Int32} (C : Cx E D cy 7 code RL) (X : Lx E b 7 xs) (F : FC P x) (M : FM Q m) : G E room_1 D cy 7 (pM (pM P Q) O) 157 11788 225 [(4, .int 0), (3, .ref o), (2, .ref m), (1, .ref x), (0, .ref b)] [] := by
  refine g_aload_n C dW_225 rfl 3 rfl ?_
  refine g_rd C X 4 0 rfl rfl iw_1 dW_226 dW_227 dW_229 dW_230 dW_231 ?_
  refine g_rd C X 4 0 rfl rfl iw_2 dW_232 dW_233 dW_235 dW_236 dW_237 ?_
  refine g_rd C X 4 0 rfl rfl iw_3 dW_238 dW_239 dW_241 dW_242 dW_243 ?_
  refine g_callVI (rest := []) C mv_L_24 [.int (xs 1), .int (xs 2), .int (xs 3)] (frI1 (frI1 (c_X11_page F))) (pM_1 (pM_1 F.1)) (pM_K1 (pM_1 F.1) (pM_K1 F.1 F.2.1)) rfl rfl (by decide) (Nat.le_of_ble_eq_true rfl) (by decide) dW_244 (fun r1 U1 h1 => ?_)
  obtain ⟨_, ⟨P2, h1, rfl⟩, rfl⟩ := h1
  refine g_off (fun o2 => ?_)
  refine g_aload_n C dW_247 rfl 2 rfl ?_
  refine g_rd C X 4 0 rfl rfl iw_1 dW_248 dW_249 dW_251 dW_252 dW_253 ?_
  refine g_rd C X 4 0 rfl rfl iw_2 dW_254 dW_255 dW_257 dW_258 dW_259 ?_
  refine g_rd C X 4 0 rfl rfl iw_3 dW_260 dW_261 dW_263 dW_264 dW_265 ?_
  refine g_callVI (rest := [.int r1]) C mv_L_28 [.int (xs 1), .int (xs 2), .int (xs 3)] (frI1 (frI2 (c_X12_page M))) (pM_1 (pM_2 M.1)) (pM_K1 (pM_2 M.1) (pM_K2 (o2 _ M.1) M.2.1)) rfl rfl (by decide) (Nat.le_of_ble_eq_true rfl) (by decide) dW_266 (fun r2 U2 h2 => ?_)
  obtain ⟨_, ⟨Q2, h2, rfl⟩, rfl⟩ := h2
  have e9 : r1 = r2 := h1.trans h2.symm
  exact b_icmp_eq C 2015 dW_269 (by decide) (fun _ => law_tail C X (Nat.le_of_ble_eq_true rfl) (Nat.le_of_ble_eq_true rfl)) (fun h => absurd e9 h)
set_option maxHeartbeats 4000000 in
set_option maxRecDepth 100000 in
theorem lc_2 {E : EV} {D : va_G} {cy : Nat → ClassId} {P Q O : PP} {x m o b : Nat} {xs : Nat → Int32} (C : Cx E D cy 7 code RL) (X : Lx E b 7 xs) (F : FC P x) (M : FM Q m) : G E room_1 D cy 7 (pM (pM P Q) O) 157 11788 274 [(4, .int 0), (3, .ref o), (2, .ref m), (1, .ref x), (0, .ref b)] [] := by
  refine g_aload_n C dW_274 rfl 3 rfl ?_
  refine g_rd C X 4 0 rfl rfl iw_1 dW_275 dW_276 dW_278 dW_279 dW_280 ?_
  refine g_hi C dW_281 dW_282 dW_284 ?_
  refine g_rd C X 4 0 rfl rfl iw_2 dW_285 dW_286 dW_288 dW_289 dW_290 ?_
  refine g_lo C dW_291 dW_292 dW_295 dW_296 ?_
  refine g_rd C X 4 0 rfl rfl iw_3 dW_297 dW_298 dW_300 dW_301 dW_302 ?_
  refine g_hi C dW_303 dW_304 dW_306 ?_
  refine g_rd C X 4 0 rfl rfl iw_4 dW_307 dW_308 dW_310 dW_311 dW_312 ?_
  refine g_lo C dW_313 dW_314 dW_317 dW_318 ?_
  refine g_rd C X 4 0 rfl rfl iw_5 dW_319 dW_320 dW_322 dW_323 dW_324 ?_
  refine g_hi C dW_325 dW_326 dW_328 ?_
  refine g_rdb C X 4 0 rfl rfl iw_b dW_329 dW_330 dW_332 dW_334 dW_335 ?_
  refine g_lo C dW_336 dW_337 dW_340 dW_341 ?_
  refine g_callVI (rest := []) C mv_L_31 [.long (loL (hiL (xs 1)) (xs 2)), .long (loL (hiL (xs 3)) (xs 4)), .long (loL (hiL (xs 5)) (xs 6))] (frI1 (frI1 (c_X11_feed F))) (pM_1 (pM_1 F.1)) (pM_K1 (pM_1 F.1) (pM_K1 F.1 F.2.1)) rfl rfl (by decide) (Nat.le_of_ble_eq_true rfl) (by decide) dW_342 (fun r1 U1 h1 => ?_)
  obtain ⟨_, ⟨P2, h1, rfl⟩, rfl⟩ := h1
  refine g_off (fun o2 => ?_)
  refine g_aload_n C dW_345 rfl 2 rfl ?_
  refine g_rd C X 4 0 rfl rfl iw_1 dW_346 dW_347 dW_349 dW_350 dW_351 ?_
  refine g_hi C dW_352 dW_353 dW_355 ?_
  refine g_rd C X 4 0 rfl rfl iw_2 dW_356 dW_357 dW_359 dW_360 dW_361 ?_
  refine g_lo C dW_362 dW_363 dW_366 dW_367 ?_
  refine g_rd C X 4 0 rfl rfl iw_3 dW_368 dW_369 dW_371 dW_372 dW_373 ?_
  refine g_hi C dW_374 dW_375 dW_377 ?_
  refine g_rd C X 4 0 rfl rfl iw_4 dW_378 dW_379 dW_381 dW_382 dW_383 ?_
  refine g_lo C dW_384 dW_385 dW_388 dW_389 ?_
  refine g_rd C X 4 0 rfl rfl iw_5 dW_390 dW_391 dW_393 dW_394 dW_395 ?_
  refine g_hi C dW_396 dW_397 dW_399 ?_
  refine g_rdb C X 4 0 rfl rfl iw_b dW_400 dW_401 dW_403 dW_405 dW_406 ?_
  refine g_lo C dW_407 dW_408 dW_411 dW_412 ?_
  refine g_callVI (rest := [.int r1]) C mv_L_35 [.long (loL (hiL (xs 1)) (xs 2)), .long (loL (hiL (xs 3)) (xs 4)), .long (loL (hiL (xs 5)) (xs 6))] (frI1 (frI2 (c_X12_feed M))) (pM_1 (pM_2 M.1)) (pM_K1 (pM_2 M.1) (pM_K2 (o2 _ M.1) M.2.1)) rfl rfl (by decide) (Nat.le_of_ble_eq_true rfl) (by decide) dW_413 (fun r2 U2 h2 => ?_)
  obtain ⟨_, ⟨Q2, h2, rfl⟩, rfl⟩ := h2
  have e9 : r1 = r2 := by rw [h1, h2, cnt_eq, cnt_eq, cnt_eq]
  exact b_icmp_eq C 2015 dW_416 (by decide) (fun _ => law_tail C X (Nat.le_of_ble_eq_true rfl) (Nat.le_of_ble_eq_true rfl)) (fun h => absurd e9 h)
set_option maxHeartbeats 4000000 in
set_option maxRecDepth 100000 in
theorem lc_3 {E : EV} {D : va_G} {cy : Nat → ClassId} {P Q O : PP} {x m o b : Nat} {xs : Nat → Int32} (C : Cx E D cy 7 code RL) (X : Lx E b 7 xs) (F : FC P x) (M : FM Q m) : G E room_1 D cy 7 (pM (pM P Q) O) 157 11788 421 [(4, .int 0), (3, .ref o), (2, .ref m), (1, .ref x), (0, .ref b)] [] := by
  refine g_aload_n C dW_421 rfl 3 rfl ?_
  refine g_rd C X 4 0 rfl rfl iw_1 dW_422 dW_423 dW_425 dW_426 dW_427 ?_
  refine g_callVI (rest := []) C mv_L_36 [.int (xs 1)] (frI1 (frI1 (c_X11_draw F))) (pM_1 (pM_1 F.1)) (pM_K1 (pM_1 F.1) (pM_K1 F.1 F.2.1)) rfl rfl (by decide) (Nat.le_of_ble_eq_true rfl) (by decide) dW_428 (fun r1 U1 h1 => ?_)
  obtain ⟨_, ⟨P2, h1, rfl⟩, rfl⟩ := h1
  refine g_off (fun o2 => ?_)
  refine g_aload_n C dW_431 rfl 2 rfl ?_
  refine g_rd C X 4 0 rfl rfl iw_1 dW_432 dW_433 dW_435 dW_436 dW_437 ?_
  refine g_callVI (rest := [.int r1]) C mv_L_40 [.int (xs 1)] (frI1 (frI2 (c_X12_draw M))) (pM_1 (pM_2 M.1)) (pM_K1 (pM_2 M.1) (pM_K2 (o2 _ M.1) M.2.1)) rfl rfl (by decide) (Nat.le_of_ble_eq_true rfl) (by decide) dW_438 (fun r2 U2 h2 => ?_)
  obtain ⟨_, ⟨Q2, h2, rfl⟩, rfl⟩ := h2
  have e9 : r1 = r2 := h1.trans h2.symm
  exact b_icmp_eq C 2015 dW_441 (by decide) (fun _ => law_tail C X (Nat.le_of_ble_eq_true rfl) (Nat.le_of_ble_eq_true rfl)) (fun h => absurd e9 h)
set_option maxHeartbeats 4000000 in
set_option maxRecDepth 100000 in
theorem lc_4 {E : EV} {D : va_G} {cy : Nat → ClassId} {P Q O : PP} {x m o b : Nat} {xs : Nat → Int32} (C : Cx E D cy 7 code RL) (X : Lx E b 7 xs) (F : FC P x) (M : FM Q m) : G E room_1 D cy 7 (pM (pM P Q) O) 157 11788 446 [(4, .int 0), (3, .ref o), (2, .ref m), (1, .ref x), (0, .ref b)] [] := by
  refine g_aload_n C dW_446 rfl 3 rfl ?_
  refine g_rd C X 4 0 rfl rfl iw_1 dW_447 dW_448 dW_450 dW_451 dW_452 ?_
  refine g_rd C X 4 0 rfl rfl iw_2 dW_453 dW_454 dW_456 dW_457 dW_458 ?_
  refine g_rd C X 4 0 rfl rfl iw_3 dW_459 dW_460 dW_462 dW_463 dW_464 ?_
  refine g_callVI (rest := []) C mv_L_41 [.int (xs 1), .int (xs 2), .int (xs 3)] (frI1 (frI1 (c_X11_leaflet F))) (pM_1 (pM_1 F.1)) (pM_K1 (pM_1 F.1) (pM_K1 F.1 F.2.1)) rfl rfl (by decide) (Nat.le_of_ble_eq_true rfl) (by decide) dW_465 (fun r1 U1 h1 => ?_)
  obtain ⟨_, ⟨P2, h1, rfl⟩, rfl⟩ := h1
  refine g_off (fun o2 => ?_)
  refine g_aload_n C dW_468 rfl 2 rfl ?_
  refine g_rd C X 4 0 rfl rfl iw_1 dW_469 dW_470 dW_472 dW_473 dW_474 ?_
  refine g_rd C X 4 0 rfl rfl iw_2 dW_475 dW_476 dW_478 dW_479 dW_480 ?_
  refine g_rd C X 4 0 rfl rfl iw_3 dW_481 dW_482 dW_484 dW_485 dW_486 ?_
  refine g_callVI (rest := [.int r1]) C mv_L_44 [.int (xs 1), .int (xs 2), .int (xs 3)] (frI1 (frI2 (c_X12_leaflet M))) (pM_1 (pM_2 M.1)) (pM_K1 (pM_2 M.1) (pM_K2 (o2 _ M.1) M.2.1)) rfl rfl (by decide) (Nat.le_of_ble_eq_true rfl) (by decide) dW_487 (fun r2 U2 h2 => ?_)
  obtain ⟨_, ⟨Q2, h2, rfl⟩, rfl⟩ := h2
  have e9 : r1 = r2 := h1.trans h2.symm
  exact b_icmp_eq C 2015 dW_490 (by decide) (fun _ => law_tail C X (Nat.le_of_ble_eq_true rfl) (Nat.le_of_ble_eq_true rfl)) (fun h => absurd e9 h)
set_option maxHeartbeats 4000000 in
set_option maxRecDepth 100000 in
theorem lc_5 {E : EV} {D : va_G} {cy : Nat → ClassId} {P Q O : PP} {x m o b : Nat} {xs : Nat → Int32} (C : Cx E D cy 7 code RL) (X : Lx E b 7 xs) (F : FC P x) (M : FM Q m) : G E room_1 D cy 7 (pM (pM P Q) O) 157 11788 495 [(4, .int 0), (3, .ref o), (2, .ref m), (1, .ref x), (0, .ref b)] [] := by
  refine g_aload_n C dW_495 rfl 3 rfl ?_
  refine g_rd C X 4 0 rfl rfl iw_1 dW_496 dW_497 dW_499 dW_500 dW_501 ?_
  refine g_rd C X 4 0 rfl rfl iw_2 dW_502 dW_503 dW_505 dW_506 dW_507 ?_
  refine g_callVI (rest := []) C mv_L_45 [.int (xs 1), .int (xs 2)] (frI1 (frI1 (c_X11_told F))) (pM_1 (pM_1 F.1)) (pM_K1 (pM_1 F.1) (pM_K1 F.1 F.2.1)) rfl rfl (by decide) (Nat.le_of_ble_eq_true rfl) (by decide) dW_508 (fun r1 U1 h1 => ?_)
  obtain ⟨_, ⟨P2, h1, rfl⟩, rfl⟩ := h1
  refine g_off (fun o2 => ?_)
  refine g_aload_n C dW_511 rfl 2 rfl ?_
  refine g_rd C X 4 0 rfl rfl iw_1 dW_512 dW_513 dW_515 dW_516 dW_517 ?_
  refine g_rd C X 4 0 rfl rfl iw_2 dW_518 dW_519 dW_521 dW_522 dW_523 ?_
  refine g_callVI (rest := [.int r1]) C mv_L_49 [.int (xs 1), .int (xs 2)] (frI1 (frI2 (c_X12_told M))) (pM_1 (pM_2 M.1)) (pM_K1 (pM_2 M.1) (pM_K2 (o2 _ M.1) M.2.1)) rfl rfl (by decide) (Nat.le_of_ble_eq_true rfl) (by decide) dW_524 (fun r2 U2 h2 => ?_)
  obtain ⟨_, ⟨Q2, h2, rfl⟩, rfl⟩ := h2
  have e9 : r1 = r2 := h1.trans h2.symm
  exact b_icmp_eq C 2015 dW_527 (by decide) (fun _ => law_tail C X (Nat.le_of_ble_eq_true rfl) (Nat.le_of_ble_eq_true rfl)) (fun h => absurd e9 h)
set_option maxHeartbeats 4000000 in
set_option maxRecDepth 100000 in
theorem lc_6 {E : EV} {D : va_G} {cy : Nat → ClassId} {P Q O : PP} {x m o b : Nat} {xs : Nat → Int32} (C : Cx E D cy 7 code RL) (X : Lx E b 7 xs) (F : FC P x) (M : FM Q m) : G E room_1 D cy 7 (pM (pM P Q) O) 157 11788 532 [(4, .int 0), (3, .ref o), (2, .ref m), (1, .ref x), (0, .ref b)] [] := by
  refine g_aload_n C dW_532 rfl 3 rfl ?_
  refine g_rd C X 4 0 rfl rfl iw_1 dW_533 dW_534 dW_536 dW_537 dW_538 ?_
  refine g_rd C X 4 0 rfl rfl iw_2 dW_539 dW_540 dW_542 dW_543 dW_544 ?_
  refine g_rd C X 4 0 rfl rfl iw_3 dW_545 dW_546 dW_548 dW_549 dW_550 ?_
  refine g_rd C X 4 0 rfl rfl iw_4 dW_551 dW_552 dW_554 dW_555 dW_556 ?_
  refine g_callVI (rest := []) C mv_L_50 [.int (xs 1), .int (xs 2), .int (xs 3), .int (xs 4)] (frI1 (frI1 (c_X11_comes F))) (pM_1 (pM_1 F.1)) (pM_K1 (pM_1 F.1) (pM_K1 F.1 F.2.1)) rfl rfl (by decide) (Nat.le_of_ble_eq_true rfl) (by decide) dW_557 (fun r1 U1 h1 => ?_)
  obtain ⟨_, ⟨P2, h1, rfl⟩, rfl⟩ := h1
  refine g_off (fun o2 => ?_)
  refine g_aload_n C dW_560 rfl 2 rfl ?_
  refine g_rd C X 4 0 rfl rfl iw_1 dW_561 dW_562 dW_564 dW_565 dW_566 ?_
  refine g_rd C X 4 0 rfl rfl iw_2 dW_567 dW_568 dW_570 dW_571 dW_572 ?_
  refine g_rd C X 4 0 rfl rfl iw_3 dW_573 dW_574 dW_576 dW_577 dW_578 ?_
  refine g_rd C X 4 0 rfl rfl iw_4 dW_579 dW_580 dW_582 dW_583 dW_584 ?_
  refine g_callVI (rest := [.int r1]) C mv_L_54 [.int (xs 1), .int (xs 2), .int (xs 3), .int (xs 4)] (frI1 (frI2 (c_X12_comes M))) (pM_1 (pM_2 M.1)) (pM_K1 (pM_2 M.1) (pM_K2 (o2 _ M.1) M.2.1)) rfl rfl (by decide) (Nat.le_of_ble_eq_true rfl) (by decide) dW_585 (fun r2 U2 h2 => ?_)
  obtain ⟨_, ⟨Q2, h2, rfl⟩, rfl⟩ := h2
  have e9 : r1 = r2 := h1.trans h2.symm
  exact b_icmp_eq C 2015 dW_588 (by decide) (fun _ => law_tail C X (Nat.le_of_ble_eq_true rfl) (Nat.le_of_ble_eq_true rfl)) (fun h => absurd e9 h)
set_option maxHeartbeats 4000000 in
set_option maxRecDepth 100000 in
theorem lc_7 {E : EV} {D : va_G} {cy : Nat → ClassId} {P Q O : PP} {x m o b : Nat} {xs : Nat → Int32} (C : Cx E D cy 7 code RL) (X : Lx E b 7 xs) (F : FC P x) (M : FM Q m) : G E room_1 D cy 7 (pM (pM P Q) O) 157 11788 593 [(4, .int 0), (3, .ref o), (2, .ref m), (1, .ref x), (0, .ref b)] [] := by
  refine g_aload_n C dW_593 rfl 3 rfl ?_
  refine g_rd C X 4 0 rfl rfl iw_1 dW_594 dW_595 dW_597 dW_598 dW_599 ?_
  refine g_rd C X 4 0 rfl rfl iw_2 dW_600 dW_601 dW_603 dW_604 dW_605 ?_
  refine g_rd C X 4 0 rfl rfl iw_3 dW_606 dW_607 dW_609 dW_610 dW_611 ?_
  refine g_rd C X 4 0 rfl rfl iw_4 dW_612 dW_613 dW_615 dW_616 dW_617 ?_
  refine g_callVI (rest := []) C mv_L_55 [.int (xs 1), .int (xs 2), .int (xs 3), .int (xs 4)] (frI1 (frI1 (c_X11_slip F))) (pM_1 (pM_1 F.1)) (pM_K1 (pM_1 F.1) (pM_K1 F.1 F.2.1)) rfl rfl (by decide) (Nat.le_of_ble_eq_true rfl) (by decide) dW_618 (fun r1 U1 h1 => ?_)
  obtain ⟨_, ⟨P2, h1, rfl⟩, rfl⟩ := h1
  refine g_off (fun o2 => ?_)
  refine g_aload_n C dW_621 rfl 2 rfl ?_
  refine g_rd C X 4 0 rfl rfl iw_1 dW_622 dW_623 dW_625 dW_626 dW_627 ?_
  refine g_rd C X 4 0 rfl rfl iw_2 dW_628 dW_629 dW_631 dW_632 dW_633 ?_
  refine g_rd C X 4 0 rfl rfl iw_3 dW_634 dW_635 dW_637 dW_638 dW_639 ?_
  refine g_rd C X 4 0 rfl rfl iw_4 dW_640 dW_641 dW_643 dW_644 dW_645 ?_
  refine g_callVI (rest := [.int r1]) C mv_L_58 [.int (xs 1), .int (xs 2), .int (xs 3), .int (xs 4)] (frI1 (frI2 (c_X12_slip M))) (pM_1 (pM_2 M.1)) (pM_K1 (pM_2 M.1) (pM_K2 (o2 _ M.1) M.2.1)) rfl rfl (by decide) (Nat.le_of_ble_eq_true rfl) (by decide) dW_646 (fun r2 U2 h2 => ?_)
  obtain ⟨_, ⟨Q2, h2, rfl⟩, rfl⟩ := h2
  have e9 : r1 = r2 := h1.trans h2.symm
  exact b_icmp_eq C 2015 dW_649 (by decide) (fun _ => law_tail C X (Nat.le_of_ble_eq_true rfl) (Nat.le_of_ble_eq_true rfl)) (fun h => absurd e9 h)
set_option maxHeartbeats 4000000 in
set_option maxRecDepth 100000 in
theorem lc_8 {E : EV} {D : va_G} {cy : Nat → ClassId} {P Q O : PP} {x m o b : Nat} {xs : Nat → Int32} (C : Cx E D cy 7 code RL) (X : Lx E b 7 xs) (F : FC P x) (M : FM Q m) : G E room_1 D cy 7 (pM (pM P Q) O) 157 11788 654 [(4, .int 0), (3, .ref o), (2, .ref m), (1, .ref x), (0, .ref b)] [] := by
  refine g_aload_n C dW_654 rfl 3 rfl ?_
  refine g_rd C X 4 0 rfl rfl iw_1 dW_655 dW_656 dW_658 dW_659 dW_660 ?_
  refine g_rd C X 4 0 rfl rfl iw_2 dW_661 dW_662 dW_664 dW_665 dW_666 ?_
  refine g_rd C X 4 0 rfl rfl iw_3 dW_667 dW_668 dW_670 dW_671 dW_672 ?_
  refine g_rd C X 4 0 rfl rfl iw_4 dW_673 dW_674 dW_676 dW_677 dW_678 ?_
  refine g_rd C X 4 0 rfl rfl iw_5 dW_679 dW_680 dW_682 dW_683 dW_684 ?_
  refine g_callVI (rest := []) C mv_L_59 [.int (xs 1), .int (xs 2), .int (xs 3), .int (xs 4), .int (xs 5)] (frI1 (frI1 (c_X11_forged F))) (pM_1 (pM_1 F.1)) (pM_K1 (pM_1 F.1) (pM_K1 F.1 F.2.1)) rfl rfl (by decide) (Nat.le_of_ble_eq_true rfl) (by decide) dW_685 (fun r1 U1 h1 => ?_)
  obtain ⟨_, ⟨P2, h1, rfl⟩, rfl⟩ := h1
  refine g_off (fun o2 => ?_)
  refine g_aload_n C dW_688 rfl 2 rfl ?_
  refine g_rd C X 4 0 rfl rfl iw_1 dW_689 dW_690 dW_692 dW_693 dW_694 ?_
  refine g_rd C X 4 0 rfl rfl iw_2 dW_695 dW_696 dW_698 dW_699 dW_700 ?_
  refine g_rd C X 4 0 rfl rfl iw_3 dW_701 dW_702 dW_704 dW_705 dW_706 ?_
  refine g_rd C X 4 0 rfl rfl iw_4 dW_707 dW_708 dW_710 dW_711 dW_712 ?_
  refine g_rd C X 4 0 rfl rfl iw_5 dW_713 dW_714 dW_716 dW_717 dW_718 ?_
  refine g_callVI (rest := [.int r1]) C mv_L_63 [.int (xs 1), .int (xs 2), .int (xs 3), .int (xs 4), .int (xs 5)] (frI1 (frI2 (c_X12_forged M))) (pM_1 (pM_2 M.1)) (pM_K1 (pM_2 M.1) (pM_K2 (o2 _ M.1) M.2.1)) rfl rfl (by decide) (Nat.le_of_ble_eq_true rfl) (by decide) dW_719 (fun r2 U2 h2 => ?_)
  obtain ⟨_, ⟨Q2, h2, rfl⟩, rfl⟩ := h2
  have e9 : r1 = r2 := h1.trans h2.symm
  exact b_icmp_eq C 2015 dW_722 (by decide) (fun _ => law_tail C X (Nat.le_of_ble_eq_true rfl) (Nat.le_of_ble_eq_true rfl)) (fun h => absurd e9 h)
set_option maxHeartbeats 4000000 in
set_option maxRecDepth 100000 in
theorem lc_9 {E : EV} {D : va_G} {cy : Nat → ClassId} {P Q O : PP} {x m o b : Nat} {xs : Nat → Int32} (C : Cx E D cy 7 code RL) (X : Lx E b 7 xs) (F : FC P x) (M : FM Q m) : G E room_1 D cy 7 (pM (pM P Q) O) 157 11788 727 [(4, .int 0), (3, .ref o), (2, .ref m), (1, .ref x), (0, .ref b)] [] := by
  refine g_aload_n C dW_727 rfl 3 rfl ?_
  refine g_rd C X 4 0 rfl rfl iw_1 dW_728 dW_729 dW_731 dW_732 dW_733 ?_
  refine g_rd C X 4 0 rfl rfl iw_2 dW_734 dW_735 dW_737 dW_738 dW_739 ?_
  refine g_rd C X 4 0 rfl rfl iw_3 dW_740 dW_741 dW_743 dW_744 dW_745 ?_
  refine g_callVI (rest := []) C mv_L_64 [.int (xs 1), .int (xs 2), .int (xs 3)] (frI1 (frI1 (c_X11_nameless F))) (pM_1 (pM_1 F.1)) (pM_K1 (pM_1 F.1) (pM_K1 F.1 F.2.1)) rfl rfl (by decide) (Nat.le_of_ble_eq_true rfl) (by decide) dW_746 (fun r1 U1 h1 => ?_)
  obtain ⟨_, ⟨P2, h1, rfl⟩, rfl⟩ := h1
  refine g_off (fun o2 => ?_)
  refine g_aload_n C dW_749 rfl 2 rfl ?_
  refine g_rd C X 4 0 rfl rfl iw_1 dW_750 dW_751 dW_753 dW_754 dW_755 ?_
  refine g_rd C X 4 0 rfl rfl iw_2 dW_756 dW_757 dW_759 dW_760 dW_761 ?_
  refine g_rd C X 4 0 rfl rfl iw_3 dW_762 dW_763 dW_765 dW_766 dW_767 ?_
  refine g_callVI (rest := [.int r1]) C mv_L_67 [.int (xs 1), .int (xs 2), .int (xs 3)] (frI1 (frI2 (c_X12_nameless M))) (pM_1 (pM_2 M.1)) (pM_K1 (pM_2 M.1) (pM_K2 (o2 _ M.1) M.2.1)) rfl rfl (by decide) (Nat.le_of_ble_eq_true rfl) (by decide) dW_768 (fun r2 U2 h2 => ?_)
  obtain ⟨_, ⟨Q2, h2, rfl⟩, rfl⟩ := h2
  have e9 : r1 = r2 := by rcases h1 with ⟨rfl, a1⟩ | ⟨rfl, a1⟩ <;> rcases h2 with ⟨rfl, a2⟩ | ⟨rfl, a2⟩ <;> first | rfl | exact absurd a1 a2 | exact absurd a2 a1
  exact b_icmp_eq C 2015 dW_771 (by decide) (fun _ => law_tail C X (Nat.le_of_ble_eq_true rfl) (Nat.le_of_ble_eq_true rfl)) (fun h => absurd e9 h)
set_option maxHeartbeats 4000000 in
set_option maxRecDepth 100000 in
theorem lc_10 {E : EV} {D : va_G} {cy : Nat → ClassId} {P Q O : PP} {x m o b : Nat} {xs : Nat → Int32} (C : Cx E D cy 7 code RL) (X : Lx E b 7 xs) (F : FC P x) (M : FM Q m) (Xe : Xt E) : G E room_1 D cy 7 (pM (pM P Q) O) 157 11788 776 [(4, .int 0), (3, .ref o), (2, .ref m), (1, .ref x), (0, .ref b)] [] := by
  refine g_aload_n C dW_776 rfl 3 rfl ?_
  refine g_rd C X 4 0 rfl rfl iw_1 dW_777 dW_778 dW_780 dW_781 dW_782 ?_
  refine g_rd C X 4 0 rfl rfl iw_2 dW_783 dW_784 dW_786 dW_787 dW_788 ?_
  refine g_rd C X 4 0 rfl rfl iw_3 dW_789 dW_790 dW_792 dW_793 dW_794 ?_
  refine g_aload_n C dW_795 rfl 1 rfl ?_
  have hq : CtrQ yX11_paperAt cX11_paperAt 3 (some (Jvm.ClassFile.FieldType.object "ThousandLeaflets$Paper")) ({ frames := 2, cells := 0, slots := 0, locals := 128 } : Room) 0 0 (pM (pM P Q) O) [.ref x, .int (xs 1), .int (xs 2)] (fun r P2 => pM (pM P Q) O = P2 ∧ r = none) :=
    CtrQ.imp (frQ1 (frQ1 (c_X11_paperAt F))) (fun r U h => by
      obtain ⟨_, ⟨P2, ⟨h1, h2⟩, rfl⟩, rfl⟩ := h
      subst h1
      exact ⟨rfl, h2⟩)
  refine g_callPaper (rest := []) C Xe (pM_1 (pM_1 F.1)) (pM_K1 (pM_1 F.1) (pM_K1 F.1 F.2.1)) hq rfl (by decide) (Nat.le_of_ble_eq_true rfl) (by decide) dW_796 ?_
  refine g_istore (lv' := (5, .int 1) :: [(4, .int 0), (3, .ref o), (2, .ref m), (1, .ref x), (0, .ref b)]) C dW_799 (by decide) rfl ?_
  refine g_off (fun o2 => ?_)
  refine g_aload_n C dW_801 rfl 3 rfl ?_
  refine g_rd C X 5 1 rfl rfl iw_1 dW_802 dW_803 dW_805 dW_806 dW_807 ?_
  refine g_rd C X 5 1 rfl rfl iw_2 dW_808 dW_809 dW_811 dW_812 dW_813 ?_
  refine g_rd C X 5 1 rfl rfl iw_3 dW_814 dW_815 dW_817 dW_818 dW_819 ?_
  refine g_callVI (rest := []) C mv_L_73 [.int (xs 1), .int (xs 2), .int (xs 3)] (frI1 (frI2 (c_X12_paper M))) (pM_1 (pM_2 M.1)) (pM_K1 (pM_2 M.1) (pM_K2 (o2 _ M.1) M.2.1)) rfl rfl (by decide) (Nat.le_of_ble_eq_true rfl) (by decide) dW_820 (fun r1 U1 h1 => ?_)
  obtain ⟨_, ⟨Q2, ⟨h1, hm, hmK, h3⟩, rfl⟩, rfl⟩ := h1
  refine g_istore (lv' := (6, .int r1) :: (5, .int 1) :: [(4, .int 0), (3, .ref o), (2, .ref m), (1, .ref x), (0, .ref b)]) C dW_823 (by decide) rfl ?_
  refine g_off (fun o3 => ?_)
  refine g_aload_n C dW_825 rfl 4 rfl ?_
  refine g_callVI (rest := []) C mv_L_74 [] (frI1 (frI2 (c_X12_thrown hm hmK h3))) (pM_1 (pM_2 hm)) (pM_K1 (pM_2 hm) (pM_K2 (o3 _ hm) hmK)) rfl rfl (by decide) (Nat.le_of_ble_eq_true rfl) (by decide) dW_826 (fun r2 U2 h2 => ?_)
  obtain ⟨_, ⟨Q3, ⟨h4, h5⟩, rfl⟩, rfl⟩ := h2
  subst h5
  refine g_iload C dW_829 1 rfl ?_
  refine b_icmp_eq C 836 dW_831 (by decide) (fun _ => ?_) (fun h => absurd rfl h)
  refine g_iload C dW_836 1 rfl ?_
  refine b_if_ne C 853 dW_838 (by decide) (fun _ => ?_) (fun h => absurd h (by decide))
  refine g_goto C 2015 dW_853 (by decide) ?_
  refine g_lv (lv' := [(4, .int 0), (3, .ref o), (2, .ref m), (1, .ref x), (0, .ref b)]) [2, 3, 4, 5, 6] rfl ?_
  exact law_tail C X (Nat.le_of_ble_eq_true rfl) (Nat.le_of_ble_eq_true rfl)
set_option maxHeartbeats 4000000 in
set_option maxRecDepth 100000 in
theorem lc_11 {E : EV} {D : va_G} {cy : Nat → ClassId} {P Q O : PP} {x m o b : Nat} {xs : Nat → Int32} (C : Cx E D cy 7 code RL) (X : Lx E b 7 xs) (F : FC P x) (M : FM Q m) : G E room_1 D cy 7 (pM (pM P Q) O) 157 11788 856 [(4, .int 0), (3, .ref o), (2, .ref m), (1, .ref x), (0, .ref b)] [] := by
  refine g_aload_n C dW_856 rfl 3 rfl ?_
  refine g_rd C X 4 0 rfl rfl iw_1 dW_857 dW_858 dW_860 dW_861 dW_862 ?_
  refine g_rd C X 4 0 rfl rfl iw_2 dW_863 dW_864 dW_866 dW_867 dW_868 ?_
  refine g_callVI (rest := []) C mv_L_78 [.int (xs 1), .int (xs 2)] (frI1 (frI1 (c_X11_away F))) (pM_1 (pM_1 F.1)) (pM_K1 (pM_1 F.1) (pM_K1 F.1 F.2.1)) rfl rfl (by decide) (Nat.le_of_ble_eq_true rfl) (by decide) dW_869 (fun r1 U1 h1 => ?_)
  obtain ⟨_, ⟨P2, h1, rfl⟩, rfl⟩ := h1
  refine g_off (fun o2 => ?_)
  refine g_aload_n C dW_872 rfl 2 rfl ?_
  refine g_rd C X 4 0 rfl rfl iw_1 dW_873 dW_874 dW_876 dW_877 dW_878 ?_
  refine g_rd C X 4 0 rfl rfl iw_2 dW_879 dW_880 dW_882 dW_883 dW_884 ?_
  refine g_callVI (rest := [.int r1]) C mv_L_81 [.int (xs 1), .int (xs 2)] (frI1 (frI2 (c_X12_away M))) (pM_1 (pM_2 M.1)) (pM_K1 (pM_2 M.1) (pM_K2 (o2 _ M.1) M.2.1)) rfl rfl (by decide) (Nat.le_of_ble_eq_true rfl) (by decide) dW_885 (fun r2 U2 h2 => ?_)
  obtain ⟨_, ⟨Q2, h2, rfl⟩, rfl⟩ := h2
  have e9 : r1 = r2 := h1.trans h2.symm
  exact b_icmp_eq C 2015 dW_888 (by decide) (fun _ => law_tail C X (Nat.le_of_ble_eq_true rfl) (Nat.le_of_ble_eq_true rfl)) (fun h => absurd e9 h)
set_option maxHeartbeats 4000000 in
set_option maxRecDepth 100000 in
theorem lc_12 {E : EV} {D : va_G} {cy : Nat → ClassId} {P Q O : PP} {x m o b : Nat} {xs : Nat → Int32} (C : Cx E D cy 7 code RL) (X : Lx E b 7 xs) (F : FC P x) (M : FM Q m) : G E room_1 D cy 7 (pM (pM P Q) O) 157 11788 893 [(4, .int 0), (3, .ref o), (2, .ref m), (1, .ref x), (0, .ref b)] [] := by
  refine g_aload_n C dW_893 rfl 3 rfl ?_
  refine g_rd C X 4 0 rfl rfl iw_1 dW_894 dW_895 dW_897 dW_898 dW_899 ?_
  refine g_rd C X 4 0 rfl rfl iw_2 dW_900 dW_901 dW_903 dW_904 dW_905 ?_
  refine g_rd C X 4 0 rfl rfl iw_3 dW_906 dW_907 dW_909 dW_910 dW_911 ?_
  refine g_rd C X 4 0 rfl rfl iw_4 dW_912 dW_913 dW_915 dW_916 dW_917 ?_
  refine g_callVI (rest := []) C mv_L_82 [.int (xs 1), .int (xs 2), .int (xs 3), .int (xs 4)] (frI1 (frI1 (c_X11_peels F))) (pM_1 (pM_1 F.1)) (pM_K1 (pM_1 F.1) (pM_K1 F.1 F.2.1)) rfl rfl (by decide) (Nat.le_of_ble_eq_true rfl) (by decide) dW_918 (fun r1 U1 h1 => ?_)
  obtain ⟨_, ⟨P2, h1, rfl⟩, rfl⟩ := h1
  refine g_off (fun o2 => ?_)
  refine g_aload_n C dW_921 rfl 2 rfl ?_
  refine g_rd C X 4 0 rfl rfl iw_1 dW_922 dW_923 dW_925 dW_926 dW_927 ?_
  refine g_rd C X 4 0 rfl rfl iw_2 dW_928 dW_929 dW_931 dW_932 dW_933 ?_
  refine g_rd C X 4 0 rfl rfl iw_3 dW_934 dW_935 dW_937 dW_938 dW_939 ?_
  refine g_rd C X 4 0 rfl rfl iw_4 dW_940 dW_941 dW_943 dW_944 dW_945 ?_
  refine g_callVI (rest := [.int r1]) C mv_L_85 [.int (xs 1), .int (xs 2), .int (xs 3), .int (xs 4)] (frI1 (frI2 (c_X12_peels M))) (pM_1 (pM_2 M.1)) (pM_K1 (pM_2 M.1) (pM_K2 (o2 _ M.1) M.2.1)) rfl rfl (by decide) (Nat.le_of_ble_eq_true rfl) (by decide) dW_946 (fun r2 U2 h2 => ?_)
  obtain ⟨_, ⟨Q2, h2, rfl⟩, rfl⟩ := h2
  have e9 : r1 = r2 := h1.trans h2.symm
  exact b_icmp_eq C 2015 dW_949 (by decide) (fun _ => law_tail C X (Nat.le_of_ble_eq_true rfl) (Nat.le_of_ble_eq_true rfl)) (fun h => absurd e9 h)
set_option maxHeartbeats 4000000 in
set_option maxRecDepth 100000 in
theorem lc_13 {E : EV} {D : va_G} {cy : Nat → ClassId} {P Q O : PP} {x m o b : Nat} {xs : Nat → Int32} (C : Cx E D cy 7 code RL) (X : Lx E b 7 xs) (F : FC P x) (M : FM Q m) : G E room_1 D cy 7 (pM (pM P Q) O) 157 11788 954 [(4, .int 0), (3, .ref o), (2, .ref m), (1, .ref x), (0, .ref b)] [] := by
  refine g_aload_n C dW_954 rfl 3 rfl ?_
  refine g_rd C X 4 0 rfl rfl iw_1 dW_955 dW_956 dW_958 dW_959 dW_960 ?_
  refine g_rd C X 4 0 rfl rfl iw_2 dW_961 dW_962 dW_964 dW_965 dW_966 ?_
  refine g_rd C X 4 0 rfl rfl iw_3 dW_967 dW_968 dW_970 dW_971 dW_972 ?_
  refine g_rd C X 4 0 rfl rfl iw_4 dW_973 dW_974 dW_976 dW_977 dW_978 ?_
  refine g_callVI (rest := []) C mv_L_86 [.int (xs 1), .int (xs 2), .int (xs 3), .int (xs 4)] (frI1 (frI1 (c_X11_solves F))) (pM_1 (pM_1 F.1)) (pM_K1 (pM_1 F.1) (pM_K1 F.1 F.2.1)) rfl rfl (by decide) (Nat.le_of_ble_eq_true rfl) (by decide) dW_979 (fun r1 U1 h1 => ?_)
  obtain ⟨_, ⟨P2, h1, rfl⟩, rfl⟩ := h1
  refine g_off (fun o2 => ?_)
  refine g_aload_n C dW_982 rfl 2 rfl ?_
  refine g_rd C X 4 0 rfl rfl iw_1 dW_983 dW_984 dW_986 dW_987 dW_988 ?_
  refine g_rd C X 4 0 rfl rfl iw_2 dW_989 dW_990 dW_992 dW_993 dW_994 ?_
  refine g_rd C X 4 0 rfl rfl iw_3 dW_995 dW_996 dW_998 dW_999 dW_1000 ?_
  refine g_rd C X 4 0 rfl rfl iw_4 dW_1001 dW_1002 dW_1004 dW_1005 dW_1006 ?_
  refine g_callVI (rest := [.int r1]) C mv_L_89 [.int (xs 1), .int (xs 2), .int (xs 3), .int (xs 4)] (frI1 (frI2 (c_X12_solves M))) (pM_1 (pM_2 M.1)) (pM_K1 (pM_2 M.1) (pM_K2 (o2 _ M.1) M.2.1)) rfl rfl (by decide) (Nat.le_of_ble_eq_true rfl) (by decide) dW_1007 (fun r2 U2 h2 => ?_)
  obtain ⟨_, ⟨Q2, h2, rfl⟩, rfl⟩ := h2
  have e9 : r1 = r2 := h1.trans h2.symm
  exact b_icmp_eq C 2015 dW_1010 (by decide) (fun _ => law_tail C X (Nat.le_of_ble_eq_true rfl) (Nat.le_of_ble_eq_true rfl)) (fun h => absurd e9 h)
set_option maxHeartbeats 4000000 in
set_option maxRecDepth 100000 in
theorem lc_14 {E : EV} {D : va_G} {cy : Nat → ClassId} {P Q O : PP} {x m o b : Nat} {xs : Nat → Int32} (C : Cx E D cy 7 code RL) (X : Lx E b 7 xs) (F : FC P x) (M : FM Q m) : G E room_1 D cy 7 (pM (pM P Q) O) 157 11788 1015 [(4, .int 0), (3, .ref o), (2, .ref m), (1, .ref x), (0, .ref b)] [] := by
  refine g_aload_n C dW_1015 rfl 3 rfl ?_
  refine g_rd C X 4 0 rfl rfl iw_1 dW_1016 dW_1017 dW_1019 dW_1020 dW_1021 ?_
  refine g_rd C X 4 0 rfl rfl iw_2 dW_1022 dW_1023 dW_1025 dW_1026 dW_1027 ?_
  refine g_rd C X 4 0 rfl rfl iw_3 dW_1028 dW_1029 dW_1031 dW_1032 dW_1033 ?_
  refine g_rd C X 4 0 rfl rfl iw_4 dW_1034 dW_1035 dW_1037 dW_1038 dW_1039 ?_
  refine g_callVI (rest := []) C mv_L_90 [.int (xs 1), .int (xs 2), .int (xs 3), .int (xs 4)] (frI1 (frI1 (c_X11_read F))) (pM_1 (pM_1 F.1)) (pM_K1 (pM_1 F.1) (pM_K1 F.1 F.2.1)) rfl rfl (by decide) (Nat.le_of_ble_eq_true rfl) (by decide) dW_1040 (fun r1 U1 h1 => ?_)
  obtain ⟨_, ⟨P2, h1, rfl⟩, rfl⟩ := h1
  refine g_off (fun o2 => ?_)
  refine g_aload_n C dW_1043 rfl 2 rfl ?_
  refine g_rd C X 4 0 rfl rfl iw_1 dW_1044 dW_1045 dW_1047 dW_1048 dW_1049 ?_
  refine g_rd C X 4 0 rfl rfl iw_2 dW_1050 dW_1051 dW_1053 dW_1054 dW_1055 ?_
  refine g_rd C X 4 0 rfl rfl iw_3 dW_1056 dW_1057 dW_1059 dW_1060 dW_1061 ?_
  refine g_rd C X 4 0 rfl rfl iw_4 dW_1062 dW_1063 dW_1065 dW_1066 dW_1067 ?_
  refine g_callVI (rest := [.int r1]) C mv_L_93 [.int (xs 1), .int (xs 2), .int (xs 3), .int (xs 4)] (frI1 (frI2 (c_X12_read M))) (pM_1 (pM_2 M.1)) (pM_K1 (pM_2 M.1) (pM_K2 (o2 _ M.1) M.2.1)) rfl rfl (by decide) (Nat.le_of_ble_eq_true rfl) (by decide) dW_1068 (fun r2 U2 h2 => ?_)
  obtain ⟨_, ⟨Q2, h2, rfl⟩, rfl⟩ := h2
  have e9 : r1 = r2 := h1.trans h2.symm
  exact b_icmp_eq C 2015 dW_1071 (by decide) (fun _ => law_tail C X (Nat.le_of_ble_eq_true rfl) (Nat.le_of_ble_eq_true rfl)) (fun h => absurd e9 h)
set_option maxHeartbeats 4000000 in
set_option maxRecDepth 100000 in
theorem lc_15 {E : EV} {D : va_G} {cy : Nat → ClassId} {P Q O : PP} {x m o b : Nat} {xs : Nat → Int32} (C : Cx E D cy 7 code RL) (X : Lx E b 7 xs) (F : FC P x) (M : FM Q m) : G E room_1 D cy 7 (pM (pM P Q) O) 157 11788 1076 [(4, .int 0), (3, .ref o), (2, .ref m), (1, .ref x), (0, .ref b)] [] := by
  refine g_aload_n C dW_1076 rfl 3 rfl ?_
  refine g_rd C X 4 0 rfl rfl iw_1 dW_1077 dW_1078 dW_1080 dW_1081 dW_1082 ?_
  refine g_rd C X 4 0 rfl rfl iw_2 dW_1083 dW_1084 dW_1086 dW_1087 dW_1088 ?_
  refine g_rd C X 4 0 rfl rfl iw_3 dW_1089 dW_1090 dW_1092 dW_1093 dW_1094 ?_
  refine g_rd C X 4 0 rfl rfl iw_4 dW_1095 dW_1096 dW_1098 dW_1099 dW_1100 ?_
  refine g_callVI (rest := []) C mv_L_94 [.int (xs 1), .int (xs 2), .int (xs 3), .int (xs 4)] (frI1 (frI1 (c_X11_soon F))) (pM_1 (pM_1 F.1)) (pM_K1 (pM_1 F.1) (pM_K1 F.1 F.2.1)) rfl rfl (by decide) (Nat.le_of_ble_eq_true rfl) (by decide) dW_1101 (fun r1 U1 h1 => ?_)
  obtain ⟨_, ⟨P2, h1, rfl⟩, rfl⟩ := h1
  refine g_off (fun o2 => ?_)
  refine g_aload_n C dW_1104 rfl 2 rfl ?_
  refine g_rd C X 4 0 rfl rfl iw_1 dW_1105 dW_1106 dW_1108 dW_1109 dW_1110 ?_
  refine g_rd C X 4 0 rfl rfl iw_2 dW_1111 dW_1112 dW_1114 dW_1115 dW_1116 ?_
  refine g_rd C X 4 0 rfl rfl iw_3 dW_1117 dW_1118 dW_1120 dW_1121 dW_1122 ?_
  refine g_rd C X 4 0 rfl rfl iw_4 dW_1123 dW_1124 dW_1126 dW_1127 dW_1128 ?_
  refine g_callVI (rest := [.int r1]) C mv_L_97 [.int (xs 1), .int (xs 2), .int (xs 3), .int (xs 4)] (frI1 (frI2 (c_X12_soon M))) (pM_1 (pM_2 M.1)) (pM_K1 (pM_2 M.1) (pM_K2 (o2 _ M.1) M.2.1)) rfl rfl (by decide) (Nat.le_of_ble_eq_true rfl) (by decide) dW_1129 (fun r2 U2 h2 => ?_)
  obtain ⟨_, ⟨Q2, h2, rfl⟩, rfl⟩ := h2
  have e9 : r1 = r2 := h1.trans h2.symm
  exact b_icmp_eq C 2015 dW_1132 (by decide) (fun _ => law_tail C X (Nat.le_of_ble_eq_true rfl) (Nat.le_of_ble_eq_true rfl)) (fun h => absurd e9 h)
set_option maxHeartbeats 4000000 in
set_option maxRecDepth 100000 in
theorem lc_16 {E : EV} {D : va_G} {cy : Nat → ClassId} {P Q O : PP} {x m o b : Nat} {xs : Nat → Int32} (C : Cx E D cy 7 code RL) (X : Lx E b 7 xs) (F : FC P x) (M : FM Q m) : G E room_1 D cy 7 (pM (pM P Q) O) 157 11788 1137 [(4, .int 0), (3, .ref o), (2, .ref m), (1, .ref x), (0, .ref b)] [] := by
  refine g_aload_n C dW_1137 rfl 3 rfl ?_
  refine g_rd C X 4 0 rfl rfl iw_1 dW_1138 dW_1139 dW_1141 dW_1142 dW_1143 ?_
  refine g_rd C X 4 0 rfl rfl iw_2 dW_1144 dW_1145 dW_1147 dW_1148 dW_1149 ?_
  refine g_rd C X 4 0 rfl rfl iw_3 dW_1150 dW_1151 dW_1153 dW_1154 dW_1155 ?_
  refine g_rd C X 4 0 rfl rfl iw_4 dW_1156 dW_1157 dW_1159 dW_1160 dW_1161 ?_
  refine g_callVI (rest := []) C mv_L_98 [.int (xs 1), .int (xs 2), .int (xs 3), .int (xs 4)] (frI1 (frI1 (c_X11_slipped F))) (pM_1 (pM_1 F.1)) (pM_K1 (pM_1 F.1) (pM_K1 F.1 F.2.1)) rfl rfl (by decide) (Nat.le_of_ble_eq_true rfl) (by decide) dW_1162 (fun r1 U1 h1 => ?_)
  obtain ⟨_, ⟨P2, h1, rfl⟩, rfl⟩ := h1
  refine g_off (fun o2 => ?_)
  refine g_aload_n C dW_1165 rfl 2 rfl ?_
  refine g_rd C X 4 0 rfl rfl iw_1 dW_1166 dW_1167 dW_1169 dW_1170 dW_1171 ?_
  refine g_rd C X 4 0 rfl rfl iw_2 dW_1172 dW_1173 dW_1175 dW_1176 dW_1177 ?_
  refine g_rd C X 4 0 rfl rfl iw_3 dW_1178 dW_1179 dW_1181 dW_1182 dW_1183 ?_
  refine g_rd C X 4 0 rfl rfl iw_4 dW_1184 dW_1185 dW_1187 dW_1188 dW_1189 ?_
  refine g_callVI (rest := [.int r1]) C mv_L_101 [.int (xs 1), .int (xs 2), .int (xs 3), .int (xs 4)] (frI1 (frI2 (c_X12_slipped M))) (pM_1 (pM_2 M.1)) (pM_K1 (pM_2 M.1) (pM_K2 (o2 _ M.1) M.2.1)) rfl rfl (by decide) (Nat.le_of_ble_eq_true rfl) (by decide) dW_1190 (fun r2 U2 h2 => ?_)
  obtain ⟨_, ⟨Q2, h2, rfl⟩, rfl⟩ := h2
  have e9 : r1 = r2 := h1.trans h2.symm
  exact b_icmp_eq C 2015 dW_1193 (by decide) (fun _ => law_tail C X (Nat.le_of_ble_eq_true rfl) (Nat.le_of_ble_eq_true rfl)) (fun h => absurd e9 h)
set_option maxHeartbeats 4000000 in
set_option maxRecDepth 100000 in
theorem lc_17 {E : EV} {D : va_G} {cy : Nat → ClassId} {P Q O : PP} {x m o b : Nat} {xs : Nat → Int32} (C : Cx E D cy 7 code RL) (X : Lx E b 7 xs) (F : FC P x) (M : FM Q m) : G E room_1 D cy 7 (pM (pM P Q) O) 157 11788 1198 [(4, .int 0), (3, .ref o), (2, .ref m), (1, .ref x), (0, .ref b)] [] := by
  refine g_aload_n C dW_1198 rfl 3 rfl ?_
  refine g_rd C X 4 0 rfl rfl iw_1 dW_1199 dW_1200 dW_1202 dW_1203 dW_1204 ?_
  refine g_rd C X 4 0 rfl rfl iw_2 dW_1205 dW_1206 dW_1208 dW_1209 dW_1210 ?_
  refine g_rd C X 4 0 rfl rfl iw_3 dW_1211 dW_1212 dW_1214 dW_1215 dW_1216 ?_
  refine g_rd C X 4 0 rfl rfl iw_4 dW_1217 dW_1218 dW_1220 dW_1221 dW_1222 ?_
  refine g_callVI (rest := []) C mv_L_102 [.int (xs 1), .int (xs 2), .int (xs 3), .int (xs 4)] (frI1 (frI1 (c_X11_right F))) (pM_1 (pM_1 F.1)) (pM_K1 (pM_1 F.1) (pM_K1 F.1 F.2.1)) rfl rfl (by decide) (Nat.le_of_ble_eq_true rfl) (by decide) dW_1223 (fun r1 U1 h1 => ?_)
  obtain ⟨_, ⟨P2, h1, rfl⟩, rfl⟩ := h1
  refine g_off (fun o2 => ?_)
  refine g_aload_n C dW_1226 rfl 2 rfl ?_
  refine g_rd C X 4 0 rfl rfl iw_1 dW_1227 dW_1228 dW_1230 dW_1231 dW_1232 ?_
  refine g_rd C X 4 0 rfl rfl iw_2 dW_1233 dW_1234 dW_1236 dW_1237 dW_1238 ?_
  refine g_rd C X 4 0 rfl rfl iw_3 dW_1239 dW_1240 dW_1242 dW_1243 dW_1244 ?_
  refine g_rd C X 4 0 rfl rfl iw_4 dW_1245 dW_1246 dW_1248 dW_1249 dW_1250 ?_
  refine g_callVI (rest := [.int r1]) C mv_L_105 [.int (xs 1), .int (xs 2), .int (xs 3), .int (xs 4)] (frI1 (frI2 (c_X12_right M))) (pM_1 (pM_2 M.1)) (pM_K1 (pM_2 M.1) (pM_K2 (o2 _ M.1) M.2.1)) rfl rfl (by decide) (Nat.le_of_ble_eq_true rfl) (by decide) dW_1251 (fun r2 U2 h2 => ?_)
  obtain ⟨_, ⟨Q2, h2, rfl⟩, rfl⟩ := h2
  have e9 : r1 = r2 := h1.trans h2.symm
  exact b_icmp_eq C 2015 dW_1254 (by decide) (fun _ => law_tail C X (Nat.le_of_ble_eq_true rfl) (Nat.le_of_ble_eq_true rfl)) (fun h => absurd e9 h)
set_option maxHeartbeats 4000000 in
set_option maxRecDepth 100000 in
theorem lc_18 {E : EV} {D : va_G} {cy : Nat → ClassId} {P Q O : PP} {x m o b : Nat} {xs : Nat → Int32} (C : Cx E D cy 7 code RL) (X : Lx E b 7 xs) (F : FC P x) (M : FM Q m) : G E room_1 D cy 7 (pM (pM P Q) O) 157 11788 1259 [(4, .int 0), (3, .ref o), (2, .ref m), (1, .ref x), (0, .ref b)] [] := by
  refine g_aload_n C dW_1259 rfl 3 rfl ?_
  refine g_rd C X 4 0 rfl rfl iw_1 dW_1260 dW_1261 dW_1263 dW_1264 dW_1265 ?_
  refine g_rd C X 4 0 rfl rfl iw_2 dW_1266 dW_1267 dW_1269 dW_1270 dW_1271 ?_
  refine g_rd C X 4 0 rfl rfl iw_3 dW_1272 dW_1273 dW_1275 dW_1276 dW_1277 ?_
  refine g_callVI (rest := []) C mv_L_106 [.int (xs 1), .int (xs 2), .int (xs 3)] (frI1 (frI1 (c_X11_doubles F))) (pM_1 (pM_1 F.1)) (pM_K1 (pM_1 F.1) (pM_K1 F.1 F.2.1)) rfl rfl (by decide) (Nat.le_of_ble_eq_true rfl) (by decide) dW_1278 (fun r1 U1 h1 => ?_)
  obtain ⟨_, ⟨P2, h1, rfl⟩, rfl⟩ := h1
  refine g_off (fun o2 => ?_)
  refine g_aload_n C dW_1281 rfl 2 rfl ?_
  refine g_rd C X 4 0 rfl rfl iw_1 dW_1282 dW_1283 dW_1285 dW_1286 dW_1287 ?_
  refine g_rd C X 4 0 rfl rfl iw_2 dW_1288 dW_1289 dW_1291 dW_1292 dW_1293 ?_
  refine g_rd C X 4 0 rfl rfl iw_3 dW_1294 dW_1295 dW_1297 dW_1298 dW_1299 ?_
  refine g_callVI (rest := [.int r1]) C mv_L_109 [.int (xs 1), .int (xs 2), .int (xs 3)] (frI1 (frI2 (c_X12_doubles M))) (pM_1 (pM_2 M.1)) (pM_K1 (pM_2 M.1) (pM_K2 (o2 _ M.1) M.2.1)) rfl rfl (by decide) (Nat.le_of_ble_eq_true rfl) (by decide) dW_1300 (fun r2 U2 h2 => ?_)
  obtain ⟨_, ⟨Q2, h2, rfl⟩, rfl⟩ := h2
  have e9 : r1 = r2 := h1.trans h2.symm
  exact b_icmp_eq C 2015 dW_1303 (by decide) (fun _ => law_tail C X (Nat.le_of_ble_eq_true rfl) (Nat.le_of_ble_eq_true rfl)) (fun h => absurd e9 h)
set_option maxHeartbeats 4000000 in
set_option maxRecDepth 100000 in
theorem lc_19 {E : EV} {D : va_G} {cy : Nat → ClassId} {P Q O : PP} {x m o b : Nat} {xs : Nat → Int32} (C : Cx E D cy 7 code RL) (X : Lx E b 7 xs) (F : FC P x) (M : FM Q m) : G E room_1 D cy 7 (pM (pM P Q) O) 157 11788 1308 [(4, .int 0), (3, .ref o), (2, .ref m), (1, .ref x), (0, .ref b)] [] := by
  refine g_aload_n C dW_1308 rfl 3 rfl ?_
  refine g_rd C X 4 0 rfl rfl iw_1 dW_1309 dW_1310 dW_1312 dW_1313 dW_1314 ?_
  refine g_rd C X 4 0 rfl rfl iw_2 dW_1315 dW_1316 dW_1318 dW_1319 dW_1320 ?_
  refine g_rd C X 4 0 rfl rfl iw_3 dW_1321 dW_1322 dW_1324 dW_1325 dW_1326 ?_
  refine g_rd C X 4 0 rfl rfl iw_4 dW_1327 dW_1328 dW_1330 dW_1331 dW_1332 ?_
  refine g_callVI (rest := []) C mv_L_110 [.int (xs 1), .int (xs 2), .int (xs 3), .int (xs 4)] (frI1 (frI1 (c_X11_guard F))) (pM_1 (pM_1 F.1)) (pM_K1 (pM_1 F.1) (pM_K1 F.1 F.2.1)) rfl rfl (by decide) (Nat.le_of_ble_eq_true rfl) (by decide) dW_1333 (fun r1 U1 h1 => ?_)
  obtain ⟨_, ⟨P2, h1, rfl⟩, rfl⟩ := h1
  refine g_off (fun o2 => ?_)
  refine g_aload_n C dW_1336 rfl 2 rfl ?_
  refine g_rd C X 4 0 rfl rfl iw_1 dW_1337 dW_1338 dW_1340 dW_1341 dW_1342 ?_
  refine g_rd C X 4 0 rfl rfl iw_2 dW_1343 dW_1344 dW_1346 dW_1347 dW_1348 ?_
  refine g_rd C X 4 0 rfl rfl iw_3 dW_1349 dW_1350 dW_1352 dW_1353 dW_1354 ?_
  refine g_rd C X 4 0 rfl rfl iw_4 dW_1355 dW_1356 dW_1358 dW_1359 dW_1360 ?_
  refine g_callVI (rest := [.int r1]) C mv_L_113 [.int (xs 1), .int (xs 2), .int (xs 3), .int (xs 4)] (frI1 (frI2 (c_X12_guard M))) (pM_1 (pM_2 M.1)) (pM_K1 (pM_2 M.1) (pM_K2 (o2 _ M.1) M.2.1)) rfl rfl (by decide) (Nat.le_of_ble_eq_true rfl) (by decide) dW_1361 (fun r2 U2 h2 => ?_)
  obtain ⟨_, ⟨Q2, h2, rfl⟩, rfl⟩ := h2
  have e9 : r1 = r2 := h1.trans h2.symm
  exact b_icmp_eq C 2015 dW_1364 (by decide) (fun _ => law_tail C X (Nat.le_of_ble_eq_true rfl) (Nat.le_of_ble_eq_true rfl)) (fun h => absurd e9 h)
set_option maxHeartbeats 4000000 in
set_option maxRecDepth 100000 in
theorem lc_20 {E : EV} {D : va_G} {cy : Nat → ClassId} {P Q O : PP} {x m o b : Nat} {xs : Nat → Int32} (C : Cx E D cy 7 code RL) (X : Lx E b 7 xs) (F : FC P x) (M : FM Q m) : G E room_1 D cy 7 (pM (pM P Q) O) 157 11788 1369 [(4, .int 0), (3, .ref o), (2, .ref m), (1, .ref x), (0, .ref b)] [] := by
  refine g_aload_n C dW_1369 rfl 3 rfl ?_
  refine g_rd C X 4 0 rfl rfl iw_1 dW_1370 dW_1371 dW_1373 dW_1374 dW_1375 ?_
  refine g_rd C X 4 0 rfl rfl iw_2 dW_1376 dW_1377 dW_1379 dW_1380 dW_1381 ?_
  refine g_rd C X 4 0 rfl rfl iw_3 dW_1382 dW_1383 dW_1385 dW_1386 dW_1387 ?_
  refine g_callVI (rest := []) C mv_L_114 [.int (xs 1), .int (xs 2), .int (xs 3)] (frI1 (frI1 (c_X11_tocome F))) (pM_1 (pM_1 F.1)) (pM_K1 (pM_1 F.1) (pM_K1 F.1 F.2.1)) rfl rfl (by decide) (Nat.le_of_ble_eq_true rfl) (by decide) dW_1388 (fun r1 U1 h1 => ?_)
  obtain ⟨_, ⟨P2, h1, rfl⟩, rfl⟩ := h1
  refine g_off (fun o2 => ?_)
  refine g_aload_n C dW_1391 rfl 2 rfl ?_
  refine g_rd C X 4 0 rfl rfl iw_1 dW_1392 dW_1393 dW_1395 dW_1396 dW_1397 ?_
  refine g_rd C X 4 0 rfl rfl iw_2 dW_1398 dW_1399 dW_1401 dW_1402 dW_1403 ?_
  refine g_rd C X 4 0 rfl rfl iw_3 dW_1404 dW_1405 dW_1407 dW_1408 dW_1409 ?_
  refine g_callVI (rest := [.int r1]) C mv_L_117 [.int (xs 1), .int (xs 2), .int (xs 3)] (frI1 (frI2 (c_X12_tocome M))) (pM_1 (pM_2 M.1)) (pM_K1 (pM_2 M.1) (pM_K2 (o2 _ M.1) M.2.1)) rfl rfl (by decide) (Nat.le_of_ble_eq_true rfl) (by decide) dW_1410 (fun r2 U2 h2 => ?_)
  obtain ⟨_, ⟨Q2, h2, rfl⟩, rfl⟩ := h2
  have e9 : r1 = r2 := h1.trans h2.symm
  exact b_icmp_eq C 2015 dW_1413 (by decide) (fun _ => law_tail C X (Nat.le_of_ble_eq_true rfl) (Nat.le_of_ble_eq_true rfl)) (fun h => absurd e9 h)
set_option maxHeartbeats 4000000 in
set_option maxRecDepth 100000 in
theorem lc_21 {E : EV} {D : va_G} {cy : Nat → ClassId} {P Q O : PP} {x m o b : Nat} {xs : Nat → Int32} (C : Cx E D cy 7 code RL) (X : Lx E b 7 xs) (F : FC P x) (M : FM Q m) : G E room_1 D cy 7 (pM (pM P Q) O) 157 11788 1418 [(4, .int 0), (3, .ref o), (2, .ref m), (1, .ref x), (0, .ref b)] [] := by
  refine g_aload_n C dW_1418 rfl 3 rfl ?_
  refine g_rd C X 4 0 rfl rfl iw_1 dW_1419 dW_1420 dW_1422 dW_1423 dW_1424 ?_
  refine g_rd C X 4 0 rfl rfl iw_2 dW_1425 dW_1426 dW_1428 dW_1429 dW_1430 ?_
  refine g_rd C X 4 0 rfl rfl iw_3 dW_1431 dW_1432 dW_1434 dW_1435 dW_1436 ?_
  refine g_rd C X 4 0 rfl rfl iw_4 dW_1437 dW_1438 dW_1440 dW_1441 dW_1442 ?_
  refine g_callVI (rest := []) C mv_L_118 [.int (xs 1), .int (xs 2), .int (xs 3), .int (xs 4)] (frI1 (frI1 (c_X11_chances F))) (pM_1 (pM_1 F.1)) (pM_K1 (pM_1 F.1) (pM_K1 F.1 F.2.1)) rfl rfl (by decide) (Nat.le_of_ble_eq_true rfl) (by decide) dW_1443 (fun r1 U1 h1 => ?_)
  obtain ⟨_, ⟨P2, h1, rfl⟩, rfl⟩ := h1
  refine g_off (fun o2 => ?_)
  refine g_aload_n C dW_1446 rfl 2 rfl ?_
  refine g_rd C X 4 0 rfl rfl iw_1 dW_1447 dW_1448 dW_1450 dW_1451 dW_1452 ?_
  refine g_rd C X 4 0 rfl rfl iw_2 dW_1453 dW_1454 dW_1456 dW_1457 dW_1458 ?_
  refine g_rd C X 4 0 rfl rfl iw_3 dW_1459 dW_1460 dW_1462 dW_1463 dW_1464 ?_
  refine g_rd C X 4 0 rfl rfl iw_4 dW_1465 dW_1466 dW_1468 dW_1469 dW_1470 ?_
  refine g_callVI (rest := [.int r1]) C mv_L_121 [.int (xs 1), .int (xs 2), .int (xs 3), .int (xs 4)] (frI1 (frI2 (c_X12_chances M))) (pM_1 (pM_2 M.1)) (pM_K1 (pM_2 M.1) (pM_K2 (o2 _ M.1) M.2.1)) rfl rfl (by decide) (Nat.le_of_ble_eq_true rfl) (by decide) dW_1471 (fun r2 U2 h2 => ?_)
  obtain ⟨_, ⟨Q2, h2, rfl⟩, rfl⟩ := h2
  have e9 : r1 = r2 := h1.trans h2.symm
  exact b_icmp_eq C 2015 dW_1474 (by decide) (fun _ => law_tail C X (Nat.le_of_ble_eq_true rfl) (Nat.le_of_ble_eq_true rfl)) (fun h => absurd e9 h)
set_option maxHeartbeats 4000000 in
set_option maxRecDepth 100000 in
theorem lc_22 {E : EV} {D : va_G} {cy : Nat → ClassId} {P Q O : PP} {x m o b : Nat} {xs : Nat → Int32} (C : Cx E D cy 7 code RL) (X : Lx E b 7 xs) (F : FC P x) (M : FM Q m) : G E room_1 D cy 7 (pM (pM P Q) O) 157 11788 1479 [(4, .int 0), (3, .ref o), (2, .ref m), (1, .ref x), (0, .ref b)] [] := by
  by_cases hz : xs 4 = 0
  · refine g_aload_n C dW_1479 rfl 3 rfl ?_
    refine g_rd C X 4 0 rfl rfl iw_1 dW_1480 dW_1481 dW_1483 dW_1484 dW_1485 ?_
    refine g_rd C X 4 0 rfl rfl iw_2 dW_1486 dW_1487 dW_1489 dW_1490 dW_1491 ?_
    refine g_rd C X 4 0 rfl rfl iw_3 dW_1492 dW_1493 dW_1495 dW_1496 dW_1497 ?_
    refine g_rd C X 4 0 rfl rfl iw_4 dW_1498 dW_1499 dW_1501 dW_1502 dW_1503 ?_
    refine b_if_eq C 1511 dW_1504 (by decide) (fun _ => ?_) (fun h => absurd hz h)
    refine g_iconst (v := 0) C dW_1511 (by decide) ?_
    refine g_callVI (rest := []) C mv_L_122 [.int (xs 1), .int (xs 2), .int (xs 3), .int 0] (frI1 (frI1 (c_X11_enough F))) (pM_1 (pM_1 F.1)) (pM_K1 (pM_1 F.1) (pM_K1 F.1 F.2.1)) rfl rfl (by decide) (Nat.le_of_ble_eq_true rfl) (by decide) dW_1512 (fun r1 U1 h1 => ?_)
    obtain ⟨_, ⟨P2, h1, rfl⟩, rfl⟩ := h1
    refine g_off (fun o2 => ?_)
    refine g_aload_n C dW_1515 rfl 2 rfl ?_
    refine g_rd C X 4 0 rfl rfl iw_1 dW_1516 dW_1517 dW_1519 dW_1520 dW_1521 ?_
    refine g_rd C X 4 0 rfl rfl iw_2 dW_1522 dW_1523 dW_1525 dW_1526 dW_1527 ?_
    refine g_rd C X 4 0 rfl rfl iw_3 dW_1528 dW_1529 dW_1531 dW_1532 dW_1533 ?_
    refine g_rd C X 4 0 rfl rfl iw_4 dW_1534 dW_1535 dW_1537 dW_1538 dW_1539 ?_
    refine b_if_eq C 1547 dW_1540 (by decide) (fun _ => ?_) (fun h => absurd hz h)
    refine g_iconst (v := 0) C dW_1547 (by decide) ?_
    refine g_callVI (rest := [.int r1]) C mv_L_126 [.int (xs 1), .int (xs 2), .int (xs 3), .int 0] (frI1 (frI2 (c_X12_enough M))) (pM_1 (pM_2 M.1)) (pM_K1 (pM_2 M.1) (pM_K2 (o2 _ M.1) M.2.1)) rfl rfl (by decide) (Nat.le_of_ble_eq_true rfl) (by decide) dW_1548 (fun r2 U2 h2 => ?_)
    obtain ⟨_, ⟨Q2, h2, rfl⟩, rfl⟩ := h2
    have e9 : r1 = r2 := h1.trans h2.symm
    exact b_icmp_eq C 2015 dW_1551 (by decide) (fun _ => law_tail C X (Nat.le_of_ble_eq_true rfl) (Nat.le_of_ble_eq_true rfl)) (fun h => absurd e9 h)
  · refine g_aload_n C dW_1479 rfl 3 rfl ?_
    refine g_rd C X 4 0 rfl rfl iw_1 dW_1480 dW_1481 dW_1483 dW_1484 dW_1485 ?_
    refine g_rd C X 4 0 rfl rfl iw_2 dW_1486 dW_1487 dW_1489 dW_1490 dW_1491 ?_
    refine g_rd C X 4 0 rfl rfl iw_3 dW_1492 dW_1493 dW_1495 dW_1496 dW_1497 ?_
    refine g_rd C X 4 0 rfl rfl iw_4 dW_1498 dW_1499 dW_1501 dW_1502 dW_1503 ?_
    refine b_if_eq C 1511 dW_1504 (by decide) (fun h => absurd h hz) (fun _ => ?_)
    refine g_iconst (v := 1) C dW_1507 (by decide) ?_
    refine g_goto C 1512 dW_1508 (by decide) ?_
    refine g_callVI (rest := []) C mv_L_122 [.int (xs 1), .int (xs 2), .int (xs 3), .int 1] (frI1 (frI1 (c_X11_enough F))) (pM_1 (pM_1 F.1)) (pM_K1 (pM_1 F.1) (pM_K1 F.1 F.2.1)) rfl rfl (by decide) (Nat.le_of_ble_eq_true rfl) (by decide) dW_1512 (fun r1 U1 h1 => ?_)
    obtain ⟨_, ⟨P2, h1, rfl⟩, rfl⟩ := h1
    refine g_off (fun o2 => ?_)
    refine g_aload_n C dW_1515 rfl 2 rfl ?_
    refine g_rd C X 4 0 rfl rfl iw_1 dW_1516 dW_1517 dW_1519 dW_1520 dW_1521 ?_
    refine g_rd C X 4 0 rfl rfl iw_2 dW_1522 dW_1523 dW_1525 dW_1526 dW_1527 ?_
    refine g_rd C X 4 0 rfl rfl iw_3 dW_1528 dW_1529 dW_1531 dW_1532 dW_1533 ?_
    refine g_rd C X 4 0 rfl rfl iw_4 dW_1534 dW_1535 dW_1537 dW_1538 dW_1539 ?_
    refine b_if_eq C 1547 dW_1540 (by decide) (fun h => absurd h hz) (fun _ => ?_)
    refine g_iconst (v := 1) C dW_1543 (by decide) ?_
    refine g_goto C 1548 dW_1544 (by decide) ?_
    refine g_callVI (rest := [.int r1]) C mv_L_126 [.int (xs 1), .int (xs 2), .int (xs 3), .int 1] (frI1 (frI2 (c_X12_enough M))) (pM_1 (pM_2 M.1)) (pM_K1 (pM_2 M.1) (pM_K2 (o2 _ M.1) M.2.1)) rfl rfl (by decide) (Nat.le_of_ble_eq_true rfl) (by decide) dW_1548 (fun r2 U2 h2 => ?_)
    obtain ⟨_, ⟨Q2, h2, rfl⟩, rfl⟩ := h2
    have e9 : r1 = r2 := h1.trans h2.symm
    exact b_icmp_eq C 2015 dW_1551 (by decide) (fun _ => law_tail C X (Nat.le_of_ble_eq_true rfl) (Nat.le_of_ble_eq_true rfl)) (fun h => absurd e9 h)
set_option maxHeartbeats 4000000 in
set_option maxRecDepth 100000 in
theorem lc_23 {E : EV} {D : va_G} {cy : Nat → ClassId} {P Q O : PP} {x m o b : Nat} {xs : Nat → Int32} (C : Cx E D cy 7 code RL) (X : Lx E b 7 xs) (F : FC P x) (M : FM Q m) : G E room_1 D cy 7 (pM (pM P Q) O) 157 11788 1556 [(4, .int 0), (3, .ref o), (2, .ref m), (1, .ref x), (0, .ref b)] [] := by
  refine g_aload_n C dW_1556 rfl 3 rfl ?_
  refine g_rd C X 4 0 rfl rfl iw_1 dW_1557 dW_1558 dW_1560 dW_1561 dW_1562 ?_
  refine g_rd C X 4 0 rfl rfl iw_2 dW_1563 dW_1564 dW_1566 dW_1567 dW_1568 ?_
  refine g_rd C X 4 0 rfl rfl iw_3 dW_1569 dW_1570 dW_1572 dW_1573 dW_1574 ?_
  refine g_rd C X 4 0 rfl rfl iw_4 dW_1575 dW_1576 dW_1578 dW_1579 dW_1580 ?_
  refine g_callVL (rest := []) C mv_L_127 [.int (xs 1), .int (xs 2), .int (xs 3), .int (xs 4)] (frL1 (frL1 (c_X11_average F))) (pM_1 (pM_1 F.1)) (pM_K1 (pM_1 F.1) (pM_K1 F.1 F.2.1)) rfl rfl (by decide) (Nat.le_of_ble_eq_true rfl) (by decide) dW_1581 (fun r1 U1 h1 => ?_)
  obtain ⟨_, ⟨P2, h1, rfl⟩, rfl⟩ := h1
  refine g_off (fun o2 => ?_)
  refine g_aload_n C dW_1584 rfl 2 rfl ?_
  refine g_rd C X 4 0 rfl rfl iw_1 dW_1585 dW_1586 dW_1588 dW_1589 dW_1590 ?_
  refine g_rd C X 4 0 rfl rfl iw_2 dW_1591 dW_1592 dW_1594 dW_1595 dW_1596 ?_
  refine g_rd C X 4 0 rfl rfl iw_3 dW_1597 dW_1598 dW_1600 dW_1601 dW_1602 ?_
  refine g_rd C X 4 0 rfl rfl iw_4 dW_1603 dW_1604 dW_1606 dW_1607 dW_1608 ?_
  refine g_callVL (rest := [.long r1]) C mv_L_131 [.int (xs 1), .int (xs 2), .int (xs 3), .int (xs 4)] (frL1 (frL2 (c_X12_average M))) (pM_1 (pM_2 M.1)) (pM_K1 (pM_2 M.1) (pM_K2 (o2 _ M.1) M.2.1)) rfl rfl (by decide) (Nat.le_of_ble_eq_true rfl) (by decide) dW_1609 (fun r2 U2 h2 => ?_)
  obtain ⟨_, ⟨Q2, h2, rfl⟩, rfl⟩ := h2
  have h1 : r1 = -1 := h1
  have h2 : r2 = -1 := h2
  subst h1
  subst h2
  refine g_lcmp C dW_1612 ?_
  exact b_if_eq C 2015 dW_1613 (by decide) (fun _ => law_tail C X (Nat.le_of_ble_eq_true rfl) (Nat.le_of_ble_eq_true rfl)) (fun h => absurd (by decide) h)
set_option maxHeartbeats 4000000 in
set_option maxRecDepth 100000 in
theorem lc_24 {E : EV} {D : va_G} {cy : Nat → ClassId} {P Q O : PP} {x m o b : Nat} {xs : Nat → Int32} (C : Cx E D cy 7 code RL) (X : Lx E b 7 xs) (F : FC P x) (M : FM Q m) : G E room_1 D cy 7 (pM (pM P Q) O) 157 11788 1618 [(4, .int 0), (3, .ref o), (2, .ref m), (1, .ref x), (0, .ref b)] [] := by
  refine g_aload_n C dW_1618 rfl 3 rfl ?_
  refine g_rd C X 4 0 rfl rfl iw_1 dW_1619 dW_1620 dW_1622 dW_1623 dW_1624 ?_
  refine g_rd C X 4 0 rfl rfl iw_2 dW_1625 dW_1626 dW_1628 dW_1629 dW_1630 ?_
  refine g_rd C X 4 0 rfl rfl iw_3 dW_1631 dW_1632 dW_1634 dW_1635 dW_1636 ?_
  refine g_rd C X 4 0 rfl rfl iw_4 dW_1637 dW_1638 dW_1640 dW_1641 dW_1642 ?_
  refine g_callVI (rest := []) C mv_L_132 [.int (xs 1), .int (xs 2), .int (xs 3), .int (xs 4)] (frI1 (frI1 (c_X11_degree F))) (pM_1 (pM_1 F.1)) (pM_K1 (pM_1 F.1) (pM_K1 F.1 F.2.1)) rfl rfl (by decide) (Nat.le_of_ble_eq_true rfl) (by decide) dW_1643 (fun r1 U1 h1 => ?_)
  obtain ⟨_, ⟨P2, h1, rfl⟩, rfl⟩ := h1
  refine g_off (fun o2 => ?_)
  refine g_aload_n C dW_1646 rfl 2 rfl ?_
  refine g_rd C X 4 0 rfl rfl iw_1 dW_1647 dW_1648 dW_1650 dW_1651 dW_1652 ?_
  refine g_rd C X 4 0 rfl rfl iw_2 dW_1653 dW_1654 dW_1656 dW_1657 dW_1658 ?_
  refine g_rd C X 4 0 rfl rfl iw_3 dW_1659 dW_1660 dW_1662 dW_1663 dW_1664 ?_
  refine g_rd C X 4 0 rfl rfl iw_4 dW_1665 dW_1666 dW_1668 dW_1669 dW_1670 ?_
  refine g_callVI (rest := [.int r1]) C mv_L_135 [.int (xs 1), .int (xs 2), .int (xs 3), .int (xs 4)] (frI1 (frI2 (c_X12_degree M))) (pM_1 (pM_2 M.1)) (pM_K1 (pM_2 M.1) (pM_K2 (o2 _ M.1) M.2.1)) rfl rfl (by decide) (Nat.le_of_ble_eq_true rfl) (by decide) dW_1671 (fun r2 U2 h2 => ?_)
  obtain ⟨_, ⟨Q2, h2, rfl⟩, rfl⟩ := h2
  have e9 : r1 = r2 := h1.trans h2.symm
  exact b_icmp_eq C 2015 dW_1674 (by decide) (fun _ => law_tail C X (Nat.le_of_ble_eq_true rfl) (Nat.le_of_ble_eq_true rfl)) (fun h => absurd e9 h)
set_option maxHeartbeats 4000000 in
set_option maxRecDepth 100000 in
theorem lc_25 {E : EV} {D : va_G} {cy : Nat → ClassId} {P Q O : PP} {x m o b : Nat} {xs : Nat → Int32} (C : Cx E D cy 7 code RL) (X : Lx E b 7 xs) (F : FC P x) (M : FM Q m) : G E room_1 D cy 7 (pM (pM P Q) O) 157 11788 1679 [(4, .int 0), (3, .ref o), (2, .ref m), (1, .ref x), (0, .ref b)] [] := by
  refine g_aload_n C dW_1679 rfl 3 rfl ?_
  refine g_rd C X 4 0 rfl rfl iw_1 dW_1680 dW_1681 dW_1683 dW_1684 dW_1685 ?_
  refine g_rd C X 4 0 rfl rfl iw_2 dW_1686 dW_1687 dW_1689 dW_1690 dW_1691 ?_
  refine g_callVI (rest := []) C mv_L_136 [.int (xs 1), .int (xs 2)] (frI1 (frI1 (c_X11_apart F))) (pM_1 (pM_1 F.1)) (pM_K1 (pM_1 F.1) (pM_K1 F.1 F.2.1)) rfl rfl (by decide) (Nat.le_of_ble_eq_true rfl) (by decide) dW_1692 (fun r1 U1 h1 => ?_)
  obtain ⟨_, ⟨P2, h1, rfl⟩, rfl⟩ := h1
  refine g_off (fun o2 => ?_)
  refine g_aload_n C dW_1695 rfl 2 rfl ?_
  refine g_rd C X 4 0 rfl rfl iw_1 dW_1696 dW_1697 dW_1699 dW_1700 dW_1701 ?_
  refine g_rd C X 4 0 rfl rfl iw_2 dW_1702 dW_1703 dW_1705 dW_1706 dW_1707 ?_
  refine g_callVI (rest := [.int r1]) C mv_L_139 [.int (xs 1), .int (xs 2)] (frI1 (frI2 (c_X12_apart M))) (pM_1 (pM_2 M.1)) (pM_K1 (pM_2 M.1) (pM_K2 (o2 _ M.1) M.2.1)) rfl rfl (by decide) (Nat.le_of_ble_eq_true rfl) (by decide) dW_1708 (fun r2 U2 h2 => ?_)
  obtain ⟨_, ⟨Q2, h2, rfl⟩, rfl⟩ := h2
  have e9 : r1 = r2 := h1.trans h2.symm
  exact b_icmp_eq C 2015 dW_1711 (by decide) (fun _ => law_tail C X (Nat.le_of_ble_eq_true rfl) (Nat.le_of_ble_eq_true rfl)) (fun h => absurd e9 h)
set_option maxHeartbeats 4000000 in
set_option maxRecDepth 100000 in
theorem lc_26 {E : EV} {D : va_G} {cy : Nat → ClassId} {P Q O : PP} {x m o b : Nat} {xs : Nat → Int32} (C : Cx E D cy 7 code RL) (X : Lx E b 7 xs) (F : FC P x) (M : FM Q m) : G E room_1 D cy 7 (pM (pM P Q) O) 157 11788 1716 [(4, .int 0), (3, .ref o), (2, .ref m), (1, .ref x), (0, .ref b)] [] := by
  refine g_aload_n C dW_1716 rfl 3 rfl ?_
  refine g_rd C X 4 0 rfl rfl iw_1 dW_1717 dW_1718 dW_1720 dW_1721 dW_1722 ?_
  refine g_rd C X 4 0 rfl rfl iw_2 dW_1723 dW_1724 dW_1726 dW_1727 dW_1728 ?_
  refine g_rd C X 4 0 rfl rfl iw_3 dW_1729 dW_1730 dW_1732 dW_1733 dW_1734 ?_
  refine g_callVI (rest := []) C mv_L_140 [.int (xs 1), .int (xs 2), .int (xs 3)] (frI1 (frI1 (c_X11_quarter F))) (pM_1 (pM_1 F.1)) (pM_K1 (pM_1 F.1) (pM_K1 F.1 F.2.1)) rfl rfl (by decide) (Nat.le_of_ble_eq_true rfl) (by decide) dW_1735 (fun r1 U1 h1 => ?_)
  obtain ⟨_, ⟨P2, h1, rfl⟩, rfl⟩ := h1
  refine g_off (fun o2 => ?_)
  refine g_aload_n C dW_1738 rfl 2 rfl ?_
  refine g_rd C X 4 0 rfl rfl iw_1 dW_1739 dW_1740 dW_1742 dW_1743 dW_1744 ?_
  refine g_rd C X 4 0 rfl rfl iw_2 dW_1745 dW_1746 dW_1748 dW_1749 dW_1750 ?_
  refine g_rd C X 4 0 rfl rfl iw_3 dW_1751 dW_1752 dW_1754 dW_1755 dW_1756 ?_
  refine g_callVI (rest := [.int r1]) C mv_L_143 [.int (xs 1), .int (xs 2), .int (xs 3)] (frI1 (frI2 (c_X12_quarter M))) (pM_1 (pM_2 M.1)) (pM_K1 (pM_2 M.1) (pM_K2 (o2 _ M.1) M.2.1)) rfl rfl (by decide) (Nat.le_of_ble_eq_true rfl) (by decide) dW_1757 (fun r2 U2 h2 => ?_)
  obtain ⟨_, ⟨Q2, h2, rfl⟩, rfl⟩ := h2
  have e9 : r1 = r2 := by rcases h1 with ⟨rfl, a1⟩ | ⟨rfl, a1⟩ <;> rcases h2 with ⟨rfl, a2⟩ | ⟨rfl, a2⟩ <;> first | rfl | exact absurd a1 a2 | exact absurd a2 a1
  exact b_icmp_eq C 2015 dW_1760 (by decide) (fun _ => law_tail C X (Nat.le_of_ble_eq_true rfl) (Nat.le_of_ble_eq_true rfl)) (fun h => absurd e9 h)
set_option maxHeartbeats 4000000 in
set_option maxRecDepth 100000 in
theorem lc_27 {E : EV} {D : va_G} {cy : Nat → ClassId} {P Q O : PP} {x m o b : Nat} {xs : Nat → Int32} (C : Cx E D cy 7 code RL) (X : Lx E b 7 xs) (F : FC P x) (M : FM Q m) : G E room_1 D cy 7 (pM (pM P Q) O) 157 11788 1765 [(4, .int 0), (3, .ref o), (2, .ref m), (1, .ref x), (0, .ref b)] [] := by
  refine g_aload_n C dW_1765 rfl 3 rfl ?_
  refine g_rd C X 4 0 rfl rfl iw_1 dW_1766 dW_1767 dW_1769 dW_1770 dW_1771 ?_
  refine g_rd C X 4 0 rfl rfl iw_2 dW_1772 dW_1773 dW_1775 dW_1776 dW_1777 ?_
  refine g_rd C X 4 0 rfl rfl iw_3 dW_1778 dW_1779 dW_1781 dW_1782 dW_1783 ?_
  refine g_callVI (rest := []) C mv_L_144 [.int (xs 1), .int (xs 2), .int (xs 3)] (frI1 (frI1 (c_X11_scatter F))) (pM_1 (pM_1 F.1)) (pM_K1 (pM_1 F.1) (pM_K1 F.1 F.2.1)) rfl rfl (by decide) (Nat.le_of_ble_eq_true rfl) (by decide) dW_1784 (fun r1 U1 h1 => ?_)
  obtain ⟨_, ⟨P2, h1, rfl⟩, rfl⟩ := h1
  refine g_off (fun o2 => ?_)
  refine g_aload_n C dW_1787 rfl 2 rfl ?_
  refine g_rd C X 4 0 rfl rfl iw_1 dW_1788 dW_1789 dW_1791 dW_1792 dW_1793 ?_
  refine g_rd C X 4 0 rfl rfl iw_2 dW_1794 dW_1795 dW_1797 dW_1798 dW_1799 ?_
  refine g_rd C X 4 0 rfl rfl iw_3 dW_1800 dW_1801 dW_1803 dW_1804 dW_1805 ?_
  refine g_callVI (rest := [.int r1]) C mv_L_147 [.int (xs 1), .int (xs 2), .int (xs 3)] (frI1 (frI2 (c_X12_scatter M))) (pM_1 (pM_2 M.1)) (pM_K1 (pM_2 M.1) (pM_K2 (o2 _ M.1) M.2.1)) rfl rfl (by decide) (Nat.le_of_ble_eq_true rfl) (by decide) dW_1806 (fun r2 U2 h2 => ?_)
  obtain ⟨_, ⟨Q2, h2, rfl⟩, rfl⟩ := h2
  have e9 : r1 = r2 := h1.trans h2.symm
  exact b_icmp_eq C 2015 dW_1809 (by decide) (fun _ => law_tail C X (Nat.le_of_ble_eq_true rfl) (Nat.le_of_ble_eq_true rfl)) (fun h => absurd e9 h)
set_option maxHeartbeats 4000000 in
set_option maxRecDepth 100000 in
theorem lc_28 {E : EV} {D : va_G} {cy : Nat → ClassId} {P Q O : PP} {x m o b : Nat} {xs : Nat → Int32} (C : Cx E D cy 7 code RL) (X : Lx E b 7 xs) (F : FC P x) (M : FM Q m) : G E room_1 D cy 7 (pM (pM P Q) O) 157 11788 1814 [(4, .int 0), (3, .ref o), (2, .ref m), (1, .ref x), (0, .ref b)] [] := by
  refine g_aload_n C dW_1814 rfl 3 rfl ?_
  refine g_rd C X 4 0 rfl rfl iw_1 dW_1815 dW_1816 dW_1818 dW_1819 dW_1820 ?_
  refine g_rd C X 4 0 rfl rfl iw_2 dW_1821 dW_1822 dW_1824 dW_1825 dW_1826 ?_
  refine g_callVI (rest := []) C mv_L_148 [.int (xs 1), .int (xs 2)] (frI1 (frI1 (c_X11_needs F))) (pM_1 (pM_1 F.1)) (pM_K1 (pM_1 F.1) (pM_K1 F.1 F.2.1)) rfl rfl (by decide) (Nat.le_of_ble_eq_true rfl) (by decide) dW_1827 (fun r1 U1 h1 => ?_)
  obtain ⟨_, ⟨P2, h1, rfl⟩, rfl⟩ := h1
  refine g_off (fun o2 => ?_)
  refine g_aload_n C dW_1830 rfl 2 rfl ?_
  refine g_rd C X 4 0 rfl rfl iw_1 dW_1831 dW_1832 dW_1834 dW_1835 dW_1836 ?_
  refine g_rd C X 4 0 rfl rfl iw_2 dW_1837 dW_1838 dW_1840 dW_1841 dW_1842 ?_
  refine g_callVI (rest := [.int r1]) C mv_L_151 [.int (xs 1), .int (xs 2)] (frI1 (frI2 (c_X12_needs M))) (pM_1 (pM_2 M.1)) (pM_K1 (pM_2 M.1) (pM_K2 (o2 _ M.1) M.2.1)) rfl rfl (by decide) (Nat.le_of_ble_eq_true rfl) (by decide) dW_1843 (fun r2 U2 h2 => ?_)
  obtain ⟨_, ⟨Q2, h2, rfl⟩, rfl⟩ := h2
  have e9 : r1 = r2 := h1.trans h2.symm
  exact b_icmp_eq C 2015 dW_1846 (by decide) (fun _ => law_tail C X (Nat.le_of_ble_eq_true rfl) (Nat.le_of_ble_eq_true rfl)) (fun h => absurd e9 h)
set_option maxHeartbeats 4000000 in
set_option maxRecDepth 100000 in
theorem lc_29 {E : EV} {D : va_G} {cy : Nat → ClassId} {P Q O : PP} {x m o b : Nat} {xs : Nat → Int32} (C : Cx E D cy 7 code RL) (X : Lx E b 7 xs) (F : FC P x) (M : FM Q m) : G E room_1 D cy 7 (pM (pM P Q) O) 157 11788 1851 [(4, .int 0), (3, .ref o), (2, .ref m), (1, .ref x), (0, .ref b)] [] := by
  refine g_aload_n C dW_1851 rfl 3 rfl ?_
  refine g_rd C X 4 0 rfl rfl iw_1 dW_1852 dW_1853 dW_1855 dW_1856 dW_1857 ?_
  refine g_rd C X 4 0 rfl rfl iw_2 dW_1858 dW_1859 dW_1861 dW_1862 dW_1863 ?_
  refine g_callVI (rest := []) C mv_L_152 [.int (xs 1), .int (xs 2)] (frI1 (frI1 (c_X11_town F))) (pM_1 (pM_1 F.1)) (pM_K1 (pM_1 F.1) (pM_K1 F.1 F.2.1)) rfl rfl (by decide) (Nat.le_of_ble_eq_true rfl) (by decide) dW_1864 (fun r1 U1 h1 => ?_)
  obtain ⟨_, ⟨P2, h1, rfl⟩, rfl⟩ := h1
  refine g_off (fun o2 => ?_)
  refine g_aload_n C dW_1867 rfl 2 rfl ?_
  refine g_rd C X 4 0 rfl rfl iw_1 dW_1868 dW_1869 dW_1871 dW_1872 dW_1873 ?_
  refine g_rd C X 4 0 rfl rfl iw_2 dW_1874 dW_1875 dW_1877 dW_1878 dW_1879 ?_
  refine g_callVI (rest := [.int r1]) C mv_L_155 [.int (xs 1), .int (xs 2)] (frI1 (frI2 (c_X12_town M))) (pM_1 (pM_2 M.1)) (pM_K1 (pM_2 M.1) (pM_K2 (o2 _ M.1) M.2.1)) rfl rfl (by decide) (Nat.le_of_ble_eq_true rfl) (by decide) dW_1880 (fun r2 U2 h2 => ?_)
  obtain ⟨_, ⟨Q2, h2, rfl⟩, rfl⟩ := h2
  have e9 : r1 = r2 := h1.trans h2.symm
  exact b_icmp_eq C 2015 dW_1883 (by decide) (fun _ => law_tail C X (Nat.le_of_ble_eq_true rfl) (Nat.le_of_ble_eq_true rfl)) (fun h => absurd e9 h)
set_option maxHeartbeats 4000000 in
set_option maxRecDepth 100000 in
theorem lc_30 {E : EV} {D : va_G} {cy : Nat → ClassId} {P Q O : PP} {x m o b : Nat} {xs : Nat → Int32} (C : Cx E D cy 7 code RL) (X : Lx E b 7 xs) (F : FC P x) (M : FM Q m) : G E room_1 D cy 7 (pM (pM P Q) O) 157 11788 1888 [(4, .int 0), (3, .ref o), (2, .ref m), (1, .ref x), (0, .ref b)] [] := by
  refine g_aload_n C dW_1888 rfl 3 rfl ?_
  refine g_rd C X 4 0 rfl rfl iw_1 dW_1889 dW_1890 dW_1892 dW_1893 dW_1894 ?_
  refine g_rd C X 4 0 rfl rfl iw_2 dW_1895 dW_1896 dW_1898 dW_1899 dW_1900 ?_
  refine g_rd C X 4 0 rfl rfl iw_3 dW_1901 dW_1902 dW_1904 dW_1905 dW_1906 ?_
  refine g_callVI (rest := []) C mv_L_156 [.int (xs 1), .int (xs 2), .int (xs 3)] (frI1 (frI1 (c_X11_swap F))) (pM_1 (pM_1 F.1)) (pM_K1 (pM_1 F.1) (pM_K1 F.1 F.2.1)) rfl rfl (by decide) (Nat.le_of_ble_eq_true rfl) (by decide) dW_1907 (fun r1 U1 h1 => ?_)
  obtain ⟨_, ⟨P2, h1, rfl⟩, rfl⟩ := h1
  refine g_off (fun o2 => ?_)
  refine g_aload_n C dW_1910 rfl 2 rfl ?_
  refine g_rd C X 4 0 rfl rfl iw_1 dW_1911 dW_1912 dW_1914 dW_1915 dW_1916 ?_
  refine g_rd C X 4 0 rfl rfl iw_2 dW_1917 dW_1918 dW_1920 dW_1921 dW_1922 ?_
  refine g_rd C X 4 0 rfl rfl iw_3 dW_1923 dW_1924 dW_1926 dW_1927 dW_1928 ?_
  refine g_callVI (rest := [.int r1]) C mv_L_159 [.int (xs 1), .int (xs 2), .int (xs 3)] (frI1 (frI2 (c_X12_swap M))) (pM_1 (pM_2 M.1)) (pM_K1 (pM_2 M.1) (pM_K2 (o2 _ M.1) M.2.1)) rfl rfl (by decide) (Nat.le_of_ble_eq_true rfl) (by decide) dW_1929 (fun r2 U2 h2 => ?_)
  obtain ⟨_, ⟨Q2, h2, rfl⟩, rfl⟩ := h2
  have e9 : r1 = r2 := by rcases h1 with ⟨rfl, a1⟩ | ⟨rfl, a1⟩ <;> rcases h2 with ⟨rfl, a2⟩ | ⟨rfl, a2⟩ <;> first | rfl | exact absurd a1 a2 | exact absurd a2 a1
  exact b_icmp_eq C 2015 dW_1932 (by decide) (fun _ => law_tail C X (Nat.le_of_ble_eq_true rfl) (Nat.le_of_ble_eq_true rfl)) (fun h => absurd e9 h)
set_option maxHeartbeats 4000000 in
set_option maxRecDepth 100000 in
theorem lc_31 {E : EV} {D : va_G} {cy : Nat → ClassId} {P Q O : PP} {x m o b : Nat} {xs : Nat → Int32} (C : Cx E D cy 7 code RL) (X : Lx E b 7 xs) (F : FC P x) (M : FM Q m) : G E room_1 D cy 7 (pM (pM P Q) O) 157 11788 1937 [(4, .int 0), (3, .ref o), (2, .ref m), (1, .ref x), (0, .ref b)] [] := by
  by_cases hz : xs 2 = 0
  · refine g_aload_n C dW_1937 rfl 3 rfl ?_
    refine g_rd C X 4 0 rfl rfl iw_1 dW_1938 dW_1939 dW_1941 dW_1942 dW_1943 ?_
    refine g_rd C X 4 0 rfl rfl iw_2 dW_1944 dW_1945 dW_1947 dW_1948 dW_1949 ?_
    refine b_if_eq C 1957 dW_1950 (by decide) (fun _ => ?_) (fun h => absurd hz h)
    refine g_iconst (v := 0) C dW_1957 (by decide) ?_
    refine g_callVI (rest := []) C mv_L_160 [.int (xs 1), .int 0] (frI1 (frI1 (c_X11_mark0 F))) (pM_1 (pM_1 F.1)) (pM_K1 (pM_1 F.1) (pM_K1 F.1 F.2.1)) rfl rfl (by decide) (Nat.le_of_ble_eq_true rfl) (by decide) dW_1958 (fun r1 U1 h1 => ?_)
    obtain ⟨_, ⟨P2, h1, rfl⟩, rfl⟩ := h1
    refine g_off (fun o2 => ?_)
    refine g_aload_n C dW_1961 rfl 2 rfl ?_
    refine g_rd C X 4 0 rfl rfl iw_1 dW_1962 dW_1963 dW_1965 dW_1966 dW_1967 ?_
    refine g_rd C X 4 0 rfl rfl iw_2 dW_1968 dW_1969 dW_1971 dW_1972 dW_1973 ?_
    refine b_if_eq C 1981 dW_1974 (by decide) (fun _ => ?_) (fun h => absurd hz h)
    refine g_iconst (v := 0) C dW_1981 (by decide) ?_
    refine g_callVI (rest := [.int r1]) C mv_L_164 [.int (xs 1), .int 0] (frI1 (frI2 (c_X12_mark0 M))) (pM_1 (pM_2 M.1)) (pM_K1 (pM_2 M.1) (pM_K2 (o2 _ M.1) M.2.1)) rfl rfl (by decide) (Nat.le_of_ble_eq_true rfl) (by decide) dW_1982 (fun r2 U2 h2 => ?_)
    obtain ⟨_, ⟨Q2, h2, rfl⟩, rfl⟩ := h2
    have e9 : r1 = r2 := by rcases h1 with ⟨rfl, a1⟩ | ⟨rfl, a1⟩ <;> rcases h2 with ⟨rfl, a2⟩ | ⟨rfl, a2⟩ <;> first | rfl | exact absurd a1 a2 | exact absurd a2 a1
    exact b_icmp_eq C 2015 dW_1985 (by decide) (fun _ => law_tail C X (Nat.le_of_ble_eq_true rfl) (Nat.le_of_ble_eq_true rfl)) (fun h => absurd e9 h)
  · refine g_aload_n C dW_1937 rfl 3 rfl ?_
    refine g_rd C X 4 0 rfl rfl iw_1 dW_1938 dW_1939 dW_1941 dW_1942 dW_1943 ?_
    refine g_rd C X 4 0 rfl rfl iw_2 dW_1944 dW_1945 dW_1947 dW_1948 dW_1949 ?_
    refine b_if_eq C 1957 dW_1950 (by decide) (fun h => absurd h hz) (fun _ => ?_)
    refine g_iconst (v := 1) C dW_1953 (by decide) ?_
    refine g_goto C 1958 dW_1954 (by decide) ?_
    refine g_callVI (rest := []) C mv_L_160 [.int (xs 1), .int 1] (frI1 (frI1 (c_X11_mark1 F))) (pM_1 (pM_1 F.1)) (pM_K1 (pM_1 F.1) (pM_K1 F.1 F.2.1)) rfl rfl (by decide) (Nat.le_of_ble_eq_true rfl) (by decide) dW_1958 (fun r1 U1 h1 => ?_)
    obtain ⟨_, ⟨P2, h1, rfl⟩, rfl⟩ := h1
    refine g_off (fun o2 => ?_)
    refine g_aload_n C dW_1961 rfl 2 rfl ?_
    refine g_rd C X 4 0 rfl rfl iw_1 dW_1962 dW_1963 dW_1965 dW_1966 dW_1967 ?_
    refine g_rd C X 4 0 rfl rfl iw_2 dW_1968 dW_1969 dW_1971 dW_1972 dW_1973 ?_
    refine b_if_eq C 1981 dW_1974 (by decide) (fun h => absurd h hz) (fun _ => ?_)
    refine g_iconst (v := 1) C dW_1977 (by decide) ?_
    refine g_goto C 1982 dW_1978 (by decide) ?_
    refine g_callVI (rest := [.int r1]) C mv_L_164 [.int (xs 1), .int 1] (frI1 (frI2 (c_X12_mark1 M))) (pM_1 (pM_2 M.1)) (pM_K1 (pM_2 M.1) (pM_K2 (o2 _ M.1) M.2.1)) rfl rfl (by decide) (Nat.le_of_ble_eq_true rfl) (by decide) dW_1982 (fun r2 U2 h2 => ?_)
    obtain ⟨_, ⟨Q2, h2, rfl⟩, rfl⟩ := h2
    have e9 : r1 = r2 := h1.trans h2.symm
    exact b_icmp_eq C 2015 dW_1985 (by decide) (fun _ => law_tail C X (Nat.le_of_ble_eq_true rfl) (Nat.le_of_ble_eq_true rfl)) (fun h => absurd e9 h)
set_option maxHeartbeats 4000000 in
set_option maxRecDepth 100000 in
theorem lc_32 {E : EV} {D : va_G} {cy : Nat → ClassId} {P Q O : PP} {x m o b : Nat} {xs : Nat → Int32} (C : Cx E D cy 7 code RL) (X : Lx E b 7 xs) (F : FC P x) (M : FM Q m) : G E room_1 D cy 7 (pM (pM P Q) O) 157 11788 1990 [(4, .int 0), (3, .ref o), (2, .ref m), (1, .ref x), (0, .ref b)] [] := by
  refine g_aload_n C dW_1990 rfl 3 rfl ?_
  refine g_rd C X 4 0 rfl rfl iw_1 dW_1991 dW_1992 dW_1994 dW_1995 dW_1996 ?_
  refine g_callVI (rest := []) C mv_L_165 [.int (xs 1)] (frI1 (frI1 (c_X11_count F))) (pM_1 (pM_1 F.1)) (pM_K1 (pM_1 F.1) (pM_K1 F.1 F.2.1)) rfl rfl (by decide) (Nat.le_of_ble_eq_true rfl) (by decide) dW_1997 (fun r1 U1 h1 => ?_)
  obtain ⟨_, ⟨P2, h1, rfl⟩, rfl⟩ := h1
  refine g_off (fun o2 => ?_)
  refine g_aload_n C dW_2000 rfl 2 rfl ?_
  refine g_rd C X 4 0 rfl rfl iw_1 dW_2001 dW_2002 dW_2004 dW_2005 dW_2006 ?_
  refine g_callVI (rest := [.int r1]) C mv_L_168 [.int (xs 1)] (frI1 (frI2 (c_X12_count M))) (pM_1 (pM_2 M.1)) (pM_K1 (pM_2 M.1) (pM_K2 (o2 _ M.1) M.2.1)) rfl rfl (by decide) (Nat.le_of_ble_eq_true rfl) (by decide) dW_2007 (fun r2 U2 h2 => ?_)
  obtain ⟨_, ⟨Q2, h2, rfl⟩, rfl⟩ := h2
  have e9 : r1 = r2 := by rcases h1 with ⟨a1, a2, rfl⟩ | ⟨a1, rfl⟩ | ⟨a1, rfl⟩ <;> rcases h2 with ⟨b1, b2, rfl⟩ | ⟨b1, rfl⟩ | ⟨b1, rfl⟩ <;> first | rfl | (exfalso; omega)
  exact b_icmp_eq C 2015 dW_2010 (by decide) (fun _ => law_tail C X (Nat.le_of_ble_eq_true rfl) (Nat.le_of_ble_eq_true rfl)) (fun h => absurd e9 h)
theorem hd_lt {L : Nat} (h : L < 7) : (Int32.ofNat L - 7).toInt < (0 : Int32).toInt := by
  rcases (show L = 0 ∨ L = 1 ∨ L = 2 ∨ L = 3 ∨ L = 4 ∨ L = 5 ∨ L = 6 by omega) with rfl | rfl | rfl | rfl | rfl | rfl | rfl <;> decide
theorem law_loop {E : EV} {D : va_G} {cy : Nat → ClassId} {P Q O : PP} {x m o b : Nat} {xs : Nat → Int32} (C : Cx E D cy 7 code RL) (X : Lx E b 7 xs) (F : FC P x) (M : FM Q m) (Xe : Xt E) : G E room_1 D cy 7 (pM (pM P Q) O) 157 11788 33 [(4, .int 0), (3, .ref o), (2, .ref m), (1, .ref x), (0, .ref b)] [] := by
  refine g_aload_n C dW_33 rfl 4 rfl ?_
  refine g_iload C dW_34 0 rfl ?_
  refine g_sld C X iw_0 dW_36 ?_
  refine g_bipush (v := 63) C dW_37 (by decide) ?_
  refine g_iand C dW_39 ?_
  obtain ⟨v, hv⟩ : ∃ v, v = xs 0 &&& 63 := ⟨_, rfl⟩
  rw [← hv]
  by_cases h : v.toInt < 0 ∨ 32 < v.toInt
  · exact g_tableOut C 2015 dW_40 h (by decide) (law_tail C X (Nat.le_of_ble_eq_true rfl) (Nat.le_of_ble_eq_true rfl))
  · rcases (show v.toInt = 0 ∨ v.toInt = 1 ∨ v.toInt = 2 ∨ v.toInt = 3 ∨ v.toInt = 4 ∨ v.toInt = 5 ∨ v.toInt = 6 ∨ v.toInt = 7 ∨ v.toInt = 8 ∨ v.toInt = 9 ∨ v.toInt = 10 ∨ v.toInt = 11 ∨ v.toInt = 12 ∨ v.toInt = 13 ∨ v.toInt = 14 ∨ v.toInt = 15 ∨ v.toInt = 16 ∨ v.toInt = 17 ∨ v.toInt = 18 ∨ v.toInt = 19 ∨ v.toInt = 20 ∨ v.toInt = 21 ∨ v.toInt = 22 ∨ v.toInt = 23 ∨ v.toInt = 24 ∨ v.toInt = 25 ∨ v.toInt = 26 ∨ v.toInt = 27 ∨ v.toInt = 28 ∨ v.toInt = 29 ∨ v.toInt = 30 ∨ v.toInt = 31 ∨ v.toInt = 32 by omega) with e | e | e | e | e | e | e | e | e | e | e | e | e | e | e | e | e | e | e | e | e | e | e | e | e | e | e | e | e | e | e | e | e
    · exact g_tableIn C 188 dW_40 (by omega) (by omega) (by rw [e]; rfl) (by decide) (lc_0 C X F M)
    · exact g_tableIn C 225 dW_40 (by omega) (by omega) (by rw [e]; rfl) (by decide) (lc_1 C X F M)
    · exact g_tableIn C 274 dW_40 (by omega) (by omega) (by rw [e]; rfl) (by decide) (lc_2 C X F M)
    · exact g_tableIn C 421 dW_40 (by omega) (by omega) (by rw [e]; rfl) (by decide) (lc_3 C X F M)
    · exact g_tableIn C 446 dW_40 (by omega) (by omega) (by rw [e]; rfl) (by decide) (lc_4 C X F M)
    · exact g_tableIn C 495 dW_40 (by omega) (by omega) (by rw [e]; rfl) (by decide) (lc_5 C X F M)
    · exact g_tableIn C 532 dW_40 (by omega) (by omega) (by rw [e]; rfl) (by decide) (lc_6 C X F M)
    · exact g_tableIn C 593 dW_40 (by omega) (by omega) (by rw [e]; rfl) (by decide) (lc_7 C X F M)
    · exact g_tableIn C 654 dW_40 (by omega) (by omega) (by rw [e]; rfl) (by decide) (lc_8 C X F M)
    · exact g_tableIn C 727 dW_40 (by omega) (by omega) (by rw [e]; rfl) (by decide) (lc_9 C X F M)
    · exact g_tableIn C 776 dW_40 (by omega) (by omega) (by rw [e]; rfl) (by decide) (lc_10 C X F M Xe)
    · exact g_tableIn C 856 dW_40 (by omega) (by omega) (by rw [e]; rfl) (by decide) (lc_11 C X F M)
    · exact g_tableIn C 893 dW_40 (by omega) (by omega) (by rw [e]; rfl) (by decide) (lc_12 C X F M)
    · exact g_tableIn C 954 dW_40 (by omega) (by omega) (by rw [e]; rfl) (by decide) (lc_13 C X F M)
    · exact g_tableIn C 1015 dW_40 (by omega) (by omega) (by rw [e]; rfl) (by decide) (lc_14 C X F M)
    · exact g_tableIn C 1076 dW_40 (by omega) (by omega) (by rw [e]; rfl) (by decide) (lc_15 C X F M)
    · exact g_tableIn C 1137 dW_40 (by omega) (by omega) (by rw [e]; rfl) (by decide) (lc_16 C X F M)
    · exact g_tableIn C 1198 dW_40 (by omega) (by omega) (by rw [e]; rfl) (by decide) (lc_17 C X F M)
    · exact g_tableIn C 1259 dW_40 (by omega) (by omega) (by rw [e]; rfl) (by decide) (lc_18 C X F M)
    · exact g_tableIn C 1308 dW_40 (by omega) (by omega) (by rw [e]; rfl) (by decide) (lc_19 C X F M)
    · exact g_tableIn C 1369 dW_40 (by omega) (by omega) (by rw [e]; rfl) (by decide) (lc_20 C X F M)
    · exact g_tableIn C 1418 dW_40 (by omega) (by omega) (by rw [e]; rfl) (by decide) (lc_21 C X F M)
    · exact g_tableIn C 1479 dW_40 (by omega) (by omega) (by rw [e]; rfl) (by decide) (lc_22 C X F M)
    · exact g_tableIn C 1556 dW_40 (by omega) (by omega) (by rw [e]; rfl) (by decide) (lc_23 C X F M)
    · exact g_tableIn C 1618 dW_40 (by omega) (by omega) (by rw [e]; rfl) (by decide) (lc_24 C X F M)
    · exact g_tableIn C 1679 dW_40 (by omega) (by omega) (by rw [e]; rfl) (by decide) (lc_25 C X F M)
    · exact g_tableIn C 1716 dW_40 (by omega) (by omega) (by rw [e]; rfl) (by decide) (lc_26 C X F M)
    · exact g_tableIn C 1765 dW_40 (by omega) (by omega) (by rw [e]; rfl) (by decide) (lc_27 C X F M)
    · exact g_tableIn C 1814 dW_40 (by omega) (by omega) (by rw [e]; rfl) (by decide) (lc_28 C X F M)
    · exact g_tableIn C 1851 dW_40 (by omega) (by omega) (by rw [e]; rfl) (by decide) (lc_29 C X F M)
    · exact g_tableIn C 1888 dW_40 (by omega) (by omega) (by rw [e]; rfl) (by decide) (lc_30 C X F M)
    · exact g_tableIn C 1937 dW_40 (by omega) (by omega) (by rw [e]; rfl) (by decide) (lc_31 C X F M)
    · exact g_tableIn C 1990 dW_40 (by omega) (by omega) (by rw [e]; rfl) (by decide) (lc_32 C X F M)
theorem law_walk {E : EV} {D : va_G} {cy : Nat → ClassId} {b L : Nat} {xs : Nat → Int32} (C : Cx E D cy 7 code RL) (hL : L ≤ 7) (X : Lx E b L xs) (Xe : Xt E) : G E room_1 D cy 7 p0 0 0 0 [(0, .ref b)] [] := by
  refine g_new C ni_L_8 (by decide) (by decide) dW_0 (fun x hx => ?_)
  refine g_dup C dW_3 rfl ?_
  refine g_callCV (ci := 0) (ret := none) (rest := [.ref x]) C mi_L_15 [] (c_X11_init (S := []) (n1_mem _ _ _) (n1_K _ _ _) (n1_R _ _ _) (n1_G _ _ _) (n1_Z _ _ _ (by decide)) rfl (n1_I _ _ _)) rfl rfl (by decide) (Nat.le_of_ble_eq_true rfl) (by decide) dW_4 (fun P F => ?_)
  refine g_astore_n (lv' := [(1, .ref x), (0, .ref b)]) C dW_7 rfl (by decide) rfl ?_
  refine g_new C ni_L_16 (by decide) (by decide) dW_8 (fun m hm => ?_)
  refine g_pw (pNw_pM hm) ?_
  refine g_dup C dW_11 rfl ?_
  refine g_callCV (ci := 0) (ret := none) (rest := [.ref m]) C mi_L_18 [] (frV2 (c_X12_init (S := []) (n1_mem _ _ _) (n1_K _ _ _) (n1_R _ _ _) (n1_G _ _ _) (n1_Z _ _ _ (by decide)) rfl (n1_I _ _ _))) rfl rfl (by decide) (Nat.le_of_ble_eq_true rfl) (by decide) dW_12 (fun U h => ?_)
  obtain ⟨Q, M, rfl⟩ := h
  refine g_astore_n (lv' := [(2, .ref m), (1, .ref x), (0, .ref b)]) C dW_15 rfl (by decide) rfl ?_
  refine g_iconst (v := 1) C dW_16 (by decide) ?_
  refine g_newJ (N := 1) C ac_long (by decide) (by decide) (by decide) (by decide) (by decide) dW_17 (fun o ho => ?_)
  refine g_pw (pNw_pM ho) ?_
  refine g_astore_n (lv' := [(3, .ref o), (2, .ref m), (1, .ref x), (0, .ref b)]) C dW_19 rfl (by decide) rfl ?_
  refine g_iconst (v := 0) C dW_20 (by decide) ?_
  refine g_istore (lv' := [(4, .int 0), (3, .ref o), (2, .ref m), (1, .ref x), (0, .ref b)]) C dW_21 (by decide) rfl ?_
  refine g_iload C dW_23 0 rfl ?_
  refine g_aload_n C dW_25 rfl 4 rfl ?_
  refine g_slen C X dW_26 ?_
  refine g_bipush (v := 7) C dW_27 (by decide) ?_
  refine g_isub C dW_29 ?_
  by_cases h7 : L = 7
  · subst h7
    refine b_icmp_gt C 2021 dW_30 (by decide) (fun h => absurd h (by decide)) (fun _ => ?_)
    exact law_loop C X F M Xe
  · refine b_icmp_gt C 2021 dW_30 (by decide) (fun _ => ?_) (fun h => absurd (hd_lt (by omega)) (Int.not_lt.mpr h))
    exact law_fin C X (Nat.le_of_ble_eq_true rfl) (Nat.le_of_ble_eq_true rfl)
