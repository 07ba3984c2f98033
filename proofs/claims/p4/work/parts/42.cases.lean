set_option maxHeartbeats 4000000 in
set_option maxRecDepth 100000 in
theorem lc_0 {E : EV} {D : va_G} {cy : Nat → ClassId} {P Q O : PP} {x m o b n L cs sl : Nat} {xs : Nat → Int32} (C : Cx E D cy 7 code RL) (X : Lx E b L xs) (hn : n + 7 ≤ L) (hL : L ≤ 3584) (J : LJ P Q O x m o) (hc : cs + 100 ≤ 601024) (hs : sl + 700 ≤ 7293034) (kk : ∀ (P2 Q2 O2 : PP) (cs2 sl2 : Nat), LJ P2 Q2 O2 x m o → cs2 ≤ cs + 100 → sl2 ≤ sl + 700 → G E room_1 D cy 7 (pM (pM P2 Q2) O2) cs2 sl2 1986 [(4, .int (nI n)), (3, .ref o), (2, .ref m), (1, .ref x), (0, .ref b)] []) : G E room_1 D cy 7 (pM (pM P Q) O) cs sl 188 [(4, .int (nI n)), (3, .ref o), (2, .ref m), (1, .ref x), (0, .ref b)] [] := by
  obtain ⟨I, A, M, W0, T0, ho⟩ := J
  refine g_aload_n C dW_188 rfl 3 rfl ?_
  refine g_rd C X 4 0 rfl rfl (iw_1 hn hL) dW_189 dW_190 dW_192 dW_193 dW_194 ?_
  refine g_rd C X 4 0 rfl rfl (iw_2 hn hL) dW_195 dW_196 dW_198 dW_199 dW_200 ?_
  refine g_callVI (rest := []) C mv_L_19 [.int (xs (n + 1)), .int (xs (n + 2))] (frI1 (frI1 (s_X11_book I A ))) (pM_1 (pM_1 A.1)) (pM_K1 (pM_1 A.1) (pM_K1 A.1 A.2)) rfl rfl (by decide) (Nat.le_of_ble_eq_true rfl) ⟨by rw [hrc]; omega, by rw [hrs]; omega⟩ dW_201 (fun r1 U1 h1 => ?_)
  obtain ⟨_, ⟨Z1, h1, rfl⟩, rfl⟩ := h1
  obtain ⟨I1, X1, h1⟩ := h1
  have A1 := X1.at A
  have T1 := T0.keep I A X1 (by decide)
  refine g_off (fun o2 => ?_)
  refine g_pop C dW_204 rfl ?_
  refine g_aload_n C dW_205 rfl 2 rfl ?_
  refine g_rd C X 4 0 rfl rfl (iw_1 hn hL) dW_206 dW_207 dW_209 dW_210 dW_211 ?_
  refine g_rd C X 4 0 rfl rfl (iw_2 hn hL) dW_212 dW_213 dW_215 dW_216 dW_217 ?_
  refine g_callVI (rest := []) C mv_L_23 [.int (xs (n + 1)), .int (xs (n + 2))] (frI1 (frI2 (s_X12_book M  W0))) (pM_1 (pM_2 M.2.1.1)) (pM_K1 (pM_2 M.2.1.1) (pM_K2 (o2 _ M.2.1.1) M.2.1.2)) rfl rfl (by decide) (Nat.le_of_ble_eq_true rfl) ⟨by rw [hrc]; omega, by rw [hrs]; omega⟩ dW_218 (fun r2 U2 h2 => ?_)
  obtain ⟨_, ⟨Z2, h2, rfl⟩, rfl⟩ := h2
  obtain ⟨M2, X2, W2, h2⟩ := h2
  have T2 := T1.kM X2 (by decide)
  refine g_pop C dW_221 rfl ?_
  refine g_goto C 1986 dW_222 (by decide) ?_
  exact kk _ _ _ _ _ ⟨I1, A1, M2, W2, T2, ho⟩ (by omega) (by omega)
set_option maxHeartbeats 4000000 in
set_option maxRecDepth 100000 in
theorem lc_1 {E : EV} {D : va_G} {cy : Nat → ClassId} {P Q O : PP} {x m o b n L cs sl : Nat} {xs : Nat → Int32} (C : Cx E D cy 7 code RL) (X : Lx E b L xs) (hn : n + 7 ≤ L) (hL : L ≤ 3584) (J : LJ P Q O x m o) (hc : cs + 100 ≤ 601024) (hs : sl + 700 ≤ 7293034) (kk : ∀ (P2 Q2 O2 : PP) (cs2 sl2 : Nat), LJ P2 Q2 O2 x m o → cs2 ≤ cs + 100 → sl2 ≤ sl + 700 → G E room_1 D cy 7 (pM (pM P2 Q2) O2) cs2 sl2 1986 [(4, .int (nI n)), (3, .ref o), (2, .ref m), (1, .ref x), (0, .ref b)] []) : G E room_1 D cy 7 (pM (pM P Q) O) cs sl 225 [(4, .int (nI n)), (3, .ref o), (2, .ref m), (1, .ref x), (0, .ref b)] [] := by
  obtain ⟨I, A, M, W0, T0, ho⟩ := J
  refine g_aload_n C dW_225 rfl 3 rfl ?_
  refine g_rd C X 4 0 rfl rfl (iw_1 hn hL) dW_226 dW_227 dW_229 dW_230 dW_231 ?_
  refine g_rd C X 4 0 rfl rfl (iw_2 hn hL) dW_232 dW_233 dW_235 dW_236 dW_237 ?_
  refine g_rd C X 4 0 rfl rfl (iw_3 hn hL) dW_238 dW_239 dW_241 dW_242 dW_243 ?_
  refine g_callVI (rest := []) C mv_L_24 [.int (xs (n + 1)), .int (xs (n + 2)), .int (xs (n + 3))] (frI1 (frI1 (s_X11_page I A ))) (pM_1 (pM_1 A.1)) (pM_K1 (pM_1 A.1) (pM_K1 A.1 A.2)) rfl rfl (by decide) (Nat.le_of_ble_eq_true rfl) ⟨by rw [hrc]; omega, by rw [hrs]; omega⟩ dW_244 (fun r1 U1 h1 => ?_)
  obtain ⟨_, ⟨Z1, h1, rfl⟩, rfl⟩ := h1
  obtain ⟨I1, X1, h1⟩ := h1
  have A1 := X1.at A
  have T1 := T0.keep I A X1 (by decide)
  refine g_off (fun o2 => ?_)
  refine g_pop C dW_247 rfl ?_
  refine g_aload_n C dW_248 rfl 2 rfl ?_
  refine g_rd C X 4 0 rfl rfl (iw_1 hn hL) dW_249 dW_250 dW_252 dW_253 dW_254 ?_
  refine g_rd C X 4 0 rfl rfl (iw_2 hn hL) dW_255 dW_256 dW_258 dW_259 dW_260 ?_
  refine g_rd C X 4 0 rfl rfl (iw_3 hn hL) dW_261 dW_262 dW_264 dW_265 dW_266 ?_
  refine g_callVI (rest := []) C mv_L_28 [.int (xs (n + 1)), .int (xs (n + 2)), .int (xs (n + 3))] (frI1 (frI2 (s_X12_page M  W0))) (pM_1 (pM_2 M.2.1.1)) (pM_K1 (pM_2 M.2.1.1) (pM_K2 (o2 _ M.2.1.1) M.2.1.2)) rfl rfl (by decide) (Nat.le_of_ble_eq_true rfl) ⟨by rw [hrc]; omega, by rw [hrs]; omega⟩ dW_267 (fun r2 U2 h2 => ?_)
  obtain ⟨_, ⟨Z2, h2, rfl⟩, rfl⟩ := h2
  obtain ⟨M2, X2, W2, h2⟩ := h2
  have T2 := T1.kM X2 (by decide)
  refine g_pop C dW_270 rfl ?_
  refine g_goto C 1986 dW_271 (by decide) ?_
  exact kk _ _ _ _ _ ⟨I1, A1, M2, W2, T2, ho⟩ (by omega) (by omega)
set_option maxHeartbeats 4000000 in
set_option maxRecDepth 100000 in
theorem lc_2 {E : EV} {D : va_G} {cy : Nat → ClassId} {P Q O : PP} {x m o b n L cs sl : Nat} {xs : Nat → Int32} (C : Cx E D cy 7 code RL) (X : Lx E b L xs) (hn : n + 7 ≤ L) (hL : L ≤ 3584) (J : LJ P Q O x m o) (hc : cs + 100 ≤ 601024) (hs : sl + 700 ≤ 7293034) (kk : ∀ (P2 Q2 O2 : PP) (cs2 sl2 : Nat), LJ P2 Q2 O2 x m o → cs2 ≤ cs + 100 → sl2 ≤ sl + 700 → G E room_1 D cy 7 (pM (pM P2 Q2) O2) cs2 sl2 1986 [(4, .int (nI n)), (3, .ref o), (2, .ref m), (1, .ref x), (0, .ref b)] []) : G E room_1 D cy 7 (pM (pM P Q) O) cs sl 274 [(4, .int (nI n)), (3, .ref o), (2, .ref m), (1, .ref x), (0, .ref b)] [] := by
  obtain ⟨I, A, M, W0, T0, ho⟩ := J
  refine g_aload_n C dW_274 rfl 3 rfl ?_
  refine g_rd C X 4 0 rfl rfl (iw_1 hn hL) dW_275 dW_276 dW_278 dW_279 dW_280 ?_
  refine g_hi C dW_281 dW_282 dW_284 ?_
  refine g_rd C X 4 0 rfl rfl (iw_2 hn hL) dW_285 dW_286 dW_288 dW_289 dW_290 ?_
  refine g_lo C dW_291 dW_292 dW_295 dW_296 ?_
  refine g_rd C X 4 0 rfl rfl (iw_3 hn hL) dW_297 dW_298 dW_300 dW_301 dW_302 ?_
  refine g_hi C dW_303 dW_304 dW_306 ?_
  refine g_rd C X 4 0 rfl rfl (iw_4 hn hL) dW_307 dW_308 dW_310 dW_311 dW_312 ?_
  refine g_lo C dW_313 dW_314 dW_317 dW_318 ?_
  refine g_rd C X 4 0 rfl rfl (iw_5 hn hL) dW_319 dW_320 dW_322 dW_323 dW_324 ?_
  refine g_hi C dW_325 dW_326 dW_328 ?_
  refine g_rdb C X 4 0 rfl rfl (iw_b hn hL) dW_329 dW_330 dW_332 dW_334 dW_335 ?_
  refine g_lo C dW_336 dW_337 dW_340 dW_341 ?_
  refine g_callVI (rest := []) C mv_L_31 [.long (loL (hiL (xs (n + 1))) (xs (n + 2))), .long (loL (hiL (xs (n + 3))) (xs (n + 4))), .long (loL (hiL (xs (n + 5))) (xs (n + 6)))] (frI1 (frI1 (s_X11_feed_E I A ))) (pM_1 (pM_1 A.1)) (pM_K1 (pM_1 A.1) (pM_K1 A.1 A.2)) rfl rfl (by decide) (Nat.le_of_ble_eq_true rfl) ⟨by rw [hrc]; omega, by rw [hrs]; omega⟩ dW_342 (fun r1 U1 h1 => ?_)
  obtain ⟨_, ⟨Z1, h1, rfl⟩, rfl⟩ := h1
  obtain ⟨I1, X1, h1⟩ := h1
  have A1 := X1.at A
  have T1 := h1.1 _ T0
  refine g_off (fun o2 => ?_)
  refine g_aload_n C dW_345 rfl 2 rfl ?_
  refine g_rd C X 4 0 rfl rfl (iw_1 hn hL) dW_346 dW_347 dW_349 dW_350 dW_351 ?_
  refine g_hi C dW_352 dW_353 dW_355 ?_
  refine g_rd C X 4 0 rfl rfl (iw_2 hn hL) dW_356 dW_357 dW_359 dW_360 dW_361 ?_
  refine g_lo C dW_362 dW_363 dW_366 dW_367 ?_
  refine g_rd C X 4 0 rfl rfl (iw_3 hn hL) dW_368 dW_369 dW_371 dW_372 dW_373 ?_
  refine g_hi C dW_374 dW_375 dW_377 ?_
  refine g_rd C X 4 0 rfl rfl (iw_4 hn hL) dW_378 dW_379 dW_381 dW_382 dW_383 ?_
  refine g_lo C dW_384 dW_385 dW_388 dW_389 ?_
  refine g_rd C X 4 0 rfl rfl (iw_5 hn hL) dW_390 dW_391 dW_393 dW_394 dW_395 ?_
  refine g_hi C dW_396 dW_397 dW_399 ?_
  refine g_rdb C X 4 0 rfl rfl (iw_b hn hL) dW_400 dW_401 dW_403 dW_405 dW_406 ?_
  refine g_lo C dW_407 dW_408 dW_411 dW_412 ?_
  refine g_callVI (rest := [.int r1]) C mv_L_35 [.long (loL (hiL (xs (n + 1))) (xs (n + 2))), .long (loL (hiL (xs (n + 3))) (xs (n + 4))), .long (loL (hiL (xs (n + 5))) (xs (n + 6)))] (frI1 (frI2 (s_X12_feed_E M  W0))) (pM_1 (pM_2 M.2.1.1)) (pM_K1 (pM_2 M.2.1.1) (pM_K2 (o2 _ M.2.1.1) M.2.1.2)) rfl rfl (by decide) (Nat.le_of_ble_eq_true rfl) ⟨by rw [hrc]; omega, by rw [hrs]; omega⟩ dW_413 (fun r2 U2 h2 => ?_)
  obtain ⟨_, ⟨Z2, h2, rfl⟩, rfl⟩ := h2
  obtain ⟨M2, X2, W2, h2⟩ := h2
  have e8 : r1.toInt = r2.toInt := by rw [T1.2, h2.1.1, cz_eq, cz_eq, cz_eq]
  have T2 := T1.1.cast (h2.1.2.trans e8.symm)
  have e9 : r1 = r2 := Int32.toInt_inj.mp e8
  exact b_icmp_eq C 1986 dW_416 (by decide) (fun _ => kk _ _ _ _ _ ⟨I1, A1, M2, W2, T2, ho⟩ (by omega) (by omega)) (fun h => absurd e9 h)
set_option maxHeartbeats 4000000 in
set_option maxRecDepth 100000 in
theorem lc_3 {E : EV} {D : va_G} {cy : Nat → ClassId} {P Q O : PP} {x m o b n L cs sl : Nat} {xs : Nat → Int32} (C : Cx E D cy 7 code RL) (X : Lx E b L xs) (hn : n + 7 ≤ L) (hL : L ≤ 3584) (J : LJ P Q O x m o) (hc : cs + 100 ≤ 601024) (hs : sl + 700 ≤ 7293034) (kk : ∀ (P2 Q2 O2 : PP) (cs2 sl2 : Nat), LJ P2 Q2 O2 x m o → cs2 ≤ cs + 100 → sl2 ≤ sl + 700 → G E room_1 D cy 7 (pM (pM P2 Q2) O2) cs2 sl2 1986 [(4, .int (nI n)), (3, .ref o), (2, .ref m), (1, .ref x), (0, .ref b)] []) : G E room_1 D cy 7 (pM (pM P Q) O) cs sl 421 [(4, .int (nI n)), (3, .ref o), (2, .ref m), (1, .ref x), (0, .ref b)] [] := by
  obtain ⟨I, A, M, W0, T0, ho⟩ := J
  refine g_aload_n C dW_421 rfl 3 rfl ?_
  refine g_rd C X 4 0 rfl rfl (iw_1 hn hL) dW_422 dW_423 dW_425 dW_426 dW_427 ?_
  refine g_callVI (rest := []) C mv_L_36 [.int (xs (n + 1))] (frI1 (frI1 (s_X11_draw_E I A ))) (pM_1 (pM_1 A.1)) (pM_K1 (pM_1 A.1) (pM_K1 A.1 A.2)) rfl rfl (by decide) (Nat.le_of_ble_eq_true rfl) ⟨by rw [hrc]; omega, by rw [hrs]; omega⟩ dW_428 (fun r1 U1 h1 => ?_)
  obtain ⟨_, ⟨Z1, h1, rfl⟩, rfl⟩ := h1
  obtain ⟨I1, X1, h1⟩ := h1
  have A1 := X1.at A
  have T1 := h1.1
  refine g_off (fun o2 => ?_)
  refine g_pop C dW_431 rfl ?_
  refine g_aload_n C dW_432 rfl 2 rfl ?_
  refine g_rd C X 4 0 rfl rfl (iw_1 hn hL) dW_433 dW_434 dW_436 dW_437 dW_438 ?_
  refine g_callVI (rest := []) C mv_L_40 [.int (xs (n + 1))] (frI1 (frI2 (s_X12_draw_E M  W0))) (pM_1 (pM_2 M.2.1.1)) (pM_K1 (pM_2 M.2.1.1) (pM_K2 (o2 _ M.2.1.1) M.2.1.2)) rfl rfl (by decide) (Nat.le_of_ble_eq_true rfl) ⟨by rw [hrc]; omega, by rw [hrs]; omega⟩ dW_439 (fun r2 U2 h2 => ?_)
  obtain ⟨_, ⟨Z2, h2, rfl⟩, rfl⟩ := h2
  obtain ⟨M2, X2, W2, h2⟩ := h2
  have T2 := T1.cast h2.1
  refine g_pop C dW_442 rfl ?_
  refine g_goto C 1986 dW_443 (by decide) ?_
  exact kk _ _ _ _ _ ⟨I1, A1, M2, W2, T2, ho⟩ (by omega) (by omega)
set_option maxHeartbeats 4000000 in
set_option maxRecDepth 100000 in
theorem lc_4 {E : EV} {D : va_G} {cy : Nat → ClassId} {P Q O : PP} {x m o b n L cs sl : Nat} {xs : Nat → Int32} (C : Cx E D cy 7 code RL) (X : Lx E b L xs) (hn : n + 7 ≤ L) (hL : L ≤ 3584) (J : LJ P Q O x m o) (hc : cs + 100 ≤ 601024) (hs : sl + 700 ≤ 7293034) (kk : ∀ (P2 Q2 O2 : PP) (cs2 sl2 : Nat), LJ P2 Q2 O2 x m o → cs2 ≤ cs + 100 → sl2 ≤ sl + 700 → G E room_1 D cy 7 (pM (pM P2 Q2) O2) cs2 sl2 1986 [(4, .int (nI n)), (3, .ref o), (2, .ref m), (1, .ref x), (0, .ref b)] []) : G E room_1 D cy 7 (pM (pM P Q) O) cs sl 446 [(4, .int (nI n)), (3, .ref o), (2, .ref m), (1, .ref x), (0, .ref b)] [] := by
  obtain ⟨I, A, M, W0, T0, ho⟩ := J
  refine g_aload_n C dW_446 rfl 3 rfl ?_
  refine g_rd C X 4 0 rfl rfl (iw_1 hn hL) dW_447 dW_448 dW_450 dW_451 dW_452 ?_
  refine g_rd C X 4 0 rfl rfl (iw_2 hn hL) dW_453 dW_454 dW_456 dW_457 dW_458 ?_
  refine g_rd C X 4 0 rfl rfl (iw_3 hn hL) dW_459 dW_460 dW_462 dW_463 dW_464 ?_
  refine g_callVI (rest := []) C mv_L_41 [.int (xs (n + 1)), .int (xs (n + 2)), .int (xs (n + 3))] (frI1 (frI1 (s_X11_leaflet I A ))) (pM_1 (pM_1 A.1)) (pM_K1 (pM_1 A.1) (pM_K1 A.1 A.2)) rfl rfl (by decide) (Nat.le_of_ble_eq_true rfl) ⟨by rw [hrc]; omega, by rw [hrs]; omega⟩ dW_465 (fun r1 U1 h1 => ?_)
  obtain ⟨_, ⟨Z1, h1, rfl⟩, rfl⟩ := h1
  obtain ⟨I1, X1, h1⟩ := h1
  have A1 := X1.at A
  have T1 := T0.keep I A X1 (by decide)
  refine g_off (fun o2 => ?_)
  refine g_pop C dW_468 rfl ?_
  refine g_aload_n C dW_469 rfl 2 rfl ?_
  refine g_rd C X 4 0 rfl rfl (iw_1 hn hL) dW_470 dW_471 dW_473 dW_474 dW_475 ?_
  refine g_rd C X 4 0 rfl rfl (iw_2 hn hL) dW_476 dW_477 dW_479 dW_480 dW_481 ?_
  refine g_rd C X 4 0 rfl rfl (iw_3 hn hL) dW_482 dW_483 dW_485 dW_486 dW_487 ?_
  refine g_callVI (rest := []) C mv_L_44 [.int (xs (n + 1)), .int (xs (n + 2)), .int (xs (n + 3))] (frI1 (frI2 (s_X12_leaflet M  W0))) (pM_1 (pM_2 M.2.1.1)) (pM_K1 (pM_2 M.2.1.1) (pM_K2 (o2 _ M.2.1.1) M.2.1.2)) rfl rfl (by decide) (Nat.le_of_ble_eq_true rfl) ⟨by rw [hrc]; omega, by rw [hrs]; omega⟩ dW_488 (fun r2 U2 h2 => ?_)
  obtain ⟨_, ⟨Z2, h2, rfl⟩, rfl⟩ := h2
  obtain ⟨M2, X2, W2, h2⟩ := h2
  have T2 := T1.kM X2 (by decide)
  refine g_pop C dW_491 rfl ?_
  refine g_goto C 1986 dW_492 (by decide) ?_
  exact kk _ _ _ _ _ ⟨I1, A1, M2, W2, T2, ho⟩ (by omega) (by omega)
set_option maxHeartbeats 4000000 in
set_option maxRecDepth 100000 in
theorem lc_5 {E : EV} {D : va_G} {cy : Nat → ClassId} {P Q O : PP} {x m o b n L cs sl : Nat} {xs : Nat → Int32} (C : Cx E D cy 7 code RL) (X : Lx E b L xs) (hn : n + 7 ≤ L) (hL : L ≤ 3584) (J : LJ P Q O x m o) (hc : cs + 100 ≤ 601024) (hs : sl + 700 ≤ 7293034) (kk : ∀ (P2 Q2 O2 : PP) (cs2 sl2 : Nat), LJ P2 Q2 O2 x m o → cs2 ≤ cs + 100 → sl2 ≤ sl + 700 → G E room_1 D cy 7 (pM (pM P2 Q2) O2) cs2 sl2 1986 [(4, .int (nI n)), (3, .ref o), (2, .ref m), (1, .ref x), (0, .ref b)] []) : G E room_1 D cy 7 (pM (pM P Q) O) cs sl 495 [(4, .int (nI n)), (3, .ref o), (2, .ref m), (1, .ref x), (0, .ref b)] [] := by
  obtain ⟨I, A, M, W0, T0, ho⟩ := J
  refine g_aload_n C dW_495 rfl 3 rfl ?_
  refine g_rd C X 4 0 rfl rfl (iw_1 hn hL) dW_496 dW_497 dW_499 dW_500 dW_501 ?_
  refine g_rd C X 4 0 rfl rfl (iw_2 hn hL) dW_502 dW_503 dW_505 dW_506 dW_507 ?_
  refine g_callVI (rest := []) C mv_L_45 [.int (xs (n + 1)), .int (xs (n + 2))] (frI1 (frI1 (s_X11_told I A ))) (pM_1 (pM_1 A.1)) (pM_K1 (pM_1 A.1) (pM_K1 A.1 A.2)) rfl rfl (by decide) (Nat.le_of_ble_eq_true rfl) ⟨by rw [hrc]; omega, by rw [hrs]; omega⟩ dW_508 (fun r1 U1 h1 => ?_)
  obtain ⟨_, ⟨Z1, h1, rfl⟩, rfl⟩ := h1
  obtain ⟨rfl, h1⟩ := h1
  refine g_off (fun o2 => ?_)
  refine g_pop C dW_511 rfl ?_
  refine g_aload_n C dW_512 rfl 2 rfl ?_
  refine g_rd C X 4 0 rfl rfl (iw_1 hn hL) dW_513 dW_514 dW_516 dW_517 dW_518 ?_
  refine g_rd C X 4 0 rfl rfl (iw_2 hn hL) dW_519 dW_520 dW_522 dW_523 dW_524 ?_
  refine g_callVI (rest := []) C mv_L_49 [.int (xs (n + 1)), .int (xs (n + 2))] (frI1 (frI2 (s_X12_told M  W0))) (pM_1 (pM_2 M.2.1.1)) (pM_K1 (pM_2 M.2.1.1) (pM_K2 (o2 _ M.2.1.1) M.2.1.2)) rfl rfl (by decide) (Nat.le_of_ble_eq_true rfl) ⟨by rw [hrc]; omega, by rw [hrs]; omega⟩ dW_525 (fun r2 U2 h2 => ?_)
  obtain ⟨_, ⟨Z2, h2, rfl⟩, rfl⟩ := h2
  obtain ⟨M2, X2, W2, h2⟩ := h2
  have T2 := T0.kM X2 (by decide)
  refine g_pop C dW_528 rfl ?_
  refine g_goto C 1986 dW_529 (by decide) ?_
  exact kk _ _ _ _ _ ⟨I, A, M2, W2, T2, ho⟩ (by omega) (by omega)
set_option maxHeartbeats 4000000 in
set_option maxRecDepth 100000 in
theorem lc_6 {E : EV} {D : va_G} {cy : Nat → ClassId} {P Q O : PP} {x m o b n L cs sl : Nat} {xs : Nat → Int32} (C : Cx E D cy 7 code RL) (X : Lx E b L xs) (hn : n + 7 ≤ L) (hL : L ≤ 3584) (J : LJ P Q O x m o) (hc : cs + 100 ≤ 601024) (hs : sl + 700 ≤ 7293034) (kk : ∀ (P2 Q2 O2 : PP) (cs2 sl2 : Nat), LJ P2 Q2 O2 x m o → cs2 ≤ cs + 100 → sl2 ≤ sl + 700 → G E room_1 D cy 7 (pM (pM P2 Q2) O2) cs2 sl2 1986 [(4, .int (nI n)), (3, .ref o), (2, .ref m), (1, .ref x), (0, .ref b)] []) : G E room_1 D cy 7 (pM (pM P Q) O) cs sl 532 [(4, .int (nI n)), (3, .ref o), (2, .ref m), (1, .ref x), (0, .ref b)] [] := by
  obtain ⟨I, A, M, W0, T0, ho⟩ := J
  refine g_aload_n C dW_532 rfl 3 rfl ?_
  refine g_rd C X 4 0 rfl rfl (iw_1 hn hL) dW_533 dW_534 dW_536 dW_537 dW_538 ?_
  refine g_rd C X 4 0 rfl rfl (iw_2 hn hL) dW_539 dW_540 dW_542 dW_543 dW_544 ?_
  refine g_rd C X 4 0 rfl rfl (iw_3 hn hL) dW_545 dW_546 dW_548 dW_549 dW_550 ?_
  refine g_rd C X 4 0 rfl rfl (iw_4 hn hL) dW_551 dW_552 dW_554 dW_555 dW_556 ?_
  refine g_callVI (rest := []) C mv_L_50 [.int (xs (n + 1)), .int (xs (n + 2)), .int (xs (n + 3)), .int (xs (n + 4))] (frI1 (frI1 (s_X11_comes I A ))) (pM_1 (pM_1 A.1)) (pM_K1 (pM_1 A.1) (pM_K1 A.1 A.2)) rfl rfl (by decide) (Nat.le_of_ble_eq_true rfl) ⟨by rw [hrc]; omega, by rw [hrs]; omega⟩ dW_557 (fun r1 U1 h1 => ?_)
  obtain ⟨_, ⟨Z1, h1, rfl⟩, rfl⟩ := h1
  obtain ⟨I1, X1, h1⟩ := h1
  have A1 := X1.at A
  have T1 := T0.keep I A X1 (by decide)
  refine g_off (fun o2 => ?_)
  refine g_pop C dW_560 rfl ?_
  refine g_aload_n C dW_561 rfl 2 rfl ?_
  refine g_rd C X 4 0 rfl rfl (iw_1 hn hL) dW_562 dW_563 dW_565 dW_566 dW_567 ?_
  refine g_rd C X 4 0 rfl rfl (iw_2 hn hL) dW_568 dW_569 dW_571 dW_572 dW_573 ?_
  refine g_rd C X 4 0 rfl rfl (iw_3 hn hL) dW_574 dW_575 dW_577 dW_578 dW_579 ?_
  refine g_rd C X 4 0 rfl rfl (iw_4 hn hL) dW_580 dW_581 dW_583 dW_584 dW_585 ?_
  refine g_callVI (rest := []) C mv_L_54 [.int (xs (n + 1)), .int (xs (n + 2)), .int (xs (n + 3)), .int (xs (n + 4))] (frI1 (frI2 (s_X12_comes M  W0))) (pM_1 (pM_2 M.2.1.1)) (pM_K1 (pM_2 M.2.1.1) (pM_K2 (o2 _ M.2.1.1) M.2.1.2)) rfl rfl (by decide) (Nat.le_of_ble_eq_true rfl) ⟨by rw [hrc]; omega, by rw [hrs]; omega⟩ dW_586 (fun r2 U2 h2 => ?_)
  obtain ⟨_, ⟨Z2, h2, rfl⟩, rfl⟩ := h2
  obtain ⟨M2, X2, W2, h2⟩ := h2
  have T2 := T1.kM X2 (by decide)
  refine g_pop C dW_589 rfl ?_
  refine g_goto C 1986 dW_590 (by decide) ?_
  exact kk _ _ _ _ _ ⟨I1, A1, M2, W2, T2, ho⟩ (by omega) (by omega)
set_option maxHeartbeats 4000000 in
set_option maxRecDepth 100000 in
theorem lc_7 {E : EV} {D : va_G} {cy : Nat → ClassId} {P Q O : PP} {x m o b n L cs sl : Nat} {xs : Nat → Int32} (C : Cx E D cy 7 code RL) (X : Lx E b L xs) (hn : n + 7 ≤ L) (hL : L ≤ 3584) (J : LJ P Q O x m o) (hc : cs + 100 ≤ 601024) (hs : sl + 700 ≤ 7293034) (kk : ∀ (P2 Q2 O2 : PP) (cs2 sl2 : Nat), LJ P2 Q2 O2 x m o → cs2 ≤ cs + 100 → sl2 ≤ sl + 700 → G E room_1 D cy 7 (pM (pM P2 Q2) O2) cs2 sl2 1986 [(4, .int (nI n)), (3, .ref o), (2, .ref m), (1, .ref x), (0, .ref b)] []) : G E room_1 D cy 7 (pM (pM P Q) O) cs sl 593 [(4, .int (nI n)), (3, .ref o), (2, .ref m), (1, .ref x), (0, .ref b)] [] := by
  obtain ⟨I, A, M, W0, T0, ho⟩ := J
  refine g_aload_n C dW_593 rfl 3 rfl ?_
  refine g_rd C X 4 0 rfl rfl (iw_1 hn hL) dW_594 dW_595 dW_597 dW_598 dW_599 ?_
  refine g_rd C X 4 0 rfl rfl (iw_2 hn hL) dW_600 dW_601 dW_603 dW_604 dW_605 ?_
  refine g_rd C X 4 0 rfl rfl (iw_3 hn hL) dW_606 dW_607 dW_609 dW_610 dW_611 ?_
  refine g_rd C X 4 0 rfl rfl (iw_4 hn hL) dW_612 dW_613 dW_615 dW_616 dW_617 ?_
  refine g_callVI (rest := []) C mv_L_55 [.int (xs (n + 1)), .int (xs (n + 2)), .int (xs (n + 3)), .int (xs (n + 4))] (frI1 (frI1 (s_X11_slip I A ))) (pM_1 (pM_1 A.1)) (pM_K1 (pM_1 A.1) (pM_K1 A.1 A.2)) rfl rfl (by decide) (Nat.le_of_ble_eq_true rfl) ⟨by rw [hrc]; omega, by rw [hrs]; omega⟩ dW_618 (fun r1 U1 h1 => ?_)
  obtain ⟨_, ⟨Z1, h1, rfl⟩, rfl⟩ := h1
  obtain ⟨I1, X1, h1⟩ := h1
  have A1 := X1.at A
  have T1 := T0.keep I A X1 (by decide)
  refine g_off (fun o2 => ?_)
  refine g_pop C dW_621 rfl ?_
  refine g_aload_n C dW_622 rfl 2 rfl ?_
  refine g_rd C X 4 0 rfl rfl (iw_1 hn hL) dW_623 dW_624 dW_626 dW_627 dW_628 ?_
  refine g_rd C X 4 0 rfl rfl (iw_2 hn hL) dW_629 dW_630 dW_632 dW_633 dW_634 ?_
  refine g_rd C X 4 0 rfl rfl (iw_3 hn hL) dW_635 dW_636 dW_638 dW_639 dW_640 ?_
  refine g_rd C X 4 0 rfl rfl (iw_4 hn hL) dW_641 dW_642 dW_644 dW_645 dW_646 ?_
  refine g_callVI (rest := []) C mv_L_58 [.int (xs (n + 1)), .int (xs (n + 2)), .int (xs (n + 3)), .int (xs (n + 4))] (frI1 (frI2 (s_X12_slip M  W0))) (pM_1 (pM_2 M.2.1.1)) (pM_K1 (pM_2 M.2.1.1) (pM_K2 (o2 _ M.2.1.1) M.2.1.2)) rfl rfl (by decide) (Nat.le_of_ble_eq_true rfl) ⟨by rw [hrc]; omega, by rw [hrs]; omega⟩ dW_647 (fun r2 U2 h2 => ?_)
  obtain ⟨_, ⟨Z2, h2, rfl⟩, rfl⟩ := h2
  obtain ⟨M2, X2, W2, h2⟩ := h2
  have T2 := T1.kM X2 (by decide)
  refine g_pop C dW_650 rfl ?_
  refine g_goto C 1986 dW_651 (by decide) ?_
  exact kk _ _ _ _ _ ⟨I1, A1, M2, W2, T2, ho⟩ (by omega) (by omega)
set_option maxHeartbeats 4000000 in
set_option maxRecDepth 100000 in
theorem lc_8 {E : EV} {D : va_G} {cy : Nat → ClassId} {P Q O : PP} {x m o b n L cs sl : Nat} {xs : Nat → Int32} (C : Cx E D cy 7 code RL) (X : Lx E b L xs) (hn : n + 7 ≤ L) (hL : L ≤ 3584) (J : LJ P Q O x m o) (hc : cs + 100 ≤ 601024) (hs : sl + 700 ≤ 7293034) (kk : ∀ (P2 Q2 O2 : PP) (cs2 sl2 : Nat), LJ P2 Q2 O2 x m o → cs2 ≤ cs + 100 → sl2 ≤ sl + 700 → G E room_1 D cy 7 (pM (pM P2 Q2) O2) cs2 sl2 1986 [(4, .int (nI n)), (3, .ref o), (2, .ref m), (1, .ref x), (0, .ref b)] []) : G E room_1 D cy 7 (pM (pM P Q) O) cs sl 654 [(4, .int (nI n)), (3, .ref o), (2, .ref m), (1, .ref x), (0, .ref b)] [] := by
  obtain ⟨I, A, M, W0, T0, ho⟩ := J
  refine g_aload_n C dW_654 rfl 3 rfl ?_
  refine g_rd C X 4 0 rfl rfl (iw_1 hn hL) dW_655 dW_656 dW_658 dW_659 dW_660 ?_
  refine g_rd C X 4 0 rfl rfl (iw_2 hn hL) dW_661 dW_662 dW_664 dW_665 dW_666 ?_
  refine g_rd C X 4 0 rfl rfl (iw_3 hn hL) dW_667 dW_668 dW_670 dW_671 dW_672 ?_
  refine g_rd C X 4 0 rfl rfl (iw_4 hn hL) dW_673 dW_674 dW_676 dW_677 dW_678 ?_
  refine g_rd C X 4 0 rfl rfl (iw_5 hn hL) dW_679 dW_680 dW_682 dW_683 dW_684 ?_
  refine g_callVI (rest := []) C mv_L_59 [.int (xs (n + 1)), .int (xs (n + 2)), .int (xs (n + 3)), .int (xs (n + 4)), .int (xs (n + 5))] (frI1 (frI1 (s_X11_forged I A ))) (pM_1 (pM_1 A.1)) (pM_K1 (pM_1 A.1) (pM_K1 A.1 A.2)) rfl rfl (by decide) (Nat.le_of_ble_eq_true rfl) ⟨by rw [hrc]; omega, by rw [hrs]; omega⟩ dW_685 (fun r1 U1 h1 => ?_)
  obtain ⟨_, ⟨Z1, h1, rfl⟩, rfl⟩ := h1
  obtain ⟨I1, X1, h1⟩ := h1
  have A1 := X1.at A
  have T1 := T0.keep I A X1 (by decide)
  refine g_off (fun o2 => ?_)
  refine g_pop C dW_688 rfl ?_
  refine g_aload_n C dW_689 rfl 2 rfl ?_
  refine g_rd C X 4 0 rfl rfl (iw_1 hn hL) dW_690 dW_691 dW_693 dW_694 dW_695 ?_
  refine g_rd C X 4 0 rfl rfl (iw_2 hn hL) dW_696 dW_697 dW_699 dW_700 dW_701 ?_
  refine g_rd C X 4 0 rfl rfl (iw_3 hn hL) dW_702 dW_703 dW_705 dW_706 dW_707 ?_
  refine g_rd C X 4 0 rfl rfl (iw_4 hn hL) dW_708 dW_709 dW_711 dW_712 dW_713 ?_
  refine g_rd C X 4 0 rfl rfl (iw_5 hn hL) dW_714 dW_715 dW_717 dW_718 dW_719 ?_
  refine g_callVI (rest := []) C mv_L_63 [.int (xs (n + 1)), .int (xs (n + 2)), .int (xs (n + 3)), .int (xs (n + 4)), .int (xs (n + 5))] (frI1 (frI2 (s_X12_forged M  W0))) (pM_1 (pM_2 M.2.1.1)) (pM_K1 (pM_2 M.2.1.1) (pM_K2 (o2 _ M.2.1.1) M.2.1.2)) rfl rfl (by decide) (Nat.le_of_ble_eq_true rfl) ⟨by rw [hrc]; omega, by rw [hrs]; omega⟩ dW_720 (fun r2 U2 h2 => ?_)
  obtain ⟨_, ⟨Z2, h2, rfl⟩, rfl⟩ := h2
  obtain ⟨M2, X2, W2, h2⟩ := h2
  have T2 := T1.kM X2 (by decide)
  refine g_pop C dW_723 rfl ?_
  refine g_goto C 1986 dW_724 (by decide) ?_
  exact kk _ _ _ _ _ ⟨I1, A1, M2, W2, T2, ho⟩ (by omega) (by omega)
set_option maxHeartbeats 4000000 in
set_option maxRecDepth 100000 in
theorem lc_9 {E : EV} {D : va_G} {cy : Nat → ClassId} {P Q O : PP} {x m o b n L cs sl : Nat} {xs : Nat → Int32} (C : Cx E D cy 7 code RL) (X : Lx E b L xs) (hn : n + 7 ≤ L) (hL : L ≤ 3584) (J : LJ P Q O x m o) (hc : cs + 100 ≤ 601024) (hs : sl + 700 ≤ 7293034) (kk : ∀ (P2 Q2 O2 : PP) (cs2 sl2 : Nat), LJ P2 Q2 O2 x m o → cs2 ≤ cs + 100 → sl2 ≤ sl + 700 → G E room_1 D cy 7 (pM (pM P2 Q2) O2) cs2 sl2 1986 [(4, .int (nI n)), (3, .ref o), (2, .ref m), (1, .ref x), (0, .ref b)] []) : G E room_1 D cy 7 (pM (pM P Q) O) cs sl 727 [(4, .int (nI n)), (3, .ref o), (2, .ref m), (1, .ref x), (0, .ref b)] [] := by
  obtain ⟨I, A, M, W0, T0, ho⟩ := J
  refine g_aload_n C dW_727 rfl 3 rfl ?_
  refine g_rd C X 4 0 rfl rfl (iw_1 hn hL) dW_728 dW_729 dW_731 dW_732 dW_733 ?_
  refine g_rd C X 4 0 rfl rfl (iw_2 hn hL) dW_734 dW_735 dW_737 dW_738 dW_739 ?_
  refine g_rd C X 4 0 rfl rfl (iw_3 hn hL) dW_740 dW_741 dW_743 dW_744 dW_745 ?_
  refine g_callVI (rest := []) C mv_L_64 [.int (xs (n + 1)), .int (xs (n + 2)), .int (xs (n + 3))] (frI1 (frI1 (s_X11_nameless I A ))) (pM_1 (pM_1 A.1)) (pM_K1 (pM_1 A.1) (pM_K1 A.1 A.2)) rfl rfl (by decide) (Nat.le_of_ble_eq_true rfl) ⟨by rw [hrc]; omega, by rw [hrs]; omega⟩ dW_746 (fun r1 U1 h1 => ?_)
  obtain ⟨_, ⟨Z1, h1, rfl⟩, rfl⟩ := h1
  obtain ⟨I1, X1, h1⟩ := h1
  have A1 := X1.at A
  have T1 := T0.keep I A X1 (by decide)
  refine g_off (fun o2 => ?_)
  refine g_pop C dW_749 rfl ?_
  refine g_aload_n C dW_750 rfl 2 rfl ?_
  refine g_rd C X 4 0 rfl rfl (iw_1 hn hL) dW_751 dW_752 dW_754 dW_755 dW_756 ?_
  refine g_rd C X 4 0 rfl rfl (iw_2 hn hL) dW_757 dW_758 dW_760 dW_761 dW_762 ?_
  refine g_rd C X 4 0 rfl rfl (iw_3 hn hL) dW_763 dW_764 dW_766 dW_767 dW_768 ?_
  refine g_callVI (rest := []) C mv_L_67 [.int (xs (n + 1)), .int (xs (n + 2)), .int (xs (n + 3))] (frI1 (frI2 (s_X12_nameless M  W0))) (pM_1 (pM_2 M.2.1.1)) (pM_K1 (pM_2 M.2.1.1) (pM_K2 (o2 _ M.2.1.1) M.2.1.2)) rfl rfl (by decide) (Nat.le_of_ble_eq_true rfl) ⟨by rw [hrc]; omega, by rw [hrs]; omega⟩ dW_769 (fun r2 U2 h2 => ?_)
  obtain ⟨_, ⟨Z2, h2, rfl⟩, rfl⟩ := h2
  obtain ⟨M2, X2, W2, h2⟩ := h2
  have T2 := T1.kM X2 (by decide)
  refine g_pop C dW_772 rfl ?_
  refine g_goto C 1986 dW_773 (by decide) ?_
  exact kk _ _ _ _ _ ⟨I1, A1, M2, W2, T2, ho⟩ (by omega) (by omega)
set_option maxHeartbeats 4000000 in
set_option maxRecDepth 100000 in
theorem lc_10 {E : EV} {D : va_G} {cy : Nat → ClassId} {P Q O : PP} {x m o b n L cs sl : Nat} {xs : Nat → Int32} (C : Cx E D cy 7 code RL) (X : Lx E b L xs) (hn : n + 7 ≤ L) (hL : L ≤ 3584) (J : LJ P Q O x m o) (hc : cs + 100 ≤ 601024) (hs : sl + 700 ≤ 7293034) (Xe : Xt E) (kk : ∀ (P2 Q2 O2 : PP) (cs2 sl2 : Nat), LJ P2 Q2 O2 x m o → cs2 ≤ cs + 100 → sl2 ≤ sl + 700 → G E room_1 D cy 7 (pM (pM P2 Q2) O2) cs2 sl2 1986 [(4, .int (nI n)), (3, .ref o), (2, .ref m), (1, .ref x), (0, .ref b)] []) : G E room_1 D cy 7 (pM (pM P Q) O) cs sl 776 [(4, .int (nI n)), (3, .ref o), (2, .ref m), (1, .ref x), (0, .ref b)] [] := by
  obtain ⟨I, A, M, W0, T0, ho⟩ := J
  refine g_aload_n C dW_776 rfl 3 rfl ?_
  refine g_rd C X 4 0 rfl rfl (iw_1 hn hL) dW_777 dW_778 dW_780 dW_781 dW_782 ?_
  refine g_rd C X 4 0 rfl rfl (iw_2 hn hL) dW_783 dW_784 dW_786 dW_787 dW_788 ?_
  refine g_rd C X 4 0 rfl rfl (iw_3 hn hL) dW_789 dW_790 dW_792 dW_793 dW_794 ?_
  refine g_aload_n C dW_795 rfl 1 rfl ?_
  refine g_callPaper (rest := []) (Kp := fun q => At P q 7 ∧ (0 ≤ (xs (n + 1)).toInt ∧ (xs (n + 1)).toInt ≤ 3)) (Zp := fun U => ∃ P2, (IV P2 ∧ At P2 x 11 ∧ TL P2 x (pI Q m 2).toInt) ∧ U = pM (pM P2 Q) O) C Xe (pM_1 (pM_1 A.1)) (pM_K1 (pM_1 A.1) (pM_K1 A.1 A.2)) ⟨P, ⟨I, A, T0⟩, rfl⟩ (fun q h => ⟨pM_1 (pM_1 h.1.1), pM_K1 (pM_1 h.1.1) (pM_K1 h.1.1 h.1.2)⟩) ?_ ?_ ?_ rfl (by decide) (Nat.le_of_ble_eq_true rfl) ⟨by rw [hrc]; omega, by rw [hrs]; omega⟩ dW_796 (fun r1 U1 h1 => ?_)
  · exact CtrQ.imp (frQ1 (frQ1 (s_X11_paperAt I A))) (fun r U h => by
      obtain ⟨_, ⟨P2, ⟨h1, h2⟩, rfl⟩, rfl⟩ := h
      subst h1
      refine ⟨rfl, h2.imp id ?_⟩
      rintro ⟨q, e, h3, h4, h5⟩
      exact ⟨q, e, h3, h4⟩)
  · intro q hk hne
    have hr := I.rg hk.1 0 rfl
    rw [pM_I1 (pM_1 hk.1.1), pM_I1 hk.1.1] at hne
    have hne2 : (pI P q 0).toInt ≠ -1 := fun h => hne (Int32.toInt_inj.mp h)
    exact CtrI.imp (frI1 (frI1 (s_X11_unknownPages I A hk.2 hk.1 (by omega)))) (fun r U h => by
      obtain ⟨_, ⟨P2, ⟨h1, h2, -⟩, rfl⟩, rfl⟩ := h
      exact ⟨P2, ⟨h1, h2.at A, T0.keep I A h2 (by decide)⟩, rfl⟩)
  · intro cy2 A2 U hD hU
    obtain ⟨P2, -, rfl⟩ := hU
    have hno := pM_off hD o ho.1
    exact ⟨pM_2 ho.1, pM_K2 hno ho.2.1, pM_N2 hno ho.2.2⟩
  suffices hs9 : ∀ (P1 O1 : PP), IV P1 → At P1 x 11 → TL P1 x (pI Q m 2).toInt → (o ∈ pL O1 ∧ pK O1 o = 14 ∧ pN O1 o = 1) → G E room_1 D cy 7 (pM (pM P1 Q) O1) (cs + 1) (sl + 6) 799 [(4, .int (nI n)), (3, .ref o), (2, .ref m), (1, .ref x), (0, .ref b)] [.int r1] by
    rcases h1 with rfl | ⟨P9, v9, ⟨P1, ⟨i1, a1, t1⟩, rfl⟩, rfl⟩
    · exact hs9 P O I A T0 ho
    · exact g_sjO ho.1 (hs9 P1 (pSJ O o 0 v9) i1 a1 t1 ⟨ho.1, ho.2.1, ho.2.2⟩)
  intro P1 O1 I1 A1 T1 ho1
  refine g_off (fun o2 => ?_)
  refine g_istore (lv' := (5, .int r1) :: [(4, .int (nI n)), (3, .ref o), (2, .ref m), (1, .ref x), (0, .ref b)]) C dW_799 (by decide) rfl ?_
  refine g_aload_n C dW_801 rfl 3 rfl ?_
  refine g_rd C X 5 1 rfl rfl (iw_1 hn hL) dW_802 dW_803 dW_805 dW_806 dW_807 ?_
  refine g_rd C X 5 1 rfl rfl (iw_2 hn hL) dW_808 dW_809 dW_811 dW_812 dW_813 ?_
  refine g_rd C X 5 1 rfl rfl (iw_3 hn hL) dW_814 dW_815 dW_817 dW_818 dW_819 ?_
  refine g_callVI (rest := []) C mv_L_73 [.int (xs (n + 1)), .int (xs (n + 2)), .int (xs (n + 3))] (frI1 (frI2 (s_X12_paper M  W0))) (pM_1 (pM_2 M.2.1.1)) (pM_K1 (pM_2 M.2.1.1) (pM_K2 (o2 _ M.2.1.1) M.2.1.2)) rfl rfl (by decide) (Nat.le_of_ble_eq_true rfl) ⟨by rw [hrc]; omega, by rw [hrs]; omega⟩ dW_820 (fun r2 U2 h2 => ?_)
  obtain ⟨_, ⟨Z2, h2, rfl⟩, rfl⟩ := h2
  obtain ⟨M2, X2, W2, h2⟩ := h2
  have T2 := T1.kM X2 (by decide)
  refine g_istore (lv' := (6, .int r2) :: (5, .int r1) :: [(4, .int (nI n)), (3, .ref o), (2, .ref m), (1, .ref x), (0, .ref b)]) C dW_823 (by decide) rfl ?_
  refine g_goto C 1986 dW_825 (by decide) ?_
  refine g_lv (lv' := [(4, .int (nI n)), (3, .ref o), (2, .ref m), (1, .ref x), (0, .ref b)]) [2, 3, 4, 5, 6] rfl ?_
  exact kk _ _ _ _ _ ⟨I1, A1, M2, W2, T2, ho1⟩ (by omega) (by omega)
set_option maxHeartbeats 4000000 in
set_option maxRecDepth 100000 in
theorem lc_11 {E : EV} {D : va_G} {cy : Nat → ClassId} {P Q O : PP} {x m o b n L cs sl : Nat} {xs : Nat → Int32} (C : Cx E D cy 7 code RL) (X : Lx E b L xs) (hn : n + 7 ≤ L) (hL : L ≤ 3584) (J : LJ P Q O x m o) (hc : cs + 100 ≤ 601024) (hs : sl + 700 ≤ 7293034) (kk : ∀ (P2 Q2 O2 : PP) (cs2 sl2 : Nat), LJ P2 Q2 O2 x m o → cs2 ≤ cs + 100 → sl2 ≤ sl + 700 → G E room_1 D cy 7 (pM (pM P2 Q2) O2) cs2 sl2 1986 [(4, .int (nI n)), (3, .ref o), (2, .ref m), (1, .ref x), (0, .ref b)] []) : G E room_1 D cy 7 (pM (pM P Q) O) cs sl 828 [(4, .int (nI n)), (3, .ref o), (2, .ref m), (1, .ref x), (0, .ref b)] [] := by
  obtain ⟨I, A, M, W0, T0, ho⟩ := J
  refine g_aload_n C dW_828 rfl 3 rfl ?_
  refine g_rd C X 4 0 rfl rfl (iw_1 hn hL) dW_829 dW_830 dW_832 dW_833 dW_834 ?_
  refine g_rd C X 4 0 rfl rfl (iw_2 hn hL) dW_835 dW_836 dW_838 dW_839 dW_840 ?_
  refine g_callVI (rest := []) C mv_L_74 [.int (xs (n + 1)), .int (xs (n + 2))] (frI1 (frI1 (s_X11_away I A ))) (pM_1 (pM_1 A.1)) (pM_K1 (pM_1 A.1) (pM_K1 A.1 A.2)) rfl rfl (by decide) (Nat.le_of_ble_eq_true rfl) ⟨by rw [hrc]; omega, by rw [hrs]; omega⟩ dW_841 (fun r1 U1 h1 => ?_)
  obtain ⟨_, ⟨Z1, h1, rfl⟩, rfl⟩ := h1
  obtain ⟨I1, X1, h1⟩ := h1
  have A1 := X1.at A
  have T1 := T0.keep I A X1 (by decide)
  refine g_off (fun o2 => ?_)
  refine g_pop C dW_844 rfl ?_
  refine g_aload_n C dW_845 rfl 2 rfl ?_
  refine g_rd C X 4 0 rfl rfl (iw_1 hn hL) dW_846 dW_847 dW_849 dW_850 dW_851 ?_
  refine g_rd C X 4 0 rfl rfl (iw_2 hn hL) dW_852 dW_853 dW_855 dW_856 dW_857 ?_
  refine g_callVI (rest := []) C mv_L_77 [.int (xs (n + 1)), .int (xs (n + 2))] (frI1 (frI2 (s_X12_away M  W0))) (pM_1 (pM_2 M.2.1.1)) (pM_K1 (pM_2 M.2.1.1) (pM_K2 (o2 _ M.2.1.1) M.2.1.2)) rfl rfl (by decide) (Nat.le_of_ble_eq_true rfl) ⟨by rw [hrc]; omega, by rw [hrs]; omega⟩ dW_858 (fun r2 U2 h2 => ?_)
  obtain ⟨_, ⟨Z2, h2, rfl⟩, rfl⟩ := h2
  obtain ⟨M2, X2, W2, h2⟩ := h2
  have T2 := T1.kM X2 (by decide)
  refine g_pop C dW_861 rfl ?_
  refine g_goto C 1986 dW_862 (by decide) ?_
  exact kk _ _ _ _ _ ⟨I1, A1, M2, W2, T2, ho⟩ (by omega) (by omega)
set_option maxHeartbeats 4000000 in
set_option maxRecDepth 100000 in
theorem lc_12 {E : EV} {D : va_G} {cy : Nat → ClassId} {P Q O : PP} {x m o b n L cs sl : Nat} {xs : Nat → Int32} (C : Cx E D cy 7 code RL) (X : Lx E b L xs) (hn : n + 7 ≤ L) (hL : L ≤ 3584) (J : LJ P Q O x m o) (hc : cs + 100 ≤ 601024) (hs : sl + 700 ≤ 7293034) (kk : ∀ (P2 Q2 O2 : PP) (cs2 sl2 : Nat), LJ P2 Q2 O2 x m o → cs2 ≤ cs + 100 → sl2 ≤ sl + 700 → G E room_1 D cy 7 (pM (pM P2 Q2) O2) cs2 sl2 1986 [(4, .int (nI n)), (3, .ref o), (2, .ref m), (1, .ref x), (0, .ref b)] []) : G E room_1 D cy 7 (pM (pM P Q) O) cs sl 865 [(4, .int (nI n)), (3, .ref o), (2, .ref m), (1, .ref x), (0, .ref b)] [] := by
  obtain ⟨I, A, M, W0, T0, ho⟩ := J
  refine g_aload_n C dW_865 rfl 3 rfl ?_
  refine g_rd C X 4 0 rfl rfl (iw_1 hn hL) dW_866 dW_867 dW_869 dW_870 dW_871 ?_
  refine g_rd C X 4 0 rfl rfl (iw_2 hn hL) dW_872 dW_873 dW_875 dW_876 dW_877 ?_
  refine g_rd C X 4 0 rfl rfl (iw_3 hn hL) dW_878 dW_879 dW_881 dW_882 dW_883 ?_
  refine g_rd C X 4 0 rfl rfl (iw_4 hn hL) dW_884 dW_885 dW_887 dW_888 dW_889 ?_
  refine g_callVI (rest := []) C mv_L_78 [.int (xs (n + 1)), .int (xs (n + 2)), .int (xs (n + 3)), .int (xs (n + 4))] (frI1 (frI1 (s_X11_peels I A ))) (pM_1 (pM_1 A.1)) (pM_K1 (pM_1 A.1) (pM_K1 A.1 A.2)) rfl rfl (by decide) (Nat.le_of_ble_eq_true rfl) ⟨by rw [hrc]; omega, by rw [hrs]; omega⟩ dW_890 (fun r1 U1 h1 => ?_)
  obtain ⟨_, ⟨Z1, h1, rfl⟩, rfl⟩ := h1
  obtain ⟨I1, X1, h1⟩ := h1
  have A1 := X1.at A
  have T1 := T0.keep I A X1 (by decide)
  refine g_off (fun o2 => ?_)
  refine g_pop C dW_893 rfl ?_
  refine g_aload_n C dW_894 rfl 2 rfl ?_
  refine g_rd C X 4 0 rfl rfl (iw_1 hn hL) dW_895 dW_896 dW_898 dW_899 dW_900 ?_
  refine g_rd C X 4 0 rfl rfl (iw_2 hn hL) dW_901 dW_902 dW_904 dW_905 dW_906 ?_
  refine g_rd C X 4 0 rfl rfl (iw_3 hn hL) dW_907 dW_908 dW_910 dW_911 dW_912 ?_
  refine g_rd C X 4 0 rfl rfl (iw_4 hn hL) dW_913 dW_914 dW_916 dW_917 dW_918 ?_
  refine g_callVI (rest := []) C mv_L_81 [.int (xs (n + 1)), .int (xs (n + 2)), .int (xs (n + 3)), .int (xs (n + 4))] (frI1 (frI2 (s_X12_peels M  W0))) (pM_1 (pM_2 M.2.1.1)) (pM_K1 (pM_2 M.2.1.1) (pM_K2 (o2 _ M.2.1.1) M.2.1.2)) rfl rfl (by decide) (Nat.le_of_ble_eq_true rfl) ⟨by rw [hrc]; omega, by rw [hrs]; omega⟩ dW_919 (fun r2 U2 h2 => ?_)
  obtain ⟨_, ⟨Z2, h2, rfl⟩, rfl⟩ := h2
  obtain ⟨M2, X2, W2, h2⟩ := h2
  have T2 := T1.kM X2 (by decide)
  refine g_pop C dW_922 rfl ?_
  refine g_goto C 1986 dW_923 (by decide) ?_
  exact kk _ _ _ _ _ ⟨I1, A1, M2, W2, T2, ho⟩ (by omega) (by omega)
set_option maxHeartbeats 4000000 in
set_option maxRecDepth 100000 in
theorem lc_13 {E : EV} {D : va_G} {cy : Nat → ClassId} {P Q O : PP} {x m o b n L cs sl : Nat} {xs : Nat → Int32} (C : Cx E D cy 7 code RL) (X : Lx E b L xs) (hn : n + 7 ≤ L) (hL : L ≤ 3584) (J : LJ P Q O x m o) (hc : cs + 100 ≤ 601024) (hs : sl + 700 ≤ 7293034) (kk : ∀ (P2 Q2 O2 : PP) (cs2 sl2 : Nat), LJ P2 Q2 O2 x m o → cs2 ≤ cs + 100 → sl2 ≤ sl + 700 → G E room_1 D cy 7 (pM (pM P2 Q2) O2) cs2 sl2 1986 [(4, .int (nI n)), (3, .ref o), (2, .ref m), (1, .ref x), (0, .ref b)] []) : G E room_1 D cy 7 (pM (pM P Q) O) cs sl 926 [(4, .int (nI n)), (3, .ref o), (2, .ref m), (1, .ref x), (0, .ref b)] [] := by
  obtain ⟨I, A, M, W0, T0, ho⟩ := J
  refine g_aload_n C dW_926 rfl 3 rfl ?_
  refine g_rd C X 4 0 rfl rfl (iw_1 hn hL) dW_927 dW_928 dW_930 dW_931 dW_932 ?_
  refine g_rd C X 4 0 rfl rfl (iw_2 hn hL) dW_933 dW_934 dW_936 dW_937 dW_938 ?_
  refine g_rd C X 4 0 rfl rfl (iw_3 hn hL) dW_939 dW_940 dW_942 dW_943 dW_944 ?_
  refine g_rd C X 4 0 rfl rfl (iw_4 hn hL) dW_945 dW_946 dW_948 dW_949 dW_950 ?_
  refine g_callVI (rest := []) C mv_L_82 [.int (xs (n + 1)), .int (xs (n + 2)), .int (xs (n + 3)), .int (xs (n + 4))] (frI1 (frI1 (s_X11_solves I A ))) (pM_1 (pM_1 A.1)) (pM_K1 (pM_1 A.1) (pM_K1 A.1 A.2)) rfl rfl (by decide) (Nat.le_of_ble_eq_true rfl) ⟨by rw [hrc]; omega, by rw [hrs]; omega⟩ dW_951 (fun r1 U1 h1 => ?_)
  obtain ⟨_, ⟨Z1, h1, rfl⟩, rfl⟩ := h1
  obtain ⟨I1, X1, h1⟩ := h1
  have A1 := X1.at A
  have T1 := T0.keep I A X1 (by decide)
  refine g_off (fun o2 => ?_)
  refine g_pop C dW_954 rfl ?_
  refine g_aload_n C dW_955 rfl 2 rfl ?_
  refine g_rd C X 4 0 rfl rfl (iw_1 hn hL) dW_956 dW_957 dW_959 dW_960 dW_961 ?_
  refine g_rd C X 4 0 rfl rfl (iw_2 hn hL) dW_962 dW_963 dW_965 dW_966 dW_967 ?_
  refine g_rd C X 4 0 rfl rfl (iw_3 hn hL) dW_968 dW_969 dW_971 dW_972 dW_973 ?_
  refine g_rd C X 4 0 rfl rfl (iw_4 hn hL) dW_974 dW_975 dW_977 dW_978 dW_979 ?_
  refine g_callVI (rest := []) C mv_L_85 [.int (xs (n + 1)), .int (xs (n + 2)), .int (xs (n + 3)), .int (xs (n + 4))] (frI1 (frI2 (s_X12_solves M  W0))) (pM_1 (pM_2 M.2.1.1)) (pM_K1 (pM_2 M.2.1.1) (pM_K2 (o2 _ M.2.1.1) M.2.1.2)) rfl rfl (by decide) (Nat.le_of_ble_eq_true rfl) ⟨by rw [hrc]; omega, by rw [hrs]; omega⟩ dW_980 (fun r2 U2 h2 => ?_)
  obtain ⟨_, ⟨Z2, h2, rfl⟩, rfl⟩ := h2
  obtain ⟨M2, X2, W2, h2⟩ := h2
  have T2 := T1.kM X2 (by decide)
  refine g_pop C dW_983 rfl ?_
  refine g_goto C 1986 dW_984 (by decide) ?_
  exact kk _ _ _ _ _ ⟨I1, A1, M2, W2, T2, ho⟩ (by omega) (by omega)
set_option maxHeartbeats 4000000 in
set_option maxRecDepth 100000 in
theorem lc_14 {E : EV} {D : va_G} {cy : Nat → ClassId} {P Q O : PP} {x m o b n L cs sl : Nat} {xs : Nat → Int32} (C : Cx E D cy 7 code RL) (X : Lx E b L xs) (hn : n + 7 ≤ L) (hL : L ≤ 3584) (J : LJ P Q O x m o) (hc : cs + 100 ≤ 601024) (hs : sl + 700 ≤ 7293034) (kk : ∀ (P2 Q2 O2 : PP) (cs2 sl2 : Nat), LJ P2 Q2 O2 x m o → cs2 ≤ cs + 100 → sl2 ≤ sl + 700 → G E room_1 D cy 7 (pM (pM P2 Q2) O2) cs2 sl2 1986 [(4, .int (nI n)), (3, .ref o), (2, .ref m), (1, .ref x), (0, .ref b)] []) : G E room_1 D cy 7 (pM (pM P Q) O) cs sl 987 [(4, .int (nI n)), (3, .ref o), (2, .ref m), (1, .ref x), (0, .ref b)] [] := by
  obtain ⟨I, A, M, W0, T0, ho⟩ := J
  refine g_aload_n C dW_987 rfl 3 rfl ?_
  refine g_rd C X 4 0 rfl rfl (iw_1 hn hL) dW_988 dW_989 dW_991 dW_992 dW_993 ?_
  refine g_rd C X 4 0 rfl rfl (iw_2 hn hL) dW_994 dW_995 dW_997 dW_998 dW_999 ?_
  refine g_rd C X 4 0 rfl rfl (iw_3 hn hL) dW_1000 dW_1001 dW_1003 dW_1004 dW_1005 ?_
  refine g_rd C X 4 0 rfl rfl (iw_4 hn hL) dW_1006 dW_1007 dW_1009 dW_1010 dW_1011 ?_
  refine g_callVI (rest := []) C mv_L_86 [.int (xs (n + 1)), .int (xs (n + 2)), .int (xs (n + 3)), .int (xs (n + 4))] (frI1 (frI1 (s_X11_read I A ))) (pM_1 (pM_1 A.1)) (pM_K1 (pM_1 A.1) (pM_K1 A.1 A.2)) rfl rfl (by decide) (Nat.le_of_ble_eq_true rfl) ⟨by rw [hrc]; omega, by rw [hrs]; omega⟩ dW_1012 (fun r1 U1 h1 => ?_)
  obtain ⟨_, ⟨Z1, h1, rfl⟩, rfl⟩ := h1
  obtain ⟨I1, X1, h1⟩ := h1
  have A1 := X1.at A
  have T1 := T0.keep I A X1 (by decide)
  refine g_off (fun o2 => ?_)
  refine g_pop C dW_1015 rfl ?_
  refine g_aload_n C dW_1016 rfl 2 rfl ?_
  refine g_rd C X 4 0 rfl rfl (iw_1 hn hL) dW_1017 dW_1018 dW_1020 dW_1021 dW_1022 ?_
  refine g_rd C X 4 0 rfl rfl (iw_2 hn hL) dW_1023 dW_1024 dW_1026 dW_1027 dW_1028 ?_
  refine g_rd C X 4 0 rfl rfl (iw_3 hn hL) dW_1029 dW_1030 dW_1032 dW_1033 dW_1034 ?_
  refine g_rd C X 4 0 rfl rfl (iw_4 hn hL) dW_1035 dW_1036 dW_1038 dW_1039 dW_1040 ?_
  refine g_callVI (rest := []) C mv_L_89 [.int (xs (n + 1)), .int (xs (n + 2)), .int (xs (n + 3)), .int (xs (n + 4))] (frI1 (frI2 (s_X12_read M  W0))) (pM_1 (pM_2 M.2.1.1)) (pM_K1 (pM_2 M.2.1.1) (pM_K2 (o2 _ M.2.1.1) M.2.1.2)) rfl rfl (by decide) (Nat.le_of_ble_eq_true rfl) ⟨by rw [hrc]; omega, by rw [hrs]; omega⟩ dW_1041 (fun r2 U2 h2 => ?_)
  obtain ⟨_, ⟨Z2, h2, rfl⟩, rfl⟩ := h2
  obtain ⟨M2, X2, W2, h2⟩ := h2
  have T2 := T1.kM X2 (by decide)
  refine g_pop C dW_1044 rfl ?_
  refine g_goto C 1986 dW_1045 (by decide) ?_
  exact kk _ _ _ _ _ ⟨I1, A1, M2, W2, T2, ho⟩ (by omega) (by omega)
set_option maxHeartbeats 4000000 in
set_option maxRecDepth 100000 in
theorem lc_15 {E : EV} {D : va_G} {cy : Nat → ClassId} {P Q O : PP} {x m o b n L cs sl : Nat} {xs : Nat → Int32} (C : Cx E D cy 7 code RL) (X : Lx E b L xs) (hn : n + 7 ≤ L) (hL : L ≤ 3584) (J : LJ P Q O x m o) (hc : cs + 100 ≤ 601024) (hs : sl + 700 ≤ 7293034) (kk : ∀ (P2 Q2 O2 : PP) (cs2 sl2 : Nat), LJ P2 Q2 O2 x m o → cs2 ≤ cs + 100 → sl2 ≤ sl + 700 → G E room_1 D cy 7 (pM (pM P2 Q2) O2) cs2 sl2 1986 [(4, .int (nI n)), (3, .ref o), (2, .ref m), (1, .ref x), (0, .ref b)] []) : G E room_1 D cy 7 (pM (pM P Q) O) cs sl 1048 [(4, .int (nI n)), (3, .ref o), (2, .ref m), (1, .ref x), (0, .ref b)] [] := by
  obtain ⟨I, A, M, W0, T0, ho⟩ := J
  refine g_aload_n C dW_1048 rfl 3 rfl ?_
  refine g_rd C X 4 0 rfl rfl (iw_1 hn hL) dW_1049 dW_1050 dW_1052 dW_1053 dW_1054 ?_
  refine g_rd C X 4 0 rfl rfl (iw_2 hn hL) dW_1055 dW_1056 dW_1058 dW_1059 dW_1060 ?_
  refine g_rd C X 4 0 rfl rfl (iw_3 hn hL) dW_1061 dW_1062 dW_1064 dW_1065 dW_1066 ?_
  refine g_rd C X 4 0 rfl rfl (iw_4 hn hL) dW_1067 dW_1068 dW_1070 dW_1071 dW_1072 ?_
  refine g_callVI (rest := []) C mv_L_90 [.int (xs (n + 1)), .int (xs (n + 2)), .int (xs (n + 3)), .int (xs (n + 4))] (frI1 (frI1 (s_X11_soon I A ))) (pM_1 (pM_1 A.1)) (pM_K1 (pM_1 A.1) (pM_K1 A.1 A.2)) rfl rfl (by decide) (Nat.le_of_ble_eq_true rfl) ⟨by rw [hrc]; omega, by rw [hrs]; omega⟩ dW_1073 (fun r1 U1 h1 => ?_)
  obtain ⟨_, ⟨Z1, h1, rfl⟩, rfl⟩ := h1
  obtain ⟨I1, X1, h1⟩ := h1
  have A1 := X1.at A
  have T1 := T0.keep I A X1 (by decide)
  refine g_off (fun o2 => ?_)
  refine g_pop C dW_1076 rfl ?_
  refine g_aload_n C dW_1077 rfl 2 rfl ?_
  refine g_rd C X 4 0 rfl rfl (iw_1 hn hL) dW_1078 dW_1079 dW_1081 dW_1082 dW_1083 ?_
  refine g_rd C X 4 0 rfl rfl (iw_2 hn hL) dW_1084 dW_1085 dW_1087 dW_1088 dW_1089 ?_
  refine g_rd C X 4 0 rfl rfl (iw_3 hn hL) dW_1090 dW_1091 dW_1093 dW_1094 dW_1095 ?_
  refine g_rd C X 4 0 rfl rfl (iw_4 hn hL) dW_1096 dW_1097 dW_1099 dW_1100 dW_1101 ?_
  refine g_callVI (rest := []) C mv_L_93 [.int (xs (n + 1)), .int (xs (n + 2)), .int (xs (n + 3)), .int (xs (n + 4))] (frI1 (frI2 (s_X12_soon M  W0))) (pM_1 (pM_2 M.2.1.1)) (pM_K1 (pM_2 M.2.1.1) (pM_K2 (o2 _ M.2.1.1) M.2.1.2)) rfl rfl (by decide) (Nat.le_of_ble_eq_true rfl) ⟨by rw [hrc]; omega, by rw [hrs]; omega⟩ dW_1102 (fun r2 U2 h2 => ?_)
  obtain ⟨_, ⟨Z2, h2, rfl⟩, rfl⟩ := h2
  obtain ⟨M2, X2, W2, h2⟩ := h2
  have T2 := T1.kM X2 (by decide)
  refine g_pop C dW_1105 rfl ?_
  refine g_goto C 1986 dW_1106 (by decide) ?_
  exact kk _ _ _ _ _ ⟨I1, A1, M2, W2, T2, ho⟩ (by omega) (by omega)
set_option maxHeartbeats 4000000 in
set_option maxRecDepth 100000 in
theorem lc_16 {E : EV} {D : va_G} {cy : Nat → ClassId} {P Q O : PP} {x m o b n L cs sl : Nat} {xs : Nat → Int32} (C : Cx E D cy 7 code RL) (X : Lx E b L xs) (hn : n + 7 ≤ L) (hL : L ≤ 3584) (J : LJ P Q O x m o) (hc : cs + 100 ≤ 601024) (hs : sl + 700 ≤ 7293034) (kk : ∀ (P2 Q2 O2 : PP) (cs2 sl2 : Nat), LJ P2 Q2 O2 x m o → cs2 ≤ cs + 100 → sl2 ≤ sl + 700 → G E room_1 D cy 7 (pM (pM P2 Q2) O2) cs2 sl2 1986 [(4, .int (nI n)), (3, .ref o), (2, .ref m), (1, .ref x), (0, .ref b)] []) : G E room_1 D cy 7 (pM (pM P Q) O) cs sl 1109 [(4, .int (nI n)), (3, .ref o), (2, .ref m), (1, .ref x), (0, .ref b)] [] := by
  obtain ⟨I, A, M, W0, T0, ho⟩ := J
  refine g_aload_n C dW_1109 rfl 3 rfl ?_
  refine g_rd C X 4 0 rfl rfl (iw_1 hn hL) dW_1110 dW_1111 dW_1113 dW_1114 dW_1115 ?_
  refine g_rd C X 4 0 rfl rfl (iw_2 hn hL) dW_1116 dW_1117 dW_1119 dW_1120 dW_1121 ?_
  refine g_rd C X 4 0 rfl rfl (iw_3 hn hL) dW_1122 dW_1123 dW_1125 dW_1126 dW_1127 ?_
  refine g_rd C X 4 0 rfl rfl (iw_4 hn hL) dW_1128 dW_1129 dW_1131 dW_1132 dW_1133 ?_
  refine g_callVI (rest := []) C mv_L_94 [.int (xs (n + 1)), .int (xs (n + 2)), .int (xs (n + 3)), .int (xs (n + 4))] (frI1 (frI1 (s_X11_slipped I A ))) (pM_1 (pM_1 A.1)) (pM_K1 (pM_1 A.1) (pM_K1 A.1 A.2)) rfl rfl (by decide) (Nat.le_of_ble_eq_true rfl) ⟨by rw [hrc]; omega, by rw [hrs]; omega⟩ dW_1134 (fun r1 U1 h1 => ?_)
  obtain ⟨_, ⟨Z1, h1, rfl⟩, rfl⟩ := h1
  obtain ⟨I1, X1, h1⟩ := h1
  have A1 := X1.at A
  have T1 := T0.keep I A X1 (by decide)
  refine g_off (fun o2 => ?_)
  refine g_pop C dW_1137 rfl ?_
  refine g_aload_n C dW_1138 rfl 2 rfl ?_
  refine g_rd C X 4 0 rfl rfl (iw_1 hn hL) dW_1139 dW_1140 dW_1142 dW_1143 dW_1144 ?_
  refine g_rd C X 4 0 rfl rfl (iw_2 hn hL) dW_1145 dW_1146 dW_1148 dW_1149 dW_1150 ?_
  refine g_rd C X 4 0 rfl rfl (iw_3 hn hL) dW_1151 dW_1152 dW_1154 dW_1155 dW_1156 ?_
  refine g_rd C X 4 0 rfl rfl (iw_4 hn hL) dW_1157 dW_1158 dW_1160 dW_1161 dW_1162 ?_
  refine g_callVI (rest := []) C mv_L_97 [.int (xs (n + 1)), .int (xs (n + 2)), .int (xs (n + 3)), .int (xs (n + 4))] (frI1 (frI2 (s_X12_slipped M  W0))) (pM_1 (pM_2 M.2.1.1)) (pM_K1 (pM_2 M.2.1.1) (pM_K2 (o2 _ M.2.1.1) M.2.1.2)) rfl rfl (by decide) (Nat.le_of_ble_eq_true rfl) ⟨by rw [hrc]; omega, by rw [hrs]; omega⟩ dW_1163 (fun r2 U2 h2 => ?_)
  obtain ⟨_, ⟨Z2, h2, rfl⟩, rfl⟩ := h2
  obtain ⟨M2, X2, W2, h2⟩ := h2
  have T2 := T1.kM X2 (by decide)
  refine g_pop C dW_1166 rfl ?_
  refine g_goto C 1986 dW_1167 (by decide) ?_
  exact kk _ _ _ _ _ ⟨I1, A1, M2, W2, T2, ho⟩ (by omega) (by omega)
set_option maxHeartbeats 4000000 in
set_option maxRecDepth 100000 in
theorem lc_17 {E : EV} {D : va_G} {cy : Nat → ClassId} {P Q O : PP} {x m o b n L cs sl : Nat} {xs : Nat → Int32} (C : Cx E D cy 7 code RL) (X : Lx E b L xs) (hn : n + 7 ≤ L) (hL : L ≤ 3584) (J : LJ P Q O x m o) (hc : cs + 100 ≤ 601024) (hs : sl + 700 ≤ 7293034) (kk : ∀ (P2 Q2 O2 : PP) (cs2 sl2 : Nat), LJ P2 Q2 O2 x m o → cs2 ≤ cs + 100 → sl2 ≤ sl + 700 → G E room_1 D cy 7 (pM (pM P2 Q2) O2) cs2 sl2 1986 [(4, .int (nI n)), (3, .ref o), (2, .ref m), (1, .ref x), (0, .ref b)] []) : G E room_1 D cy 7 (pM (pM P Q) O) cs sl 1170 [(4, .int (nI n)), (3, .ref o), (2, .ref m), (1, .ref x), (0, .ref b)] [] := by
  obtain ⟨I, A, M, W0, T0, ho⟩ := J
  refine g_aload_n C dW_1170 rfl 3 rfl ?_
  refine g_rd C X 4 0 rfl rfl (iw_1 hn hL) dW_1171 dW_1172 dW_1174 dW_1175 dW_1176 ?_
  refine g_rd C X 4 0 rfl rfl (iw_2 hn hL) dW_1177 dW_1178 dW_1180 dW_1181 dW_1182 ?_
  refine g_rd C X 4 0 rfl rfl (iw_3 hn hL) dW_1183 dW_1184 dW_1186 dW_1187 dW_1188 ?_
  refine g_rd C X 4 0 rfl rfl (iw_4 hn hL) dW_1189 dW_1190 dW_1192 dW_1193 dW_1194 ?_
  refine g_callVI (rest := []) C mv_L_98 [.int (xs (n + 1)), .int (xs (n + 2)), .int (xs (n + 3)), .int (xs (n + 4))] (frI1 (frI1 (s_X11_right I A ))) (pM_1 (pM_1 A.1)) (pM_K1 (pM_1 A.1) (pM_K1 A.1 A.2)) rfl rfl (by decide) (Nat.le_of_ble_eq_true rfl) ⟨by rw [hrc]; omega, by rw [hrs]; omega⟩ dW_1195 (fun r1 U1 h1 => ?_)
  obtain ⟨_, ⟨Z1, h1, rfl⟩, rfl⟩ := h1
  obtain ⟨I1, X1, h1⟩ := h1
  have A1 := X1.at A
  have T1 := T0.keep I A X1 (by decide)
  refine g_off (fun o2 => ?_)
  refine g_pop C dW_1198 rfl ?_
  refine g_aload_n C dW_1199 rfl 2 rfl ?_
  refine g_rd C X 4 0 rfl rfl (iw_1 hn hL) dW_1200 dW_1201 dW_1203 dW_1204 dW_1205 ?_
  refine g_rd C X 4 0 rfl rfl (iw_2 hn hL) dW_1206 dW_1207 dW_1209 dW_1210 dW_1211 ?_
  refine g_rd C X 4 0 rfl rfl (iw_3 hn hL) dW_1212 dW_1213 dW_1215 dW_1216 dW_1217 ?_
  refine g_rd C X 4 0 rfl rfl (iw_4 hn hL) dW_1218 dW_1219 dW_1221 dW_1222 dW_1223 ?_
  refine g_callVI (rest := []) C mv_L_101 [.int (xs (n + 1)), .int (xs (n + 2)), .int (xs (n + 3)), .int (xs (n + 4))] (frI1 (frI2 (s_X12_right M  W0))) (pM_1 (pM_2 M.2.1.1)) (pM_K1 (pM_2 M.2.1.1) (pM_K2 (o2 _ M.2.1.1) M.2.1.2)) rfl rfl (by decide) (Nat.le_of_ble_eq_true rfl) ⟨by rw [hrc]; omega, by rw [hrs]; omega⟩ dW_1224 (fun r2 U2 h2 => ?_)
  obtain ⟨_, ⟨Z2, h2, rfl⟩, rfl⟩ := h2
  obtain ⟨M2, X2, W2, h2⟩ := h2
  have T2 := T1.kM X2 (by decide)
  refine g_pop C dW_1227 rfl ?_
  refine g_goto C 1986 dW_1228 (by decide) ?_
  exact kk _ _ _ _ _ ⟨I1, A1, M2, W2, T2, ho⟩ (by omega) (by omega)
set_option maxHeartbeats 4000000 in
set_option maxRecDepth 100000 in
theorem lc_18 {E : EV} {D : va_G} {cy : Nat → ClassId} {P Q O : PP} {x m o b n L cs sl : Nat} {xs : Nat → Int32} (C : Cx E D cy 7 code RL) (X : Lx E b L xs) (hn : n + 7 ≤ L) (hL : L ≤ 3584) (J : LJ P Q O x m o) (hc : cs + 100 ≤ 601024) (hs : sl + 700 ≤ 7293034) (kk : ∀ (P2 Q2 O2 : PP) (cs2 sl2 : Nat), LJ P2 Q2 O2 x m o → cs2 ≤ cs + 100 → sl2 ≤ sl + 700 → G E room_1 D cy 7 (pM (pM P2 Q2) O2) cs2 sl2 1986 [(4, .int (nI n)), (3, .ref o), (2, .ref m), (1, .ref x), (0, .ref b)] []) : G E room_1 D cy 7 (pM (pM P Q) O) cs sl 1231 [(4, .int (nI n)), (3, .ref o), (2, .ref m), (1, .ref x), (0, .ref b)] [] := by
  obtain ⟨I, A, M, W0, T0, ho⟩ := J
  refine g_aload_n C dW_1231 rfl 3 rfl ?_
  refine g_rd C X 4 0 rfl rfl (iw_1 hn hL) dW_1232 dW_1233 dW_1235 dW_1236 dW_1237 ?_
  refine g_rd C X 4 0 rfl rfl (iw_2 hn hL) dW_1238 dW_1239 dW_1241 dW_1242 dW_1243 ?_
  refine g_rd C X 4 0 rfl rfl (iw_3 hn hL) dW_1244 dW_1245 dW_1247 dW_1248 dW_1249 ?_
  refine g_callVI (rest := []) C mv_L_102 [.int (xs (n + 1)), .int (xs (n + 2)), .int (xs (n + 3))] (frI1 (frI1 (s_X11_doubles I A ))) (pM_1 (pM_1 A.1)) (pM_K1 (pM_1 A.1) (pM_K1 A.1 A.2)) rfl rfl (by decide) (Nat.le_of_ble_eq_true rfl) ⟨by rw [hrc]; omega, by rw [hrs]; omega⟩ dW_1250 (fun r1 U1 h1 => ?_)
  obtain ⟨_, ⟨Z1, h1, rfl⟩, rfl⟩ := h1
  obtain ⟨I1, X1, h1⟩ := h1
  have A1 := X1.at A
  have T1 := T0.keep I A X1 (by decide)
  refine g_off (fun o2 => ?_)
  refine g_pop C dW_1253 rfl ?_
  refine g_aload_n C dW_1254 rfl 2 rfl ?_
  refine g_rd C X 4 0 rfl rfl (iw_1 hn hL) dW_1255 dW_1256 dW_1258 dW_1259 dW_1260 ?_
  refine g_rd C X 4 0 rfl rfl (iw_2 hn hL) dW_1261 dW_1262 dW_1264 dW_1265 dW_1266 ?_
  refine g_rd C X 4 0 rfl rfl (iw_3 hn hL) dW_1267 dW_1268 dW_1270 dW_1271 dW_1272 ?_
  refine g_callVI (rest := []) C mv_L_105 [.int (xs (n + 1)), .int (xs (n + 2)), .int (xs (n + 3))] (frI1 (frI2 (s_X12_doubles M  W0))) (pM_1 (pM_2 M.2.1.1)) (pM_K1 (pM_2 M.2.1.1) (pM_K2 (o2 _ M.2.1.1) M.2.1.2)) rfl rfl (by decide) (Nat.le_of_ble_eq_true rfl) ⟨by rw [hrc]; omega, by rw [hrs]; omega⟩ dW_1273 (fun r2 U2 h2 => ?_)
  obtain ⟨_, ⟨Z2, h2, rfl⟩, rfl⟩ := h2
  obtain ⟨M2, X2, W2, h2⟩ := h2
  have T2 := T1.kM X2 (by decide)
  refine g_pop C dW_1276 rfl ?_
  refine g_goto C 1986 dW_1277 (by decide) ?_
  exact kk _ _ _ _ _ ⟨I1, A1, M2, W2, T2, ho⟩ (by omega) (by omega)
set_option maxHeartbeats 4000000 in
set_option maxRecDepth 100000 in
theorem lc_19 {E : EV} {D : va_G} {cy : Nat → ClassId} {P Q O : PP} {x m o b n L cs sl : Nat} {xs : Nat → Int32} (C : Cx E D cy 7 code RL) (X : Lx E b L xs) (hn : n + 7 ≤ L) (hL : L ≤ 3584) (J : LJ P Q O x m o) (hc : cs + 100 ≤ 601024) (hs : sl + 700 ≤ 7293034) (kk : ∀ (P2 Q2 O2 : PP) (cs2 sl2 : Nat), LJ P2 Q2 O2 x m o → cs2 ≤ cs + 100 → sl2 ≤ sl + 700 → G E room_1 D cy 7 (pM (pM P2 Q2) O2) cs2 sl2 1986 [(4, .int (nI n)), (3, .ref o), (2, .ref m), (1, .ref x), (0, .ref b)] []) : G E room_1 D cy 7 (pM (pM P Q) O) cs sl 1280 [(4, .int (nI n)), (3, .ref o), (2, .ref m), (1, .ref x), (0, .ref b)] [] := by
  obtain ⟨I, A, M, W0, T0, ho⟩ := J
  refine g_aload_n C dW_1280 rfl 3 rfl ?_
  refine g_rd C X 4 0 rfl rfl (iw_1 hn hL) dW_1281 dW_1282 dW_1284 dW_1285 dW_1286 ?_
  refine g_rd C X 4 0 rfl rfl (iw_2 hn hL) dW_1287 dW_1288 dW_1290 dW_1291 dW_1292 ?_
  refine g_rd C X 4 0 rfl rfl (iw_3 hn hL) dW_1293 dW_1294 dW_1296 dW_1297 dW_1298 ?_
  refine g_rd C X 4 0 rfl rfl (iw_4 hn hL) dW_1299 dW_1300 dW_1302 dW_1303 dW_1304 ?_
  refine g_callVI (rest := []) C mv_L_106 [.int (xs (n + 1)), .int (xs (n + 2)), .int (xs (n + 3)), .int (xs (n + 4))] (frI1 (frI1 (s_X11_guard I A ))) (pM_1 (pM_1 A.1)) (pM_K1 (pM_1 A.1) (pM_K1 A.1 A.2)) rfl rfl (by decide) (Nat.le_of_ble_eq_true rfl) ⟨by rw [hrc]; omega, by rw [hrs]; omega⟩ dW_1305 (fun r1 U1 h1 => ?_)
  obtain ⟨_, ⟨Z1, h1, rfl⟩, rfl⟩ := h1
  obtain ⟨I1, X1, h1⟩ := h1
  have A1 := X1.at A
  have T1 := T0.keep I A X1 (by decide)
  refine g_off (fun o2 => ?_)
  refine g_pop C dW_1308 rfl ?_
  refine g_aload_n C dW_1309 rfl 2 rfl ?_
  refine g_rd C X 4 0 rfl rfl (iw_1 hn hL) dW_1310 dW_1311 dW_1313 dW_1314 dW_1315 ?_
  refine g_rd C X 4 0 rfl rfl (iw_2 hn hL) dW_1316 dW_1317 dW_1319 dW_1320 dW_1321 ?_
  refine g_rd C X 4 0 rfl rfl (iw_3 hn hL) dW_1322 dW_1323 dW_1325 dW_1326 dW_1327 ?_
  refine g_rd C X 4 0 rfl rfl (iw_4 hn hL) dW_1328 dW_1329 dW_1331 dW_1332 dW_1333 ?_
  refine g_callVI (rest := []) C mv_L_109 [.int (xs (n + 1)), .int (xs (n + 2)), .int (xs (n + 3)), .int (xs (n + 4))] (frI1 (frI2 (s_X12_guard M  W0))) (pM_1 (pM_2 M.2.1.1)) (pM_K1 (pM_2 M.2.1.1) (pM_K2 (o2 _ M.2.1.1) M.2.1.2)) rfl rfl (by decide) (Nat.le_of_ble_eq_true rfl) ⟨by rw [hrc]; omega, by rw [hrs]; omega⟩ dW_1334 (fun r2 U2 h2 => ?_)
  obtain ⟨_, ⟨Z2, h2, rfl⟩, rfl⟩ := h2
  obtain ⟨M2, X2, W2, h2⟩ := h2
  have T2 := T1.kM X2 (by decide)
  refine g_pop C dW_1337 rfl ?_
  refine g_goto C 1986 dW_1338 (by decide) ?_
  exact kk _ _ _ _ _ ⟨I1, A1, M2, W2, T2, ho⟩ (by omega) (by omega)
set_option maxHeartbeats 4000000 in
set_option maxRecDepth 100000 in
theorem lc_20 {E : EV} {D : va_G} {cy : Nat → ClassId} {P Q O : PP} {x m o b n L cs sl : Nat} {xs : Nat → Int32} (C : Cx E D cy 7 code RL) (X : Lx E b L xs) (hn : n + 7 ≤ L) (hL : L ≤ 3584) (J : LJ P Q O x m o) (hc : cs + 100 ≤ 601024) (hs : sl + 700 ≤ 7293034) (kk : ∀ (P2 Q2 O2 : PP) (cs2 sl2 : Nat), LJ P2 Q2 O2 x m o → cs2 ≤ cs + 100 → sl2 ≤ sl + 700 → G E room_1 D cy 7 (pM (pM P2 Q2) O2) cs2 sl2 1986 [(4, .int (nI n)), (3, .ref o), (2, .ref m), (1, .ref x), (0, .ref b)] []) : G E room_1 D cy 7 (pM (pM P Q) O) cs sl 1341 [(4, .int (nI n)), (3, .ref o), (2, .ref m), (1, .ref x), (0, .ref b)] [] := by
  obtain ⟨I, A, M, W0, T0, ho⟩ := J
  refine g_aload_n C dW_1341 rfl 3 rfl ?_
  refine g_rd C X 4 0 rfl rfl (iw_1 hn hL) dW_1342 dW_1343 dW_1345 dW_1346 dW_1347 ?_
  refine g_rd C X 4 0 rfl rfl (iw_2 hn hL) dW_1348 dW_1349 dW_1351 dW_1352 dW_1353 ?_
  refine g_rd C X 4 0 rfl rfl (iw_3 hn hL) dW_1354 dW_1355 dW_1357 dW_1358 dW_1359 ?_
  refine g_callVI (rest := []) C mv_L_110 [.int (xs (n + 1)), .int (xs (n + 2)), .int (xs (n + 3))] (frI1 (frI1 (s_X11_tocome I A ))) (pM_1 (pM_1 A.1)) (pM_K1 (pM_1 A.1) (pM_K1 A.1 A.2)) rfl rfl (by decide) (Nat.le_of_ble_eq_true rfl) ⟨by rw [hrc]; omega, by rw [hrs]; omega⟩ dW_1360 (fun r1 U1 h1 => ?_)
  obtain ⟨_, ⟨Z1, h1, rfl⟩, rfl⟩ := h1
  obtain ⟨I1, X1, h1⟩ := h1
  have A1 := X1.at A
  have T1 := T0.keep I A X1 (by decide)
  refine g_off (fun o2 => ?_)
  refine g_pop C dW_1363 rfl ?_
  refine g_aload_n C dW_1364 rfl 2 rfl ?_
  refine g_rd C X 4 0 rfl rfl (iw_1 hn hL) dW_1365 dW_1366 dW_1368 dW_1369 dW_1370 ?_
  refine g_rd C X 4 0 rfl rfl (iw_2 hn hL) dW_1371 dW_1372 dW_1374 dW_1375 dW_1376 ?_
  refine g_rd C X 4 0 rfl rfl (iw_3 hn hL) dW_1377 dW_1378 dW_1380 dW_1381 dW_1382 ?_
  refine g_callVI (rest := []) C mv_L_113 [.int (xs (n + 1)), .int (xs (n + 2)), .int (xs (n + 3))] (frI1 (frI2 (s_X12_tocome M  W0))) (pM_1 (pM_2 M.2.1.1)) (pM_K1 (pM_2 M.2.1.1) (pM_K2 (o2 _ M.2.1.1) M.2.1.2)) rfl rfl (by decide) (Nat.le_of_ble_eq_true rfl) ⟨by rw [hrc]; omega, by rw [hrs]; omega⟩ dW_1383 (fun r2 U2 h2 => ?_)
  obtain ⟨_, ⟨Z2, h2, rfl⟩, rfl⟩ := h2
  obtain ⟨M2, X2, W2, h2⟩ := h2
  have T2 := T1.kM X2 (by decide)
  refine g_pop C dW_1386 rfl ?_
  refine g_goto C 1986 dW_1387 (by decide) ?_
  exact kk _ _ _ _ _ ⟨I1, A1, M2, W2, T2, ho⟩ (by omega) (by omega)
set_option maxHeartbeats 4000000 in
set_option maxRecDepth 100000 in
theorem lc_21 {E : EV} {D : va_G} {cy : Nat → ClassId} {P Q O : PP} {x m o b n L cs sl : Nat} {xs : Nat → Int32} (C : Cx E D cy 7 code RL) (X : Lx E b L xs) (hn : n + 7 ≤ L) (hL : L ≤ 3584) (J : LJ P Q O x m o) (hc : cs + 100 ≤ 601024) (hs : sl + 700 ≤ 7293034) (kk : ∀ (P2 Q2 O2 : PP) (cs2 sl2 : Nat), LJ P2 Q2 O2 x m o → cs2 ≤ cs + 100 → sl2 ≤ sl + 700 → G E room_1 D cy 7 (pM (pM P2 Q2) O2) cs2 sl2 1986 [(4, .int (nI n)), (3, .ref o), (2, .ref m), (1, .ref x), (0, .ref b)] []) : G E room_1 D cy 7 (pM (pM P Q) O) cs sl 1390 [(4, .int (nI n)), (3, .ref o), (2, .ref m), (1, .ref x), (0, .ref b)] [] := by
  obtain ⟨I, A, M, W0, T0, ho⟩ := J
  refine g_aload_n C dW_1390 rfl 3 rfl ?_
  refine g_rd C X 4 0 rfl rfl (iw_1 hn hL) dW_1391 dW_1392 dW_1394 dW_1395 dW_1396 ?_
  refine g_rd C X 4 0 rfl rfl (iw_2 hn hL) dW_1397 dW_1398 dW_1400 dW_1401 dW_1402 ?_
  refine g_rd C X 4 0 rfl rfl (iw_3 hn hL) dW_1403 dW_1404 dW_1406 dW_1407 dW_1408 ?_
  refine g_rd C X 4 0 rfl rfl (iw_4 hn hL) dW_1409 dW_1410 dW_1412 dW_1413 dW_1414 ?_
  refine g_callVI (rest := []) C mv_L_114 [.int (xs (n + 1)), .int (xs (n + 2)), .int (xs (n + 3)), .int (xs (n + 4))] (frI1 (frI1 (s_X11_chances I A ))) (pM_1 (pM_1 A.1)) (pM_K1 (pM_1 A.1) (pM_K1 A.1 A.2)) rfl rfl (by decide) (Nat.le_of_ble_eq_true rfl) ⟨by rw [hrc]; omega, by rw [hrs]; omega⟩ dW_1415 (fun r1 U1 h1 => ?_)
  obtain ⟨_, ⟨Z1, h1, rfl⟩, rfl⟩ := h1
  obtain ⟨I1, X1, h1⟩ := h1
  have A1 := X1.at A
  have T1 := T0.keep I A X1 (by decide)
  refine g_off (fun o2 => ?_)
  refine g_pop C dW_1418 rfl ?_
  refine g_aload_n C dW_1419 rfl 2 rfl ?_
  refine g_rd C X 4 0 rfl rfl (iw_1 hn hL) dW_1420 dW_1421 dW_1423 dW_1424 dW_1425 ?_
  refine g_rd C X 4 0 rfl rfl (iw_2 hn hL) dW_1426 dW_1427 dW_1429 dW_1430 dW_1431 ?_
  refine g_rd C X 4 0 rfl rfl (iw_3 hn hL) dW_1432 dW_1433 dW_1435 dW_1436 dW_1437 ?_
  refine g_rd C X 4 0 rfl rfl (iw_4 hn hL) dW_1438 dW_1439 dW_1441 dW_1442 dW_1443 ?_
  refine g_callVI (rest := []) C mv_L_117 [.int (xs (n + 1)), .int (xs (n + 2)), .int (xs (n + 3)), .int (xs (n + 4))] (frI1 (frI2 (s_X12_chances M  W0))) (pM_1 (pM_2 M.2.1.1)) (pM_K1 (pM_2 M.2.1.1) (pM_K2 (o2 _ M.2.1.1) M.2.1.2)) rfl rfl (by decide) (Nat.le_of_ble_eq_true rfl) ⟨by rw [hrc]; omega, by rw [hrs]; omega⟩ dW_1444 (fun r2 U2 h2 => ?_)
  obtain ⟨_, ⟨Z2, h2, rfl⟩, rfl⟩ := h2
  obtain ⟨M2, X2, W2, h2⟩ := h2
  have T2 := T1.kM X2 (by decide)
  refine g_pop C dW_1447 rfl ?_
  refine g_goto C 1986 dW_1448 (by decide) ?_
  exact kk _ _ _ _ _ ⟨I1, A1, M2, W2, T2, ho⟩ (by omega) (by omega)
set_option maxHeartbeats 4000000 in
set_option maxRecDepth 100000 in
theorem lc_22 {E : EV} {D : va_G} {cy : Nat → ClassId} {P Q O : PP} {x m o b n L cs sl : Nat} {xs : Nat → Int32} (C : Cx E D cy 7 code RL) (X : Lx E b L xs) (hn : n + 7 ≤ L) (hL : L ≤ 3584) (J : LJ P Q O x m o) (hc : cs + 100 ≤ 601024) (hs : sl + 700 ≤ 7293034) (kk : ∀ (P2 Q2 O2 : PP) (cs2 sl2 : Nat), LJ P2 Q2 O2 x m o → cs2 ≤ cs + 100 → sl2 ≤ sl + 700 → G E room_1 D cy 7 (pM (pM P2 Q2) O2) cs2 sl2 1986 [(4, .int (nI n)), (3, .ref o), (2, .ref m), (1, .ref x), (0, .ref b)] []) : G E room_1 D cy 7 (pM (pM P Q) O) cs sl 1451 [(4, .int (nI n)), (3, .ref o), (2, .ref m), (1, .ref x), (0, .ref b)] [] := by
  obtain ⟨I, A, M, W0, T0, ho⟩ := J
  by_cases hz : xs (n + 4) = 0
  · refine g_aload_n C dW_1451 rfl 3 rfl ?_
    refine g_rd C X 4 0 rfl rfl (iw_1 hn hL) dW_1452 dW_1453 dW_1455 dW_1456 dW_1457 ?_
    refine g_rd C X 4 0 rfl rfl (iw_2 hn hL) dW_1458 dW_1459 dW_1461 dW_1462 dW_1463 ?_
    refine g_rd C X 4 0 rfl rfl (iw_3 hn hL) dW_1464 dW_1465 dW_1467 dW_1468 dW_1469 ?_
    refine g_rd C X 4 0 rfl rfl (iw_4 hn hL) dW_1470 dW_1471 dW_1473 dW_1474 dW_1475 ?_
    refine b_if_eq C 1483 dW_1476 (by decide) (fun _ => ?_) (fun h => absurd hz h)
    refine g_iconst (v := 0) C dW_1483 (by decide) ?_
    refine g_callVI (rest := []) C mv_L_118 [.int (xs (n + 1)), .int (xs (n + 2)), .int (xs (n + 3)), .int 0] (frI1 (frI1 (s_X11_enough I A (by decide)))) (pM_1 (pM_1 A.1)) (pM_K1 (pM_1 A.1) (pM_K1 A.1 A.2)) rfl rfl (by decide) (Nat.le_of_ble_eq_true rfl) ⟨by rw [hrc]; omega, by rw [hrs]; omega⟩ dW_1484 (fun r1 U1 h1 => ?_)
    obtain ⟨_, ⟨Z1, h1, rfl⟩, rfl⟩ := h1
    obtain ⟨I1, X1, h1⟩ := h1
    have A1 := X1.at A
    have T1 := T0.keep I A X1 (by decide)
    refine g_off (fun o2 => ?_)
    refine g_pop C dW_1487 rfl ?_
    refine g_aload_n C dW_1488 rfl 2 rfl ?_
    refine g_rd C X 4 0 rfl rfl (iw_1 hn hL) dW_1489 dW_1490 dW_1492 dW_1493 dW_1494 ?_
    refine g_rd C X 4 0 rfl rfl (iw_2 hn hL) dW_1495 dW_1496 dW_1498 dW_1499 dW_1500 ?_
    refine g_rd C X 4 0 rfl rfl (iw_3 hn hL) dW_1501 dW_1502 dW_1504 dW_1505 dW_1506 ?_
    refine g_rd C X 4 0 rfl rfl (iw_4 hn hL) dW_1507 dW_1508 dW_1510 dW_1511 dW_1512 ?_
    refine b_if_eq C 1520 dW_1513 (by decide) (fun _ => ?_) (fun h => absurd hz h)
    refine g_iconst (v := 0) C dW_1520 (by decide) ?_
    refine g_callVI (rest := []) C mv_L_122 [.int (xs (n + 1)), .int (xs (n + 2)), .int (xs (n + 3)), .int 0] (frI1 (frI2 (s_X12_enough M (by decide) W0))) (pM_1 (pM_2 M.2.1.1)) (pM_K1 (pM_2 M.2.1.1) (pM_K2 (o2 _ M.2.1.1) M.2.1.2)) rfl rfl (by decide) (Nat.le_of_ble_eq_true rfl) ⟨by rw [hrc]; omega, by rw [hrs]; omega⟩ dW_1521 (fun r2 U2 h2 => ?_)
    obtain ⟨_, ⟨Z2, h2, rfl⟩, rfl⟩ := h2
    obtain ⟨M2, X2, W2, h2⟩ := h2
    have T2 := T1.kM X2 (by decide)
    refine g_pop C dW_1524 rfl ?_
    refine g_goto C 1986 dW_1525 (by decide) ?_
    exact kk _ _ _ _ _ ⟨I1, A1, M2, W2, T2, ho⟩ (by omega) (by omega)
  · refine g_aload_n C dW_1451 rfl 3 rfl ?_
    refine g_rd C X 4 0 rfl rfl (iw_1 hn hL) dW_1452 dW_1453 dW_1455 dW_1456 dW_1457 ?_
    refine g_rd C X 4 0 rfl rfl (iw_2 hn hL) dW_1458 dW_1459 dW_1461 dW_1462 dW_1463 ?_
    refine g_rd C X 4 0 rfl rfl (iw_3 hn hL) dW_1464 dW_1465 dW_1467 dW_1468 dW_1469 ?_
    refine g_rd C X 4 0 rfl rfl (iw_4 hn hL) dW_1470 dW_1471 dW_1473 dW_1474 dW_1475 ?_
    refine b_if_eq C 1483 dW_1476 (by decide) (fun h => absurd h hz) (fun _ => ?_)
    refine g_iconst (v := 1) C dW_1479 (by decide) ?_
    refine g_goto C 1484 dW_1480 (by decide) ?_
    refine g_callVI (rest := []) C mv_L_118 [.int (xs (n + 1)), .int (xs (n + 2)), .int (xs (n + 3)), .int 1] (frI1 (frI1 (s_X11_enough I A (by decide)))) (pM_1 (pM_1 A.1)) (pM_K1 (pM_1 A.1) (pM_K1 A.1 A.2)) rfl rfl (by decide) (Nat.le_of_ble_eq_true rfl) ⟨by rw [hrc]; omega, by rw [hrs]; omega⟩ dW_1484 (fun r1 U1 h1 => ?_)
    obtain ⟨_, ⟨Z1, h1, rfl⟩, rfl⟩ := h1
    obtain ⟨I1, X1, h1⟩ := h1
    have A1 := X1.at A
    have T1 := T0.keep I A X1 (by decide)
    refine g_off (fun o2 => ?_)
    refine g_pop C dW_1487 rfl ?_
    refine g_aload_n C dW_1488 rfl 2 rfl ?_
    refine g_rd C X 4 0 rfl rfl (iw_1 hn hL) dW_1489 dW_1490 dW_1492 dW_1493 dW_1494 ?_
    refine g_rd C X 4 0 rfl rfl (iw_2 hn hL) dW_1495 dW_1496 dW_1498 dW_1499 dW_1500 ?_
    refine g_rd C X 4 0 rfl rfl (iw_3 hn hL) dW_1501 dW_1502 dW_1504 dW_1505 dW_1506 ?_
    refine g_rd C X 4 0 rfl rfl (iw_4 hn hL) dW_1507 dW_1508 dW_1510 dW_1511 dW_1512 ?_
    refine b_if_eq C 1520 dW_1513 (by decide) (fun h => absurd h hz) (fun _ => ?_)
    refine g_iconst (v := 1) C dW_1516 (by decide) ?_
    refine g_goto C 1521 dW_1517 (by decide) ?_
    refine g_callVI (rest := []) C mv_L_122 [.int (xs (n + 1)), .int (xs (n + 2)), .int (xs (n + 3)), .int 1] (frI1 (frI2 (s_X12_enough M (by decide) W0))) (pM_1 (pM_2 M.2.1.1)) (pM_K1 (pM_2 M.2.1.1) (pM_K2 (o2 _ M.2.1.1) M.2.1.2)) rfl rfl (by decide) (Nat.le_of_ble_eq_true rfl) ⟨by rw [hrc]; omega, by rw [hrs]; omega⟩ dW_1521 (fun r2 U2 h2 => ?_)
    obtain ⟨_, ⟨Z2, h2, rfl⟩, rfl⟩ := h2
    obtain ⟨M2, X2, W2, h2⟩ := h2
    have T2 := T1.kM X2 (by decide)
    refine g_pop C dW_1524 rfl ?_
    refine g_goto C 1986 dW_1525 (by decide) ?_
    exact kk _ _ _ _ _ ⟨I1, A1, M2, W2, T2, ho⟩ (by omega) (by omega)
set_option maxHeartbeats 4000000 in
set_option maxRecDepth 100000 in
theorem lc_23 {E : EV} {D : va_G} {cy : Nat → ClassId} {P Q O : PP} {x m o b n L cs sl : Nat} {xs : Nat → Int32} (C : Cx E D cy 7 code RL) (X : Lx E b L xs) (hn : n + 7 ≤ L) (hL : L ≤ 3584) (J : LJ P Q O x m o) (hc : cs + 100 ≤ 601024) (hs : sl + 700 ≤ 7293034) (kk : ∀ (P2 Q2 O2 : PP) (cs2 sl2 : Nat), LJ P2 Q2 O2 x m o → cs2 ≤ cs + 100 → sl2 ≤ sl + 700 → G E room_1 D cy 7 (pM (pM P2 Q2) O2) cs2 sl2 1986 [(4, .int (nI n)), (3, .ref o), (2, .ref m), (1, .ref x), (0, .ref b)] []) : G E room_1 D cy 7 (pM (pM P Q) O) cs sl 1528 [(4, .int (nI n)), (3, .ref o), (2, .ref m), (1, .ref x), (0, .ref b)] [] := by
  obtain ⟨I, A, M, W0, T0, ho⟩ := J
  refine g_aload_n C dW_1528 rfl 3 rfl ?_
  refine g_rd C X 4 0 rfl rfl (iw_1 hn hL) dW_1529 dW_1530 dW_1532 dW_1533 dW_1534 ?_
  refine g_rd C X 4 0 rfl rfl (iw_2 hn hL) dW_1535 dW_1536 dW_1538 dW_1539 dW_1540 ?_
  refine g_rd C X 4 0 rfl rfl (iw_3 hn hL) dW_1541 dW_1542 dW_1544 dW_1545 dW_1546 ?_
  refine g_rd C X 4 0 rfl rfl (iw_4 hn hL) dW_1547 dW_1548 dW_1550 dW_1551 dW_1552 ?_
  refine g_callVL (rest := []) C mv_L_123 [.int (xs (n + 1)), .int (xs (n + 2)), .int (xs (n + 3)), .int (xs (n + 4))] (frL1 (frL1 (s_X11_average I A ))) (pM_1 (pM_1 A.1)) (pM_K1 (pM_1 A.1) (pM_K1 A.1 A.2)) rfl rfl (by decide) (Nat.le_of_ble_eq_true rfl) ⟨by rw [hrc]; omega, by rw [hrs]; omega⟩ dW_1553 (fun r1 U1 h1 => ?_)
  obtain ⟨_, ⟨Z1, h1, rfl⟩, rfl⟩ := h1
  obtain ⟨I1, X1, h1⟩ := h1
  have A1 := X1.at A
  have T1 := T0.keep I A X1 (by decide)
  refine g_off (fun o2 => ?_)
  refine g_pop2 C dW_1556 rfl ?_
  refine g_aload_n C dW_1557 rfl 2 rfl ?_
  refine g_rd C X 4 0 rfl rfl (iw_1 hn hL) dW_1558 dW_1559 dW_1561 dW_1562 dW_1563 ?_
  refine g_rd C X 4 0 rfl rfl (iw_2 hn hL) dW_1564 dW_1565 dW_1567 dW_1568 dW_1569 ?_
  refine g_rd C X 4 0 rfl rfl (iw_3 hn hL) dW_1570 dW_1571 dW_1573 dW_1574 dW_1575 ?_
  refine g_rd C X 4 0 rfl rfl (iw_4 hn hL) dW_1576 dW_1577 dW_1579 dW_1580 dW_1581 ?_
  refine g_callVL (rest := []) C mv_L_127 [.int (xs (n + 1)), .int (xs (n + 2)), .int (xs (n + 3)), .int (xs (n + 4))] (frL1 (frL2 (s_X12_average M  W0))) (pM_1 (pM_2 M.2.1.1)) (pM_K1 (pM_2 M.2.1.1) (pM_K2 (o2 _ M.2.1.1) M.2.1.2)) rfl rfl (by decide) (Nat.le_of_ble_eq_true rfl) ⟨by rw [hrc]; omega, by rw [hrs]; omega⟩ dW_1582 (fun r2 U2 h2 => ?_)
  obtain ⟨_, ⟨Z2, h2, rfl⟩, rfl⟩ := h2
  obtain ⟨M2, X2, W2, h2⟩ := h2
  have T2 := T1.kM X2 (by decide)
  refine g_pop2 C dW_1585 rfl ?_
  refine g_goto C 1986 dW_1586 (by decide) ?_
  exact kk _ _ _ _ _ ⟨I1, A1, M2, W2, T2, ho⟩ (by omega) (by omega)
set_option maxHeartbeats 4000000 in
set_option maxRecDepth 100000 in
theorem lc_24 {E : EV} {D : va_G} {cy : Nat → ClassId} {P Q O : PP} {x m o b n L cs sl : Nat} {xs : Nat → Int32} (C : Cx E D cy 7 code RL) (X : Lx E b L xs) (hn : n + 7 ≤ L) (hL : L ≤ 3584) (J : LJ P Q O x m o) (hc : cs + 100 ≤ 601024) (hs : sl + 700 ≤ 7293034) (kk : ∀ (P2 Q2 O2 : PP) (cs2 sl2 : Nat), LJ P2 Q2 O2 x m o → cs2 ≤ cs + 100 → sl2 ≤ sl + 700 → G E room_1 D cy 7 (pM (pM P2 Q2) O2) cs2 sl2 1986 [(4, .int (nI n)), (3, .ref o), (2, .ref m), (1, .ref x), (0, .ref b)] []) : G E room_1 D cy 7 (pM (pM P Q) O) cs sl 1589 [(4, .int (nI n)), (3, .ref o), (2, .ref m), (1, .ref x), (0, .ref b)] [] := by
  obtain ⟨I, A, M, W0, T0, ho⟩ := J
  refine g_aload_n C dW_1589 rfl 3 rfl ?_
  refine g_rd C X 4 0 rfl rfl (iw_1 hn hL) dW_1590 dW_1591 dW_1593 dW_1594 dW_1595 ?_
  refine g_rd C X 4 0 rfl rfl (iw_2 hn hL) dW_1596 dW_1597 dW_1599 dW_1600 dW_1601 ?_
  refine g_rd C X 4 0 rfl rfl (iw_3 hn hL) dW_1602 dW_1603 dW_1605 dW_1606 dW_1607 ?_
  refine g_rd C X 4 0 rfl rfl (iw_4 hn hL) dW_1608 dW_1609 dW_1611 dW_1612 dW_1613 ?_
  refine g_callVI (rest := []) C mv_L_128 [.int (xs (n + 1)), .int (xs (n + 2)), .int (xs (n + 3)), .int (xs (n + 4))] (frI1 (frI1 (s_X11_degree I A ))) (pM_1 (pM_1 A.1)) (pM_K1 (pM_1 A.1) (pM_K1 A.1 A.2)) rfl rfl (by decide) (Nat.le_of_ble_eq_true rfl) ⟨by rw [hrc]; omega, by rw [hrs]; omega⟩ dW_1614 (fun r1 U1 h1 => ?_)
  obtain ⟨_, ⟨Z1, h1, rfl⟩, rfl⟩ := h1
  obtain ⟨I1, X1, h1⟩ := h1
  have A1 := X1.at A
  have T1 := T0.keep I A X1 (by decide)
  refine g_off (fun o2 => ?_)
  refine g_pop C dW_1617 rfl ?_
  refine g_aload_n C dW_1618 rfl 2 rfl ?_
  refine g_rd C X 4 0 rfl rfl (iw_1 hn hL) dW_1619 dW_1620 dW_1622 dW_1623 dW_1624 ?_
  refine g_rd C X 4 0 rfl rfl (iw_2 hn hL) dW_1625 dW_1626 dW_1628 dW_1629 dW_1630 ?_
  refine g_rd C X 4 0 rfl rfl (iw_3 hn hL) dW_1631 dW_1632 dW_1634 dW_1635 dW_1636 ?_
  refine g_rd C X 4 0 rfl rfl (iw_4 hn hL) dW_1637 dW_1638 dW_1640 dW_1641 dW_1642 ?_
  refine g_callVI (rest := []) C mv_L_131 [.int (xs (n + 1)), .int (xs (n + 2)), .int (xs (n + 3)), .int (xs (n + 4))] (frI1 (frI2 (s_X12_degree M  W0))) (pM_1 (pM_2 M.2.1.1)) (pM_K1 (pM_2 M.2.1.1) (pM_K2 (o2 _ M.2.1.1) M.2.1.2)) rfl rfl (by decide) (Nat.le_of_ble_eq_true rfl) ⟨by rw [hrc]; omega, by rw [hrs]; omega⟩ dW_1643 (fun r2 U2 h2 => ?_)
  obtain ⟨_, ⟨Z2, h2, rfl⟩, rfl⟩ := h2
  obtain ⟨M2, X2, W2, h2⟩ := h2
  have T2 := T1.kM X2 (by decide)
  refine g_pop C dW_1646 rfl ?_
  refine g_goto C 1986 dW_1647 (by decide) ?_
  exact kk _ _ _ _ _ ⟨I1, A1, M2, W2, T2, ho⟩ (by omega) (by omega)
set_option maxHeartbeats 4000000 in
set_option maxRecDepth 100000 in
theorem lc_25 {E : EV} {D : va_G} {cy : Nat → ClassId} {P Q O : PP} {x m o b n L cs sl : Nat} {xs : Nat → Int32} (C : Cx E D cy 7 code RL) (X : Lx E b L xs) (hn : n + 7 ≤ L) (hL : L ≤ 3584) (J : LJ P Q O x m o) (hc : cs + 100 ≤ 601024) (hs : sl + 700 ≤ 7293034) (kk : ∀ (P2 Q2 O2 : PP) (cs2 sl2 : Nat), LJ P2 Q2 O2 x m o → cs2 ≤ cs + 100 → sl2 ≤ sl + 700 → G E room_1 D cy 7 (pM (pM P2 Q2) O2) cs2 sl2 1986 [(4, .int (nI n)), (3, .ref o), (2, .ref m), (1, .ref x), (0, .ref b)] []) : G E room_1 D cy 7 (pM (pM P Q) O) cs sl 1650 [(4, .int (nI n)), (3, .ref o), (2, .ref m), (1, .ref x), (0, .ref b)] [] := by
  obtain ⟨I, A, M, W0, T0, ho⟩ := J
  refine g_aload_n C dW_1650 rfl 3 rfl ?_
  refine g_rd C X 4 0 rfl rfl (iw_1 hn hL) dW_1651 dW_1652 dW_1654 dW_1655 dW_1656 ?_
  refine g_rd C X 4 0 rfl rfl (iw_2 hn hL) dW_1657 dW_1658 dW_1660 dW_1661 dW_1662 ?_
  refine g_callVI (rest := []) C mv_L_132 [.int (xs (n + 1)), .int (xs (n + 2))] (frI1 (frI1 (s_X11_apart I A ))) (pM_1 (pM_1 A.1)) (pM_K1 (pM_1 A.1) (pM_K1 A.1 A.2)) rfl rfl (by decide) (Nat.le_of_ble_eq_true rfl) ⟨by rw [hrc]; omega, by rw [hrs]; omega⟩ dW_1663 (fun r1 U1 h1 => ?_)
  obtain ⟨_, ⟨Z1, h1, rfl⟩, rfl⟩ := h1
  obtain ⟨I1, X1, h1⟩ := h1
  have A1 := X1.at A
  have T1 := T0.keep I A X1 (by decide)
  refine g_off (fun o2 => ?_)
  refine g_pop C dW_1666 rfl ?_
  refine g_aload_n C dW_1667 rfl 2 rfl ?_
  refine g_rd C X 4 0 rfl rfl (iw_1 hn hL) dW_1668 dW_1669 dW_1671 dW_1672 dW_1673 ?_
  refine g_rd C X 4 0 rfl rfl (iw_2 hn hL) dW_1674 dW_1675 dW_1677 dW_1678 dW_1679 ?_
  refine g_callVI (rest := []) C mv_L_135 [.int (xs (n + 1)), .int (xs (n + 2))] (frI1 (frI2 (s_X12_apart M  W0))) (pM_1 (pM_2 M.2.1.1)) (pM_K1 (pM_2 M.2.1.1) (pM_K2 (o2 _ M.2.1.1) M.2.1.2)) rfl rfl (by decide) (Nat.le_of_ble_eq_true rfl) ⟨by rw [hrc]; omega, by rw [hrs]; omega⟩ dW_1680 (fun r2 U2 h2 => ?_)
  obtain ⟨_, ⟨Z2, h2, rfl⟩, rfl⟩ := h2
  obtain ⟨M2, X2, W2, h2⟩ := h2
  have T2 := T1.kM X2 (by decide)
  refine g_pop C dW_1683 rfl ?_
  refine g_goto C 1986 dW_1684 (by decide) ?_
  exact kk _ _ _ _ _ ⟨I1, A1, M2, W2, T2, ho⟩ (by omega) (by omega)
set_option maxHeartbeats 4000000 in
set_option maxRecDepth 100000 in
theorem lc_26 {E : EV} {D : va_G} {cy : Nat → ClassId} {P Q O : PP} {x m o b n L cs sl : Nat} {xs : Nat → Int32} (C : Cx E D cy 7 code RL) (X : Lx E b L xs) (hn : n + 7 ≤ L) (hL : L ≤ 3584) (J : LJ P Q O x m o) (hc : cs + 100 ≤ 601024) (hs : sl + 700 ≤ 7293034) (kk : ∀ (P2 Q2 O2 : PP) (cs2 sl2 : Nat), LJ P2 Q2 O2 x m o → cs2 ≤ cs + 100 → sl2 ≤ sl + 700 → G E room_1 D cy 7 (pM (pM P2 Q2) O2) cs2 sl2 1986 [(4, .int (nI n)), (3, .ref o), (2, .ref m), (1, .ref x), (0, .ref b)] []) : G E room_1 D cy 7 (pM (pM P Q) O) cs sl 1687 [(4, .int (nI n)), (3, .ref o), (2, .ref m), (1, .ref x), (0, .ref b)] [] := by
  obtain ⟨I, A, M, W0, T0, ho⟩ := J
  refine g_aload_n C dW_1687 rfl 3 rfl ?_
  refine g_rd C X 4 0 rfl rfl (iw_1 hn hL) dW_1688 dW_1689 dW_1691 dW_1692 dW_1693 ?_
  refine g_rd C X 4 0 rfl rfl (iw_2 hn hL) dW_1694 dW_1695 dW_1697 dW_1698 dW_1699 ?_
  refine g_rd C X 4 0 rfl rfl (iw_3 hn hL) dW_1700 dW_1701 dW_1703 dW_1704 dW_1705 ?_
  refine g_callVI (rest := []) C mv_L_136 [.int (xs (n + 1)), .int (xs (n + 2)), .int (xs (n + 3))] (frI1 (frI1 (s_X11_quarter I A ))) (pM_1 (pM_1 A.1)) (pM_K1 (pM_1 A.1) (pM_K1 A.1 A.2)) rfl rfl (by decide) (Nat.le_of_ble_eq_true rfl) ⟨by rw [hrc]; omega, by rw [hrs]; omega⟩ dW_1706 (fun r1 U1 h1 => ?_)
  obtain ⟨_, ⟨Z1, h1, rfl⟩, rfl⟩ := h1
  obtain ⟨I1, X1, h1⟩ := h1
  have A1 := X1.at A
  have T1 := T0.keep I A X1 (by decide)
  refine g_off (fun o2 => ?_)
  refine g_pop C dW_1709 rfl ?_
  refine g_aload_n C dW_1710 rfl 2 rfl ?_
  refine g_rd C X 4 0 rfl rfl (iw_1 hn hL) dW_1711 dW_1712 dW_1714 dW_1715 dW_1716 ?_
  refine g_rd C X 4 0 rfl rfl (iw_2 hn hL) dW_1717 dW_1718 dW_1720 dW_1721 dW_1722 ?_
  refine g_rd C X 4 0 rfl rfl (iw_3 hn hL) dW_1723 dW_1724 dW_1726 dW_1727 dW_1728 ?_
  refine g_callVI (rest := []) C mv_L_139 [.int (xs (n + 1)), .int (xs (n + 2)), .int (xs (n + 3))] (frI1 (frI2 (s_X12_quarter M  W0))) (pM_1 (pM_2 M.2.1.1)) (pM_K1 (pM_2 M.2.1.1) (pM_K2 (o2 _ M.2.1.1) M.2.1.2)) rfl rfl (by decide) (Nat.le_of_ble_eq_true rfl) ⟨by rw [hrc]; omega, by rw [hrs]; omega⟩ dW_1729 (fun r2 U2 h2 => ?_)
  obtain ⟨_, ⟨Z2, h2, rfl⟩, rfl⟩ := h2
  obtain ⟨M2, X2, W2, h2⟩ := h2
  have T2 := T1.kM X2 (by decide)
  refine g_pop C dW_1732 rfl ?_
  refine g_goto C 1986 dW_1733 (by decide) ?_
  exact kk _ _ _ _ _ ⟨I1, A1, M2, W2, T2, ho⟩ (by omega) (by omega)
set_option maxHeartbeats 4000000 in
set_option maxRecDepth 100000 in
theorem lc_27 {E : EV} {D : va_G} {cy : Nat → ClassId} {P Q O : PP} {x m o b n L cs sl : Nat} {xs : Nat → Int32} (C : Cx E D cy 7 code RL) (X : Lx E b L xs) (hn : n + 7 ≤ L) (hL : L ≤ 3584) (J : LJ P Q O x m o) (hc : cs + 100 ≤ 601024) (hs : sl + 700 ≤ 7293034) (kk : ∀ (P2 Q2 O2 : PP) (cs2 sl2 : Nat), LJ P2 Q2 O2 x m o → cs2 ≤ cs + 100 → sl2 ≤ sl + 700 → G E room_1 D cy 7 (pM (pM P2 Q2) O2) cs2 sl2 1986 [(4, .int (nI n)), (3, .ref o), (2, .ref m), (1, .ref x), (0, .ref b)] []) : G E room_1 D cy 7 (pM (pM P Q) O) cs sl 1736 [(4, .int (nI n)), (3, .ref o), (2, .ref m), (1, .ref x), (0, .ref b)] [] := by
  obtain ⟨I, A, M, W0, T0, ho⟩ := J
  refine g_aload_n C dW_1736 rfl 3 rfl ?_
  refine g_rd C X 4 0 rfl rfl (iw_1 hn hL) dW_1737 dW_1738 dW_1740 dW_1741 dW_1742 ?_
  refine g_rd C X 4 0 rfl rfl (iw_2 hn hL) dW_1743 dW_1744 dW_1746 dW_1747 dW_1748 ?_
  refine g_rd C X 4 0 rfl rfl (iw_3 hn hL) dW_1749 dW_1750 dW_1752 dW_1753 dW_1754 ?_
  refine g_callVI (rest := []) C mv_L_140 [.int (xs (n + 1)), .int (xs (n + 2)), .int (xs (n + 3))] (frI1 (frI1 (s_X11_scatter I A ))) (pM_1 (pM_1 A.1)) (pM_K1 (pM_1 A.1) (pM_K1 A.1 A.2)) rfl rfl (by decide) (Nat.le_of_ble_eq_true rfl) ⟨by rw [hrc]; omega, by rw [hrs]; omega⟩ dW_1755 (fun r1 U1 h1 => ?_)
  obtain ⟨_, ⟨Z1, h1, rfl⟩, rfl⟩ := h1
  obtain ⟨I1, X1, h1⟩ := h1
  have A1 := X1.at A
  have T1 := T0.keep I A X1 (by decide)
  refine g_off (fun o2 => ?_)
  refine g_pop C dW_1758 rfl ?_
  refine g_aload_n C dW_1759 rfl 2 rfl ?_
  refine g_rd C X 4 0 rfl rfl (iw_1 hn hL) dW_1760 dW_1761 dW_1763 dW_1764 dW_1765 ?_
  refine g_rd C X 4 0 rfl rfl (iw_2 hn hL) dW_1766 dW_1767 dW_1769 dW_1770 dW_1771 ?_
  refine g_rd C X 4 0 rfl rfl (iw_3 hn hL) dW_1772 dW_1773 dW_1775 dW_1776 dW_1777 ?_
  refine g_callVI (rest := []) C mv_L_143 [.int (xs (n + 1)), .int (xs (n + 2)), .int (xs (n + 3))] (frI1 (frI2 (s_X12_scatter M  W0))) (pM_1 (pM_2 M.2.1.1)) (pM_K1 (pM_2 M.2.1.1) (pM_K2 (o2 _ M.2.1.1) M.2.1.2)) rfl rfl (by decide) (Nat.le_of_ble_eq_true rfl) ⟨by rw [hrc]; omega, by rw [hrs]; omega⟩ dW_1778 (fun r2 U2 h2 => ?_)
  obtain ⟨_, ⟨Z2, h2, rfl⟩, rfl⟩ := h2
  obtain ⟨M2, X2, W2, h2⟩ := h2
  have T2 := T1.kM X2 (by decide)
  refine g_pop C dW_1781 rfl ?_
  refine g_goto C 1986 dW_1782 (by decide) ?_
  exact kk _ _ _ _ _ ⟨I1, A1, M2, W2, T2, ho⟩ (by omega) (by omega)
set_option maxHeartbeats 4000000 in
set_option maxRecDepth 100000 in
theorem lc_28 {E : EV} {D : va_G} {cy : Nat → ClassId} {P Q O : PP} {x m o b n L cs sl : Nat} {xs : Nat → Int32} (C : Cx E D cy 7 code RL) (X : Lx E b L xs) (hn : n + 7 ≤ L) (hL : L ≤ 3584) (J : LJ P Q O x m o) (hc : cs + 100 ≤ 601024) (hs : sl + 700 ≤ 7293034) (kk : ∀ (P2 Q2 O2 : PP) (cs2 sl2 : Nat), LJ P2 Q2 O2 x m o → cs2 ≤ cs + 100 → sl2 ≤ sl + 700 → G E room_1 D cy 7 (pM (pM P2 Q2) O2) cs2 sl2 1986 [(4, .int (nI n)), (3, .ref o), (2, .ref m), (1, .ref x), (0, .ref b)] []) : G E room_1 D cy 7 (pM (pM P Q) O) cs sl 1785 [(4, .int (nI n)), (3, .ref o), (2, .ref m), (1, .ref x), (0, .ref b)] [] := by
  obtain ⟨I, A, M, W0, T0, ho⟩ := J
  refine g_aload_n C dW_1785 rfl 3 rfl ?_
  refine g_rd C X 4 0 rfl rfl (iw_1 hn hL) dW_1786 dW_1787 dW_1789 dW_1790 dW_1791 ?_
  refine g_rd C X 4 0 rfl rfl (iw_2 hn hL) dW_1792 dW_1793 dW_1795 dW_1796 dW_1797 ?_
  refine g_callVI (rest := []) C mv_L_144 [.int (xs (n + 1)), .int (xs (n + 2))] (frI1 (frI1 (s_X11_needs I A ))) (pM_1 (pM_1 A.1)) (pM_K1 (pM_1 A.1) (pM_K1 A.1 A.2)) rfl rfl (by decide) (Nat.le_of_ble_eq_true rfl) ⟨by rw [hrc]; omega, by rw [hrs]; omega⟩ dW_1798 (fun r1 U1 h1 => ?_)
  obtain ⟨_, ⟨Z1, h1, rfl⟩, rfl⟩ := h1
  obtain ⟨I1, X1, h1⟩ := h1
  have A1 := X1.at A
  have T1 := T0.keep I A X1 (by decide)
  refine g_off (fun o2 => ?_)
  refine g_pop C dW_1801 rfl ?_
  refine g_aload_n C dW_1802 rfl 2 rfl ?_
  refine g_rd C X 4 0 rfl rfl (iw_1 hn hL) dW_1803 dW_1804 dW_1806 dW_1807 dW_1808 ?_
  refine g_rd C X 4 0 rfl rfl (iw_2 hn hL) dW_1809 dW_1810 dW_1812 dW_1813 dW_1814 ?_
  refine g_callVI (rest := []) C mv_L_147 [.int (xs (n + 1)), .int (xs (n + 2))] (frI1 (frI2 (s_X12_needs M  W0))) (pM_1 (pM_2 M.2.1.1)) (pM_K1 (pM_2 M.2.1.1) (pM_K2 (o2 _ M.2.1.1) M.2.1.2)) rfl rfl (by decide) (Nat.le_of_ble_eq_true rfl) ⟨by rw [hrc]; omega, by rw [hrs]; omega⟩ dW_1815 (fun r2 U2 h2 => ?_)
  obtain ⟨_, ⟨Z2, h2, rfl⟩, rfl⟩ := h2
  obtain ⟨M2, X2, W2, h2⟩ := h2
  have T2 := T1.kM X2 (by decide)
  refine g_pop C dW_1818 rfl ?_
  refine g_goto C 1986 dW_1819 (by decide) ?_
  exact kk _ _ _ _ _ ⟨I1, A1, M2, W2, T2, ho⟩ (by omega) (by omega)
set_option maxHeartbeats 4000000 in
set_option maxRecDepth 100000 in
theorem lc_29 {E : EV} {D : va_G} {cy : Nat → ClassId} {P Q O : PP} {x m o b n L cs sl : Nat} {xs : Nat → Int32} (C : Cx E D cy 7 code RL) (X : Lx E b L xs) (hn : n + 7 ≤ L) (hL : L ≤ 3584) (J : LJ P Q O x m o) (hc : cs + 100 ≤ 601024) (hs : sl + 700 ≤ 7293034) (kk : ∀ (P2 Q2 O2 : PP) (cs2 sl2 : Nat), LJ P2 Q2 O2 x m o → cs2 ≤ cs + 100 → sl2 ≤ sl + 700 → G E room_1 D cy 7 (pM (pM P2 Q2) O2) cs2 sl2 1986 [(4, .int (nI n)), (3, .ref o), (2, .ref m), (1, .ref x), (0, .ref b)] []) : G E room_1 D cy 7 (pM (pM P Q) O) cs sl 1822 [(4, .int (nI n)), (3, .ref o), (2, .ref m), (1, .ref x), (0, .ref b)] [] := by
  obtain ⟨I, A, M, W0, T0, ho⟩ := J
  refine g_aload_n C dW_1822 rfl 3 rfl ?_
  refine g_rd C X 4 0 rfl rfl (iw_1 hn hL) dW_1823 dW_1824 dW_1826 dW_1827 dW_1828 ?_
  refine g_rd C X 4 0 rfl rfl (iw_2 hn hL) dW_1829 dW_1830 dW_1832 dW_1833 dW_1834 ?_
  refine g_callVI (rest := []) C mv_L_148 [.int (xs (n + 1)), .int (xs (n + 2))] (frI1 (frI1 (s_X11_town I A ))) (pM_1 (pM_1 A.1)) (pM_K1 (pM_1 A.1) (pM_K1 A.1 A.2)) rfl rfl (by decide) (Nat.le_of_ble_eq_true rfl) ⟨by rw [hrc]; omega, by rw [hrs]; omega⟩ dW_1835 (fun r1 U1 h1 => ?_)
  obtain ⟨_, ⟨Z1, h1, rfl⟩, rfl⟩ := h1
  obtain ⟨I1, X1, h1⟩ := h1
  have A1 := X1.at A
  have T1 := T0.keep I A X1 (by decide)
  refine g_off (fun o2 => ?_)
  refine g_pop C dW_1838 rfl ?_
  refine g_aload_n C dW_1839 rfl 2 rfl ?_
  refine g_rd C X 4 0 rfl rfl (iw_1 hn hL) dW_1840 dW_1841 dW_1843 dW_1844 dW_1845 ?_
  refine g_rd C X 4 0 rfl rfl (iw_2 hn hL) dW_1846 dW_1847 dW_1849 dW_1850 dW_1851 ?_
  refine g_callVI (rest := []) C mv_L_151 [.int (xs (n + 1)), .int (xs (n + 2))] (frI1 (frI2 (s_X12_town M  W0))) (pM_1 (pM_2 M.2.1.1)) (pM_K1 (pM_2 M.2.1.1) (pM_K2 (o2 _ M.2.1.1) M.2.1.2)) rfl rfl (by decide) (Nat.le_of_ble_eq_true rfl) ⟨by rw [hrc]; omega, by rw [hrs]; omega⟩ dW_1852 (fun r2 U2 h2 => ?_)
  obtain ⟨_, ⟨Z2, h2, rfl⟩, rfl⟩ := h2
  obtain ⟨M2, X2, W2, h2⟩ := h2
  have T2 := T1.kM X2 (by decide)
  refine g_pop C dW_1855 rfl ?_
  refine g_goto C 1986 dW_1856 (by decide) ?_
  exact kk _ _ _ _ _ ⟨I1, A1, M2, W2, T2, ho⟩ (by omega) (by omega)
set_option maxHeartbeats 4000000 in
set_option maxRecDepth 100000 in
theorem lc_30 {E : EV} {D : va_G} {cy : Nat → ClassId} {P Q O : PP} {x m o b n L cs sl : Nat} {xs : Nat → Int32} (C : Cx E D cy 7 code RL) (X : Lx E b L xs) (hn : n + 7 ≤ L) (hL : L ≤ 3584) (J : LJ P Q O x m o) (hc : cs + 100 ≤ 601024) (hs : sl + 700 ≤ 7293034) (kk : ∀ (P2 Q2 O2 : PP) (cs2 sl2 : Nat), LJ P2 Q2 O2 x m o → cs2 ≤ cs + 100 → sl2 ≤ sl + 700 → G E room_1 D cy 7 (pM (pM P2 Q2) O2) cs2 sl2 1986 [(4, .int (nI n)), (3, .ref o), (2, .ref m), (1, .ref x), (0, .ref b)] []) : G E room_1 D cy 7 (pM (pM P Q) O) cs sl 1859 [(4, .int (nI n)), (3, .ref o), (2, .ref m), (1, .ref x), (0, .ref b)] [] := by
  obtain ⟨I, A, M, W0, T0, ho⟩ := J
  refine g_aload_n C dW_1859 rfl 3 rfl ?_
  refine g_rd C X 4 0 rfl rfl (iw_1 hn hL) dW_1860 dW_1861 dW_1863 dW_1864 dW_1865 ?_
  refine g_rd C X 4 0 rfl rfl (iw_2 hn hL) dW_1866 dW_1867 dW_1869 dW_1870 dW_1871 ?_
  refine g_rd C X 4 0 rfl rfl (iw_3 hn hL) dW_1872 dW_1873 dW_1875 dW_1876 dW_1877 ?_
  refine g_callVI (rest := []) C mv_L_152 [.int (xs (n + 1)), .int (xs (n + 2)), .int (xs (n + 3))] (frI1 (frI1 (s_X11_swap I A ))) (pM_1 (pM_1 A.1)) (pM_K1 (pM_1 A.1) (pM_K1 A.1 A.2)) rfl rfl (by decide) (Nat.le_of_ble_eq_true rfl) ⟨by rw [hrc]; omega, by rw [hrs]; omega⟩ dW_1878 (fun r1 U1 h1 => ?_)
  obtain ⟨_, ⟨Z1, h1, rfl⟩, rfl⟩ := h1
  obtain ⟨I1, X1, h1⟩ := h1
  have A1 := X1.at A
  have T1 := T0.keep I A X1 (by decide)
  refine g_off (fun o2 => ?_)
  refine g_pop C dW_1881 rfl ?_
  refine g_aload_n C dW_1882 rfl 2 rfl ?_
  refine g_rd C X 4 0 rfl rfl (iw_1 hn hL) dW_1883 dW_1884 dW_1886 dW_1887 dW_1888 ?_
  refine g_rd C X 4 0 rfl rfl (iw_2 hn hL) dW_1889 dW_1890 dW_1892 dW_1893 dW_1894 ?_
  refine g_rd C X 4 0 rfl rfl (iw_3 hn hL) dW_1895 dW_1896 dW_1898 dW_1899 dW_1900 ?_
  refine g_callVI (rest := []) C mv_L_155 [.int (xs (n + 1)), .int (xs (n + 2)), .int (xs (n + 3))] (frI1 (frI2 (s_X12_swap M  W0))) (pM_1 (pM_2 M.2.1.1)) (pM_K1 (pM_2 M.2.1.1) (pM_K2 (o2 _ M.2.1.1) M.2.1.2)) rfl rfl (by decide) (Nat.le_of_ble_eq_true rfl) ⟨by rw [hrc]; omega, by rw [hrs]; omega⟩ dW_1901 (fun r2 U2 h2 => ?_)
  obtain ⟨_, ⟨Z2, h2, rfl⟩, rfl⟩ := h2
  obtain ⟨M2, X2, W2, h2⟩ := h2
  have T2 := T1.kM X2 (by decide)
  refine g_pop C dW_1904 rfl ?_
  refine g_goto C 1986 dW_1905 (by decide) ?_
  exact kk _ _ _ _ _ ⟨I1, A1, M2, W2, T2, ho⟩ (by omega) (by omega)
set_option maxHeartbeats 4000000 in
set_option maxRecDepth 100000 in
theorem lc_31 {E : EV} {D : va_G} {cy : Nat → ClassId} {P Q O : PP} {x m o b n L cs sl : Nat} {xs : Nat → Int32} (C : Cx E D cy 7 code RL) (X : Lx E b L xs) (hn : n + 7 ≤ L) (hL : L ≤ 3584) (J : LJ P Q O x m o) (hc : cs + 100 ≤ 601024) (hs : sl + 700 ≤ 7293034) (kk : ∀ (P2 Q2 O2 : PP) (cs2 sl2 : Nat), LJ P2 Q2 O2 x m o → cs2 ≤ cs + 100 → sl2 ≤ sl + 700 → G E room_1 D cy 7 (pM (pM P2 Q2) O2) cs2 sl2 1986 [(4, .int (nI n)), (3, .ref o), (2, .ref m), (1, .ref x), (0, .ref b)] []) : G E room_1 D cy 7 (pM (pM P Q) O) cs sl 1908 [(4, .int (nI n)), (3, .ref o), (2, .ref m), (1, .ref x), (0, .ref b)] [] := by
  obtain ⟨I, A, M, W0, T0, ho⟩ := J
  by_cases hz : xs (n + 2) = 0
  · refine g_aload_n C dW_1908 rfl 3 rfl ?_
    refine g_rd C X 4 0 rfl rfl (iw_1 hn hL) dW_1909 dW_1910 dW_1912 dW_1913 dW_1914 ?_
    refine g_rd C X 4 0 rfl rfl (iw_2 hn hL) dW_1915 dW_1916 dW_1918 dW_1919 dW_1920 ?_
    refine b_if_eq C 1928 dW_1921 (by decide) (fun _ => ?_) (fun h => absurd hz h)
    refine g_iconst (v := 0) C dW_1928 (by decide) ?_
    refine g_callVI (rest := []) C mv_L_156 [.int (xs (n + 1)), .int 0] (frI1 (frI1 (s_X11_mark I A (by decide)))) (pM_1 (pM_1 A.1)) (pM_K1 (pM_1 A.1) (pM_K1 A.1 A.2)) rfl rfl (by decide) (Nat.le_of_ble_eq_true rfl) ⟨by rw [hrc]; omega, by rw [hrs]; omega⟩ dW_1929 (fun r1 U1 h1 => ?_)
    obtain ⟨_, ⟨Z1, h1, rfl⟩, rfl⟩ := h1
    obtain ⟨I1, X1, h1⟩ := h1
    have A1 := X1.at A
    have T1 := T0.keep I A X1 (by decide)
    refine g_off (fun o2 => ?_)
    refine g_pop C dW_1932 rfl ?_
    refine g_aload_n C dW_1933 rfl 2 rfl ?_
    refine g_rd C X 4 0 rfl rfl (iw_1 hn hL) dW_1934 dW_1935 dW_1937 dW_1938 dW_1939 ?_
    refine g_rd C X 4 0 rfl rfl (iw_2 hn hL) dW_1940 dW_1941 dW_1943 dW_1944 dW_1945 ?_
    refine b_if_eq C 1953 dW_1946 (by decide) (fun _ => ?_) (fun h => absurd hz h)
    refine g_iconst (v := 0) C dW_1953 (by decide) ?_
    refine g_callVI (rest := []) C mv_L_160 [.int (xs (n + 1)), .int 0] (frI1 (frI2 (s_X12_mark M (by decide) W0))) (pM_1 (pM_2 M.2.1.1)) (pM_K1 (pM_2 M.2.1.1) (pM_K2 (o2 _ M.2.1.1) M.2.1.2)) rfl rfl (by decide) (Nat.le_of_ble_eq_true rfl) ⟨by rw [hrc]; omega, by rw [hrs]; omega⟩ dW_1954 (fun r2 U2 h2 => ?_)
    obtain ⟨_, ⟨Z2, h2, rfl⟩, rfl⟩ := h2
    obtain ⟨M2, X2, W2, h2⟩ := h2
    have T2 := T1.kM X2 (by decide)
    refine g_pop C dW_1957 rfl ?_
    refine g_goto C 1986 dW_1958 (by decide) ?_
    exact kk _ _ _ _ _ ⟨I1, A1, M2, W2, T2, ho⟩ (by omega) (by omega)
  · refine g_aload_n C dW_1908 rfl 3 rfl ?_
    refine g_rd C X 4 0 rfl rfl (iw_1 hn hL) dW_1909 dW_1910 dW_1912 dW_1913 dW_1914 ?_
    refine g_rd C X 4 0 rfl rfl (iw_2 hn hL) dW_1915 dW_1916 dW_1918 dW_1919 dW_1920 ?_
    refine b_if_eq C 1928 dW_1921 (by decide) (fun h => absurd h hz) (fun _ => ?_)
    refine g_iconst (v := 1) C dW_1924 (by decide) ?_
    refine g_goto C 1929 dW_1925 (by decide) ?_
    refine g_callVI (rest := []) C mv_L_156 [.int (xs (n + 1)), .int 1] (frI1 (frI1 (s_X11_mark I A (by decide)))) (pM_1 (pM_1 A.1)) (pM_K1 (pM_1 A.1) (pM_K1 A.1 A.2)) rfl rfl (by decide) (Nat.le_of_ble_eq_true rfl) ⟨by rw [hrc]; omega, by rw [hrs]; omega⟩ dW_1929 (fun r1 U1 h1 => ?_)
    obtain ⟨_, ⟨Z1, h1, rfl⟩, rfl⟩ := h1
    obtain ⟨I1, X1, h1⟩ := h1
    have A1 := X1.at A
    have T1 := T0.keep I A X1 (by decide)
    refine g_off (fun o2 => ?_)
    refine g_pop C dW_1932 rfl ?_
    refine g_aload_n C dW_1933 rfl 2 rfl ?_
    refine g_rd C X 4 0 rfl rfl (iw_1 hn hL) dW_1934 dW_1935 dW_1937 dW_1938 dW_1939 ?_
    refine g_rd C X 4 0 rfl rfl (iw_2 hn hL) dW_1940 dW_1941 dW_1943 dW_1944 dW_1945 ?_
    refine b_if_eq C 1953 dW_1946 (by decide) (fun h => absurd h hz) (fun _ => ?_)
    refine g_iconst (v := 1) C dW_1949 (by decide) ?_
    refine g_goto C 1954 dW_1950 (by decide) ?_
    refine g_callVI (rest := []) C mv_L_160 [.int (xs (n + 1)), .int 1] (frI1 (frI2 (s_X12_mark M (by decide) W0))) (pM_1 (pM_2 M.2.1.1)) (pM_K1 (pM_2 M.2.1.1) (pM_K2 (o2 _ M.2.1.1) M.2.1.2)) rfl rfl (by decide) (Nat.le_of_ble_eq_true rfl) ⟨by rw [hrc]; omega, by rw [hrs]; omega⟩ dW_1954 (fun r2 U2 h2 => ?_)
    obtain ⟨_, ⟨Z2, h2, rfl⟩, rfl⟩ := h2
    obtain ⟨M2, X2, W2, h2⟩ := h2
    have T2 := T1.kM X2 (by decide)
    refine g_pop C dW_1957 rfl ?_
    refine g_goto C 1986 dW_1958 (by decide) ?_
    exact kk _ _ _ _ _ ⟨I1, A1, M2, W2, T2, ho⟩ (by omega) (by omega)
set_option maxHeartbeats 4000000 in
set_option maxRecDepth 100000 in
theorem lc_32 {E : EV} {D : va_G} {cy : Nat → ClassId} {P Q O : PP} {x m o b n L cs sl : Nat} {xs : Nat → Int32} (C : Cx E D cy 7 code RL) (X : Lx E b L xs) (hn : n + 7 ≤ L) (hL : L ≤ 3584) (J : LJ P Q O x m o) (hc : cs + 100 ≤ 601024) (hs : sl + 700 ≤ 7293034) (kk : ∀ (P2 Q2 O2 : PP) (cs2 sl2 : Nat), LJ P2 Q2 O2 x m o → cs2 ≤ cs + 100 → sl2 ≤ sl + 700 → G E room_1 D cy 7 (pM (pM P2 Q2) O2) cs2 sl2 1986 [(4, .int (nI n)), (3, .ref o), (2, .ref m), (1, .ref x), (0, .ref b)] []) : G E room_1 D cy 7 (pM (pM P Q) O) cs sl 1961 [(4, .int (nI n)), (3, .ref o), (2, .ref m), (1, .ref x), (0, .ref b)] [] := by
  obtain ⟨I, A, M, W0, T0, ho⟩ := J
  refine g_aload_n C dW_1961 rfl 3 rfl ?_
  refine g_rd C X 4 0 rfl rfl (iw_1 hn hL) dW_1962 dW_1963 dW_1965 dW_1966 dW_1967 ?_
  refine g_callVI (rest := []) C mv_L_161 [.int (xs (n + 1))] (frI1 (frI1 (s_X11_count I A ))) (pM_1 (pM_1 A.1)) (pM_K1 (pM_1 A.1) (pM_K1 A.1 A.2)) rfl rfl (by decide) (Nat.le_of_ble_eq_true rfl) ⟨by rw [hrc]; omega, by rw [hrs]; omega⟩ dW_1968 (fun r1 U1 h1 => ?_)
  obtain ⟨_, ⟨Z1, h1, rfl⟩, rfl⟩ := h1
  obtain ⟨rfl, h1⟩ := h1
  refine g_off (fun o2 => ?_)
  refine g_pop C dW_1971 rfl ?_
  refine g_aload_n C dW_1972 rfl 2 rfl ?_
  refine g_rd C X 4 0 rfl rfl (iw_1 hn hL) dW_1973 dW_1974 dW_1976 dW_1977 dW_1978 ?_
  refine g_callVI (rest := []) C mv_L_164 [.int (xs (n + 1))] (frI1 (frI2 (s_X12_count M  W0))) (pM_1 (pM_2 M.2.1.1)) (pM_K1 (pM_2 M.2.1.1) (pM_K2 (o2 _ M.2.1.1) M.2.1.2)) rfl rfl (by decide) (Nat.le_of_ble_eq_true rfl) ⟨by rw [hrc]; omega, by rw [hrs]; omega⟩ dW_1979 (fun r2 U2 h2 => ?_)
  obtain ⟨_, ⟨Z2, h2, rfl⟩, rfl⟩ := h2
  obtain ⟨M2, X2, W2, h2⟩ := h2
  have T2 := T0.kM X2 (by decide)
  refine g_pop C dW_1982 rfl ?_
  refine g_goto C 1986 dW_1983 (by decide) ?_
  exact kk _ _ _ _ _ ⟨I, A, M2, W2, T2, ho⟩ (by omega) (by omega)
theorem law_body {E : EV} {D : va_G} {cy : Nat → ClassId} {P Q O : PP} {x m o b n L cs sl : Nat} {xs : Nat → Int32} (C : Cx E D cy 7 code RL) (X : Lx E b L xs) (hn : n + 7 ≤ L) (hL : L ≤ 3584) (J : LJ P Q O x m o) (hc : cs + 100 ≤ 601024) (hs : sl + 700 ≤ 7293034) (Xe : Xt E) (kk : ∀ (P2 Q2 O2 : PP) (cs2 sl2 : Nat), LJ P2 Q2 O2 x m o → cs2 ≤ cs + 100 → sl2 ≤ sl + 700 → G E room_1 D cy 7 (pM (pM P2 Q2) O2) cs2 sl2 1986 [(4, .int (nI n)), (3, .ref o), (2, .ref m), (1, .ref x), (0, .ref b)] []) : G E room_1 D cy 7 (pM (pM P Q) O) cs sl 33 [(4, .int (nI n)), (3, .ref o), (2, .ref m), (1, .ref x), (0, .ref b)] [] := by
  refine g_aload_n C dW_33 rfl 4 rfl ?_
  refine g_iload C dW_34 0 rfl ?_
  refine g_sld C X (iw_0 hn hL) dW_36 ?_
  refine g_bipush (v := 63) C dW_37 (by decide) ?_
  refine g_iand C dW_39 ?_
  obtain ⟨v, hv⟩ : ∃ v, v = xs n &&& 63 := ⟨_, rfl⟩
  rw [← hv]
  by_cases h : v.toInt < 0 ∨ 32 < v.toInt
  · exact g_tableOut C 1986 dW_40 h (by decide) (kk _ _ _ _ _ J (by omega) (by omega))
  · rcases (show v.toInt = 0 ∨ v.toInt = 1 ∨ v.toInt = 2 ∨ v.toInt = 3 ∨ v.toInt = 4 ∨ v.toInt = 5 ∨ v.toInt = 6 ∨ v.toInt = 7 ∨ v.toInt = 8 ∨ v.toInt = 9 ∨ v.toInt = 10 ∨ v.toInt = 11 ∨ v.toInt = 12 ∨ v.toInt = 13 ∨ v.toInt = 14 ∨ v.toInt = 15 ∨ v.toInt = 16 ∨ v.toInt = 17 ∨ v.toInt = 18 ∨ v.toInt = 19 ∨ v.toInt = 20 ∨ v.toInt = 21 ∨ v.toInt = 22 ∨ v.toInt = 23 ∨ v.toInt = 24 ∨ v.toInt = 25 ∨ v.toInt = 26 ∨ v.toInt = 27 ∨ v.toInt = 28 ∨ v.toInt = 29 ∨ v.toInt = 30 ∨ v.toInt = 31 ∨ v.toInt = 32 by omega) with e | e | e | e | e | e | e | e | e | e | e | e | e | e | e | e | e | e | e | e | e | e | e | e | e | e | e | e | e | e | e | e | e
    · exact g_tableIn C 188 dW_40 (by omega) (by omega) (by rw [e]; rfl) (by decide) (lc_0 C X hn hL J hc hs kk)
    · exact g_tableIn C 225 dW_40 (by omega) (by omega) (by rw [e]; rfl) (by decide) (lc_1 C X hn hL J hc hs kk)
    · exact g_tableIn C 274 dW_40 (by omega) (by omega) (by rw [e]; rfl) (by decide) (lc_2 C X hn hL J hc hs kk)
    · exact g_tableIn C 421 dW_40 (by omega) (by omega) (by rw [e]; rfl) (by decide) (lc_3 C X hn hL J hc hs kk)
    · exact g_tableIn C 446 dW_40 (by omega) (by omega) (by rw [e]; rfl) (by decide) (lc_4 C X hn hL J hc hs kk)
    · exact g_tableIn C 495 dW_40 (by omega) (by omega) (by rw [e]; rfl) (by decide) (lc_5 C X hn hL J hc hs kk)
    · exact g_tableIn C 532 dW_40 (by omega) (by omega) (by rw [e]; rfl) (by decide) (lc_6 C X hn hL J hc hs kk)
    · exact g_tableIn C 593 dW_40 (by omega) (by omega) (by rw [e]; rfl) (by decide) (lc_7 C X hn hL J hc hs kk)
    · exact g_tableIn C 654 dW_40 (by omega) (by omega) (by rw [e]; rfl) (by decide) (lc_8 C X hn hL J hc hs kk)
    · exact g_tableIn C 727 dW_40 (by omega) (by omega) (by rw [e]; rfl) (by decide) (lc_9 C X hn hL J hc hs kk)
    · exact g_tableIn C 776 dW_40 (by omega) (by omega) (by rw [e]; rfl) (by decide) (lc_10 C X hn hL J hc hs Xe kk)
    · exact g_tableIn C 828 dW_40 (by omega) (by omega) (by rw [e]; rfl) (by decide) (lc_11 C X hn hL J hc hs kk)
    · exact g_tableIn C 865 dW_40 (by omega) (by omega) (by rw [e]; rfl) (by decide) (lc_12 C X hn hL J hc hs kk)
    · exact g_tableIn C 926 dW_40 (by omega) (by omega) (by rw [e]; rfl) (by decide) (lc_13 C X hn hL J hc hs kk)
    · exact g_tableIn C 987 dW_40 (by omega) (by omega) (by rw [e]; rfl) (by decide) (lc_14 C X hn hL J hc hs kk)
    · exact g_tableIn C 1048 dW_40 (by omega) (by omega) (by rw [e]; rfl) (by decide) (lc_15 C X hn hL J hc hs kk)
    · exact g_tableIn C 1109 dW_40 (by omega) (by omega) (by rw [e]; rfl) (by decide) (lc_16 C X hn hL J hc hs kk)
    · exact g_tableIn C 1170 dW_40 (by omega) (by omega) (by rw [e]; rfl) (by decide) (lc_17 C X hn hL J hc hs kk)
    · exact g_tableIn C 1231 dW_40 (by omega) (by omega) (by rw [e]; rfl) (by decide) (lc_18 C X hn hL J hc hs kk)
    · exact g_tableIn C 1280 dW_40 (by omega) (by omega) (by rw [e]; rfl) (by decide) (lc_19 C X hn hL J hc hs kk)
    · exact g_tableIn C 1341 dW_40 (by omega) (by omega) (by rw [e]; rfl) (by decide) (lc_20 C X hn hL J hc hs kk)
    · exact g_tableIn C 1390 dW_40 (by omega) (by omega) (by rw [e]; rfl) (by decide) (lc_21 C X hn hL J hc hs kk)
    · exact g_tableIn C 1451 dW_40 (by omega) (by omega) (by rw [e]; rfl) (by decide) (lc_22 C X hn hL J hc hs kk)
    · exact g_tableIn C 1528 dW_40 (by omega) (by omega) (by rw [e]; rfl) (by decide) (lc_23 C X hn hL J hc hs kk)
    · exact g_tableIn C 1589 dW_40 (by omega) (by omega) (by rw [e]; rfl) (by decide) (lc_24 C X hn hL J hc hs kk)
    · exact g_tableIn C 1650 dW_40 (by omega) (by omega) (by rw [e]; rfl) (by decide) (lc_25 C X hn hL J hc hs kk)
    · exact g_tableIn C 1687 dW_40 (by omega) (by omega) (by rw [e]; rfl) (by decide) (lc_26 C X hn hL J hc hs kk)
    · exact g_tableIn C 1736 dW_40 (by omega) (by omega) (by rw [e]; rfl) (by decide) (lc_27 C X hn hL J hc hs kk)
    · exact g_tableIn C 1785 dW_40 (by omega) (by omega) (by rw [e]; rfl) (by decide) (lc_28 C X hn hL J hc hs kk)
    · exact g_tableIn C 1822 dW_40 (by omega) (by omega) (by rw [e]; rfl) (by decide) (lc_29 C X hn hL J hc hs kk)
    · exact g_tableIn C 1859 dW_40 (by omega) (by omega) (by rw [e]; rfl) (by decide) (lc_30 C X hn hL J hc hs kk)
    · exact g_tableIn C 1908 dW_40 (by omega) (by omega) (by rw [e]; rfl) (by decide) (lc_31 C X hn hL J hc hs kk)
    · exact g_tableIn C 1961 dW_40 (by omega) (by omega) (by rw [e]; rfl) (by decide) (lc_32 C X hn hL J hc hs kk)
set_option maxHeartbeats 4000000 in
set_option maxRecDepth 100000 in
theorem law_loop {E : EV} {D : va_G} {cy : Nat → ClassId} {x m o b L : Nat} {xs : Nat → Int32} (C : Cx E D cy 7 code RL) (X : Lx E b L xs) (hL : L ≤ 3584) (Xe : Xt E) : ∀ (k t n : Nat) (P Q O : PP) (cs sl : Nat), t + k = 513 → n = 7 * t → LJ P Q O x m o → cs ≤ 157 + 100 * t → sl ≤ 11788 + 700 * t → G E room_1 D cy 7 (pM (pM P Q) O) cs sl 23 [(4, .int (nI n)), (3, .ref o), (2, .ref m), (1, .ref x), (0, .ref b)] [] := by
  intro k
  induction k with
  | zero =>
    intro t n P Q O cs sl h1 h2 J hc hs
    refine g_iload C dW_23 0 rfl ?_
    refine g_aload_n C dW_25 rfl 4 rfl ?_
    refine g_slen C X dW_26 ?_
    refine g_bipush (v := 7) C dW_27 (by decide) ?_
    refine g_isub C dW_29 ?_
    have e1 := hd_val hL
    have e2 : (nI n).toInt = (n : Int) := ti_nI (by omega)
    exact b_icmp_gt C 1992 dW_30 (by decide) (fun _ => law_fin C X (by omega) (by omega)) (fun h => absurd h (by omega))
  | succ k ih =>
    intro t n P Q O cs sl h1 h2 J hc hs
    refine g_iload C dW_23 0 rfl ?_
    refine g_aload_n C dW_25 rfl 4 rfl ?_
    refine g_slen C X dW_26 ?_
    refine g_bipush (v := 7) C dW_27 (by decide) ?_
    refine g_isub C dW_29 ?_
    have e1 := hd_val hL
    have e2 : (nI n).toInt = (n : Int) := ti_nI (by omega)
    refine b_icmp_gt C 1992 dW_30 (by decide) (fun _ => law_fin C X (by omega) (by omega)) (fun h => ?_)
    have hn : n + 7 ≤ L := by omega
    refine law_body C X hn hL J (by omega) (by omega) Xe (fun P2 Q2 O2 cs2 sl2 J2 hc2 hs2 => ?_)
    refine g_iinc (v := nI (n + 7)) (lv' := [(4, .int (nI (n + 7))), (3, .ref o), (2, .ref m), (1, .ref x), (0, .ref b)]) C dW_1986 0 rfl (nI_addc (by decide) (by omega)) (by decide) rfl ?_
    refine g_goto C 23 dW_1989 (by decide) ?_
    exact ih (t + 1) (n + 7) P2 Q2 O2 cs2 sl2 (by omega) (by omega) J2 (by omega) (by omega)
set_option maxHeartbeats 4000000 in
set_option maxRecDepth 100000 in
theorem law_walk {E : EV} {D : va_G} {cy : Nat → ClassId} {b L : Nat} {xs : Nat → Int32} (C : Cx E D cy 7 code RL) (hL : L ≤ 3584) (X : Lx E b L xs) (Xe : Xt E) : G E room_1 D cy 7 p0 0 0 0 [(0, .ref b)] [] := by
  refine g_new C ni_L_8 (by decide) (by decide) dW_0 (fun x hx => ?_)
  refine g_dup C dW_3 rfl ?_
  refine g_callCV (ci := 0) (ret := none) (rest := [.ref x]) C mi_L_15 [] (c_X11_init (S := []) (n1_mem _ _ _) (n1_K _ _ _) (n1_R _ _ _) (n1_G _ _ _) (n1_Z _ _ _) rfl) rfl rfl (by decide) (Nat.le_of_ble_eq_true rfl) (by decide) dW_4 (fun P F => ?_)
  refine g_astore_n (lv' := [(1, .ref x), (0, .ref b)]) C dW_7 rfl (by decide) rfl ?_
  refine g_new C ni_L_16 (by decide) (by decide) dW_8 (fun m hm => ?_)
  refine g_pw (pNw_pM hm) ?_
  refine g_dup C dW_11 rfl ?_
  refine g_callCV (ci := 0) (ret := none) (rest := [.ref m]) C mi_L_18 [] (frV2 (c_X12_init (S := []) (n1_mem _ _ _) (n1_K _ _ _) (n1_R _ _ _) (n1_G _ _ _) (n1_Z _ _ _) rfl)) rfl rfl (by decide) (Nat.le_of_ble_eq_true rfl) (by decide) dW_12 (fun U h => ?_)
  obtain ⟨Q, M, rfl⟩ := h
  refine g_astore_n (lv' := [(2, .ref m), (1, .ref x), (0, .ref b)]) C dW_15 rfl (by decide) rfl ?_
  refine g_iconst (v := 1) C dW_16 (by decide) ?_
  refine g_newJ (N := 1) C ac_long (by decide) (by decide) (by decide) (by decide) (by decide) dW_17 (fun o ho => ?_)
  refine g_pw (pNw_pM ho) ?_
  refine g_astore_n (lv' := [(3, .ref o), (2, .ref m), (1, .ref x), (0, .ref b)]) C dW_19 rfl (by decide) rfl ?_
  refine g_iconst (v := 0) C dW_20 (by decide) ?_
  refine g_istore (lv' := [(4, .int (nI 0)), (3, .ref o), (2, .ref m), (1, .ref x), (0, .ref b)]) C dW_21 (by decide) rfl ?_
  exact law_loop C X hL Xe 513 0 0 P Q _ _ _ rfl rfl ⟨F.1, F.2.1, M.1, M.2.1, TL.start F.1 F.2.1 F.2.2 (M.2.2.trans (n1_I _ _ _ _)), n1_mem _ _ _, n1_K _ _ _, n1_N _ _ _⟩ (Nat.le_of_ble_eq_true rfl) (Nat.le_of_ble_eq_true rfl)
