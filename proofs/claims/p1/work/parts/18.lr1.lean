theorem dW_0 : decode code 0 = .ok (.new 8, 3) := by decide +kernel
theorem dW_3 : decode code 3 = .ok (.dup, 1) := by decide +kernel
theorem dW_4 : decode code 4 = .ok (.invokespecial 15, 3) := by decide +kernel
theorem dW_7 : decode code 7 = .ok (.astore_n 1, 1) := by decide +kernel
theorem dW_8 : decode code 8 = .ok (.new 16, 3) := by decide +kernel
theorem dW_11 : decode code 11 = .ok (.dup, 1) := by decide +kernel
theorem dW_12 : decode code 12 = .ok (.invokespecial 18, 3) := by decide +kernel
theorem dW_15 : decode code 15 = .ok (.astore_n 2, 1) := by decide +kernel
theorem dW_16 : decode code 16 = .ok (.iconst 1, 1) := by decide +kernel
theorem dW_17 : decode code 17 = .ok (.newarray .long, 2) := by decide +kernel
theorem dW_19 : decode code 19 = .ok (.astore_n 3, 1) := by decide +kernel
theorem dW_20 : decode code 20 = .ok (.iconst 0, 1) := by decide +kernel
theorem dW_21 : decode code 21 = .ok (.istore 4, 2) := by decide +kernel
theorem dW_23 : decode code 23 = .ok (.iload 4, 2) := by decide +kernel
theorem dW_25 : decode code 25 = .ok (.aload_n 0, 1) := by decide +kernel
theorem dW_26 : decode code 26 = .ok (.arraylength, 1) := by decide +kernel
theorem dW_27 : decode code 27 = .ok (.bipush 7, 2) := by decide +kernel
theorem dW_29 : decode code 29 = .ok (.isub, 1) := by decide +kernel
theorem dW_30 : decode code 30 = .ok (.if_icmp .gt 1991, 3) := by decide +kernel
theorem dW_33 : decode code 33 = .ok (.aload_n 0, 1) := by decide +kernel
theorem dW_34 : decode code 34 = .ok (.iload 4, 2) := by decide +kernel
theorem dW_36 : decode code 36 = .ok (.iaload, 1) := by decide +kernel
theorem dW_37 : decode code 37 = .ok (.bipush 63, 2) := by decide +kernel
theorem dW_39 : decode code 39 = .ok (.iand, 1) := by decide +kernel
theorem dW_40 : decode code 40 = .ok (.tableswitch 1975 0 32 #[148, 185, 234, 381, 406, 455, 492, 553, 614, 687, 736, 816, 853, 914, 975, 1036, 1097, 1158, 1219, 1268, 1329, 1378, 1439, 1516, 1578, 1639, 1676, 1725, 1774, 1811, 1848, 1897, 1950], 148) := by decide +kernel
theorem dW_188 : decode code 188 = .ok (.aload_n 1, 1) := by decide +kernel
theorem dW_189 : decode code 189 = .ok (.aload_n 0, 1) := by decide +kernel
theorem dW_190 : decode code 190 = .ok (.iload 4, 2) := by decide +kernel
theorem dW_192 : decode code 192 = .ok (.iconst 1, 1) := by decide +kernel
theorem dW_193 : decode code 193 = .ok (.iadd, 1) := by decide +kernel
theorem dW_194 : decode code 194 = .ok (.iaload, 1) := by decide +kernel
theorem dW_195 : decode code 195 = .ok (.aload_n 0, 1) := by decide +kernel
theorem dW_196 : decode code 196 = .ok (.iload 4, 2) := by decide +kernel
theorem dW_198 : decode code 198 = .ok (.iconst 2, 1) := by decide +kernel
theorem dW_199 : decode code 199 = .ok (.iadd, 1) := by decide +kernel
theorem dW_200 : decode code 200 = .ok (.iaload, 1) := by decide +kernel
theorem dW_201 : decode code 201 = .ok (.invokevirtual 19, 3) := by decide +kernel
theorem dW_204 : decode code 204 = .ok (.aload_n 2, 1) := by decide +kernel
theorem dW_205 : decode code 205 = .ok (.aload_n 0, 1) := by decide +kernel
theorem dW_206 : decode code 206 = .ok (.iload 4, 2) := by decide +kernel
theorem dW_208 : decode code 208 = .ok (.iconst 1, 1) := by decide +kernel
theorem dW_209 : decode code 209 = .ok (.iadd, 1) := by decide +kernel
theorem dW_210 : decode code 210 = .ok (.iaload, 1) := by decide +kernel
theorem dW_211 : decode code 211 = .ok (.aload_n 0, 1) := by decide +kernel
theorem dW_212 : decode code 212 = .ok (.iload 4, 2) := by decide +kernel
theorem dW_214 : decode code 214 = .ok (.iconst 2, 1) := by decide +kernel
theorem dW_215 : decode code 215 = .ok (.iadd, 1) := by decide +kernel
theorem dW_216 : decode code 216 = .ok (.iaload, 1) := by decide +kernel
theorem dW_217 : decode code 217 = .ok (.invokevirtual 23, 3) := by decide +kernel
theorem dW_220 : decode code 220 = .ok (.if_icmp .eq 1795, 3) := by decide +kernel
theorem dW_225 : decode code 225 = .ok (.aload_n 1, 1) := by decide +kernel
theorem dW_226 : decode code 226 = .ok (.aload_n 0, 1) := by decide +kernel
theorem dW_227 : decode code 227 = .ok (.iload 4, 2) := by decide +kernel
theorem dW_229 : decode code 229 = .ok (.iconst 1, 1) := by decide +kernel
theorem dW_230 : decode code 230 = .ok (.iadd, 1) := by decide +kernel
theorem dW_231 : decode code 231 = .ok (.iaload, 1) := by decide +kernel
theorem dW_232 : decode code 232 = .ok (.aload_n 0, 1) := by decide +kernel
theorem dW_233 : decode code 233 = .ok (.iload 4, 2) := by decide +kernel
theorem dW_235 : decode code 235 = .ok (.iconst 2, 1) := by decide +kernel
theorem dW_236 : decode code 236 = .ok (.iadd, 1) := by decide +kernel
theorem dW_237 : decode code 237 = .ok (.iaload, 1) := by decide +kernel
theorem dW_238 : decode code 238 = .ok (.aload_n 0, 1) := by decide +kernel
theorem dW_239 : decode code 239 = .ok (.iload 4, 2) := by decide +kernel
theorem dW_241 : decode code 241 = .ok (.iconst 3, 1) := by decide +kernel
theorem dW_242 : decode code 242 = .ok (.iadd, 1) := by decide +kernel
theorem dW_243 : decode code 243 = .ok (.iaload, 1) := by decide +kernel
theorem dW_244 : decode code 244 = .ok (.invokevirtual 24, 3) := by decide +kernel
theorem dW_247 : decode code 247 = .ok (.aload_n 2, 1) := by decide +kernel
theorem dW_248 : decode code 248 = .ok (.aload_n 0, 1) := by decide +kernel
theorem dW_249 : decode code 249 = .ok (.iload 4, 2) := by decide +kernel
theorem dW_251 : decode code 251 = .ok (.iconst 1, 1) := by decide +kernel
theorem dW_252 : decode code 252 = .ok (.iadd, 1) := by decide +kernel
theorem dW_253 : decode code 253 = .ok (.iaload, 1) := by decide +kernel
theorem dW_254 : decode code 254 = .ok (.aload_n 0, 1) := by decide +kernel
theorem dW_255 : decode code 255 = .ok (.iload 4, 2) := by decide +kernel
theorem dW_257 : decode code 257 = .ok (.iconst 2, 1) := by decide +kernel
theorem dW_258 : decode code 258 = .ok (.iadd, 1) := by decide +kernel
theorem dW_259 : decode code 259 = .ok (.iaload, 1) := by decide +kernel
theorem dW_260 : decode code 260 = .ok (.aload_n 0, 1) := by decide +kernel
theorem dW_261 : decode code 261 = .ok (.iload 4, 2) := by decide +kernel
theorem dW_263 : decode code 263 = .ok (.iconst 3, 1) := by decide +kernel
theorem dW_264 : decode code 264 = .ok (.iadd, 1) := by decide +kernel
theorem dW_265 : decode code 265 = .ok (.iaload, 1) := by decide +kernel
theorem dW_266 : decode code 266 = .ok (.invokevirtual 28, 3) := by decide +kernel
theorem dW_269 : decode code 269 = .ok (.if_icmp .eq 1746, 3) := by decide +kernel
theorem dW_274 : decode code 274 = .ok (.aload_n 1, 1) := by decide +kernel
theorem dW_275 : decode code 275 = .ok (.aload_n 0, 1) := by decide +kernel
theorem dW_276 : decode code 276 = .ok (.iload 4, 2) := by decide +kernel
theorem dW_278 : decode code 278 = .ok (.iconst 1, 1) := by decide +kernel
theorem dW_279 : decode code 279 = .ok (.iadd, 1) := by decide +kernel
theorem dW_280 : decode code 280 = .ok (.iaload, 1) := by decide +kernel
theorem dW_281 : decode code 281 = .ok (.i2l, 1) := by decide +kernel
theorem dW_282 : decode code 282 = .ok (.bipush 32, 2) := by decide +kernel
theorem dW_284 : decode code 284 = .ok (.lshl, 1) := by decide +kernel
theorem dW_285 : decode code 285 = .ok (.aload_n 0, 1) := by decide +kernel
theorem dW_286 : decode code 286 = .ok (.iload 4, 2) := by decide +kernel
theorem dW_288 : decode code 288 = .ok (.iconst 2, 1) := by decide +kernel
theorem dW_289 : decode code 289 = .ok (.iadd, 1) := by decide +kernel
theorem dW_290 : decode code 290 = .ok (.iaload, 1) := by decide +kernel
theorem dW_291 : decode code 291 = .ok (.i2l, 1) := by decide +kernel
theorem dW_292 : decode code 292 = .ok (.ldc2_w 29, 3) := by decide +kernel
theorem dW_295 : decode code 295 = .ok (.land, 1) := by decide +kernel
theorem dW_296 : decode code 296 = .ok (.lor, 1) := by decide +kernel
theorem dW_297 : decode code 297 = .ok (.aload_n 0, 1) := by decide +kernel
theorem dW_298 : decode code 298 = .ok (.iload 4, 2) := by decide +kernel
theorem dW_300 : decode code 300 = .ok (.iconst 3, 1) := by decide +kernel
theorem dW_301 : decode code 301 = .ok (.iadd, 1) := by decide +kernel
theorem dW_302 : decode code 302 = .ok (.iaload, 1) := by decide +kernel
theorem dW_303 : decode code 303 = .ok (.i2l, 1) := by decide +kernel
theorem dW_304 : decode code 304 = .ok (.bipush 32, 2) := by decide +kernel
theorem dW_306 : decode code 306 = .ok (.lshl, 1) := by decide +kernel
theorem dW_307 : decode code 307 = .ok (.aload_n 0, 1) := by decide +kernel
theorem dW_308 : decode code 308 = .ok (.iload 4, 2) := by decide +kernel
theorem dW_310 : decode code 310 = .ok (.iconst 4, 1) := by decide +kernel
theorem dW_311 : decode code 311 = .ok (.iadd, 1) := by decide +kernel
theorem dW_312 : decode code 312 = .ok (.iaload, 1) := by decide +kernel
theorem dW_313 : decode code 313 = .ok (.i2l, 1) := by decide +kernel
theorem dW_314 : decode code 314 = .ok (.ldc2_w 29, 3) := by decide +kernel
theorem dW_317 : decode code 317 = .ok (.land, 1) := by decide +kernel
theorem dW_318 : decode code 318 = .ok (.lor, 1) := by decide +kernel
theorem dW_319 : decode code 319 = .ok (.aload_n 0, 1) := by decide +kernel
theorem dW_320 : decode code 320 = .ok (.iload 4, 2) := by decide +kernel
theorem dW_322 : decode code 322 = .ok (.iconst 5, 1) := by decide +kernel
theorem dW_323 : decode code 323 = .ok (.iadd, 1) := by decide +kernel
theorem dW_324 : decode code 324 = .ok (.iaload, 1) := by decide +kernel
theorem dW_325 : decode code 325 = .ok (.i2l, 1) := by decide +kernel
theorem dW_326 : decode code 326 = .ok (.bipush 32, 2) := by decide +kernel
theorem dW_328 : decode code 328 = .ok (.lshl, 1) := by decide +kernel
theorem dW_329 : decode code 329 = .ok (.aload_n 0, 1) := by decide +kernel
theorem dW_330 : decode code 330 = .ok (.iload 4, 2) := by decide +kernel
theorem dW_332 : decode code 332 = .ok (.bipush 6, 2) := by decide +kernel
theorem dW_334 : decode code 334 = .ok (.iadd, 1) := by decide +kernel
theorem dW_335 : decode code 335 = .ok (.iaload, 1) := by decide +kernel
theorem dW_336 : decode code 336 = .ok (.i2l, 1) := by decide +kernel
theorem dW_337 : decode code 337 = .ok (.ldc2_w 29, 3) := by decide +kernel
theorem dW_340 : decode code 340 = .ok (.land, 1) := by decide +kernel
theorem dW_341 : decode code 341 = .ok (.lor, 1) := by decide +kernel
theorem dW_342 : decode code 342 = .ok (.invokevirtual 31, 3) := by decide +kernel
theorem dW_345 : decode code 345 = .ok (.aload_n 2, 1) := by decide +kernel
theorem dW_346 : decode code 346 = .ok (.aload_n 0, 1) := by decide +kernel
theorem dW_347 : decode code 347 = .ok (.iload 4, 2) := by decide +kernel
theorem dW_349 : decode code 349 = .ok (.iconst 1, 1) := by decide +kernel
theorem dW_350 : decode code 350 = .ok (.iadd, 1) := by decide +kernel
theorem dW_351 : decode code 351 = .ok (.iaload, 1) := by decide +kernel
theorem dW_352 : decode code 352 = .ok (.i2l, 1) := by decide +kernel
theorem dW_353 : decode code 353 = .ok (.bipush 32, 2) := by decide +kernel
theorem dW_355 : decode code 355 = .ok (.lshl, 1) := by decide +kernel
theorem dW_356 : decode code 356 = .ok (.aload_n 0, 1) := by decide +kernel
theorem dW_357 : decode code 357 = .ok (.iload 4, 2) := by decide +kernel
theorem dW_359 : decode code 359 = .ok (.iconst 2, 1) := by decide +kernel
theorem dW_360 : decode code 360 = .ok (.iadd, 1) := by decide +kernel
theorem dW_361 : decode code 361 = .ok (.iaload, 1) := by decide +kernel
theorem dW_362 : decode code 362 = .ok (.i2l, 1) := by decide +kernel
theorem dW_363 : decode code 363 = .ok (.ldc2_w 29, 3) := by decide +kernel
theorem dW_366 : decode code 366 = .ok (.land, 1) := by decide +kernel
theorem dW_367 : decode code 367 = .ok (.lor, 1) := by decide +kernel
theorem dW_368 : decode code 368 = .ok (.aload_n 0, 1) := by decide +kernel
theorem dW_369 : decode code 369 = .ok (.iload 4, 2) := by decide +kernel
theorem dW_371 : decode code 371 = .ok (.iconst 3, 1) := by decide +kernel
theorem dW_372 : decode code 372 = .ok (.iadd, 1) := by decide +kernel
theorem dW_373 : decode code 373 = .ok (.iaload, 1) := by decide +kernel
theorem dW_374 : decode code 374 = .ok (.i2l, 1) := by decide +kernel
theorem dW_375 : decode code 375 = .ok (.bipush 32, 2) := by decide +kernel
theorem dW_377 : decode code 377 = .ok (.lshl, 1) := by decide +kernel
theorem dW_378 : decode code 378 = .ok (.aload_n 0, 1) := by decide +kernel
theorem dW_379 : decode code 379 = .ok (.iload 4, 2) := by decide +kernel
theorem dW_381 : decode code 381 = .ok (.iconst 4, 1) := by decide +kernel
theorem dW_382 : decode code 382 = .ok (.iadd, 1) := by decide +kernel
theorem dW_383 : decode code 383 = .ok (.iaload, 1) := by decide +kernel
theorem dW_384 : decode code 384 = .ok (.i2l, 1) := by decide +kernel
theorem dW_385 : decode code 385 = .ok (.ldc2_w 29, 3) := by decide +kernel
theorem dW_388 : decode code 388 = .ok (.land, 1) := by decide +kernel
theorem dW_389 : decode code 389 = .ok (.lor, 1) := by decide +kernel
theorem dW_390 : decode code 390 = .ok (.aload_n 0, 1) := by decide +kernel
theorem dW_391 : decode code 391 = .ok (.iload 4, 2) := by decide +kernel
theorem dW_393 : decode code 393 = .ok (.iconst 5, 1) := by decide +kernel
theorem dW_394 : decode code 394 = .ok (.iadd, 1) := by decide +kernel
theorem dW_395 : decode code 395 = .ok (.iaload, 1) := by decide +kernel
theorem dW_396 : decode code 396 = .ok (.i2l, 1) := by decide +kernel
theorem dW_397 : decode code 397 = .ok (.bipush 32, 2) := by decide +kernel
theorem dW_399 : decode code 399 = .ok (.lshl, 1) := by decide +kernel
theorem dW_400 : decode code 400 = .ok (.aload_n 0, 1) := by decide +kernel
theorem dW_401 : decode code 401 = .ok (.iload 4, 2) := by decide +kernel
theorem dW_403 : decode code 403 = .ok (.bipush 6, 2) := by decide +kernel
theorem dW_405 : decode code 405 = .ok (.iadd, 1) := by decide +kernel
theorem dW_406 : decode code 406 = .ok (.iaload, 1) := by decide +kernel
theorem dW_407 : decode code 407 = .ok (.i2l, 1) := by decide +kernel
theorem dW_408 : decode code 408 = .ok (.ldc2_w 29, 3) := by decide +kernel
theorem dW_411 : decode code 411 = .ok (.land, 1) := by decide +kernel
theorem dW_412 : decode code 412 = .ok (.lor, 1) := by decide +kernel
theorem dW_413 : decode code 413 = .ok (.invokevirtual 35, 3) := by decide +kernel
theorem dW_416 : decode code 416 = .ok (.if_icmp .eq 1599, 3) := by decide +kernel
theorem dW_421 : decode code 421 = .ok (.aload_n 1, 1) := by decide +kernel
theorem dW_422 : decode code 422 = .ok (.aload_n 0, 1) := by decide +kernel
theorem dW_423 : decode code 423 = .ok (.iload 4, 2) := by decide +kernel
theorem dW_425 : decode code 425 = .ok (.iconst 1, 1) := by decide +kernel
theorem dW_426 : decode code 426 = .ok (.iadd, 1) := by decide +kernel
theorem dW_427 : decode code 427 = .ok (.iaload, 1) := by decide +kernel
theorem dW_428 : decode code 428 = .ok (.invokevirtual 36, 3) := by decide +kernel
theorem dW_431 : decode code 431 = .ok (.aload_n 2, 1) := by decide +kernel
theorem dW_432 : decode code 432 = .ok (.aload_n 0, 1) := by decide +kernel
theorem dW_433 : decode code 433 = .ok (.iload 4, 2) := by decide +kernel
theorem dW_435 : decode code 435 = .ok (.iconst 1, 1) := by decide +kernel
theorem dW_436 : decode code 436 = .ok (.iadd, 1) := by decide +kernel
theorem dW_437 : decode code 437 = .ok (.iaload, 1) := by decide +kernel
theorem dW_438 : decode code 438 = .ok (.invokevirtual 40, 3) := by decide +kernel
theorem dW_441 : decode code 441 = .ok (.if_icmp .eq 1574, 3) := by decide +kernel
theorem dW_446 : decode code 446 = .ok (.aload_n 1, 1) := by decide +kernel
theorem dW_447 : decode code 447 = .ok (.aload_n 0, 1) := by decide +kernel
theorem dW_448 : decode code 448 = .ok (.iload 4, 2) := by decide +kernel
theorem dW_450 : decode code 450 = .ok (.iconst 1, 1) := by decide +kernel
theorem dW_451 : decode code 451 = .ok (.iadd, 1) := by decide +kernel
theorem dW_452 : decode code 452 = .ok (.iaload, 1) := by decide +kernel
theorem dW_453 : decode code 453 = .ok (.aload_n 0, 1) := by decide +kernel
theorem dW_454 : decode code 454 = .ok (.iload 4, 2) := by decide +kernel
theorem dW_456 : decode code 456 = .ok (.iconst 2, 1) := by decide +kernel
theorem dW_457 : decode code 457 = .ok (.iadd, 1) := by decide +kernel
theorem dW_458 : decode code 458 = .ok (.iaload, 1) := by decide +kernel
theorem dW_459 : decode code 459 = .ok (.aload_n 0, 1) := by decide +kernel
theorem dW_460 : decode code 460 = .ok (.iload 4, 2) := by decide +kernel
theorem dW_462 : decode code 462 = .ok (.iconst 3, 1) := by decide +kernel
theorem dW_463 : decode code 463 = .ok (.iadd, 1) := by decide +kernel
theorem dW_464 : decode code 464 = .ok (.iaload, 1) := by decide +kernel
theorem dW_465 : decode code 465 = .ok (.invokevirtual 41, 3) := by decide +kernel
theorem dW_468 : decode code 468 = .ok (.aload_n 2, 1) := by decide +kernel
theorem dW_469 : decode code 469 = .ok (.aload_n 0, 1) := by decide +kernel
theorem dW_470 : decode code 470 = .ok (.iload 4, 2) := by decide +kernel
theorem dW_472 : decode code 472 = .ok (.iconst 1, 1) := by decide +kernel
theorem dW_473 : decode code 473 = .ok (.iadd, 1) := by decide +kernel
theorem dW_474 : decode code 474 = .ok (.iaload, 1) := by decide +kernel
theorem dW_475 : decode code 475 = .ok (.aload_n 0, 1) := by decide +kernel
theorem dW_476 : decode code 476 = .ok (.iload 4, 2) := by decide +kernel
theorem dW_478 : decode code 478 = .ok (.iconst 2, 1) := by decide +kernel
theorem dW_479 : decode code 479 = .ok (.iadd, 1) := by decide +kernel
theorem dW_480 : decode code 480 = .ok (.iaload, 1) := by decide +kernel
theorem dW_481 : decode code 481 = .ok (.aload_n 0, 1) := by decide +kernel
theorem dW_482 : decode code 482 = .ok (.iload 4, 2) := by decide +kernel
theorem dW_484 : decode code 484 = .ok (.iconst 3, 1) := by decide +kernel
theorem dW_485 : decode code 485 = .ok (.iadd, 1) := by decide +kernel
theorem dW_486 : decode code 486 = .ok (.iaload, 1) := by decide +kernel
theorem dW_487 : decode code 487 = .ok (.invokevirtual 44, 3) := by decide +kernel
theorem dW_490 : decode code 490 = .ok (.if_icmp .eq 1525, 3) := by decide +kernel
theorem dW_495 : decode code 495 = .ok (.aload_n 1, 1) := by decide +kernel
theorem dW_496 : decode code 496 = .ok (.aload_n 0, 1) := by decide +kernel
theorem dW_497 : decode code 497 = .ok (.iload 4, 2) := by decide +kernel
theorem dW_499 : decode code 499 = .ok (.iconst 1, 1) := by decide +kernel
theorem dW_500 : decode code 500 = .ok (.iadd, 1) := by decide +kernel
theorem dW_501 : decode code 501 = .ok (.iaload, 1) := by decide +kernel
theorem dW_502 : decode code 502 = .ok (.aload_n 0, 1) := by decide +kernel
theorem dW_503 : decode code 503 = .ok (.iload 4, 2) := by decide +kernel
theorem dW_505 : decode code 505 = .ok (.iconst 2, 1) := by decide +kernel
theorem dW_506 : decode code 506 = .ok (.iadd, 1) := by decide +kernel
theorem dW_507 : decode code 507 = .ok (.iaload, 1) := by decide +kernel
theorem dW_508 : decode code 508 = .ok (.invokevirtual 45, 3) := by decide +kernel
theorem dW_511 : decode code 511 = .ok (.aload_n 2, 1) := by decide +kernel
theorem dW_512 : decode code 512 = .ok (.aload_n 0, 1) := by decide +kernel
theorem dW_513 : decode code 513 = .ok (.iload 4, 2) := by decide +kernel
theorem dW_515 : decode code 515 = .ok (.iconst 1, 1) := by decide +kernel
theorem dW_516 : decode code 516 = .ok (.iadd, 1) := by decide +kernel
theorem dW_517 : decode code 517 = .ok (.iaload, 1) := by decide +kernel
theorem dW_518 : decode code 518 = .ok (.aload_n 0, 1) := by decide +kernel
theorem dW_519 : decode code 519 = .ok (.iload 4, 2) := by decide +kernel
theorem dW_521 : decode code 521 = .ok (.iconst 2, 1) := by decide +kernel
theorem dW_522 : decode code 522 = .ok (.iadd, 1) := by decide +kernel
theorem dW_523 : decode code 523 = .ok (.iaload, 1) := by decide +kernel
theorem dW_524 : decode code 524 = .ok (.invokevirtual 49, 3) := by decide +kernel
theorem dW_527 : decode code 527 = .ok (.if_icmp .eq 1488, 3) := by decide +kernel
theorem dW_532 : decode code 532 = .ok (.aload_n 1, 1) := by decide +kernel
theorem dW_533 : decode code 533 = .ok (.aload_n 0, 1) := by decide +kernel
theorem dW_534 : decode code 534 = .ok (.iload 4, 2) := by decide +kernel
theorem dW_536 : decode code 536 = .ok (.iconst 1, 1) := by decide +kernel
theorem dW_537 : decode code 537 = .ok (.iadd, 1) := by decide +kernel
theorem dW_538 : decode code 538 = .ok (.iaload, 1) := by decide +kernel
theorem dW_539 : decode code 539 = .ok (.aload_n 0, 1) := by decide +kernel
theorem dW_540 : decode code 540 = .ok (.iload 4, 2) := by decide +kernel
theorem dW_542 : decode code 542 = .ok (.iconst 2, 1) := by decide +kernel
theorem dW_543 : decode code 543 = .ok (.iadd, 1) := by decide +kernel
theorem dW_544 : decode code 544 = .ok (.iaload, 1) := by decide +kernel
theorem dW_545 : decode code 545 = .ok (.aload_n 0, 1) := by decide +kernel
theorem dW_546 : decode code 546 = .ok (.iload 4, 2) := by decide +kernel
theorem dW_548 : decode code 548 = .ok (.iconst 3, 1) := by decide +kernel
theorem dW_549 : decode code 549 = .ok (.iadd, 1) := by decide +kernel
theorem dW_550 : decode code 550 = .ok (.iaload, 1) := by decide +kernel
theorem dW_551 : decode code 551 = .ok (.aload_n 0, 1) := by decide +kernel
theorem dW_552 : decode code 552 = .ok (.iload 4, 2) := by decide +kernel
theorem dW_554 : decode code 554 = .ok (.iconst 4, 1) := by decide +kernel
theorem dW_555 : decode code 555 = .ok (.iadd, 1) := by decide +kernel
theorem dW_556 : decode code 556 = .ok (.iaload, 1) := by decide +kernel
theorem dW_557 : decode code 557 = .ok (.invokevirtual 50, 3) := by decide +kernel
theorem dW_560 : decode code 560 = .ok (.aload_n 2, 1) := by decide +kernel
theorem dW_561 : decode code 561 = .ok (.aload_n 0, 1) := by decide +kernel
theorem dW_562 : decode code 562 = .ok (.iload 4, 2) := by decide +kernel
theorem dW_564 : decode code 564 = .ok (.iconst 1, 1) := by decide +kernel
theorem dW_565 : decode code 565 = .ok (.iadd, 1) := by decide +kernel
theorem dW_566 : decode code 566 = .ok (.iaload, 1) := by decide +kernel
theorem dW_567 : decode code 567 = .ok (.aload_n 0, 1) := by decide +kernel
theorem dW_568 : decode code 568 = .ok (.iload 4, 2) := by decide +kernel
theorem dW_570 : decode code 570 = .ok (.iconst 2, 1) := by decide +kernel
theorem dW_571 : decode code 571 = .ok (.iadd, 1) := by decide +kernel
theorem dW_572 : decode code 572 = .ok (.iaload, 1) := by decide +kernel
theorem dW_573 : decode code 573 = .ok (.aload_n 0, 1) := by decide +kernel
theorem dW_574 : decode code 574 = .ok (.iload 4, 2) := by decide +kernel
theorem dW_576 : decode code 576 = .ok (.iconst 3, 1) := by decide +kernel
theorem dW_577 : decode code 577 = .ok (.iadd, 1) := by decide +kernel
theorem dW_578 : decode code 578 = .ok (.iaload, 1) := by decide +kernel
theorem dW_579 : decode code 579 = .ok (.aload_n 0, 1) := by decide +kernel
theorem dW_580 : decode code 580 = .ok (.iload 4, 2) := by decide +kernel
theorem dW_582 : decode code 582 = .ok (.iconst 4, 1) := by decide +kernel
theorem dW_583 : decode code 583 = .ok (.iadd, 1) := by decide +kernel
theorem dW_584 : decode code 584 = .ok (.iaload, 1) := by decide +kernel
theorem dW_585 : decode code 585 = .ok (.invokevirtual 54, 3) := by decide +kernel
theorem dW_588 : decode code 588 = .ok (.if_icmp .eq 1427, 3) := by decide +kernel
theorem dW_593 : decode code 593 = .ok (.aload_n 1, 1) := by decide +kernel
theorem dW_594 : decode code 594 = .ok (.aload_n 0, 1) := by decide +kernel
theorem dW_595 : decode code 595 = .ok (.iload 4, 2) := by decide +kernel
theorem dW_597 : decode code 597 = .ok (.iconst 1, 1) := by decide +kernel
theorem dW_598 : decode code 598 = .ok (.iadd, 1) := by decide +kernel
theorem dW_599 : decode code 599 = .ok (.iaload, 1) := by decide +kernel
theorem dW_600 : decode code 600 = .ok (.aload_n 0, 1) := by decide +kernel
theorem dW_601 : decode code 601 = .ok (.iload 4, 2) := by decide +kernel
theorem dW_603 : decode code 603 = .ok (.iconst 2, 1) := by decide +kernel
theorem dW_604 : decode code 604 = .ok (.iadd, 1) := by decide +kernel
theorem dW_605 : decode code 605 = .ok (.iaload, 1) := by decide +kernel
theorem dW_606 : decode code 606 = .ok (.aload_n 0, 1) := by decide +kernel
theorem dW_607 : decode code 607 = .ok (.iload 4, 2) := by decide +kernel
theorem dW_609 : decode code 609 = .ok (.iconst 3, 1) := by decide +kernel
theorem dW_610 : decode code 610 = .ok (.iadd, 1) := by decide +kernel
theorem dW_611 : decode code 611 = .ok (.iaload, 1) := by decide +kernel
theorem dW_612 : decode code 612 = .ok (.aload_n 0, 1) := by decide +kernel
theorem dW_613 : decode code 613 = .ok (.iload 4, 2) := by decide +kernel
theorem dW_615 : decode code 615 = .ok (.iconst 4, 1) := by decide +kernel
theorem dW_616 : decode code 616 = .ok (.iadd, 1) := by decide +kernel
theorem dW_617 : decode code 617 = .ok (.iaload, 1) := by decide +kernel
theorem dW_618 : decode code 618 = .ok (.invokevirtual 55, 3) := by decide +kernel
theorem dW_621 : decode code 621 = .ok (.aload_n 2, 1) := by decide +kernel
theorem dW_622 : decode code 622 = .ok (.aload_n 0, 1) := by decide +kernel
theorem dW_623 : decode code 623 = .ok (.iload 4, 2) := by decide +kernel
theorem dW_625 : decode code 625 = .ok (.iconst 1, 1) := by decide +kernel
theorem dW_626 : decode code 626 = .ok (.iadd, 1) := by decide +kernel
theorem dW_627 : decode code 627 = .ok (.iaload, 1) := by decide +kernel
theorem dW_628 : decode code 628 = .ok (.aload_n 0, 1) := by decide +kernel
theorem dW_629 : decode code 629 = .ok (.iload 4, 2) := by decide +kernel
theorem dW_631 : decode code 631 = .ok (.iconst 2, 1) := by decide +kernel
theorem dW_632 : decode code 632 = .ok (.iadd, 1) := by decide +kernel
theorem dW_633 : decode code 633 = .ok (.iaload, 1) := by decide +kernel
theorem dW_634 : decode code 634 = .ok (.aload_n 0, 1) := by decide +kernel
theorem dW_635 : decode code 635 = .ok (.iload 4, 2) := by decide +kernel
theorem dW_637 : decode code 637 = .ok (.iconst 3, 1) := by decide +kernel
theorem dW_638 : decode code 638 = .ok (.iadd, 1) := by decide +kernel
theorem dW_639 : decode code 639 = .ok (.iaload, 1) := by decide +kernel
theorem dW_640 : decode code 640 = .ok (.aload_n 0, 1) := by decide +kernel
theorem dW_641 : decode code 641 = .ok (.iload 4, 2) := by decide +kernel
theorem dW_643 : decode code 643 = .ok (.iconst 4, 1) := by decide +kernel
theorem dW_644 : decode code 644 = .ok (.iadd, 1) := by decide +kernel
theorem dW_645 : decode code 645 = .ok (.iaload, 1) := by decide +kernel
theorem dW_646 : decode code 646 = .ok (.invokevirtual 58, 3) := by decide +kernel
theorem dW_649 : decode code 649 = .ok (.if_icmp .eq 1366, 3) := by decide +kernel
theorem dW_654 : decode code 654 = .ok (.aload_n 1, 1) := by decide +kernel
theorem dW_655 : decode code 655 = .ok (.aload_n 0, 1) := by decide +kernel
theorem dW_656 : decode code 656 = .ok (.iload 4, 2) := by decide +kernel
theorem dW_658 : decode code 658 = .ok (.iconst 1, 1) := by decide +kernel
theorem dW_659 : decode code 659 = .ok (.iadd, 1) := by decide +kernel
theorem dW_660 : decode code 660 = .ok (.iaload, 1) := by decide +kernel
theorem dW_661 : decode code 661 = .ok (.aload_n 0, 1) := by decide +kernel
theorem dW_662 : decode code 662 = .ok (.iload 4, 2) := by decide +kernel
theorem dW_664 : decode code 664 = .ok (.iconst 2, 1) := by decide +kernel
theorem dW_665 : decode code 665 = .ok (.iadd, 1) := by decide +kernel
theorem dW_666 : decode code 666 = .ok (.iaload, 1) := by decide +kernel
theorem dW_667 : decode code 667 = .ok (.aload_n 0, 1) := by decide +kernel
theorem dW_668 : decode code 668 = .ok (.iload 4, 2) := by decide +kernel
theorem dW_670 : decode code 670 = .ok (.iconst 3, 1) := by decide +kernel
theorem dW_671 : decode code 671 = .ok (.iadd, 1) := by decide +kernel
theorem dW_672 : decode code 672 = .ok (.iaload, 1) := by decide +kernel
theorem dW_673 : decode code 673 = .ok (.aload_n 0, 1) := by decide +kernel
theorem dW_674 : decode code 674 = .ok (.iload 4, 2) := by decide +kernel
theorem dW_676 : decode code 676 = .ok (.iconst 4, 1) := by decide +kernel
theorem dW_677 : decode code 677 = .ok (.iadd, 1) := by decide +kernel
theorem dW_678 : decode code 678 = .ok (.iaload, 1) := by decide +kernel
theorem dW_679 : decode code 679 = .ok (.aload_n 0, 1) := by decide +kernel
theorem dW_680 : decode code 680 = .ok (.iload 4, 2) := by decide +kernel
theorem dW_682 : decode code 682 = .ok (.iconst 5, 1) := by decide +kernel
theorem dW_683 : decode code 683 = .ok (.iadd, 1) := by decide +kernel
theorem dW_684 : decode code 684 = .ok (.iaload, 1) := by decide +kernel
theorem dW_685 : decode code 685 = .ok (.invokevirtual 59, 3) := by decide +kernel
theorem dW_688 : decode code 688 = .ok (.aload_n 2, 1) := by decide +kernel
theorem dW_689 : decode code 689 = .ok (.aload_n 0, 1) := by decide +kernel
theorem dW_690 : decode code 690 = .ok (.iload 4, 2) := by decide +kernel
theorem dW_692 : decode code 692 = .ok (.iconst 1, 1) := by decide +kernel
theorem dW_693 : decode code 693 = .ok (.iadd, 1) := by decide +kernel
theorem dW_694 : decode code 694 = .ok (.iaload, 1) := by decide +kernel
theorem dW_695 : decode code 695 = .ok (.aload_n 0, 1) := by decide +kernel
theorem dW_696 : decode code 696 = .ok (.iload 4, 2) := by decide +kernel
theorem dW_698 : decode code 698 = .ok (.iconst 2, 1) := by decide +kernel
theorem dW_699 : decode code 699 = .ok (.iadd, 1) := by decide +kernel
theorem dW_700 : decode code 700 = .ok (.iaload, 1) := by decide +kernel
theorem dW_701 : decode code 701 = .ok (.aload_n 0, 1) := by decide +kernel
theorem dW_702 : decode code 702 = .ok (.iload 4, 2) := by decide +kernel
theorem dW_704 : decode code 704 = .ok (.iconst 3, 1) := by decide +kernel
theorem dW_705 : decode code 705 = .ok (.iadd, 1) := by decide +kernel
theorem dW_706 : decode code 706 = .ok (.iaload, 1) := by decide +kernel
theorem dW_707 : decode code 707 = .ok (.aload_n 0, 1) := by decide +kernel
theorem dW_708 : decode code 708 = .ok (.iload 4, 2) := by decide +kernel
theorem dW_710 : decode code 710 = .ok (.iconst 4, 1) := by decide +kernel
theorem dW_711 : decode code 711 = .ok (.iadd, 1) := by decide +kernel
theorem dW_712 : decode code 712 = .ok (.iaload, 1) := by decide +kernel
theorem dW_713 : decode code 713 = .ok (.aload_n 0, 1) := by decide +kernel
theorem dW_714 : decode code 714 = .ok (.iload 4, 2) := by decide +kernel
theorem dW_716 : decode code 716 = .ok (.iconst 5, 1) := by decide +kernel
theorem dW_717 : decode code 717 = .ok (.iadd, 1) := by decide +kernel
theorem dW_718 : decode code 718 = .ok (.iaload, 1) := by decide +kernel
theorem dW_719 : decode code 719 = .ok (.invokevirtual 63, 3) := by decide +kernel
theorem dW_722 : decode code 722 = .ok (.if_icmp .eq 1293, 3) := by decide +kernel
theorem dW_727 : decode code 727 = .ok (.aload_n 1, 1) := by decide +kernel
theorem dW_728 : decode code 728 = .ok (.aload_n 0, 1) := by decide +kernel
theorem dW_729 : decode code 729 = .ok (.iload 4, 2) := by decide +kernel
theorem dW_731 : decode code 731 = .ok (.iconst 1, 1) := by decide +kernel
theorem dW_732 : decode code 732 = .ok (.iadd, 1) := by decide +kernel
theorem dW_733 : decode code 733 = .ok (.iaload, 1) := by decide +kernel
theorem dW_734 : decode code 734 = .ok (.aload_n 0, 1) := by decide +kernel
theorem dW_735 : decode code 735 = .ok (.iload 4, 2) := by decide +kernel
theorem dW_737 : decode code 737 = .ok (.iconst 2, 1) := by decide +kernel
theorem dW_738 : decode code 738 = .ok (.iadd, 1) := by decide +kernel
theorem dW_739 : decode code 739 = .ok (.iaload, 1) := by decide +kernel
theorem dW_740 : decode code 740 = .ok (.aload_n 0, 1) := by decide +kernel
theorem dW_741 : decode code 741 = .ok (.iload 4, 2) := by decide +kernel
theorem dW_743 : decode code 743 = .ok (.iconst 3, 1) := by decide +kernel
theorem dW_744 : decode code 744 = .ok (.iadd, 1) := by decide +kernel
theorem dW_745 : decode code 745 = .ok (.iaload, 1) := by decide +kernel
theorem dW_746 : decode code 746 = .ok (.invokevirtual 64, 3) := by decide +kernel
theorem dW_749 : decode code 749 = .ok (.aload_n 2, 1) := by decide +kernel
theorem dW_750 : decode code 750 = .ok (.aload_n 0, 1) := by decide +kernel
theorem dW_751 : decode code 751 = .ok (.iload 4, 2) := by decide +kernel
theorem dW_753 : decode code 753 = .ok (.iconst 1, 1) := by decide +kernel
theorem dW_754 : decode code 754 = .ok (.iadd, 1) := by decide +kernel
theorem dW_755 : decode code 755 = .ok (.iaload, 1) := by decide +kernel
theorem dW_756 : decode code 756 = .ok (.aload_n 0, 1) := by decide +kernel
theorem dW_757 : decode code 757 = .ok (.iload 4, 2) := by decide +kernel
theorem dW_759 : decode code 759 = .ok (.iconst 2, 1) := by decide +kernel
theorem dW_760 : decode code 760 = .ok (.iadd, 1) := by decide +kernel
theorem dW_761 : decode code 761 = .ok (.iaload, 1) := by decide +kernel
theorem dW_762 : decode code 762 = .ok (.aload_n 0, 1) := by decide +kernel
theorem dW_763 : decode code 763 = .ok (.iload 4, 2) := by decide +kernel
theorem dW_765 : decode code 765 = .ok (.iconst 3, 1) := by decide +kernel
theorem dW_766 : decode code 766 = .ok (.iadd, 1) := by decide +kernel
theorem dW_767 : decode code 767 = .ok (.iaload, 1) := by decide +kernel
theorem dW_768 : decode code 768 = .ok (.invokevirtual 67, 3) := by decide +kernel
theorem dW_771 : decode code 771 = .ok (.if_icmp .eq 1244, 3) := by decide +kernel
theorem dW_776 : decode code 776 = .ok (.aload_n 1, 1) := by decide +kernel
theorem dW_777 : decode code 777 = .ok (.aload_n 0, 1) := by decide +kernel
theorem dW_778 : decode code 778 = .ok (.iload 4, 2) := by decide +kernel
theorem dW_780 : decode code 780 = .ok (.iconst 1, 1) := by decide +kernel
theorem dW_781 : decode code 781 = .ok (.iadd, 1) := by decide +kernel
theorem dW_782 : decode code 782 = .ok (.iaload, 1) := by decide +kernel
theorem dW_783 : decode code 783 = .ok (.aload_n 0, 1) := by decide +kernel
theorem dW_784 : decode code 784 = .ok (.iload 4, 2) := by decide +kernel
theorem dW_786 : decode code 786 = .ok (.iconst 2, 1) := by decide +kernel
theorem dW_787 : decode code 787 = .ok (.iadd, 1) := by decide +kernel
theorem dW_788 : decode code 788 = .ok (.iaload, 1) := by decide +kernel
theorem dW_789 : decode code 789 = .ok (.aload_n 0, 1) := by decide +kernel
theorem dW_790 : decode code 790 = .ok (.iload 4, 2) := by decide +kernel
theorem dW_792 : decode code 792 = .ok (.iconst 3, 1) := by decide +kernel
theorem dW_793 : decode code 793 = .ok (.iadd, 1) := by decide +kernel
theorem dW_794 : decode code 794 = .ok (.iaload, 1) := by decide +kernel
theorem dW_795 : decode code 795 = .ok (.aload_n 3, 1) := by decide +kernel
theorem dW_796 : decode code 796 = .ok (.invokestatic 68, 3) := by decide +kernel
theorem dW_799 : decode code 799 = .ok (.istore 5, 2) := by decide +kernel
theorem dW_801 : decode code 801 = .ok (.aload_n 2, 1) := by decide +kernel
theorem dW_802 : decode code 802 = .ok (.aload_n 0, 1) := by decide +kernel
theorem dW_803 : decode code 803 = .ok (.iload 4, 2) := by decide +kernel
theorem dW_805 : decode code 805 = .ok (.iconst 1, 1) := by decide +kernel
theorem dW_806 : decode code 806 = .ok (.iadd, 1) := by decide +kernel
theorem dW_807 : decode code 807 = .ok (.iaload, 1) := by decide +kernel
theorem dW_808 : decode code 808 = .ok (.aload_n 0, 1) := by decide +kernel
theorem dW_809 : decode code 809 = .ok (.iload 4, 2) := by decide +kernel
theorem dW_811 : decode code 811 = .ok (.iconst 2, 1) := by decide +kernel
theorem dW_812 : decode code 812 = .ok (.iadd, 1) := by decide +kernel
theorem dW_813 : decode code 813 = .ok (.iaload, 1) := by decide +kernel
theorem dW_814 : decode code 814 = .ok (.aload_n 0, 1) := by decide +kernel
theorem dW_815 : decode code 815 = .ok (.iload 4, 2) := by decide +kernel
theorem dW_817 : decode code 817 = .ok (.iconst 3, 1) := by decide +kernel
theorem dW_818 : decode code 818 = .ok (.iadd, 1) := by decide +kernel
theorem dW_819 : decode code 819 = .ok (.iaload, 1) := by decide +kernel
theorem dW_820 : decode code 820 = .ok (.invokevirtual 73, 3) := by decide +kernel
theorem dW_823 : decode code 823 = .ok (.istore 6, 2) := by decide +kernel
theorem dW_825 : decode code 825 = .ok (.aload_n 2, 1) := by decide +kernel
theorem dW_826 : decode code 826 = .ok (.invokevirtual 74, 3) := by decide +kernel
theorem dW_829 : decode code 829 = .ok (.iload 5, 2) := by decide +kernel
theorem dW_831 : decode code 831 = .ok (.if_icmp .eq 5, 3) := by decide +kernel
theorem dW_836 : decode code 836 = .ok (.iload 5, 2) := by decide +kernel
theorem dW_838 : decode code 838 = .ok (.ifCond .ne 15, 3) := by decide +kernel
theorem dW_841 : decode code 841 = .ok (.aload_n 3, 1) := by decide +kernel
theorem dW_842 : decode code 842 = .ok (.iconst 0, 1) := by decide +kernel
theorem dW_843 : decode code 843 = .ok (.laload, 1) := by decide +kernel
theorem dW_844 : decode code 844 = .ok (.iload 6, 2) := by decide +kernel
theorem dW_846 : decode code 846 = .ok (.i2l, 1) := by decide +kernel
theorem dW_847 : decode code 847 = .ok (.lcmp, 1) := by decide +kernel
theorem dW_848 : decode code 848 = .ok (.ifCond .eq 5, 3) := by decide +kernel
theorem dW_851 : decode code 851 = .ok (.iconst 0, 1) := by decide +kernel
theorem dW_852 : decode code 852 = .ok (.ireturn, 1) := by decide +kernel
theorem dW_853 : decode code 853 = .ok (.goto 1162, 3) := by decide +kernel
theorem dW_856 : decode code 856 = .ok (.aload_n 1, 1) := by decide +kernel
theorem dW_857 : decode code 857 = .ok (.aload_n 0, 1) := by decide +kernel
theorem dW_858 : decode code 858 = .ok (.iload 4, 2) := by decide +kernel
theorem dW_860 : decode code 860 = .ok (.iconst 1, 1) := by decide +kernel
theorem dW_861 : decode code 861 = .ok (.iadd, 1) := by decide +kernel
theorem dW_862 : decode code 862 = .ok (.iaload, 1) := by decide +kernel
theorem dW_863 : decode code 863 = .ok (.aload_n 0, 1) := by decide +kernel
theorem dW_864 : decode code 864 = .ok (.iload 4, 2) := by decide +kernel
theorem dW_866 : decode code 866 = .ok (.iconst 2, 1) := by decide +kernel
theorem dW_867 : decode code 867 = .ok (.iadd, 1) := by decide +kernel
theorem dW_868 : decode code 868 = .ok (.iaload, 1) := by decide +kernel
theorem dW_869 : decode code 869 = .ok (.invokevirtual 78, 3) := by decide +kernel
theorem dW_872 : decode code 872 = .ok (.aload_n 2, 1) := by decide +kernel
theorem dW_873 : decode code 873 = .ok (.aload_n 0, 1) := by decide +kernel
theorem dW_874 : decode code 874 = .ok (.iload 4, 2) := by decide +kernel
theorem dW_876 : decode code 876 = .ok (.iconst 1, 1) := by decide +kernel
theorem dW_877 : decode code 877 = .ok (.iadd, 1) := by decide +kernel
theorem dW_878 : decode code 878 = .ok (.iaload, 1) := by decide +kernel
theorem dW_879 : decode code 879 = .ok (.aload_n 0, 1) := by decide +kernel
theorem dW_880 : decode code 880 = .ok (.iload 4, 2) := by decide +kernel
theorem dW_882 : decode code 882 = .ok (.iconst 2, 1) := by decide +kernel
theorem dW_883 : decode code 883 = .ok (.iadd, 1) := by decide +kernel
theorem dW_884 : decode code 884 = .ok (.iaload, 1) := by decide +kernel
theorem dW_885 : decode code 885 = .ok (.invokevirtual 81, 3) := by decide +kernel
theorem dW_888 : decode code 888 = .ok (.if_icmp .eq 1127, 3) := by decide +kernel
theorem dW_893 : decode code 893 = .ok (.aload_n 1, 1) := by decide +kernel
theorem dW_894 : decode code 894 = .ok (.aload_n 0, 1) := by decide +kernel
theorem dW_895 : decode code 895 = .ok (.iload 4, 2) := by decide +kernel
theorem dW_897 : decode code 897 = .ok (.iconst 1, 1) := by decide +kernel
theorem dW_898 : decode code 898 = .ok (.iadd, 1) := by decide +kernel
theorem dW_899 : decode code 899 = .ok (.iaload, 1) := by decide +kernel
theorem dW_900 : decode code 900 = .ok (.aload_n 0, 1) := by decide +kernel
theorem dW_901 : decode code 901 = .ok (.iload 4, 2) := by decide +kernel
theorem dW_903 : decode code 903 = .ok (.iconst 2, 1) := by decide +kernel
theorem dW_904 : decode code 904 = .ok (.iadd, 1) := by decide +kernel
theorem dW_905 : decode code 905 = .ok (.iaload, 1) := by decide +kernel
theorem dW_906 : decode code 906 = .ok (.aload_n 0, 1) := by decide +kernel
theorem dW_907 : decode code 907 = .ok (.iload 4, 2) := by decide +kernel
theorem dW_909 : decode code 909 = .ok (.iconst 3, 1) := by decide +kernel
theorem dW_910 : decode code 910 = .ok (.iadd, 1) := by decide +kernel
theorem dW_911 : decode code 911 = .ok (.iaload, 1) := by decide +kernel
theorem dW_912 : decode code 912 = .ok (.aload_n 0, 1) := by decide +kernel
theorem dW_913 : decode code 913 = .ok (.iload 4, 2) := by decide +kernel
theorem dW_915 : decode code 915 = .ok (.iconst 4, 1) := by decide +kernel
theorem dW_916 : decode code 916 = .ok (.iadd, 1) := by decide +kernel
theorem dW_917 : decode code 917 = .ok (.iaload, 1) := by decide +kernel
theorem dW_918 : decode code 918 = .ok (.invokevirtual 82, 3) := by decide +kernel
theorem dW_921 : decode code 921 = .ok (.aload_n 2, 1) := by decide +kernel
theorem dW_922 : decode code 922 = .ok (.aload_n 0, 1) := by decide +kernel
theorem dW_923 : decode code 923 = .ok (.iload 4, 2) := by decide +kernel
theorem dW_925 : decode code 925 = .ok (.iconst 1, 1) := by decide +kernel
theorem dW_926 : decode code 926 = .ok (.iadd, 1) := by decide +kernel
theorem dW_927 : decode code 927 = .ok (.iaload, 1) := by decide +kernel
theorem dW_928 : decode code 928 = .ok (.aload_n 0, 1) := by decide +kernel
theorem dW_929 : decode code 929 = .ok (.iload 4, 2) := by decide +kernel
theorem dW_931 : decode code 931 = .ok (.iconst 2, 1) := by decide +kernel
theorem dW_932 : decode code 932 = .ok (.iadd, 1) := by decide +kernel
theorem dW_933 : decode code 933 = .ok (.iaload, 1) := by decide +kernel
theorem dW_934 : decode code 934 = .ok (.aload_n 0, 1) := by decide +kernel
theorem dW_935 : decode code 935 = .ok (.iload 4, 2) := by decide +kernel
theorem dW_937 : decode code 937 = .ok (.iconst 3, 1) := by decide +kernel
theorem dW_938 : decode code 938 = .ok (.iadd, 1) := by decide +kernel
theorem dW_939 : decode code 939 = .ok (.iaload, 1) := by decide +kernel
theorem dW_940 : decode code 940 = .ok (.aload_n 0, 1) := by decide +kernel
theorem dW_941 : decode code 941 = .ok (.iload 4, 2) := by decide +kernel
theorem dW_943 : decode code 943 = .ok (.iconst 4, 1) := by decide +kernel
theorem dW_944 : decode code 944 = .ok (.iadd, 1) := by decide +kernel
theorem dW_945 : decode code 945 = .ok (.iaload, 1) := by decide +kernel
theorem dW_946 : decode code 946 = .ok (.invokevirtual 85, 3) := by decide +kernel
theorem dW_949 : decode code 949 = .ok (.if_icmp .eq 1066, 3) := by decide +kernel
theorem dW_954 : decode code 954 = .ok (.aload_n 1, 1) := by decide +kernel
theorem dW_955 : decode code 955 = .ok (.aload_n 0, 1) := by decide +kernel
theorem dW_956 : decode code 956 = .ok (.iload 4, 2) := by decide +kernel
theorem dW_958 : decode code 958 = .ok (.iconst 1, 1) := by decide +kernel
theorem dW_959 : decode code 959 = .ok (.iadd, 1) := by decide +kernel
theorem dW_960 : decode code 960 = .ok (.iaload, 1) := by decide +kernel
theorem dW_961 : decode code 961 = .ok (.aload_n 0, 1) := by decide +kernel
theorem dW_962 : decode code 962 = .ok (.iload 4, 2) := by decide +kernel
theorem dW_964 : decode code 964 = .ok (.iconst 2, 1) := by decide +kernel
theorem dW_965 : decode code 965 = .ok (.iadd, 1) := by decide +kernel
theorem dW_966 : decode code 966 = .ok (.iaload, 1) := by decide +kernel
theorem dW_967 : decode code 967 = .ok (.aload_n 0, 1) := by decide +kernel
theorem dW_968 : decode code 968 = .ok (.iload 4, 2) := by decide +kernel
theorem dW_970 : decode code 970 = .ok (.iconst 3, 1) := by decide +kernel
theorem dW_971 : decode code 971 = .ok (.iadd, 1) := by decide +kernel
theorem dW_972 : decode code 972 = .ok (.iaload, 1) := by decide +kernel
theorem dW_973 : decode code 973 = .ok (.aload_n 0, 1) := by decide +kernel
theorem dW_974 : decode code 974 = .ok (.iload 4, 2) := by decide +kernel
theorem dW_976 : decode code 976 = .ok (.iconst 4, 1) := by decide +kernel
theorem dW_977 : decode code 977 = .ok (.iadd, 1) := by decide +kernel
theorem dW_978 : decode code 978 = .ok (.iaload, 1) := by decide +kernel
theorem dW_979 : decode code 979 = .ok (.invokevirtual 86, 3) := by decide +kernel
theorem dW_982 : decode code 982 = .ok (.aload_n 2, 1) := by decide +kernel
theorem dW_983 : decode code 983 = .ok (.aload_n 0, 1) := by decide +kernel
theorem dW_984 : decode code 984 = .ok (.iload 4, 2) := by decide +kernel
theorem dW_986 : decode code 986 = .ok (.iconst 1, 1) := by decide +kernel
theorem dW_987 : decode code 987 = .ok (.iadd, 1) := by decide +kernel
theorem dW_988 : decode code 988 = .ok (.iaload, 1) := by decide +kernel
theorem dW_989 : decode code 989 = .ok (.aload_n 0, 1) := by decide +kernel
theorem dW_990 : decode code 990 = .ok (.iload 4, 2) := by decide +kernel
theorem dW_992 : decode code 992 = .ok (.iconst 2, 1) := by decide +kernel
theorem dW_993 : decode code 993 = .ok (.iadd, 1) := by decide +kernel
theorem dW_994 : decode code 994 = .ok (.iaload, 1) := by decide +kernel
theorem dW_995 : decode code 995 = .ok (.aload_n 0, 1) := by decide +kernel
theorem dW_996 : decode code 996 = .ok (.iload 4, 2) := by decide +kernel
theorem dW_998 : decode code 998 = .ok (.iconst 3, 1) := by decide +kernel
theorem dW_999 : decode code 999 = .ok (.iadd, 1) := by decide +kernel
theorem dW_1000 : decode code 1000 = .ok (.iaload, 1) := by decide +kernel
theorem dW_1001 : decode code 1001 = .ok (.aload_n 0, 1) := by decide +kernel
theorem dW_1002 : decode code 1002 = .ok (.iload 4, 2) := by decide +kernel
theorem dW_1004 : decode code 1004 = .ok (.iconst 4, 1) := by decide +kernel
theorem dW_1005 : decode code 1005 = .ok (.iadd, 1) := by decide +kernel
theorem dW_1006 : decode code 1006 = .ok (.iaload, 1) := by decide +kernel
theorem dW_1007 : decode code 1007 = .ok (.invokevirtual 89, 3) := by decide +kernel
theorem dW_1010 : decode code 1010 = .ok (.if_icmp .eq 1005, 3) := by decide +kernel
theorem dW_1015 : decode code 1015 = .ok (.aload_n 1, 1) := by decide +kernel
theorem dW_1016 : decode code 1016 = .ok (.aload_n 0, 1) := by decide +kernel
theorem dW_1017 : decode code 1017 = .ok (.iload 4, 2) := by decide +kernel
theorem dW_1019 : decode code 1019 = .ok (.iconst 1, 1) := by decide +kernel
theorem dW_1020 : decode code 1020 = .ok (.iadd, 1) := by decide +kernel
theorem dW_1021 : decode code 1021 = .ok (.iaload, 1) := by decide +kernel
theorem dW_1022 : decode code 1022 = .ok (.aload_n 0, 1) := by decide +kernel
theorem dW_1023 : decode code 1023 = .ok (.iload 4, 2) := by decide +kernel
theorem dW_1025 : decode code 1025 = .ok (.iconst 2, 1) := by decide +kernel
theorem dW_1026 : decode code 1026 = .ok (.iadd, 1) := by decide +kernel
theorem dW_1027 : decode code 1027 = .ok (.iaload, 1) := by decide +kernel
theorem dW_1028 : decode code 1028 = .ok (.aload_n 0, 1) := by decide +kernel
theorem dW_1029 : decode code 1029 = .ok (.iload 4, 2) := by decide +kernel
theorem dW_1031 : decode code 1031 = .ok (.iconst 3, 1) := by decide +kernel
theorem dW_1032 : decode code 1032 = .ok (.iadd, 1) := by decide +kernel
theorem dW_1033 : decode code 1033 = .ok (.iaload, 1) := by decide +kernel
theorem dW_1034 : decode code 1034 = .ok (.aload_n 0, 1) := by decide +kernel
theorem dW_1035 : decode code 1035 = .ok (.iload 4, 2) := by decide +kernel
theorem dW_1037 : decode code 1037 = .ok (.iconst 4, 1) := by decide +kernel
theorem dW_1038 : decode code 1038 = .ok (.iadd, 1) := by decide +kernel
theorem dW_1039 : decode code 1039 = .ok (.iaload, 1) := by decide +kernel
theorem dW_1040 : decode code 1040 = .ok (.invokevirtual 90, 3) := by decide +kernel
theorem dW_1043 : decode code 1043 = .ok (.aload_n 2, 1) := by decide +kernel
theorem dW_1044 : decode code 1044 = .ok (.aload_n 0, 1) := by decide +kernel
theorem dW_1045 : decode code 1045 = .ok (.iload 4, 2) := by decide +kernel
theorem dW_1047 : decode code 1047 = .ok (.iconst 1, 1) := by decide +kernel
theorem dW_1048 : decode code 1048 = .ok (.iadd, 1) := by decide +kernel
theorem dW_1049 : decode code 1049 = .ok (.iaload, 1) := by decide +kernel
theorem dW_1050 : decode code 1050 = .ok (.aload_n 0, 1) := by decide +kernel
theorem dW_1051 : decode code 1051 = .ok (.iload 4, 2) := by decide +kernel
theorem dW_1053 : decode code 1053 = .ok (.iconst 2, 1) := by decide +kernel
theorem dW_1054 : decode code 1054 = .ok (.iadd, 1) := by decide +kernel
theorem dW_1055 : decode code 1055 = .ok (.iaload, 1) := by decide +kernel
theorem dW_1056 : decode code 1056 = .ok (.aload_n 0, 1) := by decide +kernel
theorem dW_1057 : decode code 1057 = .ok (.iload 4, 2) := by decide +kernel
theorem dW_1059 : decode code 1059 = .ok (.iconst 3, 1) := by decide +kernel
theorem dW_1060 : decode code 1060 = .ok (.iadd, 1) := by decide +kernel
theorem dW_1061 : decode code 1061 = .ok (.iaload, 1) := by decide +kernel
theorem dW_1062 : decode code 1062 = .ok (.aload_n 0, 1) := by decide +kernel
theorem dW_1063 : decode code 1063 = .ok (.iload 4, 2) := by decide +kernel
theorem dW_1065 : decode code 1065 = .ok (.iconst 4, 1) := by decide +kernel
theorem dW_1066 : decode code 1066 = .ok (.iadd, 1) := by decide +kernel
theorem dW_1067 : decode code 1067 = .ok (.iaload, 1) := by decide +kernel
theorem dW_1068 : decode code 1068 = .ok (.invokevirtual 93, 3) := by decide +kernel
theorem dW_1071 : decode code 1071 = .ok (.if_icmp .eq 944, 3) := by decide +kernel
theorem dW_1076 : decode code 1076 = .ok (.aload_n 1, 1) := by decide +kernel
theorem dW_1077 : decode code 1077 = .ok (.aload_n 0, 1) := by decide +kernel
theorem dW_1078 : decode code 1078 = .ok (.iload 4, 2) := by decide +kernel
theorem dW_1080 : decode code 1080 = .ok (.iconst 1, 1) := by decide +kernel
theorem dW_1081 : decode code 1081 = .ok (.iadd, 1) := by decide +kernel
theorem dW_1082 : decode code 1082 = .ok (.iaload, 1) := by decide +kernel
