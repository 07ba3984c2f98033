theorem dW_0 : decode code 0 = .ok (.new 8, 3) := by decide +kernel
theorem dW_3 : decode code 3 = .ok (.dup, 1) := by decide +kernel
theorem dW_4 : decode code 4 = .ok (.invokespecial 15, 3) := by decide +kernel
theorem dW_7 : decode code 7 = .ok (.astore_n 1, 1) := by decide +kernel
theorem dW_8 : decode code 8 = .ok (.new 16, 3) := by decide +kernel
theorem dW_11 : decode code 11 = .ok (.dup, 1) := by decide +kernel
theorem dW_12 : decode code 12 = .ok (.invokespecial 18, 3) := by decide +kernel
theorem dW_15 : decode code 15 = .ok (.astore_n 2, 1) := by decide +kernel
theorem dW_16 : decode code 16 = .ok (.iconst 1, 1) := by decide +kernel
theorem dW_17 : decode code 17 = .ok (.newarray .long, 2) := by decide +kernel
theorem dW_19 : decode code 19 = .ok (.astore_n 3, 1) := by decide +kernel
theorem dW_20 : decode code 20 = .ok (.iconst 0, 1) := by decide +kernel
theorem dW_21 : decode code 21 = .ok (.istore 4, 2) := by decide +kernel
theorem dW_23 : decode code 23 = .ok (.iload 4, 2) := by decide +kernel
theorem dW_25 : decode code 25 = .ok (.aload_n 0, 1) := by decide +kernel
theorem dW_26 : decode code 26 = .ok (.arraylength, 1) := by decide +kernel
theorem dW_27 : decode code 27 = .ok (.bipush 7, 2) := by decide +kernel
theorem dW_29 : decode code 29 = .ok (.isub, 1) := by decide +kernel
theorem dW_30 : decode code 30 = .ok (.if_icmp .gt 1962, 3) := by decide +kernel
theorem dW_33 : decode code 33 = .ok (.aload_n 0, 1) := by decide +kernel
theorem dW_34 : decode code 34 = .ok (.iload 4, 2) := by decide +kernel
theorem dW_36 : decode code 36 = .ok (.iaload, 1) := by decide +kernel
theorem dW_37 : decode code 37 = .ok (.bipush 63, 2) := by decide +kernel
theorem dW_39 : decode code 39 = .ok (.iand, 1) := by decide +kernel
theorem dW_40 : decode code 40 = .ok (.tableswitch 1946 0 32 #[148, 185, 234, 381, 406, 455, 492, 553, 614, 687, 736, 788, 825, 886, 947, 1008, 1069, 1130, 1191, 1240, 1301, 1350, 1411, 1488, 1549, 1610, 1647, 1696, 1745, 1782, 1819, 1868, 1921], 148) := by decide +kernel
theorem dW_188 : decode code 188 = .ok (.aload_n 1, 1) := by decide +kernel
theorem dW_189 : decode code 189 = .ok (.aload_n 0, 1) := by decide +kernel
theorem dW_190 : decode code 190 = .ok (.iload 4, 2) := by decide +kernel
theorem dW_192 : decode code 192 = .ok (.iconst 1, 1) := by decide +kernel
theorem dW_193 : decode code 193 = .ok (.iadd, 1) := by decide +kernel
theorem dW_194 : decode code 194 = .ok (.iaload, 1) := by decide +kernel
theorem dW_195 : decode code 195 = .ok (.aload_n 0, 1) := by decide +kernel
theorem dW_196 : decode code 196 = .ok (.iload 4, 2) := by decide +kernel
theorem dW_198 : decode code 198 = .ok (.iconst 2, 1) := by decide +kernel
theorem dW_199 : decode code 199 = .ok (.iadd, 1) := by decide +kernel
theorem dW_200 : decode code 200 = .ok (.iaload, 1) := by decide +kernel
theorem dW_201 : decode code 201 = .ok (.invokevirtual 19, 3) := by decide +kernel
theorem dW_204 : decode code 204 = .ok (.pop, 1) := by decide +kernel
theorem dW_205 : decode code 205 = .ok (.aload_n 2, 1) := by decide +kernel
theorem dW_206 : decode code 206 = .ok (.aload_n 0, 1) := by decide +kernel
theorem dW_207 : decode code 207 = .ok (.iload 4, 2) := by decide +kernel
theorem dW_209 : decode code 209 = .ok (.iconst 1, 1) := by decide +kernel
theorem dW_210 : decode code 210 = .ok (.iadd, 1) := by decide +kernel
theorem dW_211 : decode code 211 = .ok (.iaload, 1) := by decide +kernel
theorem dW_212 : decode code 212 = .ok (.aload_n 0, 1) := by decide +kernel
theorem dW_213 : decode code 213 = .ok (.iload 4, 2) := by decide +kernel
theorem dW_215 : decode code 215 = .ok (.iconst 2, 1) := by decide +kernel
theorem dW_216 : decode code 216 = .ok (.iadd, 1) := by decide +kernel
theorem dW_217 : decode code 217 = .ok (.iaload, 1) := by decide +kernel
theorem dW_218 : decode code 218 = .ok (.invokevirtual 23, 3) := by decide +kernel
theorem dW_221 : decode code 221 = .ok (.pop, 1) := by decide +kernel
theorem dW_222 : decode code 222 = .ok (.goto 1764, 3) := by decide +kernel
theorem dW_225 : decode code 225 = .ok (.aload_n 1, 1) := by decide +kernel
theorem dW_226 : decode code 226 = .ok (.aload_n 0, 1) := by decide +kernel
theorem dW_227 : decode code 227 = .ok (.iload 4, 2) := by decide +kernel
theorem dW_229 : decode code 229 = .ok (.iconst 1, 1) := by decide +kernel
theorem dW_230 : decode code 230 = .ok (.iadd, 1) := by decide +kernel
theorem dW_231 : decode code 231 = .ok (.iaload, 1) := by decide +kernel
theorem dW_232 : decode code 232 = .ok (.aload_n 0, 1) := by decide +kernel
theorem dW_233 : decode code 233 = .ok (.iload 4, 2) := by decide +kernel
theorem dW_235 : decode code 235 = .ok (.iconst 2, 1) := by decide +kernel
theorem dW_236 : decode code 236 = .ok (.iadd, 1) := by decide +kernel
theorem dW_237 : decode code 237 = .ok (.iaload, 1) := by decide +kernel
theorem dW_238 : decode code 238 = .ok (.aload_n 0, 1) := by decide +kernel
theorem dW_239 : decode code 239 = .ok (.iload 4, 2) := by decide +kernel
theorem dW_241 : decode code 241 = .ok (.iconst 3, 1) := by decide +kernel
theorem dW_242 : decode code 242 = .ok (.iadd, 1) := by decide +kernel
theorem dW_243 : decode code 243 = .ok (.iaload, 1) := by decide +kernel
theorem dW_244 : decode code 244 = .ok (.invokevirtual 24, 3) := by decide +kernel
theorem dW_247 : decode code 247 = .ok (.pop, 1) := by decide +kernel
theorem dW_248 : decode code 248 = .ok (.aload_n 2, 1) := by decide +kernel
theorem dW_249 : decode code 249 = .ok (.aload_n 0, 1) := by decide +kernel
theorem dW_250 : decode code 250 = .ok (.iload 4, 2) := by decide +kernel
theorem dW_252 : decode code 252 = .ok (.iconst 1, 1) := by decide +kernel
theorem dW_253 : decode code 253 = .ok (.iadd, 1) := by decide +kernel
theorem dW_254 : decode code 254 = .ok (.iaload, 1) := by decide +kernel
theorem dW_255 : decode code 255 = .ok (.aload_n 0, 1) := by decide +kernel
theorem dW_256 : decode code 256 = .ok (.iload 4, 2) := by decide +kernel
theorem dW_258 : decode code 258 = .ok (.iconst 2, 1) := by decide +kernel
theorem dW_259 : decode code 259 = .ok (.iadd, 1) := by decide +kernel
theorem dW_260 : decode code 260 = .ok (.iaload, 1) := by decide +kernel
theorem dW_261 : decode code 261 = .ok (.aload_n 0, 1) := by decide +kernel
theorem dW_262 : decode code 262 = .ok (.iload 4, 2) := by decide +kernel
theorem dW_264 : decode code 264 = .ok (.iconst 3, 1) := by decide +kernel
theorem dW_265 : decode code 265 = .ok (.iadd, 1) := by decide +kernel
theorem dW_266 : decode code 266 = .ok (.iaload, 1) := by decide +kernel
theorem dW_267 : decode code 267 = .ok (.invokevirtual 28, 3) := by decide +kernel
theorem dW_270 : decode code 270 = .ok (.pop, 1) := by decide +kernel
theorem dW_271 : decode code 271 = .ok (.goto 1715, 3) := by decide +kernel
theorem dW_274 : decode code 274 = .ok (.aload_n 1, 1) := by decide +kernel
theorem dW_275 : decode code 275 = .ok (.aload_n 0, 1) := by decide +kernel
theorem dW_276 : decode code 276 = .ok (.iload 4, 2) := by decide +kernel
theorem dW_278 : decode code 278 = .ok (.iconst 1, 1) := by decide +kernel
theorem dW_279 : decode code 279 = .ok (.iadd, 1) := by decide +kernel
theorem dW_280 : decode code 280 = .ok (.iaload, 1) := by decide +kernel
theorem dW_281 : decode code 281 = .ok (.i2l, 1) := by decide +kernel
theorem dW_282 : decode code 282 = .ok (.bipush 32, 2) := by decide +kernel
theorem dW_284 : decode code 284 = .ok (.lshl, 1) := by decide +kernel
theorem dW_285 : decode code 285 = .ok (.aload_n 0, 1) := by decide +kernel
theorem dW_286 : decode code 286 = .ok (.iload 4, 2) := by decide +kernel
theorem dW_288 : decode code 288 = .ok (.iconst 2, 1) := by decide +kernel
theorem dW_289 : decode code 289 = .ok (.iadd, 1) := by decide +kernel
theorem dW_290 : decode code 290 = .ok (.iaload, 1) := by decide +kernel
theorem dW_291 : decode code 291 = .ok (.i2l, 1) := by decide +kernel
theorem dW_292 : decode code 292 = .ok (.ldc2_w 29, 3) := by decide +kernel
theorem dW_295 : decode code 295 = .ok (.land, 1) := by decide +kernel
theorem dW_296 : decode code 296 = .ok (.lor, 1) := by decide +kernel
theorem dW_297 : decode code 297 = .ok (.aload_n 0, 1) := by decide +kernel
theorem dW_298 : decode code 298 = .ok (.iload 4, 2) := by decide +kernel
theorem dW_300 : decode code 300 = .ok (.iconst 3, 1) := by decide +kernel
theorem dW_301 : decode code 301 = .ok (.iadd, 1) := by decide +kernel
theorem dW_302 : decode code 302 = .ok (.iaload, 1) := by decide +kernel
theorem dW_303 : decode code 303 = .ok (.i2l, 1) := by decide +kernel
theorem dW_304 : decode code 304 = .ok (.bipush 32, 2) := by decide +kernel
theorem dW_306 : decode code 306 = .ok (.lshl, 1) := by decide +kernel
theorem dW_307 : decode code 307 = .ok (.aload_n 0, 1) := by decide +kernel
theorem dW_308 : decode code 308 = .ok (.iload 4, 2) := by decide +kernel
theorem dW_310 : decode code 310 = .ok (.iconst 4, 1) := by decide +kernel
theorem dW_311 : decode code 311 = .ok (.iadd, 1) := by decide +kernel
theorem dW_312 : decode code 312 = .ok (.iaload, 1) := by decide +kernel
theorem dW_313 : decode code 313 = .ok (.i2l, 1) := by decide +kernel
theorem dW_314 : decode code 314 = .ok (.ldc2_w 29, 3) := by decide +kernel
theorem dW_317 : decode code 317 = .ok (.land, 1) := by decide +kernel
theorem dW_318 : decode code 318 = .ok (.lor, 1) := by decide +kernel
theorem dW_319 : decode code 319 = .ok (.aload_n 0, 1) := by decide +kernel
theorem dW_320 : decode code 320 = .ok (.iload 4, 2) := by decide +kernel
theorem dW_322 : decode code 322 = .ok (.iconst 5, 1) := by decide +kernel
theorem dW_323 : decode code 323 = .ok (.iadd, 1) := by decide +kernel
theorem dW_324 : decode code 324 = .ok (.iaload, 1) := by decide +kernel
theorem dW_325 : decode code 325 = .ok (.i2l, 1) := by decide +kernel
theorem dW_326 : decode code 326 = .ok (.bipush 32, 2) := by decide +kernel
theorem dW_328 : decode code 328 = .ok (.lshl, 1) := by decide +kernel
theorem dW_329 : decode code 329 = .ok (.aload_n 0, 1) := by decide +kernel
theorem dW_330 : decode code 330 = .ok (.iload 4, 2) := by decide +kernel
theorem dW_332 : decode code 332 = .ok (.bipush 6, 2) := by decide +kernel
theorem dW_334 : decode code 334 = .ok (.iadd, 1) := by decide +kernel
theorem dW_335 : decode code 335 = .ok (.iaload, 1) := by decide +kernel
theorem dW_336 : decode code 336 = .ok (.i2l, 1) := by decide +kernel
theorem dW_337 : decode code 337 = .ok (.ldc2_w 29, 3) := by decide +kernel
theorem dW_340 : decode code 340 = .ok (.land, 1) := by decide +kernel
theorem dW_341 : decode code 341 = .ok (.lor, 1) := by decide +kernel
theorem dW_342 : decode code 342 = .ok (.invokevirtual 31, 3) := by decide +kernel
theorem dW_345 : decode code 345 = .ok (.aload_n 2, 1) := by decide +kernel
theorem dW_346 : decode code 346 = .ok (.aload_n 0, 1) := by decide +kernel
theorem dW_347 : decode code 347 = .ok (.iload 4, 2) := by decide +kernel
theorem dW_349 : decode code 349 = .ok (.iconst 1, 1) := by decide +kernel
theorem dW_350 : decode code 350 = .ok (.iadd, 1) := by decide +kernel
theorem dW_351 : decode code 351 = .ok (.iaload, 1) := by decide +kernel
theorem dW_352 : decode code 352 = .ok (.i2l, 1) := by decide +kernel
theorem dW_353 : decode code 353 = .ok (.bipush 32, 2) := by decide +kernel
theorem dW_355 : decode code 355 = .ok (.lshl, 1) := by decide +kernel
theorem dW_356 : decode code 356 = .ok (.aload_n 0, 1) := by decide +kernel
theorem dW_357 : decode code 357 = .ok (.iload 4, 2) := by decide +kernel
theorem dW_359 : decode code 359 = .ok (.iconst 2, 1) := by decide +kernel
theorem dW_360 : decode code 360 = .ok (.iadd, 1) := by decide +kernel
theorem dW_361 : decode code 361 = .ok (.iaload, 1) := by decide +kernel
theorem dW_362 : decode code 362 = .ok (.i2l, 1) := by decide +kernel
theorem dW_363 : decode code 363 = .ok (.ldc2_w 29, 3) := by decide +kernel
theorem dW_366 : decode code 366 = .ok (.land, 1) := by decide +kernel
theorem dW_367 : decode code 367 = .ok (.lor, 1) := by decide +kernel
theorem dW_368 : decode code 368 = .ok (.aload_n 0, 1) := by decide +kernel
theorem dW_369 : decode code 369 = .ok (.iload 4, 2) := by decide +kernel
theorem dW_371 : decode code 371 = .ok (.iconst 3, 1) := by decide +kernel
theorem dW_372 : decode code 372 = .ok (.iadd, 1) := by decide +kernel
theorem dW_373 : decode code 373 = .ok (.iaload, 1) := by decide +kernel
theorem dW_374 : decode code 374 = .ok (.i2l, 1) := by decide +kernel
theorem dW_375 : decode code 375 = .ok (.bipush 32, 2) := by decide +kernel
theorem dW_377 : decode code 377 = .ok (.lshl, 1) := by decide +kernel
theorem dW_378 : decode code 378 = .ok (.aload_n 0, 1) := by decide +kernel
theorem dW_379 : decode code 379 = .ok (.iload 4, 2) := by decide +kernel
theorem dW_381 : decode code 381 = .ok (.iconst 4, 1) := by decide +kernel
theorem dW_382 : decode code 382 = .ok (.iadd, 1) := by decide +kernel
theorem dW_383 : decode code 383 = .ok (.iaload, 1) := by decide +kernel
theorem dW_384 : decode code 384 = .ok (.i2l, 1) := by decide +kernel
theorem dW_385 : decode code 385 = .ok (.ldc2_w 29, 3) := by decide +kernel
theorem dW_388 : decode code 388 = .ok (.land, 1) := by decide +kernel
theorem dW_389 : decode code 389 = .ok (.lor, 1) := by decide +kernel
theorem dW_390 : decode code 390 = .ok (.aload_n 0, 1) := by decide +kernel
theorem dW_391 : decode code 391 = .ok (.iload 4, 2) := by decide +kernel
theorem dW_393 : decode code 393 = .ok (.iconst 5, 1) := by decide +kernel
theorem dW_394 : decode code 394 = .ok (.iadd, 1) := by decide +kernel
theorem dW_395 : decode code 395 = .ok (.iaload, 1) := by decide +kernel
theorem dW_396 : decode code 396 = .ok (.i2l, 1) := by decide +kernel
theorem dW_397 : decode code 397 = .ok (.bipush 32, 2) := by decide +kernel
theorem dW_399 : decode code 399 = .ok (.lshl, 1) := by decide +kernel
theorem dW_400 : decode code 400 = .ok (.aload_n 0, 1) := by decide +kernel
theorem dW_401 : decode code 401 = .ok (.iload 4, 2) := by decide +kernel
theorem dW_403 : decode code 403 = .ok (.bipush 6, 2) := by decide +kernel
theorem dW_405 : decode code 405 = .ok (.iadd, 1) := by decide +kernel
theorem dW_406 : decode code 406 = .ok (.iaload, 1) := by decide +kernel
theorem dW_407 : decode code 407 = .ok (.i2l, 1) := by decide +kernel
theorem dW_408 : decode code 408 = .ok (.ldc2_w 29, 3) := by decide +kernel
theorem dW_411 : decode code 411 = .ok (.land, 1) := by decide +kernel
theorem dW_412 : decode code 412 = .ok (.lor, 1) := by decide +kernel
theorem dW_413 : decode code 413 = .ok (.invokevirtual 35, 3) := by decide +kernel
theorem dW_416 : decode code 416 = .ok (.if_icmp .eq 1570, 3) := by decide +kernel
theorem dW_419 : decode code 419 = .ok (.iconst 0, 1) := by decide +kernel
theorem dW_420 : decode code 420 = .ok (.ireturn, 1) := by decide +kernel
theorem dW_421 : decode code 421 = .ok (.aload_n 1, 1) := by decide +kernel
theorem dW_422 : decode code 422 = .ok (.aload_n 0, 1) := by decide +kernel
theorem dW_423 : decode code 423 = .ok (.iload 4, 2) := by decide +kernel
theorem dW_425 : decode code 425 = .ok (.iconst 1, 1) := by decide +kernel
theorem dW_426 : decode code 426 = .ok (.iadd, 1) := by decide +kernel
theorem dW_427 : decode code 427 = .ok (.iaload, 1) := by decide +kernel
theorem dW_428 : decode code 428 = .ok (.invokevirtual 36, 3) := by decide +kernel
theorem dW_431 : decode code 431 = .ok (.pop, 1) := by decide +kernel
theorem dW_432 : decode code 432 = .ok (.aload_n 2, 1) := by decide +kernel
theorem dW_433 : decode code 433 = .ok (.aload_n 0, 1) := by decide +kernel
theorem dW_434 : decode code 434 = .ok (.iload 4, 2) := by decide +kernel
theorem dW_436 : decode code 436 = .ok (.iconst 1, 1) := by decide +kernel
theorem dW_437 : decode code 437 = .ok (.iadd, 1) := by decide +kernel
theorem dW_438 : decode code 438 = .ok (.iaload, 1) := by decide +kernel
theorem dW_439 : decode code 439 = .ok (.invokevirtual 40, 3) := by decide +kernel
theorem dW_442 : decode code 442 = .ok (.pop, 1) := by decide +kernel
theorem dW_443 : decode code 443 = .ok (.goto 1543, 3) := by decide +kernel
theorem dW_446 : decode code 446 = .ok (.aload_n 1, 1) := by decide +kernel
theorem dW_447 : decode code 447 = .ok (.aload_n 0, 1) := by decide +kernel
theorem dW_448 : decode code 448 = .ok (.iload 4, 2) := by decide +kernel
theorem dW_450 : decode code 450 = .ok (.iconst 1, 1) := by decide +kernel
theorem dW_451 : decode code 451 = .ok (.iadd, 1) := by decide +kernel
theorem dW_452 : decode code 452 = .ok (.iaload, 1) := by decide +kernel
theorem dW_453 : decode code 453 = .ok (.aload_n 0, 1) := by decide +kernel
theorem dW_454 : decode code 454 = .ok (.iload 4, 2) := by decide +kernel
theorem dW_456 : decode code 456 = .ok (.iconst 2, 1) := by decide +kernel
theorem dW_457 : decode code 457 = .ok (.iadd, 1) := by decide +kernel
theorem dW_458 : decode code 458 = .ok (.iaload, 1) := by decide +kernel
theorem dW_459 : decode code 459 = .ok (.aload_n 0, 1) := by decide +kernel
theorem dW_460 : decode code 460 = .ok (.iload 4, 2) := by decide +kernel
theorem dW_462 : decode code 462 = .ok (.iconst 3, 1) := by decide +kernel
theorem dW_463 : decode code 463 = .ok (.iadd, 1) := by decide +kernel
theorem dW_464 : decode code 464 = .ok (.iaload, 1) := by decide +kernel
theorem dW_465 : decode code 465 = .ok (.invokevirtual 41, 3) := by decide +kernel
theorem dW_468 : decode code 468 = .ok (.pop, 1) := by decide +kernel
theorem dW_469 : decode code 469 = .ok (.aload_n 2, 1) := by decide +kernel
theorem dW_470 : decode code 470 = .ok (.aload_n 0, 1) := by decide +kernel
theorem dW_471 : decode code 471 = .ok (.iload 4, 2) := by decide +kernel
theorem dW_473 : decode code 473 = .ok (.iconst 1, 1) := by decide +kernel
theorem dW_474 : decode code 474 = .ok (.iadd, 1) := by decide +kernel
theorem dW_475 : decode code 475 = .ok (.iaload, 1) := by decide +kernel
theorem dW_476 : decode code 476 = .ok (.aload_n 0, 1) := by decide +kernel
theorem dW_477 : decode code 477 = .ok (.iload 4, 2) := by decide +kernel
theorem dW_479 : decode code 479 = .ok (.iconst 2, 1) := by decide +kernel
theorem dW_480 : decode code 480 = .ok (.iadd, 1) := by decide +kernel
theorem dW_481 : decode code 481 = .ok (.iaload, 1) := by decide +kernel
theorem dW_482 : decode code 482 = .ok (.aload_n 0, 1) := by decide +kernel
theorem dW_483 : decode code 483 = .ok (.iload 4, 2) := by decide +kernel
theorem dW_485 : decode code 485 = .ok (.iconst 3, 1) := by decide +kernel
theorem dW_486 : decode code 486 = .ok (.iadd, 1) := by decide +kernel
theorem dW_487 : decode code 487 = .ok (.iaload, 1) := by decide +kernel
theorem dW_488 : decode code 488 = .ok (.invokevirtual 44, 3) := by decide +kernel
theorem dW_491 : decode code 491 = .ok (.pop, 1) := by decide +kernel
theorem dW_492 : decode code 492 = .ok (.goto 1494, 3) := by decide +kernel
theorem dW_495 : decode code 495 = .ok (.aload_n 1, 1) := by decide +kernel
theorem dW_496 : decode code 496 = .ok (.aload_n 0, 1) := by decide +kernel
theorem dW_497 : decode code 497 = .ok (.iload 4, 2) := by decide +kernel
theorem dW_499 : decode code 499 = .ok (.iconst 1, 1) := by decide +kernel
theorem dW_500 : decode code 500 = .ok (.iadd, 1) := by decide +kernel
theorem dW_501 : decode code 501 = .ok (.iaload, 1) := by decide +kernel
theorem dW_502 : decode code 502 = .ok (.aload_n 0, 1) := by decide +kernel
theorem dW_503 : decode code 503 = .ok (.iload 4, 2) := by decide +kernel
theorem dW_505 : decode code 505 = .ok (.iconst 2, 1) := by decide +kernel
theorem dW_506 : decode code 506 = .ok (.iadd, 1) := by decide +kernel
theorem dW_507 : decode code 507 = .ok (.iaload, 1) := by decide +kernel
theorem dW_508 : decode code 508 = .ok (.invokevirtual 45, 3) := by decide +kernel
theorem dW_511 : decode code 511 = .ok (.pop, 1) := by decide +kernel
theorem dW_512 : decode code 512 = .ok (.aload_n 2, 1) := by decide +kernel
theorem dW_513 : decode code 513 = .ok (.aload_n 0, 1) := by decide +kernel
theorem dW_514 : decode code 514 = .ok (.iload 4, 2) := by decide +kernel
theorem dW_516 : decode code 516 = .ok (.iconst 1, 1) := by decide +kernel
theorem dW_517 : decode code 517 = .ok (.iadd, 1) := by decide +kernel
theorem dW_518 : decode code 518 = .ok (.iaload, 1) := by decide +kernel
theorem dW_519 : decode code 519 = .ok (.aload_n 0, 1) := by decide +kernel
theorem dW_520 : decode code 520 = .ok (.iload 4, 2) := by decide +kernel
theorem dW_522 : decode code 522 = .ok (.iconst 2, 1) := by decide +kernel
theorem dW_523 : decode code 523 = .ok (.iadd, 1) := by decide +kernel
theorem dW_524 : decode code 524 = .ok (.iaload, 1) := by decide +kernel
theorem dW_525 : decode code 525 = .ok (.invokevirtual 49, 3) := by decide +kernel
theorem dW_528 : decode code 528 = .ok (.pop, 1) := by decide +kernel
theorem dW_529 : decode code 529 = .ok (.goto 1457, 3) := by decide +kernel
theorem dW_532 : decode code 532 = .ok (.aload_n 1, 1) := by decide +kernel
theorem dW_533 : decode code 533 = .ok (.aload_n 0, 1) := by decide +kernel
theorem dW_534 : decode code 534 = .ok (.iload 4, 2) := by decide +kernel
theorem dW_536 : decode code 536 = .ok (.iconst 1, 1) := by decide +kernel
theorem dW_537 : decode code 537 = .ok (.iadd, 1) := by decide +kernel
theorem dW_538 : decode code 538 = .ok (.iaload, 1) := by decide +kernel
theorem dW_539 : decode code 539 = .ok (.aload_n 0, 1) := by decide +kernel
theorem dW_540 : decode code 540 = .ok (.iload 4, 2) := by decide +kernel
theorem dW_542 : decode code 542 = .ok (.iconst 2, 1) := by decide +kernel
theorem dW_543 : decode code 543 = .ok (.iadd, 1) := by decide +kernel
theorem dW_544 : decode code 544 = .ok (.iaload, 1) := by decide +kernel
theorem dW_545 : decode code 545 = .ok (.aload_n 0, 1) := by decide +kernel
theorem dW_546 : decode code 546 = .ok (.iload 4, 2) := by decide +kernel
theorem dW_548 : decode code 548 = .ok (.iconst 3, 1) := by decide +kernel
theorem dW_549 : decode code 549 = .ok (.iadd, 1) := by decide +kernel
theorem dW_550 : decode code 550 = .ok (.iaload, 1) := by decide +kernel
theorem dW_551 : decode code 551 = .ok (.aload_n 0, 1) := by decide +kernel
theorem dW_552 : decode code 552 = .ok (.iload 4, 2) := by decide +kernel
theorem dW_554 : decode code 554 = .ok (.iconst 4, 1) := by decide +kernel
theorem dW_555 : decode code 555 = .ok (.iadd, 1) := by decide +kernel
theorem dW_556 : decode code 556 = .ok (.iaload, 1) := by decide +kernel
theorem dW_557 : decode code 557 = .ok (.invokevirtual 50, 3) := by decide +kernel
theorem dW_560 : decode code 560 = .ok (.pop, 1) := by decide +kernel
theorem dW_561 : decode code 561 = .ok (.aload_n 2, 1) := by decide +kernel
theorem dW_562 : decode code 562 = .ok (.aload_n 0, 1) := by decide +kernel
theorem dW_563 : decode code 563 = .ok (.iload 4, 2) := by decide +kernel
theorem dW_565 : decode code 565 = .ok (.iconst 1, 1) := by decide +kernel
theorem dW_566 : decode code 566 = .ok (.iadd, 1) := by decide +kernel
theorem dW_567 : decode code 567 = .ok (.iaload, 1) := by decide +kernel
theorem dW_568 : decode code 568 = .ok (.aload_n 0, 1) := by decide +kernel
theorem dW_569 : decode code 569 = .ok (.iload 4, 2) := by decide +kernel
theorem dW_571 : decode code 571 = .ok (.iconst 2, 1) := by decide +kernel
theorem dW_572 : decode code 572 = .ok (.iadd, 1) := by decide +kernel
theorem dW_573 : decode code 573 = .ok (.iaload, 1) := by decide +kernel
theorem dW_574 : decode code 574 = .ok (.aload_n 0, 1) := by decide +kernel
theorem dW_575 : decode code 575 = .ok (.iload 4, 2) := by decide +kernel
theorem dW_577 : decode code 577 = .ok (.iconst 3, 1) := by decide +kernel
theorem dW_578 : decode code 578 = .ok (.iadd, 1) := by decide +kernel
theorem dW_579 : decode code 579 = .ok (.iaload, 1) := by decide +kernel
theorem dW_580 : decode code 580 = .ok (.aload_n 0, 1) := by decide +kernel
theorem dW_581 : decode code 581 = .ok (.iload 4, 2) := by decide +kernel
theorem dW_583 : decode code 583 = .ok (.iconst 4, 1) := by decide +kernel
theorem dW_584 : decode code 584 = .ok (.iadd, 1) := by decide +kernel
theorem dW_585 : decode code 585 = .ok (.iaload, 1) := by decide +kernel
theorem dW_586 : decode code 586 = .ok (.invokevirtual 54, 3) := by decide +kernel
theorem dW_589 : decode code 589 = .ok (.pop, 1) := by decide +kernel
theorem dW_590 : decode code 590 = .ok (.goto 1396, 3) := by decide +kernel
theorem dW_593 : decode code 593 = .ok (.aload_n 1, 1) := by decide +kernel
theorem dW_594 : decode code 594 = .ok (.aload_n 0, 1) := by decide +kernel
theorem dW_595 : decode code 595 = .ok (.iload 4, 2) := by decide +kernel
theorem dW_597 : decode code 597 = .ok (.iconst 1, 1) := by decide +kernel
theorem dW_598 : decode code 598 = .ok (.iadd, 1) := by decide +kernel
theorem dW_599 : decode code 599 = .ok (.iaload, 1) := by decide +kernel
theorem dW_600 : decode code 600 = .ok (.aload_n 0, 1) := by decide +kernel
theorem dW_601 : decode code 601 = .ok (.iload 4, 2) := by decide +kernel
theorem dW_603 : decode code 603 = .ok (.iconst 2, 1) := by decide +kernel
theorem dW_604 : decode code 604 = .ok (.iadd, 1) := by decide +kernel
theorem dW_605 : decode code 605 = .ok (.iaload, 1) := by decide +kernel
theorem dW_606 : decode code 606 = .ok (.aload_n 0, 1) := by decide +kernel
theorem dW_607 : decode code 607 = .ok (.iload 4, 2) := by decide +kernel
theorem dW_609 : decode code 609 = .ok (.iconst 3, 1) := by decide +kernel
theorem dW_610 : decode code 610 = .ok (.iadd, 1) := by decide +kernel
theorem dW_611 : decode code 611 = .ok (.iaload, 1) := by decide +kernel
theorem dW_612 : decode code 612 = .ok (.aload_n 0, 1) := by decide +kernel
theorem dW_613 : decode code 613 = .ok (.iload 4, 2) := by decide +kernel
theorem dW_615 : decode code 615 = .ok (.iconst 4, 1) := by decide +kernel
theorem dW_616 : decode code 616 = .ok (.iadd, 1) := by decide +kernel
theorem dW_617 : decode code 617 = .ok (.iaload, 1) := by decide +kernel
theorem dW_618 : decode code 618 = .ok (.invokevirtual 55, 3) := by decide +kernel
theorem dW_621 : decode code 621 = .ok (.pop, 1) := by decide +kernel
theorem dW_622 : decode code 622 = .ok (.aload_n 2, 1) := by decide +kernel
theorem dW_623 : decode code 623 = .ok (.aload_n 0, 1) := by decide +kernel
theorem dW_624 : decode code 624 = .ok (.iload 4, 2) := by decide +kernel
theorem dW_626 : decode code 626 = .ok (.iconst 1, 1) := by decide +kernel
theorem dW_627 : decode code 627 = .ok (.iadd, 1) := by decide +kernel
theorem dW_628 : decode code 628 = .ok (.iaload, 1) := by decide +kernel
theorem dW_629 : decode code 629 = .ok (.aload_n 0, 1) := by decide +kernel
theorem dW_630 : decode code 630 = .ok (.iload 4, 2) := by decide +kernel
theorem dW_632 : decode code 632 = .ok (.iconst 2, 1) := by decide +kernel
theorem dW_633 : decode code 633 = .ok (.iadd, 1) := by decide +kernel
theorem dW_634 : decode code 634 = .ok (.iaload, 1) := by decide +kernel
theorem dW_635 : decode code 635 = .ok (.aload_n 0, 1) := by decide +kernel
theorem dW_636 : decode code 636 = .ok (.iload 4, 2) := by decide +kernel
theorem dW_638 : decode code 638 = .ok (.iconst 3, 1) := by decide +kernel
theorem dW_639 : decode code 639 = .ok (.iadd, 1) := by decide +kernel
theorem dW_640 : decode code 640 = .ok (.iaload, 1) := by decide +kernel
theorem dW_641 : decode code 641 = .ok (.aload_n 0, 1) := by decide +kernel
theorem dW_642 : decode code 642 = .ok (.iload 4, 2) := by decide +kernel
theorem dW_644 : decode code 644 = .ok (.iconst 4, 1) := by decide +kernel
theorem dW_645 : decode code 645 = .ok (.iadd, 1) := by decide +kernel
theorem dW_646 : decode code 646 = .ok (.iaload, 1) := by decide +kernel
theorem dW_647 : decode code 647 = .ok (.invokevirtual 58, 3) := by decide +kernel
theorem dW_650 : decode code 650 = .ok (.pop, 1) := by decide +kernel
theorem dW_651 : decode code 651 = .ok (.goto 1335, 3) := by decide +kernel
theorem dW_654 : decode code 654 = .ok (.aload_n 1, 1) := by decide +kernel
theorem dW_655 : decode code 655 = .ok (.aload_n 0, 1) := by decide +kernel
theorem dW_656 : decode code 656 = .ok (.iload 4, 2) := by decide +kernel
theorem dW_658 : decode code 658 = .ok (.iconst 1, 1) := by decide +kernel
theorem dW_659 : decode code 659 = .ok (.iadd, 1) := by decide +kernel
theorem dW_660 : decode code 660 = .ok (.iaload, 1) := by decide +kernel
theorem dW_661 : decode code 661 = .ok (.aload_n 0, 1) := by decide +kernel
theorem dW_662 : decode code 662 = .ok (.iload 4, 2) := by decide +kernel
theorem dW_664 : decode code 664 = .ok (.iconst 2, 1) := by decide +kernel
theorem dW_665 : decode code 665 = .ok (.iadd, 1) := by decide +kernel
theorem dW_666 : decode code 666 = .ok (.iaload, 1) := by decide +kernel
theorem dW_667 : decode code 667 = .ok (.aload_n 0, 1) := by decide +kernel
theorem dW_668 : decode code 668 = .ok (.iload 4, 2) := by decide +kernel
theorem dW_670 : decode code 670 = .ok (.iconst 3, 1) := by decide +kernel
theorem dW_671 : decode code 671 = .ok (.iadd, 1) := by decide +kernel
theorem dW_672 : decode code 672 = .ok (.iaload, 1) := by decide +kernel
theorem dW_673 : decode code 673 = .ok (.aload_n 0, 1) := by decide +kernel
theorem dW_674 : decode code 674 = .ok (.iload 4, 2) := by decide +kernel
theorem dW_676 : decode code 676 = .ok (.iconst 4, 1) := by decide +kernel
theorem dW_677 : decode code 677 = .ok (.iadd, 1) := by decide +kernel
theorem dW_678 : decode code 678 = .ok (.iaload, 1) := by decide +kernel
theorem dW_679 : decode code 679 = .ok (.aload_n 0, 1) := by decide +kernel
theorem dW_680 : decode code 680 = .ok (.iload 4, 2) := by decide +kernel
theorem dW_682 : decode code 682 = .ok (.iconst 5, 1) := by decide +kernel
theorem dW_683 : decode code 683 = .ok (.iadd, 1) := by decide +kernel
theorem dW_684 : decode code 684 = .ok (.iaload, 1) := by decide +kernel
theorem dW_685 : decode code 685 = .ok (.invokevirtual 59, 3) := by decide +kernel
theorem dW_688 : decode code 688 = .ok (.pop, 1) := by decide +kernel
theorem dW_689 : decode code 689 = .ok (.aload_n 2, 1) := by decide +kernel
theorem dW_690 : decode code 690 = .ok (.aload_n 0, 1) := by decide +kernel
theorem dW_691 : decode code 691 = .ok (.iload 4, 2) := by decide +kernel
theorem dW_693 : decode code 693 = .ok (.iconst 1, 1) := by decide +kernel
theorem dW_694 : decode code 694 = .ok (.iadd, 1) := by decide +kernel
theorem dW_695 : decode code 695 = .ok (.iaload, 1) := by decide +kernel
theorem dW_696 : decode code 696 = .ok (.aload_n 0, 1) := by decide +kernel
theorem dW_697 : decode code 697 = .ok (.iload 4, 2) := by decide +kernel
theorem dW_699 : decode code 699 = .ok (.iconst 2, 1) := by decide +kernel
theorem dW_700 : decode code 700 = .ok (.iadd, 1) := by decide +kernel
theorem dW_701 : decode code 701 = .ok (.iaload, 1) := by decide +kernel
theorem dW_702 : decode code 702 = .ok (.aload_n 0, 1) := by decide +kernel
theorem dW_703 : decode code 703 = .ok (.iload 4, 2) := by decide +kernel
theorem dW_705 : decode code 705 = .ok (.iconst 3, 1) := by decide +kernel
theorem dW_706 : decode code 706 = .ok (.iadd, 1) := by decide +kernel
theorem dW_707 : decode code 707 = .ok (.iaload, 1) := by decide +kernel
theorem dW_708 : decode code 708 = .ok (.aload_n 0, 1) := by decide +kernel
theorem dW_709 : decode code 709 = .ok (.iload 4, 2) := by decide +kernel
theorem dW_711 : decode code 711 = .ok (.iconst 4, 1) := by decide +kernel
theorem dW_712 : decode code 712 = .ok (.iadd, 1) := by decide +kernel
theorem dW_713 : decode code 713 = .ok (.iaload, 1) := by decide +kernel
theorem dW_714 : decode code 714 = .ok (.aload_n 0, 1) := by decide +kernel
theorem dW_715 : decode code 715 = .ok (.iload 4, 2) := by decide +kernel
theorem dW_717 : decode code 717 = .ok (.iconst 5, 1) := by decide +kernel
theorem dW_718 : decode code 718 = .ok (.iadd, 1) := by decide +kernel
theorem dW_719 : decode code 719 = .ok (.iaload, 1) := by decide +kernel
theorem dW_720 : decode code 720 = .ok (.invokevirtual 63, 3) := by decide +kernel
theorem dW_723 : decode code 723 = .ok (.pop, 1) := by decide +kernel
theorem dW_724 : decode code 724 = .ok (.goto 1262, 3) := by decide +kernel
theorem dW_727 : decode code 727 = .ok (.aload_n 1, 1) := by decide +kernel
theorem dW_728 : decode code 728 = .ok (.aload_n 0, 1) := by decide +kernel
theorem dW_729 : decode code 729 = .ok (.iload 4, 2) := by decide +kernel
theorem dW_731 : decode code 731 = .ok (.iconst 1, 1) := by decide +kernel
theorem dW_732 : decode code 732 = .ok (.iadd, 1) := by decide +kernel
theorem dW_733 : decode code 733 = .ok (.iaload, 1) := by decide +kernel
theorem dW_734 : decode code 734 = .ok (.aload_n 0, 1) := by decide +kernel
theorem dW_735 : decode code 735 = .ok (.iload 4, 2) := by decide +kernel
theorem dW_737 : decode code 737 = .ok (.iconst 2, 1) := by decide +kernel
theorem dW_738 : decode code 738 = .ok (.iadd, 1) := by decide +kernel
theorem dW_739 : decode code 739 = .ok (.iaload, 1) := by decide +kernel
theorem dW_740 : decode code 740 = .ok (.aload_n 0, 1) := by decide +kernel
theorem dW_741 : decode code 741 = .ok (.iload 4, 2) := by decide +kernel
theorem dW_743 : decode code 743 = .ok (.iconst 3, 1) := by decide +kernel
theorem dW_744 : decode code 744 = .ok (.iadd, 1) := by decide +kernel
theorem dW_745 : decode code 745 = .ok (.iaload, 1) := by decide +kernel
theorem dW_746 : decode code 746 = .ok (.invokevirtual 64, 3) := by decide +kernel
theorem dW_749 : decode code 749 = .ok (.pop, 1) := by decide +kernel
theorem dW_750 : decode code 750 = .ok (.aload_n 2, 1) := by decide +kernel
theorem dW_751 : decode code 751 = .ok (.aload_n 0, 1) := by decide +kernel
theorem dW_752 : decode code 752 = .ok (.iload 4, 2) := by decide +kernel
theorem dW_754 : decode code 754 = .ok (.iconst 1, 1) := by decide +kernel
theorem dW_755 : decode code 755 = .ok (.iadd, 1) := by decide +kernel
theorem dW_756 : decode code 756 = .ok (.iaload, 1) := by decide +kernel
theorem dW_757 : decode code 757 = .ok (.aload_n 0, 1) := by decide +kernel
theorem dW_758 : decode code 758 = .ok (.iload 4, 2) := by decide +kernel
theorem dW_760 : decode code 760 = .ok (.iconst 2, 1) := by decide +kernel
theorem dW_761 : decode code 761 = .ok (.iadd, 1) := by decide +kernel
theorem dW_762 : decode code 762 = .ok (.iaload, 1) := by decide +kernel
theorem dW_763 : decode code 763 = .ok (.aload_n 0, 1) := by decide +kernel
theorem dW_764 : decode code 764 = .ok (.iload 4, 2) := by decide +kernel
theorem dW_766 : decode code 766 = .ok (.iconst 3, 1) := by decide +kernel
theorem dW_767 : decode code 767 = .ok (.iadd, 1) := by decide +kernel
theorem dW_768 : decode code 768 = .ok (.iaload, 1) := by decide +kernel
theorem dW_769 : decode code 769 = .ok (.invokevirtual 67, 3) := by decide +kernel
theorem dW_772 : decode code 772 = .ok (.pop, 1) := by decide +kernel
theorem dW_773 : decode code 773 = .ok (.goto 1213, 3) := by decide +kernel
theorem dW_776 : decode code 776 = .ok (.aload_n 1, 1) := by decide +kernel
theorem dW_777 : decode code 777 = .ok (.aload_n 0, 1) := by decide +kernel
theorem dW_778 : decode code 778 = .ok (.iload 4, 2) := by decide +kernel
theorem dW_780 : decode code 780 = .ok (.iconst 1, 1) := by decide +kernel
theorem dW_781 : decode code 781 = .ok (.iadd, 1) := by decide +kernel
theorem dW_782 : decode code 782 = .ok (.iaload, 1) := by decide +kernel
theorem dW_783 : decode code 783 = .ok (.aload_n 0, 1) := by decide +kernel
theorem dW_784 : decode code 784 = .ok (.iload 4, 2) := by decide +kernel
theorem dW_786 : decode code 786 = .ok (.iconst 2, 1) := by decide +kernel
theorem dW_787 : decode code 787 = .ok (.iadd, 1) := by decide +kernel
theorem dW_788 : decode code 788 = .ok (.iaload, 1) := by decide +kernel
theorem dW_789 : decode code 789 = .ok (.aload_n 0, 1) := by decide +kernel
theorem dW_790 : decode code 790 = .ok (.iload 4, 2) := by decide +kernel
theorem dW_792 : decode code 792 = .ok (.iconst 3, 1) := by decide +kernel
theorem dW_793 : decode code 793 = .ok (.iadd, 1) := by decide +kernel
theorem dW_794 : decode code 794 = .ok (.iaload, 1) := by decide +kernel
theorem dW_795 : decode code 795 = .ok (.aload_n 3, 1) := by decide +kernel
theorem dW_796 : decode code 796 = .ok (.invokestatic 68, 3) := by decide +kernel
theorem dW_799 : decode code 799 = .ok (.istore 5, 2) := by decide +kernel
theorem dW_801 : decode code 801 = .ok (.aload_n 2, 1) := by decide +kernel
theorem dW_802 : decode code 802 = .ok (.aload_n 0, 1) := by decide +kernel
theorem dW_803 : decode code 803 = .ok (.iload 4, 2) := by decide +kernel
theorem dW_805 : decode code 805 = .ok (.iconst 1, 1) := by decide +kernel
theorem dW_806 : decode code 806 = .ok (.iadd, 1) := by decide +kernel
theorem dW_807 : decode code 807 = .ok (.iaload, 1) := by decide +kernel
theorem dW_808 : decode code 808 = .ok (.aload_n 0, 1) := by decide +kernel
theorem dW_809 : decode code 809 = .ok (.iload 4, 2) := by decide +kernel
theorem dW_811 : decode code 811 = .ok (.iconst 2, 1) := by decide +kernel
theorem dW_812 : decode code 812 = .ok (.iadd, 1) := by decide +kernel
theorem dW_813 : decode code 813 = .ok (.iaload, 1) := by decide +kernel
theorem dW_814 : decode code 814 = .ok (.aload_n 0, 1) := by decide +kernel
theorem dW_815 : decode code 815 = .ok (.iload 4, 2) := by decide +kernel
theorem dW_817 : decode code 817 = .ok (.iconst 3, 1) := by decide +kernel
theorem dW_818 : decode code 818 = .ok (.iadd, 1) := by decide +kernel
theorem dW_819 : decode code 819 = .ok (.iaload, 1) := by decide +kernel
theorem dW_820 : decode code 820 = .ok (.invokevirtual 73, 3) := by decide +kernel
theorem dW_823 : decode code 823 = .ok (.istore 6, 2) := by decide +kernel
theorem dW_825 : decode code 825 = .ok (.goto 1161, 3) := by decide +kernel
theorem dW_828 : decode code 828 = .ok (.aload_n 1, 1) := by decide +kernel
theorem dW_829 : decode code 829 = .ok (.aload_n 0, 1) := by decide +kernel
theorem dW_830 : decode code 830 = .ok (.iload 4, 2) := by decide +kernel
theorem dW_832 : decode code 832 = .ok (.iconst 1, 1) := by decide +kernel
theorem dW_833 : decode code 833 = .ok (.iadd, 1) := by decide +kernel
theorem dW_834 : decode code 834 = .ok (.iaload, 1) := by decide +kernel
theorem dW_835 : decode code 835 = .ok (.aload_n 0, 1) := by decide +kernel
theorem dW_836 : decode code 836 = .ok (.iload 4, 2) := by decide +kernel
theorem dW_838 : decode code 838 = .ok (.iconst 2, 1) := by decide +kernel
theorem dW_839 : decode code 839 = .ok (.iadd, 1) := by decide +kernel
theorem dW_840 : decode code 840 = .ok (.iaload, 1) := by decide +kernel
theorem dW_841 : decode code 841 = .ok (.invokevirtual 74, 3) := by decide +kernel
theorem dW_844 : decode code 844 = .ok (.pop, 1) := by decide +kernel
theorem dW_845 : decode code 845 = .ok (.aload_n 2, 1) := by decide +kernel
theorem dW_846 : decode code 846 = .ok (.aload_n 0, 1) := by decide +kernel
theorem dW_847 : decode code 847 = .ok (.iload 4, 2) := by decide +kernel
theorem dW_849 : decode code 849 = .ok (.iconst 1, 1) := by decide +kernel
theorem dW_850 : decode code 850 = .ok (.iadd, 1) := by decide +kernel
theorem dW_851 : decode code 851 = .ok (.iaload, 1) := by decide +kernel
theorem dW_852 : decode code 852 = .ok (.aload_n 0, 1) := by decide +kernel
theorem dW_853 : decode code 853 = .ok (.iload 4, 2) := by decide +kernel
theorem dW_855 : decode code 855 = .ok (.iconst 2, 1) := by decide +kernel
theorem dW_856 : decode code 856 = .ok (.iadd, 1) := by decide +kernel
theorem dW_857 : decode code 857 = .ok (.iaload, 1) := by decide +kernel
theorem dW_858 : decode code 858 = .ok (.invokevirtual 77, 3) := by decide +kernel
theorem dW_861 : decode code 861 = .ok (.pop, 1) := by decide +kernel
theorem dW_862 : decode code 862 = .ok (.goto 1124, 3) := by decide +kernel
theorem dW_865 : decode code 865 = .ok (.aload_n 1, 1) := by decide +kernel
theorem dW_866 : decode code 866 = .ok (.aload_n 0, 1) := by decide +kernel
theorem dW_867 : decode code 867 = .ok (.iload 4, 2) := by decide +kernel
theorem dW_869 : decode code 869 = .ok (.iconst 1, 1) := by decide +kernel
theorem dW_870 : decode code 870 = .ok (.iadd, 1) := by decide +kernel
theorem dW_871 : decode code 871 = .ok (.iaload, 1) := by decide +kernel
theorem dW_872 : decode code 872 = .ok (.aload_n 0, 1) := by decide +kernel
theorem dW_873 : decode code 873 = .ok (.iload 4, 2) := by decide +kernel
theorem dW_875 : decode code 875 = .ok (.iconst 2, 1) := by decide +kernel
theorem dW_876 : decode code 876 = .ok (.iadd, 1) := by decide +kernel
theorem dW_877 : decode code 877 = .ok (.iaload, 1) := by decide +kernel
theorem dW_878 : decode code 878 = .ok (.aload_n 0, 1) := by decide +kernel
theorem dW_879 : decode code 879 = .ok (.iload 4, 2) := by decide +kernel
theorem dW_881 : decode code 881 = .ok (.iconst 3, 1) := by decide +kernel
theorem dW_882 : decode code 882 = .ok (.iadd, 1) := by decide +kernel
theorem dW_883 : decode code 883 = .ok (.iaload, 1) := by decide +kernel
theorem dW_884 : decode code 884 = .ok (.aload_n 0, 1) := by decide +kernel
theorem dW_885 : decode code 885 = .ok (.iload 4, 2) := by decide +kernel
theorem dW_887 : decode code 887 = .ok (.iconst 4, 1) := by decide +kernel
theorem dW_888 : decode code 888 = .ok (.iadd, 1) := by decide +kernel
theorem dW_889 : decode code 889 = .ok (.iaload, 1) := by decide +kernel
theorem dW_890 : decode code 890 = .ok (.invokevirtual 78, 3) := by decide +kernel
theorem dW_893 : decode code 893 = .ok (.pop, 1) := by decide +kernel
theorem dW_894 : decode code 894 = .ok (.aload_n 2, 1) := by decide +kernel
theorem dW_895 : decode code 895 = .ok (.aload_n 0, 1) := by decide +kernel
theorem dW_896 : decode code 896 = .ok (.iload 4, 2) := by decide +kernel
theorem dW_898 : decode code 898 = .ok (.iconst 1, 1) := by decide +kernel
theorem dW_899 : decode code 899 = .ok (.iadd, 1) := by decide +kernel
theorem dW_900 : decode code 900 = .ok (.iaload, 1) := by decide +kernel
theorem dW_901 : decode code 901 = .ok (.aload_n 0, 1) := by decide +kernel
theorem dW_902 : decode code 902 = .ok (.iload 4, 2) := by decide +kernel
theorem dW_904 : decode code 904 = .ok (.iconst 2, 1) := by decide +kernel
theorem dW_905 : decode code 905 = .ok (.iadd, 1) := by decide +kernel
theorem dW_906 : decode code 906 = .ok (.iaload, 1) := by decide +kernel
theorem dW_907 : decode code 907 = .ok (.aload_n 0, 1) := by decide +kernel
theorem dW_908 : decode code 908 = .ok (.iload 4, 2) := by decide +kernel
theorem dW_910 : decode code 910 = .ok (.iconst 3, 1) := by decide +kernel
theorem dW_911 : decode code 911 = .ok (.iadd, 1) := by decide +kernel
theorem dW_912 : decode code 912 = .ok (.iaload, 1) := by decide +kernel
theorem dW_913 : decode code 913 = .ok (.aload_n 0, 1) := by decide +kernel
theorem dW_914 : decode code 914 = .ok (.iload 4, 2) := by decide +kernel
theorem dW_916 : decode code 916 = .ok (.iconst 4, 1) := by decide +kernel
theorem dW_917 : decode code 917 = .ok (.iadd, 1) := by decide +kernel
theorem dW_918 : decode code 918 = .ok (.iaload, 1) := by decide +kernel
theorem dW_919 : decode code 919 = .ok (.invokevirtual 81, 3) := by decide +kernel
theorem dW_922 : decode code 922 = .ok (.pop, 1) := by decide +kernel
theorem dW_923 : decode code 923 = .ok (.goto 1063, 3) := by decide +kernel
theorem dW_926 : decode code 926 = .ok (.aload_n 1, 1) := by decide +kernel
theorem dW_927 : decode code 927 = .ok (.aload_n 0, 1) := by decide +kernel
theorem dW_928 : decode code 928 = .ok (.iload 4, 2) := by decide +kernel
theorem dW_930 : decode code 930 = .ok (.iconst 1, 1) := by decide +kernel
theorem dW_931 : decode code 931 = .ok (.iadd, 1) := by decide +kernel
theorem dW_932 : decode code 932 = .ok (.iaload, 1) := by decide +kernel
theorem dW_933 : decode code 933 = .ok (.aload_n 0, 1) := by decide +kernel
theorem dW_934 : decode code 934 = .ok (.iload 4, 2) := by decide +kernel
theorem dW_936 : decode code 936 = .ok (.iconst 2, 1) := by decide +kernel
theorem dW_937 : decode code 937 = .ok (.iadd, 1) := by decide +kernel
theorem dW_938 : decode code 938 = .ok (.iaload, 1) := by decide +kernel
theorem dW_939 : decode code 939 = .ok (.aload_n 0, 1) := by decide +kernel
theorem dW_940 : decode code 940 = .ok (.iload 4, 2) := by decide +kernel
theorem dW_942 : decode code 942 = .ok (.iconst 3, 1) := by decide +kernel
theorem dW_943 : decode code 943 = .ok (.iadd, 1) := by decide +kernel
theorem dW_944 : decode code 944 = .ok (.iaload, 1) := by decide +kernel
theorem dW_945 : decode code 945 = .ok (.aload_n 0, 1) := by decide +kernel
theorem dW_946 : decode code 946 = .ok (.iload 4, 2) := by decide +kernel
theorem dW_948 : decode code 948 = .ok (.iconst 4, 1) := by decide +kernel
theorem dW_949 : decode code 949 = .ok (.iadd, 1) := by decide +kernel
theorem dW_950 : decode code 950 = .ok (.iaload, 1) := by decide +kernel
theorem dW_951 : decode code 951 = .ok (.invokevirtual 82, 3) := by decide +kernel
theorem dW_954 : decode code 954 = .ok (.pop, 1) := by decide +kernel
theorem dW_955 : decode code 955 = .ok (.aload_n 2, 1) := by decide +kernel
theorem dW_956 : decode code 956 = .ok (.aload_n 0, 1) := by decide +kernel
theorem dW_957 : decode code 957 = .ok (.iload 4, 2) := by decide +kernel
theorem dW_959 : decode code 959 = .ok (.iconst 1, 1) := by decide +kernel
theorem dW_960 : decode code 960 = .ok (.iadd, 1) := by decide +kernel
theorem dW_961 : decode code 961 = .ok (.iaload, 1) := by decide +kernel
theorem dW_962 : decode code 962 = .ok (.aload_n 0, 1) := by decide +kernel
theorem dW_963 : decode code 963 = .ok (.iload 4, 2) := by decide +kernel
theorem dW_965 : decode code 965 = .ok (.iconst 2, 1) := by decide +kernel
theorem dW_966 : decode code 966 = .ok (.iadd, 1) := by decide +kernel
theorem dW_967 : decode code 967 = .ok (.iaload, 1) := by decide +kernel
theorem dW_968 : decode code 968 = .ok (.aload_n 0, 1) := by decide +kernel
theorem dW_969 : decode code 969 = .ok (.iload 4, 2) := by decide +kernel
theorem dW_971 : decode code 971 = .ok (.iconst 3, 1) := by decide +kernel
theorem dW_972 : decode code 972 = .ok (.iadd, 1) := by decide +kernel
theorem dW_973 : decode code 973 = .ok (.iaload, 1) := by decide +kernel
theorem dW_974 : decode code 974 = .ok (.aload_n 0, 1) := by decide +kernel
theorem dW_975 : decode code 975 = .ok (.iload 4, 2) := by decide +kernel
theorem dW_977 : decode code 977 = .ok (.iconst 4, 1) := by decide +kernel
theorem dW_978 : decode code 978 = .ok (.iadd, 1) := by decide +kernel
theorem dW_979 : decode code 979 = .ok (.iaload, 1) := by decide +kernel
theorem dW_980 : decode code 980 = .ok (.invokevirtual 85, 3) := by decide +kernel
theorem dW_983 : decode code 983 = .ok (.pop, 1) := by decide +kernel
theorem dW_984 : decode code 984 = .ok (.goto 1002, 3) := by decide +kernel
theorem dW_987 : decode code 987 = .ok (.aload_n 1, 1) := by decide +kernel
theorem dW_988 : decode code 988 = .ok (.aload_n 0, 1) := by decide +kernel
theorem dW_989 : decode code 989 = .ok (.iload 4, 2) := by decide +kernel
theorem dW_991 : decode code 991 = .ok (.iconst 1, 1) := by decide +kernel
theorem dW_992 : decode code 992 = .ok (.iadd, 1) := by decide +kernel
theorem dW_993 : decode code 993 = .ok (.iaload, 1) := by decide +kernel
theorem dW_994 : decode code 994 = .ok (.aload_n 0, 1) := by decide +kernel
theorem dW_995 : decode code 995 = .ok (.iload 4, 2) := by decide +kernel
theorem dW_997 : decode code 997 = .ok (.iconst 2, 1) := by decide +kernel
theorem dW_998 : decode code 998 = .ok (.iadd, 1) := by decide +kernel
theorem dW_999 : decode code 999 = .ok (.iaload, 1) := by decide +kernel
