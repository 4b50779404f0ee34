theorem dX7_bodyFrom_0 : decode cX7_bodyFrom 0 = .ok (.iload_n 0, 1) := by decide +kernel
theorem dX7_bodyFrom_1 : decode cX7_bodyFrom 1 = .ok (.istore_n 2, 1) := by decide +kernel
theorem dX7_bodyFrom_2 : decode cX7_bodyFrom 2 = .ok (.iconst 0, 1) := by decide +kernel
theorem dX7_bodyFrom_3 : decode cX7_bodyFrom 3 = .ok (.istore_n 3, 1) := by decide +kernel
theorem dX7_bodyFrom_4 : decode cX7_bodyFrom 4 = .ok (.iload_n 3, 1) := by decide +kernel
theorem dX7_bodyFrom_5 : decode cX7_bodyFrom 5 = .ok (.bipush 6, 2) := by decide +kernel
theorem dX7_bodyFrom_7 : decode cX7_bodyFrom 7 = .ok (.if_icmp .ge 51, 3) := by decide +kernel
theorem dX7_bodyFrom_10 : decode cX7_bodyFrom 10 = .ok (.iload_n 2, 1) := by decide +kernel
theorem dX7_bodyFrom_11 : decode cX7_bodyFrom 11 = .ok (.iconst 4, 1) := by decide +kernel
theorem dX7_bodyFrom_12 : decode cX7_bodyFrom 12 = .ok (.imul, 1) := by decide +kernel
theorem dX7_bodyFrom_13 : decode cX7_bodyFrom 13 = .ok (.iload_n 1, 1) := by decide +kernel
theorem dX7_bodyFrom_14 : decode cX7_bodyFrom 14 = .ok (.iadd, 1) := by decide +kernel
theorem dX7_bodyFrom_15 : decode cX7_bodyFrom 15 = .ok (.istore 4, 2) := by decide +kernel
theorem dX7_bodyFrom_17 : decode cX7_bodyFrom 17 = .ok (.iload 4, 2) := by decide +kernel
theorem dX7_bodyFrom_19 : decode cX7_bodyFrom 19 = .ok (.ifCond .lt 28, 3) := by decide +kernel
theorem dX7_bodyFrom_22 : decode cX7_bodyFrom 22 = .ok (.iload 4, 2) := by decide +kernel
theorem dX7_bodyFrom_24 : decode cX7_bodyFrom 24 = .ok (.getstatic 40, 3) := by decide +kernel
theorem dX7_bodyFrom_27 : decode cX7_bodyFrom 27 = .ok (.arraylength, 1) := by decide +kernel
theorem dX7_bodyFrom_28 : decode cX7_bodyFrom 28 = .ok (.if_icmp .ge 19, 3) := by decide +kernel
theorem dX7_bodyFrom_31 : decode cX7_bodyFrom 31 = .ok (.getstatic 40, 3) := by decide +kernel
theorem dX7_bodyFrom_34 : decode cX7_bodyFrom 34 = .ok (.iload 4, 2) := by decide +kernel
theorem dX7_bodyFrom_36 : decode cX7_bodyFrom 36 = .ok (.iaload, 1) := by decide +kernel
theorem dX7_bodyFrom_37 : decode cX7_bodyFrom 37 = .ok (.ifCond .eq 10, 3) := by decide +kernel
theorem dX7_bodyFrom_40 : decode cX7_bodyFrom 40 = .ok (.getstatic 40, 3) := by decide +kernel
theorem dX7_bodyFrom_43 : decode cX7_bodyFrom 43 = .ok (.iload 4, 2) := by decide +kernel
theorem dX7_bodyFrom_45 : decode cX7_bodyFrom 45 = .ok (.iaload, 1) := by decide +kernel
theorem dX7_bodyFrom_46 : decode cX7_bodyFrom 46 = .ok (.ireturn, 1) := by decide +kernel
theorem dX7_bodyFrom_47 : decode cX7_bodyFrom 47 = .ok (.iload_n 2, 1) := by decide +kernel
theorem dX7_bodyFrom_48 : decode cX7_bodyFrom 48 = .ok (.invokestatic 43, 3) := by decide +kernel
theorem dX7_bodyFrom_51 : decode cX7_bodyFrom 51 = .ok (.istore_n 2, 1) := by decide +kernel
theorem dX7_bodyFrom_52 : decode cX7_bodyFrom 52 = .ok (.iinc 3 1, 3) := by decide +kernel
theorem dX7_bodyFrom_55 : decode cX7_bodyFrom 55 = .ok (.goto (-51), 3) := by decide +kernel
theorem dX7_bodyFrom_58 : decode cX7_bodyFrom 58 = .ok (.bipush 10, 2) := by decide +kernel
theorem dX7_bodyFrom_60 : decode cX7_bodyFrom 60 = .ok (.ireturn, 1) := by decide +kernel

theorem dX7_bodyAt_0 : decode cX7_bodyAt 0 = .ok (.iload_n 1, 1) := by decide +kernel
theorem dX7_bodyAt_1 : decode cX7_bodyAt 1 = .ok (.ifCond .lt 26, 3) := by decide +kernel
theorem dX7_bodyAt_4 : decode cX7_bodyAt 4 = .ok (.iload_n 1, 1) := by decide +kernel
theorem dX7_bodyAt_5 : decode cX7_bodyAt 5 = .ok (.aload_n 0, 1) := by decide +kernel
theorem dX7_bodyAt_6 : decode cX7_bodyAt 6 = .ok (.getfield 15, 3) := by decide +kernel
theorem dX7_bodyAt_9 : decode cX7_bodyAt 9 = .ok (.if_icmp .ge 18, 3) := by decide +kernel
theorem dX7_bodyAt_12 : decode cX7_bodyAt 12 = .ok (.iload_n 1, 1) := by decide +kernel
theorem dX7_bodyAt_13 : decode cX7_bodyAt 13 = .ok (.bipush 40, 2) := by decide +kernel
theorem dX7_bodyAt_15 : decode cX7_bodyAt 15 = .ok (.if_icmp .ge 12, 3) := by decide +kernel
theorem dX7_bodyAt_18 : decode cX7_bodyAt 18 = .ok (.aload_n 0, 1) := by decide +kernel
theorem dX7_bodyAt_19 : decode cX7_bodyAt 19 = .ok (.getfield 9, 3) := by decide +kernel
theorem dX7_bodyAt_22 : decode cX7_bodyAt 22 = .ok (.iload_n 1, 1) := by decide +kernel
theorem dX7_bodyAt_23 : decode cX7_bodyAt 23 = .ok (.iaload, 1) := by decide +kernel
theorem dX7_bodyAt_24 : decode cX7_bodyAt 24 = .ok (.goto 4, 3) := by decide +kernel
theorem dX7_bodyAt_27 : decode cX7_bodyAt 27 = .ok (.iconst 0, 1) := by decide +kernel
theorem dX7_bodyAt_28 : decode cX7_bodyAt 28 = .ok (.ireturn, 1) := by decide +kernel

theorem dX7_own_0 : decode cX7_own 0 = .ok (.aload_n 0, 1) := by decide +kernel
theorem dX7_own_1 : decode cX7_own 1 = .ok (.aload_n 0, 1) := by decide +kernel
theorem dX7_own_2 : decode cX7_own 2 = .ok (.getfield 19, 3) := by decide +kernel
theorem dX7_own_5 : decode cX7_own 5 = .ok (.iload_n 1, 1) := by decide +kernel
theorem dX7_own_6 : decode cX7_own 6 = .ok (.iload_n 2, 1) := by decide +kernel
theorem dX7_own_7 : decode cX7_own 7 = .ok (.iload_n 3, 1) := by decide +kernel
theorem dX7_own_8 : decode cX7_own 8 = .ok (.invokevirtual 32, 3) := by decide +kernel
theorem dX7_own_11 : decode cX7_own 11 = .ok (.ireturn, 1) := by decide +kernel
theorem dX7_say_0 : decode cX7_say 0 = .ok (.iload 4, 2) := by decide +kernel
theorem dX7_say_2 : decode cX7_say 2 = .ok (.bipush 40, 2) := by decide +kernel
theorem dX7_say_4 : decode cX7_say 4 = .ok (.if_icmp .le 5, 3) := by decide +kernel
theorem dX7_say_7 : decode cX7_say 7 = .ok (.iconst 0, 1) := by decide +kernel
theorem dX7_say_8 : decode cX7_say 8 = .ok (.ireturn, 1) := by decide +kernel
theorem dX7_say_9 : decode cX7_say 9 = .ok (.iload_n 1, 1) := by decide +kernel
theorem dX7_say_10 : decode cX7_say 10 = .ok (.iload_n 2, 1) := by decide +kernel
theorem dX7_say_11 : decode cX7_say 11 = .ok (.invokestatic 36, 3) := by decide +kernel
theorem dX7_say_14 : decode cX7_say 14 = .ok (.istore 5, 2) := by decide +kernel
theorem dX7_say_16 : decode cX7_say 16 = .ok (.aload_n 0, 1) := by decide +kernel
theorem dX7_say_17 : decode cX7_say 17 = .ok (.getfield 15, 3) := by decide +kernel
theorem dX7_say_20 : decode cX7_say 20 = .ok (.ifCond .lt 33, 3) := by decide +kernel
theorem dX7_say_23 : decode cX7_say 23 = .ok (.aload_n 0, 1) := by decide +kernel
theorem dX7_say_24 : decode cX7_say 24 = .ok (.getfield 15, 3) := by decide +kernel
theorem dX7_say_27 : decode cX7_say 27 = .ok (.bipush 40, 2) := by decide +kernel
theorem dX7_say_29 : decode cX7_say 29 = .ok (.if_icmp .ge 24, 3) := by decide +kernel
theorem dX7_say_32 : decode cX7_say 32 = .ok (.aload_n 0, 1) := by decide +kernel
theorem dX7_say_33 : decode cX7_say 33 = .ok (.getfield 9, 3) := by decide +kernel
theorem dX7_say_36 : decode cX7_say 36 = .ok (.aload_n 0, 1) := by decide +kernel
theorem dX7_say_37 : decode cX7_say 37 = .ok (.getfield 15, 3) := by decide +kernel
theorem dX7_say_40 : decode cX7_say 40 = .ok (.iload 5, 2) := by decide +kernel
theorem dX7_say_42 : decode cX7_say 42 = .ok (.iastore, 1) := by decide +kernel
theorem dX7_say_43 : decode cX7_say 43 = .ok (.aload_n 0, 1) := by decide +kernel
theorem dX7_say_44 : decode cX7_say 44 = .ok (.dup, 1) := by decide +kernel
theorem dX7_say_45 : decode cX7_say 45 = .ok (.getfield 15, 3) := by decide +kernel
theorem dX7_say_48 : decode cX7_say 48 = .ok (.iconst 1, 1) := by decide +kernel
theorem dX7_say_49 : decode cX7_say 49 = .ok (.iadd, 1) := by decide +kernel
theorem dX7_say_50 : decode cX7_say 50 = .ok (.putfield 15, 3) := by decide +kernel
theorem dX7_say_53 : decode cX7_say 53 = .ok (.iload 4, 2) := by decide +kernel
theorem dX7_say_55 : decode cX7_say 55 = .ok (.iconst 1, 1) := by decide +kernel
theorem dX7_say_56 : decode cX7_say 56 = .ok (.iadd, 1) := by decide +kernel
theorem dX7_say_57 : decode cX7_say 57 = .ok (.istore 6, 2) := by decide +kernel
theorem dX7_say_59 : decode cX7_say 59 = .ok (.iload 5, 2) := by decide +kernel
theorem dX7_say_61 : decode cX7_say 61 = .ok (.tableswitch 413 10 60 #[219, 226, 240, 251, 413, 413, 413, 413, 413, 413, 269, 281, 413, 413, 413, 413, 413, 413, 413, 413, 296, 308, 413, 413, 413, 413, 413, 413, 413, 413, 320, 342, 413, 413, 413, 413, 413, 413, 413, 413, 364, 379, 413, 413, 413, 413, 413, 413, 413, 413, 398], 219) := by decide +kernel
theorem dX7_say_280 : decode cX7_say 280 = .ok (.iload_n 3, 1) := by decide +kernel
theorem dX7_say_281 : decode cX7_say 281 = .ok (.aload_n 0, 1) := by decide +kernel
theorem dX7_say_282 : decode cX7_say 282 = .ok (.getfield 22, 3) := by decide +kernel
theorem dX7_say_285 : decode cX7_say 285 = .ok (.isub, 1) := by decide +kernel
theorem dX7_say_286 : decode cX7_say 286 = .ok (.ireturn, 1) := by decide +kernel
theorem dX7_say_287 : decode cX7_say 287 = .ok (.aload_n 0, 1) := by decide +kernel
theorem dX7_say_288 : decode cX7_say 288 = .ok (.iconst 0, 1) := by decide +kernel
theorem dX7_say_289 : decode cX7_say 289 = .ok (.iload_n 3, 1) := by decide +kernel
theorem dX7_say_290 : decode cX7_say 290 = .ok (.iload 6, 2) := by decide +kernel
theorem dX7_say_292 : decode cX7_say 292 = .ok (.invokevirtual 28, 3) := by decide +kernel
theorem dX7_say_295 : decode cX7_say 295 = .ok (.aload_n 0, 1) := by decide +kernel
theorem dX7_say_296 : decode cX7_say 296 = .ok (.getfield 25, 3) := by decide +kernel
theorem dX7_say_299 : decode cX7_say 299 = .ok (.iadd, 1) := by decide +kernel
theorem dX7_say_300 : decode cX7_say 300 = .ok (.ireturn, 1) := by decide +kernel
theorem dX7_say_301 : decode cX7_say 301 = .ok (.aload_n 0, 1) := by decide +kernel
theorem dX7_say_302 : decode cX7_say 302 = .ok (.iconst 1, 1) := by decide +kernel
theorem dX7_say_303 : decode cX7_say 303 = .ok (.iload_n 3, 1) := by decide +kernel
theorem dX7_say_304 : decode cX7_say 304 = .ok (.iload 6, 2) := by decide +kernel
theorem dX7_say_306 : decode cX7_say 306 = .ok (.invokevirtual 28, 3) := by decide +kernel
theorem dX7_say_309 : decode cX7_say 309 = .ok (.iconst 2, 1) := by decide +kernel
theorem dX7_say_310 : decode cX7_say 310 = .ok (.imul, 1) := by decide +kernel
theorem dX7_say_311 : decode cX7_say 311 = .ok (.ireturn, 1) := by decide +kernel
theorem dX7_say_312 : decode cX7_say 312 = .ok (.aload_n 0, 1) := by decide +kernel
theorem dX7_say_313 : decode cX7_say 313 = .ok (.iconst 2, 1) := by decide +kernel
theorem dX7_say_314 : decode cX7_say 314 = .ok (.iload_n 3, 1) := by decide +kernel
theorem dX7_say_315 : decode cX7_say 315 = .ok (.iload 6, 2) := by decide +kernel
theorem dX7_say_317 : decode cX7_say 317 = .ok (.invokevirtual 28, 3) := by decide +kernel
theorem dX7_say_320 : decode cX7_say 320 = .ok (.aload_n 0, 1) := by decide +kernel
theorem dX7_say_321 : decode cX7_say 321 = .ok (.iconst 0, 1) := by decide +kernel
theorem dX7_say_322 : decode cX7_say 322 = .ok (.iload_n 3, 1) := by decide +kernel
theorem dX7_say_323 : decode cX7_say 323 = .ok (.iload 6, 2) := by decide +kernel
theorem dX7_say_325 : decode cX7_say 325 = .ok (.invokevirtual 28, 3) := by decide +kernel
theorem dX7_say_328 : decode cX7_say 328 = .ok (.ixor, 1) := by decide +kernel
theorem dX7_say_329 : decode cX7_say 329 = .ok (.ireturn, 1) := by decide +kernel
theorem dX7_say_330 : decode cX7_say 330 = .ok (.aload_n 0, 1) := by decide +kernel
theorem dX7_say_331 : decode cX7_say 331 = .ok (.iconst 0, 1) := by decide +kernel
theorem dX7_say_332 : decode cX7_say 332 = .ok (.iconst 1, 1) := by decide +kernel
theorem dX7_say_333 : decode cX7_say 333 = .ok (.iload_n 3, 1) := by decide +kernel
theorem dX7_say_334 : decode cX7_say 334 = .ok (.iconst 1, 1) := by decide +kernel
theorem dX7_say_335 : decode cX7_say 335 = .ok (.iadd, 1) := by decide +kernel
theorem dX7_say_336 : decode cX7_say 336 = .ok (.iload 6, 2) := by decide +kernel
theorem dX7_say_338 : decode cX7_say 338 = .ok (.invokevirtual 32, 3) := by decide +kernel
theorem dX7_say_341 : decode cX7_say 341 = .ok (.ireturn, 1) := by decide +kernel
theorem dX7_say_342 : decode cX7_say 342 = .ok (.aload_n 0, 1) := by decide +kernel
theorem dX7_say_343 : decode cX7_say 343 = .ok (.iconst 0, 1) := by decide +kernel
theorem dX7_say_344 : decode cX7_say 344 = .ok (.iconst 3, 1) := by decide +kernel
theorem dX7_say_345 : decode cX7_say 345 = .ok (.iload_n 3, 1) := by decide +kernel
theorem dX7_say_346 : decode cX7_say 346 = .ok (.iload 6, 2) := by decide +kernel
theorem dX7_say_348 : decode cX7_say 348 = .ok (.invokevirtual 32, 3) := by decide +kernel
theorem dX7_say_351 : decode cX7_say 351 = .ok (.aload_n 0, 1) := by decide +kernel
theorem dX7_say_352 : decode cX7_say 352 = .ok (.getfield 22, 3) := by decide +kernel
theorem dX7_say_355 : decode cX7_say 355 = .ok (.isub, 1) := by decide +kernel
theorem dX7_say_356 : decode cX7_say 356 = .ok (.ireturn, 1) := by decide +kernel
theorem dX7_say_357 : decode cX7_say 357 = .ok (.aload_n 0, 1) := by decide +kernel
theorem dX7_say_358 : decode cX7_say 358 = .ok (.iconst 1, 1) := by decide +kernel
theorem dX7_say_359 : decode cX7_say 359 = .ok (.iconst 0, 1) := by decide +kernel
theorem dX7_say_360 : decode cX7_say 360 = .ok (.iload_n 3, 1) := by decide +kernel
theorem dX7_say_361 : decode cX7_say 361 = .ok (.iload 6, 2) := by decide +kernel
theorem dX7_say_363 : decode cX7_say 363 = .ok (.invokevirtual 32, 3) := by decide +kernel
theorem dX7_say_366 : decode cX7_say 366 = .ok (.iconst 3, 1) := by decide +kernel
theorem dX7_say_367 : decode cX7_say 367 = .ok (.imul, 1) := by decide +kernel
theorem dX7_say_368 : decode cX7_say 368 = .ok (.ireturn, 1) := by decide +kernel
theorem dX7_say_369 : decode cX7_say 369 = .ok (.iconst 0, 1) := by decide +kernel
theorem dX7_say_370 : decode cX7_say 370 = .ok (.aload_n 0, 1) := by decide +kernel
theorem dX7_say_371 : decode cX7_say 371 = .ok (.iconst 1, 1) := by decide +kernel
theorem dX7_say_372 : decode cX7_say 372 = .ok (.iconst 2, 1) := by decide +kernel
theorem dX7_say_373 : decode cX7_say 373 = .ok (.iload_n 3, 1) := by decide +kernel
theorem dX7_say_374 : decode cX7_say 374 = .ok (.iload 6, 2) := by decide +kernel
theorem dX7_say_376 : decode cX7_say 376 = .ok (.invokevirtual 32, 3) := by decide +kernel
theorem dX7_say_379 : decode cX7_say 379 = .ok (.isub, 1) := by decide +kernel
theorem dX7_say_380 : decode cX7_say 380 = .ok (.ireturn, 1) := by decide +kernel
theorem dX7_say_381 : decode cX7_say 381 = .ok (.aload_n 0, 1) := by decide +kernel
theorem dX7_say_382 : decode cX7_say 382 = .ok (.iconst 2, 1) := by decide +kernel
theorem dX7_say_383 : decode cX7_say 383 = .ok (.iconst 2, 1) := by decide +kernel
theorem dX7_say_384 : decode cX7_say 384 = .ok (.iload_n 3, 1) := by decide +kernel
theorem dX7_say_385 : decode cX7_say 385 = .ok (.iload 6, 2) := by decide +kernel
theorem dX7_say_387 : decode cX7_say 387 = .ok (.invokevirtual 32, 3) := by decide +kernel
theorem dX7_say_390 : decode cX7_say 390 = .ok (.aload_n 0, 1) := by decide +kernel
theorem dX7_say_391 : decode cX7_say 391 = .ok (.iconst 0, 1) := by decide +kernel
theorem dX7_say_392 : decode cX7_say 392 = .ok (.aload_n 0, 1) := by decide +kernel
theorem dX7_say_393 : decode cX7_say 393 = .ok (.getfield 25, 3) := by decide +kernel
theorem dX7_say_396 : decode cX7_say 396 = .ok (.iload 6, 2) := by decide +kernel
theorem dX7_say_398 : decode cX7_say 398 = .ok (.invokevirtual 28, 3) := by decide +kernel
theorem dX7_say_401 : decode cX7_say 401 = .ok (.iadd, 1) := by decide +kernel
theorem dX7_say_402 : decode cX7_say 402 = .ok (.ireturn, 1) := by decide +kernel
theorem dX7_say_403 : decode cX7_say 403 = .ok (.aload_n 0, 1) := by decide +kernel
theorem dX7_say_404 : decode cX7_say 404 = .ok (.iconst 2, 1) := by decide +kernel
theorem dX7_say_405 : decode cX7_say 405 = .ok (.iconst 3, 1) := by decide +kernel
theorem dX7_say_406 : decode cX7_say 406 = .ok (.iload_n 3, 1) := by decide +kernel
theorem dX7_say_407 : decode cX7_say 407 = .ok (.iload 6, 2) := by decide +kernel
theorem dX7_say_409 : decode cX7_say 409 = .ok (.invokevirtual 32, 3) := by decide +kernel
theorem dX7_say_412 : decode cX7_say 412 = .ok (.aload_n 0, 1) := by decide +kernel
theorem dX7_say_413 : decode cX7_say 413 = .ok (.iconst 1, 1) := by decide +kernel
theorem dX7_say_414 : decode cX7_say 414 = .ok (.aload_n 0, 1) := by decide +kernel
theorem dX7_say_415 : decode cX7_say 415 = .ok (.getfield 22, 3) := by decide +kernel
theorem dX7_say_418 : decode cX7_say 418 = .ok (.iload 6, 2) := by decide +kernel
theorem dX7_say_420 : decode cX7_say 420 = .ok (.invokevirtual 28, 3) := by decide +kernel
theorem dX7_say_423 : decode cX7_say 423 = .ok (.ixor, 1) := by decide +kernel
theorem dX7_say_424 : decode cX7_say 424 = .ok (.ireturn, 1) := by decide +kernel
theorem dX7_say_425 : decode cX7_say 425 = .ok (.aload_n 0, 1) := by decide +kernel
theorem dX7_say_426 : decode cX7_say 426 = .ok (.iconst 0, 1) := by decide +kernel
theorem dX7_say_427 : decode cX7_say 427 = .ok (.iconst 0, 1) := by decide +kernel
theorem dX7_say_428 : decode cX7_say 428 = .ok (.iload_n 3, 1) := by decide +kernel
theorem dX7_say_429 : decode cX7_say 429 = .ok (.iload 6, 2) := by decide +kernel
theorem dX7_say_431 : decode cX7_say 431 = .ok (.invokevirtual 32, 3) := by decide +kernel
theorem dX7_say_434 : decode cX7_say 434 = .ok (.aload_n 0, 1) := by decide +kernel
theorem dX7_say_435 : decode cX7_say 435 = .ok (.getfield 25, 3) := by decide +kernel
theorem dX7_say_438 : decode cX7_say 438 = .ok (.iadd, 1) := by decide +kernel
theorem dX7_say_439 : decode cX7_say 439 = .ok (.ireturn, 1) := by decide +kernel
theorem dX7_say_440 : decode cX7_say 440 = .ok (.aload_n 0, 1) := by decide +kernel
theorem dX7_say_441 : decode cX7_say 441 = .ok (.iconst 0, 1) := by decide +kernel
theorem dX7_say_442 : decode cX7_say 442 = .ok (.iconst 2, 1) := by decide +kernel
theorem dX7_say_443 : decode cX7_say 443 = .ok (.iload_n 3, 1) := by decide +kernel
theorem dX7_say_444 : decode cX7_say 444 = .ok (.iload 6, 2) := by decide +kernel
theorem dX7_say_446 : decode cX7_say 446 = .ok (.invokevirtual 32, 3) := by decide +kernel
theorem dX7_say_449 : decode cX7_say 449 = .ok (.aload_n 0, 1) := by decide +kernel
theorem dX7_say_450 : decode cX7_say 450 = .ok (.iconst 0, 1) := by decide +kernel
theorem dX7_say_451 : decode cX7_say 451 = .ok (.iconst 1, 1) := by decide +kernel
theorem dX7_say_452 : decode cX7_say 452 = .ok (.iload 6, 2) := by decide +kernel
theorem dX7_say_454 : decode cX7_say 454 = .ok (.invokevirtual 28, 3) := by decide +kernel
theorem dX7_say_457 : decode cX7_say 457 = .ok (.isub, 1) := by decide +kernel
theorem dX7_say_458 : decode cX7_say 458 = .ok (.ireturn, 1) := by decide +kernel
theorem dX7_say_459 : decode cX7_say 459 = .ok (.aload_n 0, 1) := by decide +kernel
theorem dX7_say_460 : decode cX7_say 460 = .ok (.iconst 4, 1) := by decide +kernel
theorem dX7_say_461 : decode cX7_say 461 = .ok (.iconst 1, 1) := by decide +kernel
theorem dX7_say_462 : decode cX7_say 462 = .ok (.iload_n 3, 1) := by decide +kernel
theorem dX7_say_463 : decode cX7_say 463 = .ok (.iload 6, 2) := by decide +kernel
theorem dX7_say_465 : decode cX7_say 465 = .ok (.invokevirtual 32, 3) := by decide +kernel
theorem dX7_say_468 : decode cX7_say 468 = .ok (.aload_n 0, 1) := by decide +kernel
theorem dX7_say_469 : decode cX7_say 469 = .ok (.getfield 25, 3) := by decide +kernel
theorem dX7_say_472 : decode cX7_say 472 = .ok (.imul, 1) := by decide +kernel
theorem dX7_say_473 : decode cX7_say 473 = .ok (.ireturn, 1) := by decide +kernel
theorem dX7_say_474 : decode cX7_say 474 = .ok (.iconst 0, 1) := by decide +kernel
theorem dX7_say_475 : decode cX7_say 475 = .ok (.aload_n 0, 1) := by decide +kernel
theorem dX7_say_476 : decode cX7_say 476 = .ok (.iconst 4, 1) := by decide +kernel
theorem dX7_say_477 : decode cX7_say 477 = .ok (.iconst 3, 1) := by decide +kernel
theorem dX7_say_478 : decode cX7_say 478 = .ok (.iload_n 3, 1) := by decide +kernel
theorem dX7_say_479 : decode cX7_say 479 = .ok (.iload 6, 2) := by decide +kernel
theorem dX7_say_481 : decode cX7_say 481 = .ok (.invokevirtual 32, 3) := by decide +kernel
theorem dX7_say_484 : decode cX7_say 484 = .ok (.isub, 1) := by decide +kernel
theorem dX7_say_485 : decode cX7_say 485 = .ok (.ireturn, 1) := by decide +kernel
def SAYP (dd : Nat) : Prop := ∀ (l : Launch) (D : va_G) (cI : ClassId) (aK aV : Nat → Nat) (k k0 : Nat) (sz : Nat) (c1 : Int32) (c2 : Int32) (c3 : Int32) (c4 : Int32) (c0 : Nat → Int32) (a0 : Int32) (a1 : Int32) (a2 : Int32) (a3 : Int32) (pre0 : (41 - a3.toInt).toNat < dd) , Met l yX7_say (gW yX7_say cX7_say 7 (some .int)) ({ frames := 4 * dd, cells := 0, slots := 0, locals := 128 * dd } : Room) (kPreX D cI aK aV [.ref k, .int a0, .int a1, .int a2, .int a3] [(k, .inr (7, [.ref k0, .int c1, .int c2, .int c3, .int c4])), (k0, .inl (cI, 40, .inl c0))] sz) (va_Qi (fun (r : Int32) (u : Int32 × (Nat → Int32)) => True) (fun u t => kWd D cI (va_A [(k, .inr (7, [.ref k0, .int c1, .int c2, .int c3, .int c4])), (k0, .inl (cI, 40, .inl c0))] sz) [(k, .inr (7, [.ref k0, .int u.1, .int c2, .int c3, .int c4])), (k0, .inl (cI, 40, .inl u.2))] t) (va_A [(k, .inr (7, [.ref k0, .int c1, .int c2, .int c3, .int c4])), (k0, .inl (cI, 40, .inl c0))] sz)) 0 0 (va_A [(k, .inr (7, [.ref k0, .int c1, .int c2, .int c3, .int c4])), (k0, .inl (cI, 40, .inl c0))] sz)

theorem dX7_hear_0 : decode cX7_hear 0 = .ok (.aload_n 0, 1) := by decide +kernel
theorem dX7_hear_1 : decode cX7_hear 1 = .ok (.iconst 0, 1) := by decide +kernel
theorem dX7_hear_2 : decode cX7_hear 2 = .ok (.putfield 15, 3) := by decide +kernel
theorem dX7_hear_5 : decode cX7_hear 5 = .ok (.aload_n 0, 1) := by decide +kernel
theorem dX7_hear_6 : decode cX7_hear 6 = .ok (.iload_n 1, 1) := by decide +kernel
theorem dX7_hear_7 : decode cX7_hear 7 = .ok (.putfield 19, 3) := by decide +kernel
theorem dX7_hear_10 : decode cX7_hear 10 = .ok (.aload_n 0, 1) := by decide +kernel
theorem dX7_hear_11 : decode cX7_hear 11 = .ok (.iload_n 2, 1) := by decide +kernel
theorem dX7_hear_12 : decode cX7_hear 12 = .ok (.putfield 22, 3) := by decide +kernel
theorem dX7_hear_15 : decode cX7_hear 15 = .ok (.aload_n 0, 1) := by decide +kernel
theorem dX7_hear_16 : decode cX7_hear 16 = .ok (.iload_n 3, 1) := by decide +kernel
theorem dX7_hear_17 : decode cX7_hear 17 = .ok (.putfield 25, 3) := by decide +kernel
theorem dX7_hear_20 : decode cX7_hear 20 = .ok (.aload_n 0, 1) := by decide +kernel
theorem dX7_hear_21 : decode cX7_hear 21 = .ok (.iload 4, 2) := by decide +kernel
theorem dX7_hear_23 : decode cX7_hear 23 = .ok (.iload 5, 2) := by decide +kernel
theorem dX7_hear_25 : decode cX7_hear 25 = .ok (.iconst 0, 1) := by decide +kernel
theorem dX7_hear_26 : decode cX7_hear 26 = .ok (.invokevirtual 28, 3) := by decide +kernel
theorem dX7_hear_29 : decode cX7_hear 29 = .ok (.ireturn, 1) := by decide +kernel

