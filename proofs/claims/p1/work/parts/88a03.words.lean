theorem d_Lw_law_316 : decode code 316 = .ok (.aload_n 2, 1) := by decide +kernel
theorem d_Lw_law_317 : decode code 317 = .ok (.invokevirtual 104, 3) := by decide +kernel
theorem d_Lw_law_320 : decode code 320 = .ok (.istore 6, 2) := by decide +kernel
theorem d_Lw_law_322 : decode code 322 = .ok (.aload_n 2, 1) := by decide +kernel
theorem d_Lw_law_323 : decode code 323 = .ok (.invokevirtual 92, 3) := by decide +kernel
theorem d_Lw_law_326 : decode code 326 = .ok (.iload 5, 2) := by decide +kernel
theorem d_Lw_law_328 : decode code 328 = .ok (.if_icmp .eq 5, 3) := by decide +kernel
theorem d_Lw_law_333 : decode code 333 = .ok (.iload 5, 2) := by decide +kernel
theorem d_Lw_law_335 : decode code 335 = .ok (.ifCond .ne 15, 3) := by decide +kernel
theorem d_Lw_law_350 : decode code 350 = .ok (.goto 723, 3) := by decide +kernel
theorem d_Lw_law_353 : decode code 353 = .ok (.aload_n 1, 1) := by decide +kernel
theorem d_Lw_law_354 : decode code 354 = .ok (.aload_n 0, 1) := by decide +kernel
theorem d_Lw_law_355 : decode code 355 = .ok (.iload 4, 2) := by decide +kernel
theorem d_Lw_law_357 : decode code 357 = .ok (.iconst 1, 1) := by decide +kernel
theorem d_Lw_law_358 : decode code 358 = .ok (.iadd, 1) := by decide +kernel
theorem d_Lw_law_359 : decode code 359 = .ok (.iaload, 1) := by decide +kernel
theorem d_Lw_law_360 : decode code 360 = .ok (.aload_n 0, 1) := by decide +kernel
theorem d_Lw_law_361 : decode code 361 = .ok (.iload 4, 2) := by decide +kernel
theorem d_Lw_law_363 : decode code 363 = .ok (.iconst 2, 1) := by decide +kernel
theorem d_Lw_law_364 : decode code 364 = .ok (.iadd, 1) := by decide +kernel
theorem d_Lw_law_365 : decode code 365 = .ok (.iaload, 1) := by decide +kernel
theorem d_Lw_law_366 : decode code 366 = .ok (.aload_n 0, 1) := by decide +kernel
theorem d_Lw_law_367 : decode code 367 = .ok (.iload 4, 2) := by decide +kernel
theorem d_Lw_law_369 : decode code 369 = .ok (.iconst 3, 1) := by decide +kernel
theorem d_Lw_law_370 : decode code 370 = .ok (.iadd, 1) := by decide +kernel
theorem d_Lw_law_371 : decode code 371 = .ok (.iaload, 1) := by decide +kernel
theorem d_Lw_law_372 : decode code 372 = .ok (.aload_n 3, 1) := by decide +kernel
theorem d_Lw_law_373 : decode code 373 = .ok (.invokestatic 105, 3) := by decide +kernel
theorem d_Lw_law_376 : decode code 376 = .ok (.istore 5, 2) := by decide +kernel
theorem d_Lw_law_378 : decode code 378 = .ok (.aload_n 2, 1) := by decide +kernel
theorem d_Lw_law_379 : decode code 379 = .ok (.aload_n 0, 1) := by decide +kernel
theorem d_Lw_law_380 : decode code 380 = .ok (.iload 4, 2) := by decide +kernel
theorem d_Lw_law_382 : decode code 382 = .ok (.iconst 1, 1) := by decide +kernel
theorem d_Lw_law_383 : decode code 383 = .ok (.iadd, 1) := by decide +kernel
theorem d_Lw_law_384 : decode code 384 = .ok (.iaload, 1) := by decide +kernel
theorem d_Lw_law_385 : decode code 385 = .ok (.aload_n 0, 1) := by decide +kernel
theorem d_Lw_law_386 : decode code 386 = .ok (.iload 4, 2) := by decide +kernel
theorem d_Lw_law_388 : decode code 388 = .ok (.iconst 2, 1) := by decide +kernel
theorem d_Lw_law_389 : decode code 389 = .ok (.iadd, 1) := by decide +kernel
theorem d_Lw_law_390 : decode code 390 = .ok (.iaload, 1) := by decide +kernel
theorem d_Lw_law_391 : decode code 391 = .ok (.aload_n 0, 1) := by decide +kernel
theorem d_Lw_law_392 : decode code 392 = .ok (.iload 4, 2) := by decide +kernel
theorem d_Lw_law_394 : decode code 394 = .ok (.iconst 3, 1) := by decide +kernel
theorem d_Lw_law_395 : decode code 395 = .ok (.iadd, 1) := by decide +kernel
theorem d_Lw_law_396 : decode code 396 = .ok (.iaload, 1) := by decide +kernel
theorem d_Lw_law_397 : decode code 397 = .ok (.invokevirtual 108, 3) := by decide +kernel
theorem d_Lw_law_400 : decode code 400 = .ok (.istore 6, 2) := by decide +kernel
theorem d_Lw_law_402 : decode code 402 = .ok (.aload_n 2, 1) := by decide +kernel
theorem d_Lw_law_403 : decode code 403 = .ok (.invokevirtual 92, 3) := by decide +kernel
theorem d_Lw_law_406 : decode code 406 = .ok (.iload 5, 2) := by decide +kernel
theorem d_Lw_law_408 : decode code 408 = .ok (.if_icmp .eq 5, 3) := by decide +kernel
theorem d_Lw_law_413 : decode code 413 = .ok (.iload 5, 2) := by decide +kernel
theorem d_Lw_law_415 : decode code 415 = .ok (.ifCond .ne 15, 3) := by decide +kernel
theorem d_Lw_law_430 : decode code 430 = .ok (.goto 643, 3) := by decide +kernel
theorem d_Lw_law_433 : decode code 433 = .ok (.aload_n 1, 1) := by decide +kernel
theorem d_Lw_law_434 : decode code 434 = .ok (.aload_n 0, 1) := by decide +kernel
theorem d_Lw_law_435 : decode code 435 = .ok (.iload 4, 2) := by decide +kernel
theorem d_Lw_law_437 : decode code 437 = .ok (.iconst 1, 1) := by decide +kernel
theorem d_Lw_law_438 : decode code 438 = .ok (.iadd, 1) := by decide +kernel
theorem d_Lw_law_439 : decode code 439 = .ok (.iaload, 1) := by decide +kernel
