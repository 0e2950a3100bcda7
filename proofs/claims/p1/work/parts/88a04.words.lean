theorem d_Lw_law_440 : decode code 440 = .ok (.aload_n 3, 1) := by decide +kernel
theorem d_Lw_law_441 : decode code 441 = .ok (.invokestatic 109, 3) := by decide +kernel
theorem d_Lw_law_444 : decode code 444 = .ok (.istore 5, 2) := by decide +kernel
theorem d_Lw_law_446 : decode code 446 = .ok (.aload_n 2, 1) := by decide +kernel
theorem d_Lw_law_447 : decode code 447 = .ok (.aload_n 0, 1) := by decide +kernel
theorem d_Lw_law_448 : decode code 448 = .ok (.iload 4, 2) := by decide +kernel
theorem d_Lw_law_450 : decode code 450 = .ok (.iconst 1, 1) := by decide +kernel
theorem d_Lw_law_451 : decode code 451 = .ok (.iadd, 1) := by decide +kernel
theorem d_Lw_law_452 : decode code 452 = .ok (.iaload, 1) := by decide +kernel
theorem d_Lw_law_453 : decode code 453 = .ok (.invokevirtual 111, 3) := by decide +kernel
theorem d_Lw_law_456 : decode code 456 = .ok (.istore 6, 2) := by decide +kernel
theorem d_Lw_law_458 : decode code 458 = .ok (.aload_n 2, 1) := by decide +kernel
theorem d_Lw_law_459 : decode code 459 = .ok (.invokevirtual 92, 3) := by decide +kernel
theorem d_Lw_law_462 : decode code 462 = .ok (.iload 5, 2) := by decide +kernel
theorem d_Lw_law_464 : decode code 464 = .ok (.if_icmp .eq 5, 3) := by decide +kernel
theorem d_Lw_law_469 : decode code 469 = .ok (.iload 5, 2) := by decide +kernel
theorem d_Lw_law_471 : decode code 471 = .ok (.ifCond .ne 15, 3) := by decide +kernel
theorem d_Lw_law_486 : decode code 486 = .ok (.goto 587, 3) := by decide +kernel
theorem d_Lw_law_489 : decode code 489 = .ok (.aload_n 1, 1) := by decide +kernel
theorem d_Lw_law_490 : decode code 490 = .ok (.aload_n 0, 1) := by decide +kernel
theorem d_Lw_law_491 : decode code 491 = .ok (.iload 4, 2) := by decide +kernel
theorem d_Lw_law_493 : decode code 493 = .ok (.iconst 1, 1) := by decide +kernel
theorem d_Lw_law_494 : decode code 494 = .ok (.iadd, 1) := by decide +kernel
theorem d_Lw_law_495 : decode code 495 = .ok (.iaload, 1) := by decide +kernel
theorem d_Lw_law_496 : decode code 496 = .ok (.aload_n 3, 1) := by decide +kernel
theorem d_Lw_law_497 : decode code 497 = .ok (.invokestatic 112, 3) := by decide +kernel
theorem d_Lw_law_500 : decode code 500 = .ok (.istore 5, 2) := by decide +kernel
theorem d_Lw_law_502 : decode code 502 = .ok (.aload_n 2, 1) := by decide +kernel
theorem d_Lw_law_503 : decode code 503 = .ok (.aload_n 0, 1) := by decide +kernel
theorem d_Lw_law_504 : decode code 504 = .ok (.iload 4, 2) := by decide +kernel
theorem d_Lw_law_506 : decode code 506 = .ok (.iconst 1, 1) := by decide +kernel
theorem d_Lw_law_507 : decode code 507 = .ok (.iadd, 1) := by decide +kernel
theorem d_Lw_law_508 : decode code 508 = .ok (.iaload, 1) := by decide +kernel
theorem d_Lw_law_509 : decode code 509 = .ok (.invokevirtual 114, 3) := by decide +kernel
theorem d_Lw_law_512 : decode code 512 = .ok (.istore 6, 2) := by decide +kernel
theorem d_Lw_law_514 : decode code 514 = .ok (.aload_n 2, 1) := by decide +kernel
theorem d_Lw_law_515 : decode code 515 = .ok (.invokevirtual 92, 3) := by decide +kernel
theorem d_Lw_law_518 : decode code 518 = .ok (.iload 5, 2) := by decide +kernel
theorem d_Lw_law_520 : decode code 520 = .ok (.if_icmp .eq 5, 3) := by decide +kernel
theorem d_Lw_law_525 : decode code 525 = .ok (.iload 5, 2) := by decide +kernel
theorem d_Lw_law_527 : decode code 527 = .ok (.ifCond .ne 15, 3) := by decide +kernel
theorem d_Lw_law_542 : decode code 542 = .ok (.goto 531, 3) := by decide +kernel
theorem d_Lw_law_545 : decode code 545 = .ok (.aload_n 1, 1) := by decide +kernel
theorem d_Lw_law_546 : decode code 546 = .ok (.aload_n 0, 1) := by decide +kernel
theorem d_Lw_law_547 : decode code 547 = .ok (.iload 4, 2) := by decide +kernel
theorem d_Lw_law_549 : decode code 549 = .ok (.iconst 1, 1) := by decide +kernel
theorem d_Lw_law_550 : decode code 550 = .ok (.iadd, 1) := by decide +kernel
theorem d_Lw_law_551 : decode code 551 = .ok (.iaload, 1) := by decide +kernel
theorem d_Lw_law_552 : decode code 552 = .ok (.aload_n 3, 1) := by decide +kernel
theorem d_Lw_law_553 : decode code 553 = .ok (.invokestatic 115, 3) := by decide +kernel
theorem d_Lw_law_556 : decode code 556 = .ok (.istore 5, 2) := by decide +kernel
theorem d_Lw_law_558 : decode code 558 = .ok (.aload_n 2, 1) := by decide +kernel
theorem d_Lw_law_559 : decode code 559 = .ok (.aload_n 0, 1) := by decide +kernel
theorem d_Lw_law_560 : decode code 560 = .ok (.iload 4, 2) := by decide +kernel
theorem d_Lw_law_562 : decode code 562 = .ok (.iconst 1, 1) := by decide +kernel
theorem d_Lw_law_563 : decode code 563 = .ok (.iadd, 1) := by decide +kernel
theorem d_Lw_law_564 : decode code 564 = .ok (.iaload, 1) := by decide +kernel
theorem d_Lw_law_565 : decode code 565 = .ok (.invokevirtual 117, 3) := by decide +kernel
theorem d_Lw_law_568 : decode code 568 = .ok (.istore 6, 2) := by decide +kernel
theorem d_Lw_law_570 : decode code 570 = .ok (.aload_n 2, 1) := by decide +kernel
