theorem dL_law_466 : decode cL_law 466 = .ok (.iconst 0, 1) := by decide +kernel
theorem dL_law_467 : decode cL_law 467 = .ok (.ireturn, 1) := by decide +kernel
theorem dL_law_468 : decode cL_law 468 = .ok (.iload 20, 2) := by decide +kernel
theorem dL_law_470 : decode cL_law 470 = .ok (.iload 14, 2) := by decide +kernel
theorem dL_law_472 : decode cL_law 472 = .ok (.iload 15, 2) := by decide +kernel
theorem dL_law_474 : decode cL_law 474 = .ok (.iload 16, 2) := by decide +kernel
theorem dL_law_476 : decode cL_law 476 = .ok (.iload 17, 2) := by decide +kernel
theorem dL_law_478 : decode cL_law 478 = .ok (.aload_n 2, 1) := by decide +kernel
theorem dL_law_479 : decode cL_law 479 = .ok (.aload_n 3, 1) := by decide +kernel
theorem dL_law_480 : decode cL_law 480 = .ok (.aload 4, 2) := by decide +kernel
theorem dL_law_482 : decode cL_law 482 = .ok (.aload 5, 2) := by decide +kernel
theorem dL_law_484 : decode cL_law 484 = .ok (.aload 6, 2) := by decide +kernel
theorem dL_law_486 : decode cL_law 486 = .ok (.aload 7, 2) := by decide +kernel
theorem dL_law_488 : decode cL_law 488 = .ok (.aload 8, 2) := by decide +kernel
theorem dL_law_490 : decode cL_law 490 = .ok (.aload 9, 2) := by decide +kernel
theorem dL_law_492 : decode cL_law 492 = .ok (.aload 10, 2) := by decide +kernel
theorem dL_law_494 : decode cL_law 494 = .ok (.invokestatic 114, 3) := by decide +kernel
theorem dL_law_497 : decode cL_law 497 = .ok (.if_icmp .ne 26, 3) := by decide +kernel
theorem dL_law_500 : decode cL_law 500 = .ok (.aload_n 1, 1) := by decide +kernel
theorem dL_law_501 : decode cL_law 501 = .ok (.iload 12, 2) := by decide +kernel
theorem dL_law_503 : decode cL_law 503 = .ok (.iconst 5, 1) := by decide +kernel
theorem dL_law_504 : decode cL_law 504 = .ok (.ishr, 1) := by decide +kernel
theorem dL_law_505 : decode cL_law 505 = .ok (.aload_n 2, 1) := by decide +kernel
theorem dL_law_506 : decode cL_law 506 = .ok (.aload_n 3, 1) := by decide +kernel
theorem dL_law_507 : decode cL_law 507 = .ok (.aload 4, 2) := by decide +kernel
theorem dL_law_509 : decode cL_law 509 = .ok (.aload 5, 2) := by decide +kernel
theorem dL_law_511 : decode cL_law 511 = .ok (.aload 6, 2) := by decide +kernel
theorem dL_law_513 : decode cL_law 513 = .ok (.aload 8, 2) := by decide +kernel
theorem dL_law_515 : decode cL_law 515 = .ok (.aload 10, 2) := by decide +kernel
theorem dL_law_517 : decode cL_law 517 = .ok (.invokestatic 118, 3) := by decide +kernel
theorem dL_law_520 : decode cL_law 520 = .ok (.ifCond .ne 5, 3) := by decide +kernel
theorem dL_law_523 : decode cL_law 523 = .ok (.iconst 0, 1) := by decide +kernel
theorem dL_law_524 : decode cL_law 524 = .ok (.ireturn, 1) := by decide +kernel
theorem dL_law_525 : decode cL_law 525 = .ok (.iinc 11 1, 3) := by decide +kernel
theorem dL_law_528 : decode cL_law 528 = .ok (.goto (-452), 3) := by decide +kernel
theorem dL_law_531 : decode cL_law 531 = .ok (.iconst 1, 1) := by decide +kernel
theorem dL_law_532 : decode cL_law 532 = .ok (.ireturn, 1) := by decide +kernel
