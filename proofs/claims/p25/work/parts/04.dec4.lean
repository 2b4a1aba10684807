theorem dL_isSo_265 : decode cL_isSo 265 = .ok (.aload 4, 2) := by decide +kernel
theorem dL_isSo_267 : decode cL_isSo 267 = .ok (.bipush 6, 2) := by decide +kernel
theorem dL_isSo_269 : decode cL_isSo 269 = .ok (.iload 9, 2) := by decide +kernel
theorem dL_isSo_271 : decode cL_isSo 271 = .ok (.imul, 1) := by decide +kernel
theorem dL_isSo_272 : decode cL_isSo 272 = .ok (.iconst 5, 1) := by decide +kernel
theorem dL_isSo_273 : decode cL_isSo 273 = .ok (.iadd, 1) := by decide +kernel
theorem dL_isSo_274 : decode cL_isSo 274 = .ok (.iaload, 1) := by decide +kernel
theorem dL_isSo_275 : decode cL_isSo 275 = .ok (.if_icmp .ne 102, 3) := by decide +kernel
theorem dL_isSo_278 : decode cL_isSo 278 = .ok (.aload_n 0, 1) := by decide +kernel
theorem dL_isSo_279 : decode cL_isSo 279 = .ok (.iload 9, 2) := by decide +kernel
theorem dL_isSo_281 : decode cL_isSo 281 = .ok (.bipush 9, 2) := by decide +kernel
theorem dL_isSo_283 : decode cL_isSo 283 = .ok (.invokevirtual 40, 3) := by decide +kernel
theorem dL_isSo_286 : decode cL_isSo 286 = .ok (.aload 5, 2) := by decide +kernel
theorem dL_isSo_288 : decode cL_isSo 288 = .ok (.iconst 3, 1) := by decide +kernel
theorem dL_isSo_289 : decode cL_isSo 289 = .ok (.iload 9, 2) := by decide +kernel
theorem dL_isSo_291 : decode cL_isSo 291 = .ok (.imul, 1) := by decide +kernel
theorem dL_isSo_292 : decode cL_isSo 292 = .ok (.iaload, 1) := by decide +kernel
theorem dL_isSo_293 : decode cL_isSo 293 = .ok (.if_icmp .ne 84, 3) := by decide +kernel
theorem dL_isSo_296 : decode cL_isSo 296 = .ok (.aload_n 0, 1) := by decide +kernel
theorem dL_isSo_297 : decode cL_isSo 297 = .ok (.iload 9, 2) := by decide +kernel
theorem dL_isSo_299 : decode cL_isSo 299 = .ok (.bipush 10, 2) := by decide +kernel
theorem dL_isSo_301 : decode cL_isSo 301 = .ok (.invokevirtual 40, 3) := by decide +kernel
theorem dL_isSo_304 : decode cL_isSo 304 = .ok (.aload 5, 2) := by decide +kernel
theorem dL_isSo_306 : decode cL_isSo 306 = .ok (.iconst 3, 1) := by decide +kernel
theorem dL_isSo_307 : decode cL_isSo 307 = .ok (.iload 9, 2) := by decide +kernel
theorem dL_isSo_309 : decode cL_isSo 309 = .ok (.imul, 1) := by decide +kernel
theorem dL_isSo_310 : decode cL_isSo 310 = .ok (.iconst 1, 1) := by decide +kernel
theorem dL_isSo_311 : decode cL_isSo 311 = .ok (.iadd, 1) := by decide +kernel
theorem dL_isSo_312 : decode cL_isSo 312 = .ok (.iaload, 1) := by decide +kernel
theorem dL_isSo_313 : decode cL_isSo 313 = .ok (.if_icmp .ne 64, 3) := by decide +kernel
theorem dL_isSo_316 : decode cL_isSo 316 = .ok (.aload_n 0, 1) := by decide +kernel
theorem dL_isSo_317 : decode cL_isSo 317 = .ok (.iload 9, 2) := by decide +kernel
theorem dL_isSo_319 : decode cL_isSo 319 = .ok (.bipush 11, 2) := by decide +kernel
theorem dL_isSo_321 : decode cL_isSo 321 = .ok (.invokevirtual 40, 3) := by decide +kernel
theorem dL_isSo_324 : decode cL_isSo 324 = .ok (.aload 5, 2) := by decide +kernel
theorem dL_isSo_326 : decode cL_isSo 326 = .ok (.iconst 3, 1) := by decide +kernel
theorem dL_isSo_327 : decode cL_isSo 327 = .ok (.iload 9, 2) := by decide +kernel
theorem dL_isSo_329 : decode cL_isSo 329 = .ok (.imul, 1) := by decide +kernel
theorem dL_isSo_330 : decode cL_isSo 330 = .ok (.iconst 2, 1) := by decide +kernel
theorem dL_isSo_331 : decode cL_isSo 331 = .ok (.iadd, 1) := by decide +kernel
theorem dL_isSo_332 : decode cL_isSo 332 = .ok (.iaload, 1) := by decide +kernel
theorem dL_isSo_333 : decode cL_isSo 333 = .ok (.if_icmp .ne 44, 3) := by decide +kernel
theorem dL_isSo_336 : decode cL_isSo 336 = .ok (.aload_n 0, 1) := by decide +kernel
theorem dL_isSo_337 : decode cL_isSo 337 = .ok (.iload 9, 2) := by decide +kernel
theorem dL_isSo_339 : decode cL_isSo 339 = .ok (.bipush 12, 2) := by decide +kernel
theorem dL_isSo_341 : decode cL_isSo 341 = .ok (.invokevirtual 40, 3) := by decide +kernel
theorem dL_isSo_344 : decode cL_isSo 344 = .ok (.aload_n 3, 1) := by decide +kernel
theorem dL_isSo_345 : decode cL_isSo 345 = .ok (.iconst 3, 1) := by decide +kernel
theorem dL_isSo_346 : decode cL_isSo 346 = .ok (.iload 9, 2) := by decide +kernel
theorem dL_isSo_348 : decode cL_isSo 348 = .ok (.imul, 1) := by decide +kernel
theorem dL_isSo_349 : decode cL_isSo 349 = .ok (.iconst 2, 1) := by decide +kernel
theorem dL_isSo_350 : decode cL_isSo 350 = .ok (.iadd, 1) := by decide +kernel
theorem dL_isSo_351 : decode cL_isSo 351 = .ok (.iaload, 1) := by decide +kernel
theorem dL_isSo_352 : decode cL_isSo 352 = .ok (.aload_n 3, 1) := by decide +kernel
theorem dL_isSo_353 : decode cL_isSo 353 = .ok (.iconst 3, 1) := by decide +kernel
theorem dL_isSo_354 : decode cL_isSo 354 = .ok (.iload 9, 2) := by decide +kernel
theorem dL_isSo_356 : decode cL_isSo 356 = .ok (.imul, 1) := by decide +kernel
theorem dL_isSo_357 : decode cL_isSo 357 = .ok (.iaload, 1) := by decide +kernel
theorem dL_isSo_358 : decode cL_isSo 358 = .ok (.aload_n 2, 1) := by decide +kernel
theorem dL_isSo_359 : decode cL_isSo 359 = .ok (.iconst 0, 1) := by decide +kernel
theorem dL_isSo_360 : decode cL_isSo 360 = .ok (.iaload, 1) := by decide +kernel
theorem dL_isSo_361 : decode cL_isSo 361 = .ok (.iadd, 1) := by decide +kernel
theorem dL_isSo_362 : decode cL_isSo 362 = .ok (.if_icmp .gt 7, 3) := by decide +kernel
theorem dL_isSo_365 : decode cL_isSo 365 = .ok (.iconst 1, 1) := by decide +kernel
theorem dL_isSo_366 : decode cL_isSo 366 = .ok (.goto 4, 3) := by decide +kernel
theorem dL_isSo_369 : decode cL_isSo 369 = .ok (.iconst 0, 1) := by decide +kernel
theorem dL_isSo_370 : decode cL_isSo 370 = .ok (.if_icmp .ne 7, 3) := by decide +kernel
theorem dL_isSo_373 : decode cL_isSo 373 = .ok (.iconst 1, 1) := by decide +kernel
theorem dL_isSo_374 : decode cL_isSo 374 = .ok (.goto 4, 3) := by decide +kernel
theorem dL_isSo_377 : decode cL_isSo 377 = .ok (.iconst 0, 1) := by decide +kernel
theorem dL_isSo_378 : decode cL_isSo 378 = .ok (.istore 10, 2) := by decide +kernel
theorem dL_isSo_380 : decode cL_isSo 380 = .ok (.iload_n 1, 1) := by decide +kernel
theorem dL_isSo_381 : decode cL_isSo 381 = .ok (.iconst 3, 1) := by decide +kernel
theorem dL_isSo_382 : decode cL_isSo 382 = .ok (.ishr, 1) := by decide +kernel
theorem dL_isSo_383 : decode cL_isSo 383 = .ok (.aload_n 2, 1) := by decide +kernel
theorem dL_isSo_384 : decode cL_isSo 384 = .ok (.iconst 3, 1) := by decide +kernel
theorem dL_isSo_385 : decode cL_isSo 385 = .ok (.iaload, 1) := by decide +kernel
theorem dL_isSo_386 : decode cL_isSo 386 = .ok (.invokestatic 36, 3) := by decide +kernel
theorem dL_isSo_389 : decode cL_isSo 389 = .ok (.istore 12, 2) := by decide +kernel
theorem dL_isSo_391 : decode cL_isSo 391 = .ok (.iload_n 1, 1) := by decide +kernel
theorem dL_isSo_392 : decode cL_isSo 392 = .ok (.bipush 6, 2) := by decide +kernel
theorem dL_isSo_394 : decode cL_isSo 394 = .ok (.ishr, 1) := by decide +kernel
theorem dL_isSo_395 : decode cL_isSo 395 = .ok (.iconst 2, 1) := by decide +kernel
theorem dL_isSo_396 : decode cL_isSo 396 = .ok (.invokestatic 36, 3) := by decide +kernel
theorem dL_isSo_399 : decode cL_isSo 399 = .ok (.istore 13, 2) := by decide +kernel
theorem dL_isSo_401 : decode cL_isSo 401 = .ok (.iload_n 1, 1) := by decide +kernel
theorem dL_isSo_402 : decode cL_isSo 402 = .ok (.bipush 7, 2) := by decide +kernel
theorem dL_isSo_404 : decode cL_isSo 404 = .ok (.ishr, 1) := by decide +kernel
theorem dL_isSo_405 : decode cL_isSo 405 = .ok (.bipush 21, 2) := by decide +kernel
theorem dL_isSo_407 : decode cL_isSo 407 = .ok (.invokestatic 36, 3) := by decide +kernel
theorem dL_isSo_410 : decode cL_isSo 410 = .ok (.istore 14, 2) := by decide +kernel
theorem dL_isSo_412 : decode cL_isSo 412 = .ok (.iload 10, 2) := by decide +kernel
theorem dL_isSo_414 : decode cL_isSo 414 = .ok (.ifCond .eq 88, 3) := by decide +kernel
theorem dL_isSo_417 : decode cL_isSo 417 = .ok (.aload_n 0, 1) := by decide +kernel
theorem dL_isSo_418 : decode cL_isSo 418 = .ok (.iload 12, 2) := by decide +kernel
theorem dL_isSo_420 : decode cL_isSo 420 = .ok (.invokevirtual 52, 3) := by decide +kernel
theorem dL_isSo_423 : decode cL_isSo 423 = .ok (.aload 5, 2) := by decide +kernel
theorem dL_isSo_425 : decode cL_isSo 425 = .ok (.bipush 21, 2) := by decide +kernel
theorem dL_isSo_427 : decode cL_isSo 427 = .ok (.iload 12, 2) := by decide +kernel
theorem dL_isSo_429 : decode cL_isSo 429 = .ok (.iadd, 1) := by decide +kernel
theorem dL_isSo_430 : decode cL_isSo 430 = .ok (.iaload, 1) := by decide +kernel
theorem dL_isSo_431 : decode cL_isSo 431 = .ok (.ifCond .ge 8, 3) := by decide +kernel
theorem dL_isSo_434 : decode cL_isSo 434 = .ok (.bipush (-5), 2) := by decide +kernel
theorem dL_isSo_436 : decode cL_isSo 436 = .ok (.goto 11, 3) := by decide +kernel
theorem dL_isSo_439 : decode cL_isSo 439 = .ok (.aload 5, 2) := by decide +kernel
theorem dL_isSo_441 : decode cL_isSo 441 = .ok (.bipush 21, 2) := by decide +kernel
theorem dL_isSo_443 : decode cL_isSo 443 = .ok (.iload 12, 2) := by decide +kernel
theorem dL_isSo_445 : decode cL_isSo 445 = .ok (.iadd, 1) := by decide +kernel
theorem dL_isSo_446 : decode cL_isSo 446 = .ok (.iaload, 1) := by decide +kernel
theorem dL_isSo_447 : decode cL_isSo 447 = .ok (.if_icmp .ne 55, 3) := by decide +kernel
theorem dL_isSo_450 : decode cL_isSo 450 = .ok (.aload_n 0, 1) := by decide +kernel
theorem dL_isSo_451 : decode cL_isSo 451 = .ok (.iload 13, 2) := by decide +kernel
theorem dL_isSo_453 : decode cL_isSo 453 = .ok (.iload 14, 2) := by decide +kernel
theorem dL_isSo_455 : decode cL_isSo 455 = .ok (.invokevirtual 55, 3) := by decide +kernel
theorem dL_isSo_458 : decode cL_isSo 458 = .ok (.iload 14, 2) := by decide +kernel
theorem dL_isSo_460 : decode cL_isSo 460 = .ok (.aload_n 2, 1) := by decide +kernel
theorem dL_isSo_461 : decode cL_isSo 461 = .ok (.bipush 11, 2) := by decide +kernel
theorem dL_isSo_463 : decode cL_isSo 463 = .ok (.iload 13, 2) := by decide +kernel
theorem dL_isSo_465 : decode cL_isSo 465 = .ok (.iadd, 1) := by decide +kernel
theorem dL_isSo_466 : decode cL_isSo 466 = .ok (.iaload, 1) := by decide +kernel
theorem dL_isSo_467 : decode cL_isSo 467 = .ok (.if_icmp .ge 17, 3) := by decide +kernel
theorem dL_isSo_470 : decode cL_isSo 470 = .ok (.aload 6, 2) := by decide +kernel
theorem dL_isSo_472 : decode cL_isSo 472 = .ok (.bipush 20, 2) := by decide +kernel
theorem dL_isSo_474 : decode cL_isSo 474 = .ok (.iload 13, 2) := by decide +kernel
theorem dL_isSo_476 : decode cL_isSo 476 = .ok (.imul, 1) := by decide +kernel
theorem dL_isSo_477 : decode cL_isSo 477 = .ok (.iload 14, 2) := by decide +kernel
theorem dL_isSo_479 : decode cL_isSo 479 = .ok (.iadd, 1) := by decide +kernel
theorem dL_isSo_480 : decode cL_isSo 480 = .ok (.iaload, 1) := by decide +kernel
theorem dL_isSo_481 : decode cL_isSo 481 = .ok (.goto 5, 3) := by decide +kernel
theorem dL_isSo_484 : decode cL_isSo 484 = .ok (.bipush (-5), 2) := by decide +kernel
theorem dL_isSo_486 : decode cL_isSo 486 = .ok (.if_icmp .ne 16, 3) := by decide +kernel
theorem dL_isSo_489 : decode cL_isSo 489 = .ok (.aload_n 0, 1) := by decide +kernel
theorem dL_isSo_490 : decode cL_isSo 490 = .ok (.invokevirtual 58, 3) := by decide +kernel
theorem dL_isSo_493 : decode cL_isSo 493 = .ok (.iload 11, 2) := by decide +kernel
theorem dL_isSo_495 : decode cL_isSo 495 = .ok (.if_icmp .ne 7, 3) := by decide +kernel
theorem dL_isSo_498 : decode cL_isSo 498 = .ok (.iconst 1, 1) := by decide +kernel
theorem dL_isSo_499 : decode cL_isSo 499 = .ok (.goto 4, 3) := by decide +kernel
theorem dL_isSo_502 : decode cL_isSo 502 = .ok (.iconst 0, 1) := by decide +kernel
theorem dL_isSo_503 : decode cL_isSo 503 = .ok (.istore 10, 2) := by decide +kernel
theorem dL_isSo_505 : decode cL_isSo 505 = .ok (.iload 10, 2) := by decide +kernel
theorem dL_isSo_507 : decode cL_isSo 507 = .ok (.ifCond .eq 135, 3) := by decide +kernel
theorem dL_isSo_510 : decode cL_isSo 510 = .ok (.aload_n 0, 1) := by decide +kernel
theorem dL_isSo_511 : decode cL_isSo 511 = .ok (.iconst 0, 1) := by decide +kernel
theorem dL_isSo_512 : decode cL_isSo 512 = .ok (.invokevirtual 45, 3) := by decide +kernel
theorem dL_isSo_515 : decode cL_isSo 515 = .ok (.aload_n 2, 1) := by decide +kernel
theorem dL_isSo_516 : decode cL_isSo 516 = .ok (.iconst 3, 1) := by decide +kernel
theorem dL_isSo_517 : decode cL_isSo 517 = .ok (.iaload, 1) := by decide +kernel
theorem dL_isSo_518 : decode cL_isSo 518 = .ok (.if_icmp .ne 124, 3) := by decide +kernel
theorem dL_isSo_521 : decode cL_isSo 521 = .ok (.aload_n 0, 1) := by decide +kernel
theorem dL_isSo_522 : decode cL_isSo 522 = .ok (.iconst 1, 1) := by decide +kernel
theorem dL_isSo_523 : decode cL_isSo 523 = .ok (.invokevirtual 45, 3) := by decide +kernel
theorem dL_isSo_526 : decode cL_isSo 526 = .ok (.aload_n 2, 1) := by decide +kernel
theorem dL_isSo_527 : decode cL_isSo 527 = .ok (.iconst 4, 1) := by decide +kernel
theorem dL_isSo_528 : decode cL_isSo 528 = .ok (.iaload, 1) := by decide +kernel
theorem dL_isSo_529 : decode cL_isSo 529 = .ok (.if_icmp .ne 113, 3) := by decide +kernel
theorem dL_isSo_532 : decode cL_isSo 532 = .ok (.aload_n 0, 1) := by decide +kernel
theorem dL_isSo_533 : decode cL_isSo 533 = .ok (.iconst 2, 1) := by decide +kernel
theorem dL_isSo_534 : decode cL_isSo 534 = .ok (.invokevirtual 45, 3) := by decide +kernel
theorem dL_isSo_537 : decode cL_isSo 537 = .ok (.aload_n 2, 1) := by decide +kernel
theorem dL_isSo_538 : decode cL_isSo 538 = .ok (.bipush 11, 2) := by decide +kernel
theorem dL_isSo_540 : decode cL_isSo 540 = .ok (.iaload, 1) := by decide +kernel
theorem dL_isSo_541 : decode cL_isSo 541 = .ok (.aload_n 2, 1) := by decide +kernel
theorem dL_isSo_542 : decode cL_isSo 542 = .ok (.bipush 12, 2) := by decide +kernel
theorem dL_isSo_544 : decode cL_isSo 544 = .ok (.iaload, 1) := by decide +kernel
theorem dL_isSo_545 : decode cL_isSo 545 = .ok (.iadd, 1) := by decide +kernel
theorem dL_isSo_546 : decode cL_isSo 546 = .ok (.if_icmp .ne 96, 3) := by decide +kernel
theorem dL_isSo_549 : decode cL_isSo 549 = .ok (.aload_n 0, 1) := by decide +kernel
theorem dL_isSo_550 : decode cL_isSo 550 = .ok (.iconst 3, 1) := by decide +kernel
theorem dL_isSo_551 : decode cL_isSo 551 = .ok (.invokevirtual 45, 3) := by decide +kernel
theorem dL_isSo_554 : decode cL_isSo 554 = .ok (.aload_n 2, 1) := by decide +kernel
theorem dL_isSo_555 : decode cL_isSo 555 = .ok (.aload 5, 2) := by decide +kernel
theorem dL_isSo_557 : decode cL_isSo 557 = .ok (.invokestatic 62, 3) := by decide +kernel
theorem dL_isSo_560 : decode cL_isSo 560 = .ok (.if_icmp .ne 82, 3) := by decide +kernel
theorem dL_isSo_563 : decode cL_isSo 563 = .ok (.aload_n 0, 1) := by decide +kernel
theorem dL_isSo_564 : decode cL_isSo 564 = .ok (.iconst 4, 1) := by decide +kernel
theorem dL_isSo_565 : decode cL_isSo 565 = .ok (.invokevirtual 45, 3) := by decide +kernel
theorem dL_isSo_568 : decode cL_isSo 568 = .ok (.aload_n 2, 1) := by decide +kernel
theorem dL_isSo_569 : decode cL_isSo 569 = .ok (.bipush 10, 2) := by decide +kernel
theorem dL_isSo_571 : decode cL_isSo 571 = .ok (.iaload, 1) := by decide +kernel
theorem dL_isSo_572 : decode cL_isSo 572 = .ok (.if_icmp .ne 70, 3) := by decide +kernel
theorem dL_isSo_575 : decode cL_isSo 575 = .ok (.aload_n 0, 1) := by decide +kernel
theorem dL_isSo_576 : decode cL_isSo 576 = .ok (.iconst 5, 1) := by decide +kernel
theorem dL_isSo_577 : decode cL_isSo 577 = .ok (.invokevirtual 45, 3) := by decide +kernel
theorem dL_isSo_580 : decode cL_isSo 580 = .ok (.aload 5, 2) := by decide +kernel
theorem dL_isSo_582 : decode cL_isSo 582 = .ok (.iconst 2, 1) := by decide +kernel
theorem dL_isSo_583 : decode cL_isSo 583 = .ok (.iaload, 1) := by decide +kernel
theorem dL_isSo_584 : decode cL_isSo 584 = .ok (.if_icmp .ne 58, 3) := by decide +kernel
theorem dL_isSo_587 : decode cL_isSo 587 = .ok (.aload_n 0, 1) := by decide +kernel
theorem dL_isSo_588 : decode cL_isSo 588 = .ok (.bipush 6, 2) := by decide +kernel
theorem dL_isSo_590 : decode cL_isSo 590 = .ok (.invokevirtual 45, 3) := by decide +kernel
theorem dL_isSo_593 : decode cL_isSo 593 = .ok (.aload_n 2, 1) := by decide +kernel
theorem dL_isSo_594 : decode cL_isSo 594 = .ok (.iconst 5, 1) := by decide +kernel
theorem dL_isSo_595 : decode cL_isSo 595 = .ok (.iaload, 1) := by decide +kernel
theorem dL_isSo_596 : decode cL_isSo 596 = .ok (.if_icmp .ne 46, 3) := by decide +kernel
theorem dL_isSo_599 : decode cL_isSo 599 = .ok (.aload_n 0, 1) := by decide +kernel
theorem dL_isSo_600 : decode cL_isSo 600 = .ok (.bipush 7, 2) := by decide +kernel
theorem dL_isSo_602 : decode cL_isSo 602 = .ok (.invokevirtual 45, 3) := by decide +kernel
theorem dL_isSo_605 : decode cL_isSo 605 = .ok (.aload_n 2, 1) := by decide +kernel
theorem dL_isSo_606 : decode cL_isSo 606 = .ok (.bipush 6, 2) := by decide +kernel
theorem dL_isSo_608 : decode cL_isSo 608 = .ok (.iaload, 1) := by decide +kernel
theorem dL_isSo_609 : decode cL_isSo 609 = .ok (.if_icmp .ne 33, 3) := by decide +kernel
theorem dL_isSo_612 : decode cL_isSo 612 = .ok (.aload_n 0, 1) := by decide +kernel
theorem dL_isSo_613 : decode cL_isSo 613 = .ok (.bipush 8, 2) := by decide +kernel
theorem dL_isSo_615 : decode cL_isSo 615 = .ok (.invokevirtual 45, 3) := by decide +kernel
theorem dL_isSo_618 : decode cL_isSo 618 = .ok (.aload_n 2, 1) := by decide +kernel
theorem dL_isSo_619 : decode cL_isSo 619 = .ok (.bipush 7, 2) := by decide +kernel
theorem dL_isSo_621 : decode cL_isSo 621 = .ok (.iaload, 1) := by decide +kernel
theorem dL_isSo_622 : decode cL_isSo 622 = .ok (.if_icmp .ne 20, 3) := by decide +kernel
theorem dL_isSo_625 : decode cL_isSo 625 = .ok (.aload_n 0, 1) := by decide +kernel
theorem dL_isSo_626 : decode cL_isSo 626 = .ok (.bipush 9, 2) := by decide +kernel
theorem dL_isSo_628 : decode cL_isSo 628 = .ok (.invokevirtual 45, 3) := by decide +kernel
theorem dL_isSo_631 : decode cL_isSo 631 = .ok (.aload_n 2, 1) := by decide +kernel
theorem dL_isSo_632 : decode cL_isSo 632 = .ok (.bipush 8, 2) := by decide +kernel
theorem dL_isSo_634 : decode cL_isSo 634 = .ok (.iaload, 1) := by decide +kernel
theorem dL_isSo_635 : decode cL_isSo 635 = .ok (.if_icmp .ne 7, 3) := by decide +kernel
theorem dL_isSo_638 : decode cL_isSo 638 = .ok (.iconst 1, 1) := by decide +kernel
theorem dL_isSo_639 : decode cL_isSo 639 = .ok (.goto 4, 3) := by decide +kernel
theorem dL_isSo_642 : decode cL_isSo 642 = .ok (.iconst 0, 1) := by decide +kernel
theorem dL_isSo_643 : decode cL_isSo 643 = .ok (.ireturn, 1) := by decide +kernel
theorem dL_told_0 : decode cL_told 0 = .ok (.ldc2_w 66, 3) := by decide +kernel
theorem dL_told_3 : decode cL_told 3 = .ok (.lstore_n 1, 1) := by decide +kernel
theorem dL_told_4 : decode cL_told 4 = .ok (.iconst 0, 1) := by decide +kernel
theorem dL_told_5 : decode cL_told 5 = .ok (.istore_n 3, 1) := by decide +kernel
theorem dL_told_6 : decode cL_told 6 = .ok (.iload_n 3, 1) := by decide +kernel
theorem dL_told_7 : decode cL_told 7 = .ok (.bipush 13, 2) := by decide +kernel
theorem dL_told_9 : decode cL_told 9 = .ok (.if_icmp .ge 22, 3) := by decide +kernel
theorem dL_told_12 : decode cL_told 12 = .ok (.ldc2_w 68, 3) := by decide +kernel
theorem dL_told_15 : decode cL_told 15 = .ok (.lload_n 1, 1) := by decide +kernel
theorem dL_told_16 : decode cL_told 16 = .ok (.lmul, 1) := by decide +kernel
theorem dL_told_17 : decode cL_told 17 = .ok (.aload_n 0, 1) := by decide +kernel
theorem dL_told_18 : decode cL_told 18 = .ok (.iload_n 3, 1) := by decide +kernel
theorem dL_told_19 : decode cL_told 19 = .ok (.invokevirtual 45, 3) := by decide +kernel
theorem dL_told_22 : decode cL_told 22 = .ok (.i2l, 1) := by decide +kernel
theorem dL_told_23 : decode cL_told 23 = .ok (.ladd, 1) := by decide +kernel
theorem dL_told_24 : decode cL_told 24 = .ok (.lstore_n 1, 1) := by decide +kernel
theorem dL_told_25 : decode cL_told 25 = .ok (.iinc 3 1, 3) := by decide +kernel
theorem dL_told_28 : decode cL_told 28 = .ok (.goto (-22), 3) := by decide +kernel
theorem dL_told_31 : decode cL_told 31 = .ok (.iconst 0, 1) := by decide +kernel
theorem dL_told_32 : decode cL_told 32 = .ok (.istore_n 3, 1) := by decide +kernel
theorem dL_told_33 : decode cL_told 33 = .ok (.iload_n 3, 1) := by decide +kernel
theorem dL_told_34 : decode cL_told 34 = .ok (.bipush 7, 2) := by decide +kernel
theorem dL_told_36 : decode cL_told 36 = .ok (.if_icmp .ge 53, 3) := by decide +kernel
theorem dL_told_39 : decode cL_told 39 = .ok (.iconst 0, 1) := by decide +kernel
theorem dL_told_40 : decode cL_told 40 = .ok (.istore 4, 2) := by decide +kernel
theorem dL_told_42 : decode cL_told 42 = .ok (.iload 4, 2) := by decide +kernel
theorem dL_told_44 : decode cL_told 44 = .ok (.bipush 12, 2) := by decide +kernel
theorem dL_told_46 : decode cL_told 46 = .ok (.if_icmp .ge 24, 3) := by decide +kernel
theorem dL_told_49 : decode cL_told 49 = .ok (.ldc2_w 68, 3) := by decide +kernel
theorem dL_told_52 : decode cL_told 52 = .ok (.lload_n 1, 1) := by decide +kernel
theorem dL_told_53 : decode cL_told 53 = .ok (.lmul, 1) := by decide +kernel
theorem dL_told_54 : decode cL_told 54 = .ok (.aload_n 0, 1) := by decide +kernel
theorem dL_told_55 : decode cL_told 55 = .ok (.iload_n 3, 1) := by decide +kernel
theorem dL_told_56 : decode cL_told 56 = .ok (.iload 4, 2) := by decide +kernel
theorem dL_told_58 : decode cL_told 58 = .ok (.invokevirtual 40, 3) := by decide +kernel
theorem dL_told_61 : decode cL_told 61 = .ok (.i2l, 1) := by decide +kernel
theorem dL_told_62 : decode cL_told 62 = .ok (.ladd, 1) := by decide +kernel
theorem dL_told_63 : decode cL_told 63 = .ok (.lstore_n 1, 1) := by decide +kernel
theorem dL_told_64 : decode cL_told 64 = .ok (.iinc 4 1, 3) := by decide +kernel
theorem dL_told_67 : decode cL_told 67 = .ok (.goto (-25), 3) := by decide +kernel
theorem dL_told_70 : decode cL_told 70 = .ok (.ldc2_w 68, 3) := by decide +kernel
theorem dL_told_73 : decode cL_told 73 = .ok (.lload_n 1, 1) := by decide +kernel
theorem dL_told_74 : decode cL_told 74 = .ok (.lmul, 1) := by decide +kernel
theorem dL_told_75 : decode cL_told 75 = .ok (.aload_n 0, 1) := by decide +kernel
theorem dL_told_76 : decode cL_told 76 = .ok (.iload_n 3, 1) := by decide +kernel
theorem dL_told_77 : decode cL_told 77 = .ok (.invokevirtual 52, 3) := by decide +kernel
theorem dL_told_80 : decode cL_told 80 = .ok (.i2l, 1) := by decide +kernel
theorem dL_told_81 : decode cL_told 81 = .ok (.ladd, 1) := by decide +kernel
theorem dL_told_82 : decode cL_told 82 = .ok (.lstore_n 1, 1) := by decide +kernel
theorem dL_told_83 : decode cL_told 83 = .ok (.iinc 3 1, 3) := by decide +kernel
theorem dL_told_86 : decode cL_told 86 = .ok (.goto (-53), 3) := by decide +kernel
theorem dL_told_89 : decode cL_told 89 = .ok (.ldc2_w 68, 3) := by decide +kernel
theorem dL_told_92 : decode cL_told 92 = .ok (.lload_n 1, 1) := by decide +kernel
theorem dL_told_93 : decode cL_told 93 = .ok (.lmul, 1) := by decide +kernel
theorem dL_told_94 : decode cL_told 94 = .ok (.aload_n 0, 1) := by decide +kernel
theorem dL_told_95 : decode cL_told 95 = .ok (.invokevirtual 58, 3) := by decide +kernel
theorem dL_told_98 : decode cL_told 98 = .ok (.i2l, 1) := by decide +kernel
theorem dL_told_99 : decode cL_told 99 = .ok (.ladd, 1) := by decide +kernel
theorem dL_told_100 : decode cL_told 100 = .ok (.lreturn, 1) := by decide +kernel
theorem dL_call_0 : decode cL_call 0 = .ok (.iload_n 1, 1) := by decide +kernel
theorem dL_call_1 : decode cL_call 1 = .ok (.tableswitch 70 0 4 #[35, 42, 48, 57, 64], 35) := by decide +kernel
theorem dL_call_36 : decode cL_call 36 = .ok (.aload_n 0, 1) := by decide +kernel
theorem dL_call_37 : decode cL_call 37 = .ok (.iload_n 2, 1) := by decide +kernel
theorem dL_call_38 : decode cL_call 38 = .ok (.iload_n 3, 1) := by decide +kernel
theorem dL_call_39 : decode cL_call 39 = .ok (.invokevirtual 70, 3) := by decide +kernel
theorem dL_call_42 : decode cL_call 42 = .ok (.ireturn, 1) := by decide +kernel
theorem dL_call_43 : decode cL_call 43 = .ok (.aload_n 0, 1) := by decide +kernel
theorem dL_call_44 : decode cL_call 44 = .ok (.iload_n 3, 1) := by decide +kernel
theorem dL_call_45 : decode cL_call 45 = .ok (.invokevirtual 73, 3) := by decide +kernel
theorem dL_call_48 : decode cL_call 48 = .ok (.ireturn, 1) := by decide +kernel
theorem dL_call_49 : decode cL_call 49 = .ok (.aload_n 0, 1) := by decide +kernel
theorem dL_call_50 : decode cL_call 50 = .ok (.iload_n 2, 1) := by decide +kernel
theorem dL_call_51 : decode cL_call 51 = .ok (.iload_n 3, 1) := by decide +kernel
theorem dL_call_52 : decode cL_call 52 = .ok (.iload 4, 2) := by decide +kernel
theorem dL_call_54 : decode cL_call 54 = .ok (.invokevirtual 76, 3) := by decide +kernel
theorem dL_call_57 : decode cL_call 57 = .ok (.ireturn, 1) := by decide +kernel
theorem dL_call_58 : decode cL_call 58 = .ok (.aload_n 0, 1) := by decide +kernel
theorem dL_call_59 : decode cL_call 59 = .ok (.iload_n 2, 1) := by decide +kernel
theorem dL_call_60 : decode cL_call 60 = .ok (.iload_n 3, 1) := by decide +kernel
theorem dL_call_61 : decode cL_call 61 = .ok (.invokevirtual 80, 3) := by decide +kernel
theorem dL_call_64 : decode cL_call 64 = .ok (.ireturn, 1) := by decide +kernel
theorem dL_call_65 : decode cL_call 65 = .ok (.aload_n 0, 1) := by decide +kernel
theorem dL_call_66 : decode cL_call 66 = .ok (.iload_n 2, 1) := by decide +kernel
theorem dL_call_67 : decode cL_call 67 = .ok (.invokevirtual 83, 3) := by decide +kernel
theorem dL_call_70 : decode cL_call 70 = .ok (.ireturn, 1) := by decide +kernel
theorem dL_call_71 : decode cL_call 71 = .ok (.aload_n 0, 1) := by decide +kernel
theorem dL_call_72 : decode cL_call 72 = .ok (.invokevirtual 86, 3) := by decide +kernel
theorem dL_call_75 : decode cL_call 75 = .ok (.ireturn, 1) := by decide +kernel
theorem dL_due_0 : decode cL_due 0 = .ok (.aload 4, 2) := by decide +kernel
theorem dL_due_2 : decode cL_due 2 = .ok (.iconst 4, 1) := by decide +kernel
theorem dL_due_3 : decode cL_due 3 = .ok (.iaload, 1) := by decide +kernel
theorem dL_due_4 : decode cL_due 4 = .ok (.istore 13, 2) := by decide +kernel
theorem dL_due_6 : decode cL_due 6 = .ok (.iload_n 0, 1) := by decide +kernel
theorem dL_due_7 : decode cL_due 7 = .ok (.iconst 2, 1) := by decide +kernel
theorem dL_due_8 : decode cL_due 8 = .ok (.if_icmp .ne 14, 3) := by decide +kernel
theorem dL_due_11 : decode cL_due 11 = .ok (.aload 5, 2) := by decide +kernel
theorem dL_due_13 : decode cL_due 13 = .ok (.iconst 3, 1) := by decide +kernel
theorem dL_due_14 : decode cL_due 14 = .ok (.iload_n 1, 1) := by decide +kernel
theorem dL_due_15 : decode cL_due 15 = .ok (.imul, 1) := by decide +kernel
theorem dL_due_16 : decode cL_due 16 = .ok (.iload_n 2, 1) := by decide +kernel
theorem dL_due_17 : decode cL_due 17 = .ok (.iadd, 1) := by decide +kernel
theorem dL_due_18 : decode cL_due 18 = .ok (.iaload, 1) := by decide +kernel
theorem dL_due_19 : decode cL_due 19 = .ok (.goto 46, 3) := by decide +kernel
theorem dL_due_22 : decode cL_due 22 = .ok (.iload_n 0, 1) := by decide +kernel
theorem dL_due_23 : decode cL_due 23 = .ok (.iconst 3, 1) := by decide +kernel
theorem dL_due_24 : decode cL_due 24 = .ok (.if_icmp .ne 10, 3) := by decide +kernel
theorem dL_due_27 : decode cL_due 27 = .ok (.aload 4, 2) := by decide +kernel
theorem dL_due_29 : decode cL_due 29 = .ok (.iload_n 1, 1) := by decide +kernel
theorem dL_due_30 : decode cL_due 30 = .ok (.iaload, 1) := by decide +kernel
theorem dL_due_31 : decode cL_due 31 = .ok (.goto 34, 3) := by decide +kernel
theorem dL_due_34 : decode cL_due 34 = .ok (.iload_n 0, 1) := by decide +kernel
theorem dL_due_35 : decode cL_due 35 = .ok (.iconst 4, 1) := by decide +kernel
theorem dL_due_36 : decode cL_due 36 = .ok (.if_icmp .ne 25, 3) := by decide +kernel
theorem dL_due_39 : decode cL_due 39 = .ok (.aload 4, 2) := by decide +kernel
theorem dL_due_41 : decode cL_due 41 = .ok (.bipush 11, 2) := by decide +kernel
theorem dL_due_43 : decode cL_due 43 = .ok (.iaload, 1) := by decide +kernel
theorem dL_due_44 : decode cL_due 44 = .ok (.aload 4, 2) := by decide +kernel
theorem dL_due_46 : decode cL_due 46 = .ok (.bipush 12, 2) := by decide +kernel
theorem dL_due_48 : decode cL_due 48 = .ok (.iaload, 1) := by decide +kernel
theorem dL_due_49 : decode cL_due 49 = .ok (.iadd, 1) := by decide +kernel
theorem dL_due_50 : decode cL_due 50 = .ok (.aload 4, 2) := by decide +kernel
theorem dL_due_52 : decode cL_due 52 = .ok (.aload 7, 2) := by decide +kernel
theorem dL_due_54 : decode cL_due 54 = .ok (.invokestatic 62, 3) := by decide +kernel
theorem dL_due_57 : decode cL_due 57 = .ok (.iadd, 1) := by decide +kernel
theorem dL_due_58 : decode cL_due 58 = .ok (.goto 7, 3) := by decide +kernel
theorem dL_due_61 : decode cL_due 61 = .ok (.aload 4, 2) := by decide +kernel
theorem dL_due_63 : decode cL_due 63 = .ok (.iconst 5, 1) := by decide +kernel
theorem dL_due_64 : decode cL_due 64 = .ok (.iaload, 1) := by decide +kernel
theorem dL_due_65 : decode cL_due 65 = .ok (.istore 14, 2) := by decide +kernel
theorem dL_due_67 : decode cL_due 67 = .ok (.iload_n 0, 1) := by decide +kernel
theorem dL_due_68 : decode cL_due 68 = .ok (.ifCond .ne 72, 3) := by decide +kernel
theorem dL_due_71 : decode cL_due 71 = .ok (.aload 4, 2) := by decide +kernel
theorem dL_due_73 : decode cL_due 73 = .ok (.bipush 11, 2) := by decide +kernel
theorem dL_due_75 : decode cL_due 75 = .ok (.iload_n 1, 1) := by decide +kernel
theorem dL_due_76 : decode cL_due 76 = .ok (.iadd, 1) := by decide +kernel
theorem dL_due_77 : decode cL_due 77 = .ok (.iaload, 1) := by decide +kernel
theorem dL_due_78 : decode cL_due 78 = .ok (.bipush 20, 2) := by decide +kernel
theorem dL_due_80 : decode cL_due 80 = .ok (.if_icmp .ne 6, 3) := by decide +kernel
theorem dL_due_83 : decode cL_due 83 = .ok (.bipush (-3), 2) := by decide +kernel
theorem dL_due_85 : decode cL_due 85 = .ok (.ireturn, 1) := by decide +kernel
theorem dL_due_86 : decode cL_due 86 = .ok (.aload 8, 2) := by decide +kernel
theorem dL_due_88 : decode cL_due 88 = .ok (.bipush 20, 2) := by decide +kernel
theorem dL_due_90 : decode cL_due 90 = .ok (.iload_n 1, 1) := by decide +kernel
theorem dL_due_91 : decode cL_due 91 = .ok (.imul, 1) := by decide +kernel
theorem dL_due_92 : decode cL_due 92 = .ok (.aload 4, 2) := by decide +kernel
theorem dL_due_94 : decode cL_due 94 = .ok (.bipush 11, 2) := by decide +kernel
theorem dL_due_96 : decode cL_due 96 = .ok (.iload_n 1, 1) := by decide +kernel
theorem dL_due_97 : decode cL_due 97 = .ok (.iadd, 1) := by decide +kernel
theorem dL_due_98 : decode cL_due 98 = .ok (.iaload, 1) := by decide +kernel
theorem dL_due_99 : decode cL_due 99 = .ok (.iadd, 1) := by decide +kernel
theorem dL_due_100 : decode cL_due 100 = .ok (.iload_n 2, 1) := by decide +kernel
theorem dL_due_101 : decode cL_due 101 = .ok (.iastore, 1) := by decide +kernel
theorem dL_due_102 : decode cL_due 102 = .ok (.aload 4, 2) := by decide +kernel
theorem dL_due_104 : decode cL_due 104 = .ok (.bipush 11, 2) := by decide +kernel
theorem dL_due_106 : decode cL_due 106 = .ok (.iload_n 1, 1) := by decide +kernel
theorem dL_due_107 : decode cL_due 107 = .ok (.iadd, 1) := by decide +kernel
theorem dL_due_108 : decode cL_due 108 = .ok (.dup2, 1) := by decide +kernel
theorem dL_due_109 : decode cL_due 109 = .ok (.iaload, 1) := by decide +kernel
theorem dL_due_110 : decode cL_due 110 = .ok (.iconst 1, 1) := by decide +kernel
theorem dL_due_111 : decode cL_due 111 = .ok (.iadd, 1) := by decide +kernel
theorem dL_due_112 : decode cL_due 112 = .ok (.iastore, 1) := by decide +kernel
theorem dL_due_113 : decode cL_due 113 = .ok (.aload 4, 2) := by decide +kernel
theorem dL_due_115 : decode cL_due 115 = .ok (.aload 5, 2) := by decide +kernel
theorem dL_due_117 : decode cL_due 117 = .ok (.aload 6, 2) := by decide +kernel
theorem dL_due_119 : decode cL_due 119 = .ok (.aload 7, 2) := by decide +kernel
theorem dL_due_121 : decode cL_due 121 = .ok (.aload 8, 2) := by decide +kernel
theorem dL_due_123 : decode cL_due 123 = .ok (.aload 9, 2) := by decide +kernel
theorem dL_due_125 : decode cL_due 125 = .ok (.aload 10, 2) := by decide +kernel
theorem dL_due_127 : decode cL_due 127 = .ok (.aload 11, 2) := by decide +kernel
theorem dL_due_129 : decode cL_due 129 = .ok (.invokestatic 20, 3) := by decide +kernel
theorem dL_due_132 : decode cL_due 132 = .ok (.aload 4, 2) := by decide +kernel
theorem dL_due_134 : decode cL_due 134 = .ok (.bipush 11, 2) := by decide +kernel
theorem dL_due_136 : decode cL_due 136 = .ok (.iload_n 1, 1) := by decide +kernel
theorem dL_due_137 : decode cL_due 137 = .ok (.iadd, 1) := by decide +kernel
theorem dL_due_138 : decode cL_due 138 = .ok (.iaload, 1) := by decide +kernel
theorem dL_due_139 : decode cL_due 139 = .ok (.ireturn, 1) := by decide +kernel
theorem dL_due_140 : decode cL_due 140 = .ok (.iload_n 0, 1) := by decide +kernel
theorem dL_due_141 : decode cL_due 141 = .ok (.iconst 2, 1) := by decide +kernel
theorem dL_due_142 : decode cL_due 142 = .ok (.if_icmp .ne 26, 3) := by decide +kernel
theorem dL_due_145 : decode cL_due 145 = .ok (.aload 5, 2) := by decide +kernel
theorem dL_due_147 : decode cL_due 147 = .ok (.iconst 3, 1) := by decide +kernel
theorem dL_due_148 : decode cL_due 148 = .ok (.iload_n 1, 1) := by decide +kernel
theorem dL_due_149 : decode cL_due 149 = .ok (.imul, 1) := by decide +kernel
theorem dL_due_150 : decode cL_due 150 = .ok (.iload_n 2, 1) := by decide +kernel
theorem dL_due_151 : decode cL_due 151 = .ok (.iadd, 1) := by decide +kernel
theorem dL_due_152 : decode cL_due 152 = .ok (.iload_n 3, 1) := by decide +kernel
theorem dL_due_153 : decode cL_due 153 = .ok (.iastore, 1) := by decide +kernel
theorem dL_due_154 : decode cL_due 154 = .ok (.iload 14, 2) := by decide +kernel
theorem dL_due_156 : decode cL_due 156 = .ok (.iload_n 3, 1) := by decide +kernel
theorem dL_due_157 : decode cL_due 157 = .ok (.if_icmp .ne 8, 3) := by decide +kernel
theorem dL_due_160 : decode cL_due 160 = .ok (.bipush (-5), 2) := by decide +kernel
theorem dL_due_162 : decode cL_due 162 = .ok (.goto 5, 3) := by decide +kernel
theorem dL_due_165 : decode cL_due 165 = .ok (.iload 14, 2) := by decide +kernel
theorem dL_due_167 : decode cL_due 167 = .ok (.ireturn, 1) := by decide +kernel
theorem dL_due_168 : decode cL_due 168 = .ok (.iload_n 0, 1) := by decide +kernel
theorem dL_due_169 : decode cL_due 169 = .ok (.iconst 3, 1) := by decide +kernel
theorem dL_due_170 : decode cL_due 170 = .ok (.if_icmp .ne 22, 3) := by decide +kernel
theorem dL_due_173 : decode cL_due 173 = .ok (.aload 4, 2) := by decide +kernel
theorem dL_due_175 : decode cL_due 175 = .ok (.iload_n 1, 1) := by decide +kernel
theorem dL_due_176 : decode cL_due 176 = .ok (.iload_n 2, 1) := by decide +kernel
theorem dL_due_177 : decode cL_due 177 = .ok (.iastore, 1) := by decide +kernel
theorem dL_due_178 : decode cL_due 178 = .ok (.iload 14, 2) := by decide +kernel
theorem dL_due_180 : decode cL_due 180 = .ok (.iload_n 2, 1) := by decide +kernel
theorem dL_due_181 : decode cL_due 181 = .ok (.if_icmp .ne 8, 3) := by decide +kernel
theorem dL_due_184 : decode cL_due 184 = .ok (.bipush (-5), 2) := by decide +kernel
theorem dL_due_186 : decode cL_due 186 = .ok (.goto 5, 3) := by decide +kernel
theorem dL_due_189 : decode cL_due 189 = .ok (.iload 14, 2) := by decide +kernel
theorem dL_due_191 : decode cL_due 191 = .ok (.ireturn, 1) := by decide +kernel
theorem dL_due_192 : decode cL_due 192 = .ok (.iload_n 0, 1) := by decide +kernel
theorem dL_due_193 : decode cL_due 193 = .ok (.iconst 4, 1) := by decide +kernel
theorem dL_due_194 : decode cL_due 194 = .ok (.if_icmp .ne 18, 3) := by decide +kernel
theorem dL_due_197 : decode cL_due 197 = .ok (.iload_n 1, 1) := by decide +kernel
theorem dL_due_198 : decode cL_due 198 = .ok (.aload 4, 2) := by decide +kernel
theorem dL_due_200 : decode cL_due 200 = .ok (.aload 5, 2) := by decide +kernel
theorem dL_due_202 : decode cL_due 202 = .ok (.aload 6, 2) := by decide +kernel
theorem dL_due_204 : decode cL_due 204 = .ok (.aload 7, 2) := by decide +kernel
theorem dL_due_206 : decode cL_due 206 = .ok (.invokestatic 89, 3) := by decide +kernel
theorem dL_due_209 : decode cL_due 209 = .ok (.iload 14, 2) := by decide +kernel
theorem dL_due_211 : decode cL_due 211 = .ok (.ireturn, 1) := by decide +kernel
theorem dL_due_212 : decode cL_due 212 = .ok (.iload_n 0, 1) := by decide +kernel
theorem dL_due_213 : decode cL_due 213 = .ok (.iconst 5, 1) := by decide +kernel
theorem dL_due_214 : decode cL_due 214 = .ok (.if_icmp .ne 14, 3) := by decide +kernel
theorem dL_due_217 : decode cL_due 217 = .ok (.aload 4, 2) := by decide +kernel
theorem dL_due_219 : decode cL_due 219 = .ok (.bipush 10, 2) := by decide +kernel
theorem dL_due_221 : decode cL_due 221 = .ok (.iaload, 1) := by decide +kernel
theorem dL_due_222 : decode cL_due 222 = .ok (.ifCond .ne 6, 3) := by decide +kernel
theorem dL_due_225 : decode cL_due 225 = .ok (.bipush (-5), 2) := by decide +kernel
theorem dL_due_227 : decode cL_due 227 = .ok (.ireturn, 1) := by decide +kernel
theorem dL_due_228 : decode cL_due 228 = .ok (.iload_n 0, 1) := by decide +kernel
theorem dL_due_229 : decode cL_due 229 = .ok (.iconst 1, 1) := by decide +kernel
theorem dL_due_230 : decode cL_due 230 = .ok (.if_icmp .ne 10, 3) := by decide +kernel
theorem dL_due_233 : decode cL_due 233 = .ok (.iload 13, 2) := by decide +kernel
theorem dL_due_235 : decode cL_due 235 = .ok (.iload_n 2, 1) := by decide +kernel
theorem dL_due_236 : decode cL_due 236 = .ok (.iadd, 1) := by decide +kernel
theorem dL_due_237 : decode cL_due 237 = .ok (.goto 5, 3) := by decide +kernel
theorem dL_due_240 : decode cL_due 240 = .ok (.ldc 93, 2) := by decide +kernel
theorem dL_due_242 : decode cL_due 242 = .ok (.istore 15, 2) := by decide +kernel
theorem dL_due_244 : decode cL_due 244 = .ok (.iconst 1, 1) := by decide +kernel
theorem dL_due_245 : decode cL_due 245 = .ok (.istore 16, 2) := by decide +kernel
theorem dL_due_247 : decode cL_due 247 = .ok (.iload 16, 2) := by decide +kernel
theorem dL_due_249 : decode cL_due 249 = .ok (.ifCond .eq 31, 3) := by decide +kernel
theorem dL_due_252 : decode cL_due 252 = .ok (.iload 15, 2) := by decide +kernel
theorem dL_due_254 : decode cL_due 254 = .ok (.aload 4, 2) := by decide +kernel
theorem dL_due_256 : decode cL_due 256 = .ok (.aload 5, 2) := by decide +kernel
theorem dL_due_258 : decode cL_due 258 = .ok (.aload 6, 2) := by decide +kernel
theorem dL_due_260 : decode cL_due 260 = .ok (.aload 7, 2) := by decide +kernel
theorem dL_due_262 : decode cL_due 262 = .ok (.aload 8, 2) := by decide +kernel
theorem dL_due_264 : decode cL_due 264 = .ok (.aload 9, 2) := by decide +kernel
theorem dL_due_266 : decode cL_due 266 = .ok (.aload 10, 2) := by decide +kernel
theorem dL_due_268 : decode cL_due 268 = .ok (.aload 11, 2) := by decide +kernel
theorem dL_due_270 : decode cL_due 270 = .ok (.aload 12, 2) := by decide +kernel
theorem dL_due_272 : decode cL_due 272 = .ok (.invokestatic 94, 3) := by decide +kernel
theorem dL_due_275 : decode cL_due 275 = .ok (.istore 16, 2) := by decide +kernel
theorem dL_due_277 : decode cL_due 277 = .ok (.goto (-30), 3) := by decide +kernel
theorem dL_due_280 : decode cL_due 280 = .ok (.aload 4, 2) := by decide +kernel
theorem dL_due_282 : decode cL_due 282 = .ok (.iconst 4, 1) := by decide +kernel
theorem dL_due_283 : decode cL_due 283 = .ok (.iload_n 0, 1) := by decide +kernel
theorem dL_due_284 : decode cL_due 284 = .ok (.iconst 1, 1) := by decide +kernel
theorem dL_due_285 : decode cL_due 285 = .ok (.if_icmp .ne 8, 3) := by decide +kernel
theorem dL_due_288 : decode cL_due 288 = .ok (.iload 15, 2) := by decide +kernel
theorem dL_due_290 : decode cL_due 290 = .ok (.goto 7, 3) := by decide +kernel
theorem dL_due_293 : decode cL_due 293 = .ok (.aload 4, 2) := by decide +kernel
theorem dL_due_295 : decode cL_due 295 = .ok (.iconst 4, 1) := by decide +kernel
theorem dL_due_296 : decode cL_due 296 = .ok (.iaload, 1) := by decide +kernel
theorem dL_due_297 : decode cL_due 297 = .ok (.iastore, 1) := by decide +kernel
theorem dL_due_298 : decode cL_due 298 = .ok (.iload_n 0, 1) := by decide +kernel
theorem dL_due_299 : decode cL_due 299 = .ok (.iconst 1, 1) := by decide +kernel
theorem dL_due_300 : decode cL_due 300 = .ok (.if_icmp .ne 13, 3) := by decide +kernel
theorem dL_due_303 : decode cL_due 303 = .ok (.aload 4, 2) := by decide +kernel
theorem dL_due_305 : decode cL_due 305 = .ok (.iconst 5, 1) := by decide +kernel
theorem dL_due_306 : decode cL_due 306 = .ok (.iaload, 1) := by decide +kernel
theorem dL_due_307 : decode cL_due 307 = .ok (.iload 14, 2) := by decide +kernel
theorem dL_due_309 : decode cL_due 309 = .ok (.isub, 1) := by decide +kernel
theorem dL_due_310 : decode cL_due 310 = .ok (.goto 10, 3) := by decide +kernel
theorem dL_due_313 : decode cL_due 313 = .ok (.aload 4, 2) := by decide +kernel
theorem dL_due_315 : decode cL_due 315 = .ok (.iconst 4, 1) := by decide +kernel
theorem dL_due_316 : decode cL_due 316 = .ok (.iaload, 1) := by decide +kernel
theorem dL_due_317 : decode cL_due 317 = .ok (.iload 13, 2) := by decide +kernel
theorem dL_due_319 : decode cL_due 319 = .ok (.isub, 1) := by decide +kernel
theorem dL_due_320 : decode cL_due 320 = .ok (.ireturn, 1) := by decide +kernel
