/-! ===== names of the law, printed ===== -/
theorem dL_holds_344 : decode cL_holds 344 = .ok (.iconst 0, 1) := by decide +kernel
theorem dL_holds_345 : decode cL_holds 345 = .ok (.invokestatic 144, 3) := by decide +kernel
theorem dL_holds_348 : decode cL_holds 348 = .ok (.if_icmp .lt 22, 3) := by decide +kernel
theorem dL_holds_351 : decode cL_holds 351 = .ok (.aload_n 0, 1) := by decide +kernel
theorem dL_holds_352 : decode cL_holds 352 = .ok (.iconst 3, 1) := by decide +kernel
theorem dL_holds_353 : decode cL_holds 353 = .ok (.iload 7, 2) := by decide +kernel
theorem dL_holds_355 : decode cL_holds 355 = .ok (.iconst 2, 1) := by decide +kernel
theorem dL_holds_356 : decode cL_holds 356 = .ok (.iconst 0, 1) := by decide +kernel
theorem dL_holds_357 : decode cL_holds 357 = .ok (.invokestatic 144, 3) := by decide +kernel
theorem dL_holds_360 : decode cL_holds 360 = .ok (.sipush 960, 3) := by decide +kernel
theorem dL_holds_363 : decode cL_holds 363 = .ok (.if_icmp .gt 7, 3) := by decide +kernel
theorem dL_holds_366 : decode cL_holds 366 = .ok (.iconst 1, 1) := by decide +kernel
theorem dL_holds_367 : decode cL_holds 367 = .ok (.goto 4, 3) := by decide +kernel
theorem dL_holds_370 : decode cL_holds 370 = .ok (.iconst 0, 1) := by decide +kernel
theorem dL_holds_371 : decode cL_holds 371 = .ok (.istore 6, 2) := by decide +kernel
theorem dL_holds_373 : decode cL_holds 373 = .ok (.iinc 7 1, 3) := by decide +kernel
theorem dL_holds_376 : decode cL_holds 376 = .ok (.goto (-72), 3) := by decide +kernel
theorem dL_holds_379 : decode cL_holds 379 = .ok (.iload_n 1, 1) := by decide +kernel
theorem dL_holds_380 : decode cL_holds 380 = .ok (.iload_n 3, 1) := by decide +kernel
theorem dL_holds_381 : decode cL_holds 381 = .ok (.irem, 1) := by decide +kernel
theorem dL_holds_382 : decode cL_holds 382 = .ok (.istore 7, 2) := by decide +kernel
theorem dL_holds_384 : decode cL_holds 384 = .ok (.aload_n 0, 1) := by decide +kernel
theorem dL_holds_385 : decode cL_holds 385 = .ok (.bipush 11, 2) := by decide +kernel
theorem dL_holds_387 : decode cL_holds 387 = .ok (.iload 7, 2) := by decide +kernel
theorem dL_holds_389 : decode cL_holds 389 = .ok (.iconst 0, 1) := by decide +kernel
theorem dL_holds_390 : decode cL_holds 390 = .ok (.iconst 0, 1) := by decide +kernel
theorem dL_holds_391 : decode cL_holds 391 = .ok (.invokestatic 144, 3) := by decide +kernel
theorem dL_holds_394 : decode cL_holds 394 = .ok (.istore 8, 2) := by decide +kernel
theorem dL_holds_396 : decode cL_holds 396 = .ok (.iconst 0, 1) := by decide +kernel
theorem dL_holds_397 : decode cL_holds 397 = .ok (.istore 9, 2) := by decide +kernel
theorem dL_holds_399 : decode cL_holds 399 = .ok (.iload 9, 2) := by decide +kernel
theorem dL_holds_401 : decode cL_holds 401 = .ok (.iload_n 2, 1) := by decide +kernel
theorem dL_holds_402 : decode cL_holds 402 = .ok (.if_icmp .ge 81, 3) := by decide +kernel
theorem dL_holds_405 : decode cL_holds 405 = .ok (.iload 6, 2) := by decide +kernel
theorem dL_holds_407 : decode cL_holds 407 = .ok (.ifCond .eq 76, 3) := by decide +kernel
theorem dL_holds_410 : decode cL_holds 410 = .ok (.aload_n 0, 1) := by decide +kernel
theorem dL_holds_411 : decode cL_holds 411 = .ok (.bipush 12, 2) := by decide +kernel
theorem dL_holds_413 : decode cL_holds 413 = .ok (.iload 7, 2) := by decide +kernel
theorem dL_holds_415 : decode cL_holds 415 = .ok (.iload 9, 2) := by decide +kernel
theorem dL_holds_417 : decode cL_holds 417 = .ok (.iconst 0, 1) := by decide +kernel
theorem dL_holds_418 : decode cL_holds 418 = .ok (.invokestatic 144, 3) := by decide +kernel
theorem dL_holds_421 : decode cL_holds 421 = .ok (.istore 10, 2) := by decide +kernel
theorem dL_holds_423 : decode cL_holds 423 = .ok (.iload 10, 2) := by decide +kernel
theorem dL_holds_425 : decode cL_holds 425 = .ok (.ifCond .ne 7, 3) := by decide +kernel
theorem dL_holds_428 : decode cL_holds 428 = .ok (.iconst 1, 1) := by decide +kernel
theorem dL_holds_429 : decode cL_holds 429 = .ok (.goto 4, 3) := by decide +kernel
theorem dL_holds_432 : decode cL_holds 432 = .ok (.iconst 0, 1) := by decide +kernel
theorem dL_holds_433 : decode cL_holds 433 = .ok (.iload 8, 2) := by decide +kernel
theorem dL_holds_435 : decode cL_holds 435 = .ok (.iconst (-1), 1) := by decide +kernel
theorem dL_holds_436 : decode cL_holds 436 = .ok (.if_icmp .eq 18, 3) := by decide +kernel
theorem dL_holds_439 : decode cL_holds 439 = .ok (.iload 8, 2) := by decide +kernel
theorem dL_holds_441 : decode cL_holds 441 = .ok (.iload 9, 2) := by decide +kernel
theorem dL_holds_443 : decode cL_holds 443 = .ok (.ishr, 1) := by decide +kernel
theorem dL_holds_444 : decode cL_holds 444 = .ok (.iconst 1, 1) := by decide +kernel
theorem dL_holds_445 : decode cL_holds 445 = .ok (.iand, 1) := by decide +kernel
theorem dL_holds_446 : decode cL_holds 446 = .ok (.iconst 1, 1) := by decide +kernel
theorem dL_holds_447 : decode cL_holds 447 = .ok (.if_icmp .ne 7, 3) := by decide +kernel
theorem dL_holds_450 : decode cL_holds 450 = .ok (.iconst 1, 1) := by decide +kernel
theorem dL_holds_451 : decode cL_holds 451 = .ok (.goto 4, 3) := by decide +kernel
theorem dL_holds_454 : decode cL_holds 454 = .ok (.iconst 0, 1) := by decide +kernel
theorem dL_holds_455 : decode cL_holds 455 = .ok (.if_icmp .ne 19, 3) := by decide +kernel
theorem dL_holds_458 : decode cL_holds 458 = .ok (.iload 10, 2) := by decide +kernel
theorem dL_holds_460 : decode cL_holds 460 = .ok (.iconst 5, 1) := by decide +kernel
theorem dL_holds_461 : decode cL_holds 461 = .ok (.if_icmp .lt 9, 3) := by decide +kernel
theorem dL_holds_464 : decode cL_holds 464 = .ok (.iload 8, 2) := by decide +kernel
theorem dL_holds_466 : decode cL_holds 466 = .ok (.iconst (-1), 1) := by decide +kernel
theorem dL_holds_467 : decode cL_holds 467 = .ok (.if_icmp .eq 7, 3) := by decide +kernel
theorem dL_holds_470 : decode cL_holds 470 = .ok (.iconst 1, 1) := by decide +kernel
theorem dL_holds_471 : decode cL_holds 471 = .ok (.goto 4, 3) := by decide +kernel
theorem dL_holds_474 : decode cL_holds 474 = .ok (.iconst 0, 1) := by decide +kernel
theorem dL_holds_475 : decode cL_holds 475 = .ok (.istore 6, 2) := by decide +kernel
theorem dL_holds_477 : decode cL_holds 477 = .ok (.iinc 9 1, 3) := by decide +kernel
theorem dL_holds_480 : decode cL_holds 480 = .ok (.goto (-81), 3) := by decide +kernel
theorem dL_holds_483 : decode cL_holds 483 = .ok (.aload_n 0, 1) := by decide +kernel
theorem dL_holds_484 : decode cL_holds 484 = .ok (.invokevirtual 168, 3) := by decide +kernel
theorem dL_holds_487 : decode cL_holds 487 = .ok (.istore 9, 2) := by decide +kernel
theorem dL_holds_489 : decode cL_holds 489 = .ok (.iload 6, 2) := by decide +kernel
theorem dL_holds_491 : decode cL_holds 491 = .ok (.ifCond .eq 61, 3) := by decide +kernel
theorem dL_holds_494 : decode cL_holds 494 = .ok (.aload_n 0, 1) := by decide +kernel
theorem dL_holds_495 : decode cL_holds 495 = .ok (.iconst 2, 1) := by decide +kernel
theorem dL_holds_496 : decode cL_holds 496 = .ok (.iconst 2, 1) := by decide +kernel
theorem dL_holds_497 : decode cL_holds 497 = .ok (.iconst 0, 1) := by decide +kernel
theorem dL_holds_498 : decode cL_holds 498 = .ok (.iconst 0, 1) := by decide +kernel
theorem dL_holds_499 : decode cL_holds 499 = .ok (.invokestatic 144, 3) := by decide +kernel
theorem dL_holds_502 : decode cL_holds 502 = .ok (.iload 4, 2) := by decide +kernel
theorem dL_holds_504 : decode cL_holds 504 = .ok (.if_icmp .ne 48, 3) := by decide +kernel
theorem dL_holds_507 : decode cL_holds 507 = .ok (.aload_n 0, 1) := by decide +kernel
theorem dL_holds_508 : decode cL_holds 508 = .ok (.iconst 2, 1) := by decide +kernel
theorem dL_holds_509 : decode cL_holds 509 = .ok (.iconst 4, 1) := by decide +kernel
theorem dL_holds_510 : decode cL_holds 510 = .ok (.iconst 0, 1) := by decide +kernel
theorem dL_holds_511 : decode cL_holds 511 = .ok (.iconst 0, 1) := by decide +kernel
theorem dL_holds_512 : decode cL_holds 512 = .ok (.invokestatic 144, 3) := by decide +kernel
theorem dL_holds_515 : decode cL_holds 515 = .ok (.aload_n 0, 1) := by decide +kernel
theorem dL_holds_516 : decode cL_holds 516 = .ok (.iconst 2, 1) := by decide +kernel
theorem dL_holds_517 : decode cL_holds 517 = .ok (.iconst 5, 1) := by decide +kernel
theorem dL_holds_518 : decode cL_holds 518 = .ok (.iconst 0, 1) := by decide +kernel
theorem dL_holds_519 : decode cL_holds 519 = .ok (.iconst 0, 1) := by decide +kernel
theorem dL_holds_520 : decode cL_holds 520 = .ok (.invokestatic 144, 3) := by decide +kernel
theorem dL_holds_523 : decode cL_holds 523 = .ok (.iadd, 1) := by decide +kernel
theorem dL_holds_524 : decode cL_holds 524 = .ok (.iload 5, 2) := by decide +kernel
theorem dL_holds_526 : decode cL_holds 526 = .ok (.if_icmp .ne 26, 3) := by decide +kernel
theorem dL_holds_529 : decode cL_holds 529 = .ok (.iload 9, 2) := by decide +kernel
theorem dL_holds_531 : decode cL_holds 531 = .ok (.iconst (-1), 1) := by decide +kernel
theorem dL_holds_532 : decode cL_holds 532 = .ok (.if_icmp .eq 16, 3) := by decide +kernel
theorem dL_holds_535 : decode cL_holds 535 = .ok (.aload_n 0, 1) := by decide +kernel
