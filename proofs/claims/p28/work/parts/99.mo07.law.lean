/-! ===== the law: its rows, printed ===== -/
theorem dL_holds_444 : decode cL_holds 444 = .ok (.iconst 1, 1) := by decide +kernel
theorem dL_holds_445 : decode cL_holds 445 = .ok (.iand, 1) := by decide +kernel
theorem dL_holds_446 : decode cL_holds 446 = .ok (.iconst 1, 1) := by decide +kernel
theorem dL_holds_447 : decode cL_holds 447 = .ok (.if_icmp .ne 7, 3) := by decide +kernel
theorem dL_holds_450 : decode cL_holds 450 = .ok (.iconst 1, 1) := by decide +kernel
theorem dL_holds_451 : decode cL_holds 451 = .ok (.goto 4, 3) := by decide +kernel
theorem dL_holds_454 : decode cL_holds 454 = .ok (.iconst 0, 1) := by decide +kernel
theorem dL_holds_455 : decode cL_holds 455 = .ok (.if_icmp .ne 19, 3) := by decide +kernel
theorem dL_holds_458 : decode cL_holds 458 = .ok (.iload 10, 2) := by decide +kernel
theorem dL_holds_460 : decode cL_holds 460 = .ok (.iconst 5, 1) := by decide +kernel
theorem dL_holds_461 : decode cL_holds 461 = .ok (.if_icmp .lt 9, 3) := by decide +kernel
theorem dL_holds_464 : decode cL_holds 464 = .ok (.iload 8, 2) := by decide +kernel
theorem dL_holds_466 : decode cL_holds 466 = .ok (.iconst (-1), 1) := by decide +kernel
theorem dL_holds_467 : decode cL_holds 467 = .ok (.if_icmp .eq 7, 3) := by decide +kernel
theorem dL_holds_470 : decode cL_holds 470 = .ok (.iconst 1, 1) := by decide +kernel
theorem dL_holds_471 : decode cL_holds 471 = .ok (.goto 4, 3) := by decide +kernel
theorem dL_holds_474 : decode cL_holds 474 = .ok (.iconst 0, 1) := by decide +kernel
theorem dL_holds_475 : decode cL_holds 475 = .ok (.istore 6, 2) := by decide +kernel
theorem dL_holds_477 : decode cL_holds 477 = .ok (.iinc 9 1, 3) := by decide +kernel
theorem dL_holds_480 : decode cL_holds 480 = .ok (.goto (-81), 3) := by decide +kernel
theorem dL_holds_483 : decode cL_holds 483 = .ok (.aload_n 0, 1) := by decide +kernel
theorem dL_holds_484 : decode cL_holds 484 = .ok (.invokevirtual 168, 3) := by decide +kernel
theorem dL_holds_487 : decode cL_holds 487 = .ok (.istore 9, 2) := by decide +kernel
theorem dL_holds_489 : decode cL_holds 489 = .ok (.iload 6, 2) := by decide +kernel
theorem dL_holds_491 : decode cL_holds 491 = .ok (.ifCond .eq 61, 3) := by decide +kernel
theorem dL_holds_494 : decode cL_holds 494 = .ok (.aload_n 0, 1) := by decide +kernel
theorem dL_holds_495 : decode cL_holds 495 = .ok (.iconst 2, 1) := by decide +kernel
theorem dL_holds_496 : decode cL_holds 496 = .ok (.iconst 2, 1) := by decide +kernel
theorem dL_holds_497 : decode cL_holds 497 = .ok (.iconst 0, 1) := by decide +kernel
theorem dL_holds_498 : decode cL_holds 498 = .ok (.iconst 0, 1) := by decide +kernel
theorem dL_holds_499 : decode cL_holds 499 = .ok (.invokestatic 144, 3) := by decide +kernel
theorem dL_holds_502 : decode cL_holds 502 = .ok (.iload 4, 2) := by decide +kernel
theorem dL_holds_504 : decode cL_holds 504 = .ok (.if_icmp .ne 48, 3) := by decide +kernel
theorem dL_holds_507 : decode cL_holds 507 = .ok (.aload_n 0, 1) := by decide +kernel
theorem dL_holds_508 : decode cL_holds 508 = .ok (.iconst 2, 1) := by decide +kernel
theorem dL_holds_509 : decode cL_holds 509 = .ok (.iconst 4, 1) := by decide +kernel
theorem dL_holds_510 : decode cL_holds 510 = .ok (.iconst 0, 1) := by decide +kernel
theorem dL_holds_511 : decode cL_holds 511 = .ok (.iconst 0, 1) := by decide +kernel
theorem dL_holds_512 : decode cL_holds 512 = .ok (.invokestatic 144, 3) := by decide +kernel
theorem dL_holds_515 : decode cL_holds 515 = .ok (.aload_n 0, 1) := by decide +kernel
theorem dL_holds_516 : decode cL_holds 516 = .ok (.iconst 2, 1) := by decide +kernel
theorem dL_holds_517 : decode cL_holds 517 = .ok (.iconst 5, 1) := by decide +kernel
theorem dL_holds_518 : decode cL_holds 518 = .ok (.iconst 0, 1) := by decide +kernel
theorem dL_holds_519 : decode cL_holds 519 = .ok (.iconst 0, 1) := by decide +kernel
theorem dL_holds_520 : decode cL_holds 520 = .ok (.invokestatic 144, 3) := by decide +kernel
theorem dL_holds_523 : decode cL_holds 523 = .ok (.iadd, 1) := by decide +kernel
theorem dL_holds_524 : decode cL_holds 524 = .ok (.iload 5, 2) := by decide +kernel
theorem dL_holds_526 : decode cL_holds 526 = .ok (.if_icmp .ne 26, 3) := by decide +kernel
theorem dL_holds_529 : decode cL_holds 529 = .ok (.iload 9, 2) := by decide +kernel
theorem dL_holds_531 : decode cL_holds 531 = .ok (.iconst (-1), 1) := by decide +kernel
theorem dL_holds_532 : decode cL_holds 532 = .ok (.if_icmp .eq 16, 3) := by decide +kernel
theorem dL_holds_535 : decode cL_holds 535 = .ok (.aload_n 0, 1) := by decide +kernel
theorem dL_holds_536 : decode cL_holds 536 = .ok (.bipush 11, 2) := by decide +kernel
theorem dL_holds_538 : decode cL_holds 538 = .ok (.iload 9, 2) := by decide +kernel
theorem dL_holds_540 : decode cL_holds 540 = .ok (.iconst 0, 1) := by decide +kernel
theorem dL_holds_541 : decode cL_holds 541 = .ok (.iconst 0, 1) := by decide +kernel
theorem dL_holds_542 : decode cL_holds 542 = .ok (.invokestatic 144, 3) := by decide +kernel
theorem dL_holds_545 : decode cL_holds 545 = .ok (.ifCond .le 7, 3) := by decide +kernel
theorem dL_holds_548 : decode cL_holds 548 = .ok (.iconst 1, 1) := by decide +kernel
theorem dL_holds_549 : decode cL_holds 549 = .ok (.goto 4, 3) := by decide +kernel
theorem dL_holds_552 : decode cL_holds 552 = .ok (.iconst 0, 1) := by decide +kernel
theorem dL_holds_553 : decode cL_holds 553 = .ok (.istore 6, 2) := by decide +kernel
theorem dL_holds_555 : decode cL_holds 555 = .ok (.iload 6, 2) := by decide +kernel
theorem dL_holds_557 : decode cL_holds 557 = .ok (.ifCond .eq 9, 3) := by decide +kernel
theorem dL_holds_560 : decode cL_holds 560 = .ok (.iload 8, 2) := by decide +kernel
theorem dL_holds_562 : decode cL_holds 562 = .ok (.iconst (-1), 1) := by decide +kernel
theorem dL_holds_563 : decode cL_holds 563 = .ok (.if_icmp .ne 6, 3) := by decide +kernel
theorem dL_holds_566 : decode cL_holds 566 = .ok (.iload 6, 2) := by decide +kernel
theorem dL_holds_568 : decode cL_holds 568 = .ok (.ireturn, 1) := by decide +kernel
theorem dL_holds_569 : decode cL_holds 569 = .ok (.aload_n 0, 1) := by decide +kernel
theorem dL_holds_570 : decode cL_holds 570 = .ok (.bipush 11, 2) := by decide +kernel
theorem dL_holds_572 : decode cL_holds 572 = .ok (.iload 7, 2) := by decide +kernel
theorem dL_holds_574 : decode cL_holds 574 = .ok (.iconst 1, 1) := by decide +kernel
theorem dL_holds_575 : decode cL_holds 575 = .ok (.iconst 0, 1) := by decide +kernel
theorem dL_holds_576 : decode cL_holds 576 = .ok (.invokestatic 144, 3) := by decide +kernel
theorem dL_holds_579 : decode cL_holds 579 = .ok (.aload_n 0, 1) := by decide +kernel
theorem dL_holds_580 : decode cL_holds 580 = .ok (.bipush 11, 2) := by decide +kernel
theorem dL_holds_582 : decode cL_holds 582 = .ok (.iload 7, 2) := by decide +kernel
theorem dL_holds_584 : decode cL_holds 584 = .ok (.iconst 2, 1) := by decide +kernel
theorem dL_holds_585 : decode cL_holds 585 = .ok (.iconst 0, 1) := by decide +kernel
theorem dL_holds_586 : decode cL_holds 586 = .ok (.invokestatic 144, 3) := by decide +kernel
theorem dL_holds_589 : decode cL_holds 589 = .ok (.iadd, 1) := by decide +kernel
theorem dL_holds_590 : decode cL_holds 590 = .ok (.istore 10, 2) := by decide +kernel
theorem dL_holds_592 : decode cL_holds 592 = .ok (.aload_n 0, 1) := by decide +kernel
theorem dL_holds_593 : decode cL_holds 593 = .ok (.bipush 11, 2) := by decide +kernel
theorem dL_holds_595 : decode cL_holds 595 = .ok (.iload 9, 2) := by decide +kernel
theorem dL_holds_597 : decode cL_holds 597 = .ok (.iconst 1, 1) := by decide +kernel
theorem dL_holds_598 : decode cL_holds 598 = .ok (.iconst 0, 1) := by decide +kernel
theorem dL_holds_599 : decode cL_holds 599 = .ok (.invokestatic 144, 3) := by decide +kernel
theorem dL_holds_602 : decode cL_holds 602 = .ok (.aload_n 0, 1) := by decide +kernel
theorem dL_holds_603 : decode cL_holds 603 = .ok (.bipush 11, 2) := by decide +kernel
theorem dL_holds_605 : decode cL_holds 605 = .ok (.iload 9, 2) := by decide +kernel
theorem dL_holds_607 : decode cL_holds 607 = .ok (.iconst 2, 1) := by decide +kernel
theorem dL_holds_608 : decode cL_holds 608 = .ok (.iconst 0, 1) := by decide +kernel
theorem dL_holds_609 : decode cL_holds 609 = .ok (.invokestatic 144, 3) := by decide +kernel
theorem dL_holds_612 : decode cL_holds 612 = .ok (.iadd, 1) := by decide +kernel
theorem dL_holds_613 : decode cL_holds 613 = .ok (.istore 11, 2) := by decide +kernel
theorem dL_holds_615 : decode cL_holds 615 = .ok (.aload_n 0, 1) := by decide +kernel
theorem dL_holds_616 : decode cL_holds 616 = .ok (.iconst 4, 1) := by decide +kernel
theorem dL_holds_617 : decode cL_holds 617 = .ok (.iload 7, 2) := by decide +kernel
theorem dL_holds_619 : decode cL_holds 619 = .ok (.bipush 7, 2) := by decide +kernel
theorem dL_holds_621 : decode cL_holds 621 = .ok (.iconst 0, 1) := by decide +kernel
theorem dL_holds_622 : decode cL_holds 622 = .ok (.invokestatic 144, 3) := by decide +kernel
theorem dL_holds_625 : decode cL_holds 625 = .ok (.istore 12, 2) := by decide +kernel
theorem dL_holds_627 : decode cL_holds 627 = .ok (.iload 11, 2) := by decide +kernel
theorem dL_holds_629 : decode cL_holds 629 = .ok (.iload 10, 2) := by decide +kernel
theorem dL_holds_631 : decode cL_holds 631 = .ok (.if_icmp .gt 85, 3) := by decide +kernel
theorem dL_holds_634 : decode cL_holds 634 = .ok (.iload 11, 2) := by decide +kernel
theorem dL_holds_636 : decode cL_holds 636 = .ok (.iload 10, 2) := by decide +kernel
theorem dL_holds_638 : decode cL_holds 638 = .ok (.if_icmp .lt 10, 3) := by decide +kernel
