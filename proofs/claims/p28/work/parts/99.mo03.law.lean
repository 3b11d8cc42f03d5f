/-! ===== the law: its rows, printed ===== -/
theorem dL_refuses_442 : decode cL_refuses 442 = .ok (.iconst 0, 1) := by decide +kernel
theorem dL_refuses_443 : decode cL_refuses 443 = .ok (.invokestatic 144, 3) := by decide +kernel
theorem dL_refuses_446 : decode cL_refuses 446 = .ok (.ldc 15, 2) := by decide +kernel
theorem dL_refuses_448 : decode cL_refuses 448 = .ok (.if_icmp .ne 232, 3) := by decide +kernel
theorem dL_refuses_451 : decode cL_refuses 451 = .ok (.aload_n 0, 1) := by decide +kernel
theorem dL_refuses_452 : decode cL_refuses 452 = .ok (.bipush 9, 2) := by decide +kernel
theorem dL_refuses_454 : decode cL_refuses 454 = .ok (.iconst 1, 1) := by decide +kernel
theorem dL_refuses_455 : decode cL_refuses 455 = .ok (.iload_n 1, 1) := by decide +kernel
theorem dL_refuses_456 : decode cL_refuses 456 = .ok (.bipush 9, 2) := by decide +kernel
theorem dL_refuses_458 : decode cL_refuses 458 = .ok (.irem, 1) := by decide +kernel
theorem dL_refuses_459 : decode cL_refuses 459 = .ok (.ineg, 1) := by decide +kernel
theorem dL_refuses_460 : decode cL_refuses 460 = .ok (.iconst 0, 1) := by decide +kernel
theorem dL_refuses_461 : decode cL_refuses 461 = .ok (.invokestatic 144, 3) := by decide +kernel
theorem dL_refuses_464 : decode cL_refuses 464 = .ok (.ldc 15, 2) := by decide +kernel
theorem dL_refuses_466 : decode cL_refuses 466 = .ok (.if_icmp .ne 214, 3) := by decide +kernel
theorem dL_refuses_469 : decode cL_refuses 469 = .ok (.aload_n 0, 1) := by decide +kernel
theorem dL_refuses_470 : decode cL_refuses 470 = .ok (.bipush 9, 2) := by decide +kernel
theorem dL_refuses_472 : decode cL_refuses 472 = .ok (.iconst 3, 1) := by decide +kernel
theorem dL_refuses_473 : decode cL_refuses 473 = .ok (.iload_n 1, 1) := by decide +kernel
theorem dL_refuses_474 : decode cL_refuses 474 = .ok (.bipush 9, 2) := by decide +kernel
theorem dL_refuses_476 : decode cL_refuses 476 = .ok (.irem, 1) := by decide +kernel
theorem dL_refuses_477 : decode cL_refuses 477 = .ok (.iadd, 1) := by decide +kernel
theorem dL_refuses_478 : decode cL_refuses 478 = .ok (.bipush 50, 2) := by decide +kernel
theorem dL_refuses_480 : decode cL_refuses 480 = .ok (.iconst 0, 1) := by decide +kernel
theorem dL_refuses_481 : decode cL_refuses 481 = .ok (.invokestatic 144, 3) := by decide +kernel
theorem dL_refuses_484 : decode cL_refuses 484 = .ok (.ldc 15, 2) := by decide +kernel
theorem dL_refuses_486 : decode cL_refuses 486 = .ok (.if_icmp .ne 194, 3) := by decide +kernel
theorem dL_refuses_489 : decode cL_refuses 489 = .ok (.aload_n 0, 1) := by decide +kernel
theorem dL_refuses_490 : decode cL_refuses 490 = .ok (.bipush 11, 2) := by decide +kernel
theorem dL_refuses_492 : decode cL_refuses 492 = .ok (.iload_n 3, 1) := by decide +kernel
theorem dL_refuses_493 : decode cL_refuses 493 = .ok (.bipush 9, 2) := by decide +kernel
theorem dL_refuses_495 : decode cL_refuses 495 = .ok (.iconst 0, 1) := by decide +kernel
theorem dL_refuses_496 : decode cL_refuses 496 = .ok (.invokestatic 144, 3) := by decide +kernel
theorem dL_refuses_499 : decode cL_refuses 499 = .ok (.ldc 44, 2) := by decide +kernel
theorem dL_refuses_501 : decode cL_refuses 501 = .ok (.if_icmp .ne 179, 3) := by decide +kernel
theorem dL_refuses_504 : decode cL_refuses 504 = .ok (.aload_n 0, 1) := by decide +kernel
theorem dL_refuses_505 : decode cL_refuses 505 = .ok (.bipush 11, 2) := by decide +kernel
theorem dL_refuses_507 : decode cL_refuses 507 = .ok (.iconst 0, 1) := by decide +kernel
theorem dL_refuses_508 : decode cL_refuses 508 = .ok (.iconst 4, 1) := by decide +kernel
theorem dL_refuses_509 : decode cL_refuses 509 = .ok (.iload_n 1, 1) := by decide +kernel
theorem dL_refuses_510 : decode cL_refuses 510 = .ok (.bipush 9, 2) := by decide +kernel
theorem dL_refuses_512 : decode cL_refuses 512 = .ok (.irem, 1) := by decide +kernel
theorem dL_refuses_513 : decode cL_refuses 513 = .ok (.iadd, 1) := by decide +kernel
theorem dL_refuses_514 : decode cL_refuses 514 = .ok (.iconst 0, 1) := by decide +kernel
theorem dL_refuses_515 : decode cL_refuses 515 = .ok (.invokestatic 144, 3) := by decide +kernel
theorem dL_refuses_518 : decode cL_refuses 518 = .ok (.ldc 15, 2) := by decide +kernel
theorem dL_refuses_520 : decode cL_refuses 520 = .ok (.if_icmp .ne 160, 3) := by decide +kernel
theorem dL_refuses_523 : decode cL_refuses 523 = .ok (.aload_n 0, 1) := by decide +kernel
theorem dL_refuses_524 : decode cL_refuses 524 = .ok (.bipush 12, 2) := by decide +kernel
theorem dL_refuses_526 : decode cL_refuses 526 = .ok (.iload_n 3, 1) := by decide +kernel
theorem dL_refuses_527 : decode cL_refuses 527 = .ok (.iconst 0, 1) := by decide +kernel
theorem dL_refuses_528 : decode cL_refuses 528 = .ok (.iconst 0, 1) := by decide +kernel
theorem dL_refuses_529 : decode cL_refuses 529 = .ok (.invokestatic 144, 3) := by decide +kernel
theorem dL_refuses_532 : decode cL_refuses 532 = .ok (.ldc 44, 2) := by decide +kernel
theorem dL_refuses_534 : decode cL_refuses 534 = .ok (.if_icmp .ne 146, 3) := by decide +kernel
theorem dL_refuses_537 : decode cL_refuses 537 = .ok (.aload_n 0, 1) := by decide +kernel
theorem dL_refuses_538 : decode cL_refuses 538 = .ok (.bipush 12, 2) := by decide +kernel
theorem dL_refuses_540 : decode cL_refuses 540 = .ok (.iconst 0, 1) := by decide +kernel
theorem dL_refuses_541 : decode cL_refuses 541 = .ok (.iload_n 2, 1) := by decide +kernel
theorem dL_refuses_542 : decode cL_refuses 542 = .ok (.iconst 0, 1) := by decide +kernel
theorem dL_refuses_543 : decode cL_refuses 543 = .ok (.invokestatic 144, 3) := by decide +kernel
theorem dL_refuses_546 : decode cL_refuses 546 = .ok (.ldc 44, 2) := by decide +kernel
theorem dL_refuses_548 : decode cL_refuses 548 = .ok (.if_icmp .ne 132, 3) := by decide +kernel
theorem dL_refuses_551 : decode cL_refuses 551 = .ok (.aload_n 0, 1) := by decide +kernel
theorem dL_refuses_552 : decode cL_refuses 552 = .ok (.bipush 13, 2) := by decide +kernel
theorem dL_refuses_554 : decode cL_refuses 554 = .ok (.iload_n 3, 1) := by decide +kernel
theorem dL_refuses_555 : decode cL_refuses 555 = .ok (.iconst 0, 1) := by decide +kernel
theorem dL_refuses_556 : decode cL_refuses 556 = .ok (.iconst 0, 1) := by decide +kernel
theorem dL_refuses_557 : decode cL_refuses 557 = .ok (.invokestatic 144, 3) := by decide +kernel
theorem dL_refuses_560 : decode cL_refuses 560 = .ok (.ldc 44, 2) := by decide +kernel
theorem dL_refuses_562 : decode cL_refuses 562 = .ok (.if_icmp .ne 118, 3) := by decide +kernel
theorem dL_refuses_565 : decode cL_refuses 565 = .ok (.aload_n 0, 1) := by decide +kernel
theorem dL_refuses_566 : decode cL_refuses 566 = .ok (.bipush 14, 2) := by decide +kernel
theorem dL_refuses_568 : decode cL_refuses 568 = .ok (.iload_n 3, 1) := by decide +kernel
theorem dL_refuses_569 : decode cL_refuses 569 = .ok (.iload_n 3, 1) := by decide +kernel
theorem dL_refuses_570 : decode cL_refuses 570 = .ok (.iconst 0, 1) := by decide +kernel
theorem dL_refuses_571 : decode cL_refuses 571 = .ok (.invokestatic 144, 3) := by decide +kernel
theorem dL_refuses_574 : decode cL_refuses 574 = .ok (.ldc 44, 2) := by decide +kernel
theorem dL_refuses_576 : decode cL_refuses 576 = .ok (.if_icmp .ne 104, 3) := by decide +kernel
theorem dL_refuses_579 : decode cL_refuses 579 = .ok (.aload_n 0, 1) := by decide +kernel
theorem dL_refuses_580 : decode cL_refuses 580 = .ok (.bipush 14, 2) := by decide +kernel
theorem dL_refuses_582 : decode cL_refuses 582 = .ok (.iconst 0, 1) := by decide +kernel
theorem dL_refuses_583 : decode cL_refuses 583 = .ok (.iconst 0, 1) := by decide +kernel
theorem dL_refuses_584 : decode cL_refuses 584 = .ok (.iconst 0, 1) := by decide +kernel
theorem dL_refuses_585 : decode cL_refuses 585 = .ok (.invokestatic 144, 3) := by decide +kernel
theorem dL_refuses_588 : decode cL_refuses 588 = .ok (.ldc 15, 2) := by decide +kernel
theorem dL_refuses_590 : decode cL_refuses 590 = .ok (.if_icmp .ne 90, 3) := by decide +kernel
theorem dL_refuses_593 : decode cL_refuses 593 = .ok (.aload_n 0, 1) := by decide +kernel
theorem dL_refuses_594 : decode cL_refuses 594 = .ok (.bipush 15, 2) := by decide +kernel
theorem dL_refuses_596 : decode cL_refuses 596 = .ok (.iconst 2, 1) := by decide +kernel
theorem dL_refuses_597 : decode cL_refuses 597 = .ok (.iload_n 1, 1) := by decide +kernel
theorem dL_refuses_598 : decode cL_refuses 598 = .ok (.bipush 50, 2) := by decide +kernel
theorem dL_refuses_600 : decode cL_refuses 600 = .ok (.irem, 1) := by decide +kernel
theorem dL_refuses_601 : decode cL_refuses 601 = .ok (.iadd, 1) := by decide +kernel
theorem dL_refuses_602 : decode cL_refuses 602 = .ok (.iconst 0, 1) := by decide +kernel
theorem dL_refuses_603 : decode cL_refuses 603 = .ok (.iconst 0, 1) := by decide +kernel
theorem dL_refuses_604 : decode cL_refuses 604 = .ok (.invokestatic 144, 3) := by decide +kernel
theorem dL_refuses_607 : decode cL_refuses 607 = .ok (.ldc 44, 2) := by decide +kernel
theorem dL_refuses_609 : decode cL_refuses 609 = .ok (.if_icmp .ne 71, 3) := by decide +kernel
theorem dL_refuses_612 : decode cL_refuses 612 = .ok (.aload_n 0, 1) := by decide +kernel
theorem dL_refuses_613 : decode cL_refuses 613 = .ok (.bipush 16, 2) := by decide +kernel
theorem dL_refuses_615 : decode cL_refuses 615 = .ok (.iconst (-1), 1) := by decide +kernel
theorem dL_refuses_616 : decode cL_refuses 616 = .ok (.iload_n 1, 1) := by decide +kernel
theorem dL_refuses_617 : decode cL_refuses 617 = .ok (.bipush 9, 2) := by decide +kernel
theorem dL_refuses_619 : decode cL_refuses 619 = .ok (.irem, 1) := by decide +kernel
theorem dL_refuses_620 : decode cL_refuses 620 = .ok (.isub, 1) := by decide +kernel
theorem dL_refuses_621 : decode cL_refuses 621 = .ok (.iconst 0, 1) := by decide +kernel
theorem dL_refuses_622 : decode cL_refuses 622 = .ok (.iconst 0, 1) := by decide +kernel
theorem dL_refuses_623 : decode cL_refuses 623 = .ok (.invokestatic 144, 3) := by decide +kernel
theorem dL_refuses_626 : decode cL_refuses 626 = .ok (.ldc 44, 2) := by decide +kernel
