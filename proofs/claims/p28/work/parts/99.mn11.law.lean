/-! ===== names of the law, printed ===== -/
theorem dL_holds_536 : decode cL_holds 536 = .ok (.bipush 11, 2) := by decide +kernel
theorem dL_holds_538 : decode cL_holds 538 = .ok (.iload 9, 2) := by decide +kernel
theorem dL_holds_540 : decode cL_holds 540 = .ok (.iconst 0, 1) := by decide +kernel
theorem dL_holds_541 : decode cL_holds 541 = .ok (.iconst 0, 1) := by decide +kernel
theorem dL_holds_542 : decode cL_holds 542 = .ok (.invokestatic 144, 3) := by decide +kernel
theorem dL_holds_545 : decode cL_holds 545 = .ok (.ifCond .le 7, 3) := by decide +kernel
theorem dL_holds_548 : decode cL_holds 548 = .ok (.iconst 1, 1) := by decide +kernel
theorem dL_holds_549 : decode cL_holds 549 = .ok (.goto 4, 3) := by decide +kernel
theorem dL_holds_552 : decode cL_holds 552 = .ok (.iconst 0, 1) := by decide +kernel
theorem dL_holds_553 : decode cL_holds 553 = .ok (.istore 6, 2) := by decide +kernel
theorem dL_holds_555 : decode cL_holds 555 = .ok (.iload 6, 2) := by decide +kernel
theorem dL_holds_557 : decode cL_holds 557 = .ok (.ifCond .eq 9, 3) := by decide +kernel
theorem dL_holds_560 : decode cL_holds 560 = .ok (.iload 8, 2) := by decide +kernel
theorem dL_holds_562 : decode cL_holds 562 = .ok (.iconst (-1), 1) := by decide +kernel
theorem dL_holds_563 : decode cL_holds 563 = .ok (.if_icmp .ne 6, 3) := by decide +kernel
theorem dL_holds_566 : decode cL_holds 566 = .ok (.iload 6, 2) := by decide +kernel
theorem dL_holds_568 : decode cL_holds 568 = .ok (.ireturn, 1) := by decide +kernel
theorem dL_holds_569 : decode cL_holds 569 = .ok (.aload_n 0, 1) := by decide +kernel
theorem dL_holds_570 : decode cL_holds 570 = .ok (.bipush 11, 2) := by decide +kernel
theorem dL_holds_572 : decode cL_holds 572 = .ok (.iload 7, 2) := by decide +kernel
theorem dL_holds_574 : decode cL_holds 574 = .ok (.iconst 1, 1) := by decide +kernel
theorem dL_holds_575 : decode cL_holds 575 = .ok (.iconst 0, 1) := by decide +kernel
theorem dL_holds_576 : decode cL_holds 576 = .ok (.invokestatic 144, 3) := by decide +kernel
theorem dL_holds_579 : decode cL_holds 579 = .ok (.aload_n 0, 1) := by decide +kernel
theorem dL_holds_580 : decode cL_holds 580 = .ok (.bipush 11, 2) := by decide +kernel
theorem dL_holds_582 : decode cL_holds 582 = .ok (.iload 7, 2) := by decide +kernel
theorem dL_holds_584 : decode cL_holds 584 = .ok (.iconst 2, 1) := by decide +kernel
theorem dL_holds_585 : decode cL_holds 585 = .ok (.iconst 0, 1) := by decide +kernel
theorem dL_holds_586 : decode cL_holds 586 = .ok (.invokestatic 144, 3) := by decide +kernel
theorem dL_holds_589 : decode cL_holds 589 = .ok (.iadd, 1) := by decide +kernel
theorem dL_holds_590 : decode cL_holds 590 = .ok (.istore 10, 2) := by decide +kernel
theorem dL_holds_592 : decode cL_holds 592 = .ok (.aload_n 0, 1) := by decide +kernel
theorem dL_holds_593 : decode cL_holds 593 = .ok (.bipush 11, 2) := by decide +kernel
theorem dL_holds_595 : decode cL_holds 595 = .ok (.iload 9, 2) := by decide +kernel
theorem dL_holds_597 : decode cL_holds 597 = .ok (.iconst 1, 1) := by decide +kernel
theorem dL_holds_598 : decode cL_holds 598 = .ok (.iconst 0, 1) := by decide +kernel
theorem dL_holds_599 : decode cL_holds 599 = .ok (.invokestatic 144, 3) := by decide +kernel
theorem dL_holds_602 : decode cL_holds 602 = .ok (.aload_n 0, 1) := by decide +kernel
theorem dL_holds_603 : decode cL_holds 603 = .ok (.bipush 11, 2) := by decide +kernel
theorem dL_holds_605 : decode cL_holds 605 = .ok (.iload 9, 2) := by decide +kernel
theorem dL_holds_607 : decode cL_holds 607 = .ok (.iconst 2, 1) := by decide +kernel
theorem dL_holds_608 : decode cL_holds 608 = .ok (.iconst 0, 1) := by decide +kernel
theorem dL_holds_609 : decode cL_holds 609 = .ok (.invokestatic 144, 3) := by decide +kernel
theorem dL_holds_612 : decode cL_holds 612 = .ok (.iadd, 1) := by decide +kernel
theorem dL_holds_613 : decode cL_holds 613 = .ok (.istore 11, 2) := by decide +kernel
theorem dL_holds_615 : decode cL_holds 615 = .ok (.aload_n 0, 1) := by decide +kernel
theorem dL_holds_616 : decode cL_holds 616 = .ok (.iconst 4, 1) := by decide +kernel
theorem dL_holds_617 : decode cL_holds 617 = .ok (.iload 7, 2) := by decide +kernel
theorem dL_holds_619 : decode cL_holds 619 = .ok (.bipush 7, 2) := by decide +kernel
theorem dL_holds_621 : decode cL_holds 621 = .ok (.iconst 0, 1) := by decide +kernel
theorem dL_holds_622 : decode cL_holds 622 = .ok (.invokestatic 144, 3) := by decide +kernel
theorem dL_holds_625 : decode cL_holds 625 = .ok (.istore 12, 2) := by decide +kernel
theorem dL_holds_627 : decode cL_holds 627 = .ok (.iload 11, 2) := by decide +kernel
theorem dL_holds_629 : decode cL_holds 629 = .ok (.iload 10, 2) := by decide +kernel
theorem dL_holds_631 : decode cL_holds 631 = .ok (.if_icmp .gt 85, 3) := by decide +kernel
theorem dL_holds_634 : decode cL_holds 634 = .ok (.iload 11, 2) := by decide +kernel
theorem dL_holds_636 : decode cL_holds 636 = .ok (.iload 10, 2) := by decide +kernel
theorem dL_holds_638 : decode cL_holds 638 = .ok (.if_icmp .lt 10, 3) := by decide +kernel
theorem dL_holds_641 : decode cL_holds 641 = .ok (.iload 9, 2) := by decide +kernel
theorem dL_holds_643 : decode cL_holds 643 = .ok (.iload 7, 2) := by decide +kernel
theorem dL_holds_645 : decode cL_holds 645 = .ok (.if_icmp .gt 71, 3) := by decide +kernel
theorem dL_holds_648 : decode cL_holds 648 = .ok (.iload 8, 2) := by decide +kernel
theorem dL_holds_650 : decode cL_holds 650 = .ok (.invokestatic 165, 3) := by decide +kernel
theorem dL_holds_653 : decode cL_holds 653 = .ok (.aload_n 0, 1) := by decide +kernel
theorem dL_holds_654 : decode cL_holds 654 = .ok (.iconst 4, 1) := by decide +kernel
theorem dL_holds_655 : decode cL_holds 655 = .ok (.iload 7, 2) := by decide +kernel
theorem dL_holds_657 : decode cL_holds 657 = .ok (.iconst 1, 1) := by decide +kernel
theorem dL_holds_658 : decode cL_holds 658 = .ok (.iconst 0, 1) := by decide +kernel
theorem dL_holds_659 : decode cL_holds 659 = .ok (.invokestatic 144, 3) := by decide +kernel
theorem dL_holds_662 : decode cL_holds 662 = .ok (.if_icmp .ne 54, 3) := by decide +kernel
theorem dL_holds_665 : decode cL_holds 665 = .ok (.aload_n 0, 1) := by decide +kernel
theorem dL_holds_666 : decode cL_holds 666 = .ok (.iload 8, 2) := by decide +kernel
theorem dL_holds_668 : decode cL_holds 668 = .ok (.invokestatic 162, 3) := by decide +kernel
theorem dL_holds_671 : decode cL_holds 671 = .ok (.aload_n 0, 1) := by decide +kernel
theorem dL_holds_672 : decode cL_holds 672 = .ok (.iconst 4, 1) := by decide +kernel
theorem dL_holds_673 : decode cL_holds 673 = .ok (.iload 7, 2) := by decide +kernel
theorem dL_holds_675 : decode cL_holds 675 = .ok (.bipush 8, 2) := by decide +kernel
theorem dL_holds_677 : decode cL_holds 677 = .ok (.iconst 0, 1) := by decide +kernel
theorem dL_holds_678 : decode cL_holds 678 = .ok (.invokestatic 144, 3) := by decide +kernel
theorem dL_holds_681 : decode cL_holds 681 = .ok (.iand, 1) := by decide +kernel
theorem dL_holds_682 : decode cL_holds 682 = .ok (.ifCond .ne 34, 3) := by decide +kernel
theorem dL_holds_685 : decode cL_holds 685 = .ok (.aload_n 0, 1) := by decide +kernel
theorem dL_holds_686 : decode cL_holds 686 = .ok (.bipush 11, 2) := by decide +kernel
theorem dL_holds_688 : decode cL_holds 688 = .ok (.iload 7, 2) := by decide +kernel
theorem dL_holds_690 : decode cL_holds 690 = .ok (.iconst 3, 1) := by decide +kernel
theorem dL_holds_691 : decode cL_holds 691 = .ok (.iconst 0, 1) := by decide +kernel
theorem dL_holds_692 : decode cL_holds 692 = .ok (.invokestatic 144, 3) := by decide +kernel
theorem dL_holds_695 : decode cL_holds 695 = .ok (.iload 12, 2) := by decide +kernel
theorem dL_holds_697 : decode cL_holds 697 = .ok (.aload_n 0, 1) := by decide +kernel
theorem dL_holds_698 : decode cL_holds 698 = .ok (.iload 8, 2) := by decide +kernel
theorem dL_holds_700 : decode cL_holds 700 = .ok (.invokestatic 162, 3) := by decide +kernel
theorem dL_holds_703 : decode cL_holds 703 = .ok (.iconst (-1), 1) := by decide +kernel
theorem dL_holds_704 : decode cL_holds 704 = .ok (.ixor, 1) := by decide +kernel
theorem dL_holds_705 : decode cL_holds 705 = .ok (.iand, 1) := by decide +kernel
theorem dL_holds_706 : decode cL_holds 706 = .ok (.invokestatic 165, 3) := by decide +kernel
theorem dL_holds_709 : decode cL_holds 709 = .ok (.if_icmp .ne 7, 3) := by decide +kernel
theorem dL_holds_712 : decode cL_holds 712 = .ok (.iconst 1, 1) := by decide +kernel
theorem dL_holds_713 : decode cL_holds 713 = .ok (.goto 4, 3) := by decide +kernel
theorem dL_holds_716 : decode cL_holds 716 = .ok (.iconst 0, 1) := by decide +kernel
theorem dL_holds_717 : decode cL_holds 717 = .ok (.ireturn, 1) := by decide +kernel
set_option maxRecDepth 20000 in
theorem ggL_act_L_call : GoodIn wsL_act wsL_call := goodIn_ca (goodIn_ca (goodIn_ca (goodIn_r _ [4, 5, 6, 3, 7, 8, 9, 10, 11, 12, 13, 14, 15, 16, 17, 18, 19, 20, 21, 22, 23, 24, 25, 26, 27, 28, 29, 30, 31, 32, 33, 34, 35, 36, 37, 38, 39, 40, 41, 42, 43, 44, 45, 46, 47, 48, 49, 50, 51, 52, 53, 54, 55, 56, 57, 58, 59, 60, 61, 62, 63, 64, 65, 66, 67, 68, 69, 70, 71, 72, 73, 74, 75, 76, 77, 78, 79, 80, 81, 82, 83, 84, 85, 86, 87, 88, 89, 90, 91, 92, 93, 94, 95, 96, 97, 98, 99, 100, 101, 102, 103, 104, 105, 106, 107, 108, 109, 110, 111, 112, 113, 114, 115, 116, 117, 118, 119, 120, 121, 122, 123, 124, 125, 126, 127, 128, 129, 130, 131, 132, 133, 134, 135, 136, 137, 138, 139, 140, 141, 142, 143, 144, 145, 146, 147, 148, 149, 150, 151, 152, 153, 154, 155, 156, 157, 158, 159, 160, 161, 162, 163, 164, 165, 166, 167, 168, 169, 170, 171, 172, 173, 174, 175, 176, 177, 178, 179, 180, 181, 182, 183, 184, 185, 186, 187, 188, 189, 190, 191, 192, 193, 194, 195, 196, 197, 198, 199, 200, 201, 202, 203, 204, 205, 206, 207, 208, 209, 210, 211, 212, 213, 214, 215, 216, 217, 218, 219, 220, 221, 222, 223, 224, 225, 226, 227, 228, 229, 230, 231, 232, 233, 234, 235, 236, 237, 238, 239, 240, 241, 242, 243, 244, 245, 246, 247, 248, 249, 250, 251, 252, 253, 254, 255, 256, 257, 258, 259, 260, 261, 262, 263, 264, 265, 266, 267, 268, 269, 270, 271, 272, 273, 274, 275, 276, 277, 278, 279, 280, 281, 282, 283, 284, 285, 286, 287, 288, 289, 290, 291, 292, 293, 294, 295, 296, 297, 298, 299, 300, 301, 302, 303, 304, 305, 306, 307, 308, 309, 310, 311, 312, 313, 314, 315, 316, 317, 318, 319, 320, 321, 322, 323, 324, 325, 326, 327, 328, 329, 330, 331, 332, 333, 334, 335, 336, 337, 338, 339, 340, 341, 342, 343, 344, 345, 346, 347, 348, 349, 350, 351, 352, 353, 354, 355, 356, 357, 358, 359, 360, 361, 362, 363, 364, 365, 366, 367, 368, 369, 370, 371, 372, 373, 374, 375, 376, 377, 378, 379, 380, 381, 382, 383, 384, 385, 386, 387, 388, 389, 390, 391, 392, 393, 394, 395, 396, 397, 398, 399, 400, 401, 402, 403, 404, 405, 406, 407, 408, 409, 410, 411, 412, 413, 414, 415, 416, 417, 418, 419, 420, 421, 422, 423, 424, 425, 426, 427, 428, 429, 430, 431, 432, 433, 434, 435, 436, 437, 438, 439, 440, 441, 442, 443, 444, 445, 446, 447, 448, 449, 450, 451, 452, 453, 454, 455, 456, 457, 458, 459, 460, 461, 462, 463, 464, 465, 466, 467, 468, 469, 470, 471, 472, 473, 474, 475, 476, 477, 478, 479, 480, 481, 482, 483, 500, 501, 502, 503, 504, 505, 506, 507, 508, 509, 510, 511, 512, 513, 514, 515, 516, 517, 518, 519, 520, 521, 522, 523, 524] (by decide +kernel) (by decide +kernel)) (goodIn_sub (fun _ h => List.mem_cons_of_mem _ (List.mem_append_left _ (List.mem_append_left _ (List.mem_append_right _ h)))) (by decide +kernel))) (goodIn_sub (fun _ h => List.mem_cons_of_mem _ (List.mem_append_left _ (List.mem_append_right _ h))) (by decide +kernel))) (goodIn_sub (fun _ h => List.mem_cons_of_mem _ (List.mem_append_right _ h)) (by decide +kernel))
set_option maxRecDepth 20000 in
theorem gL_act_L_call : GoodIn wsL_act (va_wsS RL 144 yL_call wsL_call) := goodIn_app (goodIn_of _ (by decide +kernel)) ggL_act_L_call
set_option maxRecDepth 20000 in
theorem ggL_act_L_adds : GoodIn wsL_act wsL_adds := goodIn_ca (goodIn_ca (goodIn_r _ [486, 8, 9, 10, 11, 487, 488, 489, 15, 490, 56, 57, 18, 19, 20, 21, 22, 23, 24, 25, 491, 144, 145, 93, 146, 99, 32, 33, 34, 35, 36, 326, 327, 328, 113, 329, 115, 330, 331, 332, 333, 334, 335, 336, 337, 338, 339, 95, 96, 97, 98, 100, 101, 102, 103, 104, 340, 341, 342, 45, 343, 48, 139, 140, 141, 142, 143, 109, 43, 44, 46, 47, 500, 501, 502, 503, 504, 505, 510, 511, 512, 513, 514, 515, 516, 517, 518, 519, 520, 521, 522, 508, 509] (by decide +kernel) (by decide +kernel)) (goodIn_sub (fun _ h => List.mem_cons_of_mem _ (List.mem_append_left _ (List.mem_append_left _ (List.mem_append_right _ h)))) (by decide +kernel))) (goodIn_sub (fun _ h => List.mem_cons_of_mem _ (List.mem_append_left _ (List.mem_append_right _ h))) (by decide +kernel))
set_option maxRecDepth 20000 in
theorem gL_act_L_adds : GoodIn wsL_act (va_wsS RL 148 yL_adds wsL_adds) := goodIn_app (goodIn_of _ (by decide +kernel)) ggL_act_L_adds
set_option maxRecDepth 20000 in
theorem ggL_act_X7_meal : GoodIn wsL_act wsX7_meal := goodIn_r _ [495, 57, 56, 326, 327, 328, 113, 329, 115, 330, 331, 332, 333, 334, 335, 336, 337, 338, 93, 339, 95, 96, 97, 98, 99, 100, 101, 102, 103, 104, 340, 341, 342, 45, 343, 48, 233, 234, 235, 236, 163, 69, 70, 71, 47, 237, 238, 239, 240, 232, 43, 44, 46, 500, 501, 502, 503, 504, 505, 520, 521, 522, 510, 511, 512, 513, 514, 515, 516, 517, 518, 519, 508, 509] (by decide +kernel) (by decide +kernel)
