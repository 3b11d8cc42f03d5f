/-! ===== names of the law, printed ===== -/
theorem dL_refuses_583 : decode cL_refuses 583 = .ok (.iconst 0, 1) := by decide +kernel
theorem dL_refuses_584 : decode cL_refuses 584 = .ok (.iconst 0, 1) := by decide +kernel
theorem dL_refuses_585 : decode cL_refuses 585 = .ok (.invokestatic 144, 3) := by decide +kernel
theorem dL_refuses_588 : decode cL_refuses 588 = .ok (.ldc 15, 2) := by decide +kernel
theorem dL_refuses_590 : decode cL_refuses 590 = .ok (.if_icmp .ne 90, 3) := by decide +kernel
theorem dL_refuses_593 : decode cL_refuses 593 = .ok (.aload_n 0, 1) := by decide +kernel
theorem dL_refuses_594 : decode cL_refuses 594 = .ok (.bipush 15, 2) := by decide +kernel
theorem dL_refuses_596 : decode cL_refuses 596 = .ok (.iconst 2, 1) := by decide +kernel
theorem dL_refuses_597 : decode cL_refuses 597 = .ok (.iload_n 1, 1) := by decide +kernel
theorem dL_refuses_598 : decode cL_refuses 598 = .ok (.bipush 50, 2) := by decide +kernel
theorem dL_refuses_600 : decode cL_refuses 600 = .ok (.irem, 1) := by decide +kernel
theorem dL_refuses_601 : decode cL_refuses 601 = .ok (.iadd, 1) := by decide +kernel
theorem dL_refuses_602 : decode cL_refuses 602 = .ok (.iconst 0, 1) := by decide +kernel
theorem dL_refuses_603 : decode cL_refuses 603 = .ok (.iconst 0, 1) := by decide +kernel
theorem dL_refuses_604 : decode cL_refuses 604 = .ok (.invokestatic 144, 3) := by decide +kernel
theorem dL_refuses_607 : decode cL_refuses 607 = .ok (.ldc 44, 2) := by decide +kernel
theorem dL_refuses_609 : decode cL_refuses 609 = .ok (.if_icmp .ne 71, 3) := by decide +kernel
theorem dL_refuses_612 : decode cL_refuses 612 = .ok (.aload_n 0, 1) := by decide +kernel
theorem dL_refuses_613 : decode cL_refuses 613 = .ok (.bipush 16, 2) := by decide +kernel
theorem dL_refuses_615 : decode cL_refuses 615 = .ok (.iconst (-1), 1) := by decide +kernel
theorem dL_refuses_616 : decode cL_refuses 616 = .ok (.iload_n 1, 1) := by decide +kernel
theorem dL_refuses_617 : decode cL_refuses 617 = .ok (.bipush 9, 2) := by decide +kernel
theorem dL_refuses_619 : decode cL_refuses 619 = .ok (.irem, 1) := by decide +kernel
theorem dL_refuses_620 : decode cL_refuses 620 = .ok (.isub, 1) := by decide +kernel
theorem dL_refuses_621 : decode cL_refuses 621 = .ok (.iconst 0, 1) := by decide +kernel
theorem dL_refuses_622 : decode cL_refuses 622 = .ok (.iconst 0, 1) := by decide +kernel
theorem dL_refuses_623 : decode cL_refuses 623 = .ok (.invokestatic 144, 3) := by decide +kernel
theorem dL_refuses_626 : decode cL_refuses 626 = .ok (.ldc 44, 2) := by decide +kernel
theorem dL_refuses_628 : decode cL_refuses 628 = .ok (.if_icmp .ne 52, 3) := by decide +kernel
theorem dL_refuses_631 : decode cL_refuses 631 = .ok (.aload_n 0, 1) := by decide +kernel
theorem dL_refuses_632 : decode cL_refuses 632 = .ok (.iconst 0, 1) := by decide +kernel
theorem dL_refuses_633 : decode cL_refuses 633 = .ok (.lconst 0, 1) := by decide +kernel
theorem dL_refuses_634 : decode cL_refuses 634 = .ok (.invokestatic 152, 3) := by decide +kernel
theorem dL_refuses_637 : decode cL_refuses 637 = .ok (.ldc 15, 2) := by decide +kernel
theorem dL_refuses_639 : decode cL_refuses 639 = .ok (.if_icmp .ne 41, 3) := by decide +kernel
theorem dL_refuses_642 : decode cL_refuses 642 = .ok (.aload_n 0, 1) := by decide +kernel
theorem dL_refuses_643 : decode cL_refuses 643 = .ok (.iconst 1, 1) := by decide +kernel
theorem dL_refuses_644 : decode cL_refuses 644 = .ok (.ldc2_w 156, 3) := by decide +kernel
theorem dL_refuses_647 : decode cL_refuses 647 = .ok (.iload_n 1, 1) := by decide +kernel
theorem dL_refuses_648 : decode cL_refuses 648 = .ok (.i2l, 1) := by decide +kernel
theorem dL_refuses_649 : decode cL_refuses 649 = .ok (.ladd, 1) := by decide +kernel
theorem dL_refuses_650 : decode cL_refuses 650 = .ok (.invokestatic 152, 3) := by decide +kernel
theorem dL_refuses_653 : decode cL_refuses 653 = .ok (.ldc 15, 2) := by decide +kernel
theorem dL_refuses_655 : decode cL_refuses 655 = .ok (.if_icmp .ne 25, 3) := by decide +kernel
theorem dL_refuses_658 : decode cL_refuses 658 = .ok (.aload_n 0, 1) := by decide +kernel
theorem dL_refuses_659 : decode cL_refuses 659 = .ok (.iload_n 1, 1) := by decide +kernel
theorem dL_refuses_660 : decode cL_refuses 660 = .ok (.i2l, 1) := by decide +kernel
theorem dL_refuses_661 : decode cL_refuses 661 = .ok (.bipush 61, 2) := by decide +kernel
theorem dL_refuses_663 : decode cL_refuses 663 = .ok (.iload_n 1, 1) := by decide +kernel
theorem dL_refuses_664 : decode cL_refuses 664 = .ok (.bipush 9, 2) := by decide +kernel
theorem dL_refuses_666 : decode cL_refuses 666 = .ok (.irem, 1) := by decide +kernel
theorem dL_refuses_667 : decode cL_refuses 667 = .ok (.iadd, 1) := by decide +kernel
theorem dL_refuses_668 : decode cL_refuses 668 = .ok (.invokestatic 158, 3) := by decide +kernel
theorem dL_refuses_671 : decode cL_refuses 671 = .ok (.ldc 15, 2) := by decide +kernel
theorem dL_refuses_673 : decode cL_refuses 673 = .ok (.if_icmp .ne 7, 3) := by decide +kernel
theorem dL_refuses_676 : decode cL_refuses 676 = .ok (.iconst 1, 1) := by decide +kernel
theorem dL_refuses_677 : decode cL_refuses 677 = .ok (.goto 4, 3) := by decide +kernel
theorem dL_refuses_680 : decode cL_refuses 680 = .ok (.iconst 0, 1) := by decide +kernel
theorem dL_refuses_681 : decode cL_refuses 681 = .ok (.ireturn, 1) := by decide +kernel
set_option maxRecDepth 20000 in
theorem ggL_facesOf_L_call : GoodIn wsL_facesOf wsL_call := goodIn_ca (goodIn_ca (goodIn_ca (goodIn_r _ [4, 5, 6, 3, 7, 8, 9, 10, 11, 12, 13, 14, 15, 16, 17, 18, 19, 20, 21, 22, 23, 24, 25, 26, 27, 28, 29, 30, 31, 32, 33, 34, 35, 36, 37, 38, 39, 40, 41, 42, 43, 44, 45, 46, 47, 48, 49, 50, 51, 52, 53, 54, 55, 56, 57, 58, 59, 60, 61, 62, 63, 64, 65, 66, 67, 68, 69, 70, 71, 72, 73, 74, 75, 76, 77, 78, 79, 80, 81, 82, 83, 84, 85, 86, 87, 88, 89, 90, 91, 92, 93, 94, 95, 96, 97, 98, 99, 100, 101, 102, 103, 104, 105, 106, 107, 108, 109, 110, 111, 112, 113, 114, 115, 116, 117, 118, 119, 120, 121, 122, 123, 124, 125, 126, 127, 128, 129, 130, 131, 132, 133, 134, 135, 136, 137, 138, 139, 140, 141, 142, 143, 144, 145, 146, 147, 148, 149, 150, 151, 152, 153, 154, 155, 156, 157, 158, 159, 160, 161, 162, 163, 164, 165, 166, 167, 168, 169, 170, 171, 172, 173, 174, 175, 176, 177, 178, 179, 180, 181, 182, 183, 184, 185, 186, 187, 188, 189, 190, 191, 192, 193, 194, 195, 196, 197, 198, 199, 200, 201, 202, 203, 204, 205, 206, 207, 208, 209, 210, 211, 212, 213, 214, 215, 216, 217, 218, 219, 220, 221, 222, 223, 224, 225, 226, 227, 228, 229, 230, 231, 232, 233, 234, 235, 236, 237, 238, 239, 240, 241, 242, 243, 244, 245, 246, 247, 248, 249, 250, 251, 252, 253, 254, 255, 256, 257, 258, 259, 260, 261, 262, 263, 264, 265, 266, 267, 268, 269, 270, 271, 272, 273, 274, 275, 276, 277, 278, 279, 280, 281, 282, 283, 284, 285, 286, 287, 288, 289, 290, 291, 292, 293, 294, 295, 296, 297, 298, 299, 300, 301, 302, 303, 304, 305, 306, 307, 308, 309, 310, 311, 312, 313, 314, 315, 316, 317, 318, 319, 320, 321, 322, 323, 324, 325, 326, 327, 328, 329, 330, 331, 332, 333, 334, 335, 336, 337, 338, 339, 340, 341, 342, 343, 344, 345, 346, 347, 348, 349, 350, 351, 352, 353, 354, 355, 356, 357, 358, 359, 360, 361, 362, 363, 364, 365, 366, 367, 368, 369, 370, 371, 372, 373, 374, 375, 376, 377, 378, 379, 380, 381, 382, 383, 384, 385, 386, 387, 388, 389, 390, 391, 392, 393, 394, 395, 396, 397, 398, 399, 400, 401, 402, 403, 404, 405, 406, 407, 408, 409, 410, 411, 412, 413, 414, 415, 416, 417, 418, 419, 420, 421, 422, 423, 424, 425, 426, 427, 428, 429, 430, 431, 432, 433, 434, 435, 436, 437, 438, 439, 440, 441, 442, 443, 444, 445, 446, 447, 448, 449, 450, 451, 452, 453, 454, 455, 456, 457, 458, 459, 460, 461, 462, 463, 464, 465, 466, 467, 468, 469, 470, 471, 472, 473, 474, 475, 476, 477, 478, 479, 480, 481, 482, 483, 484, 485, 486, 487, 488, 489, 490, 491, 492, 493, 494, 495, 496, 497, 498, 499, 500, 501, 502, 503, 504, 505, 506, 507, 508] (by decide +kernel) (by decide +kernel)) (goodIn_sub (fun _ h => List.mem_cons_of_mem _ (List.mem_append_left _ (List.mem_append_left _ (List.mem_append_right _ h)))) (by decide +kernel))) (goodIn_sub (fun _ h => List.mem_cons_of_mem _ (List.mem_append_left _ (List.mem_append_right _ h))) (by decide +kernel))) (goodIn_sub (fun _ h => List.mem_cons_of_mem _ (List.mem_append_right _ h)) (by decide +kernel))
set_option maxRecDepth 20000 in
theorem gL_facesOf_L_call : GoodIn wsL_facesOf (va_wsS RL 144 yL_call wsL_call) := goodIn_app (goodIn_of _ (by decide +kernel)) ggL_facesOf_L_call
theorem dL_facesOf_0 : decode cL_facesOf 0 = .ok (.iconst 0, 1) := by decide +kernel
theorem dL_facesOf_1 : decode cL_facesOf 1 = .ok (.istore_n 2, 1) := by decide +kernel
theorem dL_facesOf_2 : decode cL_facesOf 2 = .ok (.iconst 0, 1) := by decide +kernel
theorem dL_facesOf_3 : decode cL_facesOf 3 = .ok (.istore_n 3, 1) := by decide +kernel
theorem dL_facesOf_4 : decode cL_facesOf 4 = .ok (.iload_n 3, 1) := by decide +kernel
theorem dL_facesOf_5 : decode cL_facesOf 5 = .ok (.aload_n 0, 1) := by decide +kernel
theorem dL_facesOf_6 : decode cL_facesOf 6 = .ok (.iconst 2, 1) := by decide +kernel
theorem dL_facesOf_7 : decode cL_facesOf 7 = .ok (.iconst 0, 1) := by decide +kernel
theorem dL_facesOf_8 : decode cL_facesOf 8 = .ok (.iconst 0, 1) := by decide +kernel
theorem dL_facesOf_9 : decode cL_facesOf 9 = .ok (.iconst 0, 1) := by decide +kernel
theorem dL_facesOf_10 : decode cL_facesOf 10 = .ok (.invokestatic 144, 3) := by decide +kernel
theorem dL_facesOf_13 : decode cL_facesOf 13 = .ok (.if_icmp .ge 35, 3) := by decide +kernel
theorem dL_facesOf_16 : decode cL_facesOf 16 = .ok (.iload_n 2, 1) := by decide +kernel
theorem dL_facesOf_17 : decode cL_facesOf 17 = .ok (.iload_n 1, 1) := by decide +kernel
theorem dL_facesOf_18 : decode cL_facesOf 18 = .ok (.iload_n 3, 1) := by decide +kernel
theorem dL_facesOf_19 : decode cL_facesOf 19 = .ok (.ishr, 1) := by decide +kernel
theorem dL_facesOf_20 : decode cL_facesOf 20 = .ok (.iconst 1, 1) := by decide +kernel
theorem dL_facesOf_21 : decode cL_facesOf 21 = .ok (.iand, 1) := by decide +kernel
theorem dL_facesOf_22 : decode cL_facesOf 22 = .ok (.iconst 1, 1) := by decide +kernel
theorem dL_facesOf_23 : decode cL_facesOf 23 = .ok (.if_icmp .ne 16, 3) := by decide +kernel
theorem dL_facesOf_26 : decode cL_facesOf 26 = .ok (.iconst 1, 1) := by decide +kernel
theorem dL_facesOf_27 : decode cL_facesOf 27 = .ok (.aload_n 0, 1) := by decide +kernel
theorem dL_facesOf_28 : decode cL_facesOf 28 = .ok (.iconst 3, 1) := by decide +kernel
theorem dL_facesOf_29 : decode cL_facesOf 29 = .ok (.iload_n 3, 1) := by decide +kernel
theorem dL_facesOf_30 : decode cL_facesOf 30 = .ok (.iconst 1, 1) := by decide +kernel
theorem dL_facesOf_31 : decode cL_facesOf 31 = .ok (.iconst 0, 1) := by decide +kernel
theorem dL_facesOf_32 : decode cL_facesOf 32 = .ok (.invokestatic 144, 3) := by decide +kernel
theorem dL_facesOf_35 : decode cL_facesOf 35 = .ok (.ishl, 1) := by decide +kernel
theorem dL_facesOf_36 : decode cL_facesOf 36 = .ok (.goto 4, 3) := by decide +kernel
theorem dL_facesOf_39 : decode cL_facesOf 39 = .ok (.iconst 0, 1) := by decide +kernel
theorem dL_facesOf_40 : decode cL_facesOf 40 = .ok (.ior, 1) := by decide +kernel
theorem dL_facesOf_41 : decode cL_facesOf 41 = .ok (.istore_n 2, 1) := by decide +kernel
theorem dL_facesOf_42 : decode cL_facesOf 42 = .ok (.iinc 3 1, 3) := by decide +kernel
theorem dL_facesOf_45 : decode cL_facesOf 45 = .ok (.goto (-41), 3) := by decide +kernel
theorem dL_facesOf_48 : decode cL_facesOf 48 = .ok (.iload_n 2, 1) := by decide +kernel
theorem dL_facesOf_49 : decode cL_facesOf 49 = .ok (.ireturn, 1) := by decide +kernel
theorem dL_bits_0 : decode cL_bits 0 = .ok (.iconst 0, 1) := by decide +kernel
theorem dL_bits_1 : decode cL_bits 1 = .ok (.istore_n 1, 1) := by decide +kernel
theorem dL_bits_2 : decode cL_bits 2 = .ok (.iconst 0, 1) := by decide +kernel
theorem dL_bits_3 : decode cL_bits 3 = .ok (.istore_n 2, 1) := by decide +kernel
theorem dL_bits_4 : decode cL_bits 4 = .ok (.iload_n 2, 1) := by decide +kernel
theorem dL_bits_5 : decode cL_bits 5 = .ok (.bipush 14, 2) := by decide +kernel
theorem dL_bits_7 : decode cL_bits 7 = .ok (.if_icmp .ge 17, 3) := by decide +kernel
theorem dL_bits_10 : decode cL_bits 10 = .ok (.iload_n 1, 1) := by decide +kernel
