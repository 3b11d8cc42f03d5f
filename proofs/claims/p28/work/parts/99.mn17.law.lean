/-! ===== names of the law, printed ===== -/
theorem dL_price_29 : decode cL_price 29 = .ok (.bipush 7, 2) := by decide +kernel
theorem dL_price_31 : decode cL_price 31 = .ok (.iload_n 2, 1) := by decide +kernel
theorem dL_price_32 : decode cL_price 32 = .ok (.iconst 0, 1) := by decide +kernel
theorem dL_price_33 : decode cL_price 33 = .ok (.iconst 0, 1) := by decide +kernel
theorem dL_price_34 : decode cL_price 34 = .ok (.invokestatic 144, 3) := by decide +kernel
theorem dL_price_37 : decode cL_price 37 = .ok (.istore 5, 2) := by decide +kernel
theorem dL_price_39 : decode cL_price 39 = .ok (.aload_n 0, 1) := by decide +kernel
theorem dL_price_40 : decode cL_price 40 = .ok (.invokestatic 202, 3) := by decide +kernel
theorem dL_price_43 : decode cL_price 43 = .ok (.iload_n 3, 1) := by decide +kernel
theorem dL_price_44 : decode cL_price 44 = .ok (.isub, 1) := by decide +kernel
theorem dL_price_45 : decode cL_price 45 = .ok (.istore 6, 2) := by decide +kernel
theorem dL_price_47 : decode cL_price 47 = .ok (.iload 5, 2) := by decide +kernel
theorem dL_price_49 : decode cL_price 49 = .ok (.ldc 18, 2) := by decide +kernel
theorem dL_price_51 : decode cL_price 51 = .ok (.if_icmp .eq 18, 3) := by decide +kernel
theorem dL_price_54 : decode cL_price 54 = .ok (.aload_n 0, 1) := by decide +kernel
theorem dL_price_55 : decode cL_price 55 = .ok (.bipush 10, 2) := by decide +kernel
theorem dL_price_57 : decode cL_price 57 = .ok (.iconst 0, 1) := by decide +kernel
theorem dL_price_58 : decode cL_price 58 = .ok (.iconst 0, 1) := by decide +kernel
theorem dL_price_59 : decode cL_price 59 = .ok (.iconst 0, 1) := by decide +kernel
theorem dL_price_60 : decode cL_price 60 = .ok (.invokestatic 144, 3) := by decide +kernel
theorem dL_price_63 : decode cL_price 63 = .ok (.invokestatic 205, 3) := by decide +kernel
theorem dL_price_66 : decode cL_price 66 = .ok (.ifCond .ne 29, 3) := by decide +kernel
theorem dL_price_69 : decode cL_price 69 = .ok (.iload 4, 2) := by decide +kernel
theorem dL_price_71 : decode cL_price 71 = .ok (.ldc 18, 2) := by decide +kernel
theorem dL_price_73 : decode cL_price 73 = .ok (.if_icmp .eq 18, 3) := by decide +kernel
theorem dL_price_76 : decode cL_price 76 = .ok (.aload_n 0, 1) := by decide +kernel
theorem dL_price_77 : decode cL_price 77 = .ok (.bipush 10, 2) := by decide +kernel
theorem dL_price_79 : decode cL_price 79 = .ok (.iconst 0, 1) := by decide +kernel
theorem dL_price_80 : decode cL_price 80 = .ok (.iconst 0, 1) := by decide +kernel
theorem dL_price_81 : decode cL_price 81 = .ok (.iconst 0, 1) := by decide +kernel
theorem dL_price_82 : decode cL_price 82 = .ok (.invokestatic 144, 3) := by decide +kernel
theorem dL_price_85 : decode cL_price 85 = .ok (.invokestatic 205, 3) := by decide +kernel
theorem dL_price_88 : decode cL_price 88 = .ok (.ifCond .ne 7, 3) := by decide +kernel
theorem dL_price_91 : decode cL_price 91 = .ok (.iconst 1, 1) := by decide +kernel
theorem dL_price_92 : decode cL_price 92 = .ok (.goto 4, 3) := by decide +kernel
theorem dL_price_95 : decode cL_price 95 = .ok (.iconst 0, 1) := by decide +kernel
theorem dL_price_96 : decode cL_price 96 = .ok (.istore 7, 2) := by decide +kernel
theorem dL_price_98 : decode cL_price 98 = .ok (.iload 7, 2) := by decide +kernel
theorem dL_price_100 : decode cL_price 100 = .ok (.ifCond .ne 8, 3) := by decide +kernel
theorem dL_price_103 : decode cL_price 103 = .ok (.bipush (-9), 2) := by decide +kernel
theorem dL_price_105 : decode cL_price 105 = .ok (.goto 23, 3) := by decide +kernel
theorem dL_price_108 : decode cL_price 108 = .ok (.iload 4, 2) := by decide +kernel
theorem dL_price_110 : decode cL_price 110 = .ok (.ldc 18, 2) := by decide +kernel
theorem dL_price_112 : decode cL_price 112 = .ok (.if_icmp .eq 10, 3) := by decide +kernel
theorem dL_price_115 : decode cL_price 115 = .ok (.iload 5, 2) := by decide +kernel
theorem dL_price_117 : decode cL_price 117 = .ok (.ldc 18, 2) := by decide +kernel
theorem dL_price_119 : decode cL_price 119 = .ok (.if_icmp .ne 7, 3) := by decide +kernel
theorem dL_price_122 : decode cL_price 122 = .ok (.iconst (-1), 1) := by decide +kernel
theorem dL_price_123 : decode cL_price 123 = .ok (.goto 5, 3) := by decide +kernel
theorem dL_price_126 : decode cL_price 126 = .ok (.iload 6, 2) := by decide +kernel
theorem dL_price_128 : decode cL_price 128 = .ok (.ireturn, 1) := by decide +kernel
set_option maxRecDepth 20000 in
theorem ggL_both_L_call : GoodIn wsL_both wsL_call := goodIn_ca (goodIn_ca (goodIn_ca (goodIn_r _ [4, 5, 6, 3, 7, 8, 9, 10, 11, 12, 13, 14, 15, 16, 17, 18, 19, 20, 21, 22, 23, 24, 25, 26, 27, 28, 29, 30, 31, 32, 33, 34, 35, 36, 37, 38, 39, 40, 41, 42, 43, 44, 45, 46, 47, 48, 49, 50, 51, 52, 53, 54, 55, 56, 57, 58, 59, 60, 61, 62, 63, 64, 65, 66, 67, 68, 69, 70, 71, 72, 73, 74, 75, 76, 77, 78, 79, 80, 81, 82, 83, 84, 85, 86, 87, 88, 89, 90, 91, 92, 93, 94, 95, 96, 97, 98, 99, 100, 101, 102, 103, 104, 105, 106, 107, 108, 109, 110, 111, 112, 113, 114, 115, 116, 117, 118, 119, 120, 121, 122, 123, 124, 125, 126, 127, 128, 129, 130, 131, 132, 133, 134, 135, 136, 137, 138, 139, 140, 141, 142, 143, 144, 145, 146, 147, 148, 149, 150, 151, 152, 153, 154, 155, 156, 157, 158, 159, 160, 161, 162, 163, 164, 165, 166, 167, 168, 169, 170, 171, 172, 173, 174, 175, 176, 177, 178, 179, 180, 181, 182, 183, 184, 185, 186, 187, 188, 189, 190, 191, 192, 193, 194, 195, 196, 197, 198, 199, 200, 201, 202, 203, 204, 205, 206, 207, 208, 209, 210, 211, 212, 213, 214, 215, 216, 217, 218, 219, 220, 221, 222, 223, 224, 225, 226, 227, 228, 229, 230, 231, 232, 233, 234, 235, 236, 237, 238, 239, 240, 241, 242, 243, 244, 245, 246, 247, 248, 249, 250, 251, 252, 253, 254, 255, 256, 257, 258, 259, 260, 261, 262, 263, 264, 265, 266, 267, 268, 269, 270, 271, 272, 273, 274, 275, 276, 277, 278, 279, 280, 281, 282, 283, 284, 285, 286, 287, 288, 289, 290, 291, 292, 293, 294, 295, 296, 297, 298, 299, 300, 301, 302, 303, 304, 305, 306, 307, 308, 309, 310, 311, 312, 313, 314, 315, 316, 317, 318, 319, 320, 321, 322, 323, 324, 325, 326, 327, 328, 329, 330, 331, 332, 333, 334, 335, 336, 337, 338, 339, 340, 341, 342, 343, 344, 345, 346, 347, 348, 349, 350, 351, 352, 353, 354, 355, 356, 357, 358, 359, 360, 361, 362, 363, 364, 365, 366, 367, 368, 369, 370, 371, 372, 373, 374, 375, 376, 377, 378, 379, 380, 381, 382, 383, 384, 385, 386, 387, 388, 389, 390, 391, 392, 393, 394, 395, 396, 397, 398, 399, 400, 401, 402, 403, 404, 405, 406, 407, 408, 409, 410, 411, 412, 413, 414, 415, 416, 417, 418, 419, 420, 421, 422, 423, 424, 425, 426, 427, 428, 429, 430, 431, 432, 433, 434, 435, 436, 437, 438, 439, 440, 441, 442, 443, 444, 445, 446, 447, 448, 449, 450, 451, 452, 453, 454, 455, 456, 457, 458, 459, 460, 461, 462, 463, 464, 465, 466, 467, 468, 469, 470, 471, 472, 473, 474, 475, 476, 477, 478, 479, 480, 481, 482, 483, 493, 494, 495, 496, 497, 498, 499, 500, 501, 502, 503, 504, 505, 506, 507, 508, 509, 510, 511, 512, 513, 514, 515, 516, 517] (by decide +kernel) (by decide +kernel)) (goodIn_sub (fun _ h => List.mem_cons_of_mem _ (List.mem_append_left _ (List.mem_append_left _ (List.mem_append_right _ h)))) (by decide +kernel))) (goodIn_sub (fun _ h => List.mem_cons_of_mem _ (List.mem_append_left _ (List.mem_append_right _ h))) (by decide +kernel))) (goodIn_sub (fun _ h => List.mem_cons_of_mem _ (List.mem_append_right _ h)) (by decide +kernel))
set_option maxRecDepth 20000 in
theorem gL_both_L_call : GoodIn wsL_both (va_wsS RL 144 yL_call wsL_call) := goodIn_app (goodIn_of _ (by decide +kernel)) ggL_both_L_call
set_option maxRecDepth 20000 in
theorem ggL_both_L_price : GoodIn wsL_both wsL_price := goodIn_ca (goodIn_ca (goodIn_ca (goodIn_r _ [486, 11, 487, 488, 3, 489, 1, 2, 4, 5, 6, 7, 8, 9, 10, 12, 13, 14, 15, 16, 17, 18, 19, 20, 21, 22, 23, 24, 25, 26, 27, 28, 29, 30, 31, 32, 33, 34, 35, 36, 37, 38, 39, 40, 41, 42, 43, 44, 45, 46, 47, 48, 49, 50, 51, 52, 53, 54, 55, 56, 57, 58, 59, 60, 61, 62, 63, 64, 65, 66, 67, 68, 69, 70, 71, 72, 73, 74, 75, 76, 77, 78, 79, 80, 81, 82, 83, 84, 85, 86, 87, 88, 89, 90, 91, 92, 93, 94, 95, 96, 97, 98, 99, 100, 101, 102, 103, 104, 105, 106, 107, 108, 109, 110, 111, 112, 113, 114, 115, 116, 117, 118, 119, 120, 121, 122, 123, 124, 125, 126, 127, 128, 129, 130, 131, 132, 133, 134, 135, 136, 137, 138, 139, 140, 141, 142, 143, 144, 145, 146, 147, 148, 149, 150, 151, 152, 153, 154, 155, 156, 157, 158, 159, 160, 161, 162, 163, 164, 165, 166, 167, 168, 169, 170, 171, 172, 173, 174, 175, 176, 177, 178, 179, 180, 181, 182, 183, 184, 185, 186, 187, 188, 189, 190, 191, 192, 193, 194, 195, 196, 197, 198, 199, 200, 201, 202, 203, 204, 205, 206, 207, 208, 209, 210, 211, 212, 213, 214, 215, 216, 217, 218, 219, 220, 221, 222, 223, 224, 225, 226, 227, 228, 229, 230, 231, 232, 233, 234, 235, 236, 237, 238, 239, 240, 241, 242, 243, 244, 245, 246, 247, 248, 249, 250, 251, 252, 253, 254, 255, 256, 257, 258, 259, 260, 261, 262, 263, 264, 265, 266, 267, 268, 269, 270, 271, 272, 273, 274, 275, 276, 277, 278, 279, 280, 281, 282, 283, 284, 285, 286, 287, 288, 289, 290, 291, 292, 293, 294, 295, 296, 297, 298, 299, 300, 301, 302, 303, 304, 305, 306, 307, 308, 309, 310, 311, 312, 313, 314, 315, 316, 317, 318, 319, 320, 321, 322, 323, 324, 325, 326, 327, 328, 329, 330, 331, 332, 333, 334, 335, 336, 337, 338, 339, 340, 341, 342, 343, 344, 345, 346, 347, 348, 349, 350, 351, 352, 353, 354, 355, 356, 357, 358, 359, 360, 361, 362, 363, 364, 365, 366, 367, 368, 369, 370, 371, 372, 373, 374, 375, 376, 377, 378, 379, 380, 381, 382, 383, 384, 385, 386, 387, 388, 389, 390, 391, 392, 393, 394, 395, 396, 397, 398, 399, 400, 401, 402, 403, 404, 405, 406, 407, 408, 409, 410, 411, 412, 413, 414, 415, 416, 417, 418, 419, 420, 421, 422, 423, 424, 425, 426, 427, 428, 429, 430, 431, 432, 433, 434, 435, 436, 437, 438, 439, 440, 441, 442, 443, 444, 445, 446, 447, 448, 449, 450, 451, 452, 453, 454, 455, 456, 457, 458, 459, 460, 461, 462, 463, 464, 465, 466, 467, 468, 469, 470, 471, 472, 473, 474, 475, 476, 477, 478, 479, 480, 481, 482, 483, 490, 491, 492, 493, 494, 495, 496, 497, 498, 499, 500, 501, 502, 503, 504, 505, 506, 507, 508, 509, 510, 511, 512, 513, 514, 515, 516, 517] (by decide +kernel) (by decide +kernel)) (goodIn_sub (fun _ h => List.mem_cons_of_mem _ (List.mem_append_left _ (List.mem_append_left _ (List.mem_append_right _ h)))) (by decide +kernel))) (goodIn_sub (fun _ h => List.mem_cons_of_mem _ (List.mem_append_left _ (List.mem_append_right _ h))) (by decide +kernel))) (goodIn_sub (fun _ h => List.mem_cons_of_mem _ (List.mem_append_right _ h)) (by decide +kernel))
set_option maxRecDepth 20000 in
theorem gL_both_L_price : GoodIn wsL_both (va_wsS RL 209 yL_price wsL_price) := goodIn_app (goodIn_of _ (by decide +kernel)) ggL_both_L_price
theorem dL_both_0 : decode cL_both 0 = .ok (.aload_n 0, 1) := by decide +kernel
theorem dL_both_1 : decode cL_both 1 = .ok (.iconst 2, 1) := by decide +kernel
theorem dL_both_2 : decode cL_both 2 = .ok (.iconst 1, 1) := by decide +kernel
theorem dL_both_3 : decode cL_both 3 = .ok (.iconst 0, 1) := by decide +kernel
theorem dL_both_4 : decode cL_both 4 = .ok (.iconst 0, 1) := by decide +kernel
theorem dL_both_5 : decode cL_both 5 = .ok (.invokestatic 144, 3) := by decide +kernel
theorem dL_both_8 : decode cL_both 8 = .ok (.istore_n 3, 1) := by decide +kernel
theorem dL_both_9 : decode cL_both 9 = .ok (.iload_n 2, 1) := by decide +kernel
theorem dL_both_10 : decode cL_both 10 = .ok (.iload_n 3, 1) := by decide +kernel
theorem dL_both_11 : decode cL_both 11 = .ok (.irem, 1) := by decide +kernel
theorem dL_both_12 : decode cL_both 12 = .ok (.istore 4, 2) := by decide +kernel
theorem dL_both_14 : decode cL_both 14 = .ok (.iload 4, 2) := by decide +kernel
theorem dL_both_16 : decode cL_both 16 = .ok (.iconst 1, 1) := by decide +kernel
theorem dL_both_17 : decode cL_both 17 = .ok (.iadd, 1) := by decide +kernel
theorem dL_both_18 : decode cL_both 18 = .ok (.iload_n 2, 1) := by decide +kernel
theorem dL_both_19 : decode cL_both 19 = .ok (.bipush 16, 2) := by decide +kernel
theorem dL_both_21 : decode cL_both 21 = .ok (.idiv, 1) := by decide +kernel
theorem dL_both_22 : decode cL_both 22 = .ok (.iload_n 3, 1) := by decide +kernel
theorem dL_both_23 : decode cL_both 23 = .ok (.iconst 1, 1) := by decide +kernel
theorem dL_both_24 : decode cL_both 24 = .ok (.isub, 1) := by decide +kernel
theorem dL_both_25 : decode cL_both 25 = .ok (.irem, 1) := by decide +kernel
theorem dL_both_26 : decode cL_both 26 = .ok (.iadd, 1) := by decide +kernel
theorem dL_both_27 : decode cL_both 27 = .ok (.iload_n 3, 1) := by decide +kernel
theorem dL_both_28 : decode cL_both 28 = .ok (.irem, 1) := by decide +kernel
theorem dL_both_29 : decode cL_both 29 = .ok (.istore 5, 2) := by decide +kernel
theorem dL_both_31 : decode cL_both 31 = .ok (.aload_n 0, 1) := by decide +kernel
theorem dL_both_32 : decode cL_both 32 = .ok (.bipush 14, 2) := by decide +kernel
theorem dL_both_34 : decode cL_both 34 = .ok (.iload 4, 2) := by decide +kernel
theorem dL_both_36 : decode cL_both 36 = .ok (.iload 5, 2) := by decide +kernel
theorem dL_both_38 : decode cL_both 38 = .ok (.iconst 0, 1) := by decide +kernel
theorem dL_both_39 : decode cL_both 39 = .ok (.invokestatic 144, 3) := by decide +kernel
theorem dL_both_42 : decode cL_both 42 = .ok (.istore 6, 2) := by decide +kernel
theorem dL_both_44 : decode cL_both 44 = .ok (.aload_n 0, 1) := by decide +kernel
theorem dL_both_45 : decode cL_both 45 = .ok (.iload 4, 2) := by decide +kernel
theorem dL_both_47 : decode cL_both 47 = .ok (.iload 5, 2) := by decide +kernel
theorem dL_both_49 : decode cL_both 49 = .ok (.invokestatic 209, 3) := by decide +kernel
theorem dL_both_52 : decode cL_both 52 = .ok (.istore 7, 2) := by decide +kernel
theorem dL_both_54 : decode cL_both 54 = .ok (.aload_n 0, 1) := by decide +kernel
theorem dL_both_55 : decode cL_both 55 = .ok (.iload 5, 2) := by decide +kernel
theorem dL_both_57 : decode cL_both 57 = .ok (.iload 4, 2) := by decide +kernel
theorem dL_both_59 : decode cL_both 59 = .ok (.invokestatic 209, 3) := by decide +kernel
theorem dL_both_62 : decode cL_both 62 = .ok (.istore 8, 2) := by decide +kernel
theorem dL_both_64 : decode cL_both 64 = .ok (.aload_n 1, 1) := by decide +kernel
theorem dL_both_65 : decode cL_both 65 = .ok (.iload 4, 2) := by decide +kernel
theorem dL_both_67 : decode cL_both 67 = .ok (.iload 5, 2) := by decide +kernel
theorem dL_both_69 : decode cL_both 69 = .ok (.invokestatic 209, 3) := by decide +kernel
theorem dL_both_72 : decode cL_both 72 = .ok (.iload 7, 2) := by decide +kernel
theorem dL_both_74 : decode cL_both 74 = .ok (.if_icmp .ne 111, 3) := by decide +kernel
theorem dL_both_77 : decode cL_both 77 = .ok (.aload_n 1, 1) := by decide +kernel
theorem dL_both_78 : decode cL_both 78 = .ok (.iload 5, 2) := by decide +kernel
