/-! ===== names of the law, printed ===== -/
theorem dL_bits_11 : decode cL_bits 11 = .ok (.iload_n 0, 1) := by decide +kernel
theorem dL_bits_12 : decode cL_bits 12 = .ok (.iload_n 2, 1) := by decide +kernel
theorem dL_bits_13 : decode cL_bits 13 = .ok (.ishr, 1) := by decide +kernel
theorem dL_bits_14 : decode cL_bits 14 = .ok (.iconst 1, 1) := by decide +kernel
theorem dL_bits_15 : decode cL_bits 15 = .ok (.iand, 1) := by decide +kernel
theorem dL_bits_16 : decode cL_bits 16 = .ok (.iadd, 1) := by decide +kernel
theorem dL_bits_17 : decode cL_bits 17 = .ok (.istore_n 1, 1) := by decide +kernel
theorem dL_bits_18 : decode cL_bits 18 = .ok (.iinc 2 1, 3) := by decide +kernel
theorem dL_bits_21 : decode cL_bits 21 = .ok (.goto (-17), 3) := by decide +kernel
theorem dL_bits_24 : decode cL_bits 24 = .ok (.iload_n 1, 1) := by decide +kernel
theorem dL_bits_25 : decode cL_bits 25 = .ok (.ireturn, 1) := by decide +kernel
set_option maxRecDepth 20000 in
theorem ggL_holds_L_call : GoodIn wsL_holds wsL_call := goodIn_ca (goodIn_ca (goodIn_ca (goodIn_r _ [4, 5, 6, 3, 7, 8, 9, 10, 11, 12, 13, 14, 15, 16, 17, 18, 19, 20, 21, 22, 23, 24, 25, 26, 27, 28, 29, 30, 31, 32, 33, 34, 35, 36, 37, 38, 39, 40, 41, 42, 43, 44, 45, 46, 47, 48, 49, 50, 51, 52, 53, 54, 55, 56, 57, 58, 59, 60, 61, 62, 63, 64, 65, 66, 67, 68, 69, 70, 71, 72, 73, 74, 75, 76, 77, 78, 79, 80, 81, 82, 83, 84, 85, 86, 87, 88, 89, 90, 91, 92, 93, 94, 95, 96, 97, 98, 99, 100, 101, 102, 103, 104, 105, 106, 107, 108, 109, 110, 111, 112, 113, 114, 115, 116, 117, 118, 119, 120, 121, 122, 123, 124, 125, 126, 127, 128, 129, 130, 131, 132, 133, 134, 135, 136, 137, 138, 139, 140, 141, 142, 143, 144, 145, 146, 147, 148, 149, 150, 151, 152, 153, 154, 155, 156, 157, 158, 159, 160, 161, 162, 163, 164, 165, 166, 167, 168, 169, 170, 171, 172, 173, 174, 175, 176, 177, 178, 179, 180, 181, 182, 183, 184, 185, 186, 187, 188, 189, 190, 191, 192, 193, 194, 195, 196, 197, 198, 199, 200, 201, 202, 203, 204, 205, 206, 207, 208, 209, 210, 211, 212, 213, 214, 215, 216, 217, 218, 219, 220, 221, 222, 223, 224, 225, 226, 227, 228, 229, 230, 231, 232, 233, 234, 235, 236, 237, 238, 239, 240, 241, 242, 243, 244, 245, 246, 247, 248, 249, 250, 251, 252, 253, 254, 255, 256, 257, 258, 259, 260, 261, 262, 263, 264, 265, 266, 267, 268, 269, 270, 271, 272, 273, 274, 275, 276, 277, 278, 279, 280, 281, 282, 283, 284, 285, 286, 287, 288, 289, 290, 291, 292, 293, 294, 295, 296, 297, 298, 299, 300, 301, 302, 303, 304, 305, 306, 307, 308, 309, 310, 311, 312, 313, 314, 315, 316, 317, 318, 319, 320, 321, 322, 323, 324, 325, 326, 327, 328, 329, 330, 331, 332, 333, 334, 335, 336, 337, 338, 339, 340, 341, 342, 343, 344, 345, 346, 347, 348, 349, 350, 351, 352, 353, 354, 355, 356, 357, 358, 359, 360, 361, 362, 363, 364, 365, 366, 367, 368, 369, 370, 371, 372, 373, 374, 375, 376, 377, 378, 379, 380, 381, 382, 383, 384, 385, 386, 387, 388, 389, 390, 391, 392, 393, 394, 395, 396, 397, 398, 399, 400, 401, 402, 403, 404, 405, 406, 407, 408, 409, 410, 411, 412, 413, 414, 415, 416, 417, 418, 419, 420, 421, 422, 423, 424, 425, 426, 427, 428, 429, 430, 431, 432, 433, 434, 435, 436, 437, 438, 439, 440, 441, 442, 443, 444, 445, 446, 447, 448, 449, 450, 451, 452, 453, 454, 455, 456, 457, 458, 459, 460, 461, 462, 463, 464, 465, 466, 467, 468, 469, 470, 471, 472, 473, 474, 475, 476, 477, 478, 479, 480, 481, 482, 483, 499, 500, 501, 502, 503, 504, 505, 506, 507, 508, 509, 510, 511, 512, 513, 514, 515, 516, 517, 518, 519, 520, 521, 522, 523] (by decide +kernel) (by decide +kernel)) (goodIn_sub (fun _ h => List.mem_cons_of_mem _ (List.mem_append_left _ (List.mem_append_left _ (List.mem_append_right _ h)))) (by decide +kernel))) (goodIn_sub (fun _ h => List.mem_cons_of_mem _ (List.mem_append_left _ (List.mem_append_right _ h))) (by decide +kernel))) (goodIn_sub (fun _ h => List.mem_cons_of_mem _ (List.mem_append_right _ h)) (by decide +kernel))
set_option maxRecDepth 20000 in
theorem gL_holds_L_call : GoodIn wsL_holds (va_wsS RL 144 yL_call wsL_call) := goodIn_app (goodIn_of _ (by decide +kernel)) ggL_holds_L_call
set_option maxRecDepth 20000 in
theorem ggL_holds_L_facesOf : GoodIn wsL_holds wsL_facesOf := goodIn_ca (goodIn_ca (goodIn_ca (goodIn_r _ [486, 1, 2, 3, 4, 5, 6, 7, 8, 9, 10, 11, 12, 13, 14, 15, 16, 17, 18, 19, 20, 21, 22, 23, 24, 25, 26, 27, 28, 29, 30, 31, 32, 33, 34, 35, 36, 37, 38, 39, 40, 41, 42, 43, 44, 45, 46, 47, 48, 49, 50, 51, 52, 53, 54, 55, 56, 57, 58, 59, 60, 61, 62, 63, 64, 65, 66, 67, 68, 69, 70, 71, 72, 73, 74, 75, 76, 77, 78, 79, 80, 81, 82, 83, 84, 85, 86, 87, 88, 89, 90, 91, 92, 93, 94, 95, 96, 97, 98, 99, 100, 101, 102, 103, 104, 105, 106, 107, 108, 109, 110, 111, 112, 113, 114, 115, 116, 117, 118, 119, 120, 121, 122, 123, 124, 125, 126, 127, 128, 129, 130, 131, 132, 133, 134, 135, 136, 137, 138, 139, 140, 141, 142, 143, 144, 145, 146, 147, 148, 149, 150, 151, 152, 153, 154, 155, 156, 157, 158, 159, 160, 161, 162, 163, 164, 165, 166, 167, 168, 169, 170, 171, 172, 173, 174, 175, 176, 177, 178, 179, 180, 181, 182, 183, 184, 185, 186, 187, 188, 189, 190, 191, 192, 193, 194, 195, 196, 197, 198, 199, 200, 201, 202, 203, 204, 205, 206, 207, 208, 209, 210, 211, 212, 213, 214, 215, 216, 217, 218, 219, 220, 221, 222, 223, 224, 225, 226, 227, 228, 229, 230, 231, 232, 233, 234, 235, 236, 237, 238, 239, 240, 241, 242, 243, 244, 245, 246, 247, 248, 249, 250, 251, 252, 253, 254, 255, 256, 257, 258, 259, 260, 261, 262, 263, 264, 265, 266, 267, 268, 269, 270, 271, 272, 273, 274, 275, 276, 277, 278, 279, 280, 281, 282, 283, 284, 285, 286, 287, 288, 289, 290, 291, 292, 293, 294, 295, 296, 297, 298, 299, 300, 301, 302, 303, 304, 305, 306, 307, 308, 309, 310, 311, 312, 313, 314, 315, 316, 317, 318, 319, 320, 321, 322, 323, 324, 325, 326, 327, 328, 329, 330, 331, 332, 333, 334, 335, 336, 337, 338, 339, 340, 341, 342, 343, 344, 345, 346, 347, 348, 349, 350, 351, 352, 353, 354, 355, 356, 357, 358, 359, 360, 361, 362, 363, 364, 365, 366, 367, 368, 369, 370, 371, 372, 373, 374, 375, 376, 377, 378, 379, 380, 381, 382, 383, 384, 385, 386, 387, 388, 389, 390, 391, 392, 393, 394, 395, 396, 397, 398, 399, 400, 401, 402, 403, 404, 405, 406, 407, 408, 409, 410, 411, 412, 413, 414, 415, 416, 417, 418, 419, 420, 421, 422, 423, 424, 425, 426, 427, 428, 429, 430, 431, 432, 433, 434, 435, 436, 437, 438, 439, 440, 441, 442, 443, 444, 445, 446, 447, 448, 449, 450, 451, 452, 453, 454, 455, 456, 457, 458, 459, 460, 461, 462, 463, 464, 465, 466, 467, 468, 469, 470, 471, 472, 473, 474, 475, 476, 477, 478, 479, 480, 481, 482, 483, 499, 500, 501, 502, 503, 504, 505, 506, 507, 508, 509, 510, 511, 512, 513, 514, 515, 516, 517, 518, 519, 520, 521, 522, 523] (by decide +kernel) (by decide +kernel)) (goodIn_sub (fun _ h => List.mem_cons_of_mem _ (List.mem_append_left _ (List.mem_append_left _ (List.mem_append_right _ h)))) (by decide +kernel))) (goodIn_sub (fun _ h => List.mem_cons_of_mem _ (List.mem_append_left _ (List.mem_append_right _ h))) (by decide +kernel))) (goodIn_sub (fun _ h => List.mem_cons_of_mem _ (List.mem_append_right _ h)) (by decide +kernel))
set_option maxRecDepth 20000 in
theorem gL_holds_L_facesOf : GoodIn wsL_holds (va_wsS RL 162 yL_facesOf wsL_facesOf) := goodIn_app (goodIn_of _ (by decide +kernel)) ggL_holds_L_facesOf
set_option maxRecDepth 20000 in
theorem ggL_holds_L_bits : GoodIn wsL_holds wsL_bits := goodIn_r _ [489] (by decide +kernel) (by decide +kernel)
set_option maxRecDepth 20000 in
theorem gL_holds_L_bits : GoodIn wsL_holds (va_wsS RL 165 yL_bits wsL_bits) := goodIn_app (goodIn_of _ (by decide +kernel)) ggL_holds_L_bits
set_option maxRecDepth 20000 in
theorem ggL_holds_X7_cheapest : GoodIn wsL_holds wsX7_cheapest := goodIn_r _ [493, 56, 351, 152, 153, 93, 154, 96, 155, 156, 157, 158, 99, 159, 160, 161, 162, 163, 69, 70, 45, 71, 47, 48, 164, 165, 166, 167, 168, 169, 170, 171, 98, 95, 172, 173, 174, 175, 97, 176, 177, 178, 179, 180, 181, 182, 183, 184, 15, 185, 186, 187, 188, 189, 190, 191, 192, 193, 194, 195, 196, 197, 198, 199, 200, 494, 495, 496, 497, 205, 206, 207, 208, 209, 210, 211, 212, 213, 214, 498, 408, 409, 410, 223, 224, 225, 226, 499, 500, 501, 502, 503, 504, 509, 510, 511, 512, 513, 514, 515, 516, 517, 518, 507, 508] (by decide +kernel) (by decide +kernel)
set_option maxRecDepth 20000 in
theorem gL_holds_X7_cheapest : GoodIn wsL_holds (wsV RL 168 RX7 yX7_cheapest wsX7_cheapest) := goodIn_app (goodIn_of _ (by decide +kernel)) ggL_holds_X7_cheapest
theorem dL_holds_0 : decode cL_holds 0 = .ok (.aload_n 0, 1) := by decide +kernel
theorem dL_holds_1 : decode cL_holds 1 = .ok (.iconst 2, 1) := by decide +kernel
theorem dL_holds_2 : decode cL_holds 2 = .ok (.iconst 0, 1) := by decide +kernel
theorem dL_holds_3 : decode cL_holds 3 = .ok (.iconst 0, 1) := by decide +kernel
theorem dL_holds_4 : decode cL_holds 4 = .ok (.iconst 0, 1) := by decide +kernel
theorem dL_holds_5 : decode cL_holds 5 = .ok (.invokestatic 144, 3) := by decide +kernel
theorem dL_holds_8 : decode cL_holds 8 = .ok (.istore_n 2, 1) := by decide +kernel
theorem dL_holds_9 : decode cL_holds 9 = .ok (.aload_n 0, 1) := by decide +kernel
theorem dL_holds_10 : decode cL_holds 10 = .ok (.iconst 2, 1) := by decide +kernel
theorem dL_holds_11 : decode cL_holds 11 = .ok (.iconst 1, 1) := by decide +kernel
theorem dL_holds_12 : decode cL_holds 12 = .ok (.iconst 0, 1) := by decide +kernel
theorem dL_holds_13 : decode cL_holds 13 = .ok (.iconst 0, 1) := by decide +kernel
theorem dL_holds_14 : decode cL_holds 14 = .ok (.invokestatic 144, 3) := by decide +kernel
theorem dL_holds_17 : decode cL_holds 17 = .ok (.istore_n 3, 1) := by decide +kernel
theorem dL_holds_18 : decode cL_holds 18 = .ok (.iconst 0, 1) := by decide +kernel
theorem dL_holds_19 : decode cL_holds 19 = .ok (.istore 4, 2) := by decide +kernel
theorem dL_holds_21 : decode cL_holds 21 = .ok (.iconst 0, 1) := by decide +kernel
theorem dL_holds_22 : decode cL_holds 22 = .ok (.istore 5, 2) := by decide +kernel
theorem dL_holds_24 : decode cL_holds 24 = .ok (.iload_n 2, 1) := by decide +kernel
theorem dL_holds_25 : decode cL_holds 25 = .ok (.bipush 14, 2) := by decide +kernel
theorem dL_holds_27 : decode cL_holds 27 = .ok (.if_icmp .gt 13, 3) := by decide +kernel
theorem dL_holds_30 : decode cL_holds 30 = .ok (.iload_n 3, 1) := by decide +kernel
theorem dL_holds_31 : decode cL_holds 31 = .ok (.bipush 10, 2) := by decide +kernel
theorem dL_holds_33 : decode cL_holds 33 = .ok (.if_icmp .gt 7, 3) := by decide +kernel
theorem dL_holds_36 : decode cL_holds 36 = .ok (.iconst 1, 1) := by decide +kernel
theorem dL_holds_37 : decode cL_holds 37 = .ok (.goto 4, 3) := by decide +kernel
theorem dL_holds_40 : decode cL_holds 40 = .ok (.iconst 0, 1) := by decide +kernel
theorem dL_holds_41 : decode cL_holds 41 = .ok (.istore 6, 2) := by decide +kernel
theorem dL_holds_43 : decode cL_holds 43 = .ok (.iconst 0, 1) := by decide +kernel
theorem dL_holds_44 : decode cL_holds 44 = .ok (.istore 7, 2) := by decide +kernel
theorem dL_holds_46 : decode cL_holds 46 = .ok (.iload 7, 2) := by decide +kernel
theorem dL_holds_48 : decode cL_holds 48 = .ok (.iload_n 3, 1) := by decide +kernel
theorem dL_holds_49 : decode cL_holds 49 = .ok (.if_icmp .ge 252, 3) := by decide +kernel
theorem dL_holds_52 : decode cL_holds 52 = .ok (.iload 6, 2) := by decide +kernel
theorem dL_holds_54 : decode cL_holds 54 = .ok (.ifCond .eq 247, 3) := by decide +kernel
theorem dL_holds_57 : decode cL_holds 57 = .ok (.aload_n 0, 1) := by decide +kernel
theorem dL_holds_58 : decode cL_holds 58 = .ok (.iconst 4, 1) := by decide +kernel
theorem dL_holds_59 : decode cL_holds 59 = .ok (.iload 7, 2) := by decide +kernel
theorem dL_holds_61 : decode cL_holds 61 = .ok (.bipush 6, 2) := by decide +kernel
theorem dL_holds_63 : decode cL_holds 63 = .ok (.iconst 0, 1) := by decide +kernel
theorem dL_holds_64 : decode cL_holds 64 = .ok (.invokestatic 144, 3) := by decide +kernel
theorem dL_holds_67 : decode cL_holds 67 = .ok (.istore 8, 2) := by decide +kernel
theorem dL_holds_69 : decode cL_holds 69 = .ok (.aload_n 0, 1) := by decide +kernel
theorem dL_holds_70 : decode cL_holds 70 = .ok (.iload 8, 2) := by decide +kernel
theorem dL_holds_72 : decode cL_holds 72 = .ok (.invokestatic 162, 3) := by decide +kernel
theorem dL_holds_75 : decode cL_holds 75 = .ok (.istore 9, 2) := by decide +kernel
theorem dL_holds_77 : decode cL_holds 77 = .ok (.aload_n 0, 1) := by decide +kernel
theorem dL_holds_78 : decode cL_holds 78 = .ok (.iconst 4, 1) := by decide +kernel
theorem dL_holds_79 : decode cL_holds 79 = .ok (.iload 7, 2) := by decide +kernel
theorem dL_holds_81 : decode cL_holds 81 = .ok (.iconst 5, 1) := by decide +kernel
theorem dL_holds_82 : decode cL_holds 82 = .ok (.iconst 0, 1) := by decide +kernel
theorem dL_holds_83 : decode cL_holds 83 = .ok (.invokestatic 144, 3) := by decide +kernel
theorem dL_holds_86 : decode cL_holds 86 = .ok (.iconst 1, 1) := by decide +kernel
theorem dL_holds_87 : decode cL_holds 87 = .ok (.if_icmp .ne 7, 3) := by decide +kernel
theorem dL_holds_90 : decode cL_holds 90 = .ok (.iconst 1, 1) := by decide +kernel
theorem dL_holds_91 : decode cL_holds 91 = .ok (.goto 4, 3) := by decide +kernel
theorem dL_holds_94 : decode cL_holds 94 = .ok (.iconst 0, 1) := by decide +kernel
theorem dL_holds_95 : decode cL_holds 95 = .ok (.istore 10, 2) := by decide +kernel
theorem dL_holds_97 : decode cL_holds 97 = .ok (.iload 4, 2) := by decide +kernel
theorem dL_holds_99 : decode cL_holds 99 = .ok (.iload 10, 2) := by decide +kernel
theorem dL_holds_101 : decode cL_holds 101 = .ok (.ifCond .eq 7, 3) := by decide +kernel
theorem dL_holds_104 : decode cL_holds 104 = .ok (.iconst 1, 1) := by decide +kernel
theorem dL_holds_105 : decode cL_holds 105 = .ok (.goto 4, 3) := by decide +kernel
theorem dL_holds_108 : decode cL_holds 108 = .ok (.iconst 0, 1) := by decide +kernel
theorem dL_holds_109 : decode cL_holds 109 = .ok (.iadd, 1) := by decide +kernel
theorem dL_holds_110 : decode cL_holds 110 = .ok (.istore 4, 2) := by decide +kernel
theorem dL_holds_112 : decode cL_holds 112 = .ok (.iload 10, 2) := by decide +kernel
theorem dL_holds_114 : decode cL_holds 114 = .ok (.ifCond .eq 71, 3) := by decide +kernel
theorem dL_holds_117 : decode cL_holds 117 = .ok (.iload 8, 2) := by decide +kernel
theorem dL_holds_119 : decode cL_holds 119 = .ok (.invokestatic 165, 3) := by decide +kernel
theorem dL_holds_122 : decode cL_holds 122 = .ok (.aload_n 0, 1) := by decide +kernel
theorem dL_holds_123 : decode cL_holds 123 = .ok (.iconst 4, 1) := by decide +kernel
theorem dL_holds_124 : decode cL_holds 124 = .ok (.iload 7, 2) := by decide +kernel
theorem dL_holds_126 : decode cL_holds 126 = .ok (.iconst 1, 1) := by decide +kernel
theorem dL_holds_127 : decode cL_holds 127 = .ok (.iconst 0, 1) := by decide +kernel
theorem dL_holds_128 : decode cL_holds 128 = .ok (.invokestatic 144, 3) := by decide +kernel
theorem dL_holds_131 : decode cL_holds 131 = .ok (.if_icmp .ne 50, 3) := by decide +kernel
theorem dL_holds_134 : decode cL_holds 134 = .ok (.iload 9, 2) := by decide +kernel
theorem dL_holds_136 : decode cL_holds 136 = .ok (.invokestatic 165, 3) := by decide +kernel
theorem dL_holds_139 : decode cL_holds 139 = .ok (.iload 8, 2) := by decide +kernel
theorem dL_holds_141 : decode cL_holds 141 = .ok (.invokestatic 165, 3) := by decide +kernel
theorem dL_holds_144 : decode cL_holds 144 = .ok (.if_icmp .ne 37, 3) := by decide +kernel
theorem dL_holds_147 : decode cL_holds 147 = .ok (.iload 9, 2) := by decide +kernel
theorem dL_holds_149 : decode cL_holds 149 = .ok (.aload_n 0, 1) := by decide +kernel
theorem dL_holds_150 : decode cL_holds 150 = .ok (.iconst 4, 1) := by decide +kernel
theorem dL_holds_151 : decode cL_holds 151 = .ok (.iload 7, 2) := by decide +kernel
