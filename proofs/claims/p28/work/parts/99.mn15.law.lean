/-! ===== names of the law, printed ===== -/
theorem dL_spent_5 : decode cL_spent 5 = .ok (.invokestatic 144, 3) := by decide +kernel
theorem dL_spent_8 : decode cL_spent 8 = .ok (.aload_n 0, 1) := by decide +kernel
theorem dL_spent_9 : decode cL_spent 9 = .ok (.iconst 2, 1) := by decide +kernel
theorem dL_spent_10 : decode cL_spent 10 = .ok (.iconst 5, 1) := by decide +kernel
theorem dL_spent_11 : decode cL_spent 11 = .ok (.iconst 0, 1) := by decide +kernel
theorem dL_spent_12 : decode cL_spent 12 = .ok (.iconst 0, 1) := by decide +kernel
theorem dL_spent_13 : decode cL_spent 13 = .ok (.invokestatic 144, 3) := by decide +kernel
theorem dL_spent_16 : decode cL_spent 16 = .ok (.iadd, 1) := by decide +kernel
theorem dL_spent_17 : decode cL_spent 17 = .ok (.ireturn, 1) := by decide +kernel
set_option maxRecDepth 20000 in
theorem ggL_scene_L_call : GoodIn wsL_scene wsL_call := goodIn_ca (goodIn_ca (goodIn_ca (goodIn_r _ [5, 6, 7, 4, 8, 9, 10, 11, 1, 12, 13, 14, 15, 16, 17, 18, 19, 20, 21, 22, 23, 24, 25, 26, 27, 28, 29, 30, 31, 32, 33, 34, 35, 36, 37, 38, 39, 40, 41, 42, 43, 44, 45, 46, 47, 48, 49, 50, 51, 52, 53, 54, 55, 56, 57, 58, 59, 60, 61, 62, 63, 64, 65, 66, 67, 68, 69, 70, 71, 72, 73, 74, 75, 76, 77, 78, 79, 80, 81, 82, 83, 84, 85, 86, 87, 88, 89, 90, 91, 92, 93, 94, 95, 96, 97, 98, 99, 100, 101, 102, 103, 104, 105, 106, 107, 108, 109, 110, 111, 112, 113, 114, 115, 116, 117, 118, 119, 120, 121, 122, 123, 124, 125, 126, 127, 128, 129, 130, 131, 132, 133, 134, 135, 136, 137, 138, 139, 140, 141, 142, 143, 144, 145, 146, 147, 148, 149, 150, 151, 152, 153, 154, 155, 156, 157, 158, 159, 160, 161, 162, 163, 164, 165, 166, 167, 168, 169, 170, 171, 172, 173, 174, 175, 176, 177, 178, 179, 180, 181, 182, 183, 184, 185, 186, 187, 188, 189, 190, 191, 192, 193, 194, 195, 196, 197, 198, 199, 200, 201, 202, 203, 204, 205, 206, 207, 208, 209, 210, 211, 212, 213, 214, 215, 216, 217, 218, 219, 220, 221, 222, 223, 224, 225, 226, 227, 228, 229, 230, 231, 232, 233, 234, 235, 236, 237, 238, 239, 240, 241, 242, 243, 244, 245, 246, 247, 248, 249, 250, 251, 252, 253, 254, 255, 256, 257, 258, 259, 260, 261, 262, 263, 264, 265, 266, 267, 268, 269, 270, 271, 272, 273, 274, 275, 276, 277, 278, 279, 280, 281, 282, 283, 284, 285, 286, 287, 288, 289, 290, 291, 292, 293, 294, 295, 296, 297, 298, 299, 300, 301, 302, 303, 304, 305, 306, 307, 308, 309, 310, 311, 312, 313, 314, 315, 316, 317, 318, 319, 320, 321, 322, 323, 324, 325, 326, 327, 328, 329, 330, 331, 332, 333, 334, 335, 336, 337, 338, 339, 340, 341, 342, 343, 344, 345, 346, 347, 348, 349, 350, 351, 352, 353, 354, 355, 356, 357, 358, 359, 360, 361, 362, 363, 364, 365, 366, 367, 368, 369, 370, 371, 372, 373, 374, 375, 376, 377, 378, 379, 380, 381, 382, 383, 384, 385, 386, 387, 388, 389, 390, 391, 392, 393, 394, 395, 396, 397, 398, 399, 400, 401, 402, 403, 404, 405, 406, 407, 408, 409, 410, 411, 412, 413, 414, 415, 416, 417, 418, 419, 420, 421, 422, 423, 424, 425, 426, 427, 428, 429, 430, 431, 432, 433, 434, 435, 436, 437, 438, 439, 440, 441, 442, 443, 444, 445, 446, 447, 448, 449, 450, 451, 452, 453, 454, 455, 456, 457, 458, 459, 460, 461, 462, 463, 464, 465, 466, 467, 468, 469, 470, 471, 472, 473, 474, 475, 476, 477, 478, 479, 480, 481, 482, 483, 490, 491, 492, 493, 494, 495, 496, 497, 498, 499, 500, 501, 502, 503, 504, 505, 506, 507, 508, 509, 510, 511, 512, 513, 514] (by decide +kernel) (by decide +kernel)) (goodIn_sub (fun _ h => List.mem_cons_of_mem _ (List.mem_append_left _ (List.mem_append_left _ (List.mem_append_right _ h)))) (by decide +kernel))) (goodIn_sub (fun _ h => List.mem_cons_of_mem _ (List.mem_append_left _ (List.mem_append_right _ h))) (by decide +kernel))) (goodIn_sub (fun _ h => List.mem_cons_of_mem _ (List.mem_append_right _ h)) (by decide +kernel))
set_option maxRecDepth 20000 in
theorem gL_scene_L_call : GoodIn wsL_scene (va_wsS RL 144 yL_call wsL_call) := goodIn_app (goodIn_of _ (by decide +kernel)) ggL_scene_L_call
set_option maxRecDepth 20000 in
theorem ggL_scene_L_spent : GoodIn wsL_scene wsL_spent := goodIn_ca (goodIn_ca (goodIn_ca (goodIn_r _ [486, 2, 3, 4, 5, 6, 7, 8, 9, 10, 11, 1, 12, 13, 14, 15, 16, 17, 18, 19, 20, 21, 22, 23, 24, 25, 26, 27, 28, 29, 30, 31, 32, 33, 34, 35, 36, 37, 38, 39, 40, 41, 42, 43, 44, 45, 46, 47, 48, 49, 50, 51, 52, 53, 54, 55, 56, 57, 58, 59, 60, 61, 62, 63, 64, 65, 66, 67, 68, 69, 70, 71, 72, 73, 74, 75, 76, 77, 78, 79, 80, 81, 82, 83, 84, 85, 86, 87, 88, 89, 90, 91, 92, 93, 94, 95, 96, 97, 98, 99, 100, 101, 102, 103, 104, 105, 106, 107, 108, 109, 110, 111, 112, 113, 114, 115, 116, 117, 118, 119, 120, 121, 122, 123, 124, 125, 126, 127, 128, 129, 130, 131, 132, 133, 134, 135, 136, 137, 138, 139, 140, 141, 142, 143, 144, 145, 146, 147, 148, 149, 150, 151, 152, 153, 154, 155, 156, 157, 158, 159, 160, 161, 162, 163, 164, 165, 166, 167, 168, 169, 170, 171, 172, 173, 174, 175, 176, 177, 178, 179, 180, 181, 182, 183, 184, 185, 186, 187, 188, 189, 190, 191, 192, 193, 194, 195, 196, 197, 198, 199, 200, 201, 202, 203, 204, 205, 206, 207, 208, 209, 210, 211, 212, 213, 214, 215, 216, 217, 218, 219, 220, 221, 222, 223, 224, 225, 226, 227, 228, 229, 230, 231, 232, 233, 234, 235, 236, 237, 238, 239, 240, 241, 242, 243, 244, 245, 246, 247, 248, 249, 250, 251, 252, 253, 254, 255, 256, 257, 258, 259, 260, 261, 262, 263, 264, 265, 266, 267, 268, 269, 270, 271, 272, 273, 274, 275, 276, 277, 278, 279, 280, 281, 282, 283, 284, 285, 286, 287, 288, 289, 290, 291, 292, 293, 294, 295, 296, 297, 298, 299, 300, 301, 302, 303, 304, 305, 306, 307, 308, 309, 310, 311, 312, 313, 314, 315, 316, 317, 318, 319, 320, 321, 322, 323, 324, 325, 326, 327, 328, 329, 330, 331, 332, 333, 334, 335, 336, 337, 338, 339, 340, 341, 342, 343, 344, 345, 346, 347, 348, 349, 350, 351, 352, 353, 354, 355, 356, 357, 358, 359, 360, 361, 362, 363, 364, 365, 366, 367, 368, 369, 370, 371, 372, 373, 374, 375, 376, 377, 378, 379, 380, 381, 382, 383, 384, 385, 386, 387, 388, 389, 390, 391, 392, 393, 394, 395, 396, 397, 398, 399, 400, 401, 402, 403, 404, 405, 406, 407, 408, 409, 410, 411, 412, 413, 414, 415, 416, 417, 418, 419, 420, 421, 422, 423, 424, 425, 426, 427, 428, 429, 430, 431, 432, 433, 434, 435, 436, 437, 438, 439, 440, 441, 442, 443, 444, 445, 446, 447, 448, 449, 450, 451, 452, 453, 454, 455, 456, 457, 458, 459, 460, 461, 462, 463, 464, 465, 466, 467, 468, 469, 470, 471, 472, 473, 474, 475, 476, 477, 478, 479, 480, 481, 482, 483, 490, 491, 492, 493, 494, 495, 496, 497, 498, 499, 500, 501, 502, 503, 504, 505, 506, 507, 508, 509, 510, 511, 512, 513, 514] (by decide +kernel) (by decide +kernel)) (goodIn_sub (fun _ h => List.mem_cons_of_mem _ (List.mem_append_left _ (List.mem_append_left _ (List.mem_append_right _ h)))) (by decide +kernel))) (goodIn_sub (fun _ h => List.mem_cons_of_mem _ (List.mem_append_left _ (List.mem_append_right _ h))) (by decide +kernel))) (goodIn_sub (fun _ h => List.mem_cons_of_mem _ (List.mem_append_right _ h)) (by decide +kernel))
set_option maxRecDepth 20000 in
theorem gL_scene_L_spent : GoodIn wsL_scene (va_wsS RL 202 yL_spent wsL_spent) := goodIn_app (goodIn_of _ (by decide +kernel)) ggL_scene_L_spent
set_option maxRecDepth 20000 in
theorem ggL_scene_L_thrown : GoodIn wsL_scene wsL_thrown := goodIn_r _ [489, 265, 11, 1] (by decide +kernel) (by decide +kernel)
set_option maxRecDepth 20000 in
theorem gL_scene_L_thrown : GoodIn wsL_scene (va_wsS RL 205 yL_thrown wsL_thrown) := goodIn_app (goodIn_of _ (by decide +kernel)) ggL_scene_L_thrown
theorem dL_scene_0 : decode cL_scene 0 = .ok (.iload_n 2, 1) := by decide +kernel
theorem dL_scene_1 : decode cL_scene 1 = .ok (.aload_n 0, 1) := by decide +kernel
theorem dL_scene_2 : decode cL_scene 2 = .ok (.iconst 2, 1) := by decide +kernel
theorem dL_scene_3 : decode cL_scene 3 = .ok (.iconst 1, 1) := by decide +kernel
theorem dL_scene_4 : decode cL_scene 4 = .ok (.iconst 0, 1) := by decide +kernel
theorem dL_scene_5 : decode cL_scene 5 = .ok (.iconst 0, 1) := by decide +kernel
theorem dL_scene_6 : decode cL_scene 6 = .ok (.invokestatic 144, 3) := by decide +kernel
theorem dL_scene_9 : decode cL_scene 9 = .ok (.irem, 1) := by decide +kernel
theorem dL_scene_10 : decode cL_scene 10 = .ok (.istore_n 3, 1) := by decide +kernel
theorem dL_scene_11 : decode cL_scene 11 = .ok (.aload_n 0, 1) := by decide +kernel
theorem dL_scene_12 : decode cL_scene 12 = .ok (.bipush 11, 2) := by decide +kernel
theorem dL_scene_14 : decode cL_scene 14 = .ok (.iload_n 3, 1) := by decide +kernel
theorem dL_scene_15 : decode cL_scene 15 = .ok (.iconst 0, 1) := by decide +kernel
theorem dL_scene_16 : decode cL_scene 16 = .ok (.iconst 0, 1) := by decide +kernel
theorem dL_scene_17 : decode cL_scene 17 = .ok (.invokestatic 144, 3) := by decide +kernel
theorem dL_scene_20 : decode cL_scene 20 = .ok (.istore 4, 2) := by decide +kernel
theorem dL_scene_22 : decode cL_scene 22 = .ok (.iload 4, 2) := by decide +kernel
theorem dL_scene_24 : decode cL_scene 24 = .ok (.iconst (-1), 1) := by decide +kernel
theorem dL_scene_25 : decode cL_scene 25 = .ok (.if_icmp .ne 37, 3) := by decide +kernel
theorem dL_scene_28 : decode cL_scene 28 = .ok (.aload_n 0, 1) := by decide +kernel
theorem dL_scene_29 : decode cL_scene 29 = .ok (.bipush 7, 2) := by decide +kernel
theorem dL_scene_31 : decode cL_scene 31 = .ok (.iload_n 3, 1) := by decide +kernel
theorem dL_scene_32 : decode cL_scene 32 = .ok (.iconst 0, 1) := by decide +kernel
theorem dL_scene_33 : decode cL_scene 33 = .ok (.iconst 0, 1) := by decide +kernel
theorem dL_scene_34 : decode cL_scene 34 = .ok (.invokestatic 144, 3) := by decide +kernel
theorem dL_scene_37 : decode cL_scene 37 = .ok (.ldc 18, 2) := by decide +kernel
theorem dL_scene_39 : decode cL_scene 39 = .ok (.if_icmp .ne 21, 3) := by decide +kernel
theorem dL_scene_42 : decode cL_scene 42 = .ok (.aload_n 1, 1) := by decide +kernel
theorem dL_scene_43 : decode cL_scene 43 = .ok (.bipush 7, 2) := by decide +kernel
theorem dL_scene_45 : decode cL_scene 45 = .ok (.iload_n 3, 1) := by decide +kernel
theorem dL_scene_46 : decode cL_scene 46 = .ok (.iconst 0, 1) := by decide +kernel
theorem dL_scene_47 : decode cL_scene 47 = .ok (.iconst 0, 1) := by decide +kernel
theorem dL_scene_48 : decode cL_scene 48 = .ok (.invokestatic 144, 3) := by decide +kernel
theorem dL_scene_51 : decode cL_scene 51 = .ok (.ldc 18, 2) := by decide +kernel
theorem dL_scene_53 : decode cL_scene 53 = .ok (.if_icmp .ne 7, 3) := by decide +kernel
theorem dL_scene_56 : decode cL_scene 56 = .ok (.iconst 1, 1) := by decide +kernel
theorem dL_scene_57 : decode cL_scene 57 = .ok (.goto 4, 3) := by decide +kernel
theorem dL_scene_60 : decode cL_scene 60 = .ok (.iconst 0, 1) := by decide +kernel
theorem dL_scene_61 : decode cL_scene 61 = .ok (.ireturn, 1) := by decide +kernel
theorem dL_scene_62 : decode cL_scene 62 = .ok (.aload_n 0, 1) := by decide +kernel
theorem dL_scene_63 : decode cL_scene 63 = .ok (.bipush 11, 2) := by decide +kernel
theorem dL_scene_65 : decode cL_scene 65 = .ok (.iload_n 3, 1) := by decide +kernel
theorem dL_scene_66 : decode cL_scene 66 = .ok (.iconst 1, 1) := by decide +kernel
theorem dL_scene_67 : decode cL_scene 67 = .ok (.iconst 0, 1) := by decide +kernel
theorem dL_scene_68 : decode cL_scene 68 = .ok (.invokestatic 144, 3) := by decide +kernel
theorem dL_scene_71 : decode cL_scene 71 = .ok (.aload_n 0, 1) := by decide +kernel
theorem dL_scene_72 : decode cL_scene 72 = .ok (.bipush 11, 2) := by decide +kernel
theorem dL_scene_74 : decode cL_scene 74 = .ok (.iload_n 3, 1) := by decide +kernel
theorem dL_scene_75 : decode cL_scene 75 = .ok (.iconst 2, 1) := by decide +kernel
theorem dL_scene_76 : decode cL_scene 76 = .ok (.iconst 0, 1) := by decide +kernel
theorem dL_scene_77 : decode cL_scene 77 = .ok (.invokestatic 144, 3) := by decide +kernel
theorem dL_scene_80 : decode cL_scene 80 = .ok (.iadd, 1) := by decide +kernel
theorem dL_scene_81 : decode cL_scene 81 = .ok (.istore 5, 2) := by decide +kernel
theorem dL_scene_83 : decode cL_scene 83 = .ok (.aload_n 0, 1) := by decide +kernel
theorem dL_scene_84 : decode cL_scene 84 = .ok (.bipush 11, 2) := by decide +kernel
theorem dL_scene_86 : decode cL_scene 86 = .ok (.iload_n 3, 1) := by decide +kernel
theorem dL_scene_87 : decode cL_scene 87 = .ok (.iconst 3, 1) := by decide +kernel
theorem dL_scene_88 : decode cL_scene 88 = .ok (.iconst 0, 1) := by decide +kernel
theorem dL_scene_89 : decode cL_scene 89 = .ok (.invokestatic 144, 3) := by decide +kernel
theorem dL_scene_92 : decode cL_scene 92 = .ok (.istore 6, 2) := by decide +kernel
theorem dL_scene_94 : decode cL_scene 94 = .ok (.aload_n 0, 1) := by decide +kernel
theorem dL_scene_95 : decode cL_scene 95 = .ok (.invokestatic 202, 3) := by decide +kernel
theorem dL_scene_98 : decode cL_scene 98 = .ok (.istore 7, 2) := by decide +kernel
theorem dL_scene_100 : decode cL_scene 100 = .ok (.aload_n 0, 1) := by decide +kernel
theorem dL_scene_101 : decode cL_scene 101 = .ok (.iconst 2, 1) := by decide +kernel
theorem dL_scene_102 : decode cL_scene 102 = .ok (.bipush 7, 2) := by decide +kernel
theorem dL_scene_104 : decode cL_scene 104 = .ok (.iconst 0, 1) := by decide +kernel
theorem dL_scene_105 : decode cL_scene 105 = .ok (.iconst 0, 1) := by decide +kernel
theorem dL_scene_106 : decode cL_scene 106 = .ok (.invokestatic 144, 3) := by decide +kernel
theorem dL_scene_109 : decode cL_scene 109 = .ok (.istore 8, 2) := by decide +kernel
theorem dL_scene_111 : decode cL_scene 111 = .ok (.aload_n 0, 1) := by decide +kernel
theorem dL_scene_112 : decode cL_scene 112 = .ok (.iconst 2, 1) := by decide +kernel
theorem dL_scene_113 : decode cL_scene 113 = .ok (.iconst 2, 1) := by decide +kernel
theorem dL_scene_114 : decode cL_scene 114 = .ok (.iconst 0, 1) := by decide +kernel
theorem dL_scene_115 : decode cL_scene 115 = .ok (.iconst 0, 1) := by decide +kernel
theorem dL_scene_116 : decode cL_scene 116 = .ok (.invokestatic 144, 3) := by decide +kernel
theorem dL_scene_119 : decode cL_scene 119 = .ok (.istore 9, 2) := by decide +kernel
theorem dL_scene_121 : decode cL_scene 121 = .ok (.aload_n 0, 1) := by decide +kernel
theorem dL_scene_122 : decode cL_scene 122 = .ok (.bipush 7, 2) := by decide +kernel
theorem dL_scene_124 : decode cL_scene 124 = .ok (.iload_n 3, 1) := by decide +kernel
theorem dL_scene_125 : decode cL_scene 125 = .ok (.iconst 0, 1) := by decide +kernel
theorem dL_scene_126 : decode cL_scene 126 = .ok (.iconst 0, 1) := by decide +kernel
theorem dL_scene_127 : decode cL_scene 127 = .ok (.invokestatic 144, 3) := by decide +kernel
theorem dL_scene_130 : decode cL_scene 130 = .ok (.iload 4, 2) := by decide +kernel
theorem dL_scene_132 : decode cL_scene 132 = .ok (.if_icmp .ne 93, 3) := by decide +kernel
theorem dL_scene_135 : decode cL_scene 135 = .ok (.aload_n 1, 1) := by decide +kernel
theorem dL_scene_136 : decode cL_scene 136 = .ok (.bipush 7, 2) := by decide +kernel
theorem dL_scene_138 : decode cL_scene 138 = .ok (.iload_n 3, 1) := by decide +kernel
theorem dL_scene_139 : decode cL_scene 139 = .ok (.iconst 0, 1) := by decide +kernel
theorem dL_scene_140 : decode cL_scene 140 = .ok (.iconst 0, 1) := by decide +kernel
