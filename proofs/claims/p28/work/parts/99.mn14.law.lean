/-! ===== names of the law, printed ===== -/
theorem dL_alike_49 : decode cL_alike 49 = .ok (.bipush 14, 2) := by decide +kernel
theorem dL_alike_51 : decode cL_alike 51 = .ok (.if_icmp .ge 159, 3) := by decide +kernel
theorem dL_alike_54 : decode cL_alike 54 = .ok (.iload_n 3, 1) := by decide +kernel
theorem dL_alike_55 : decode cL_alike 55 = .ok (.ifCond .eq 155, 3) := by decide +kernel
theorem dL_alike_58 : decode cL_alike 58 = .ok (.aload_n 0, 1) := by decide +kernel
theorem dL_alike_59 : decode cL_alike 59 = .ok (.iconst 2, 1) := by decide +kernel
theorem dL_alike_60 : decode cL_alike 60 = .ok (.iload 4, 2) := by decide +kernel
theorem dL_alike_62 : decode cL_alike 62 = .ok (.iconst 0, 1) := by decide +kernel
theorem dL_alike_63 : decode cL_alike 63 = .ok (.iconst 0, 1) := by decide +kernel
theorem dL_alike_64 : decode cL_alike 64 = .ok (.invokestatic 144, 3) := by decide +kernel
theorem dL_alike_67 : decode cL_alike 67 = .ok (.aload_n 1, 1) := by decide +kernel
theorem dL_alike_68 : decode cL_alike 68 = .ok (.iconst 2, 1) := by decide +kernel
theorem dL_alike_69 : decode cL_alike 69 = .ok (.iload 4, 2) := by decide +kernel
theorem dL_alike_71 : decode cL_alike 71 = .ok (.iconst 0, 1) := by decide +kernel
theorem dL_alike_72 : decode cL_alike 72 = .ok (.iconst 0, 1) := by decide +kernel
theorem dL_alike_73 : decode cL_alike 73 = .ok (.invokestatic 144, 3) := by decide +kernel
theorem dL_alike_76 : decode cL_alike 76 = .ok (.if_icmp .ne 126, 3) := by decide +kernel
theorem dL_alike_79 : decode cL_alike 79 = .ok (.aload_n 0, 1) := by decide +kernel
theorem dL_alike_80 : decode cL_alike 80 = .ok (.iconst 5, 1) := by decide +kernel
theorem dL_alike_81 : decode cL_alike 81 = .ok (.iload 4, 2) := by decide +kernel
theorem dL_alike_83 : decode cL_alike 83 = .ok (.iconst 0, 1) := by decide +kernel
theorem dL_alike_84 : decode cL_alike 84 = .ok (.iconst 0, 1) := by decide +kernel
theorem dL_alike_85 : decode cL_alike 85 = .ok (.invokestatic 144, 3) := by decide +kernel
theorem dL_alike_88 : decode cL_alike 88 = .ok (.aload_n 1, 1) := by decide +kernel
theorem dL_alike_89 : decode cL_alike 89 = .ok (.iconst 5, 1) := by decide +kernel
theorem dL_alike_90 : decode cL_alike 90 = .ok (.iload 4, 2) := by decide +kernel
theorem dL_alike_92 : decode cL_alike 92 = .ok (.iconst 0, 1) := by decide +kernel
theorem dL_alike_93 : decode cL_alike 93 = .ok (.iconst 0, 1) := by decide +kernel
theorem dL_alike_94 : decode cL_alike 94 = .ok (.invokestatic 144, 3) := by decide +kernel
theorem dL_alike_97 : decode cL_alike 97 = .ok (.if_icmp .ne 105, 3) := by decide +kernel
theorem dL_alike_100 : decode cL_alike 100 = .ok (.aload_n 0, 1) := by decide +kernel
theorem dL_alike_101 : decode cL_alike 101 = .ok (.iconst 3, 1) := by decide +kernel
theorem dL_alike_102 : decode cL_alike 102 = .ok (.iload 4, 2) := by decide +kernel
theorem dL_alike_104 : decode cL_alike 104 = .ok (.iconst 3, 1) := by decide +kernel
theorem dL_alike_105 : decode cL_alike 105 = .ok (.iconst 0, 1) := by decide +kernel
theorem dL_alike_106 : decode cL_alike 106 = .ok (.invokestatic 144, 3) := by decide +kernel
theorem dL_alike_109 : decode cL_alike 109 = .ok (.aload_n 1, 1) := by decide +kernel
theorem dL_alike_110 : decode cL_alike 110 = .ok (.iconst 3, 1) := by decide +kernel
theorem dL_alike_111 : decode cL_alike 111 = .ok (.iload 4, 2) := by decide +kernel
theorem dL_alike_113 : decode cL_alike 113 = .ok (.iconst 3, 1) := by decide +kernel
theorem dL_alike_114 : decode cL_alike 114 = .ok (.iconst 0, 1) := by decide +kernel
theorem dL_alike_115 : decode cL_alike 115 = .ok (.invokestatic 144, 3) := by decide +kernel
theorem dL_alike_118 : decode cL_alike 118 = .ok (.if_icmp .ne 84, 3) := by decide +kernel
theorem dL_alike_121 : decode cL_alike 121 = .ok (.aload_n 0, 1) := by decide +kernel
theorem dL_alike_122 : decode cL_alike 122 = .ok (.iconst 3, 1) := by decide +kernel
theorem dL_alike_123 : decode cL_alike 123 = .ok (.iload 4, 2) := by decide +kernel
theorem dL_alike_125 : decode cL_alike 125 = .ok (.iload_n 2, 1) := by decide +kernel
theorem dL_alike_126 : decode cL_alike 126 = .ok (.bipush 7, 2) := by decide +kernel
theorem dL_alike_128 : decode cL_alike 128 = .ok (.irem, 1) := by decide +kernel
theorem dL_alike_129 : decode cL_alike 129 = .ok (.iconst 0, 1) := by decide +kernel
theorem dL_alike_130 : decode cL_alike 130 = .ok (.invokestatic 144, 3) := by decide +kernel
theorem dL_alike_133 : decode cL_alike 133 = .ok (.aload_n 1, 1) := by decide +kernel
theorem dL_alike_134 : decode cL_alike 134 = .ok (.iconst 3, 1) := by decide +kernel
theorem dL_alike_135 : decode cL_alike 135 = .ok (.iload 4, 2) := by decide +kernel
theorem dL_alike_137 : decode cL_alike 137 = .ok (.iload_n 2, 1) := by decide +kernel
theorem dL_alike_138 : decode cL_alike 138 = .ok (.bipush 7, 2) := by decide +kernel
theorem dL_alike_140 : decode cL_alike 140 = .ok (.irem, 1) := by decide +kernel
theorem dL_alike_141 : decode cL_alike 141 = .ok (.iconst 0, 1) := by decide +kernel
theorem dL_alike_142 : decode cL_alike 142 = .ok (.invokestatic 144, 3) := by decide +kernel
theorem dL_alike_145 : decode cL_alike 145 = .ok (.if_icmp .ne 57, 3) := by decide +kernel
theorem dL_alike_148 : decode cL_alike 148 = .ok (.aload_n 0, 1) := by decide +kernel
theorem dL_alike_149 : decode cL_alike 149 = .ok (.iconst 4, 1) := by decide +kernel
theorem dL_alike_150 : decode cL_alike 150 = .ok (.iload 4, 2) := by decide +kernel
theorem dL_alike_152 : decode cL_alike 152 = .ok (.bipush 6, 2) := by decide +kernel
theorem dL_alike_154 : decode cL_alike 154 = .ok (.iconst 0, 1) := by decide +kernel
theorem dL_alike_155 : decode cL_alike 155 = .ok (.invokestatic 144, 3) := by decide +kernel
theorem dL_alike_158 : decode cL_alike 158 = .ok (.aload_n 1, 1) := by decide +kernel
theorem dL_alike_159 : decode cL_alike 159 = .ok (.iconst 4, 1) := by decide +kernel
theorem dL_alike_160 : decode cL_alike 160 = .ok (.iload 4, 2) := by decide +kernel
theorem dL_alike_162 : decode cL_alike 162 = .ok (.bipush 6, 2) := by decide +kernel
theorem dL_alike_164 : decode cL_alike 164 = .ok (.iconst 0, 1) := by decide +kernel
theorem dL_alike_165 : decode cL_alike 165 = .ok (.invokestatic 144, 3) := by decide +kernel
theorem dL_alike_168 : decode cL_alike 168 = .ok (.if_icmp .ne 34, 3) := by decide +kernel
theorem dL_alike_171 : decode cL_alike 171 = .ok (.aload_n 0, 1) := by decide +kernel
theorem dL_alike_172 : decode cL_alike 172 = .ok (.iconst 4, 1) := by decide +kernel
theorem dL_alike_173 : decode cL_alike 173 = .ok (.iload 4, 2) := by decide +kernel
theorem dL_alike_175 : decode cL_alike 175 = .ok (.iload_n 2, 1) := by decide +kernel
theorem dL_alike_176 : decode cL_alike 176 = .ok (.bipush 9, 2) := by decide +kernel
theorem dL_alike_178 : decode cL_alike 178 = .ok (.irem, 1) := by decide +kernel
theorem dL_alike_179 : decode cL_alike 179 = .ok (.iconst 0, 1) := by decide +kernel
theorem dL_alike_180 : decode cL_alike 180 = .ok (.invokestatic 144, 3) := by decide +kernel
theorem dL_alike_183 : decode cL_alike 183 = .ok (.aload_n 1, 1) := by decide +kernel
theorem dL_alike_184 : decode cL_alike 184 = .ok (.iconst 4, 1) := by decide +kernel
theorem dL_alike_185 : decode cL_alike 185 = .ok (.iload 4, 2) := by decide +kernel
theorem dL_alike_187 : decode cL_alike 187 = .ok (.iload_n 2, 1) := by decide +kernel
theorem dL_alike_188 : decode cL_alike 188 = .ok (.bipush 9, 2) := by decide +kernel
theorem dL_alike_190 : decode cL_alike 190 = .ok (.irem, 1) := by decide +kernel
theorem dL_alike_191 : decode cL_alike 191 = .ok (.iconst 0, 1) := by decide +kernel
theorem dL_alike_192 : decode cL_alike 192 = .ok (.invokestatic 144, 3) := by decide +kernel
theorem dL_alike_195 : decode cL_alike 195 = .ok (.if_icmp .ne 7, 3) := by decide +kernel
theorem dL_alike_198 : decode cL_alike 198 = .ok (.iconst 1, 1) := by decide +kernel
theorem dL_alike_199 : decode cL_alike 199 = .ok (.goto 4, 3) := by decide +kernel
theorem dL_alike_202 : decode cL_alike 202 = .ok (.iconst 0, 1) := by decide +kernel
theorem dL_alike_203 : decode cL_alike 203 = .ok (.istore_n 3, 1) := by decide +kernel
theorem dL_alike_204 : decode cL_alike 204 = .ok (.iinc 4 1, 3) := by decide +kernel
theorem dL_alike_207 : decode cL_alike 207 = .ok (.goto (-160), 3) := by decide +kernel
theorem dL_alike_210 : decode cL_alike 210 = .ok (.iload_n 3, 1) := by decide +kernel
theorem dL_alike_211 : decode cL_alike 211 = .ok (.ireturn, 1) := by decide +kernel
set_option maxRecDepth 20000 in
theorem ggL_spent_L_call : GoodIn wsL_spent wsL_call := goodIn_ca (goodIn_ca (goodIn_ca (goodIn_r _ [4, 5, 6, 3, 7, 8, 9, 10, 11, 12, 13, 14, 15, 16, 17, 18, 19, 20, 21, 22, 23, 24, 25, 26, 27, 28, 29, 30, 31, 32, 33, 34, 35, 36, 37, 38, 39, 40, 41, 42, 43, 44, 45, 46, 47, 48, 49, 50, 51, 52, 53, 54, 55, 56, 57, 58, 59, 60, 61, 62, 63, 64, 65, 66, 67, 68, 69, 70, 71, 72, 73, 74, 75, 76, 77, 78, 79, 80, 81, 82, 83, 84, 85, 86, 87, 88, 89, 90, 91, 92, 93, 94, 95, 96, 97, 98, 99, 100, 101, 102, 103, 104, 105, 106, 107, 108, 109, 110, 111, 112, 113, 114, 115, 116, 117, 118, 119, 120, 121, 122, 123, 124, 125, 126, 127, 128, 129, 130, 131, 132, 133, 134, 135, 136, 137, 138, 139, 140, 141, 142, 143, 144, 145, 146, 147, 148, 149, 150, 151, 152, 153, 154, 155, 156, 157, 158, 159, 160, 161, 162, 163, 164, 165, 166, 167, 168, 169, 170, 171, 172, 173, 174, 175, 176, 177, 178, 179, 180, 181, 182, 183, 184, 185, 186, 187, 188, 189, 190, 191, 192, 193, 194, 195, 196, 197, 198, 199, 200, 201, 202, 203, 204, 205, 206, 207, 208, 209, 210, 211, 212, 213, 214, 215, 216, 217, 218, 219, 220, 221, 222, 223, 224, 225, 226, 227, 228, 229, 230, 231, 232, 233, 234, 235, 236, 237, 238, 239, 240, 241, 242, 243, 244, 245, 246, 247, 248, 249, 250, 251, 252, 253, 254, 255, 256, 257, 258, 259, 260, 261, 262, 263, 264, 265, 266, 267, 268, 269, 270, 271, 272, 273, 274, 275, 276, 277, 278, 279, 280, 281, 282, 283, 284, 285, 286, 287, 288, 289, 290, 291, 292, 293, 294, 295, 296, 297, 298, 299, 300, 301, 302, 303, 304, 305, 306, 307, 308, 309, 310, 311, 312, 313, 314, 315, 316, 317, 318, 319, 320, 321, 322, 323, 324, 325, 326, 327, 328, 329, 330, 331, 332, 333, 334, 335, 336, 337, 338, 339, 340, 341, 342, 343, 344, 345, 346, 347, 348, 349, 350, 351, 352, 353, 354, 355, 356, 357, 358, 359, 360, 361, 362, 363, 364, 365, 366, 367, 368, 369, 370, 371, 372, 373, 374, 375, 376, 377, 378, 379, 380, 381, 382, 383, 384, 385, 386, 387, 388, 389, 390, 391, 392, 393, 394, 395, 396, 397, 398, 399, 400, 401, 402, 403, 404, 405, 406, 407, 408, 409, 410, 411, 412, 413, 414, 415, 416, 417, 418, 419, 420, 421, 422, 423, 424, 425, 426, 427, 428, 429, 430, 431, 432, 433, 434, 435, 436, 437, 438, 439, 440, 441, 442, 443, 444, 445, 446, 447, 448, 449, 450, 451, 452, 453, 454, 455, 456, 457, 458, 459, 460, 461, 462, 463, 464, 465, 466, 467, 468, 469, 470, 471, 472, 473, 474, 475, 476, 477, 478, 479, 480, 481, 482, 483, 484, 485, 486, 487, 488, 489, 490, 491, 492, 493, 494, 495, 496, 497, 498, 499, 500, 501, 502, 503, 504, 505, 506, 507, 508] (by decide +kernel) (by decide +kernel)) (goodIn_sub (fun _ h => List.mem_cons_of_mem _ (List.mem_append_left _ (List.mem_append_left _ (List.mem_append_right _ h)))) (by decide +kernel))) (goodIn_sub (fun _ h => List.mem_cons_of_mem _ (List.mem_append_left _ (List.mem_append_right _ h))) (by decide +kernel))) (goodIn_sub (fun _ h => List.mem_cons_of_mem _ (List.mem_append_right _ h)) (by decide +kernel))
set_option maxRecDepth 20000 in
theorem gL_spent_L_call : GoodIn wsL_spent (va_wsS RL 144 yL_call wsL_call) := goodIn_app (goodIn_of _ (by decide +kernel)) ggL_spent_L_call
theorem dL_spent_0 : decode cL_spent 0 = .ok (.aload_n 0, 1) := by decide +kernel
theorem dL_spent_1 : decode cL_spent 1 = .ok (.iconst 2, 1) := by decide +kernel
theorem dL_spent_2 : decode cL_spent 2 = .ok (.iconst 4, 1) := by decide +kernel
theorem dL_spent_3 : decode cL_spent 3 = .ok (.iconst 0, 1) := by decide +kernel
theorem dL_spent_4 : decode cL_spent 4 = .ok (.iconst 0, 1) := by decide +kernel
