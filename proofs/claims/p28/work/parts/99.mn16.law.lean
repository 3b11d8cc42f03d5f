/-! ===== names of the law, printed ===== -/
theorem dL_scene_141 : decode cL_scene 141 = .ok (.invokestatic 144, 3) := by decide +kernel
theorem dL_scene_144 : decode cL_scene 144 = .ok (.iload 4, 2) := by decide +kernel
theorem dL_scene_146 : decode cL_scene 146 = .ok (.if_icmp .ne 79, 3) := by decide +kernel
theorem dL_scene_149 : decode cL_scene 149 = .ok (.aload_n 0, 1) := by decide +kernel
theorem dL_scene_150 : decode cL_scene 150 = .ok (.invokestatic 202, 3) := by decide +kernel
theorem dL_scene_153 : decode cL_scene 153 = .ok (.iload 7, 2) := by decide +kernel
theorem dL_scene_155 : decode cL_scene 155 = .ok (.iload 5, 2) := by decide +kernel
theorem dL_scene_157 : decode cL_scene 157 = .ok (.iadd, 1) := by decide +kernel
theorem dL_scene_158 : decode cL_scene 158 = .ok (.if_icmp .ne 67, 3) := by decide +kernel
theorem dL_scene_161 : decode cL_scene 161 = .ok (.aload_n 0, 1) := by decide +kernel
theorem dL_scene_162 : decode cL_scene 162 = .ok (.iconst 2, 1) := by decide +kernel
theorem dL_scene_163 : decode cL_scene 163 = .ok (.bipush 7, 2) := by decide +kernel
theorem dL_scene_165 : decode cL_scene 165 = .ok (.iconst 0, 1) := by decide +kernel
theorem dL_scene_166 : decode cL_scene 166 = .ok (.iconst 0, 1) := by decide +kernel
theorem dL_scene_167 : decode cL_scene 167 = .ok (.invokestatic 144, 3) := by decide +kernel
theorem dL_scene_170 : decode cL_scene 170 = .ok (.iload 8, 2) := by decide +kernel
theorem dL_scene_172 : decode cL_scene 172 = .ok (.iload 6, 2) := by decide +kernel
theorem dL_scene_174 : decode cL_scene 174 = .ok (.iadd, 1) := by decide +kernel
theorem dL_scene_175 : decode cL_scene 175 = .ok (.if_icmp .ne 50, 3) := by decide +kernel
theorem dL_scene_178 : decode cL_scene 178 = .ok (.aload_n 0, 1) := by decide +kernel
theorem dL_scene_179 : decode cL_scene 179 = .ok (.iconst 2, 1) := by decide +kernel
theorem dL_scene_180 : decode cL_scene 180 = .ok (.iconst 2, 1) := by decide +kernel
theorem dL_scene_181 : decode cL_scene 181 = .ok (.iconst 0, 1) := by decide +kernel
theorem dL_scene_182 : decode cL_scene 182 = .ok (.iconst 0, 1) := by decide +kernel
theorem dL_scene_183 : decode cL_scene 183 = .ok (.invokestatic 144, 3) := by decide +kernel
theorem dL_scene_186 : decode cL_scene 186 = .ok (.iload 9, 2) := by decide +kernel
theorem dL_scene_188 : decode cL_scene 188 = .ok (.iconst 1, 1) := by decide +kernel
theorem dL_scene_189 : decode cL_scene 189 = .ok (.iadd, 1) := by decide +kernel
theorem dL_scene_190 : decode cL_scene 190 = .ok (.if_icmp .ne 35, 3) := by decide +kernel
theorem dL_scene_193 : decode cL_scene 193 = .ok (.aload_n 0, 1) := by decide +kernel
theorem dL_scene_194 : decode cL_scene 194 = .ok (.iconst 4, 1) := by decide +kernel
theorem dL_scene_195 : decode cL_scene 195 = .ok (.iload_n 3, 1) := by decide +kernel
theorem dL_scene_196 : decode cL_scene 196 = .ok (.bipush 6, 2) := by decide +kernel
theorem dL_scene_198 : decode cL_scene 198 = .ok (.iconst 0, 1) := by decide +kernel
theorem dL_scene_199 : decode cL_scene 199 = .ok (.invokestatic 144, 3) := by decide +kernel
theorem dL_scene_202 : decode cL_scene 202 = .ok (.iload 4, 2) := by decide +kernel
theorem dL_scene_204 : decode cL_scene 204 = .ok (.if_icmp .ne 21, 3) := by decide +kernel
theorem dL_scene_207 : decode cL_scene 207 = .ok (.aload_n 0, 1) := by decide +kernel
theorem dL_scene_208 : decode cL_scene 208 = .ok (.bipush 7, 2) := by decide +kernel
theorem dL_scene_210 : decode cL_scene 210 = .ok (.iload_n 3, 1) := by decide +kernel
theorem dL_scene_211 : decode cL_scene 211 = .ok (.iconst 0, 1) := by decide +kernel
theorem dL_scene_212 : decode cL_scene 212 = .ok (.iconst 0, 1) := by decide +kernel
theorem dL_scene_213 : decode cL_scene 213 = .ok (.invokestatic 144, 3) := by decide +kernel
theorem dL_scene_216 : decode cL_scene 216 = .ok (.ldc 18, 2) := by decide +kernel
theorem dL_scene_218 : decode cL_scene 218 = .ok (.if_icmp .ne 7, 3) := by decide +kernel
theorem dL_scene_221 : decode cL_scene 221 = .ok (.iconst 1, 1) := by decide +kernel
theorem dL_scene_222 : decode cL_scene 222 = .ok (.goto 4, 3) := by decide +kernel
theorem dL_scene_225 : decode cL_scene 225 = .ok (.iconst 0, 1) := by decide +kernel
theorem dL_scene_226 : decode cL_scene 226 = .ok (.istore 10, 2) := by decide +kernel
theorem dL_scene_228 : decode cL_scene 228 = .ok (.iload 10, 2) := by decide +kernel
theorem dL_scene_230 : decode cL_scene 230 = .ok (.ifCond .eq 60, 3) := by decide +kernel
theorem dL_scene_233 : decode cL_scene 233 = .ok (.aload_n 0, 1) := by decide +kernel
theorem dL_scene_234 : decode cL_scene 234 = .ok (.bipush 10, 2) := by decide +kernel
theorem dL_scene_236 : decode cL_scene 236 = .ok (.iconst 0, 1) := by decide +kernel
theorem dL_scene_237 : decode cL_scene 237 = .ok (.iconst 0, 1) := by decide +kernel
theorem dL_scene_238 : decode cL_scene 238 = .ok (.iconst 0, 1) := by decide +kernel
theorem dL_scene_239 : decode cL_scene 239 = .ok (.invokestatic 144, 3) := by decide +kernel
theorem dL_scene_242 : decode cL_scene 242 = .ok (.invokestatic 205, 3) := by decide +kernel
theorem dL_scene_245 : decode cL_scene 245 = .ok (.ifCond .ne 45, 3) := by decide +kernel
theorem dL_scene_248 : decode cL_scene 248 = .ok (.aload_n 1, 1) := by decide +kernel
theorem dL_scene_249 : decode cL_scene 249 = .ok (.bipush 10, 2) := by decide +kernel
theorem dL_scene_251 : decode cL_scene 251 = .ok (.iconst 0, 1) := by decide +kernel
theorem dL_scene_252 : decode cL_scene 252 = .ok (.iconst 0, 1) := by decide +kernel
theorem dL_scene_253 : decode cL_scene 253 = .ok (.iconst 0, 1) := by decide +kernel
theorem dL_scene_254 : decode cL_scene 254 = .ok (.invokestatic 144, 3) := by decide +kernel
theorem dL_scene_257 : decode cL_scene 257 = .ok (.invokestatic 205, 3) := by decide +kernel
theorem dL_scene_260 : decode cL_scene 260 = .ok (.ifCond .ne 30, 3) := by decide +kernel
theorem dL_scene_263 : decode cL_scene 263 = .ok (.aload_n 0, 1) := by decide +kernel
theorem dL_scene_264 : decode cL_scene 264 = .ok (.invokestatic 202, 3) := by decide +kernel
theorem dL_scene_267 : decode cL_scene 267 = .ok (.iload 7, 2) := by decide +kernel
theorem dL_scene_269 : decode cL_scene 269 = .ok (.if_icmp .ne 21, 3) := by decide +kernel
theorem dL_scene_272 : decode cL_scene 272 = .ok (.aload_n 0, 1) := by decide +kernel
theorem dL_scene_273 : decode cL_scene 273 = .ok (.bipush 11, 2) := by decide +kernel
theorem dL_scene_275 : decode cL_scene 275 = .ok (.iload_n 3, 1) := by decide +kernel
theorem dL_scene_276 : decode cL_scene 276 = .ok (.iconst 0, 1) := by decide +kernel
theorem dL_scene_277 : decode cL_scene 277 = .ok (.iconst 0, 1) := by decide +kernel
theorem dL_scene_278 : decode cL_scene 278 = .ok (.invokestatic 144, 3) := by decide +kernel
theorem dL_scene_281 : decode cL_scene 281 = .ok (.iload 4, 2) := by decide +kernel
theorem dL_scene_283 : decode cL_scene 283 = .ok (.if_icmp .ne 7, 3) := by decide +kernel
theorem dL_scene_286 : decode cL_scene 286 = .ok (.iconst 1, 1) := by decide +kernel
theorem dL_scene_287 : decode cL_scene 287 = .ok (.goto 4, 3) := by decide +kernel
theorem dL_scene_290 : decode cL_scene 290 = .ok (.iconst 0, 1) := by decide +kernel
theorem dL_scene_291 : decode cL_scene 291 = .ok (.ireturn, 1) := by decide +kernel
set_option maxRecDepth 20000 in
theorem ggL_price_L_spent : GoodIn wsL_price wsL_spent := goodIn_ca (goodIn_ca (goodIn_ca (goodIn_r _ [5, 6, 7, 4, 8, 9, 10, 11, 12, 13, 14, 1, 15, 16, 17, 18, 19, 20, 21, 22, 23, 24, 25, 26, 27, 28, 29, 30, 31, 32, 33, 34, 35, 36, 37, 38, 39, 40, 41, 42, 43, 44, 45, 46, 47, 48, 49, 50, 51, 52, 53, 54, 55, 56, 57, 58, 59, 60, 61, 62, 63, 64, 65, 66, 67, 68, 69, 70, 71, 72, 73, 74, 75, 76, 77, 78, 79, 80, 81, 82, 83, 84, 85, 86, 87, 88, 89, 90, 91, 92, 93, 94, 95, 96, 97, 98, 99, 100, 101, 102, 103, 104, 105, 106, 107, 108, 109, 110, 111, 112, 113, 114, 115, 116, 117, 118, 119, 120, 121, 122, 123, 124, 125, 126, 127, 128, 129, 130, 131, 132, 133, 134, 135, 136, 137, 138, 139, 140, 141, 142, 143, 144, 145, 146, 147, 148, 149, 150, 151, 152, 153, 154, 155, 156, 157, 158, 159, 160, 161, 162, 163, 164, 165, 166, 167, 168, 169, 170, 171, 172, 173, 174, 175, 176, 177, 178, 179, 180, 181, 182, 183, 184, 185, 186, 187, 188, 189, 190, 191, 192, 193, 194, 195, 196, 197, 198, 199, 200, 201, 202, 203, 204, 205, 206, 207, 208, 209, 210, 211, 212, 213, 214, 215, 216, 217, 218, 219, 220, 221, 222, 223, 224, 225, 226, 227, 228, 229, 230, 231, 232, 233, 234, 235, 236, 237, 238, 239, 240, 241, 242, 243, 244, 245, 246, 247, 248, 249, 250, 251, 252, 253, 254, 255, 256, 257, 258, 259, 260, 261, 262, 263, 264, 265, 266, 267, 268, 269, 270, 271, 272, 273, 274, 275, 276, 277, 278, 279, 280, 281, 282, 283, 284, 285, 286, 287, 288, 289, 290, 291, 292, 293, 294, 295, 296, 297, 298, 299, 300, 301, 302, 303, 304, 305, 306, 307, 308, 309, 310, 311, 312, 313, 314, 315, 316, 317, 318, 319, 320, 321, 322, 323, 324, 325, 326, 327, 328, 329, 330, 331, 332, 333, 334, 335, 336, 337, 338, 339, 340, 341, 342, 343, 344, 345, 346, 347, 348, 349, 350, 351, 352, 353, 354, 355, 356, 357, 358, 359, 360, 361, 362, 363, 364, 365, 366, 367, 368, 369, 370, 371, 372, 373, 374, 375, 376, 377, 378, 379, 380, 381, 382, 383, 384, 385, 386, 387, 388, 389, 390, 391, 392, 393, 394, 395, 396, 397, 398, 399, 400, 401, 402, 403, 404, 405, 406, 407, 408, 409, 410, 411, 412, 413, 414, 415, 416, 417, 418, 419, 420, 421, 422, 423, 424, 425, 426, 427, 428, 429, 430, 431, 432, 433, 434, 435, 436, 437, 438, 439, 440, 441, 442, 443, 444, 445, 446, 447, 448, 449, 450, 451, 452, 453, 454, 455, 456, 457, 458, 459, 460, 461, 462, 463, 464, 465, 466, 467, 468, 469, 470, 471, 472, 473, 474, 475, 476, 477, 478, 479, 480, 481, 482, 483, 484, 485, 486, 490, 491, 492, 493, 494, 495, 496, 497, 498, 499, 500, 501, 502, 503, 504, 505, 506, 507, 508, 509, 510, 511, 512, 513, 514] (by decide +kernel) (by decide +kernel)) (goodIn_sub (fun _ h => List.mem_cons_of_mem _ (List.mem_append_left _ (List.mem_append_left _ (List.mem_append_right _ h)))) (by decide +kernel))) (goodIn_sub (fun _ h => List.mem_cons_of_mem _ (List.mem_append_left _ (List.mem_append_right _ h))) (by decide +kernel))) (goodIn_sub (fun _ h => List.mem_cons_of_mem _ (List.mem_append_right _ h)) (by decide +kernel))
set_option maxRecDepth 20000 in
theorem gL_price_L_spent : GoodIn wsL_price (va_wsS RL 202 yL_spent wsL_spent) := goodIn_app (goodIn_of _ (by decide +kernel)) ggL_price_L_spent
set_option maxRecDepth 20000 in
theorem ggL_price_L_call : GoodIn wsL_price wsL_call := goodIn_ca (goodIn_ca (goodIn_ca (goodIn_r _ [8, 9, 10, 4, 11, 12, 13, 14, 1, 15, 16, 17, 18, 19, 20, 21, 22, 23, 24, 25, 26, 27, 28, 29, 30, 31, 32, 33, 34, 35, 36, 37, 38, 39, 40, 41, 42, 43, 44, 45, 46, 47, 48, 49, 50, 51, 52, 53, 54, 55, 56, 57, 58, 59, 60, 61, 62, 63, 64, 65, 66, 67, 68, 69, 70, 71, 72, 73, 74, 75, 76, 77, 78, 79, 80, 81, 82, 83, 84, 85, 86, 87, 88, 89, 90, 91, 92, 93, 94, 95, 96, 97, 98, 99, 100, 101, 102, 103, 104, 105, 106, 107, 108, 109, 110, 111, 112, 113, 114, 115, 116, 117, 118, 119, 120, 121, 122, 123, 124, 125, 126, 127, 128, 129, 130, 131, 132, 133, 134, 135, 136, 137, 138, 139, 140, 141, 142, 143, 144, 145, 146, 147, 148, 149, 150, 151, 152, 153, 154, 155, 156, 157, 158, 159, 160, 161, 162, 163, 164, 165, 166, 167, 168, 169, 170, 171, 172, 173, 174, 175, 176, 177, 178, 179, 180, 181, 182, 183, 184, 185, 186, 187, 188, 189, 190, 191, 192, 193, 194, 195, 196, 197, 198, 199, 200, 201, 202, 203, 204, 205, 206, 207, 208, 209, 210, 211, 212, 213, 214, 215, 216, 217, 218, 219, 220, 221, 222, 223, 224, 225, 226, 227, 228, 229, 230, 231, 232, 233, 234, 235, 236, 237, 238, 239, 240, 241, 242, 243, 244, 245, 246, 247, 248, 249, 250, 251, 252, 253, 254, 255, 256, 257, 258, 259, 260, 261, 262, 263, 264, 265, 266, 267, 268, 269, 270, 271, 272, 273, 274, 275, 276, 277, 278, 279, 280, 281, 282, 283, 284, 285, 286, 287, 288, 289, 290, 291, 292, 293, 294, 295, 296, 297, 298, 299, 300, 301, 302, 303, 304, 305, 306, 307, 308, 309, 310, 311, 312, 313, 314, 315, 316, 317, 318, 319, 320, 321, 322, 323, 324, 325, 326, 327, 328, 329, 330, 331, 332, 333, 334, 335, 336, 337, 338, 339, 340, 341, 342, 343, 344, 345, 346, 347, 348, 349, 350, 351, 352, 353, 354, 355, 356, 357, 358, 359, 360, 361, 362, 363, 364, 365, 366, 367, 368, 369, 370, 371, 372, 373, 374, 375, 376, 377, 378, 379, 380, 381, 382, 383, 384, 385, 386, 387, 388, 389, 390, 391, 392, 393, 394, 395, 396, 397, 398, 399, 400, 401, 402, 403, 404, 405, 406, 407, 408, 409, 410, 411, 412, 413, 414, 415, 416, 417, 418, 419, 420, 421, 422, 423, 424, 425, 426, 427, 428, 429, 430, 431, 432, 433, 434, 435, 436, 437, 438, 439, 440, 441, 442, 443, 444, 445, 446, 447, 448, 449, 450, 451, 452, 453, 454, 455, 456, 457, 458, 459, 460, 461, 462, 463, 464, 465, 466, 467, 468, 469, 470, 471, 472, 473, 474, 475, 476, 477, 478, 479, 480, 481, 482, 483, 484, 485, 486, 490, 491, 492, 493, 494, 495, 496, 497, 498, 499, 500, 501, 502, 503, 504, 505, 506, 507, 508, 509, 510, 511, 512, 513, 514] (by decide +kernel) (by decide +kernel)) (goodIn_sub (fun _ h => List.mem_cons_of_mem _ (List.mem_append_left _ (List.mem_append_left _ (List.mem_append_right _ h)))) (by decide +kernel))) (goodIn_sub (fun _ h => List.mem_cons_of_mem _ (List.mem_append_left _ (List.mem_append_right _ h))) (by decide +kernel))) (goodIn_sub (fun _ h => List.mem_cons_of_mem _ (List.mem_append_right _ h)) (by decide +kernel))
set_option maxRecDepth 20000 in
theorem gL_price_L_call : GoodIn wsL_price (va_wsS RL 144 yL_call wsL_call) := goodIn_app (goodIn_of _ (by decide +kernel)) ggL_price_L_call
set_option maxRecDepth 20000 in
theorem ggL_price_L_thrown : GoodIn wsL_price wsL_thrown := goodIn_r _ [489, 268, 14, 1] (by decide +kernel) (by decide +kernel)
set_option maxRecDepth 20000 in
theorem gL_price_L_thrown : GoodIn wsL_price (va_wsS RL 205 yL_thrown wsL_thrown) := goodIn_app (goodIn_of _ (by decide +kernel)) ggL_price_L_thrown
theorem dL_price_0 : decode cL_price 0 = .ok (.aload_n 0, 1) := by decide +kernel
theorem dL_price_1 : decode cL_price 1 = .ok (.invokestatic 202, 3) := by decide +kernel
theorem dL_price_4 : decode cL_price 4 = .ok (.istore_n 3, 1) := by decide +kernel
theorem dL_price_5 : decode cL_price 5 = .ok (.aload_n 0, 1) := by decide +kernel
theorem dL_price_6 : decode cL_price 6 = .ok (.bipush 7, 2) := by decide +kernel
theorem dL_price_8 : decode cL_price 8 = .ok (.iload_n 1, 1) := by decide +kernel
theorem dL_price_9 : decode cL_price 9 = .ok (.iconst 0, 1) := by decide +kernel
theorem dL_price_10 : decode cL_price 10 = .ok (.iconst 0, 1) := by decide +kernel
theorem dL_price_11 : decode cL_price 11 = .ok (.invokestatic 144, 3) := by decide +kernel
theorem dL_price_14 : decode cL_price 14 = .ok (.istore 4, 2) := by decide +kernel
theorem dL_price_16 : decode cL_price 16 = .ok (.iload 4, 2) := by decide +kernel
theorem dL_price_18 : decode cL_price 18 = .ok (.ldc 18, 2) := by decide +kernel
theorem dL_price_20 : decode cL_price 20 = .ok (.if_icmp .ne 8, 3) := by decide +kernel
theorem dL_price_23 : decode cL_price 23 = .ok (.ldc 18, 2) := by decide +kernel
theorem dL_price_25 : decode cL_price 25 = .ok (.goto 12, 3) := by decide +kernel
theorem dL_price_28 : decode cL_price 28 = .ok (.aload_n 0, 1) := by decide +kernel
