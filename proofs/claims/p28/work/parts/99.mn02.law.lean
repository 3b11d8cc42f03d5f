/-! ===== names of the law, printed ===== -/
theorem dL_tryKeep_9 : decode cL_tryKeep 9 = .ok (.ireturn, 1) := by decide +kernel
set_option maxRecDepth 20000 in
theorem ggL_tryBack_X7_restore : GoodIn wsL_tryBack wsX7_restore := goodIn_ca (goodIn_ca (goodIn_r _ [9, 10, 11, 12, 13, 8, 14, 15, 16, 17, 18, 19, 20, 21, 22, 23, 24, 25, 26, 27, 28, 29, 30, 31, 32, 33, 34, 35, 36, 37, 38, 39, 40, 41, 42, 43, 44, 45, 46, 47, 48, 49, 50, 51, 52, 53, 54, 55, 56, 57, 58, 59, 60, 61, 62, 63, 64, 65, 66, 67, 68, 69, 70, 71, 72, 73, 74, 75, 76, 77, 78, 79, 80, 81, 82, 83, 84, 85, 86, 87, 88, 89, 90, 91, 92, 93, 94, 95, 96, 97, 98, 99, 100, 101, 102, 103, 104] (by decide +kernel) (by decide +kernel)) (goodIn_sub (fun _ h => List.mem_cons_of_mem _ (List.mem_append_left _ (List.mem_append_right _ h))) (by decide +kernel))) (goodIn_sub (fun _ h => List.mem_cons_of_mem _ (List.mem_append_right _ h)) (by decide +kernel))
set_option maxRecDepth 20000 in
theorem gL_tryBack_X7_restore : GoodIn wsL_tryBack (wsV RL 82 RX7 yX7_restore wsX7_restore) := goodIn_app (goodIn_of _ (by decide +kernel)) ggL_tryBack_X7_restore
theorem dL_tryBack_0 : decode cL_tryBack 0 = .ok (.aload_n 0, 1) := by decide +kernel
theorem dL_tryBack_1 : decode cL_tryBack 1 = .ok (.iload_n 1, 1) := by decide +kernel
theorem dL_tryBack_2 : decode cL_tryBack 2 = .ok (.invokevirtual 82, 3) := by decide +kernel
theorem dL_tryBack_5 : decode cL_tryBack 5 = .ok (.ireturn, 1) := by decide +kernel
theorem dL_tryBack_6 : decode cL_tryBack 6 = .ok (.astore_n 2, 1) := by decide +kernel
theorem dL_tryBack_7 : decode cL_tryBack 7 = .ok (.ldc 44, 2) := by decide +kernel
theorem dL_tryBack_9 : decode cL_tryBack 9 = .ok (.ireturn, 1) := by decide +kernel
theorem dL_tryBack_10 : decode cL_tryBack 10 = .ok (.astore_n 2, 1) := by decide +kernel
theorem dL_tryBack_11 : decode cL_tryBack 11 = .ok (.ldc 18, 2) := by decide +kernel
theorem dL_tryBack_13 : decode cL_tryBack 13 = .ok (.ireturn, 1) := by decide +kernel
set_option maxRecDepth 20000 in
theorem ggL_call_L_tryAppend : GoodIn wsL_call wsL_tryAppend := goodIn_ca (goodIn_ca (goodIn_r _ [4, 5, 6, 7, 8, 9, 10, 11, 12, 13, 14, 15, 16, 17, 18, 19, 20, 21, 22, 23, 24, 25, 26, 27, 28, 29, 30, 31, 32, 33, 34, 35, 36, 37, 38, 39, 40, 41, 42, 43, 44, 45, 481, 482, 483, 484, 485, 486, 487, 488, 489, 490] (by decide +kernel) (by decide +kernel)) (goodIn_sub (fun _ h => List.mem_cons_of_mem _ (List.mem_append_left _ (List.mem_append_left _ (List.mem_append_right _ h)))) (by decide +kernel))) (goodIn_sub (fun _ h => List.mem_cons_of_mem _ (List.mem_append_left _ (List.mem_append_right _ h))) (by decide +kernel))
set_option maxRecDepth 20000 in
theorem gL_call_L_tryAppend : GoodIn wsL_call (va_wsS RL 85 yL_tryAppend wsL_tryAppend) := goodIn_app (goodIn_of _ (by decide +kernel)) ggL_call_L_tryAppend
set_option maxRecDepth 20000 in
theorem ggL_call_L_tryLoad : GoodIn wsL_call wsL_tryLoad := goodIn_ca (goodIn_r _ [48, 6, 8, 49, 50, 51, 12, 52, 14, 53, 54, 55, 56, 57, 58, 59, 26, 60, 28, 61, 62, 63, 64, 38, 65, 66, 67, 42, 68, 44, 45, 69, 70, 71, 72, 73, 74, 75, 76, 77, 78, 79, 80, 81, 82, 16, 17, 83, 84, 85, 86, 29, 30, 31, 32, 33, 87, 88, 89, 90, 91, 92, 93, 94, 95, 96, 97, 98, 99, 100, 101, 102, 103, 104, 105, 106, 40, 41, 43, 107, 108, 109, 110, 111, 112, 113, 114, 115, 116, 117, 118, 23, 24, 25, 27, 119, 120, 121, 122, 123, 124, 125, 126, 127, 128, 129, 130, 131, 132, 133, 134, 135, 136, 137, 138, 139, 140, 141, 142, 143, 144, 145, 146, 147, 148, 149, 150, 151, 152, 153, 154, 155, 156, 157, 158, 159, 160, 161, 162, 163, 164, 165, 166, 167, 168, 169, 170, 171, 172, 173, 174, 175, 176, 177, 178, 179, 180, 181, 182, 183, 184, 185, 186, 187, 188, 189, 190, 191, 192, 193, 194, 195, 196, 197, 198, 199, 200, 201, 202, 203, 204, 205, 206, 207, 208, 209, 210, 211, 212, 213, 214, 215, 216, 217, 218, 219, 220, 221, 222, 223, 224, 225, 226, 227, 228, 229, 230, 231, 232, 233, 234, 235, 236, 237, 238, 239, 240, 241, 242, 481, 482, 483, 484, 485, 486, 487, 488, 489, 490, 491, 492, 493, 494, 495, 496, 497, 498, 499, 500, 501, 502, 503, 504, 505] (by decide +kernel) (by decide +kernel)) (goodIn_sub (fun _ h => List.mem_cons_of_mem _ (List.mem_append_left _ (List.mem_append_right _ h))) (by decide +kernel))
set_option maxRecDepth 20000 in
theorem gL_call_L_tryLoad : GoodIn wsL_call (va_wsS RL 91 yL_tryLoad wsL_tryLoad) := goodIn_app (goodIn_of _ (by decide +kernel)) ggL_call_L_tryLoad
set_option maxRecDepth 20000 in
theorem ggL_call_L_tryAbout : GoodIn wsL_call wsL_tryAbout := goodIn_ca (goodIn_r _ [245, 5, 7, 246, 247, 248, 12, 249, 53, 15, 16, 17, 18, 19, 20, 21, 22, 250, 251, 252, 90, 253, 95, 96, 97, 98, 99, 100, 101, 254, 255, 256, 257, 156, 157, 158, 159, 93, 160, 66, 67, 42, 68, 44, 45, 177, 178, 179, 180, 92, 181, 182, 183, 184, 185, 186, 187, 188, 189, 481, 482, 483, 484, 485, 486, 491, 492, 493, 494, 495, 496, 497, 498, 499, 500, 489, 490] (by decide +kernel) (by decide +kernel)) (goodIn_sub (fun _ h => List.mem_cons_of_mem _ (List.mem_append_left _ (List.mem_append_left _ (List.mem_append_right _ h)))) (by decide +kernel))
set_option maxRecDepth 20000 in
theorem gL_call_L_tryAbout : GoodIn wsL_call (va_wsS RL 95 yL_tryAbout wsL_tryAbout) := goodIn_app (goodIn_of _ (by decide +kernel)) ggL_call_L_tryAbout
set_option maxRecDepth 20000 in
theorem ggL_call_L_tryExtra : GoodIn wsL_call wsL_tryExtra := goodIn_ca (goodIn_ca (goodIn_r _ [260, 261, 5, 262, 7, 263, 264, 265, 12, 266, 53, 267, 268, 269, 270, 271, 272, 273, 90, 274, 95, 275, 276, 277, 278, 279, 15, 16, 17, 18, 19, 20, 21, 22, 280, 281, 282, 283, 92, 284, 285, 286, 287, 96, 156, 157, 158, 159, 93, 160, 66, 67, 42, 68, 44, 45, 181, 182, 190, 191, 192, 193, 481, 482, 483, 484, 485, 486, 491, 492, 493, 494, 495, 496, 497, 498, 499, 500, 489, 490] (by decide +kernel) (by decide +kernel)) (goodIn_sub (fun _ h => List.mem_cons_of_mem _ (List.mem_append_right _ h)) (by decide +kernel))) (goodIn_sub (fun _ h => List.mem_cons_of_mem _ (List.mem_append_left _ (List.mem_append_left _ (List.mem_append_right _ h)))) (by decide +kernel))
set_option maxRecDepth 20000 in
theorem gL_call_L_tryExtra : GoodIn wsL_call (va_wsS RL 98 yL_tryExtra wsL_tryExtra) := goodIn_app (goodIn_of _ (by decide +kernel)) ggL_call_L_tryExtra
set_option maxRecDepth 20000 in
theorem ggL_call_L_tryScene : GoodIn wsL_call wsL_tryScene := goodIn_ca (goodIn_ca (goodIn_r _ [290, 261, 5, 262, 7, 291, 292, 293, 12, 294, 53, 295, 296, 297, 298, 299, 153, 154, 90, 155, 96, 275, 276, 277, 278, 279, 15, 16, 17, 18, 19, 20, 21, 22, 300, 301, 302, 303, 93, 156, 157, 158, 159, 160, 66, 67, 42, 68, 44, 45, 173, 174, 175, 176, 177, 178, 179, 180, 95, 92, 181, 182, 481, 482, 483, 484, 485, 486, 491, 492, 493, 494, 495, 496, 497, 498, 499, 500, 489, 490] (by decide +kernel) (by decide +kernel)) (goodIn_sub (fun _ h => List.mem_cons_of_mem _ (List.mem_append_right _ h)) (by decide +kernel))) (goodIn_sub (fun _ h => List.mem_cons_of_mem _ (List.mem_append_left _ (List.mem_append_left _ (List.mem_append_right _ h)))) (by decide +kernel))
set_option maxRecDepth 20000 in
theorem gL_call_L_tryScene : GoodIn wsL_call (va_wsS RL 102 yL_tryScene wsL_tryScene) := goodIn_app (goodIn_of _ (by decide +kernel)) ggL_call_L_tryScene
set_option maxRecDepth 20000 in
theorem ggL_call_L_trySetting : GoodIn wsL_call wsL_trySetting := goodIn_ca (goodIn_r _ [306, 5, 7, 307, 308, 309, 12, 310, 53, 15, 16, 17, 18, 19, 20, 21, 22, 311, 312, 313, 90, 314, 94, 160, 66, 67, 42, 68, 44, 45, 481, 482, 483, 484, 485, 486, 491, 492, 493, 494, 495, 496, 497, 498, 499, 500, 489, 490] (by decide +kernel) (by decide +kernel)) (goodIn_sub (fun _ h => List.mem_cons_of_mem _ (List.mem_append_left _ (List.mem_append_left _ (List.mem_append_right _ h)))) (by decide +kernel))
set_option maxRecDepth 20000 in
theorem gL_call_L_trySetting : GoodIn wsL_call (va_wsS RL 105 yL_trySetting wsL_trySetting) := goodIn_app (goodIn_of _ (by decide +kernel)) ggL_call_L_trySetting
set_option maxRecDepth 20000 in
theorem ggL_call_L_tryAdd : GoodIn wsL_call wsL_tryAdd := goodIn_ca (goodIn_ca (goodIn_r _ [317, 5, 6, 7, 8, 318, 319, 320, 12, 321, 53, 54, 15, 16, 17, 18, 19, 20, 21, 22, 322, 133, 134, 90, 135, 95, 29, 30, 31, 32, 33, 323, 324, 325, 110, 326, 112, 327, 328, 329, 330, 331, 332, 333, 334, 335, 336, 92, 93, 94, 96, 97, 98, 99, 100, 101, 337, 338, 339, 42, 340, 45, 128, 129, 130, 131, 132, 106, 40, 41, 43, 44, 481, 482, 483, 484, 485, 486, 491, 492, 493, 494, 495, 496, 497, 498, 499, 500, 501, 502, 503, 489, 490] (by decide +kernel) (by decide +kernel)) (goodIn_sub (fun _ h => List.mem_cons_of_mem _ (List.mem_append_left _ (List.mem_append_left _ (List.mem_append_right _ h)))) (by decide +kernel))) (goodIn_sub (fun _ h => List.mem_cons_of_mem _ (List.mem_append_left _ (List.mem_append_right _ h))) (by decide +kernel))
set_option maxRecDepth 20000 in
theorem gL_call_L_tryAdd : GoodIn wsL_call (va_wsS RL 108 yL_tryAdd wsL_tryAdd) := goodIn_app (goodIn_of _ (by decide +kernel)) ggL_call_L_tryAdd
set_option maxRecDepth 20000 in
theorem ggL_call_L_tryShoot : GoodIn wsL_call wsL_tryShoot := goodIn_ca (goodIn_ca (goodIn_r _ [343, 261, 6, 262, 8, 344, 345, 346, 12, 347, 53, 54, 295, 296, 297, 298, 299, 153, 154, 90, 155, 96, 275, 276, 277, 278, 279, 348, 149, 150, 151, 93, 152, 156, 157, 158, 159, 160, 66, 67, 42, 68, 44, 45, 161, 162, 163, 164, 165, 166, 167, 168, 95, 92, 169, 170, 171, 172, 94, 173, 174, 175, 176, 177, 178, 179, 180, 181, 182, 183, 184, 185, 186, 187, 188, 189, 190, 191, 192, 193, 194, 195, 196, 197, 29, 30, 31, 32, 33, 323, 324, 325, 110, 326, 112, 327, 328, 329, 330, 331, 332, 333, 334, 335, 336, 97, 98, 99, 100, 101, 337, 338, 339, 340, 349, 199, 200, 201, 202, 203, 204, 205, 206, 207, 208, 209, 210, 211, 212, 213, 214, 215, 216, 217, 218, 219, 220, 221, 222, 223, 224, 225, 226, 227, 228, 229, 40, 41, 43, 106, 481, 482, 483, 484, 485, 486, 491, 492, 493, 494, 495, 496, 497, 498, 499, 500, 489, 490, 501, 502, 503] (by decide +kernel) (by decide +kernel)) (goodIn_sub (fun _ h => List.mem_cons_of_mem _ (List.mem_append_right _ h)) (by decide +kernel))) (goodIn_sub (fun _ h => List.mem_cons_of_mem _ (List.mem_append_left _ (List.mem_append_right _ h))) (by decide +kernel))
set_option maxRecDepth 20000 in
theorem gL_call_L_tryShoot : GoodIn wsL_call (va_wsS RL 111 yL_tryShoot wsL_tryShoot) := goodIn_app (goodIn_of _ (by decide +kernel)) ggL_call_L_tryShoot
set_option maxRecDepth 20000 in
theorem ggL_call_L_tryReplace : GoodIn wsL_call wsL_tryReplace := goodIn_ca (goodIn_ca (goodIn_r _ [352, 261, 6, 262, 8, 353, 354, 355, 12, 356, 53, 54, 295, 296, 297, 298, 299, 153, 154, 90, 155, 96, 275, 276, 277, 278, 279, 267, 268, 269, 270, 271, 272, 273, 274, 95, 357, 358, 359, 360, 92, 152, 361, 156, 157, 158, 159, 93, 160, 66, 67, 42, 68, 44, 45, 181, 182, 165, 166, 167, 168, 177, 178, 179, 180, 173, 174, 175, 176, 29, 30, 31, 32, 33, 323, 324, 325, 110, 326, 112, 327, 328, 329, 330, 331, 332, 333, 334, 335, 336, 94, 97, 98, 99, 100, 101, 337, 338, 339, 340, 362, 363, 364, 365, 106, 40, 41, 43, 481, 482, 483, 484, 485, 486, 491, 492, 493, 494, 495, 496, 497, 498, 499, 500, 489, 490, 501, 502, 503] (by decide +kernel) (by decide +kernel)) (goodIn_sub (fun _ h => List.mem_cons_of_mem _ (List.mem_append_right _ h)) (by decide +kernel))) (goodIn_sub (fun _ h => List.mem_cons_of_mem _ (List.mem_append_left _ (List.mem_append_right _ h))) (by decide +kernel))
set_option maxRecDepth 20000 in
theorem gL_call_L_tryReplace : GoodIn wsL_call (va_wsS RL 114 yL_tryReplace wsL_tryReplace) := goodIn_app (goodIn_of _ (by decide +kernel)) ggL_call_L_tryReplace
set_option maxRecDepth 20000 in
theorem ggL_call_L_tryLay : GoodIn wsL_call wsL_tryLay := goodIn_ca (goodIn_r _ [368, 5, 7, 369, 370, 371, 12, 372, 54, 53, 373, 374, 375, 15, 16, 17, 18, 19, 20, 21, 22, 323, 324, 325, 110, 326, 112, 327, 328, 329, 330, 331, 332, 333, 334, 335, 90, 336, 92, 93, 94, 95, 96, 97, 98, 99, 100, 101, 337, 338, 339, 42, 340, 45, 376, 377, 378, 379, 380, 312, 313, 314, 160, 66, 67, 68, 44, 106, 40, 41, 43, 481, 482, 483, 484, 485, 486, 501, 502, 503, 491, 492, 493, 494, 495, 496, 497, 498, 499, 500, 489, 490] (by decide +kernel) (by decide +kernel)) (goodIn_sub (fun _ h => List.mem_cons_of_mem _ (List.mem_append_left _ (List.mem_append_left _ (List.mem_append_right _ h)))) (by decide +kernel))
set_option maxRecDepth 20000 in
theorem gL_call_L_tryLay : GoodIn wsL_call (va_wsS RL 118 yL_tryLay wsL_tryLay) := goodIn_app (goodIn_of _ (by decide +kernel)) ggL_call_L_tryLay
set_option maxRecDepth 20000 in
theorem ggL_call_L_tryUndo : GoodIn wsL_call wsL_tryUndo := goodIn_ca (goodIn_r _ [383, 6, 8, 384, 385, 386, 12, 387, 54, 53, 388, 389, 390, 110, 391, 112, 29, 30, 31, 32, 33, 392, 393, 394, 395, 328, 329, 330, 331, 327, 332, 333, 334, 335, 90, 336, 92, 93, 94, 95, 96, 97, 98, 99, 100, 101, 337, 338, 339, 42, 340, 45, 481, 482, 483, 484, 485, 486, 501, 502, 503, 491, 492, 493, 494, 495, 496, 497, 498, 499, 500, 489, 490] (by decide +kernel) (by decide +kernel)) (goodIn_sub (fun _ h => List.mem_cons_of_mem _ (List.mem_append_left _ (List.mem_append_right _ h))) (by decide +kernel))
set_option maxRecDepth 20000 in
theorem gL_call_L_tryUndo : GoodIn wsL_call (va_wsS RL 121 yL_tryUndo wsL_tryUndo) := goodIn_app (goodIn_of _ (by decide +kernel)) ggL_call_L_tryUndo
set_option maxRecDepth 20000 in
theorem ggL_call_L_tryWould : GoodIn wsL_call wsL_tryWould := goodIn_ca (goodIn_ca (goodIn_r _ [398, 261, 5, 262, 7, 399, 400, 401, 12, 402, 53, 295, 296, 297, 298, 299, 153, 154, 90, 155, 96, 275, 276, 277, 278, 279, 15, 16, 17, 18, 19, 20, 21, 22, 348, 149, 150, 151, 93, 152, 156, 157, 158, 159, 160, 66, 67, 42, 68, 44, 45, 161, 162, 163, 164, 165, 166, 167, 168, 95, 92, 169, 170, 171, 172, 94, 173, 174, 175, 176, 177, 178, 179, 180, 181, 182, 183, 184, 185, 186, 187, 188, 189, 190, 191, 192, 193, 194, 195, 196, 197, 403, 203, 204, 205, 206, 207, 208, 209, 210, 211, 404, 405, 406, 407, 220, 221, 222, 223, 408, 213, 214, 215, 481, 482, 483, 484, 485, 486, 491, 492, 493, 494, 495, 496, 497, 498, 499, 500, 489, 490] (by decide +kernel) (by decide +kernel)) (goodIn_sub (fun _ h => List.mem_cons_of_mem _ (List.mem_append_right _ h)) (by decide +kernel))) (goodIn_sub (fun _ h => List.mem_cons_of_mem _ (List.mem_append_left _ (List.mem_append_left _ (List.mem_append_right _ h)))) (by decide +kernel))
set_option maxRecDepth 20000 in
theorem gL_call_L_tryWould : GoodIn wsL_call (va_wsS RL 124 yL_tryWould wsL_tryWould) := goodIn_app (goodIn_of _ (by decide +kernel)) ggL_call_L_tryWould
set_option maxRecDepth 20000 in
theorem ggL_call_L_tryWhy : GoodIn wsL_call wsL_tryWhy := goodIn_ca (goodIn_r _ [411, 261, 262, 412, 413, 414, 12, 415, 53, 295, 296, 297, 298, 299, 153, 154, 90, 155, 96, 275, 276, 277, 278, 279, 267, 268, 269, 270, 271, 272, 273, 274, 95, 416, 417, 418, 419, 92, 160, 66, 67, 42, 68, 44, 45, 165, 166, 167, 168, 93, 181, 182, 169, 170, 171, 172, 94, 173, 174, 175, 176, 177, 178, 179, 180, 148, 149, 150, 151, 152, 156, 157, 158, 159, 161, 162, 163, 164, 183, 184, 185, 186, 187, 188, 189, 190, 191, 192, 193, 194, 195, 196, 197, 481, 482, 483, 484, 485, 486, 491, 492, 493, 494, 495, 496, 497, 498, 499, 500, 489, 490] (by decide +kernel) (by decide +kernel)) (goodIn_sub (fun _ h => List.mem_cons_of_mem _ (List.mem_append_right _ h)) (by decide +kernel))
set_option maxRecDepth 20000 in
theorem gL_call_L_tryWhy : GoodIn wsL_call (va_wsS RL 127 yL_tryWhy wsL_tryWhy) := goodIn_app (goodIn_of _ (by decide +kernel)) ggL_call_L_tryWhy
set_option maxRecDepth 20000 in
theorem ggL_call_L_tryLacks : GoodIn wsL_call wsL_tryLacks := goodIn_ca (goodIn_r _ [422, 261, 262, 423, 424, 425, 12, 426, 53, 295, 296, 297, 298, 299, 153, 154, 90, 155, 96, 275, 276, 277, 278, 279, 427, 428, 429, 430, 93, 160, 66, 67, 42, 68, 44, 45, 161, 162, 163, 164, 165, 166, 167, 168, 95, 92, 169, 170, 171, 172, 94, 173, 174, 175, 176, 177, 178, 179, 180, 181, 182, 183, 184, 185, 186, 187, 188, 189, 190, 191, 192, 193, 194, 195, 196, 197, 481, 482, 483, 484, 485, 486, 491, 492, 493, 494, 495, 496, 497, 498, 499, 500, 489, 490] (by decide +kernel) (by decide +kernel)) (goodIn_sub (fun _ h => List.mem_cons_of_mem _ (List.mem_append_right _ h)) (by decide +kernel))
set_option maxRecDepth 20000 in
theorem gL_call_L_tryLacks : GoodIn wsL_call (va_wsS RL 130 yL_tryLacks wsL_tryLacks) := goodIn_app (goodIn_of _ (by decide +kernel)) ggL_call_L_tryLacks
set_option maxRecDepth 20000 in
theorem ggL_call_L_tryOrder : GoodIn wsL_call wsL_tryOrder := goodIn_ca (goodIn_ca (goodIn_r _ [433, 261, 5, 262, 7, 434, 435, 436, 12, 437, 295, 296, 297, 298, 53, 299, 153, 154, 90, 155, 96, 275, 276, 277, 278, 279, 18, 19, 20, 21, 22, 438, 439, 440, 441, 442, 443, 334, 335, 336, 92, 93, 94, 95, 97, 98, 99, 100, 101, 337, 338, 339, 42, 340, 45, 144, 145, 146, 147, 148, 149, 150, 151, 152, 156, 157, 158, 159, 160, 66, 67, 68, 44, 161, 162, 163, 164, 165, 166, 167, 168, 169, 170, 171, 172, 173, 174, 175, 176, 177, 178, 179, 180, 181, 182, 183, 184, 185, 186, 187, 188, 189, 190, 191, 192, 193, 194, 195, 196, 197, 198, 199, 200, 201, 202, 203, 204, 205, 206, 207, 208, 209, 210, 211, 212, 213, 214, 215, 216, 217, 218, 219, 220, 221, 222, 223, 224, 225, 226, 227, 228, 229, 40, 41, 43, 106, 444, 445, 446, 447, 481, 482, 483, 484, 485, 486, 491, 492, 493, 494, 495, 496, 497, 498, 499, 500, 489, 490] (by decide +kernel) (by decide +kernel)) (goodIn_sub (fun _ h => List.mem_cons_of_mem _ (List.mem_append_right _ h)) (by decide +kernel))) (goodIn_sub (fun _ h => List.mem_cons_of_mem _ (List.mem_append_left _ (List.mem_append_left _ (List.mem_append_right _ h)))) (by decide +kernel))
set_option maxRecDepth 20000 in
theorem gL_call_L_tryOrder : GoodIn wsL_call (va_wsS RL 133 yL_tryOrder wsL_tryOrder) := goodIn_app (goodIn_of _ (by decide +kernel)) ggL_call_L_tryOrder
set_option maxRecDepth 20000 in
theorem ggL_call_L_tryKeep : GoodIn wsL_call wsL_tryKeep := goodIn_ca (goodIn_r _ [450, 261, 262, 451, 452, 453, 12, 454, 53, 15, 16, 17, 275, 276, 277, 278, 279, 455, 456, 457, 458, 55, 56, 459, 460, 461, 116, 462, 463, 118, 464, 334, 335, 90, 336, 92, 93, 94, 95, 96, 97, 98, 99, 100, 101, 337, 338, 339, 42, 340, 45, 465, 255, 256, 257, 156, 157, 158, 159, 160, 66, 67, 68, 44, 481, 482, 483, 484, 485, 486, 504, 505, 491, 492, 493, 494, 495, 496, 497, 498, 499, 500, 489, 490] (by decide +kernel) (by decide +kernel)) (goodIn_sub (fun _ h => List.mem_cons_of_mem _ (List.mem_append_right _ h)) (by decide +kernel))
set_option maxRecDepth 20000 in
theorem gL_call_L_tryKeep : GoodIn wsL_call (va_wsS RL 136 yL_tryKeep wsL_tryKeep) := goodIn_app (goodIn_of _ (by decide +kernel)) ggL_call_L_tryKeep
set_option maxRecDepth 20000 in
theorem ggL_call_L_tryBack : GoodIn wsL_call wsL_tryBack := goodIn_ca (goodIn_ca (goodIn_r _ [468, 261, 6, 262, 8, 469, 470, 471, 12, 472, 53, 54, 15, 16, 17, 275, 276, 277, 278, 279, 455, 456, 457, 458, 55, 56, 473, 474, 475, 116, 476, 118, 29, 30, 31, 32, 33, 477, 478, 479, 480, 463, 464, 334, 335, 90, 336, 92, 93, 94, 95, 96, 97, 98, 99, 100, 101, 337, 338, 339, 42, 340, 45, 107, 108, 109, 110, 111, 112, 465, 255, 256, 257, 156, 157, 158, 159, 160, 66, 67, 68, 44, 481, 482, 483, 484, 485, 486, 504, 505, 491, 492, 493, 494, 495, 496, 497, 498, 499, 500, 489, 490, 501, 502, 503] (by decide +kernel) (by decide +kernel)) (goodIn_sub (fun _ h => List.mem_cons_of_mem _ (List.mem_append_right _ h)) (by decide +kernel))) (goodIn_sub (fun _ h => List.mem_cons_of_mem _ (List.mem_append_left _ (List.mem_append_right _ h))) (by decide +kernel))
set_option maxRecDepth 20000 in
theorem gL_call_L_tryBack : GoodIn wsL_call (va_wsS RL 139 yL_tryBack wsL_tryBack) := goodIn_app (goodIn_of _ (by decide +kernel)) ggL_call_L_tryBack
theorem dL_call_0 : decode cL_call 0 = .ok (.iload_n 1, 1) := by decide +kernel
theorem dL_call_1 : decode cL_call 1 = .ok (.tableswitch 183 0 15 #[79, 85, 90, 96, 103, 110, 116, 123, 129, 138, 145, 150, 157, 164, 170, 177], 79) := by decide +kernel
theorem dL_call_80 : decode cL_call 80 = .ok (.aload_n 0, 1) := by decide +kernel
theorem dL_call_81 : decode cL_call 81 = .ok (.iload_n 2, 1) := by decide +kernel
theorem dL_call_82 : decode cL_call 82 = .ok (.invokestatic 85, 3) := by decide +kernel
theorem dL_call_85 : decode cL_call 85 = .ok (.ireturn, 1) := by decide +kernel
theorem dL_call_86 : decode cL_call 86 = .ok (.aload_n 0, 1) := by decide +kernel
theorem dL_call_87 : decode cL_call 87 = .ok (.invokestatic 91, 3) := by decide +kernel
theorem dL_call_90 : decode cL_call 90 = .ok (.ireturn, 1) := by decide +kernel
theorem dL_call_91 : decode cL_call 91 = .ok (.aload_n 0, 1) := by decide +kernel
theorem dL_call_92 : decode cL_call 92 = .ok (.iload_n 2, 1) := by decide +kernel
theorem dL_call_93 : decode cL_call 93 = .ok (.invokestatic 95, 3) := by decide +kernel
theorem dL_call_96 : decode cL_call 96 = .ok (.ireturn, 1) := by decide +kernel
theorem dL_call_97 : decode cL_call 97 = .ok (.aload_n 0, 1) := by decide +kernel
theorem dL_call_98 : decode cL_call 98 = .ok (.iload_n 2, 1) := by decide +kernel
theorem dL_call_99 : decode cL_call 99 = .ok (.iload_n 3, 1) := by decide +kernel
theorem dL_call_100 : decode cL_call 100 = .ok (.invokestatic 98, 3) := by decide +kernel
theorem dL_call_103 : decode cL_call 103 = .ok (.ireturn, 1) := by decide +kernel
theorem dL_call_104 : decode cL_call 104 = .ok (.aload_n 0, 1) := by decide +kernel
theorem dL_call_105 : decode cL_call 105 = .ok (.iload_n 2, 1) := by decide +kernel
theorem dL_call_106 : decode cL_call 106 = .ok (.iload_n 3, 1) := by decide +kernel
theorem dL_call_107 : decode cL_call 107 = .ok (.invokestatic 102, 3) := by decide +kernel
theorem dL_call_110 : decode cL_call 110 = .ok (.ireturn, 1) := by decide +kernel
theorem dL_call_111 : decode cL_call 111 = .ok (.aload_n 0, 1) := by decide +kernel
theorem dL_call_112 : decode cL_call 112 = .ok (.iload_n 2, 1) := by decide +kernel
theorem dL_call_113 : decode cL_call 113 = .ok (.invokestatic 105, 3) := by decide +kernel
theorem dL_call_116 : decode cL_call 116 = .ok (.ireturn, 1) := by decide +kernel
theorem dL_call_117 : decode cL_call 117 = .ok (.aload_n 0, 1) := by decide +kernel
theorem dL_call_118 : decode cL_call 118 = .ok (.iload_n 2, 1) := by decide +kernel
theorem dL_call_119 : decode cL_call 119 = .ok (.iload_n 3, 1) := by decide +kernel
theorem dL_call_120 : decode cL_call 120 = .ok (.invokestatic 108, 3) := by decide +kernel
theorem dL_call_123 : decode cL_call 123 = .ok (.ireturn, 1) := by decide +kernel
theorem dL_call_124 : decode cL_call 124 = .ok (.aload_n 0, 1) := by decide +kernel
theorem dL_call_125 : decode cL_call 125 = .ok (.iload_n 2, 1) := by decide +kernel
theorem dL_call_126 : decode cL_call 126 = .ok (.invokestatic 111, 3) := by decide +kernel
theorem dL_call_129 : decode cL_call 129 = .ok (.ireturn, 1) := by decide +kernel
theorem dL_call_130 : decode cL_call 130 = .ok (.aload_n 0, 1) := by decide +kernel
theorem dL_call_131 : decode cL_call 131 = .ok (.iload_n 2, 1) := by decide +kernel
theorem dL_call_132 : decode cL_call 132 = .ok (.iload_n 3, 1) := by decide +kernel
theorem dL_call_133 : decode cL_call 133 = .ok (.iload 4, 2) := by decide +kernel
theorem dL_call_135 : decode cL_call 135 = .ok (.invokestatic 114, 3) := by decide +kernel
theorem dL_call_138 : decode cL_call 138 = .ok (.ireturn, 1) := by decide +kernel
theorem dL_call_139 : decode cL_call 139 = .ok (.aload_n 0, 1) := by decide +kernel
theorem dL_call_140 : decode cL_call 140 = .ok (.iload_n 2, 1) := by decide +kernel
theorem dL_call_141 : decode cL_call 141 = .ok (.iload_n 3, 1) := by decide +kernel
theorem dL_call_142 : decode cL_call 142 = .ok (.invokestatic 118, 3) := by decide +kernel
theorem dL_call_145 : decode cL_call 145 = .ok (.ireturn, 1) := by decide +kernel
theorem dL_call_146 : decode cL_call 146 = .ok (.aload_n 0, 1) := by decide +kernel
theorem dL_call_147 : decode cL_call 147 = .ok (.invokestatic 121, 3) := by decide +kernel
theorem dL_call_150 : decode cL_call 150 = .ok (.ireturn, 1) := by decide +kernel
theorem dL_call_151 : decode cL_call 151 = .ok (.aload_n 0, 1) := by decide +kernel
theorem dL_call_152 : decode cL_call 152 = .ok (.iload_n 2, 1) := by decide +kernel
theorem dL_call_153 : decode cL_call 153 = .ok (.iload_n 3, 1) := by decide +kernel
theorem dL_call_154 : decode cL_call 154 = .ok (.invokestatic 124, 3) := by decide +kernel
theorem dL_call_157 : decode cL_call 157 = .ok (.ireturn, 1) := by decide +kernel
theorem dL_call_158 : decode cL_call 158 = .ok (.aload_n 0, 1) := by decide +kernel
theorem dL_call_159 : decode cL_call 159 = .ok (.iload_n 2, 1) := by decide +kernel
theorem dL_call_160 : decode cL_call 160 = .ok (.iload_n 3, 1) := by decide +kernel
