/-! ===== names of the law, printed ===== -/
theorem dL_restore_16 : decode cL_restore 16 = .ok (.iconst 2, 1) := by decide +kernel
theorem dL_restore_17 : decode cL_restore 17 = .ok (.ireturn, 1) := by decide +kernel
theorem dL_restore_18 : decode cL_restore 18 = .ok (.iconst 0, 1) := by decide +kernel
theorem dL_restore_19 : decode cL_restore 19 = .ok (.ireturn, 1) := by decide +kernel
set_option maxRecDepth 20000 in
theorem ggL_law_X7_init : GoodIn wsL_law wsX7_init := goodIn_r _ [10, 11, 12, 13, 14, 15, 16, 17, 18, 19, 20, 21, 22, 23, 24, 25, 26, 27, 28, 29, 30, 31, 32, 33, 34, 35, 36, 37, 38, 39, 40, 41, 42, 43, 44, 45, 46, 47, 48, 49, 50, 51, 52, 53, 54, 55, 56, 57, 58, 59, 60, 61, 62, 63, 64, 65, 66, 67, 68, 69, 70, 71, 72, 73, 74, 75, 76, 77, 78, 79, 80, 81, 82, 83, 84, 85, 86, 87, 88, 89, 90, 91, 92, 941, 942, 943, 944, 945, 946, 947, 948, 949, 950, 924, 925, 926, 927, 928, 929, 951, 952, 953, 954, 955, 956, 957, 958, 959] (by decide +kernel) (by decide +kernel)
set_option maxRecDepth 20000 in
theorem gL_law_X7_init : GoodIn wsL_law (wsX7_init) := ggL_law_X7_init
set_option maxRecDepth 20000 in
theorem ggL_law_X8_init : GoodIn wsL_law wsX8_init := goodIn_r _ [95, 96, 12, 13, 51, 97, 98, 99, 100, 101, 102, 103, 104, 105, 5, 106, 930, 931, 932, 933, 934, 935, 936, 937, 938, 939, 940] (by decide +kernel) (by decide +kernel)
set_option maxRecDepth 20000 in
theorem gL_law_X8_init : GoodIn wsL_law (wsX8_init) := ggL_law_X8_init
set_option maxRecDepth 20000 in
theorem ggL_law_L_append : GoodIn wsL_law wsL_append := goodIn_ca (goodIn_ca (goodIn_r _ [110, 111, 112, 113, 114, 115, 2, 116, 31, 117, 118, 119, 120, 121, 122, 123, 124, 125, 126, 127, 30, 128, 129, 130, 131, 132, 133, 134, 135, 136, 137, 138, 91, 139, 69, 70, 38, 71, 46, 52, 924, 925, 926, 927, 928, 929, 956, 957, 958, 959] (by decide +kernel) (by decide +kernel)) (goodIn_sub (fun _ h => List.mem_append_left _ (List.mem_append_left _ (List.mem_append_right _ h))) (by decide +kernel))) (goodIn_sub (fun _ h => List.mem_append_left _ (List.mem_append_right _ h)) (by decide +kernel))
set_option maxRecDepth 20000 in
theorem gL_law_L_append : GoodIn wsL_law (va_wsS RL 86 yL_append wsL_append) := goodIn_app (goodIn_of _ (by decide +kernel)) ggL_law_L_append
set_option maxRecDepth 20000 in
theorem ggL_law_X8_append : GoodIn wsL_law wsX8_append := goodIn_r _ [143, 144, 145, 97, 146, 147, 5, 148, 149, 150, 151, 152, 153, 930, 931, 932, 933, 934, 935, 936, 937, 938, 939, 940] (by decide +kernel) (by decide +kernel)
set_option maxRecDepth 20000 in
theorem gL_law_X8_append : GoodIn wsL_law (wsV RL 91 RX8 yX8_append wsX8_append) := goodIn_app (goodIn_of _ (by decide +kernel)) ggL_law_X8_append
set_option maxRecDepth 20000 in
theorem ggL_law_X8_thrown : GoodIn wsL_law wsX8_thrown := goodIn_r _ [157, 153, 930, 931, 932, 933, 934, 935, 936, 937, 938, 939, 940] (by decide +kernel) (by decide +kernel)
set_option maxRecDepth 20000 in
theorem gL_law_X8_thrown : GoodIn wsL_law (wsV RL 92 RX8 yX8_thrown wsX8_thrown) := goodIn_app (goodIn_of _ (by decide +kernel)) ggL_law_X8_thrown
set_option maxRecDepth 20000 in
theorem ggL_law_X7_clearText : GoodIn wsL_law wsX7_clearText := goodIn_r _ [161, 31, 162, 163, 164, 30, 165, 129, 924, 925, 926, 927, 928, 929, 956, 957] (by decide +kernel) (by decide +kernel)
set_option maxRecDepth 20000 in
theorem gL_law_X7_clearText : GoodIn wsL_law (wsV RL 95 RX7 yX7_clearText wsX7_clearText) := goodIn_app (goodIn_of _ (by decide +kernel)) ggL_law_X7_clearText
set_option maxRecDepth 20000 in
theorem ggL_law_X8_clearText : GoodIn wsL_law wsX8_clearText := goodIn_r _ [169, 153, 145, 930, 931, 932, 933, 934, 935, 936, 937, 938, 939, 940] (by decide +kernel) (by decide +kernel)
set_option maxRecDepth 20000 in
theorem gL_law_X8_clearText : GoodIn wsL_law (wsV RL 98 RX8 yX8_clearText wsX8_clearText) := goodIn_app (goodIn_of _ (by decide +kernel)) ggL_law_X8_clearText
set_option maxRecDepth 20000 in
theorem ggL_law_X7_errorPosition : GoodIn wsL_law wsX7_errorPosition := goodIn_r _ [173, 31, 174, 175, 176, 30, 177, 129, 178, 179, 180, 181, 91, 182, 183, 184, 38, 185, 46, 52, 186, 187, 188, 189, 190, 191, 192, 193, 194, 195, 196, 197, 198, 199, 118, 2, 119, 200, 201, 202, 203, 924, 925, 926, 927, 928, 929, 956, 957, 958, 959] (by decide +kernel) (by decide +kernel)
set_option maxRecDepth 20000 in
theorem gL_law_X7_errorPosition : GoodIn wsL_law (wsV RL 99 RX7 yX7_errorPosition wsX7_errorPosition) := goodIn_app (goodIn_of _ (by decide +kernel)) ggL_law_X7_errorPosition
set_option maxRecDepth 20000 in
theorem ggL_law_X8_errorPosition : GoodIn wsL_law wsX8_errorPosition := goodIn_r _ [207, 153, 99, 208, 209, 210, 5, 211, 212, 213, 145, 97, 104, 105, 106, 214, 215, 216, 217, 218, 219, 220, 221, 222, 146, 147, 148, 223, 224, 225, 226, 227, 228, 229, 230, 231, 232, 233, 234, 235, 236, 237, 238, 239, 240, 241, 242, 243, 244, 245, 246, 247, 248, 249, 250, 251, 252, 253, 254, 255, 256, 257, 258, 259, 260, 261, 262, 263, 264, 265, 266, 267, 268, 269, 270, 271, 272, 273, 274, 275, 276, 277, 278, 279, 280, 281, 282, 283, 284, 285, 286, 287, 288, 289, 290, 291, 292, 293, 294, 295, 296, 930, 931, 932, 933, 934, 935, 936, 937, 938, 939, 940] (by decide +kernel) (by decide +kernel)
set_option maxRecDepth 20000 in
theorem gL_law_X8_errorPosition : GoodIn wsL_law (wsV RL 102 RX8 yX8_errorPosition wsX8_errorPosition) := goodIn_app (goodIn_of _ (by decide +kernel)) ggL_law_X8_errorPosition
set_option maxRecDepth 20000 in
theorem ggL_law_L_load : GoodIn wsL_law wsL_load := goodIn_ca (goodIn_r _ [299, 112, 300, 301, 302, 2, 303, 31, 17, 22, 26, 27, 174, 175, 176, 30, 177, 129, 178, 179, 180, 181, 91, 182, 183, 184, 38, 185, 46, 52, 186, 187, 188, 189, 190, 191, 192, 193, 194, 195, 196, 197, 198, 199, 118, 119, 200, 201, 202, 203, 130, 131, 132, 133, 134, 304, 54, 55, 16, 56, 39, 40, 41, 57, 58, 59, 60, 61, 62, 63, 64, 65, 66, 67, 68, 69, 70, 71, 305, 306, 307, 21, 308, 309, 310, 311, 312, 25, 313, 314, 125, 126, 127, 128, 315, 316, 317, 318, 319, 320, 321, 322, 323, 324, 325, 326, 327, 328, 329, 330, 331, 332, 333, 334, 335, 336, 337, 338, 339, 340, 341, 342, 343, 344, 345, 346, 347, 348, 349, 350, 351, 352, 353, 354, 355, 356, 357, 358, 359, 360, 361, 362, 363, 364, 365, 366, 367, 368, 369, 370, 371, 372, 373, 374, 375, 376, 377, 378, 379, 380, 381, 382, 383, 384, 385, 386, 387, 388, 389, 390, 391, 392, 393, 394, 395, 396, 397, 398, 399, 400, 401, 402, 403, 404, 405, 406, 407, 408, 409, 410, 411, 412, 413, 414, 415, 416, 417, 418, 419, 420, 421, 422, 423, 424, 425, 426, 427, 428, 429, 430, 431, 432, 433, 434, 435, 436, 437, 438, 924, 925, 926, 927, 928, 929, 956, 957, 958, 959, 941, 942, 943, 944, 945, 946, 947, 948, 949, 950, 951, 952, 953, 954, 955] (by decide +kernel) (by decide +kernel)) (goodIn_sub (fun _ h => List.mem_append_left _ (List.mem_append_right _ h)) (by decide +kernel))
set_option maxRecDepth 20000 in
theorem gL_law_L_load : GoodIn wsL_law (va_wsS RL 103 yL_load wsL_load) := goodIn_app (goodIn_of _ (by decide +kernel)) ggL_law_L_load
set_option maxRecDepth 20000 in
theorem ggL_law_X8_load : GoodIn wsL_law wsX8_load := goodIn_r _ [442, 99, 98, 443, 103, 212, 208, 209, 210, 5, 211, 213, 145, 97, 104, 105, 106, 214, 215, 216, 217, 218, 219, 220, 221, 222, 146, 147, 148, 223, 224, 225, 226, 227, 228, 229, 230, 231, 232, 233, 234, 235, 236, 237, 238, 239, 240, 241, 242, 243, 244, 245, 246, 247, 248, 249, 250, 251, 252, 253, 254, 255, 256, 257, 258, 259, 260, 261, 262, 263, 264, 265, 266, 267, 268, 269, 270, 271, 272, 273, 274, 275, 276, 277, 278, 279, 280, 281, 282, 283, 284, 285, 286, 287, 288, 289, 290, 291, 292, 293, 294, 295, 296, 149, 150, 151, 152, 153, 444, 445, 446, 930, 931, 932, 933, 934, 935, 936, 937, 938, 939, 940] (by decide +kernel) (by decide +kernel)
set_option maxRecDepth 20000 in
theorem gL_law_X8_load : GoodIn wsL_law (wsV RL 106 RX8 yX8_load wsX8_load) := goodIn_app (goodIn_of _ (by decide +kernel)) ggL_law_X8_load
set_option maxRecDepth 20000 in
theorem ggL_law_L_about : GoodIn wsL_law wsL_about := goodIn_ca (goodIn_r _ [449, 111, 450, 451, 452, 2, 453, 17, 117, 118, 119, 120, 121, 122, 123, 124, 454, 455, 456, 16, 457, 57, 58, 59, 60, 61, 62, 63, 458, 459, 460, 461, 352, 353, 354, 355, 40, 356, 183, 184, 38, 185, 46, 52, 373, 374, 375, 376, 39, 377, 378, 379, 380, 381, 382, 383, 384, 385, 924, 925, 926, 927, 928, 929, 941, 942, 943, 944, 945, 946, 947, 948, 949, 950, 958, 959] (by decide +kernel) (by decide +kernel)) (goodIn_sub (fun _ h => List.mem_append_left _ (List.mem_append_left _ (List.mem_append_right _ h))) (by decide +kernel))
set_option maxRecDepth 20000 in
theorem gL_law_L_about : GoodIn wsL_law (va_wsS RL 107 yL_about wsL_about) := goodIn_app (goodIn_of _ (by decide +kernel)) ggL_law_L_about
set_option maxRecDepth 20000 in
theorem ggL_law_X8_about : GoodIn wsL_law wsX8_about := goodIn_r _ [465, 466, 98, 146, 147, 5, 148, 149, 150, 151, 152, 153, 467, 468, 469, 246, 247, 248, 258, 259, 260, 261, 262, 263, 264, 265, 266, 282, 283, 284, 930, 931, 932, 933, 934, 935, 936, 937, 938, 939, 940] (by decide +kernel) (by decide +kernel)
set_option maxRecDepth 20000 in
theorem gL_law_X8_about : GoodIn wsL_law (wsV RL 109 RX8 yX8_about wsX8_about) := goodIn_app (goodIn_of _ (by decide +kernel)) ggL_law_X8_about
set_option maxRecDepth 20000 in
theorem ggL_law_L_extraOf : GoodIn wsL_law wsL_extraOf := goodIn_ca (goodIn_ca (goodIn_r _ [472, 473, 111, 474, 475, 476, 2, 477, 17, 478, 479, 480, 481, 482, 483, 484, 16, 485, 57, 486, 487, 488, 489, 490, 117, 118, 119, 120, 121, 122, 123, 124, 491, 492, 493, 494, 39, 495, 496, 497, 498, 58, 352, 353, 354, 355, 40, 356, 183, 184, 38, 185, 46, 52, 377, 378, 386, 387, 388, 389, 924, 925, 926, 927, 928, 929, 941, 942, 943, 944, 945, 946, 947, 948, 949, 950, 958, 959] (by decide +kernel) (by decide +kernel)) (goodIn_sub (fun _ h => List.mem_append_right _ h) (by decide +kernel))) (goodIn_sub (fun _ h => List.mem_append_left _ (List.mem_append_left _ (List.mem_append_right _ h))) (by decide +kernel))
set_option maxRecDepth 20000 in
theorem gL_law_L_extraOf : GoodIn wsL_law (va_wsS RL 110 yL_extraOf wsL_extraOf) := goodIn_app (goodIn_of _ (by decide +kernel)) ggL_law_L_extraOf
set_option maxRecDepth 20000 in
theorem ggL_law_X8_extraOf : GoodIn wsL_law wsX8_extraOf := goodIn_r _ [502, 98, 503, 504, 505, 5, 506, 146, 147, 148, 149, 150, 151, 152, 153, 246, 247, 248, 261, 262, 263, 264, 265, 266, 930, 931, 932, 933, 934, 935, 936, 937, 938, 939, 940] (by decide +kernel) (by decide +kernel)
set_option maxRecDepth 20000 in
theorem gL_law_X8_extraOf : GoodIn wsL_law (wsV RL 113 RX8 yX8_extraOf wsX8_extraOf) := goodIn_app (goodIn_of _ (by decide +kernel)) ggL_law_X8_extraOf
set_option maxRecDepth 20000 in
theorem ggL_law_L_sceneOf : GoodIn wsL_law wsL_sceneOf := goodIn_ca (goodIn_ca (goodIn_r _ [509, 473, 111, 510, 511, 512, 2, 513, 17, 514, 515, 516, 517, 518, 349, 350, 16, 351, 58, 486, 487, 488, 489, 490, 117, 118, 119, 120, 121, 122, 123, 124, 519, 520, 521, 522, 40, 352, 353, 354, 355, 356, 183, 184, 38, 185, 46, 52, 369, 370, 371, 372, 373, 374, 375, 376, 57, 39, 377, 378, 924, 925, 926, 927, 928, 929, 941, 942, 943, 944, 945, 946, 947, 948, 949, 950, 958, 959] (by decide +kernel) (by decide +kernel)) (goodIn_sub (fun _ h => List.mem_append_right _ h) (by decide +kernel))) (goodIn_sub (fun _ h => List.mem_append_left _ (List.mem_append_left _ (List.mem_append_right _ h))) (by decide +kernel))
set_option maxRecDepth 20000 in
theorem gL_law_L_sceneOf : GoodIn wsL_law (va_wsS RL 114 yL_sceneOf wsL_sceneOf) := goodIn_app (goodIn_of _ (by decide +kernel)) ggL_law_L_sceneOf
set_option maxRecDepth 20000 in
theorem ggL_law_X8_sceneOf : GoodIn wsL_law wsX8_sceneOf := goodIn_r _ [526, 98, 466, 243, 244, 5, 245, 146, 147, 148, 149, 150, 151, 152, 153, 246, 247, 248, 255, 256, 257, 258, 259, 260, 261, 262, 263, 264, 265, 266, 930, 931, 932, 933, 934, 935, 936, 937, 938, 939, 940] (by decide +kernel) (by decide +kernel)
set_option maxRecDepth 20000 in
theorem gL_law_X8_sceneOf : GoodIn wsL_law (wsV RL 116 RX8 yX8_sceneOf wsX8_sceneOf) := goodIn_app (goodIn_of _ (by decide +kernel)) ggL_law_X8_sceneOf
set_option maxRecDepth 20000 in
theorem ggL_law_L_setting : GoodIn wsL_law wsL_setting := goodIn_ca (goodIn_r _ [529, 111, 530, 531, 532, 2, 533, 17, 117, 118, 119, 120, 121, 122, 123, 124, 534, 535, 536, 16, 537, 41, 356, 183, 184, 38, 185, 46, 52, 924, 925, 926, 927, 928, 929, 941, 942, 943, 944, 945, 946, 947, 948, 949, 950, 958, 959] (by decide +kernel) (by decide +kernel)) (goodIn_sub (fun _ h => List.mem_append_left _ (List.mem_append_left _ (List.mem_append_right _ h))) (by decide +kernel))
set_option maxRecDepth 20000 in
theorem gL_law_L_setting : GoodIn wsL_law (va_wsS RL 117 yL_setting wsL_setting) := goodIn_app (goodIn_of _ (by decide +kernel)) ggL_law_L_setting
set_option maxRecDepth 20000 in
theorem ggL_law_X8_setting : GoodIn wsL_law wsX8_setting := goodIn_r _ [541, 542, 98, 146, 147, 5, 148, 149, 150, 151, 152, 153, 930, 931, 932, 933, 934, 935, 936, 937, 938, 939, 940] (by decide +kernel) (by decide +kernel)
set_option maxRecDepth 20000 in
theorem gL_law_X8_setting : GoodIn wsL_law (wsV RL 119 RX8 yX8_setting wsX8_setting) := goodIn_app (goodIn_of _ (by decide +kernel)) ggL_law_X8_setting
set_option maxRecDepth 20000 in
theorem ggL_law_L_extra : GoodIn wsL_law wsL_extra := goodIn_ca (goodIn_ca (goodIn_r _ [545, 111, 112, 546, 547, 548, 2, 549, 17, 22, 117, 118, 119, 120, 121, 122, 123, 124, 550, 329, 330, 16, 331, 57, 130, 131, 132, 133, 134, 551, 552, 553, 21, 554, 309, 555, 556, 557, 558, 559, 77, 560, 561, 562, 563, 39, 40, 41, 58, 59, 60, 61, 62, 63, 564, 565, 566, 38, 567, 52, 324, 325, 326, 327, 328, 68, 69, 70, 71, 46, 924, 925, 926, 927, 928, 929, 941, 942, 943, 944, 945, 946, 947, 948, 949, 950, 951, 952, 953, 958, 959] (by decide +kernel) (by decide +kernel)) (goodIn_sub (fun _ h => List.mem_append_left _ (List.mem_append_left _ (List.mem_append_right _ h))) (by decide +kernel))) (goodIn_sub (fun _ h => List.mem_append_left _ (List.mem_append_right _ h)) (by decide +kernel))
set_option maxRecDepth 20000 in
theorem gL_law_L_extra : GoodIn wsL_law (va_wsS RL 120 yL_extra wsL_extra) := goodIn_app (goodIn_of _ (by decide +kernel)) ggL_law_L_extra
set_option maxRecDepth 20000 in
theorem ggL_law_X8_extra : GoodIn wsL_law wsX8_extra := goodIn_r _ [571, 98, 572, 573, 5, 574, 575, 576, 146, 147, 148, 149, 150, 151, 152, 153, 577, 578, 579, 580, 443, 100, 444, 445, 446, 223, 224, 225, 226, 227, 228, 930, 931, 932, 933, 934, 935, 936, 937, 938, 939, 940] (by decide +kernel) (by decide +kernel)
set_option maxRecDepth 20000 in
theorem gL_law_X8_extra : GoodIn wsL_law (wsV RL 122 RX8 yX8_extra wsX8_extra) := goodIn_app (goodIn_of _ (by decide +kernel)) ggL_law_X8_extra
set_option maxRecDepth 20000 in
theorem ggL_law_L_scene : GoodIn wsL_law wsL_scene := goodIn_ca (goodIn_ca (goodIn_r _ [583, 111, 112, 584, 585, 586, 2, 587, 17, 22, 117, 118, 119, 120, 121, 122, 123, 124, 588, 337, 338, 16, 339, 58, 130, 131, 132, 133, 134, 551, 552, 553, 21, 554, 309, 555, 556, 557, 558, 559, 77, 560, 561, 562, 563, 39, 40, 41, 57, 59, 60, 61, 62, 63, 564, 565, 566, 38, 567, 52, 332, 333, 334, 335, 336, 68, 69, 70, 71, 46, 924, 925, 926, 927, 928, 929, 941, 942, 943, 944, 945, 946, 947, 948, 949, 950, 951, 952, 953, 958, 959] (by decide +kernel) (by decide +kernel)) (goodIn_sub (fun _ h => List.mem_append_left _ (List.mem_append_left _ (List.mem_append_right _ h))) (by decide +kernel))) (goodIn_sub (fun _ h => List.mem_append_left _ (List.mem_append_right _ h)) (by decide +kernel))
set_option maxRecDepth 20000 in
theorem gL_law_L_scene : GoodIn wsL_law (va_wsS RL 123 yL_scene wsL_scene) := goodIn_app (goodIn_of _ (by decide +kernel)) ggL_law_L_scene
set_option maxRecDepth 20000 in
theorem ggL_law_X8_scene : GoodIn wsL_law wsX8_scene := goodIn_r _ [592, 98, 593, 594, 5, 595, 575, 503, 222, 596, 597, 598, 146, 147, 148, 149, 150, 151, 152, 153, 577, 578, 579, 580, 443, 100, 444, 445, 446, 237, 238, 239, 930, 931, 932, 933, 934, 935, 936, 937, 938, 939, 940] (by decide +kernel) (by decide +kernel)
set_option maxRecDepth 20000 in
theorem gL_law_X8_scene : GoodIn wsL_law (wsV RL 126 RX8 yX8_scene wsX8_scene) := goodIn_app (goodIn_of _ (by decide +kernel)) ggL_law_X8_scene
set_option maxRecDepth 20000 in
theorem ggL_law_L_shoot : GoodIn wsL_law wsL_shoot := goodIn_ca (goodIn_ca (goodIn_r _ [601, 473, 112, 602, 603, 604, 2, 605, 17, 22, 514, 515, 516, 517, 518, 349, 350, 16, 351, 58, 486, 487, 488, 489, 490, 606, 345, 346, 347, 40, 348, 352, 353, 354, 355, 356, 183, 184, 38, 185, 46, 52, 357, 358, 359, 360, 361, 362, 363, 364, 57, 39, 365, 366, 367, 368, 41, 369, 370, 371, 372, 373, 374, 375, 376, 377, 378, 379, 380, 381, 382, 383, 384, 385, 386, 387, 388, 389, 390, 391, 392, 393, 130, 131, 132, 133, 134, 551, 552, 553, 21, 554, 309, 555, 556, 557, 558, 559, 77, 560, 561, 562, 563, 59, 60, 61, 62, 63, 564, 565, 566, 567, 607, 395, 396, 397, 398, 399, 400, 401, 402, 403, 404, 405, 406, 407, 408, 409, 410, 411, 412, 413, 414, 415, 416, 417, 418, 419, 420, 421, 422, 423, 424, 425, 69, 70, 71, 68, 924, 925, 926, 927, 928, 929, 941, 942, 943, 944, 945, 946, 947, 948, 949, 950, 958, 959, 951, 952, 953] (by decide +kernel) (by decide +kernel)) (goodIn_sub (fun _ h => List.mem_append_right _ h) (by decide +kernel))) (goodIn_sub (fun _ h => List.mem_append_left _ (List.mem_append_right _ h)) (by decide +kernel))
set_option maxRecDepth 20000 in
theorem gL_law_L_shoot : GoodIn wsL_law (va_wsS RL 127 yL_shoot wsL_shoot) := goodIn_app (goodIn_of _ (by decide +kernel)) ggL_law_L_shoot
set_option maxRecDepth 20000 in
theorem ggL_law_X8_shoot : GoodIn wsL_law wsX8_shoot := goodIn_r _ [611, 98, 243, 244, 5, 245, 146, 147, 148, 240, 241, 242, 246, 247, 248, 249, 250, 251, 252, 253, 254, 255, 256, 257, 258, 259, 260, 261, 262, 263, 264, 265, 266, 267, 268, 269, 270, 271, 272, 273, 274, 275, 276, 277, 278, 279, 280, 281, 282, 283, 284, 149, 150, 151, 152, 153, 577, 578, 579, 580, 443, 100, 444, 445, 446, 285, 286, 287, 288, 289, 290, 226, 227, 228, 930, 931, 932, 933, 934, 935, 936, 937, 938, 939, 940] (by decide +kernel) (by decide +kernel)
set_option maxRecDepth 20000 in
theorem gL_law_X8_shoot : GoodIn wsL_law (wsV RL 129 RX8 yX8_shoot wsX8_shoot) := goodIn_app (goodIn_of _ (by decide +kernel)) ggL_law_X8_shoot
set_option maxRecDepth 20000 in
theorem ggL_law_L_replace : GoodIn wsL_law wsL_replace := goodIn_ca (goodIn_ca (goodIn_r _ [614, 473, 112, 615, 616, 617, 2, 618, 17, 22, 514, 515, 516, 517, 518, 349, 350, 16, 351, 58, 486, 487, 488, 489, 490, 478, 479, 480, 481, 482, 483, 484, 485, 57, 619, 620, 621, 622, 39, 348, 623, 352, 353, 354, 355, 40, 356, 183, 184, 38, 185, 46, 52, 377, 378, 361, 362, 363, 364, 373, 374, 375, 376, 369, 370, 371, 372, 130, 131, 132, 133, 134, 551, 552, 553, 21, 554, 309, 555, 556, 557, 558, 559, 77, 560, 561, 562, 563, 41, 59, 60, 61, 62, 63, 564, 565, 566, 567, 624, 625, 626, 627, 68, 69, 70, 71, 924, 925, 926, 927, 928, 929, 941, 942, 943, 944, 945, 946, 947, 948, 949, 950, 958, 959, 951, 952, 953] (by decide +kernel) (by decide +kernel)) (goodIn_sub (fun _ h => List.mem_append_right _ h) (by decide +kernel))) (goodIn_sub (fun _ h => List.mem_append_left _ (List.mem_append_right _ h)) (by decide +kernel))
set_option maxRecDepth 20000 in
theorem gL_law_L_replace : GoodIn wsL_law (va_wsS RL 130 yL_replace wsL_replace) := goodIn_app (goodIn_of _ (by decide +kernel)) ggL_law_L_replace
set_option maxRecDepth 20000 in
theorem ggL_law_X8_replace : GoodIn wsL_law wsX8_replace := goodIn_r _ [631, 98, 243, 244, 5, 245, 146, 147, 148, 504, 505, 506, 632, 633, 634, 246, 247, 248, 261, 262, 263, 273, 274, 275, 264, 265, 266, 258, 259, 260, 255, 256, 257, 149, 150, 151, 152, 153, 577, 578, 579, 580, 443, 100, 444, 445, 446, 635, 636, 637, 930, 931, 932, 933, 934, 935, 936, 937, 938, 939, 940] (by decide +kernel) (by decide +kernel)
set_option maxRecDepth 20000 in
theorem gL_law_X8_replace : GoodIn wsL_law (wsV RL 133 RX8 yX8_replace wsX8_replace) := goodIn_app (goodIn_of _ (by decide +kernel)) ggL_law_X8_replace
set_option maxRecDepth 20000 in
theorem ggL_law_X7_meal : GoodIn wsL_law wsX7_meal := goodIn_r _ [641, 22, 17, 551, 552, 553, 21, 554, 309, 555, 556, 557, 558, 559, 77, 560, 561, 562, 16, 563, 39, 40, 41, 57, 58, 59, 60, 61, 62, 63, 564, 565, 566, 38, 567, 52, 426, 427, 428, 429, 356, 183, 184, 185, 46, 430, 431, 432, 433, 425, 69, 70, 71, 924, 925, 926, 927, 928, 929, 951, 952, 953, 941, 942, 943, 944, 945, 946, 947, 948, 949, 950, 958, 959] (by decide +kernel) (by decide +kernel)
set_option maxRecDepth 20000 in
theorem gL_law_X7_meal : GoodIn wsL_law (wsV RL 134 RX7 yX7_meal wsX7_meal) := goodIn_app (goodIn_of _ (by decide +kernel)) ggL_law_X7_meal
set_option maxRecDepth 20000 in
theorem ggL_law_X8_meal : GoodIn wsL_law wsX8_meal := goodIn_r _ [645, 153, 98, 577, 578, 579, 5, 580, 443, 100, 444, 445, 446, 291, 292, 293, 264, 265, 266, 226, 227, 228, 930, 931, 932, 933, 934, 935, 936, 937, 938, 939, 940] (by decide +kernel) (by decide +kernel)
set_option maxRecDepth 20000 in
theorem gL_law_X8_meal : GoodIn wsL_law (wsV RL 137 RX8 yX8_meal wsX8_meal) := goodIn_app (goodIn_of _ (by decide +kernel)) ggL_law_X8_meal
set_option maxRecDepth 20000 in
theorem ggL_law_X7_nextDay : GoodIn wsL_law wsX7_nextDay := goodIn_r _ [649, 22, 17, 551, 552, 553, 21, 554, 309, 555, 556, 557, 558, 559, 77, 560, 561, 562, 16, 563, 39, 40, 41, 57, 58, 59, 60, 61, 62, 63, 564, 565, 566, 38, 567, 52, 434, 435, 436, 437, 430, 431, 432, 433, 46, 425, 69, 70, 71, 924, 925, 926, 927, 928, 929, 951, 952, 953, 941, 942, 943, 944, 945, 946, 947, 948, 949, 950, 958, 959] (by decide +kernel) (by decide +kernel)
set_option maxRecDepth 20000 in
theorem gL_law_X7_nextDay : GoodIn wsL_law (wsV RL 138 RX7 yX7_nextDay wsX7_nextDay) := goodIn_app (goodIn_of _ (by decide +kernel)) ggL_law_X7_nextDay
set_option maxRecDepth 20000 in
theorem ggL_law_X8_nextDay : GoodIn wsL_law wsX8_nextDay := goodIn_r _ [653, 153, 98, 577, 578, 579, 5, 580, 443, 100, 444, 445, 446, 294, 295, 296, 291, 292, 293, 264, 265, 266, 226, 227, 228, 930, 931, 932, 933, 934, 935, 936, 937, 938, 939, 940] (by decide +kernel) (by decide +kernel)
set_option maxRecDepth 20000 in
theorem gL_law_X8_nextDay : GoodIn wsL_law (wsV RL 141 RX8 yX8_nextDay wsX8_nextDay) := goodIn_app (goodIn_of _ (by decide +kernel)) ggL_law_X8_nextDay
set_option maxRecDepth 20000 in
theorem ggL_law_L_set : GoodIn wsL_law wsL_set := goodIn_ca (goodIn_r _ [656, 111, 657, 658, 659, 2, 660, 22, 17, 661, 662, 663, 117, 118, 119, 120, 121, 122, 123, 124, 551, 552, 553, 21, 554, 309, 555, 556, 557, 558, 559, 77, 560, 561, 562, 16, 563, 39, 40, 41, 57, 58, 59, 60, 61, 62, 63, 564, 565, 566, 38, 567, 52, 664, 665, 666, 667, 668, 535, 536, 537, 356, 183, 184, 185, 46, 68, 69, 70, 71, 924, 925, 926, 927, 928, 929, 951, 952, 953, 941, 942, 943, 944, 945, 946, 947, 948, 949, 950, 958, 959] (by decide +kernel) (by decide +kernel)) (goodIn_sub (fun _ h => List.mem_append_left _ (List.mem_append_left _ (List.mem_append_right _ h))) (by decide +kernel))
set_option maxRecDepth 20000 in
theorem gL_law_L_set : GoodIn wsL_law (va_wsS RL 142 yL_set wsL_set) := goodIn_app (goodIn_of _ (by decide +kernel)) ggL_law_L_set
set_option maxRecDepth 20000 in
theorem ggL_law_X8_set : GoodIn wsL_law wsX8_set := goodIn_r _ [672, 98, 673, 674, 5, 675, 598, 676, 677, 146, 147, 148, 149, 150, 151, 152, 153, 577, 578, 579, 580, 443, 100, 444, 445, 446, 930, 931, 932, 933, 934, 935, 936, 937, 938, 939, 940] (by decide +kernel) (by decide +kernel)
set_option maxRecDepth 20000 in
theorem gL_law_X8_set : GoodIn wsL_law (wsV RL 144 RX8 yX8_set wsX8_set) := goodIn_app (goodIn_of _ (by decide +kernel)) ggL_law_X8_set
set_option maxRecDepth 20000 in
theorem ggL_law_L_undo : GoodIn wsL_law wsL_undo := goodIn_ca (goodIn_r _ [680, 112, 681, 682, 683, 2, 684, 22, 17, 685, 686, 687, 21, 688, 309, 130, 131, 132, 133, 134, 689, 690, 691, 692, 556, 557, 558, 559, 555, 77, 560, 561, 562, 16, 563, 39, 40, 41, 57, 58, 59, 60, 61, 62, 63, 564, 565, 566, 38, 567, 52, 924, 925, 926, 927, 928, 929, 951, 952, 953, 941, 942, 943, 944, 945, 946, 947, 948, 949, 950, 958, 959] (by decide +kernel) (by decide +kernel)) (goodIn_sub (fun _ h => List.mem_append_left _ (List.mem_append_right _ h)) (by decide +kernel))
set_option maxRecDepth 20000 in
theorem gL_law_L_undo : GoodIn wsL_law (va_wsS RL 145 yL_undo wsL_undo) := goodIn_app (goodIn_of _ (by decide +kernel)) ggL_law_L_undo
set_option maxRecDepth 20000 in
theorem ggL_law_X8_undo : GoodIn wsL_law wsX8_undo := goodIn_r _ [696, 443, 100, 98, 149, 150, 151, 5, 152, 153, 444, 445, 446, 930, 931, 932, 933, 934, 935, 936, 937, 938, 939, 940] (by decide +kernel) (by decide +kernel)
set_option maxRecDepth 20000 in
theorem gL_law_X8_undo : GoodIn wsL_law (wsV RL 147 RX8 yX8_undo wsX8_undo) := goodIn_app (goodIn_of _ (by decide +kernel)) ggL_law_X8_undo
set_option maxRecDepth 20000 in
theorem ggL_law_L_would : GoodIn wsL_law wsL_would := goodIn_ca (goodIn_ca (goodIn_r _ [699, 473, 111, 700, 701, 702, 2, 703, 17, 514, 515, 516, 517, 518, 349, 350, 16, 351, 58, 486, 487, 488, 489, 490, 117, 118, 119, 120, 121, 122, 123, 124, 606, 345, 346, 347, 40, 348, 352, 353, 354, 355, 356, 183, 184, 38, 185, 46, 52, 357, 358, 359, 360, 361, 362, 363, 364, 57, 39, 365, 366, 367, 368, 41, 369, 370, 371, 372, 373, 374, 375, 376, 377, 378, 379, 380, 381, 382, 383, 384, 385, 386, 387, 388, 389, 390, 391, 392, 393, 704, 399, 400, 401, 402, 403, 404, 405, 406, 407, 705, 706, 707, 708, 416, 417, 418, 419, 709, 409, 410, 411, 924, 925, 926, 927, 928, 929, 941, 942, 943, 944, 945, 946, 947, 948, 949, 950, 958, 959] (by decide +kernel) (by decide +kernel)) (goodIn_sub (fun _ h => List.mem_append_right _ h) (by decide +kernel))) (goodIn_sub (fun _ h => List.mem_append_left _ (List.mem_append_left _ (List.mem_append_right _ h))) (by decide +kernel))
set_option maxRecDepth 20000 in
theorem gL_law_L_would : GoodIn wsL_law (va_wsS RL 148 yL_would wsL_would) := goodIn_app (goodIn_of _ (by decide +kernel)) ggL_law_L_would
set_option maxRecDepth 20000 in
theorem ggL_law_X8_would : GoodIn wsL_law wsX8_would := goodIn_r _ [713, 98, 596, 99, 243, 244, 5, 245, 146, 147, 148, 149, 150, 151, 152, 153, 240, 241, 242, 246, 247, 248, 249, 250, 251, 252, 253, 254, 255, 256, 257, 258, 259, 260, 261, 262, 263, 264, 265, 266, 267, 268, 269, 270, 271, 272, 273, 274, 275, 276, 277, 278, 279, 280, 281, 282, 283, 284, 444, 445, 446, 285, 286, 287, 288, 289, 290, 226, 227, 228, 930, 931, 932, 933, 934, 935, 936, 937, 938, 939, 940] (by decide +kernel) (by decide +kernel)
set_option maxRecDepth 20000 in
theorem gL_law_X8_would : GoodIn wsL_law (wsV RL 150 RX8 yX8_would wsX8_would) := goodIn_app (goodIn_of _ (by decide +kernel)) ggL_law_X8_would
set_option maxRecDepth 20000 in
theorem ggL_law_L_why : GoodIn wsL_law wsL_why := goodIn_ca (goodIn_r _ [716, 473, 717, 718, 719, 2, 720, 17, 514, 515, 516, 517, 518, 349, 350, 16, 351, 58, 486, 487, 488, 489, 490, 478, 479, 480, 481, 482, 483, 484, 485, 57, 721, 722, 723, 724, 39, 356, 183, 184, 38, 185, 46, 52, 361, 362, 363, 364, 40, 377, 378, 365, 366, 367, 368, 41, 369, 370, 371, 372, 373, 374, 375, 376, 344, 345, 346, 347, 348, 352, 353, 354, 355, 357, 358, 359, 360, 379, 380, 381, 382, 383, 384, 385, 386, 387, 388, 389, 390, 391, 392, 393, 924, 925, 926, 927, 928, 929, 941, 942, 943, 944, 945, 946, 947, 948, 949, 950, 958, 959] (by decide +kernel) (by decide +kernel)) (goodIn_sub (fun _ h => List.mem_append_right _ h) (by decide +kernel))
set_option maxRecDepth 20000 in
theorem gL_law_L_why : GoodIn wsL_law (va_wsS RL 151 yL_why wsL_why) := goodIn_app (goodIn_of _ (by decide +kernel)) ggL_law_L_why
set_option maxRecDepth 20000 in
theorem ggL_law_X8_why : GoodIn wsL_law wsX8_why := goodIn_r _ [728, 98, 243, 244, 5, 245, 146, 147, 148, 504, 505, 506, 149, 150, 151, 152, 153, 273, 274, 275, 264, 265, 266, 246, 247, 248, 276, 277, 278, 255, 256, 257, 258, 259, 260, 261, 262, 263, 240, 241, 242, 249, 250, 251, 252, 253, 254, 267, 268, 269, 270, 271, 272, 279, 280, 281, 282, 283, 284, 930, 931, 932, 933, 934, 935, 936, 937, 938, 939, 940] (by decide +kernel) (by decide +kernel)
set_option maxRecDepth 20000 in
theorem gL_law_X8_why : GoodIn wsL_law (wsV RL 153 RX8 yX8_why wsX8_why) := goodIn_app (goodIn_of _ (by decide +kernel)) ggL_law_X8_why
set_option maxRecDepth 20000 in
theorem ggL_law_X7_cheapest : GoodIn wsL_law wsX7_cheapest := goodIn_r _ [732, 17, 606, 345, 346, 16, 347, 40, 348, 349, 350, 351, 58, 352, 353, 354, 355, 356, 183, 184, 38, 185, 46, 52, 357, 358, 359, 360, 361, 362, 363, 364, 57, 39, 365, 366, 367, 368, 41, 369, 370, 371, 372, 373, 374, 375, 376, 377, 2, 378, 379, 380, 381, 382, 383, 384, 385, 386, 387, 388, 389, 390, 391, 392, 393, 733, 734, 735, 736, 398, 399, 400, 401, 402, 403, 404, 405, 406, 407, 737, 706, 707, 708, 416, 417, 418, 419, 924, 925, 926, 927, 928, 929, 941, 942, 943, 944, 945, 946, 947, 948, 949, 950, 958, 959] (by decide +kernel) (by decide +kernel)
set_option maxRecDepth 20000 in
theorem gL_law_X7_cheapest : GoodIn wsL_law (wsV RL 154 RX7 yX7_cheapest wsX7_cheapest) := goodIn_app (goodIn_of _ (by decide +kernel)) ggL_law_X7_cheapest
set_option maxRecDepth 20000 in
theorem ggL_law_X8_cheapest : GoodIn wsL_law wsX8_cheapest := goodIn_r _ [741, 153, 98, 99, 444, 445, 5, 446, 742, 743, 744, 240, 241, 242, 243, 244, 245, 146, 147, 148, 246, 247, 248, 249, 250, 251, 252, 253, 254, 255, 256, 257, 258, 259, 260, 261, 262, 263, 264, 265, 266, 267, 268, 269, 270, 271, 272, 273, 274, 275, 276, 277, 278, 279, 280, 281, 282, 283, 284, 745, 746, 747, 285, 286, 287, 288, 289, 290, 226, 227, 228, 930, 931, 932, 933, 934, 935, 936, 937, 938, 939, 940] (by decide +kernel) (by decide +kernel)
set_option maxRecDepth 20000 in
theorem gL_law_X8_cheapest : GoodIn wsL_law (wsV RL 157 RX8 yX8_cheapest wsX8_cheapest) := goodIn_app (goodIn_of _ (by decide +kernel)) ggL_law_X8_cheapest
set_option maxRecDepth 20000 in
theorem ggL_law_L_lacks : GoodIn wsL_law wsL_lacks := goodIn_ca (goodIn_r _ [750, 473, 751, 752, 753, 2, 754, 17, 514, 515, 516, 517, 518, 349, 350, 16, 351, 58, 486, 487, 488, 489, 490, 755, 756, 757, 758, 40, 356, 183, 184, 38, 185, 46, 52, 357, 358, 359, 360, 361, 362, 363, 364, 57, 39, 365, 366, 367, 368, 41, 369, 370, 371, 372, 373, 374, 375, 376, 377, 378, 379, 380, 381, 382, 383, 384, 385, 386, 387, 388, 389, 390, 391, 392, 393, 924, 925, 926, 927, 928, 929, 941, 942, 943, 944, 945, 946, 947, 948, 949, 950, 958, 959] (by decide +kernel) (by decide +kernel)) (goodIn_sub (fun _ h => List.mem_append_right _ h) (by decide +kernel))
set_option maxRecDepth 20000 in
theorem gL_law_L_lacks : GoodIn wsL_law (va_wsS RL 158 yL_lacks wsL_lacks) := goodIn_app (goodIn_of _ (by decide +kernel)) ggL_law_L_lacks
set_option maxRecDepth 20000 in
theorem ggL_law_X8_lacks : GoodIn wsL_law wsX8_lacks := goodIn_r _ [762, 98, 243, 244, 5, 245, 146, 147, 148, 149, 150, 151, 152, 153, 249, 250, 251, 246, 247, 248, 252, 253, 254, 255, 256, 257, 258, 259, 260, 261, 262, 263, 264, 265, 266, 267, 268, 269, 270, 271, 272, 273, 274, 275, 276, 277, 278, 279, 280, 281, 282, 283, 284, 930, 931, 932, 933, 934, 935, 936, 937, 938, 939, 940] (by decide +kernel) (by decide +kernel)
set_option maxRecDepth 20000 in
theorem gL_law_X8_lacks : GoodIn wsL_law (wsV RL 160 RX8 yX8_lacks wsX8_lacks) := goodIn_app (goodIn_of _ (by decide +kernel)) ggL_law_X8_lacks
set_option maxRecDepth 20000 in
theorem ggL_law_L_order : GoodIn wsL_law wsL_order := goodIn_ca (goodIn_ca (goodIn_r _ [765, 473, 111, 766, 767, 768, 2, 769, 514, 515, 516, 517, 17, 518, 349, 350, 16, 351, 58, 486, 487, 488, 489, 490, 120, 121, 122, 123, 124, 770, 771, 772, 773, 18, 774, 561, 562, 563, 39, 40, 41, 57, 59, 60, 61, 62, 63, 564, 565, 566, 38, 567, 52, 340, 341, 342, 343, 344, 345, 346, 347, 348, 352, 353, 354, 355, 356, 183, 184, 185, 46, 357, 358, 359, 360, 361, 362, 363, 364, 365, 366, 367, 368, 369, 370, 371, 372, 373, 374, 375, 376, 377, 378, 379, 380, 381, 382, 383, 384, 385, 386, 387, 388, 389, 390, 391, 392, 393, 394, 395, 396, 397, 398, 399, 400, 401, 402, 403, 404, 405, 406, 407, 408, 409, 410, 411, 412, 413, 414, 415, 416, 417, 418, 419, 420, 421, 422, 423, 424, 425, 69, 70, 71, 68, 775, 776, 777, 778, 924, 925, 926, 927, 928, 929, 941, 942, 943, 944, 945, 946, 947, 948, 949, 950, 958, 959] (by decide +kernel) (by decide +kernel)) (goodIn_sub (fun _ h => List.mem_append_right _ h) (by decide +kernel))) (goodIn_sub (fun _ h => List.mem_append_left _ (List.mem_append_left _ (List.mem_append_right _ h))) (by decide +kernel))
set_option maxRecDepth 20000 in
theorem gL_law_L_order : GoodIn wsL_law (va_wsS RL 161 yL_order wsL_order) := goodIn_app (goodIn_of _ (by decide +kernel)) ggL_law_L_order
set_option maxRecDepth 20000 in
theorem ggL_law_X8_order : GoodIn wsL_law wsX8_order := goodIn_r _ [782, 98, 243, 244, 5, 245, 146, 147, 148, 149, 150, 151, 152, 153, 783, 784, 785, 786, 99, 444, 445, 446, 742, 743, 744, 240, 241, 242, 246, 247, 248, 249, 250, 251, 252, 253, 254, 255, 256, 257, 258, 259, 260, 261, 262, 263, 264, 265, 266, 267, 268, 269, 270, 271, 272, 273, 274, 275, 276, 277, 278, 279, 280, 281, 282, 283, 284, 745, 746, 747, 285, 286, 287, 288, 289, 290, 226, 227, 228, 930, 931, 932, 933, 934, 935, 936, 937, 938, 939, 940] (by decide +kernel) (by decide +kernel)
set_option maxRecDepth 20000 in
theorem gL_law_X8_order : GoodIn wsL_law (wsV RL 163 RX8 yX8_order wsX8_order) := goodIn_app (goodIn_of _ (by decide +kernel)) ggL_law_X8_order
set_option maxRecDepth 20000 in
theorem ggL_law_L_runScript : GoodIn wsL_law wsL_runScript := goodIn_ca (goodIn_r _ [789, 111, 790, 791, 792, 2, 793, 18, 17, 117, 118, 119, 120, 121, 122, 123, 124, 794, 795, 796, 797, 774, 561, 562, 16, 563, 39, 40, 41, 57, 58, 59, 60, 61, 62, 63, 564, 565, 566, 38, 567, 52, 798, 799, 800, 801, 802, 803, 804, 805, 341, 342, 343, 344, 345, 346, 347, 348, 349, 350, 351, 352, 353, 354, 355, 356, 183, 184, 185, 46, 357, 358, 359, 360, 361, 362, 363, 364, 365, 366, 367, 368, 369, 370, 371, 372, 373, 374, 375, 376, 377, 378, 379, 380, 381, 382, 383, 384, 385, 386, 387, 388, 389, 390, 391, 392, 393, 394, 395, 396, 397, 398, 399, 400, 401, 402, 403, 404, 405, 406, 407, 408, 409, 410, 411, 412, 413, 414, 415, 416, 417, 418, 419, 420, 421, 422, 423, 424, 425, 69, 70, 71, 68, 806, 427, 428, 429, 430, 431, 432, 433, 807, 435, 436, 437, 808, 809, 810, 811, 812, 620, 621, 622, 623, 483, 484, 485, 813, 625, 626, 627, 814, 815, 816, 662, 663, 817, 665, 666, 667, 668, 535, 536, 537, 818, 819, 820, 821, 822, 823, 824, 825, 826, 827, 828, 829, 830, 831, 832, 833, 834, 835, 836, 837, 838, 924, 925, 926, 927, 928, 929, 941, 942, 943, 944, 945, 946, 947, 948, 949, 950, 958, 959] (by decide +kernel) (by decide +kernel)) (goodIn_sub (fun _ h => List.mem_append_left _ (List.mem_append_left _ (List.mem_append_right _ h))) (by decide +kernel))
set_option maxRecDepth 20000 in
theorem gL_law_L_runScript : GoodIn wsL_law (va_wsS RL 166 yL_runScript wsL_runScript) := goodIn_app (goodIn_of _ (by decide +kernel)) ggL_law_L_runScript
set_option maxRecDepth 20000 in
theorem ggL_law_X8_runScript : GoodIn wsL_law wsX8_runScript := goodIn_r _ [842, 843, 596, 98, 99, 146, 147, 5, 148, 149, 150, 151, 152, 153, 444, 445, 446, 844, 845, 846, 847, 240, 241, 242, 243, 244, 245, 246, 247, 248, 249, 250, 251, 252, 253, 254, 255, 256, 257, 258, 259, 260, 261, 262, 263, 264, 265, 266, 267, 268, 269, 270, 271, 272, 273, 274, 275, 276, 277, 278, 279, 280, 281, 282, 283, 284, 285, 286, 287, 288, 289, 290, 226, 227, 228, 291, 292, 293, 294, 295, 296, 504, 505, 506, 848, 849, 850, 632, 633, 634, 635, 636, 637, 673, 674, 675, 598, 676, 677, 930, 931, 932, 933, 934, 935, 936, 937, 938, 939, 940] (by decide +kernel) (by decide +kernel)
set_option maxRecDepth 20000 in
theorem gL_law_X8_runScript : GoodIn wsL_law (wsV RL 169 RX8 yX8_runScript wsX8_runScript) := goodIn_app (goodIn_of _ (by decide +kernel)) ggL_law_X8_runScript
set_option maxRecDepth 20000 in
theorem ggL_law_L_simulate : GoodIn wsL_law wsL_simulate := goodIn_ca (goodIn_r _ [853, 111, 854, 855, 856, 2, 857, 18, 17, 858, 859, 860, 861, 49, 862, 117, 118, 119, 120, 121, 122, 123, 124, 774, 561, 562, 16, 563, 39, 40, 41, 57, 58, 59, 60, 61, 62, 63, 564, 565, 566, 38, 567, 52, 863, 864, 865, 866, 867, 325, 326, 327, 328, 329, 330, 331, 68, 69, 70, 71, 46, 868, 333, 334, 335, 336, 337, 338, 339, 869, 427, 428, 429, 356, 183, 184, 185, 430, 431, 432, 433, 425, 870, 435, 436, 437, 871, 665, 666, 667, 668, 535, 536, 537, 872, 341, 342, 343, 344, 345, 346, 347, 348, 349, 350, 351, 352, 353, 354, 355, 357, 358, 359, 360, 361, 362, 363, 364, 365, 366, 367, 368, 369, 370, 371, 372, 373, 374, 375, 376, 377, 378, 379, 380, 381, 382, 383, 384, 385, 386, 387, 388, 389, 390, 391, 392, 393, 394, 395, 396, 397, 398, 399, 400, 401, 402, 403, 404, 405, 406, 407, 408, 409, 410, 411, 412, 413, 414, 415, 416, 417, 418, 419, 420, 421, 422, 423, 424, 873, 459, 460, 461, 874, 832, 833, 834, 924, 925, 926, 927, 928, 929, 941, 942, 943, 944, 945, 946, 947, 948, 949, 950, 958, 959] (by decide +kernel) (by decide +kernel)) (goodIn_sub (fun _ h => List.mem_append_left _ (List.mem_append_left _ (List.mem_append_right _ h))) (by decide +kernel))
set_option maxRecDepth 20000 in
theorem gL_law_L_simulate : GoodIn wsL_law (va_wsS RL 170 yL_simulate wsL_simulate) := goodIn_app (goodIn_of _ (by decide +kernel)) ggL_law_L_simulate
set_option maxRecDepth 20000 in
theorem ggL_law_X8_simulate : GoodIn wsL_law wsX8_simulate := goodIn_r _ [878, 879, 98, 99, 880, 881, 146, 147, 5, 148, 149, 150, 151, 152, 153, 444, 445, 446, 882, 883, 884, 223, 224, 225, 226, 227, 228, 237, 238, 239, 291, 292, 293, 264, 265, 266, 294, 295, 296, 240, 241, 242, 243, 244, 245, 246, 247, 248, 249, 250, 251, 252, 253, 254, 255, 256, 257, 258, 259, 260, 261, 262, 263, 267, 268, 269, 270, 271, 272, 273, 274, 275, 276, 277, 278, 279, 280, 281, 282, 283, 284, 285, 286, 287, 288, 289, 290, 467, 468, 469, 930, 931, 932, 933, 934, 935, 936, 937, 938, 939, 940] (by decide +kernel) (by decide +kernel)
set_option maxRecDepth 20000 in
theorem gL_law_X8_simulate : GoodIn wsL_law (wsV RL 173 RX8 yX8_simulate wsX8_simulate) := goodIn_app (goodIn_of _ (by decide +kernel)) ggL_law_X8_simulate
set_option maxRecDepth 20000 in
theorem ggL_law_L_save : GoodIn wsL_law wsL_save := goodIn_ca (goodIn_r _ [887, 473, 888, 889, 890, 2, 891, 17, 117, 118, 119, 486, 487, 488, 489, 490, 892, 893, 894, 895, 26, 27, 896, 897, 898, 25, 899, 84, 314, 900, 561, 562, 16, 563, 39, 40, 41, 57, 58, 59, 60, 61, 62, 63, 564, 565, 566, 38, 567, 52, 873, 459, 460, 461, 352, 353, 354, 355, 356, 183, 184, 185, 46, 924, 925, 926, 927, 928, 929, 954, 955, 941, 942, 943, 944, 945, 946, 947, 948, 949, 950, 958, 959] (by decide +kernel) (by decide +kernel)) (goodIn_sub (fun _ h => List.mem_append_right _ h) (by decide +kernel))
set_option maxRecDepth 20000 in
theorem gL_law_L_save : GoodIn wsL_law (va_wsS RL 174 yL_save wsL_save) := goodIn_app (goodIn_of _ (by decide +kernel)) ggL_law_L_save
set_option maxRecDepth 20000 in
theorem ggL_law_X8_save : GoodIn wsL_law wsX8_save := goodIn_r _ [904, 98, 101, 103, 146, 147, 5, 148, 149, 150, 151, 152, 153, 444, 445, 446, 467, 468, 469, 246, 247, 248, 930, 931, 932, 933, 934, 935, 936, 937, 938, 939, 940] (by decide +kernel) (by decide +kernel)
set_option maxRecDepth 20000 in
theorem gL_law_X8_save : GoodIn wsL_law (wsV RL 176 RX8 yX8_save wsX8_save) := goodIn_app (goodIn_of _ (by decide +kernel)) ggL_law_X8_save
set_option maxRecDepth 20000 in
theorem ggL_law_L_restore : GoodIn wsL_law wsL_restore := goodIn_ca (goodIn_ca (goodIn_r _ [907, 473, 112, 908, 909, 910, 2, 911, 17, 22, 117, 118, 119, 486, 487, 488, 489, 490, 892, 893, 894, 895, 26, 27, 912, 913, 914, 25, 915, 314, 130, 131, 132, 133, 134, 916, 917, 918, 919, 84, 900, 561, 562, 16, 563, 39, 40, 41, 57, 58, 59, 60, 61, 62, 63, 564, 565, 566, 38, 567, 52, 305, 306, 307, 21, 308, 309, 873, 459, 460, 461, 352, 353, 354, 355, 356, 183, 184, 185, 46, 924, 925, 926, 927, 928, 929, 954, 955, 941, 942, 943, 944, 945, 946, 947, 948, 949, 950, 958, 959, 951, 952, 953] (by decide +kernel) (by decide +kernel)) (goodIn_sub (fun _ h => List.mem_append_right _ h) (by decide +kernel))) (goodIn_sub (fun _ h => List.mem_append_left _ (List.mem_append_right _ h)) (by decide +kernel))
set_option maxRecDepth 20000 in
theorem gL_law_L_restore : GoodIn wsL_law (va_wsS RL 177 yL_restore wsL_restore) := goodIn_app (goodIn_of _ (by decide +kernel)) ggL_law_L_restore
set_option maxRecDepth 20000 in
theorem ggL_law_X8_restore : GoodIn wsL_law wsX8_restore := goodIn_r _ [923, 103, 101, 98, 443, 146, 147, 5, 148, 149, 150, 151, 152, 153, 444, 445, 446, 467, 468, 469, 246, 247, 248, 930, 931, 932, 933, 934, 935, 936, 937, 938, 939, 940] (by decide +kernel) (by decide +kernel)
set_option maxRecDepth 20000 in
theorem gL_law_X8_restore : GoodIn wsL_law (wsV RL 179 RX8 yX8_restore wsX8_restore) := goodIn_app (goodIn_of _ (by decide +kernel)) ggL_law_X8_restore
