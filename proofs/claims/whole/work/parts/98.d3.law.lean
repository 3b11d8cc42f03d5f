/-! ===== names of the law, printed ===== -/
set_option maxRecDepth 20000 in
theorem ggL_law_X8_extraOf : GoodIn wsL_law wsX8_extraOf := goodIn_r _ [502, 98, 503, 504, 505, 5, 506, 146, 147, 148, 149, 150, 151, 152, 153, 246, 247, 248, 261, 262, 263, 264, 265, 266, 930, 931, 932, 933, 934, 935, 936, 937, 938, 939, 940] (by decide +kernel) (by decide +kernel)
set_option maxRecDepth 20000 in
theorem gL_law_X8_extraOf : GoodIn wsL_law (wsV RL 113 RX8 yX8_extraOf wsX8_extraOf) := goodIn_app (goodIn_of _ (by decide +kernel)) ggL_law_X8_extraOf
set_option maxRecDepth 20000 in
theorem ggL_law_L_sceneOf : GoodIn wsL_law wsL_sceneOf := goodIn_ca (goodIn_ca (goodIn_r _ [509, 473, 111, 510, 511, 512, 2, 513, 17, 514, 515, 516, 517, 518, 349, 350, 16, 351, 58, 486, 487, 488, 489, 490, 117, 118, 119, 120, 121, 122, 123, 124, 519, 520, 521, 522, 40, 352, 353, 354, 355, 356, 183, 184, 38, 185, 46, 52, 369, 370, 371, 372, 373, 374, 375, 376, 57, 39, 377, 378, 924, 925, 926, 927, 928, 929, 941, 942, 943, 944, 945, 946, 947, 948, 949, 950, 958, 959] (by decide +kernel) (by decide +kernel)) (goodIn_sub (fun _ h => List.mem_append_right _ h) (by decide +kernel))) (goodIn_sub (fun _ h => List.mem_append_left _ (List.mem_append_left _ (List.mem_append_right _ h))) (by decide +kernel))
set_option maxRecDepth 20000 in
theorem gL_law_L_sceneOf : GoodIn wsL_law (va_wsS RL 114 yL_sceneOf wsL_sceneOf) := goodIn_app (goodIn_of _ (by decide +kernel)) ggL_law_L_sceneOf
set_option maxRecDepth 20000 in
theorem ggL_law_X8_sceneOf : GoodIn wsL_law wsX8_sceneOf := goodIn_r _ [526, 98, 466, 243, 244, 5, 245, 146, 147, 148, 149, 150, 151, 152, 153, 246, 247, 248, 255, 256, 257, 258, 259, 260, 261, 262, 263, 264, 265, 266, 930, 931, 932, 933, 934, 935, 936, 937, 938, 939, 940] (by decide +kernel) (by decide +kernel)
set_option maxRecDepth 20000 in
theorem gL_law_X8_sceneOf : GoodIn wsL_law (wsV RL 116 RX8 yX8_sceneOf wsX8_sceneOf) := goodIn_app (goodIn_of _ (by decide +kernel)) ggL_law_X8_sceneOf
set_option maxRecDepth 20000 in
theorem ggL_law_L_setting : GoodIn wsL_law wsL_setting := goodIn_ca (goodIn_r _ [529, 111, 530, 531, 532, 2, 533, 17, 117, 118, 119, 120, 121, 122, 123, 124, 534, 535, 536, 16, 537, 41, 356, 183, 184, 38, 185, 46, 52, 924, 925, 926, 927, 928, 929, 941, 942, 943, 944, 945, 946, 947, 948, 949, 950, 958, 959] (by decide +kernel) (by decide +kernel)) (goodIn_sub (fun _ h => List.mem_append_left _ (List.mem_append_left _ (List.mem_append_right _ h))) (by decide +kernel))
set_option maxRecDepth 20000 in
theorem gL_law_L_setting : GoodIn wsL_law (va_wsS RL 117 yL_setting wsL_setting) := goodIn_app (goodIn_of _ (by decide +kernel)) ggL_law_L_setting
set_option maxRecDepth 20000 in
theorem ggL_law_X8_setting : GoodIn wsL_law wsX8_setting := goodIn_r _ [541, 542, 98, 146, 147, 5, 148, 149, 150, 151, 152, 153, 930, 931, 932, 933, 934, 935, 936, 937, 938, 939, 940] (by decide +kernel) (by decide +kernel)
set_option maxRecDepth 20000 in
theorem gL_law_X8_setting : GoodIn wsL_law (wsV RL 119 RX8 yX8_setting wsX8_setting) := goodIn_app (goodIn_of _ (by decide +kernel)) ggL_law_X8_setting
set_option maxRecDepth 20000 in
theorem ggL_law_L_extra : GoodIn wsL_law wsL_extra := goodIn_ca (goodIn_ca (goodIn_r _ [545, 111, 112, 546, 547, 548, 2, 549, 17, 22, 117, 118, 119, 120, 121, 122, 123, 124, 550, 329, 330, 16, 331, 57, 130, 131, 132, 133, 134, 551, 552, 553, 21, 554, 309, 555, 556, 557, 558, 559, 77, 560, 561, 562, 563, 39, 40, 41, 58, 59, 60, 61, 62, 63, 564, 565, 566, 38, 567, 52, 324, 325, 326, 327, 328, 68, 69, 70, 71, 46, 924, 925, 926, 927, 928, 929, 941, 942, 943, 944, 945, 946, 947, 948, 949, 950, 951, 952, 953, 958, 959] (by decide +kernel) (by decide +kernel)) (goodIn_sub (fun _ h => List.mem_append_left _ (List.mem_append_left _ (List.mem_append_right _ h))) (by decide +kernel))) (goodIn_sub (fun _ h => List.mem_append_left _ (List.mem_append_right _ h)) (by decide +kernel))
set_option maxRecDepth 20000 in
theorem gL_law_L_extra : GoodIn wsL_law (va_wsS RL 120 yL_extra wsL_extra) := goodIn_app (goodIn_of _ (by decide +kernel)) ggL_law_L_extra
set_option maxRecDepth 20000 in
theorem ggL_law_X8_extra : GoodIn wsL_law wsX8_extra := goodIn_r _ [571, 98, 572, 573, 5, 574, 575, 576, 146, 147, 148, 149, 150, 151, 152, 153, 577, 578, 579, 580, 443, 100, 444, 445, 446, 223, 224, 225, 226, 227, 228, 930, 931, 932, 933, 934, 935, 936, 937, 938, 939, 940] (by decide +kernel) (by decide +kernel)
set_option maxRecDepth 20000 in
theorem gL_law_X8_extra : GoodIn wsL_law (wsV RL 122 RX8 yX8_extra wsX8_extra) := goodIn_app (goodIn_of _ (by decide +kernel)) ggL_law_X8_extra
