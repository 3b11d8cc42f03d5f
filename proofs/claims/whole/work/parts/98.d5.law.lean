/-! ===== names of the law, printed ===== -/
set_option maxRecDepth 20000 in
theorem ggL_law_X8_meal : GoodIn wsL_law wsX8_meal := goodIn_r _ [645, 153, 98, 577, 578, 579, 5, 580, 443, 100, 444, 445, 446, 291, 292, 293, 264, 265, 266, 226, 227, 228, 930, 931, 932, 933, 934, 935, 936, 937, 938, 939, 940] (by decide +kernel) (by decide +kernel)
set_option maxRecDepth 20000 in
theorem gL_law_X8_meal : GoodIn wsL_law (wsV RL 137 RX8 yX8_meal wsX8_meal) := goodIn_app (goodIn_of _ (by decide +kernel)) ggL_law_X8_meal
set_option maxRecDepth 20000 in
theorem ggL_law_X7_nextDay : GoodIn wsL_law wsX7_nextDay := goodIn_r _ [649, 22, 17, 551, 552, 553, 21, 554, 309, 555, 556, 557, 558, 559, 77, 560, 561, 562, 16, 563, 39, 40, 41, 57, 58, 59, 60, 61, 62, 63, 564, 565, 566, 38, 567, 52, 434, 435, 436, 437, 430, 431, 432, 433, 46, 425, 69, 70, 71, 924, 925, 926, 927, 928, 929, 951, 952, 953, 941, 942, 943, 944, 945, 946, 947, 948, 949, 950, 958, 959] (by decide +kernel) (by decide +kernel)
set_option maxRecDepth 20000 in
theorem gL_law_X7_nextDay : GoodIn wsL_law (wsV RL 138 RX7 yX7_nextDay wsX7_nextDay) := goodIn_app (goodIn_of _ (by decide +kernel)) ggL_law_X7_nextDay
set_option maxRecDepth 20000 in
theorem ggL_law_X8_nextDay : GoodIn wsL_law wsX8_nextDay := goodIn_r _ [653, 153, 98, 577, 578, 579, 5, 580, 443, 100, 444, 445, 446, 294, 295, 296, 291, 292, 293, 264, 265, 266, 226, 227, 228, 930, 931, 932, 933, 934, 935, 936, 937, 938, 939, 940] (by decide +kernel) (by decide +kernel)
set_option maxRecDepth 20000 in
theorem gL_law_X8_nextDay : GoodIn wsL_law (wsV RL 141 RX8 yX8_nextDay wsX8_nextDay) := goodIn_app (goodIn_of _ (by decide +kernel)) ggL_law_X8_nextDay
set_option maxRecDepth 20000 in
theorem ggL_law_L_set : GoodIn wsL_law wsL_set := goodIn_ca (goodIn_r _ [656, 111, 657, 658, 659, 2, 660, 22, 17, 661, 662, 663, 117, 118, 119, 120, 121, 122, 123, 124, 551, 552, 553, 21, 554, 309, 555, 556, 557, 558, 559, 77, 560, 561, 562, 16, 563, 39, 40, 41, 57, 58, 59, 60, 61, 62, 63, 564, 565, 566, 38, 567, 52, 664, 665, 666, 667, 668, 535, 536, 537, 356, 183, 184, 185, 46, 68, 69, 70, 71, 924, 925, 926, 927, 928, 929, 951, 952, 953, 941, 942, 943, 944, 945, 946, 947, 948, 949, 950, 958, 959] (by decide +kernel) (by decide +kernel)) (goodIn_sub (fun _ h => List.mem_append_left _ (List.mem_append_left _ (List.mem_append_right _ h))) (by decide +kernel))
set_option maxRecDepth 20000 in
theorem gL_law_L_set : GoodIn wsL_law (va_wsS RL 142 yL_set wsL_set) := goodIn_app (goodIn_of _ (by decide +kernel)) ggL_law_L_set
set_option maxRecDepth 20000 in
theorem ggL_law_X8_set : GoodIn wsL_law wsX8_set := goodIn_r _ [672, 98, 673, 674, 5, 675, 598, 676, 677, 146, 147, 148, 149, 150, 151, 152, 153, 577, 578, 579, 580, 443, 100, 444, 445, 446, 930, 931, 932, 933, 934, 935, 936, 937, 938, 939, 940] (by decide +kernel) (by decide +kernel)
set_option maxRecDepth 20000 in
theorem gL_law_X8_set : GoodIn wsL_law (wsV RL 144 RX8 yX8_set wsX8_set) := goodIn_app (goodIn_of _ (by decide +kernel)) ggL_law_X8_set
set_option maxRecDepth 20000 in
theorem ggL_law_L_undo : GoodIn wsL_law wsL_undo := goodIn_ca (goodIn_r _ [680, 112, 681, 682, 683, 2, 684, 22, 17, 685, 686, 687, 21, 688, 309, 130, 131, 132, 133, 134, 689, 690, 691, 692, 556, 557, 558, 559, 555, 77, 560, 561, 562, 16, 563, 39, 40, 41, 57, 58, 59, 60, 61, 62, 63, 564, 565, 566, 38, 567, 52, 924, 925, 926, 927, 928, 929, 951, 952, 953, 941, 942, 943, 944, 945, 946, 947, 948, 949, 950, 958, 959] (by decide +kernel) (by decide +kernel)) (goodIn_sub (fun _ h => List.mem_append_left _ (List.mem_append_right _ h)) (by decide +kernel))
set_option maxRecDepth 20000 in
theorem gL_law_L_undo : GoodIn wsL_law (va_wsS RL 145 yL_undo wsL_undo) := goodIn_app (goodIn_of _ (by decide +kernel)) ggL_law_L_undo
set_option maxRecDepth 20000 in
theorem ggL_law_X8_undo : GoodIn wsL_law wsX8_undo := goodIn_r _ [696, 443, 100, 98, 149, 150, 151, 5, 152, 153, 444, 445, 446, 930, 931, 932, 933, 934, 935, 936, 937, 938, 939, 940] (by decide +kernel) (by decide +kernel)
set_option maxRecDepth 20000 in
theorem gL_law_X8_undo : GoodIn wsL_law (wsV RL 147 RX8 yX8_undo wsX8_undo) := goodIn_app (goodIn_of _ (by decide +kernel)) ggL_law_X8_undo
