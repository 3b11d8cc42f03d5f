/-! ===== names of the law, printed ===== -/
set_option maxRecDepth 20000 in
theorem ggL_law_L_save : GoodIn wsL_law wsL_save := goodIn_ca (goodIn_r _ [887, 473, 888, 889, 890, 2, 891, 17, 117, 118, 119, 486, 487, 488, 489, 490, 892, 893, 894, 895, 26, 27, 896, 897, 898, 25, 899, 84, 314, 900, 561, 562, 16, 563, 39, 40, 41, 57, 58, 59, 60, 61, 62, 63, 564, 565, 566, 38, 567, 52, 873, 459, 460, 461, 352, 353, 354, 355, 356, 183, 184, 185, 46, 924, 925, 926, 927, 928, 929, 954, 955, 941, 942, 943, 944, 945, 946, 947, 948, 949, 950, 958, 959] (by decide +kernel) (by decide +kernel)) (goodIn_sub (fun _ h => List.mem_append_right _ h) (by decide +kernel))
set_option maxRecDepth 20000 in
theorem gL_law_L_save : GoodIn wsL_law (va_wsS RL 174 yL_save wsL_save) := goodIn_app (goodIn_of _ (by decide +kernel)) ggL_law_L_save
set_option maxRecDepth 20000 in
theorem ggL_law_X8_save : GoodIn wsL_law wsX8_save := goodIn_r _ [904, 98, 101, 103, 146, 147, 5, 148, 149, 150, 151, 152, 153, 444, 445, 446, 467, 468, 469, 246, 247, 248, 930, 931, 932, 933, 934, 935, 936, 937, 938, 939, 940] (by decide +kernel) (by decide +kernel)
set_option maxRecDepth 20000 in
theorem gL_law_X8_save : GoodIn wsL_law (wsV RL 176 RX8 yX8_save wsX8_save) := goodIn_app (goodIn_of _ (by decide +kernel)) ggL_law_X8_save
set_option maxRecDepth 20000 in
theorem ggL_law_L_restore : GoodIn wsL_law wsL_restore := goodIn_ca (goodIn_ca (goodIn_r _ [907, 473, 112, 908, 909, 910, 2, 911, 17, 22, 117, 118, 119, 486, 487, 488, 489, 490, 892, 893, 894, 895, 26, 27, 912, 913, 914, 25, 915, 314, 130, 131, 132, 133, 134, 916, 917, 918, 919, 84, 900, 561, 562, 16, 563, 39, 40, 41, 57, 58, 59, 60, 61, 62, 63, 564, 565, 566, 38, 567, 52, 305, 306, 307, 21, 308, 309, 873, 459, 460, 461, 352, 353, 354, 355, 356, 183, 184, 185, 46, 924, 925, 926, 927, 928, 929, 954, 955, 941, 942, 943, 944, 945, 946, 947, 948, 949, 950, 958, 959, 951, 952, 953] (by decide +kernel) (by decide +kernel)) (goodIn_sub (fun _ h => List.mem_append_right _ h) (by decide +kernel))) (goodIn_sub (fun _ h => List.mem_append_left _ (List.mem_append_right _ h)) (by decide +kernel))
set_option maxRecDepth 20000 in
theorem gL_law_L_restore : GoodIn wsL_law (va_wsS RL 177 yL_restore wsL_restore) := goodIn_app (goodIn_of _ (by decide +kernel)) ggL_law_L_restore
set_option maxRecDepth 20000 in
theorem ggL_law_X8_restore : GoodIn wsL_law wsX8_restore := goodIn_r _ [923, 103, 101, 98, 443, 146, 147, 5, 148, 149, 150, 151, 152, 153, 444, 445, 446, 467, 468, 469, 246, 247, 248, 930, 931, 932, 933, 934, 935, 936, 937, 938, 939, 940] (by decide +kernel) (by decide +kernel)
set_option maxRecDepth 20000 in
theorem gL_law_X8_restore : GoodIn wsL_law (wsV RL 179 RX8 yX8_restore wsX8_restore) := goodIn_app (goodIn_of _ (by decide +kernel)) ggL_law_X8_restore
