/-! ===== the law: words ===== -/
theorem gw_doSimulate_wsL_doSimulate_r5 : GoodIn wsL_law wsL_doSimulate_r5 := goodIn_r _ [207, 208, 209, 210, 211, 212, 213, 214, 215, 216, 217, 218, 219, 220, 222, 223, 224, 225, 226, 227, 228, 229, 230, 231] (by decide +kernel) (by decide +kernel)
theorem gw_doSimulate_wsL_doSimulate_r6 : GoodIn wsL_law wsL_doSimulate_r6 := goodIn_r _ [232, 233, 234, 235, 236, 237, 238, 239, 240, 241, 242, 243, 244, 245, 246, 247, 248, 249, 250, 251, 252, 253, 254, 255] (by decide +kernel) (by decide +kernel)
theorem gw_doSimulate_wsL_doSimulate_r7 : GoodIn wsL_law wsL_doSimulate_r7 := goodIn_r _ [256, 257, 258, 259, 260, 261, 262, 263, 264, 265, 266, 267, 268, 269, 270, 271, 272, 273, 274, 275, 276, 277, 278, 279] (by decide +kernel) (by decide +kernel)
theorem gw_doSimulate_wsL_doSimulate_r8 : GoodIn wsL_law wsL_doSimulate_r8 := goodIn_r _ [280, 281, 282, 283, 284, 285, 286, 287, 288, 289, 523, 316, 317, 318, 636, 607, 608, 609] (by decide +kernel) (by decide +kernel)
theorem gw_cheapest_h : GoodIn wsL_law [Cond.code yX7_cheapest cX7_cheapest 6 (some .int)] := goodIn_r _ [643] (by decide +kernel) (by decide +kernel)
