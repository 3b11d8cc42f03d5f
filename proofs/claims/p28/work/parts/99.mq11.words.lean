/-! ===== the law: words ===== -/
theorem gw_cheapest_wsX7_cheapest_r1 : GoodIn wsL_law wsX7_cheapest_r1 := goodIn_r _ [13, 408, 210, 211, 12, 212, 36, 213, 214, 215, 216, 54, 217, 218, 219, 220, 221, 148, 149, 34, 150, 42, 48, 222] (by decide +kernel) (by decide +kernel)
theorem gw_cheapest_wsX7_cheapest_r2 : GoodIn wsL_law wsX7_cheapest_r2 := goodIn_r _ [223, 224, 225, 226, 227, 228, 229, 53, 35, 230, 231, 232, 233, 37, 234, 235, 236, 237, 238, 239, 240, 241, 242, 2] (by decide +kernel) (by decide +kernel)
theorem gw_cheapest_wsX7_cheapest_r3 : GoodIn wsL_law wsX7_cheapest_r3 := goodIn_r _ [243, 244, 245, 246, 247, 248, 249, 250, 251, 252, 253, 254, 255, 256, 257, 258, 644, 645, 646, 647, 263, 264, 265, 266] (by decide +kernel) (by decide +kernel)
theorem gw_cheapest_wsX7_cheapest_r4 : GoodIn wsL_law wsX7_cheapest_r4 := goodIn_r _ [267, 268, 269, 270, 271, 272, 648, 465, 466, 467, 281, 282, 283, 284] (by decide +kernel) (by decide +kernel)
theorem gw_meal_h : GoodIn wsL_law [Cond.code yX7_meal cX7_meal 1 (some .int)] := goodIn_r _ [553] (by decide +kernel) (by decide +kernel)
