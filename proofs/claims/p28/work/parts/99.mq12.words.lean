/-! ===== the law: words ===== -/
theorem gw_meal_wsX7_meal_r1 : GoodIn wsL_law wsX7_meal_r1 := goodIn_r _ [18, 13, 384, 385, 386, 17, 387, 174, 388, 389, 390, 391, 392, 73, 393, 394, 395, 12, 396, 35, 36, 37, 53, 54] (by decide +kernel) (by decide +kernel)
theorem gw_meal_wsX7_meal_r2 : GoodIn wsL_law wsX7_meal_r2 := goodIn_r _ [55, 56, 57, 58, 59, 397, 398, 399, 34, 400, 48, 291, 292, 293, 294, 221, 148, 149, 150, 42, 295, 296, 297, 298] (by decide +kernel) (by decide +kernel)
theorem gw_meal_wsX7_meal_r3 : GoodIn wsL_law wsX7_meal_r3 := goodIn_r _ [290, 65, 66, 67] (by decide +kernel) (by decide +kernel)
theorem gw_nextDay_h : GoodIn wsL_law [Cond.code yX7_nextDay cX7_nextDay 1 (some .int)] := goodIn_r _ [557] (by decide +kernel) (by decide +kernel)
theorem gw_nextDay_wsX7_nextDay_r1 : GoodIn wsL_law wsX7_nextDay_r1 := goodIn_r _ [18, 13, 384, 385, 386, 17, 387, 174, 388, 389, 390, 391, 392, 73, 393, 394, 395, 12, 396, 35, 36, 37, 53, 54] (by decide +kernel) (by decide +kernel)
theorem gw_nextDay_wsX7_nextDay_r2 : GoodIn wsL_law wsX7_nextDay_r2 := goodIn_r _ [55, 56, 57, 58, 59, 397, 398, 399, 34, 400, 48, 299, 300, 301, 302, 295, 296, 297, 298, 42, 290, 65, 66, 67] (by decide +kernel) (by decide +kernel)
theorem gw_bits_h : GoodIn wsL_law [Cond.code yL_bits cL_bits 3 (some .int)] := goodIn_r _ [657] (by decide +kernel) (by decide +kernel)
theorem gw_thrown_h : GoodIn wsL_law [Cond.code yL_thrown cL_thrown 1 (some .boolean)] := goodIn_r _ [666] (by decide +kernel) (by decide +kernel)
