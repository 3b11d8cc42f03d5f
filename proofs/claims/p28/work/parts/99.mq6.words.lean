/-! ===== the law: words ===== -/
theorem gw_adds_wsL_adds_r1 : GoodIn wsL_law wsL_adds_r1 := goodIn_r _ [101, 102, 103, 104, 542, 543, 544, 2, 545, 13, 18, 109, 110, 111, 112, 113, 114, 115, 116, 546, 202, 203, 12, 204] (by decide +kernel) (by decide +kernel)
theorem gw_adds_wsL_adds_r2 : GoodIn wsL_law wsL_adds_r2 := goodIn_r _ [54, 122, 123, 124, 125, 126, 384, 385, 386, 17, 387, 174, 388, 389, 390, 391, 392, 73, 393, 394, 395, 396, 35, 36] (by decide +kernel) (by decide +kernel)
theorem gw_adds_wsL_adds_r3 : GoodIn wsL_law wsL_adds_r3 := goodIn_r _ [37, 53, 55, 56, 57, 58, 59, 397, 398, 399, 34, 400, 48, 197, 198, 199, 200, 201, 64, 65, 66, 67, 42] (by decide +kernel) (by decide +kernel)
theorem gw_doScript_h : GoodIn wsL_law [Cond.codeWith yL_doScript cL_doScript 5 (some .int) [(0, 6, 7, 13)]] := goodIn_r _ [564] (by decide +kernel) (by decide +kernel)
theorem gw_doScript_wsL_doScript_r1 : GoodIn wsL_law wsL_doScript_r1 := goodIn_r _ [101, 103, 565, 566, 567, 2, 568, 14, 13, 109, 110, 111, 112, 113, 114, 115, 116, 569, 570, 571, 572, 502, 394, 395] (by decide +kernel) (by decide +kernel)
