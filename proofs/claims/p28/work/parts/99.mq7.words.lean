/-! ===== the law: words ===== -/
theorem gw_doScript_wsL_doScript_r2 : GoodIn wsL_law wsL_doScript_r2 := goodIn_r _ [12, 396, 35, 36, 37, 53, 54, 55, 56, 57, 58, 59, 397, 398, 399, 34, 400, 48, 573, 574, 575, 576, 577, 578] (by decide +kernel) (by decide +kernel)
theorem gw_doScript_wsL_doScript_r3 : GoodIn wsL_law wsL_doScript_r3 := goodIn_r _ [579, 580, 206, 207, 208, 209, 210, 211, 212, 213, 214, 215, 216, 217, 218, 219, 220, 221, 148, 149, 150, 42, 222, 223] (by decide +kernel) (by decide +kernel)
theorem gw_doScript_wsL_doScript_r4 : GoodIn wsL_law wsL_doScript_r4 := goodIn_r _ [224, 225, 226, 227, 228, 229, 230, 231, 232, 233, 234, 235, 236, 237, 238, 239, 240, 241, 242, 243, 244, 245, 246, 247] (by decide +kernel) (by decide +kernel)
theorem gw_doScript_wsL_doScript_r5 : GoodIn wsL_law wsL_doScript_r5 := goodIn_r _ [248, 249, 250, 251, 252, 253, 254, 255, 256, 257, 258, 259, 260, 261, 262, 263, 264, 265, 266, 267, 268, 269, 270, 271] (by decide +kernel) (by decide +kernel)
