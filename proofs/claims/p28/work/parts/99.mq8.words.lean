/-! ===== the law: words ===== -/
theorem gw_doScript_wsL_doScript_r6 : GoodIn wsL_law wsL_doScript_r6 := goodIn_r _ [272, 273, 274, 275, 276, 277, 278, 279, 280, 281, 282, 283, 284, 285, 286, 287, 288, 289, 290, 65, 66, 67, 64, 581] (by decide +kernel) (by decide +kernel)
theorem gw_doScript_wsL_doScript_r7 : GoodIn wsL_law wsL_doScript_r7 := goodIn_r _ [292, 293, 294, 295, 296, 297, 298, 582, 300, 301, 302, 583, 584, 585, 586, 587, 418, 419, 420, 421, 333, 334, 335, 588] (by decide +kernel) (by decide +kernel)
theorem gw_doScript_wsL_doScript_r8 : GoodIn wsL_law wsL_doScript_r8 := goodIn_r _ [423, 424, 425, 589, 590, 591, 434, 435, 592, 437, 438, 439, 440, 373, 374, 375, 593, 594, 595, 596, 597, 598, 599, 600] (by decide +kernel) (by decide +kernel)
theorem gw_doScript_wsL_doScript_r9 : GoodIn wsL_law wsL_doScript_r9 := goodIn_r _ [601, 602, 603, 604, 605, 606, 607, 608, 609, 610, 611, 612, 613] (by decide +kernel) (by decide +kernel)
theorem gw_doSimulate_h : GoodIn wsL_law [Cond.codeWith yL_doSimulate cL_doSimulate 5 (some .int) [(0, 6, 7, 13)]] := goodIn_r _ [616] (by decide +kernel) (by decide +kernel)
