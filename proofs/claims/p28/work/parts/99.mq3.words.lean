/-! ===== the law: words ===== -/
theorem gw_call_wsL_call_r9 : GoodIn wsL_law wsL_call_r9 := goodIn_r _ [254, 255, 256, 257, 258, 259, 260, 261, 262, 263, 264, 265, 266, 267, 268, 269, 270, 271, 272, 273, 274, 275, 276, 277] (by decide +kernel) (by decide +kernel)
theorem gw_call_wsL_call_r10 : GoodIn wsL_law wsL_call_r10 := goodIn_r _ [278, 279, 280, 281, 282, 283, 284, 285, 286, 287, 288, 289, 290, 291, 292, 293, 294, 295, 296, 297, 298, 299, 300, 301] (by decide +kernel) (by decide +kernel)
theorem gw_call_wsL_call_r11 : GoodIn wsL_law wsL_call_r11 := goodIn_r _ [302, 303, 304, 305, 306, 307, 308, 309, 310, 311, 312, 313, 314, 315, 316, 317, 318, 319, 320, 321, 322, 323, 324, 325] (by decide +kernel) (by decide +kernel)
theorem gw_call_wsL_call_r12 : GoodIn wsL_law wsL_call_r12 := goodIn_r _ [326, 327, 328, 329, 330, 331, 332, 333, 334, 335, 336, 337, 338, 339, 340, 341, 342, 343, 344, 345, 346, 347, 348, 349] (by decide +kernel) (by decide +kernel)
