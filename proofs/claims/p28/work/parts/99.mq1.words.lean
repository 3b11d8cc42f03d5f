/-! ===== the law: words ===== -/
theorem gw_call_h : GoodIn wsL_law [Cond.code yL_call cL_call 5 (some .int)] := goodIn_r _ [97] (by decide +kernel) (by decide +kernel)
theorem gw_call_wsL_call_r1 : GoodIn wsL_law wsL_call_r1 := goodIn_r _ [98, 99, 91, 100, 101, 102, 103, 104, 105, 106, 107, 2, 108, 27, 109, 110, 111, 112, 113, 114, 115, 116, 117, 118] (by decide +kernel) (by decide +kernel)
theorem gw_call_wsL_call_r2 : GoodIn wsL_law wsL_call_r2 := goodIn_r _ [119, 26, 120, 121, 122, 123, 124, 125, 126, 127, 128, 129, 130, 87, 131, 65, 66, 34, 67, 42, 48, 132, 133, 134] (by decide +kernel) (by decide +kernel)
theorem gw_call_wsL_call_r3 : GoodIn wsL_law wsL_call_r3 := goodIn_r _ [135, 136, 137, 138, 13, 18, 22, 23, 139, 140, 141, 142, 143, 144, 145, 146, 147, 148, 149, 150, 151, 152, 153, 154] (by decide +kernel) (by decide +kernel)
theorem gw_call_wsL_call_r4 : GoodIn wsL_law wsL_call_r4 := goodIn_r _ [155, 156, 157, 158, 159, 160, 161, 162, 163, 164, 165, 166, 167, 168, 169, 50, 51, 12, 52, 35, 36, 37, 53, 54] (by decide +kernel) (by decide +kernel)
