/-! ===== the law: words ===== -/
theorem gw_call_wsL_call_r5 : GoodIn wsL_law wsL_call_r5 := goodIn_r _ [55, 56, 57, 58, 59, 60, 61, 62, 63, 64, 170, 171, 172, 17, 173, 174, 175, 176, 177, 21, 178, 179, 180, 181] (by decide +kernel) (by decide +kernel)
theorem gw_call_wsL_call_r6 : GoodIn wsL_law wsL_call_r6 := goodIn_r _ [182, 183, 184, 185, 186, 187, 188, 189, 190, 191, 192, 193, 194, 195, 196, 197, 198, 199, 200, 201, 202, 203, 204, 205] (by decide +kernel) (by decide +kernel)
theorem gw_call_wsL_call_r7 : GoodIn wsL_law wsL_call_r7 := goodIn_r _ [206, 207, 208, 209, 210, 211, 212, 213, 214, 215, 216, 217, 218, 219, 220, 221, 222, 223, 224, 225, 226, 227, 228, 229] (by decide +kernel) (by decide +kernel)
theorem gw_call_wsL_call_r8 : GoodIn wsL_law wsL_call_r8 := goodIn_r _ [230, 231, 232, 233, 234, 235, 236, 237, 238, 239, 240, 241, 242, 243, 244, 245, 246, 247, 248, 249, 250, 251, 252, 253] (by decide +kernel) (by decide +kernel)
