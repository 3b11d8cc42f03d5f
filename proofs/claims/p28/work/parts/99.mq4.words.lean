/-! ===== the law: words ===== -/
theorem gw_call_wsL_call_r13 : GoodIn wsL_law wsL_call_r13 := goodIn_r _ [350, 351, 352, 353, 354, 355, 356, 357, 358, 359, 360, 361, 362, 363, 364, 365, 366, 367, 368, 369, 370, 371, 372, 373] (by decide +kernel) (by decide +kernel)
theorem gw_call_wsL_call_r14 : GoodIn wsL_law wsL_call_r14 := goodIn_r _ [374, 375, 376, 377, 378, 379, 380, 381, 382, 383, 384, 385, 386, 387, 388, 389, 390, 391, 392, 73, 393, 394, 395, 396] (by decide +kernel) (by decide +kernel)
theorem gw_call_wsL_call_r15 : GoodIn wsL_law wsL_call_r15 := goodIn_r _ [397, 398, 399, 400, 401, 402, 403, 404, 405, 406, 407, 408, 409, 410, 411, 412, 413, 414, 415, 416, 417, 418, 419, 420] (by decide +kernel) (by decide +kernel)
theorem gw_call_wsL_call_r16 : GoodIn wsL_law wsL_call_r16 := goodIn_r _ [421, 422, 423, 424, 425, 426, 427, 428, 429, 430, 431, 432, 433, 434, 435, 436, 437, 438, 439, 440, 441, 442, 443, 444] (by decide +kernel) (by decide +kernel)
