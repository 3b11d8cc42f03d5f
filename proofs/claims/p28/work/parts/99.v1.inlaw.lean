/-! ===== the law's words are in the tables ===== -/
theorem s_mem {big ws : List Cond} (ps : List Nat) (h : ws = ps.filterMap (fun i => big[i]?)) : ∀ w ∈ ws, w ∈ big := fun w hw => by
  rw [h] at hw
  obtain ⟨i, _, hi⟩ := List.mem_filterMap.mp hw
  exact List.mem_of_getElem? hi
set_option maxRecDepth 20000 in
theorem wsL_law_r1_in : ∀ w ∈ wsL_law0_r1, w ∈ lw_tbl := s_mem [37, 38, 21, 863, 39, 40, 41, 42, 43, 44, 45, 46, 22, 160, 161, 111, 112, 25, 162, 130, 131, 26, 163, 164] (by decide +kernel)
set_option maxRecDepth 20000 in
theorem wsL_law_r2_in : ∀ w ∈ wsL_law0_r2, w ∈ lw_tbl := s_mem [145, 146, 27, 165, 47, 48, 49, 50, 51, 52, 23, 80, 81, 82, 53, 54, 55, 56, 60, 57, 58, 24, 59, 67] (by decide +kernel)
set_option maxRecDepth 20000 in
theorem wsL_law_r3_in : ∀ w ∈ wsL_law0_r3, w ∈ lw_tbl := s_mem [61, 68, 69, 70, 71, 83, 84, 85, 86, 87, 88, 89, 72, 73, 74, 75, 76, 77, 78, 79, 113, 114, 115, 116] (by decide +kernel)
set_option maxRecDepth 20000 in
theorem wsL_law_r4_in : ∀ w ∈ wsL_law0_r4, w ∈ lw_tbl := s_mem [117, 120, 119, 132, 133, 134, 135, 136, 138, 137, 147, 148, 149, 150, 151, 153, 152, 731, 732, 20, 733, 734, 735, 308] (by decide +kernel)
set_option maxRecDepth 20000 in
theorem wsL_law_r5_in : ∀ w ∈ wsL_law0_r5, w ∈ lw_tbl := s_mem [309, 310, 311, 312, 313, 182, 183, 306, 307, 314, 315, 316, 317, 188, 189, 190, 191, 192, 193, 194, 31, 318, 319, 320] (by decide +kernel)
set_option maxRecDepth 20000 in
theorem wsL_law_r6_in : ∀ w ∈ wsL_law0_r6, w ∈ lw_tbl := s_mem [321, 154, 266, 267, 268, 269, 32, 322, 323, 324, 325, 326, 327, 328, 329, 330, 331, 332, 333, 334, 335, 336, 337, 338] (by decide +kernel)
set_option maxRecDepth 20000 in
theorem wsL_law_r7_in : ∀ w ∈ wsL_law0_r7, w ∈ lw_tbl := s_mem [339, 340, 341, 342, 343, 344, 345, 346, 348, 2, 349, 350, 351, 352, 353, 354, 355, 364, 366, 3, 367, 369, 370, 371] (by decide +kernel)
set_option maxRecDepth 20000 in
theorem wsL_law_r8_in : ∀ w ∈ wsL_law0_r8, w ∈ lw_tbl := s_mem [372, 373, 374, 375, 376, 377, 122, 378, 379, 380, 381, 139, 382, 384, 4, 385, 386, 387, 388, 389, 390, 391, 392, 393] (by decide +kernel)
set_option maxRecDepth 20000 in
theorem wsL_law_r9_in : ∀ w ∈ wsL_law0_r9, w ∈ lw_tbl := s_mem [394, 395, 396, 397, 398, 301, 302, 303, 304, 305, 263, 264, 265, 399, 400, 401, 402, 403, 404, 405, 406, 407, 408, 409] (by decide +kernel)
set_option maxRecDepth 20000 in
theorem wsL_law_r10_in : ∀ w ∈ wsL_law0_r10, w ∈ lw_tbl := s_mem [410, 411, 412, 413, 414, 415, 416, 418, 5, 419, 420, 422, 6, 423, 424, 426, 7, 427, 428, 430, 8, 431, 432, 434] (by decide +kernel)
