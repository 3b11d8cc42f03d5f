/-! ===== the law's words are in the tables ===== -/
theorem s_mem {big ws : List Cond} (ps : List Nat) (h : ws = ps.filterMap (fun i => big[i]?)) : ∀ w ∈ ws, w ∈ big := fun w hw => by
  rw [h] at hw
  obtain ⟨i, _, hi⟩ := List.mem_filterMap.mp hw
  exact List.mem_of_getElem? hi
set_option maxRecDepth 20000 in
theorem wsL_law_r1_in : ∀ w ∈ wsL_law0_r1, w ∈ lw_tbl := s_mem [47, 48, 30, 840, 841, 37, 1146, 1145, 49, 50, 51, 52, 53, 54, 55, 56, 31, 170, 171, 121, 122, 34, 172, 140] (by decide +kernel)
set_option maxRecDepth 20000 in
theorem wsL_law_r2_in : ∀ w ∈ wsL_law0_r2, w ∈ lw_tbl := s_mem [141, 35, 173, 174, 155, 156, 36, 175, 57, 58, 59, 60, 61, 62, 32, 90, 91, 92, 63, 64, 65, 66, 70, 67] (by decide +kernel)
set_option maxRecDepth 20000 in
theorem wsL_law_r3_in : ∀ w ∈ wsL_law0_r3, w ∈ lw_tbl := s_mem [68, 33, 69, 77, 71, 78, 79, 80, 81, 93, 94, 95, 96, 97, 98, 99, 82, 83, 84, 85, 86, 87, 88, 89] (by decide +kernel)
set_option maxRecDepth 20000 in
theorem wsL_law_r4_in : ∀ w ∈ wsL_law0_r4, w ∈ lw_tbl := s_mem [123, 124, 125, 126, 127, 130, 129, 142, 143, 144, 145, 146, 148, 147, 157, 158, 159, 160, 161, 163, 162, 842, 843, 844] (by decide +kernel)
set_option maxRecDepth 20000 in
theorem wsL_law_r5_in : ∀ w ∈ wsL_law0_r5, w ∈ lw_tbl := s_mem [845, 850, 852, 853, 854, 856, 883, 857, 846, 847, 848, 356, 357, 29, 358, 359, 360, 361, 362, 363, 364, 365, 236, 237] (by decide +kernel)
set_option maxRecDepth 20000 in
theorem wsL_law_r6_in : ∀ w ∈ wsL_law0_r6, w ∈ lw_tbl := s_mem [366, 367, 368, 369, 41, 437, 438, 439, 440, 164, 441, 442, 443, 444, 42, 460, 461, 462, 463, 464, 888, 889, 890, 891] (by decide +kernel)
set_option maxRecDepth 20000 in
theorem wsL_law_r7_in : ∀ w ∈ wsL_law0_r7, w ∈ lw_tbl := s_mem [892, 851, 893, 894, 895, 896, 898, 20, 899, 849, 884, 885, 886, 887, 189, 190, 191, 192, 193, 194, 195, 196, 900, 901] (by decide +kernel)
set_option maxRecDepth 20000 in
theorem wsL_law_r8_in : ∀ w ∈ wsL_law0_r8, w ∈ lw_tbl := s_mem [902, 903, 197, 198, 199, 200, 201, 202, 203, 204, 205, 206, 207, 208, 209, 210, 211, 212, 213, 215, 0, 216, 217, 218] (by decide +kernel)
set_option maxRecDepth 20000 in
theorem wsL_law_r9_in : ∀ w ∈ wsL_law0_r9, w ∈ lw_tbl := s_mem [219, 220, 221, 222, 231, 233, 1, 234, 238, 239, 240, 241, 904, 905, 906, 907, 908, 910, 21, 911, 859, 858, 912, 914] (by decide +kernel)
set_option maxRecDepth 20000 in
theorem wsL_law_r10_in : ∀ w ∈ wsL_law0_r10, w ∈ lw_tbl := s_mem [22, 915, 916, 918, 23, 919, 920, 921, 922, 923, 924, 925, 926, 927, 929, 24, 930, 931, 933, 25, 934, 935, 936, 937] (by decide +kernel)
set_option maxRecDepth 20000 in
theorem wsL_law_r11_in : ∀ w ∈ wsL_law0_r11, w ∈ lw_tbl := s_mem [938, 939, 940, 941, 942, 943, 944, 945, 946, 947, 948, 949, 950, 951, 952, 953, 954, 955, 956, 957, 958, 959, 960, 961] (by decide +kernel)
set_option maxRecDepth 20000 in
theorem wsL_law_r12_in : ∀ w ∈ wsL_law0_r12, w ∈ lw_tbl := s_mem [962, 963, 964, 965, 966, 967, 968, 969, 970, 971, 972, 973, 974, 975, 976, 977, 978, 979, 980, 981, 982, 983, 984, 985] (by decide +kernel)
set_option maxRecDepth 20000 in
theorem wsL_law_r13_in : ∀ w ∈ wsL_law0_r13, w ∈ lw_tbl := s_mem [986, 987, 988, 989, 990, 991, 992, 993, 994, 465, 466, 467, 468, 469, 470, 471, 472, 473, 474, 475, 476, 132, 477, 478] (by decide +kernel)
