/-! ===== the law's words are in the tables ===== -/
set_option maxRecDepth 20000 in
theorem wsL_law_r14_in : ∀ w ∈ wsL_law0_r14, w ∈ lw_tbl := s_mem [479, 480, 149, 481, 483, 13, 484, 485, 486, 487, 488, 489, 490, 491, 492, 493, 494, 495, 496, 497, 498, 499, 500, 501] (by decide +kernel)
set_option maxRecDepth 20000 in
theorem wsL_law_r15_in : ∀ w ∈ wsL_law0_r15, w ∈ lw_tbl := s_mem [502, 503, 504, 505, 506, 507, 508, 509, 510, 285, 286, 287, 288, 289, 290, 291, 292, 293, 294, 295, 266, 296, 298, 3] (by decide +kernel)
set_option maxRecDepth 20000 in
theorem wsL_law_r16_in : ∀ w ∈ wsL_law0_r16, w ∈ lw_tbl := s_mem [299, 300, 302, 4, 303, 304, 306, 5, 307, 308, 310, 6, 311, 312, 314, 7, 315, 317, 318, 319, 320, 43, 321, 322] (by decide +kernel)
set_option maxRecDepth 20000 in
theorem wsL_law_r17_in : ∀ w ∈ wsL_law0_r17, w ∈ lw_tbl := s_mem [323, 324, 325, 327, 8, 328, 329, 331, 9, 332, 511, 512, 513, 514, 337, 338, 339, 340, 341, 343, 10, 344, 346, 347] (by decide +kernel)
set_option maxRecDepth 20000 in
theorem wsL_law_r18_in : ∀ w ∈ wsL_law0_r18, w ∈ lw_tbl := s_mem [515, 516, 517, 518, 519, 521, 14, 522, 352, 354, 11, 355, 523, 524, 525, 526, 527, 271, 262, 263, 264, 265, 267, 268] (by decide +kernel)
set_option maxRecDepth 20000 in
theorem wsL_law_r19_in : ∀ w ∈ wsL_law0_r19, w ∈ lw_tbl := s_mem [269, 270, 276, 277, 278, 279, 528, 995, 996, 997, 998, 855, 999, 1000, 1001, 529, 530, 531, 532, 533, 534, 535, 536, 537] (by decide +kernel)
set_option maxRecDepth 20000 in
theorem wsL_law_r20_in : ∀ w ∈ wsL_law0_r20, w ∈ lw_tbl := s_mem [538, 539, 540, 541, 542, 543, 1002, 1003, 1004, 1005, 1006, 1007, 1008, 1009, 544, 545, 546, 547, 548, 549, 550, 551, 552, 554] (by decide +kernel)
set_option maxRecDepth 20000 in
theorem wsL_law_r21_in : ∀ w ∈ wsL_law0_r21, w ∈ lw_tbl := s_mem [15, 555, 556, 557, 558, 559, 560, 561, 562, 563, 44, 579, 580, 581, 582, 583, 585, 16, 586, 1010, 1011, 1012, 1013, 1017] (by decide +kernel)
set_option maxRecDepth 20000 in
theorem wsL_law_r22_in : ∀ w ∈ wsL_law0_r22, w ∈ lw_tbl := s_mem [1014, 1015, 1016, 587, 588, 589, 590, 591, 592, 593, 594, 596, 17, 597, 598, 599, 600, 601, 602, 1018, 1019, 1020, 1021, 603] (by decide +kernel)
set_option maxRecDepth 20000 in
theorem wsL_law_r23_in : ∀ w ∈ wsL_law0_r23, w ∈ lw_tbl := s_mem [604, 605, 606, 607, 608, 609, 610, 611, 612, 613, 1022, 1023, 1024, 1025, 1026, 614, 615, 616, 617, 618, 619, 620, 621, 246] (by decide +kernel)
set_option maxRecDepth 20000 in
theorem wsL_law_r24_in : ∀ w ∈ wsL_law0_r24, w ∈ lw_tbl := s_mem [247, 248, 249, 131, 250, 252, 2, 253, 254, 255, 256, 257, 258, 259, 260, 261, 1027, 1028, 1029, 1030, 1031, 1032, 1033, 1034] (by decide +kernel)
set_option maxRecDepth 20000 in
theorem wsL_law_r25_in : ∀ w ∈ wsL_law0_r25, w ∈ lw_tbl := s_mem [1035, 1036, 1038, 26, 1039, 622, 623, 624, 625, 626, 627, 628, 629, 1040, 1041, 1042, 1043, 1044, 1045, 1046, 1047, 1048, 1049, 630] (by decide +kernel)
set_option maxRecDepth 20000 in
theorem wsL_law_r26_in : ∀ w ∈ wsL_law0_r26, w ∈ lw_tbl := s_mem [631, 632, 633, 634, 635, 636, 284, 637, 1050, 1051, 1052, 1053, 638, 639, 640, 641, 642, 643, 644, 645, 646, 647, 648, 649] (by decide +kernel)
