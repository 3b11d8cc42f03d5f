/-! ===== the law's words are in the tables ===== -/
set_option maxRecDepth 20000 in
theorem wsL_law_r27_in : ∀ w ∈ wsL_law0_r27, w ∈ lw_tbl := s_mem [650, 651, 652, 653, 1054, 1055, 1056, 1057, 1058, 1059, 1060, 1061, 1062, 1063, 242, 243, 244, 245, 1064, 1065, 1066, 1067, 272, 273] (by decide +kernel)
set_option maxRecDepth 20000 in
theorem wsL_law_r28_in : ∀ w ∈ wsL_law0_r28, w ∈ lw_tbl := s_mem [274, 275, 1068, 1069, 1070, 1071, 654, 655, 656, 657, 658, 659, 660, 661, 662, 663, 664, 665, 666, 667, 668, 1072, 1073, 1074] (by decide +kernel)
set_option maxRecDepth 20000 in
theorem wsL_law_r29_in : ∀ w ∈ wsL_law0_r29, w ∈ lw_tbl := s_mem [1075, 1076, 1077, 1078, 1079, 1080, 669, 670, 671, 672, 673, 674, 675, 676, 677, 678, 679, 680, 681, 682, 683, 1081, 1082, 1083] (by decide +kernel)
set_option maxRecDepth 20000 in
theorem wsL_law_r30_in : ∀ w ∈ wsL_law0_r30, w ∈ lw_tbl := s_mem [1084, 684, 685, 686, 687, 688, 689, 690, 691, 692, 349, 350, 351, 693, 1085, 1086, 1087, 1088, 694, 695, 696, 697, 698, 699] (by decide +kernel)
set_option maxRecDepth 20000 in
theorem wsL_law_r31_in : ∀ w ∈ wsL_law0_r31, w ∈ lw_tbl := s_mem [700, 701, 702, 703, 704, 1089, 1090, 1091, 1092, 280, 281, 282, 283, 333, 334, 335, 336, 348, 1093, 1094, 1095, 1096, 1097, 1098] (by decide +kernel)
set_option maxRecDepth 20000 in
theorem wsL_law_r32_in : ∀ w ∈ wsL_law0_r32, w ∈ lw_tbl := s_mem [1099, 1100, 1101, 1102, 705, 706, 707, 708, 709, 710, 711, 712, 713, 714, 715, 1103, 1104, 1105, 1106, 716, 717, 718, 719, 720] (by decide +kernel)
set_option maxRecDepth 20000 in
theorem wsL_law_r33_in : ∀ w ∈ wsL_law0_r33, w ∈ lw_tbl := s_mem [721, 722, 723, 725, 18, 726, 727, 728, 729, 730, 731, 1107, 1108, 1109, 1110, 1111, 1113, 27, 1114, 732, 733, 734, 735, 736] (by decide +kernel)
set_option maxRecDepth 20000 in
theorem wsL_law_r34_in : ∀ w ∈ wsL_law0_r34, w ∈ lw_tbl := s_mem [737, 738, 739, 740, 741, 742, 743, 744, 745, 746, 747, 45, 748, 749, 750, 751, 752, 753, 754, 755, 756, 757, 758, 759] (by decide +kernel)
set_option maxRecDepth 20000 in
theorem wsL_law_r35_in : ∀ w ∈ wsL_law0_r35, w ∈ lw_tbl := s_mem [760, 762, 763, 764, 765, 766, 767, 768, 770, 771, 772, 774, 775, 776, 777, 778, 779, 780, 781, 782, 783, 784, 785, 1115] (by decide +kernel)
set_option maxRecDepth 20000 in
theorem wsL_law_r36_in : ∀ w ∈ wsL_law0_r36, w ∈ lw_tbl := s_mem [1116, 1117, 1118, 1119, 1120, 1122, 28, 1123, 1124, 1125, 1126, 786, 787, 788, 789, 790, 791, 792, 793, 794, 806, 807, 808, 795] (by decide +kernel)
set_option maxRecDepth 20000 in
theorem wsL_law_r37_in : ∀ w ∈ wsL_law0_r37, w ∈ lw_tbl := s_mem [796, 46, 797, 798, 799, 800, 801, 802, 803, 804, 805, 1127, 1128, 1129, 1130, 1131, 1132, 1133, 1134, 1135, 1136, 809, 810, 811] (by decide +kernel)
set_option maxRecDepth 20000 in
theorem wsL_law_r38_in : ∀ w ∈ wsL_law0_r38, w ∈ lw_tbl := s_mem [812, 813, 814, 815, 816, 818, 19, 819, 820, 821, 822, 823, 824, 1137, 1138, 1139, 1140, 825, 826, 827, 828, 829, 830, 831] (by decide +kernel)
set_option maxRecDepth 20000 in
theorem wsL_law_r39_in : ∀ w ∈ wsL_law0_r39, w ∈ lw_tbl := s_mem [832, 833, 834, 835, 836, 837, 838, 839, 1141, 1142, 1143, 1144] (by decide +kernel)
