/-! ===== the law's words are in the tables ===== -/
theorem s_app {a b : List Cond} (ha : ∀ w ∈ a, w ∈ lw_tbl) (hb : ∀ w ∈ b, w ∈ lw_tbl) : ∀ w ∈ a ++ b, w ∈ lw_tbl := fun w h => (List.mem_append.mp h).elim (ha w) (hb w)
set_option maxRecDepth 20000 in
theorem wsL_law_c24 : Cond.code yL_refuses cL_refuses 4 (some .boolean) ∈ lw_tbl := List.mem_append_right _ (List.mem_append_right _ (List.mem_append_right _ (List.mem_append_left _ (List.mem_of_getElem? (l := tables_1_3) (i := 238) rfl))))
set_option maxRecDepth 20000 in
theorem wsL_law_c28 : Cond.code yL_holds cL_holds 13 (some .boolean) ∈ lw_tbl := List.mem_append_right _ (List.mem_append_right _ (List.mem_append_right _ (List.mem_append_right _ (List.mem_of_getElem? (l := tables_1_4) (i := 78) rfl))))
set_option maxRecDepth 20000 in
theorem wsL_law_r21_in : ∀ w ∈ wsL_law0_r21, w ∈ lw_tbl := s_mem [672, 673, 674, 675, 676, 677, 678, 679, 680, 681, 682, 683, 684, 685, 686, 687, 688, 689, 690, 692, 18, 693, 694, 695] (by decide +kernel)
set_option maxRecDepth 20000 in
theorem wsL_law_r22_in : ∀ w ∈ wsL_law0_r22, w ∈ lw_tbl := s_mem [696, 697, 698, 699, 700, 701, 702, 703, 704, 705, 706, 708, 19, 709, 710, 711, 712, 713, 714, 715, 716, 717, 718, 719] (by decide +kernel)
set_option maxRecDepth 20000 in
theorem wsL_law_r23_in : ∀ w ∈ wsL_law0_r23, w ∈ lw_tbl := s_mem [720, 721, 722, 723, 724, 725, 726, 727, 728, 729, 730, 179, 180, 181, 184, 185, 186, 187, 262, 834, 835, 836, 837, 838] (by decide +kernel)
set_option maxRecDepth 20000 in
theorem wsL_law_r24_in : ∀ w ∈ wsL_law0_r24, w ∈ lw_tbl := by
  have h : wsL_law0_r24 = [Cond.selects RX7 yX7_meal yX7_meal, Cond.code yX7_meal cX7_meal 1 (some .int), Cond.methodLink RL 174 yX7_nextDay, Cond.instanceMethod yX7_nextDay, Cond.selects RX7 yX7_nextDay yX7_nextDay, Cond.code yX7_nextDay cX7_nextDay 1 (some .int), Cond.methodLink RL 186 yL_refuses, Cond.static yL_refuses] ++ (Cond.code yL_refuses cL_refuses 4 (some .boolean) :: [Cond.constantLong RL 156 (100000), Cond.methodLink RL 152 yL_doScript, Cond.static yL_doScript, Cond.codeWith yL_doScript cL_doScript 5 (some .int) [(0, 6, 7, 13)], Cond.methodLink RL 19 yX7_runScript, Cond.instanceMethod yX7_runScript, Cond.selects RX7 yX7_runScript yX7_runScript, Cond.code yX7_runScript cX7_runScript 6 (some .int), Cond.methodLink RX7 174 yX7_groupUnit, Cond.static yX7_groupUnit, Cond.code yX7_groupUnit cX7_groupUnit 4 (some .long), Cond.constantLong RX7 263 (100000), Cond.methodLink RX7 181 yX7_groupOf, Cond.static yX7_groupOf, Cond.code yX7_groupOf cX7_groupOf 6 (some .int)]) := rfl
  rw [h]
  exact s_app (s_mem [839, 840, 841, 842, 843, 844, 736, 737] (by decide +kernel)) (List.forall_mem_cons.mpr ⟨wsL_law_c24, s_mem [793, 739, 740, 741, 742, 743, 744, 745, 746, 747, 748, 749, 750, 751, 752] (by decide +kernel)⟩)
set_option maxRecDepth 20000 in
theorem wsL_law_r25_in : ∀ w ∈ wsL_law0_r25, w ∈ lw_tbl := s_mem [753, 754, 35, 755, 756, 757, 758, 759, 760, 761, 762, 763, 764, 765, 766, 767, 769, 770, 771, 772, 773, 774, 775, 777] (by decide +kernel)
set_option maxRecDepth 20000 in
theorem wsL_law_r26_in : ∀ w ∈ wsL_law0_r26, w ∈ lw_tbl := s_mem [778, 779, 781, 782, 783, 784, 785, 786, 787, 788, 789, 790, 791, 792, 794, 795, 796, 797, 798, 799, 800, 801, 802, 813] (by decide +kernel)
set_option maxRecDepth 20000 in
theorem wsL_law_r27_in : ∀ w ∈ wsL_law0_r27, w ∈ lw_tbl := s_mem [814, 815, 803, 804, 36, 805, 806, 807, 808, 809, 810, 811, 812, 845, 846, 847, 825, 826, 827, 828, 829, 830, 831, 832] (by decide +kernel)
set_option maxRecDepth 20000 in
theorem wsL_law_r28_in : ∀ w ∈ wsL_law0_r28, w ∈ lw_tbl := by
  have h : wsL_law0_r28 = [Cond.methodLink RX0 128 yX0_penaltyCostsOf, Cond.methodLink RL 194 yL_holds, Cond.static yL_holds] ++ (Cond.code yL_holds cL_holds 13 (some .boolean) :: [Cond.methodLink RL 162 yL_facesOf, Cond.static yL_facesOf, Cond.code yL_facesOf cL_facesOf 4 (some .int), Cond.methodLink RL 165 yL_bits, Cond.static yL_bits, Cond.code yL_bits cL_bits 3 (some .int), Cond.methodLink RL 197 yL_scene, Cond.static yL_scene, Cond.code yL_scene cL_scene 11 (some .boolean), Cond.methodLink RL 202 yL_spent, Cond.static yL_spent, Cond.code yL_spent cL_spent 1 (some .int), Cond.methodLink RL 205 yL_thrown, Cond.static yL_thrown, Cond.code yL_thrown cL_thrown 1 (some .boolean), Cond.methodLink RL 199 yL_both, Cond.static yL_both, Cond.code yL_both cL_both 9 (some .boolean), Cond.methodLink RL 209 yL_price, Cond.static yL_price]) := rfl
  rw [h]
  exact s_app (s_mem [833, 816, 817] (by decide +kernel)) (List.forall_mem_cons.mpr ⟨wsL_law_c28, s_mem [819, 820, 821, 822, 823, 824, 848, 849, 850, 851, 852, 853, 854, 855, 856, 857, 858, 859, 860, 861] (by decide +kernel)⟩)
set_option maxRecDepth 20000 in
theorem wsL_law_r29_in : ∀ w ∈ wsL_law0_r29, w ∈ lw_tbl := s_mem [862] (by decide +kernel)
