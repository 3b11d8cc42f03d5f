/-! ===== names of the law, printed ===== -/
theorem dL_tryAdd_3 : decode cL_tryAdd 3 = .ok (.invokevirtual 51, 3) := by decide +kernel
theorem dL_tryAdd_6 : decode cL_tryAdd 6 = .ok (.ireturn, 1) := by decide +kernel
theorem dL_tryAdd_7 : decode cL_tryAdd 7 = .ok (.astore_n 3, 1) := by decide +kernel
theorem dL_tryAdd_8 : decode cL_tryAdd 8 = .ok (.ldc 15, 2) := by decide +kernel
theorem dL_tryAdd_10 : decode cL_tryAdd 10 = .ok (.ireturn, 1) := by decide +kernel
theorem dL_tryAdd_11 : decode cL_tryAdd 11 = .ok (.astore_n 3, 1) := by decide +kernel
theorem dL_tryAdd_12 : decode cL_tryAdd 12 = .ok (.ldc 18, 2) := by decide +kernel
theorem dL_tryAdd_14 : decode cL_tryAdd 14 = .ok (.ireturn, 1) := by decide +kernel
set_option maxRecDepth 20000 in
theorem ggL_tryShoot_X7_shoot : GoodIn wsL_tryShoot wsX7_shoot := goodIn_ca (goodIn_ca (goodIn_r _ [9, 10, 11, 12, 13, 14, 8, 15, 16, 17, 18, 19, 20, 21, 22, 23, 24, 25, 26, 27, 28, 29, 30, 31, 32, 33, 34, 35, 36, 37, 38, 39, 40, 41, 42, 43, 44, 45, 46, 47, 48, 49, 50, 51, 52, 53, 54, 55, 56, 57, 58, 59, 60, 61, 62, 63, 64, 65, 66, 67, 68, 69, 70, 71, 72, 73, 74, 75, 76, 77, 78, 79, 80, 81, 82, 83, 84, 85, 86, 87, 88, 89, 90, 91, 92, 93, 94, 95, 96, 97, 98, 99, 100, 101, 102, 103, 104, 105, 106, 107, 108, 109, 110, 111, 112, 113, 114, 115, 116, 117, 118, 119, 120, 121, 122, 123, 124, 125, 126, 127, 128, 129, 130, 131, 132, 133, 134, 135, 136, 137, 138, 139, 140, 141, 142, 143, 144, 145, 146, 147, 148, 149, 150, 151, 152, 153, 154, 155, 156, 157, 158, 159, 160, 161, 162, 163, 164, 165, 166, 167, 168, 169, 170] (by decide +kernel) (by decide +kernel)) (goodIn_sub (fun _ h => List.mem_cons_of_mem _ (List.mem_append_left _ (List.mem_append_right _ h))) (by decide +kernel))) (goodIn_sub (fun _ h => List.mem_cons_of_mem _ (List.mem_append_right _ h)) (by decide +kernel))
set_option maxRecDepth 20000 in
theorem gL_tryShoot_X7_shoot : GoodIn wsL_tryShoot (wsV RL 54 RX7 yX7_shoot wsX7_shoot) := goodIn_app (goodIn_of _ (by decide +kernel)) ggL_tryShoot_X7_shoot
theorem dL_tryShoot_0 : decode cL_tryShoot 0 = .ok (.aload_n 0, 1) := by decide +kernel
theorem dL_tryShoot_1 : decode cL_tryShoot 1 = .ok (.iload_n 1, 1) := by decide +kernel
theorem dL_tryShoot_2 : decode cL_tryShoot 2 = .ok (.invokevirtual 54, 3) := by decide +kernel
theorem dL_tryShoot_5 : decode cL_tryShoot 5 = .ok (.ireturn, 1) := by decide +kernel
theorem dL_tryShoot_6 : decode cL_tryShoot 6 = .ok (.astore_n 2, 1) := by decide +kernel
theorem dL_tryShoot_7 : decode cL_tryShoot 7 = .ok (.ldc 44, 2) := by decide +kernel
theorem dL_tryShoot_9 : decode cL_tryShoot 9 = .ok (.ireturn, 1) := by decide +kernel
theorem dL_tryShoot_10 : decode cL_tryShoot 10 = .ok (.astore_n 2, 1) := by decide +kernel
theorem dL_tryShoot_11 : decode cL_tryShoot 11 = .ok (.ldc 18, 2) := by decide +kernel
theorem dL_tryShoot_13 : decode cL_tryShoot 13 = .ok (.ireturn, 1) := by decide +kernel
set_option maxRecDepth 20000 in
theorem ggL_tryReplace_X7_replace : GoodIn wsL_tryReplace wsX7_replace := goodIn_ca (goodIn_ca (goodIn_r _ [9, 10, 11, 12, 13, 14, 8, 15, 16, 17, 18, 19, 20, 21, 22, 23, 24, 25, 26, 27, 28, 29, 30, 31, 32, 33, 34, 35, 36, 37, 38, 39, 40, 41, 42, 43, 44, 45, 46, 47, 48, 49, 50, 51, 52, 53, 54, 55, 56, 57, 58, 59, 60, 61, 62, 63, 64, 65, 66, 67, 68, 69, 70, 71, 72, 73, 74, 75, 76, 77, 78, 79, 80, 81, 82, 83, 84, 85, 86, 87, 88, 89, 90, 91, 92, 93, 94, 95, 96, 97, 98, 99, 100, 101, 102, 103, 104, 105, 106, 107, 108, 109, 110, 111, 112, 113, 114, 115, 116, 117, 118, 119, 120, 121, 122, 123, 124, 125, 126, 127, 128] (by decide +kernel) (by decide +kernel)) (goodIn_sub (fun _ h => List.mem_cons_of_mem _ (List.mem_append_left _ (List.mem_append_right _ h))) (by decide +kernel))) (goodIn_sub (fun _ h => List.mem_cons_of_mem _ (List.mem_append_right _ h)) (by decide +kernel))
set_option maxRecDepth 20000 in
theorem gL_tryReplace_X7_replace : GoodIn wsL_tryReplace (wsV RL 57 RX7 yX7_replace wsX7_replace) := goodIn_app (goodIn_of _ (by decide +kernel)) ggL_tryReplace_X7_replace
theorem dL_tryReplace_0 : decode cL_tryReplace 0 = .ok (.aload_n 0, 1) := by decide +kernel
theorem dL_tryReplace_1 : decode cL_tryReplace 1 = .ok (.iload_n 1, 1) := by decide +kernel
theorem dL_tryReplace_2 : decode cL_tryReplace 2 = .ok (.iload_n 2, 1) := by decide +kernel
theorem dL_tryReplace_3 : decode cL_tryReplace 3 = .ok (.iload_n 3, 1) := by decide +kernel
theorem dL_tryReplace_4 : decode cL_tryReplace 4 = .ok (.invokevirtual 57, 3) := by decide +kernel
theorem dL_tryReplace_7 : decode cL_tryReplace 7 = .ok (.ireturn, 1) := by decide +kernel
theorem dL_tryReplace_8 : decode cL_tryReplace 8 = .ok (.astore 4, 2) := by decide +kernel
theorem dL_tryReplace_10 : decode cL_tryReplace 10 = .ok (.ldc 44, 2) := by decide +kernel
theorem dL_tryReplace_12 : decode cL_tryReplace 12 = .ok (.ireturn, 1) := by decide +kernel
theorem dL_tryReplace_13 : decode cL_tryReplace 13 = .ok (.astore 4, 2) := by decide +kernel
theorem dL_tryReplace_15 : decode cL_tryReplace 15 = .ok (.ldc 18, 2) := by decide +kernel
theorem dL_tryReplace_17 : decode cL_tryReplace 17 = .ok (.ireturn, 1) := by decide +kernel
set_option maxRecDepth 20000 in
theorem ggL_tryLay_X7_set : GoodIn wsL_tryLay wsX7_set := goodIn_ca (goodIn_r _ [7, 8, 9, 10, 11, 6, 12, 13, 14, 15, 16, 17, 18, 19, 20, 21, 22, 23, 24, 25, 26, 27, 28, 29, 30, 31, 32, 33, 34, 35, 36, 37, 38, 39, 40, 41, 42, 43, 44, 45, 46, 47, 48, 49, 50, 51, 52, 53, 54, 55, 56, 57, 58, 59, 60, 61, 62, 63, 64, 65, 66, 67, 68, 69, 70, 71, 72, 73, 74, 75, 76, 77, 78, 79, 80, 81, 82, 83, 84, 85, 86, 87, 88, 89, 90, 91] (by decide +kernel) (by decide +kernel)) (goodIn_sub (fun _ h => List.mem_cons_of_mem _ (List.mem_append_right _ h)) (by decide +kernel))
set_option maxRecDepth 20000 in
theorem gL_tryLay_X7_set : GoodIn wsL_tryLay (wsV RL 61 RX7 yX7_set wsX7_set) := goodIn_app (goodIn_of _ (by decide +kernel)) ggL_tryLay_X7_set
theorem dL_tryLay_0 : decode cL_tryLay 0 = .ok (.aload_n 0, 1) := by decide +kernel
theorem dL_tryLay_1 : decode cL_tryLay 1 = .ok (.iload_n 1, 1) := by decide +kernel
theorem dL_tryLay_2 : decode cL_tryLay 2 = .ok (.iload_n 2, 1) := by decide +kernel
theorem dL_tryLay_3 : decode cL_tryLay 3 = .ok (.invokevirtual 61, 3) := by decide +kernel
theorem dL_tryLay_6 : decode cL_tryLay 6 = .ok (.ireturn, 1) := by decide +kernel
theorem dL_tryLay_7 : decode cL_tryLay 7 = .ok (.astore_n 3, 1) := by decide +kernel
theorem dL_tryLay_8 : decode cL_tryLay 8 = .ok (.ldc 15, 2) := by decide +kernel
theorem dL_tryLay_10 : decode cL_tryLay 10 = .ok (.ireturn, 1) := by decide +kernel
set_option maxRecDepth 20000 in
theorem ggL_tryUndo_X7_undo : GoodIn wsL_tryUndo wsX7_undo := goodIn_ca (goodIn_r _ [7, 8, 9, 10, 11, 12, 13, 14, 15, 16, 17, 6, 18, 19, 20, 21, 22, 23, 24, 25, 26, 27, 28, 29, 30, 31, 32, 33, 34, 35, 36, 37, 38, 39, 40, 41, 42, 43, 44, 45, 46, 47, 48, 49, 50, 51, 52, 53, 54, 55, 56, 57, 58, 59, 60, 61, 62, 63, 64, 65, 66, 67, 68, 69, 70, 71, 72] (by decide +kernel) (by decide +kernel)) (goodIn_sub (fun _ h => List.mem_cons_of_mem _ (List.mem_append_right _ h)) (by decide +kernel))
set_option maxRecDepth 20000 in
theorem gL_tryUndo_X7_undo : GoodIn wsL_tryUndo (wsV RL 64 RX7 yX7_undo wsX7_undo) := goodIn_app (goodIn_of _ (by decide +kernel)) ggL_tryUndo_X7_undo
theorem dL_tryUndo_0 : decode cL_tryUndo 0 = .ok (.aload_n 0, 1) := by decide +kernel
theorem dL_tryUndo_1 : decode cL_tryUndo 1 = .ok (.invokevirtual 64, 3) := by decide +kernel
theorem dL_tryUndo_4 : decode cL_tryUndo 4 = .ok (.ireturn, 1) := by decide +kernel
theorem dL_tryUndo_5 : decode cL_tryUndo 5 = .ok (.astore_n 1, 1) := by decide +kernel
theorem dL_tryUndo_6 : decode cL_tryUndo 6 = .ok (.ldc 18, 2) := by decide +kernel
theorem dL_tryUndo_8 : decode cL_tryUndo 8 = .ok (.ireturn, 1) := by decide +kernel
set_option maxRecDepth 20000 in
theorem ggL_tryWould_X7_would : GoodIn wsL_tryWould wsX7_would := goodIn_ca (goodIn_ca (goodIn_r _ [9, 10, 11, 12, 13, 8, 14, 15, 16, 17, 18, 19, 20, 21, 22, 23, 24, 25, 26, 27, 28, 29, 30, 31, 32, 33, 34, 35, 36, 37, 38, 39, 40, 41, 42, 43, 44, 45, 46, 47, 48, 49, 50, 51, 52, 53, 54, 55, 56, 57, 58, 59, 60, 61, 62, 63, 64, 65, 66, 67, 68, 69, 70, 71, 72, 73, 74, 75, 76, 77, 78, 79, 80, 81, 82, 83, 84, 85, 86, 87, 88, 89, 90, 91, 92, 93, 94, 95, 96, 97, 98, 99, 100, 101, 102, 103, 104, 105, 106, 107, 108, 109, 110, 111, 112, 113, 114, 115, 116, 117, 118, 119, 120, 121, 122, 123, 124, 125, 126, 127, 128, 129, 130] (by decide +kernel) (by decide +kernel)) (goodIn_sub (fun _ h => List.mem_cons_of_mem _ (List.mem_append_left _ (List.mem_append_right _ h))) (by decide +kernel))) (goodIn_sub (fun _ h => List.mem_cons_of_mem _ (List.mem_append_right _ h)) (by decide +kernel))
set_option maxRecDepth 20000 in
theorem gL_tryWould_X7_would : GoodIn wsL_tryWould (wsV RL 67 RX7 yX7_would wsX7_would) := goodIn_app (goodIn_of _ (by decide +kernel)) ggL_tryWould_X7_would
theorem dL_tryWould_0 : decode cL_tryWould 0 = .ok (.aload_n 0, 1) := by decide +kernel
theorem dL_tryWould_1 : decode cL_tryWould 1 = .ok (.iload_n 1, 1) := by decide +kernel
theorem dL_tryWould_2 : decode cL_tryWould 2 = .ok (.iload_n 2, 1) := by decide +kernel
theorem dL_tryWould_3 : decode cL_tryWould 3 = .ok (.invokevirtual 67, 3) := by decide +kernel
theorem dL_tryWould_6 : decode cL_tryWould 6 = .ok (.ireturn, 1) := by decide +kernel
theorem dL_tryWould_7 : decode cL_tryWould 7 = .ok (.astore_n 3, 1) := by decide +kernel
theorem dL_tryWould_8 : decode cL_tryWould 8 = .ok (.ldc 44, 2) := by decide +kernel
theorem dL_tryWould_10 : decode cL_tryWould 10 = .ok (.ireturn, 1) := by decide +kernel
theorem dL_tryWould_11 : decode cL_tryWould 11 = .ok (.astore_n 3, 1) := by decide +kernel
theorem dL_tryWould_12 : decode cL_tryWould 12 = .ok (.ldc 15, 2) := by decide +kernel
theorem dL_tryWould_14 : decode cL_tryWould 14 = .ok (.ireturn, 1) := by decide +kernel
set_option maxRecDepth 20000 in
theorem ggL_tryWhy_X7_why : GoodIn wsL_tryWhy wsX7_why := goodIn_ca (goodIn_r _ [7, 8, 9, 10, 11, 6, 12, 13, 14, 15, 16, 17, 18, 19, 20, 21, 22, 23, 24, 25, 26, 27, 28, 29, 30, 31, 32, 33, 34, 35, 36, 37, 38, 39, 40, 41, 42, 43, 44, 45, 46, 47, 48, 49, 50, 51, 52, 53, 54, 55, 56, 57, 58, 59, 60, 61, 62, 63, 64, 65, 66, 67, 68, 69, 70, 71, 72, 73, 74, 75, 76, 77, 78, 79, 80, 81, 82, 83, 84, 85, 86, 87, 88, 89, 90, 91, 92, 93, 94, 95, 96, 97, 98, 99, 100, 101, 102, 103, 104, 105, 106, 107, 108, 109, 110] (by decide +kernel) (by decide +kernel)) (goodIn_sub (fun _ h => List.mem_cons_of_mem _ (List.mem_append_right _ h)) (by decide +kernel))
set_option maxRecDepth 20000 in
theorem gL_tryWhy_X7_why : GoodIn wsL_tryWhy (wsV RL 70 RX7 yX7_why wsX7_why) := goodIn_app (goodIn_of _ (by decide +kernel)) ggL_tryWhy_X7_why
theorem dL_tryWhy_0 : decode cL_tryWhy 0 = .ok (.aload_n 0, 1) := by decide +kernel
theorem dL_tryWhy_1 : decode cL_tryWhy 1 = .ok (.iload_n 1, 1) := by decide +kernel
theorem dL_tryWhy_2 : decode cL_tryWhy 2 = .ok (.iload_n 2, 1) := by decide +kernel
theorem dL_tryWhy_3 : decode cL_tryWhy 3 = .ok (.invokevirtual 70, 3) := by decide +kernel
theorem dL_tryWhy_6 : decode cL_tryWhy 6 = .ok (.ireturn, 1) := by decide +kernel
theorem dL_tryWhy_7 : decode cL_tryWhy 7 = .ok (.astore_n 3, 1) := by decide +kernel
theorem dL_tryWhy_8 : decode cL_tryWhy 8 = .ok (.ldc 44, 2) := by decide +kernel
theorem dL_tryWhy_10 : decode cL_tryWhy 10 = .ok (.ireturn, 1) := by decide +kernel
set_option maxRecDepth 20000 in
theorem ggL_tryLacks_X7_lacks : GoodIn wsL_tryLacks wsX7_lacks := goodIn_ca (goodIn_r _ [7, 8, 9, 10, 11, 6, 12, 13, 14, 15, 16, 17, 18, 19, 20, 21, 22, 23, 24, 25, 26, 27, 28, 29, 30, 31, 32, 33, 34, 35, 36, 37, 38, 39, 40, 41, 42, 43, 44, 45, 46, 47, 48, 49, 50, 51, 52, 53, 54, 55, 56, 57, 58, 59, 60, 61, 62, 63, 64, 65, 66, 67, 68, 69, 70, 71, 72, 73, 74, 75, 76, 77, 78, 79, 80, 81, 82, 83, 84, 85, 86, 87, 88, 89, 90, 91, 92, 93] (by decide +kernel) (by decide +kernel)) (goodIn_sub (fun _ h => List.mem_cons_of_mem _ (List.mem_append_right _ h)) (by decide +kernel))
set_option maxRecDepth 20000 in
theorem gL_tryLacks_X7_lacks : GoodIn wsL_tryLacks (wsV RL 73 RX7 yX7_lacks wsX7_lacks) := goodIn_app (goodIn_of _ (by decide +kernel)) ggL_tryLacks_X7_lacks
theorem dL_tryLacks_0 : decode cL_tryLacks 0 = .ok (.aload_n 0, 1) := by decide +kernel
theorem dL_tryLacks_1 : decode cL_tryLacks 1 = .ok (.iload_n 1, 1) := by decide +kernel
theorem dL_tryLacks_2 : decode cL_tryLacks 2 = .ok (.invokevirtual 73, 3) := by decide +kernel
theorem dL_tryLacks_5 : decode cL_tryLacks 5 = .ok (.ireturn, 1) := by decide +kernel
theorem dL_tryLacks_6 : decode cL_tryLacks 6 = .ok (.astore_n 2, 1) := by decide +kernel
theorem dL_tryLacks_7 : decode cL_tryLacks 7 = .ok (.ldc 44, 2) := by decide +kernel
theorem dL_tryLacks_9 : decode cL_tryLacks 9 = .ok (.ireturn, 1) := by decide +kernel
set_option maxRecDepth 20000 in
theorem ggL_tryOrder_X7_order : GoodIn wsL_tryOrder wsX7_order := goodIn_ca (goodIn_ca (goodIn_r _ [9, 10, 11, 12, 8, 13, 14, 15, 16, 17, 18, 19, 20, 21, 22, 23, 24, 25, 26, 27, 28, 29, 30, 31, 32, 33, 34, 35, 36, 37, 38, 39, 40, 41, 42, 43, 44, 45, 46, 47, 48, 49, 50, 51, 52, 53, 54, 55, 56, 57, 58, 59, 60, 61, 62, 63, 64, 65, 66, 67, 68, 69, 70, 71, 72, 73, 74, 75, 76, 77, 78, 79, 80, 81, 82, 83, 84, 85, 86, 87, 88, 89, 90, 91, 92, 93, 94, 95, 96, 97, 98, 99, 100, 101, 102, 103, 104, 105, 106, 107, 108, 109, 110, 111, 112, 113, 114, 115, 116, 117, 118, 119, 120, 121, 122, 123, 124, 125, 126, 127, 128, 129, 130, 131, 132, 133, 134, 135, 136, 137, 138, 139, 140, 141, 142, 143, 144, 145, 146, 147, 148, 149, 150, 151, 152, 153, 154, 155, 156, 157, 158, 159, 160, 161, 162, 163, 164, 165, 166, 167] (by decide +kernel) (by decide +kernel)) (goodIn_sub (fun _ h => List.mem_cons_of_mem _ (List.mem_append_left _ (List.mem_append_right _ h))) (by decide +kernel))) (goodIn_sub (fun _ h => List.mem_cons_of_mem _ (List.mem_append_right _ h)) (by decide +kernel))
set_option maxRecDepth 20000 in
theorem gL_tryOrder_X7_order : GoodIn wsL_tryOrder (wsV RL 76 RX7 yX7_order wsX7_order) := goodIn_app (goodIn_of _ (by decide +kernel)) ggL_tryOrder_X7_order
theorem dL_tryOrder_0 : decode cL_tryOrder 0 = .ok (.aload_n 0, 1) := by decide +kernel
theorem dL_tryOrder_1 : decode cL_tryOrder 1 = .ok (.iload_n 1, 1) := by decide +kernel
theorem dL_tryOrder_2 : decode cL_tryOrder 2 = .ok (.iload_n 2, 1) := by decide +kernel
theorem dL_tryOrder_3 : decode cL_tryOrder 3 = .ok (.invokevirtual 76, 3) := by decide +kernel
theorem dL_tryOrder_6 : decode cL_tryOrder 6 = .ok (.ireturn, 1) := by decide +kernel
theorem dL_tryOrder_7 : decode cL_tryOrder 7 = .ok (.astore_n 3, 1) := by decide +kernel
theorem dL_tryOrder_8 : decode cL_tryOrder 8 = .ok (.ldc 44, 2) := by decide +kernel
theorem dL_tryOrder_10 : decode cL_tryOrder 10 = .ok (.ireturn, 1) := by decide +kernel
theorem dL_tryOrder_11 : decode cL_tryOrder 11 = .ok (.astore_n 3, 1) := by decide +kernel
theorem dL_tryOrder_12 : decode cL_tryOrder 12 = .ok (.ldc 15, 2) := by decide +kernel
theorem dL_tryOrder_14 : decode cL_tryOrder 14 = .ok (.ireturn, 1) := by decide +kernel
set_option maxRecDepth 20000 in
theorem ggL_tryKeep_X7_save : GoodIn wsL_tryKeep wsX7_save := goodIn_ca (goodIn_r _ [7, 8, 9, 10, 6, 11, 12, 13, 14, 15, 16, 17, 18, 19, 20, 21, 22, 23, 24, 25, 26, 27, 28, 29, 30, 31, 32, 33, 34, 35, 36, 37, 38, 39, 40, 41, 42, 43, 44, 45, 46, 47, 48, 49, 50, 51, 52, 53, 54, 55, 56, 57, 58, 59, 60, 61, 62, 63, 64, 65, 66, 67, 68, 69, 70, 71, 72, 73, 74, 75, 76, 77, 78, 79, 80, 81, 82, 83] (by decide +kernel) (by decide +kernel)) (goodIn_sub (fun _ h => List.mem_cons_of_mem _ (List.mem_append_right _ h)) (by decide +kernel))
set_option maxRecDepth 20000 in
theorem gL_tryKeep_X7_save : GoodIn wsL_tryKeep (wsV RL 79 RX7 yX7_save wsX7_save) := goodIn_app (goodIn_of _ (by decide +kernel)) ggL_tryKeep_X7_save
theorem dL_tryKeep_0 : decode cL_tryKeep 0 = .ok (.aload_n 0, 1) := by decide +kernel
theorem dL_tryKeep_1 : decode cL_tryKeep 1 = .ok (.iload_n 1, 1) := by decide +kernel
theorem dL_tryKeep_2 : decode cL_tryKeep 2 = .ok (.invokevirtual 79, 3) := by decide +kernel
theorem dL_tryKeep_5 : decode cL_tryKeep 5 = .ok (.ireturn, 1) := by decide +kernel
theorem dL_tryKeep_6 : decode cL_tryKeep 6 = .ok (.astore_n 2, 1) := by decide +kernel
theorem dL_tryKeep_7 : decode cL_tryKeep 7 = .ok (.ldc 44, 2) := by decide +kernel
