set_option maxRecDepth 20000 in
theorem ggX1_init_X0_init : GoodIn wsX1_init wsX0_init := goodIn_r _ [10, 11, 2, 3, 12, 13, 14, 15, 16, 17, 18, 19, 20, 21, 22, 23, 24, 25, 26, 27, 28, 29, 30, 31, 7, 32, 33, 34, 35, 36, 37, 38, 39, 40, 41, 42, 43, 44, 45, 46, 47, 61, 62, 51, 52, 53, 54, 55, 56, 57, 58, 59, 60] (by decide +kernel) (by decide +kernel)
set_option maxRecDepth 20000 in
theorem gX1_init_X0_init : GoodIn wsX1_init (wsX0_init) := ggX1_init_X0_init
theorem dX1_init_0 : decode cX1_init 0 = .ok (.aload_n 0, 1) := by decide +kernel
theorem dX1_init_1 : decode cX1_init 1 = .ok (.invokespecial 3, 3) := by decide +kernel
theorem dX1_init_4 : decode cX1_init 4 = .ok (.aload_n 0, 1) := by decide +kernel
theorem dX1_init_5 : decode cX1_init 5 = .ok (.bipush 14, 2) := by decide +kernel
theorem dX1_init_7 : decode cX1_init 7 = .ok (.anewarray 9, 3) := by decide +kernel
theorem dX1_init_10 : decode cX1_init 10 = .ok (.putfield 11, 3) := by decide +kernel
theorem dX1_init_13 : decode cX1_init 13 = .ok (.iconst 0, 1) := by decide +kernel
theorem dX1_init_14 : decode cX1_init 14 = .ok (.istore_n 1, 1) := by decide +kernel
theorem dX1_init_15 : decode cX1_init 15 = .ok (.iload_n 1, 1) := by decide +kernel
theorem dX1_init_16 : decode cX1_init 16 = .ok (.aload_n 0, 1) := by decide +kernel
theorem dX1_init_17 : decode cX1_init 17 = .ok (.getfield 11, 3) := by decide +kernel
theorem dX1_init_20 : decode cX1_init 20 = .ok (.arraylength, 1) := by decide +kernel
theorem dX1_init_21 : decode cX1_init 21 = .ok (.if_icmp .ge 22, 3) := by decide +kernel
theorem dX1_init_24 : decode cX1_init 24 = .ok (.aload_n 0, 1) := by decide +kernel
theorem dX1_init_25 : decode cX1_init 25 = .ok (.getfield 11, 3) := by decide +kernel
theorem dX1_init_28 : decode cX1_init 28 = .ok (.iload_n 1, 1) := by decide +kernel
theorem dX1_init_29 : decode cX1_init 29 = .ok (.new 9, 3) := by decide +kernel
theorem dX1_init_32 : decode cX1_init 32 = .ok (.dup, 1) := by decide +kernel
theorem dX1_init_33 : decode cX1_init 33 = .ok (.invokespecial 17, 3) := by decide +kernel
theorem dX1_init_36 : decode cX1_init 36 = .ok (.aastore, 1) := by decide +kernel
theorem dX1_init_37 : decode cX1_init 37 = .ok (.iinc 1 1, 3) := by decide +kernel
theorem dX1_init_40 : decode cX1_init 40 = .ok (.goto (-25), 3) := by decide +kernel
theorem dX1_init_43 : decode cX1_init 43 = .ok (.return_, 1) := by decide +kernel
theorem dX1_size_0 : decode cX1_size 0 = .ok (.aload_n 0, 1) := by decide +kernel
theorem dX1_size_1 : decode cX1_size 1 = .ok (.getfield 18, 3) := by decide +kernel
theorem dX1_size_4 : decode cX1_size 4 = .ok (.ireturn, 1) := by decide +kernel
theorem dX1_forget_0 : decode cX1_forget 0 = .ok (.aload_n 0, 1) := by decide +kernel
theorem dX1_forget_1 : decode cX1_forget 1 = .ok (.iconst 0, 1) := by decide +kernel
theorem dX1_forget_2 : decode cX1_forget 2 = .ok (.putfield 18, 3) := by decide +kernel
theorem dX1_forget_5 : decode cX1_forget 5 = .ok (.return_, 1) := by decide +kernel
theorem dX1_memory_0 : decode cX1_memory 0 = .ok (.aload_n 0, 1) := by decide +kernel
theorem dX1_memory_1 : decode cX1_memory 1 = .ok (.getfield 22, 3) := by decide +kernel
theorem dX1_memory_4 : decode cX1_memory 4 = .ok (.iload_n 1, 1) := by decide +kernel
theorem dX1_memory_5 : decode cX1_memory 5 = .ok (.iadd, 1) := by decide +kernel
theorem dX1_memory_6 : decode cX1_memory 6 = .ok (.bipush 14, 2) := by decide +kernel
theorem dX1_memory_8 : decode cX1_memory 8 = .ok (.irem, 1) := by decide +kernel
theorem dX1_memory_9 : decode cX1_memory 9 = .ok (.istore_n 2, 1) := by decide +kernel
theorem dX1_memory_10 : decode cX1_memory 10 = .ok (.iload_n 2, 1) := by decide +kernel
theorem dX1_memory_11 : decode cX1_memory 11 = .ok (.ifCond .lt 21, 3) := by decide +kernel
theorem dX1_memory_14 : decode cX1_memory 14 = .ok (.iload_n 2, 1) := by decide +kernel
theorem dX1_memory_15 : decode cX1_memory 15 = .ok (.aload_n 0, 1) := by decide +kernel
theorem dX1_memory_16 : decode cX1_memory 16 = .ok (.getfield 11, 3) := by decide +kernel
theorem dX1_memory_19 : decode cX1_memory 19 = .ok (.arraylength, 1) := by decide +kernel
theorem dX1_memory_20 : decode cX1_memory 20 = .ok (.if_icmp .ge 12, 3) := by decide +kernel
theorem dX1_memory_23 : decode cX1_memory 23 = .ok (.aload_n 0, 1) := by decide +kernel
theorem dX1_memory_24 : decode cX1_memory 24 = .ok (.getfield 11, 3) := by decide +kernel
theorem dX1_memory_27 : decode cX1_memory 27 = .ok (.iload_n 2, 1) := by decide +kernel
theorem dX1_memory_28 : decode cX1_memory 28 = .ok (.aaload, 1) := by decide +kernel
theorem dX1_memory_29 : decode cX1_memory 29 = .ok (.goto 4, 3) := by decide +kernel
theorem dX1_memory_32 : decode cX1_memory 32 = .ok (.aconst_null, 1) := by decide +kernel
theorem dX1_memory_33 : decode cX1_memory 33 = .ok (.areturn, 1) := by decide +kernel
set_option maxRecDepth 20000 in
theorem ggX1_remember_X1_memory : GoodIn wsX1_remember wsX1_memory := goodIn_r _ [7, 2, 8, 30, 31, 32] (by decide +kernel) (by decide +kernel)
set_option maxRecDepth 20000 in
theorem gX1_remember_X1_memory : GoodIn wsX1_remember (wsV RX1 25 RX1 yX1_memory wsX1_memory) := goodIn_app (goodIn_of _ (by decide +kernel)) ggX1_remember_X1_memory
set_option maxRecDepth 20000 in
theorem ggX1_remember_X0_copy : GoodIn wsX1_remember wsX0_copy := goodIn_r _ [13, 14, 15, 16, 17, 18, 19, 20, 21, 22, 23, 24, 25, 26, 27, 28, 29, 33, 34, 35, 36, 37, 38, 39, 40, 41, 42, 43, 44] (by decide +kernel) (by decide +kernel)
set_option maxRecDepth 20000 in
theorem gX1_remember_X0_copy : GoodIn wsX1_remember (wsV RX1 29 RX0 yX0_copy wsX0_copy) := goodIn_app (goodIn_of _ (by decide +kernel)) ggX1_remember_X0_copy
theorem dX1_remember_0 : decode cX1_remember 0 = .ok (.aload_n 0, 1) := by decide +kernel
theorem dX1_remember_1 : decode cX1_remember 1 = .ok (.getfield 18, 3) := by decide +kernel
theorem dX1_remember_4 : decode cX1_remember 4 = .ok (.bipush 14, 2) := by decide +kernel
theorem dX1_remember_6 : decode cX1_remember 6 = .ok (.if_icmp .ge 16, 3) := by decide +kernel
theorem dX1_remember_9 : decode cX1_remember 9 = .ok (.aload_n 0, 1) := by decide +kernel
theorem dX1_remember_10 : decode cX1_remember 10 = .ok (.dup, 1) := by decide +kernel
theorem dX1_remember_11 : decode cX1_remember 11 = .ok (.getfield 18, 3) := by decide +kernel
theorem dX1_remember_14 : decode cX1_remember 14 = .ok (.iconst 1, 1) := by decide +kernel
theorem dX1_remember_15 : decode cX1_remember 15 = .ok (.iadd, 1) := by decide +kernel
theorem dX1_remember_16 : decode cX1_remember 16 = .ok (.putfield 18, 3) := by decide +kernel
theorem dX1_remember_19 : decode cX1_remember 19 = .ok (.goto 16, 3) := by decide +kernel
theorem dX1_remember_22 : decode cX1_remember 22 = .ok (.aload_n 0, 1) := by decide +kernel
theorem dX1_remember_23 : decode cX1_remember 23 = .ok (.aload_n 0, 1) := by decide +kernel
theorem dX1_remember_24 : decode cX1_remember 24 = .ok (.getfield 22, 3) := by decide +kernel
theorem dX1_remember_27 : decode cX1_remember 27 = .ok (.iconst 1, 1) := by decide +kernel
theorem dX1_remember_28 : decode cX1_remember 28 = .ok (.iadd, 1) := by decide +kernel
theorem dX1_remember_29 : decode cX1_remember 29 = .ok (.bipush 14, 2) := by decide +kernel
theorem dX1_remember_31 : decode cX1_remember 31 = .ok (.irem, 1) := by decide +kernel
theorem dX1_remember_32 : decode cX1_remember 32 = .ok (.putfield 22, 3) := by decide +kernel
theorem dX1_remember_35 : decode cX1_remember 35 = .ok (.aload_n 0, 1) := by decide +kernel
theorem dX1_remember_36 : decode cX1_remember 36 = .ok (.aload_n 0, 1) := by decide +kernel
theorem dX1_remember_37 : decode cX1_remember 37 = .ok (.getfield 18, 3) := by decide +kernel
theorem dX1_remember_40 : decode cX1_remember 40 = .ok (.iconst 1, 1) := by decide +kernel
theorem dX1_remember_41 : decode cX1_remember 41 = .ok (.isub, 1) := by decide +kernel
theorem dX1_remember_42 : decode cX1_remember 42 = .ok (.invokevirtual 25, 3) := by decide +kernel
theorem dX1_remember_45 : decode cX1_remember 45 = .ok (.astore_n 2, 1) := by decide +kernel
theorem dX1_remember_46 : decode cX1_remember 46 = .ok (.aload_n 2, 1) := by decide +kernel
theorem dX1_remember_47 : decode cX1_remember 47 = .ok (.ifnull 8, 3) := by decide +kernel
theorem dX1_remember_50 : decode cX1_remember 50 = .ok (.aload_n 2, 1) := by decide +kernel
theorem dX1_remember_51 : decode cX1_remember 51 = .ok (.aload_n 1, 1) := by decide +kernel
theorem dX1_remember_52 : decode cX1_remember 52 = .ok (.invokevirtual 29, 3) := by decide +kernel
theorem dX1_remember_55 : decode cX1_remember 55 = .ok (.return_, 1) := by decide +kernel
set_option maxRecDepth 20000 in
theorem ggX1_takeBack_X1_memory : GoodIn wsX1_takeBack wsX1_memory := goodIn_r _ [6, 7, 8, 30, 31, 32] (by decide +kernel) (by decide +kernel)
set_option maxRecDepth 20000 in
theorem gX1_takeBack_X1_memory : GoodIn wsX1_takeBack (wsV RX1 25 RX1 yX1_memory wsX1_memory) := goodIn_app (goodIn_of _ (by decide +kernel)) ggX1_takeBack_X1_memory
set_option maxRecDepth 20000 in
theorem ggX1_takeBack_X0_copy : GoodIn wsX1_takeBack wsX0_copy := goodIn_r _ [13, 14, 15, 16, 17, 18, 19, 20, 21, 22, 23, 24, 25, 26, 27, 28, 29, 33, 34, 35, 36, 37, 38, 39, 40, 41, 42, 43, 44] (by decide +kernel) (by decide +kernel)
set_option maxRecDepth 20000 in
theorem gX1_takeBack_X0_copy : GoodIn wsX1_takeBack (wsV RX1 29 RX0 yX0_copy wsX0_copy) := goodIn_app (goodIn_of _ (by decide +kernel)) ggX1_takeBack_X0_copy
theorem dX1_takeBack_0 : decode cX1_takeBack 0 = .ok (.aload_n 0, 1) := by decide +kernel
theorem dX1_takeBack_1 : decode cX1_takeBack 1 = .ok (.aload_n 0, 1) := by decide +kernel
theorem dX1_takeBack_2 : decode cX1_takeBack 2 = .ok (.getfield 18, 3) := by decide +kernel
theorem dX1_takeBack_5 : decode cX1_takeBack 5 = .ok (.iconst 1, 1) := by decide +kernel
theorem dX1_takeBack_6 : decode cX1_takeBack 6 = .ok (.isub, 1) := by decide +kernel
theorem dX1_takeBack_7 : decode cX1_takeBack 7 = .ok (.invokevirtual 25, 3) := by decide +kernel
theorem dX1_takeBack_10 : decode cX1_takeBack 10 = .ok (.astore_n 2, 1) := by decide +kernel
theorem dX1_takeBack_11 : decode cX1_takeBack 11 = .ok (.aload_n 0, 1) := by decide +kernel
theorem dX1_takeBack_12 : decode cX1_takeBack 12 = .ok (.getfield 18, 3) := by decide +kernel
theorem dX1_takeBack_15 : decode cX1_takeBack 15 = .ok (.ifCond .le 22, 3) := by decide +kernel
theorem dX1_takeBack_18 : decode cX1_takeBack 18 = .ok (.aload_n 2, 1) := by decide +kernel
theorem dX1_takeBack_19 : decode cX1_takeBack 19 = .ok (.ifnull 18, 3) := by decide +kernel
theorem dX1_takeBack_22 : decode cX1_takeBack 22 = .ok (.aload_n 1, 1) := by decide +kernel
theorem dX1_takeBack_23 : decode cX1_takeBack 23 = .ok (.aload_n 2, 1) := by decide +kernel
theorem dX1_takeBack_24 : decode cX1_takeBack 24 = .ok (.invokevirtual 29, 3) := by decide +kernel
theorem dX1_takeBack_27 : decode cX1_takeBack 27 = .ok (.aload_n 0, 1) := by decide +kernel
theorem dX1_takeBack_28 : decode cX1_takeBack 28 = .ok (.dup, 1) := by decide +kernel
theorem dX1_takeBack_29 : decode cX1_takeBack 29 = .ok (.getfield 18, 3) := by decide +kernel
theorem dX1_takeBack_32 : decode cX1_takeBack 32 = .ok (.iconst 1, 1) := by decide +kernel
theorem dX1_takeBack_33 : decode cX1_takeBack 33 = .ok (.isub, 1) := by decide +kernel
theorem dX1_takeBack_34 : decode cX1_takeBack 34 = .ok (.putfield 18, 3) := by decide +kernel
theorem dX1_takeBack_37 : decode cX1_takeBack 37 = .ok (.aload_n 0, 1) := by decide +kernel
theorem dX1_takeBack_38 : decode cX1_takeBack 38 = .ok (.getfield 18, 3) := by decide +kernel
theorem dX1_takeBack_41 : decode cX1_takeBack 41 = .ok (.ireturn, 1) := by decide +kernel
set_option maxRecDepth 20000 in
theorem ggX2_succeeds_X0_shootIfPossible : GoodIn wsX2_succeeds wsX0_shootIfPossible := goodIn_r _ [5, 6, 7, 8, 4, 9, 10, 11, 12, 13, 14, 15, 16, 17, 18, 19, 20, 21, 22, 23, 24, 25, 26, 27, 28, 29, 30, 31, 32, 33, 34, 35, 36, 37, 38, 39, 40, 41, 42, 43, 44, 45, 46, 47, 48, 49, 50, 51, 52, 53, 54, 55, 56, 57, 58, 59, 60, 61, 62, 63, 64, 65, 66, 67, 68, 69, 70, 71, 72, 73, 74, 75, 76, 77, 78, 79, 80, 81, 82, 83, 84, 85, 86, 87, 88, 89, 90, 91, 92, 93, 94, 95, 96, 97, 98, 99, 100, 101, 102, 103, 104, 105, 106, 107, 175, 176, 177, 178, 179, 180, 181, 182, 183, 184, 185, 186] (by decide +kernel) (by decide +kernel)
set_option maxRecDepth 20000 in
theorem gX2_succeeds_X0_shootIfPossible : GoodIn wsX2_succeeds (wsV RX2 7 RX0 yX0_shootIfPossible wsX0_shootIfPossible) := goodIn_app (goodIn_of _ (by decide +kernel)) ggX2_succeeds_X0_shootIfPossible
set_option maxRecDepth 20000 in
theorem ggX2_succeeds_X0_eat : GoodIn wsX2_succeeds wsX0_eat := goodIn_r _ [111, 35, 36, 20, 21, 22, 23, 24, 25, 26, 112, 113, 114, 115, 103, 104, 105, 106, 175, 176, 177, 178, 179, 180, 181, 182, 183, 184, 185, 186] (by decide +kernel) (by decide +kernel)
set_option maxRecDepth 20000 in
theorem gX2_succeeds_X0_eat : GoodIn wsX2_succeeds (wsV RX2 13 RX0 yX0_eat wsX0_eat) := goodIn_app (goodIn_of _ (by decide +kernel)) ggX2_succeeds_X0_eat
set_option maxRecDepth 20000 in
theorem ggX2_succeeds_X0_beginDay : GoodIn wsX2_succeeds wsX0_beginDay := goodIn_r _ [119, 36, 120, 112, 113, 114, 23, 115, 25, 103, 104, 105, 106, 26, 175, 176, 177, 178, 179, 180, 181, 182, 183, 184, 185, 186] (by decide +kernel) (by decide +kernel)
set_option maxRecDepth 20000 in
theorem gX2_succeeds_X0_beginDay : GoodIn wsX2_succeeds (wsV RX2 17 RX0 yX0_beginDay wsX0_beginDay) := goodIn_app (goodIn_of _ (by decide +kernel)) ggX2_succeeds_X0_beginDay
set_option maxRecDepth 20000 in
theorem ggX2_succeeds_X0_exchangeForLowest : GoodIn wsX2_succeeds wsX0_exchangeForLowest := goodIn_r _ [124, 35, 125, 126, 127, 4, 128, 36, 11, 12, 13, 14, 15, 129, 130, 131, 132, 16, 17, 18, 19, 10, 20, 21, 22, 23, 24, 25, 26, 50, 51, 52, 31, 32, 33, 34, 46, 47, 48, 49, 42, 43, 44, 45, 133, 134, 135, 136, 107, 104, 105, 106, 175, 176, 177, 178, 179, 180, 181, 182, 183, 184, 185, 186] (by decide +kernel) (by decide +kernel)
set_option maxRecDepth 20000 in
theorem gX2_succeeds_X0_exchangeForLowest : GoodIn wsX2_succeeds (wsV RX2 20 RX0 yX0_exchangeForLowest wsX0_exchangeForLowest) := goodIn_app (goodIn_of _ (by decide +kernel)) ggX2_succeeds_X0_exchangeForLowest
set_option maxRecDepth 20000 in
theorem ggX2_succeeds_X2_changes : GoodIn wsX2_succeeds wsX2_changes := goodIn_r _ [140, 141, 51, 142, 143, 144, 145, 146, 147, 148, 4, 149, 41, 150, 151, 152, 153, 20, 21, 22, 23, 24, 25, 26, 107, 104, 105, 106, 175, 176, 177, 178, 179, 180, 181, 182, 183, 184, 185, 186] (by decide +kernel) (by decide +kernel)
set_option maxRecDepth 20000 in
theorem gX2_succeeds_X2_changes : GoodIn wsX2_succeeds (va_wsS RX2 24 yX2_changes wsX2_changes) := goodIn_app (goodIn_of _ (by decide +kernel)) ggX2_succeeds_X2_changes
set_option maxRecDepth 20000 in
theorem ggX2_succeeds_X2_isCast : GoodIn wsX2_succeeds wsX2_isCast := goodIn_r _ [156, 157, 12, 13, 4, 14, 15, 158, 130, 131, 132, 35, 159, 17, 18, 19, 10, 20, 21, 22, 23, 24, 25, 26, 50, 51, 52, 175, 176, 177, 178, 179, 180, 181, 182, 183, 184, 185, 186] (by decide +kernel) (by decide +kernel)
set_option maxRecDepth 20000 in
theorem gX2_succeeds_X2_isCast : GoodIn wsX2_succeeds (va_wsS RX2 30 yX2_isCast wsX2_isCast) := goodIn_app (goodIn_of _ (by decide +kernel)) ggX2_succeeds_X2_isCast
set_option maxRecDepth 20000 in
theorem ggX2_succeeds_X2_worksSo : GoodIn wsX2_succeeds wsX2_worksSo := goodIn_r _ [162, 158, 130, 131, 4, 132, 35, 144, 51, 145, 163, 164, 165, 166, 36, 20, 21, 22, 23, 24, 25, 26, 175, 176, 177, 178, 179, 180, 181, 182, 183, 184, 185, 186] (by decide +kernel) (by decide +kernel)
set_option maxRecDepth 20000 in
theorem gX2_succeeds_X2_worksSo : GoodIn wsX2_succeeds (va_wsS RX2 33 yX2_worksSo wsX2_worksSo) := goodIn_app (goodIn_of _ (by decide +kernel)) ggX2_succeeds_X2_worksSo
set_option maxRecDepth 20000 in
theorem ggX2_succeeds_X0_allPenalties : GoodIn wsX2_succeeds wsX0_allPenalties := goodIn_r _ [170, 92, 175, 176, 177, 178, 179, 180, 181, 182, 183, 184] (by decide +kernel) (by decide +kernel)
set_option maxRecDepth 20000 in
theorem gX2_succeeds_X0_allPenalties : GoodIn wsX2_succeeds (wsV RX2 36 RX0 yX0_allPenalties wsX0_allPenalties) := goodIn_app (goodIn_of _ (by decide +kernel)) ggX2_succeeds_X0_allPenalties
set_option maxRecDepth 20000 in
theorem ggX2_succeeds_X0_allBreaks : GoodIn wsX2_succeeds wsX0_allBreaks := goodIn_r _ [174, 73, 175, 176, 177, 178, 179, 180, 181, 182, 183, 184] (by decide +kernel) (by decide +kernel)
set_option maxRecDepth 20000 in
theorem gX2_succeeds_X0_allBreaks : GoodIn wsX2_succeeds (wsV RX2 39 RX0 yX0_allBreaks wsX0_allBreaks) := goodIn_app (goodIn_of _ (by decide +kernel)) ggX2_succeeds_X0_allBreaks
theorem dX2_succeeds_0 : decode cX2_succeeds 0 = .ok (.iload_n 1, 1) := by decide +kernel
theorem dX2_succeeds_1 : decode cX2_succeeds 1 = .ok (.sipush 10000, 3) := by decide +kernel
theorem dX2_succeeds_4 : decode cX2_succeeds 4 = .ok (.idiv, 1) := by decide +kernel
theorem dX2_succeeds_5 : decode cX2_succeeds 5 = .ok (.tableswitch 280 1 9 #[51, 80, 101, 122, 157, 175, 210, 226, 253], 51) := by decide +kernel
theorem dX2_succeeds_56 : decode cX2_succeeds 56 = .ok (.iload_n 1, 1) := by decide +kernel
theorem dX2_succeeds_57 : decode cX2_succeeds 57 = .ok (.sipush 1000, 3) := by decide +kernel
theorem dX2_succeeds_60 : decode cX2_succeeds 60 = .ok (.irem, 1) := by decide +kernel
theorem dX2_succeeds_61 : decode cX2_succeeds 61 = .ok (.ifCond .ne 22, 3) := by decide +kernel
theorem dX2_succeeds_64 : decode cX2_succeeds 64 = .ok (.aload_n 0, 1) := by decide +kernel
theorem dX2_succeeds_65 : decode cX2_succeeds 65 = .ok (.iload_n 1, 1) := by decide +kernel
theorem dX2_succeeds_66 : decode cX2_succeeds 66 = .ok (.sipush 1000, 3) := by decide +kernel
theorem dX2_succeeds_69 : decode cX2_succeeds 69 = .ok (.idiv, 1) := by decide +kernel
theorem dX2_succeeds_70 : decode cX2_succeeds 70 = .ok (.bipush 10, 2) := by decide +kernel
theorem dX2_succeeds_72 : decode cX2_succeeds 72 = .ok (.irem, 1) := by decide +kernel
theorem dX2_succeeds_73 : decode cX2_succeeds 73 = .ok (.invokevirtual 7, 3) := by decide +kernel
theorem dX2_succeeds_76 : decode cX2_succeeds 76 = .ok (.ifCond .eq 7, 3) := by decide +kernel
theorem dX2_succeeds_79 : decode cX2_succeeds 79 = .ok (.iconst 1, 1) := by decide +kernel
theorem dX2_succeeds_80 : decode cX2_succeeds 80 = .ok (.goto 4, 3) := by decide +kernel
theorem dX2_succeeds_83 : decode cX2_succeeds 83 = .ok (.iconst 0, 1) := by decide +kernel
theorem dX2_succeeds_84 : decode cX2_succeeds 84 = .ok (.ireturn, 1) := by decide +kernel
theorem dX2_succeeds_85 : decode cX2_succeeds 85 = .ok (.iload_n 1, 1) := by decide +kernel
theorem dX2_succeeds_86 : decode cX2_succeeds 86 = .ok (.sipush 10000, 3) := by decide +kernel
theorem dX2_succeeds_89 : decode cX2_succeeds 89 = .ok (.irem, 1) := by decide +kernel
theorem dX2_succeeds_90 : decode cX2_succeeds 90 = .ok (.ifCond .ne 14, 3) := by decide +kernel
theorem dX2_succeeds_93 : decode cX2_succeeds 93 = .ok (.aload_n 0, 1) := by decide +kernel
theorem dX2_succeeds_94 : decode cX2_succeeds 94 = .ok (.invokevirtual 13, 3) := by decide +kernel
theorem dX2_succeeds_97 : decode cX2_succeeds 97 = .ok (.ifCond .lt 7, 3) := by decide +kernel
theorem dX2_succeeds_100 : decode cX2_succeeds 100 = .ok (.iconst 1, 1) := by decide +kernel
theorem dX2_succeeds_101 : decode cX2_succeeds 101 = .ok (.goto 4, 3) := by decide +kernel
theorem dX2_succeeds_104 : decode cX2_succeeds 104 = .ok (.iconst 0, 1) := by decide +kernel
theorem dX2_succeeds_105 : decode cX2_succeeds 105 = .ok (.ireturn, 1) := by decide +kernel
theorem dX2_succeeds_106 : decode cX2_succeeds 106 = .ok (.iload_n 1, 1) := by decide +kernel
theorem dX2_succeeds_107 : decode cX2_succeeds 107 = .ok (.sipush 10000, 3) := by decide +kernel
theorem dX2_succeeds_110 : decode cX2_succeeds 110 = .ok (.irem, 1) := by decide +kernel
theorem dX2_succeeds_111 : decode cX2_succeeds 111 = .ok (.ifCond .ne 14, 3) := by decide +kernel
theorem dX2_succeeds_114 : decode cX2_succeeds 114 = .ok (.aload_n 0, 1) := by decide +kernel
theorem dX2_succeeds_115 : decode cX2_succeeds 115 = .ok (.invokevirtual 17, 3) := by decide +kernel
theorem dX2_succeeds_118 : decode cX2_succeeds 118 = .ok (.ifCond .le 7, 3) := by decide +kernel
theorem dX2_succeeds_121 : decode cX2_succeeds 121 = .ok (.iconst 1, 1) := by decide +kernel
theorem dX2_succeeds_122 : decode cX2_succeeds 122 = .ok (.goto 4, 3) := by decide +kernel
theorem dX2_succeeds_125 : decode cX2_succeeds 125 = .ok (.iconst 0, 1) := by decide +kernel
theorem dX2_succeeds_126 : decode cX2_succeeds 126 = .ok (.ireturn, 1) := by decide +kernel
theorem dX2_succeeds_127 : decode cX2_succeeds 127 = .ok (.iload_n 1, 1) := by decide +kernel
theorem dX2_succeeds_128 : decode cX2_succeeds 128 = .ok (.bipush 10, 2) := by decide +kernel
theorem dX2_succeeds_130 : decode cX2_succeeds 130 = .ok (.irem, 1) := by decide +kernel
theorem dX2_succeeds_131 : decode cX2_succeeds 131 = .ok (.ifCond .ne 29, 3) := by decide +kernel
theorem dX2_succeeds_134 : decode cX2_succeeds 134 = .ok (.aload_n 0, 1) := by decide +kernel
theorem dX2_succeeds_135 : decode cX2_succeeds 135 = .ok (.iload_n 1, 1) := by decide +kernel
theorem dX2_succeeds_136 : decode cX2_succeeds 136 = .ok (.sipush 1000, 3) := by decide +kernel
theorem dX2_succeeds_139 : decode cX2_succeeds 139 = .ok (.idiv, 1) := by decide +kernel
theorem dX2_succeeds_140 : decode cX2_succeeds 140 = .ok (.bipush 10, 2) := by decide +kernel
theorem dX2_succeeds_142 : decode cX2_succeeds 142 = .ok (.irem, 1) := by decide +kernel
theorem dX2_succeeds_143 : decode cX2_succeeds 143 = .ok (.iload_n 1, 1) := by decide +kernel
theorem dX2_succeeds_144 : decode cX2_succeeds 144 = .ok (.bipush 10, 2) := by decide +kernel
theorem dX2_succeeds_146 : decode cX2_succeeds 146 = .ok (.idiv, 1) := by decide +kernel
theorem dX2_succeeds_147 : decode cX2_succeeds 147 = .ok (.bipush 100, 2) := by decide +kernel
theorem dX2_succeeds_149 : decode cX2_succeeds 149 = .ok (.irem, 1) := by decide +kernel
theorem dX2_succeeds_150 : decode cX2_succeeds 150 = .ok (.invokevirtual 20, 3) := by decide +kernel
theorem dX2_succeeds_153 : decode cX2_succeeds 153 = .ok (.ifCond .eq 7, 3) := by decide +kernel
theorem dX2_succeeds_156 : decode cX2_succeeds 156 = .ok (.iconst 1, 1) := by decide +kernel
theorem dX2_succeeds_157 : decode cX2_succeeds 157 = .ok (.goto 4, 3) := by decide +kernel
theorem dX2_succeeds_160 : decode cX2_succeeds 160 = .ok (.iconst 0, 1) := by decide +kernel
theorem dX2_succeeds_161 : decode cX2_succeeds 161 = .ok (.ireturn, 1) := by decide +kernel
theorem dX2_succeeds_162 : decode cX2_succeeds 162 = .ok (.aload_n 0, 1) := by decide +kernel
theorem dX2_succeeds_163 : decode cX2_succeeds 163 = .ok (.iload_n 1, 1) := by decide +kernel
theorem dX2_succeeds_164 : decode cX2_succeeds 164 = .ok (.sipush 1000, 3) := by decide +kernel
theorem dX2_succeeds_167 : decode cX2_succeeds 167 = .ok (.idiv, 1) := by decide +kernel
theorem dX2_succeeds_168 : decode cX2_succeeds 168 = .ok (.bipush 10, 2) := by decide +kernel
theorem dX2_succeeds_170 : decode cX2_succeeds 170 = .ok (.irem, 1) := by decide +kernel
theorem dX2_succeeds_171 : decode cX2_succeeds 171 = .ok (.iload_n 1, 1) := by decide +kernel
theorem dX2_succeeds_172 : decode cX2_succeeds 172 = .ok (.sipush 1000, 3) := by decide +kernel
theorem dX2_succeeds_175 : decode cX2_succeeds 175 = .ok (.irem, 1) := by decide +kernel
theorem dX2_succeeds_176 : decode cX2_succeeds 176 = .ok (.invokestatic 24, 3) := by decide +kernel
theorem dX2_succeeds_179 : decode cX2_succeeds 179 = .ok (.ireturn, 1) := by decide +kernel
theorem dX2_succeeds_180 : decode cX2_succeeds 180 = .ok (.iload_n 1, 1) := by decide +kernel
theorem dX2_succeeds_181 : decode cX2_succeeds 181 = .ok (.bipush 10, 2) := by decide +kernel
theorem dX2_succeeds_183 : decode cX2_succeeds 183 = .ok (.irem, 1) := by decide +kernel
theorem dX2_succeeds_184 : decode cX2_succeeds 184 = .ok (.ifCond .ne 29, 3) := by decide +kernel
theorem dX2_succeeds_187 : decode cX2_succeeds 187 = .ok (.aload_n 0, 1) := by decide +kernel
theorem dX2_succeeds_188 : decode cX2_succeeds 188 = .ok (.iload_n 1, 1) := by decide +kernel
theorem dX2_succeeds_189 : decode cX2_succeeds 189 = .ok (.sipush 1000, 3) := by decide +kernel
theorem dX2_succeeds_192 : decode cX2_succeeds 192 = .ok (.idiv, 1) := by decide +kernel
theorem dX2_succeeds_193 : decode cX2_succeeds 193 = .ok (.bipush 10, 2) := by decide +kernel
theorem dX2_succeeds_195 : decode cX2_succeeds 195 = .ok (.irem, 1) := by decide +kernel
theorem dX2_succeeds_196 : decode cX2_succeeds 196 = .ok (.iload_n 1, 1) := by decide +kernel
theorem dX2_succeeds_197 : decode cX2_succeeds 197 = .ok (.bipush 10, 2) := by decide +kernel
theorem dX2_succeeds_199 : decode cX2_succeeds 199 = .ok (.idiv, 1) := by decide +kernel
theorem dX2_succeeds_200 : decode cX2_succeeds 200 = .ok (.bipush 100, 2) := by decide +kernel
theorem dX2_succeeds_202 : decode cX2_succeeds 202 = .ok (.irem, 1) := by decide +kernel
theorem dX2_succeeds_203 : decode cX2_succeeds 203 = .ok (.invokestatic 30, 3) := by decide +kernel
theorem dX2_succeeds_206 : decode cX2_succeeds 206 = .ok (.ifCond .eq 7, 3) := by decide +kernel
theorem dX2_succeeds_209 : decode cX2_succeeds 209 = .ok (.iconst 1, 1) := by decide +kernel
theorem dX2_succeeds_210 : decode cX2_succeeds 210 = .ok (.goto 4, 3) := by decide +kernel
theorem dX2_succeeds_213 : decode cX2_succeeds 213 = .ok (.iconst 0, 1) := by decide +kernel
theorem dX2_succeeds_214 : decode cX2_succeeds 214 = .ok (.ireturn, 1) := by decide +kernel
theorem dX2_succeeds_215 : decode cX2_succeeds 215 = .ok (.aload_n 0, 1) := by decide +kernel
theorem dX2_succeeds_216 : decode cX2_succeeds 216 = .ok (.iload_n 1, 1) := by decide +kernel
theorem dX2_succeeds_217 : decode cX2_succeeds 217 = .ok (.bipush 100, 2) := by decide +kernel
theorem dX2_succeeds_219 : decode cX2_succeeds 219 = .ok (.idiv, 1) := by decide +kernel
theorem dX2_succeeds_220 : decode cX2_succeeds 220 = .ok (.bipush 100, 2) := by decide +kernel
theorem dX2_succeeds_222 : decode cX2_succeeds 222 = .ok (.irem, 1) := by decide +kernel
theorem dX2_succeeds_223 : decode cX2_succeeds 223 = .ok (.iload_n 1, 1) := by decide +kernel
theorem dX2_succeeds_224 : decode cX2_succeeds 224 = .ok (.bipush 100, 2) := by decide +kernel
theorem dX2_succeeds_226 : decode cX2_succeeds 226 = .ok (.irem, 1) := by decide +kernel
theorem dX2_succeeds_227 : decode cX2_succeeds 227 = .ok (.invokestatic 33, 3) := by decide +kernel
theorem dX2_succeeds_230 : decode cX2_succeeds 230 = .ok (.ireturn, 1) := by decide +kernel
theorem dX2_succeeds_231 : decode cX2_succeeds 231 = .ok (.iload_n 1, 1) := by decide +kernel
theorem dX2_succeeds_232 : decode cX2_succeeds 232 = .ok (.bipush 100, 2) := by decide +kernel
theorem dX2_succeeds_234 : decode cX2_succeeds 234 = .ok (.idiv, 1) := by decide +kernel
theorem dX2_succeeds_235 : decode cX2_succeeds 235 = .ok (.bipush 100, 2) := by decide +kernel
theorem dX2_succeeds_237 : decode cX2_succeeds 237 = .ok (.irem, 1) := by decide +kernel
theorem dX2_succeeds_238 : decode cX2_succeeds 238 = .ok (.ifCond .ne 18, 3) := by decide +kernel
theorem dX2_succeeds_241 : decode cX2_succeeds 241 = .ok (.aload_n 0, 1) := by decide +kernel
theorem dX2_succeeds_242 : decode cX2_succeeds 242 = .ok (.invokevirtual 36, 3) := by decide +kernel
theorem dX2_succeeds_245 : decode cX2_succeeds 245 = .ok (.iload_n 1, 1) := by decide +kernel
theorem dX2_succeeds_246 : decode cX2_succeeds 246 = .ok (.bipush 100, 2) := by decide +kernel
theorem dX2_succeeds_248 : decode cX2_succeeds 248 = .ok (.irem, 1) := by decide +kernel
theorem dX2_succeeds_249 : decode cX2_succeeds 249 = .ok (.if_icmp .gt 7, 3) := by decide +kernel
theorem dX2_succeeds_252 : decode cX2_succeeds 252 = .ok (.iconst 1, 1) := by decide +kernel
theorem dX2_succeeds_253 : decode cX2_succeeds 253 = .ok (.goto 4, 3) := by decide +kernel
theorem dX2_succeeds_256 : decode cX2_succeeds 256 = .ok (.iconst 0, 1) := by decide +kernel
theorem dX2_succeeds_257 : decode cX2_succeeds 257 = .ok (.ireturn, 1) := by decide +kernel
theorem dX2_succeeds_258 : decode cX2_succeeds 258 = .ok (.iload_n 1, 1) := by decide +kernel
theorem dX2_succeeds_259 : decode cX2_succeeds 259 = .ok (.bipush 100, 2) := by decide +kernel
theorem dX2_succeeds_261 : decode cX2_succeeds 261 = .ok (.idiv, 1) := by decide +kernel
theorem dX2_succeeds_262 : decode cX2_succeeds 262 = .ok (.bipush 100, 2) := by decide +kernel
theorem dX2_succeeds_264 : decode cX2_succeeds 264 = .ok (.irem, 1) := by decide +kernel
theorem dX2_succeeds_265 : decode cX2_succeeds 265 = .ok (.ifCond .ne 18, 3) := by decide +kernel
theorem dX2_succeeds_268 : decode cX2_succeeds 268 = .ok (.aload_n 0, 1) := by decide +kernel
theorem dX2_succeeds_269 : decode cX2_succeeds 269 = .ok (.invokevirtual 39, 3) := by decide +kernel
theorem dX2_succeeds_272 : decode cX2_succeeds 272 = .ok (.iload_n 1, 1) := by decide +kernel
theorem dX2_succeeds_273 : decode cX2_succeeds 273 = .ok (.bipush 100, 2) := by decide +kernel
theorem dX2_succeeds_275 : decode cX2_succeeds 275 = .ok (.irem, 1) := by decide +kernel
theorem dX2_succeeds_276 : decode cX2_succeeds 276 = .ok (.if_icmp .gt 7, 3) := by decide +kernel
theorem dX2_succeeds_279 : decode cX2_succeeds 279 = .ok (.iconst 1, 1) := by decide +kernel
theorem dX2_succeeds_280 : decode cX2_succeeds 280 = .ok (.goto 4, 3) := by decide +kernel
theorem dX2_succeeds_283 : decode cX2_succeeds 283 = .ok (.iconst 0, 1) := by decide +kernel
theorem dX2_succeeds_284 : decode cX2_succeeds 284 = .ok (.ireturn, 1) := by decide +kernel
theorem dX2_succeeds_285 : decode cX2_succeeds 285 = .ok (.iconst 0, 1) := by decide +kernel
theorem dX2_succeeds_286 : decode cX2_succeeds 286 = .ok (.ireturn, 1) := by decide +kernel
set_option maxRecDepth 20000 in
theorem ggX2_changes_X7_isSetting : GoodIn wsX2_changes wsX7_isSetting := goodIn_r _ [3, 4, 5, 2, 6] (by decide +kernel) (by decide +kernel)
set_option maxRecDepth 20000 in
theorem gX2_changes_X7_isSetting_n42 : GoodIn wsX2_changes (wsX7_isSetting) := ggX2_changes_X7_isSetting
set_option maxRecDepth 20000 in
theorem ggX2_changes_X0_change : GoodIn wsX2_changes wsX0_change := goodIn_r _ [11, 12, 13, 14, 15, 10, 16, 17, 18, 19, 20, 21, 22, 23, 24, 25, 26, 27, 28, 29, 30, 31, 32, 33, 34, 35, 36, 37, 38, 39] (by decide +kernel) (by decide +kernel)
set_option maxRecDepth 20000 in
theorem gX2_changes_X0_change : GoodIn wsX2_changes (wsV RX2 47 RX0 yX0_change wsX0_change) := goodIn_app (goodIn_of _ (by decide +kernel)) ggX2_changes_X0_change
theorem dX2_changes_0 : decode cX2_changes 0 = .ok (.iload_n 1, 1) := by decide +kernel
theorem dX2_changes_1 : decode cX2_changes 1 = .ok (.iload_n 2, 1) := by decide +kernel
theorem dX2_changes_2 : decode cX2_changes 2 = .ok (.invokestatic 42, 3) := by decide +kernel
theorem dX2_changes_5 : decode cX2_changes 5 = .ok (.ifCond .ne 5, 3) := by decide +kernel
theorem dX2_changes_8 : decode cX2_changes 8 = .ok (.iconst 0, 1) := by decide +kernel
theorem dX2_changes_9 : decode cX2_changes 9 = .ok (.ireturn, 1) := by decide +kernel
theorem dX2_changes_10 : decode cX2_changes 10 = .ok (.aload_n 0, 1) := by decide +kernel
theorem dX2_changes_11 : decode cX2_changes 11 = .ok (.iload_n 1, 1) := by decide +kernel
theorem dX2_changes_12 : decode cX2_changes 12 = .ok (.iload_n 2, 1) := by decide +kernel
theorem dX2_changes_13 : decode cX2_changes 13 = .ok (.invokevirtual 47, 3) := by decide +kernel
theorem dX2_changes_16 : decode cX2_changes 16 = .ok (.pop, 1) := by decide +kernel
theorem dX2_changes_17 : decode cX2_changes 17 = .ok (.iconst 1, 1) := by decide +kernel
theorem dX2_changes_18 : decode cX2_changes 18 = .ok (.ireturn, 1) := by decide +kernel
set_option maxRecDepth 20000 in
theorem ggX2_isCast_X0_isScene : GoodIn wsX2_isCast wsX0_isScene := goodIn_r _ [5, 6, 27, 28, 29, 30, 31, 32, 33, 34, 35, 36] (by decide +kernel) (by decide +kernel)
set_option maxRecDepth 20000 in
theorem gX2_isCast_X0_isScene : GoodIn wsX2_isCast (wsV RX2 51 RX0 yX0_isScene wsX0_isScene) := goodIn_app (goodIn_of _ (by decide +kernel)) ggX2_isCast_X0_isScene
set_option maxRecDepth 20000 in
theorem ggX2_isCast_X0_isExtra : GoodIn wsX2_isCast wsX0_isExtra := goodIn_r _ [10, 11, 27, 28, 29, 30, 31, 32, 33, 34, 35, 36] (by decide +kernel) (by decide +kernel)
set_option maxRecDepth 20000 in
theorem gX2_isCast_X0_isExtra : GoodIn wsX2_isCast (wsV RX2 54 RX0 yX0_isExtra wsX0_isExtra) := goodIn_app (goodIn_of _ (by decide +kernel)) ggX2_isCast_X0_isExtra
set_option maxRecDepth 20000 in
theorem ggX2_isCast_X0_crowdOf : GoodIn wsX2_isCast wsX0_crowdOf := goodIn_r _ [15, 16, 17, 18, 19, 20, 21, 22, 23, 27, 28, 29, 30, 31, 32, 33, 34, 35, 36, 37, 38] (by decide +kernel) (by decide +kernel)
set_option maxRecDepth 20000 in
theorem gX2_isCast_X0_crowdOf : GoodIn wsX2_isCast (wsV RX2 57 RX0 yX0_crowdOf wsX0_crowdOf) := goodIn_app (goodIn_of _ (by decide +kernel)) ggX2_isCast_X0_crowdOf
set_option maxRecDepth 20000 in
theorem ggX2_isCast_X7_has : GoodIn wsX2_isCast wsX7_has := goodIn_r _ [26] (by decide +kernel) (by decide +kernel)
set_option maxRecDepth 20000 in
theorem gX2_isCast_X7_has_n61 : GoodIn wsX2_isCast (wsX7_has) := ggX2_isCast_X7_has
theorem dX2_isCast_0 : decode cX2_isCast 0 = .ok (.aload_n 0, 1) := by decide +kernel
theorem dX2_isCast_1 : decode cX2_isCast 1 = .ok (.iload_n 1, 1) := by decide +kernel
theorem dX2_isCast_2 : decode cX2_isCast 2 = .ok (.invokevirtual 51, 3) := by decide +kernel
theorem dX2_isCast_5 : decode cX2_isCast 5 = .ok (.ifCond .eq 27, 3) := by decide +kernel
theorem dX2_isCast_8 : decode cX2_isCast 8 = .ok (.aload_n 0, 1) := by decide +kernel
theorem dX2_isCast_9 : decode cX2_isCast 9 = .ok (.iload_n 2, 1) := by decide +kernel
theorem dX2_isCast_10 : decode cX2_isCast 10 = .ok (.invokevirtual 54, 3) := by decide +kernel
theorem dX2_isCast_13 : decode cX2_isCast 13 = .ok (.ifCond .eq 19, 3) := by decide +kernel
theorem dX2_isCast_16 : decode cX2_isCast 16 = .ok (.aload_n 0, 1) := by decide +kernel
theorem dX2_isCast_17 : decode cX2_isCast 17 = .ok (.iload_n 1, 1) := by decide +kernel
theorem dX2_isCast_18 : decode cX2_isCast 18 = .ok (.invokevirtual 57, 3) := by decide +kernel
theorem dX2_isCast_21 : decode cX2_isCast 21 = .ok (.iload_n 2, 1) := by decide +kernel
theorem dX2_isCast_22 : decode cX2_isCast 22 = .ok (.invokestatic 61, 3) := by decide +kernel
theorem dX2_isCast_25 : decode cX2_isCast 25 = .ok (.ifCond .eq 7, 3) := by decide +kernel
theorem dX2_isCast_28 : decode cX2_isCast 28 = .ok (.iconst 1, 1) := by decide +kernel
theorem dX2_isCast_29 : decode cX2_isCast 29 = .ok (.goto 4, 3) := by decide +kernel
theorem dX2_isCast_32 : decode cX2_isCast 32 = .ok (.iconst 0, 1) := by decide +kernel
theorem dX2_isCast_33 : decode cX2_isCast 33 = .ok (.ireturn, 1) := by decide +kernel
set_option maxRecDepth 20000 in
theorem ggX2_worksSo_X0_isExtra : GoodIn wsX2_worksSo wsX0_isExtra := goodIn_r _ [5, 6, 22, 23, 24, 25, 26, 27, 28, 29, 30, 31] (by decide +kernel) (by decide +kernel)
set_option maxRecDepth 20000 in
theorem gX2_worksSo_X0_isExtra : GoodIn wsX2_worksSo (wsV RX2 54 RX0 yX0_isExtra wsX0_isExtra) := goodIn_app (goodIn_of _ (by decide +kernel)) ggX2_worksSo_X0_isExtra
set_option maxRecDepth 20000 in
theorem ggX2_worksSo_X7_isIn : GoodIn wsX2_worksSo wsX7_isIn := goodIn_r _ [9] (by decide +kernel) (by decide +kernel)
set_option maxRecDepth 20000 in
theorem gX2_worksSo_X7_isIn_n64 : GoodIn wsX2_worksSo (wsX7_isIn) := ggX2_worksSo_X7_isIn
set_option maxRecDepth 20000 in
theorem ggX2_worksSo_X0_hasWorked : GoodIn wsX2_worksSo wsX0_hasWorked := goodIn_r _ [13, 14, 15, 16, 17, 18, 19, 20, 21, 22, 23, 24, 25, 26, 27, 28, 29, 30, 31, 32, 33] (by decide +kernel) (by decide +kernel)
set_option maxRecDepth 20000 in
theorem gX2_worksSo_X0_hasWorked : GoodIn wsX2_worksSo (wsV RX2 68 RX0 yX0_hasWorked wsX0_hasWorked) := goodIn_app (goodIn_of _ (by decide +kernel)) ggX2_worksSo_X0_hasWorked
theorem dX2_worksSo_0 : decode cX2_worksSo 0 = .ok (.aload_n 0, 1) := by decide +kernel
theorem dX2_worksSo_1 : decode cX2_worksSo 1 = .ok (.iload_n 1, 1) := by decide +kernel
theorem dX2_worksSo_2 : decode cX2_worksSo 2 = .ok (.invokevirtual 54, 3) := by decide +kernel
theorem dX2_worksSo_5 : decode cX2_worksSo 5 = .ok (.ifCond .eq 34, 3) := by decide +kernel
theorem dX2_worksSo_8 : decode cX2_worksSo 8 = .ok (.iload_n 2, 1) := by decide +kernel
theorem dX2_worksSo_9 : decode cX2_worksSo 9 = .ok (.iconst 0, 1) := by decide +kernel
theorem dX2_worksSo_10 : decode cX2_worksSo 10 = .ok (.iconst 1, 1) := by decide +kernel
theorem dX2_worksSo_11 : decode cX2_worksSo 11 = .ok (.invokestatic 64, 3) := by decide +kernel
theorem dX2_worksSo_14 : decode cX2_worksSo 14 = .ok (.ifCond .eq 25, 3) := by decide +kernel
theorem dX2_worksSo_17 : decode cX2_worksSo 17 = .ok (.aload_n 0, 1) := by decide +kernel
theorem dX2_worksSo_18 : decode cX2_worksSo 18 = .ok (.iload_n 1, 1) := by decide +kernel
theorem dX2_worksSo_19 : decode cX2_worksSo 19 = .ok (.invokevirtual 68, 3) := by decide +kernel
theorem dX2_worksSo_22 : decode cX2_worksSo 22 = .ok (.iload_n 2, 1) := by decide +kernel
theorem dX2_worksSo_23 : decode cX2_worksSo 23 = .ok (.iconst 1, 1) := by decide +kernel
theorem dX2_worksSo_24 : decode cX2_worksSo 24 = .ok (.if_icmp .ne 7, 3) := by decide +kernel
theorem dX2_worksSo_27 : decode cX2_worksSo 27 = .ok (.iconst 1, 1) := by decide +kernel
theorem dX2_worksSo_28 : decode cX2_worksSo 28 = .ok (.goto 4, 3) := by decide +kernel
theorem dX2_worksSo_31 : decode cX2_worksSo 31 = .ok (.iconst 0, 1) := by decide +kernel
theorem dX2_worksSo_32 : decode cX2_worksSo 32 = .ok (.if_icmp .ne 7, 3) := by decide +kernel
theorem dX2_worksSo_35 : decode cX2_worksSo 35 = .ok (.iconst 1, 1) := by decide +kernel
theorem dX2_worksSo_36 : decode cX2_worksSo 36 = .ok (.goto 4, 3) := by decide +kernel
theorem dX2_worksSo_39 : decode cX2_worksSo 39 = .ok (.iconst 0, 1) := by decide +kernel
theorem dX2_worksSo_40 : decode cX2_worksSo 40 = .ok (.ireturn, 1) := by decide +kernel
set_option maxRecDepth 20000 in
theorem ggX3_turn_X0_addExtra : GoodIn wsX3_turn wsX0_addExtra := goodIn_r _ [5, 6, 7, 8, 9, 10, 4, 11, 12, 13, 14, 15, 16, 17, 18, 145, 146, 147, 148, 149, 150, 151, 152, 153, 154, 155, 156] (by decide +kernel) (by decide +kernel)
set_option maxRecDepth 20000 in
theorem gX3_turn_X0_addExtra : GoodIn wsX3_turn (wsV RX3 9 RX0 yX0_addExtra wsX0_addExtra) := goodIn_app (goodIn_of _ (by decide +kernel)) ggX3_turn_X0_addExtra
set_option maxRecDepth 20000 in
theorem ggX3_turn_X0_addScene : GoodIn wsX3_turn wsX0_addScene := goodIn_r _ [22, 23, 24, 25, 26, 27, 4, 28, 12, 13, 14, 15, 16, 17, 18, 145, 146, 147, 148, 149, 150, 151, 152, 153, 154, 155, 156] (by decide +kernel) (by decide +kernel)
set_option maxRecDepth 20000 in
theorem gX3_turn_X0_addScene : GoodIn wsX3_turn (wsV RX3 15 RX0 yX0_addScene wsX0_addScene) := goodIn_app (goodIn_of _ (by decide +kernel)) ggX3_turn_X0_addScene
set_option maxRecDepth 20000 in
theorem ggX3_turn_X0_eat : GoodIn wsX3_turn wsX0_eat := goodIn_r _ [32, 6, 7, 33, 34, 35, 15, 36, 17, 18, 37, 38, 39, 40, 41, 13, 14, 16, 145, 146, 147, 148, 149, 150, 151, 152, 153, 154, 155, 156] (by decide +kernel) (by decide +kernel)
set_option maxRecDepth 20000 in
theorem gX3_turn_X0_eat : GoodIn wsX3_turn (wsV RX3 19 RX0 yX0_eat wsX0_eat) := goodIn_app (goodIn_of _ (by decide +kernel)) ggX3_turn_X0_eat
set_option maxRecDepth 20000 in
theorem ggX3_turn_X0_beginDay : GoodIn wsX3_turn wsX0_beginDay := goodIn_r _ [45, 7, 46, 37, 38, 39, 15, 40, 17, 41, 13, 14, 16, 18, 145, 146, 147, 148, 149, 150, 151, 152, 153, 154, 155, 156] (by decide +kernel) (by decide +kernel)
set_option maxRecDepth 20000 in
theorem gX3_turn_X0_beginDay : GoodIn wsX3_turn (wsV RX3 23 RX0 yX0_beginDay wsX0_beginDay) := goodIn_app (goodIn_of _ (by decide +kernel)) ggX3_turn_X0_beginDay
set_option maxRecDepth 20000 in
theorem ggX3_turn_X0_change : GoodIn wsX3_turn wsX0_change := goodIn_r _ [50, 51, 52, 53, 54, 4, 55, 33, 34, 35, 15, 36, 17, 18, 12, 13, 14, 16, 145, 146, 147, 148, 149, 150, 151, 152, 153, 154, 155, 156] (by decide +kernel) (by decide +kernel)
set_option maxRecDepth 20000 in
theorem gX3_turn_X0_change : GoodIn wsX3_turn (wsV RX3 26 RX0 yX0_change wsX0_change) := goodIn_app (goodIn_of _ (by decide +kernel)) ggX3_turn_X0_change
set_option maxRecDepth 20000 in
theorem ggX3_turn_X0_shootIfPossible : GoodIn wsX3_turn wsX0_shootIfPossible := goodIn_r _ [59, 60, 61, 62, 4, 63, 24, 64, 65, 66, 67, 23, 68, 69, 70, 71, 33, 34, 35, 15, 36, 17, 18, 72, 73, 74, 75, 76, 77, 78, 79, 6, 7, 80, 81, 82, 83, 51, 84, 85, 86, 87, 88, 89, 90, 91, 92, 93, 94, 95, 96, 97, 98, 99, 100, 101, 102, 103, 104, 105, 106, 107, 108, 109, 110, 111, 112, 113, 114, 115, 116, 117, 118, 119, 120, 121, 122, 123, 124, 125, 126, 127, 128, 129, 130, 131, 132, 133, 134, 135, 136, 137, 138, 139, 140, 141, 142, 143, 144, 41, 13, 14, 16, 12, 145, 146, 147, 148, 149, 150, 151, 152, 153, 154, 155, 156] (by decide +kernel) (by decide +kernel)
set_option maxRecDepth 20000 in
theorem gX3_turn_X0_shootIfPossible : GoodIn wsX3_turn (wsV RX3 29 RX0 yX0_shootIfPossible wsX0_shootIfPossible) := goodIn_app (goodIn_of _ (by decide +kernel)) ggX3_turn_X0_shootIfPossible
theorem dX3_turn_0 : decode cX3_turn 0 = .ok (.iload_n 1, 1) := by decide +kernel
theorem dX3_turn_1 : decode cX3_turn 1 = .ok (.bipush 8, 2) := by decide +kernel
theorem dX3_turn_3 : decode cX3_turn 3 = .ok (.idiv, 1) := by decide +kernel
theorem dX3_turn_4 : decode cX3_turn 4 = .ok (.istore_n 2, 1) := by decide +kernel
theorem dX3_turn_5 : decode cX3_turn 5 = .ok (.iload_n 1, 1) := by decide +kernel
theorem dX3_turn_6 : decode cX3_turn 6 = .ok (.bipush 8, 2) := by decide +kernel
theorem dX3_turn_8 : decode cX3_turn 8 = .ok (.irem, 1) := by decide +kernel
theorem dX3_turn_9 : decode cX3_turn 9 = .ok (.tableswitch 136 0 4 #[35, 35, 52, 94, 102], 35) := by decide +kernel
theorem dX3_turn_44 : decode cX3_turn 44 = .ok (.aload_n 0, 1) := by decide +kernel
theorem dX3_turn_45 : decode cX3_turn 45 = .ok (.iload_n 2, 1) := by decide +kernel
theorem dX3_turn_46 : decode cX3_turn 46 = .ok (.iconst 3, 1) := by decide +kernel
theorem dX3_turn_47 : decode cX3_turn 47 = .ok (.irem, 1) := by decide +kernel
theorem dX3_turn_48 : decode cX3_turn 48 = .ok (.iload_n 2, 1) := by decide +kernel
theorem dX3_turn_49 : decode cX3_turn 49 = .ok (.iconst 4, 1) := by decide +kernel
theorem dX3_turn_50 : decode cX3_turn 50 = .ok (.idiv, 1) := by decide +kernel
theorem dX3_turn_51 : decode cX3_turn 51 = .ok (.bipush 14, 2) := by decide +kernel
theorem dX3_turn_53 : decode cX3_turn 53 = .ok (.irem, 1) := by decide +kernel
theorem dX3_turn_54 : decode cX3_turn 54 = .ok (.invokevirtual 9, 3) := by decide +kernel
theorem dX3_turn_57 : decode cX3_turn 57 = .ok (.pop, 1) := by decide +kernel
theorem dX3_turn_58 : decode cX3_turn 58 = .ok (.goto 96, 3) := by decide +kernel
theorem dX3_turn_61 : decode cX3_turn 61 = .ok (.aload_n 0, 1) := by decide +kernel
theorem dX3_turn_62 : decode cX3_turn 62 = .ok (.iload_n 2, 1) := by decide +kernel
theorem dX3_turn_63 : decode cX3_turn 63 = .ok (.iconst 3, 1) := by decide +kernel
theorem dX3_turn_64 : decode cX3_turn 64 = .ok (.irem, 1) := by decide +kernel
theorem dX3_turn_65 : decode cX3_turn 65 = .ok (.iconst 1, 1) := by decide +kernel
theorem dX3_turn_66 : decode cX3_turn 66 = .ok (.iload_n 2, 1) := by decide +kernel
theorem dX3_turn_67 : decode cX3_turn 67 = .ok (.iconst 4, 1) := by decide +kernel
theorem dX3_turn_68 : decode cX3_turn 68 = .ok (.idiv, 1) := by decide +kernel
theorem dX3_turn_69 : decode cX3_turn 69 = .ok (.iconst 4, 1) := by decide +kernel
theorem dX3_turn_70 : decode cX3_turn 70 = .ok (.irem, 1) := by decide +kernel
theorem dX3_turn_71 : decode cX3_turn 71 = .ok (.iadd, 1) := by decide +kernel
theorem dX3_turn_72 : decode cX3_turn 72 = .ok (.iload_n 2, 1) := by decide +kernel
theorem dX3_turn_73 : decode cX3_turn 73 = .ok (.bipush 16, 2) := by decide +kernel
theorem dX3_turn_75 : decode cX3_turn 75 = .ok (.idiv, 1) := by decide +kernel
theorem dX3_turn_76 : decode cX3_turn 76 = .ok (.iconst 3, 1) := by decide +kernel
theorem dX3_turn_77 : decode cX3_turn 77 = .ok (.irem, 1) := by decide +kernel
theorem dX3_turn_78 : decode cX3_turn 78 = .ok (.iload_n 2, 1) := by decide +kernel
theorem dX3_turn_79 : decode cX3_turn 79 = .ok (.bipush 64, 2) := by decide +kernel
theorem dX3_turn_81 : decode cX3_turn 81 = .ok (.idiv, 1) := by decide +kernel
theorem dX3_turn_82 : decode cX3_turn 82 = .ok (.iconst 2, 1) := by decide +kernel
theorem dX3_turn_83 : decode cX3_turn 83 = .ok (.irem, 1) := by decide +kernel
theorem dX3_turn_84 : decode cX3_turn 84 = .ok (.bipush 10, 2) := by decide +kernel
theorem dX3_turn_86 : decode cX3_turn 86 = .ok (.iload_n 2, 1) := by decide +kernel
theorem dX3_turn_87 : decode cX3_turn 87 = .ok (.sipush 128, 3) := by decide +kernel
theorem dX3_turn_90 : decode cX3_turn 90 = .ok (.idiv, 1) := by decide +kernel
theorem dX3_turn_91 : decode cX3_turn 91 = .ok (.sipush 231, 3) := by decide +kernel
theorem dX3_turn_94 : decode cX3_turn 94 = .ok (.irem, 1) := by decide +kernel
theorem dX3_turn_95 : decode cX3_turn 95 = .ok (.iadd, 1) := by decide +kernel
theorem dX3_turn_96 : decode cX3_turn 96 = .ok (.invokevirtual 15, 3) := by decide +kernel
theorem dX3_turn_99 : decode cX3_turn 99 = .ok (.pop, 1) := by decide +kernel
theorem dX3_turn_100 : decode cX3_turn 100 = .ok (.goto 54, 3) := by decide +kernel
theorem dX3_turn_103 : decode cX3_turn 103 = .ok (.aload_n 0, 1) := by decide +kernel
theorem dX3_turn_104 : decode cX3_turn 104 = .ok (.invokevirtual 19, 3) := by decide +kernel
theorem dX3_turn_107 : decode cX3_turn 107 = .ok (.pop, 1) := by decide +kernel
theorem dX3_turn_108 : decode cX3_turn 108 = .ok (.goto 46, 3) := by decide +kernel
theorem dX3_turn_111 : decode cX3_turn 111 = .ok (.iload_n 2, 1) := by decide +kernel
theorem dX3_turn_112 : decode cX3_turn 112 = .ok (.iconst 4, 1) := by decide +kernel
theorem dX3_turn_113 : decode cX3_turn 113 = .ok (.irem, 1) := by decide +kernel
theorem dX3_turn_114 : decode cX3_turn 114 = .ok (.ifCond .ne 11, 3) := by decide +kernel
theorem dX3_turn_117 : decode cX3_turn 117 = .ok (.aload_n 0, 1) := by decide +kernel
theorem dX3_turn_118 : decode cX3_turn 118 = .ok (.invokevirtual 23, 3) := by decide +kernel
theorem dX3_turn_121 : decode cX3_turn 121 = .ok (.pop, 1) := by decide +kernel
theorem dX3_turn_122 : decode cX3_turn 122 = .ok (.goto 32, 3) := by decide +kernel
theorem dX3_turn_125 : decode cX3_turn 125 = .ok (.aload_n 0, 1) := by decide +kernel
theorem dX3_turn_126 : decode cX3_turn 126 = .ok (.iconst 0, 1) := by decide +kernel
theorem dX3_turn_127 : decode cX3_turn 127 = .ok (.sipush 240, 3) := by decide +kernel
theorem dX3_turn_130 : decode cX3_turn 130 = .ok (.iload_n 2, 1) := by decide +kernel
theorem dX3_turn_131 : decode cX3_turn 131 = .ok (.iconst 4, 1) := by decide +kernel
theorem dX3_turn_132 : decode cX3_turn 132 = .ok (.idiv, 1) := by decide +kernel
theorem dX3_turn_133 : decode cX3_turn 133 = .ok (.sipush 721, 3) := by decide +kernel
theorem dX3_turn_136 : decode cX3_turn 136 = .ok (.irem, 1) := by decide +kernel
theorem dX3_turn_137 : decode cX3_turn 137 = .ok (.iadd, 1) := by decide +kernel
theorem dX3_turn_138 : decode cX3_turn 138 = .ok (.invokevirtual 26, 3) := by decide +kernel
theorem dX3_turn_141 : decode cX3_turn 141 = .ok (.pop, 1) := by decide +kernel
theorem dX3_turn_142 : decode cX3_turn 142 = .ok (.goto 12, 3) := by decide +kernel
theorem dX3_turn_145 : decode cX3_turn 145 = .ok (.aload_n 0, 1) := by decide +kernel
theorem dX3_turn_146 : decode cX3_turn 146 = .ok (.iload_n 2, 1) := by decide +kernel
theorem dX3_turn_147 : decode cX3_turn 147 = .ok (.bipush 10, 2) := by decide +kernel
theorem dX3_turn_149 : decode cX3_turn 149 = .ok (.irem, 1) := by decide +kernel
theorem dX3_turn_150 : decode cX3_turn 150 = .ok (.invokevirtual 29, 3) := by decide +kernel
theorem dX3_turn_153 : decode cX3_turn 153 = .ok (.pop, 1) := by decide +kernel
theorem dX3_turn_154 : decode cX3_turn 154 = .ok (.return_, 1) := by decide +kernel
set_option maxRecDepth 20000 in
theorem ggX4_init_X0_init : GoodIn wsX4_init wsX0_init := goodIn_r _ [10, 11, 2, 3, 12, 13, 14, 15, 16, 17, 18, 19, 20, 21, 22, 23, 24, 25, 26, 27, 28, 29, 30, 31, 6, 32, 33, 34, 35, 36, 37, 38, 39, 40, 41, 42, 43, 44, 45, 46, 47, 60, 61, 48, 49, 50, 51, 52, 53, 54, 55, 56, 57] (by decide +kernel) (by decide +kernel)
set_option maxRecDepth 20000 in
theorem gX4_init_X0_init : GoodIn wsX4_init (wsX0_init) := ggX4_init_X0_init
theorem dX4_init_0 : decode cX4_init 0 = .ok (.aload_n 0, 1) := by decide +kernel
theorem dX4_init_1 : decode cX4_init 1 = .ok (.invokespecial 1, 3) := by decide +kernel
theorem dX4_init_4 : decode cX4_init 4 = .ok (.aload_n 0, 1) := by decide +kernel
theorem dX4_init_5 : decode cX4_init 5 = .ok (.new 7, 3) := by decide +kernel
theorem dX4_init_8 : decode cX4_init 8 = .ok (.dup, 1) := by decide +kernel
theorem dX4_init_9 : decode cX4_init 9 = .ok (.invokespecial 9, 3) := by decide +kernel
theorem dX4_init_12 : decode cX4_init 12 = .ok (.putfield 10, 3) := by decide +kernel
theorem dX4_init_15 : decode cX4_init 15 = .ok (.return_, 1) := by decide +kernel
theorem dX4_isFilled_0 : decode cX4_isFilled 0 = .ok (.aload_n 0, 1) := by decide +kernel
theorem dX4_isFilled_1 : decode cX4_isFilled 1 = .ok (.getfield 16, 3) := by decide +kernel
theorem dX4_isFilled_4 : decode cX4_isFilled 4 = .ok (.ireturn, 1) := by decide +kernel
theorem dX4_empty_0 : decode cX4_empty 0 = .ok (.aload_n 0, 1) := by decide +kernel
theorem dX4_empty_1 : decode cX4_empty 1 = .ok (.iconst 0, 1) := by decide +kernel
theorem dX4_empty_2 : decode cX4_empty 2 = .ok (.putfield 16, 3) := by decide +kernel
theorem dX4_empty_5 : decode cX4_empty 5 = .ok (.return_, 1) := by decide +kernel
set_option maxRecDepth 20000 in
theorem ggX4_keep_X0_copy : GoodIn wsX4_keep wsX0_copy := goodIn_r _ [7, 8, 9, 10, 11, 12, 13, 14, 15, 16, 17, 18, 19, 20, 21, 22, 23, 26, 27, 28, 29, 30, 31, 32, 33, 34, 35, 36, 37] (by decide +kernel) (by decide +kernel)
set_option maxRecDepth 20000 in
theorem gX4_keep_X0_copy : GoodIn wsX4_keep (wsV RX4 20 RX0 yX0_copy wsX0_copy) := goodIn_app (goodIn_of _ (by decide +kernel)) ggX4_keep_X0_copy
theorem dX4_keep_0 : decode cX4_keep 0 = .ok (.aload_n 0, 1) := by decide +kernel
theorem dX4_keep_1 : decode cX4_keep 1 = .ok (.getfield 10, 3) := by decide +kernel
theorem dX4_keep_4 : decode cX4_keep 4 = .ok (.aload_n 1, 1) := by decide +kernel
theorem dX4_keep_5 : decode cX4_keep 5 = .ok (.invokevirtual 20, 3) := by decide +kernel
theorem dX4_keep_8 : decode cX4_keep 8 = .ok (.aload_n 0, 1) := by decide +kernel
theorem dX4_keep_9 : decode cX4_keep 9 = .ok (.iconst 1, 1) := by decide +kernel
theorem dX4_keep_10 : decode cX4_keep 10 = .ok (.putfield 16, 3) := by decide +kernel
theorem dX4_keep_13 : decode cX4_keep 13 = .ok (.return_, 1) := by decide +kernel
set_option maxRecDepth 20000 in
theorem ggX4_giveBack_X0_copy : GoodIn wsX4_giveBack wsX0_copy := goodIn_r _ [6, 7, 8, 9, 10, 11, 12, 13, 14, 15, 16, 17, 18, 19, 20, 21, 22, 25, 26, 27, 28, 29, 30, 31, 32, 33, 34, 35, 36] (by decide +kernel) (by decide +kernel)
set_option maxRecDepth 20000 in
theorem gX4_giveBack_X0_copy : GoodIn wsX4_giveBack (wsV RX4 20 RX0 yX0_copy wsX0_copy) := goodIn_app (goodIn_of _ (by decide +kernel)) ggX4_giveBack_X0_copy
theorem dX4_giveBack_0 : decode cX4_giveBack 0 = .ok (.aload_n 1, 1) := by decide +kernel
theorem dX4_giveBack_1 : decode cX4_giveBack 1 = .ok (.aload_n 0, 1) := by decide +kernel
theorem dX4_giveBack_2 : decode cX4_giveBack 2 = .ok (.getfield 10, 3) := by decide +kernel
theorem dX4_giveBack_5 : decode cX4_giveBack 5 = .ok (.invokevirtual 20, 3) := by decide +kernel
theorem dX4_giveBack_8 : decode cX4_giveBack 8 = .ok (.return_, 1) := by decide +kernel
theorem dX5_init_0 : decode cX5_init 0 = .ok (.aload_n 0, 1) := by decide +kernel
theorem dX5_init_1 : decode cX5_init 1 = .ok (.invokespecial 1, 3) := by decide +kernel
theorem dX5_init_4 : decode cX5_init 4 = .ok (.aload_n 0, 1) := by decide +kernel
theorem dX5_init_5 : decode cX5_init 5 = .ok (.iload_n 2, 1) := by decide +kernel
theorem dX5_init_6 : decode cX5_init 6 = .ok (.putfield 7, 3) := by decide +kernel
theorem dX5_init_9 : decode cX5_init 9 = .ok (.aload_n 0, 1) := by decide +kernel
theorem dX5_init_10 : decode cX5_init 10 = .ok (.iconst 0, 1) := by decide +kernel
theorem dX5_init_11 : decode cX5_init 11 = .ok (.iload_n 1, 1) := by decide +kernel
theorem dX5_init_12 : decode cX5_init 12 = .ok (.iload_n 2, 1) := by decide +kernel
theorem dX5_init_13 : decode cX5_init 13 = .ok (.imul, 1) := by decide +kernel
theorem dX5_init_14 : decode cX5_init 14 = .ok (.invokestatic 13, 3) := by decide +kernel
theorem dX5_init_17 : decode cX5_init 17 = .ok (.newarray .int, 2) := by decide +kernel
theorem dX5_init_19 : decode cX5_init 19 = .ok (.putfield 19, 3) := by decide +kernel
theorem dX5_init_22 : decode cX5_init 22 = .ok (.return_, 1) := by decide +kernel
theorem dX5_get_0 : decode cX5_get 0 = .ok (.iload_n 1, 1) := by decide +kernel
theorem dX5_get_1 : decode cX5_get 1 = .ok (.aload_n 0, 1) := by decide +kernel
theorem dX5_get_2 : decode cX5_get 2 = .ok (.getfield 7, 3) := by decide +kernel
theorem dX5_get_5 : decode cX5_get 5 = .ok (.imul, 1) := by decide +kernel
theorem dX5_get_6 : decode cX5_get 6 = .ok (.iload_n 2, 1) := by decide +kernel
theorem dX5_get_7 : decode cX5_get 7 = .ok (.iadd, 1) := by decide +kernel
theorem dX5_get_8 : decode cX5_get 8 = .ok (.istore_n 3, 1) := by decide +kernel
theorem dX5_get_9 : decode cX5_get 9 = .ok (.iload_n 2, 1) := by decide +kernel
theorem dX5_get_10 : decode cX5_get 10 = .ok (.ifCond .lt 33, 3) := by decide +kernel
theorem dX5_get_13 : decode cX5_get 13 = .ok (.iload_n 2, 1) := by decide +kernel
theorem dX5_get_14 : decode cX5_get 14 = .ok (.aload_n 0, 1) := by decide +kernel
theorem dX5_get_15 : decode cX5_get 15 = .ok (.getfield 7, 3) := by decide +kernel
theorem dX5_get_18 : decode cX5_get 18 = .ok (.if_icmp .ge 25, 3) := by decide +kernel
theorem dX5_get_21 : decode cX5_get 21 = .ok (.iload_n 3, 1) := by decide +kernel
theorem dX5_get_22 : decode cX5_get 22 = .ok (.ifCond .lt 21, 3) := by decide +kernel
theorem dX5_get_25 : decode cX5_get 25 = .ok (.iload_n 3, 1) := by decide +kernel
theorem dX5_get_26 : decode cX5_get 26 = .ok (.aload_n 0, 1) := by decide +kernel
theorem dX5_get_27 : decode cX5_get 27 = .ok (.getfield 19, 3) := by decide +kernel
theorem dX5_get_30 : decode cX5_get 30 = .ok (.arraylength, 1) := by decide +kernel
theorem dX5_get_31 : decode cX5_get 31 = .ok (.if_icmp .ge 12, 3) := by decide +kernel
theorem dX5_get_34 : decode cX5_get 34 = .ok (.aload_n 0, 1) := by decide +kernel
theorem dX5_get_35 : decode cX5_get 35 = .ok (.getfield 19, 3) := by decide +kernel
theorem dX5_get_38 : decode cX5_get 38 = .ok (.iload_n 3, 1) := by decide +kernel
theorem dX5_get_39 : decode cX5_get 39 = .ok (.iaload, 1) := by decide +kernel
theorem dX5_get_40 : decode cX5_get 40 = .ok (.goto 4, 3) := by decide +kernel
theorem dX5_get_43 : decode cX5_get 43 = .ok (.iconst 0, 1) := by decide +kernel
theorem dX5_get_44 : decode cX5_get 44 = .ok (.ireturn, 1) := by decide +kernel
theorem dX5_put_0 : decode cX5_put 0 = .ok (.iload_n 1, 1) := by decide +kernel
theorem dX5_put_1 : decode cX5_put 1 = .ok (.aload_n 0, 1) := by decide +kernel
theorem dX5_put_2 : decode cX5_put 2 = .ok (.getfield 7, 3) := by decide +kernel
theorem dX5_put_5 : decode cX5_put 5 = .ok (.imul, 1) := by decide +kernel
theorem dX5_put_6 : decode cX5_put 6 = .ok (.iload_n 2, 1) := by decide +kernel
theorem dX5_put_7 : decode cX5_put 7 = .ok (.iadd, 1) := by decide +kernel
theorem dX5_put_8 : decode cX5_put 8 = .ok (.istore 4, 2) := by decide +kernel
theorem dX5_put_10 : decode cX5_put 10 = .ok (.iload_n 2, 1) := by decide +kernel
theorem dX5_put_11 : decode cX5_put 11 = .ok (.ifCond .lt 34, 3) := by decide +kernel
theorem dX5_put_14 : decode cX5_put 14 = .ok (.iload_n 2, 1) := by decide +kernel
theorem dX5_put_15 : decode cX5_put 15 = .ok (.aload_n 0, 1) := by decide +kernel
theorem dX5_put_16 : decode cX5_put 16 = .ok (.getfield 7, 3) := by decide +kernel
theorem dX5_put_19 : decode cX5_put 19 = .ok (.if_icmp .ge 26, 3) := by decide +kernel
theorem dX5_put_22 : decode cX5_put 22 = .ok (.iload 4, 2) := by decide +kernel
theorem dX5_put_24 : decode cX5_put 24 = .ok (.ifCond .lt 21, 3) := by decide +kernel
theorem dX5_put_27 : decode cX5_put 27 = .ok (.iload 4, 2) := by decide +kernel
theorem dX5_put_29 : decode cX5_put 29 = .ok (.aload_n 0, 1) := by decide +kernel
theorem dX5_put_30 : decode cX5_put 30 = .ok (.getfield 19, 3) := by decide +kernel
theorem dX5_put_33 : decode cX5_put 33 = .ok (.arraylength, 1) := by decide +kernel
theorem dX5_put_34 : decode cX5_put 34 = .ok (.if_icmp .ge 11, 3) := by decide +kernel
theorem dX5_put_37 : decode cX5_put 37 = .ok (.aload_n 0, 1) := by decide +kernel
theorem dX5_put_38 : decode cX5_put 38 = .ok (.getfield 19, 3) := by decide +kernel
theorem dX5_put_41 : decode cX5_put 41 = .ok (.iload 4, 2) := by decide +kernel
theorem dX5_put_43 : decode cX5_put 43 = .ok (.iload_n 3, 1) := by decide +kernel
theorem dX5_put_44 : decode cX5_put 44 = .ok (.iastore, 1) := by decide +kernel
theorem dX5_put_45 : decode cX5_put 45 = .ok (.return_, 1) := by decide +kernel
set_option maxRecDepth 20000 in
theorem ggX5_add_X5_get : GoodIn wsX5_add wsX5_get := goodIn_r _ [5, 6, 7, 12, 13] (by decide +kernel) (by decide +kernel)
set_option maxRecDepth 20000 in
theorem gX5_add_X5_get : GoodIn wsX5_add (wsV RX5 23 RX5 yX5_get wsX5_get) := goodIn_app (goodIn_of _ (by decide +kernel)) ggX5_add_X5_get
set_option maxRecDepth 20000 in
theorem ggX5_add_X5_put : GoodIn wsX5_add wsX5_put := goodIn_r _ [11, 6, 7, 12, 13] (by decide +kernel) (by decide +kernel)
set_option maxRecDepth 20000 in
theorem gX5_add_X5_put : GoodIn wsX5_add (wsV RX5 26 RX5 yX5_put wsX5_put) := goodIn_app (goodIn_of _ (by decide +kernel)) ggX5_add_X5_put
theorem dX5_add_0 : decode cX5_add 0 = .ok (.aload_n 0, 1) := by decide +kernel
theorem dX5_add_1 : decode cX5_add 1 = .ok (.iload_n 1, 1) := by decide +kernel
theorem dX5_add_2 : decode cX5_add 2 = .ok (.iload_n 2, 1) := by decide +kernel
theorem dX5_add_3 : decode cX5_add 3 = .ok (.aload_n 0, 1) := by decide +kernel
theorem dX5_add_4 : decode cX5_add 4 = .ok (.iload_n 1, 1) := by decide +kernel
theorem dX5_add_5 : decode cX5_add 5 = .ok (.iload_n 2, 1) := by decide +kernel
theorem dX5_add_6 : decode cX5_add 6 = .ok (.invokevirtual 23, 3) := by decide +kernel
theorem dX5_add_9 : decode cX5_add 9 = .ok (.iload_n 3, 1) := by decide +kernel
theorem dX5_add_10 : decode cX5_add 10 = .ok (.iadd, 1) := by decide +kernel
theorem dX5_add_11 : decode cX5_add 11 = .ok (.invokevirtual 26, 3) := by decide +kernel
theorem dX5_add_14 : decode cX5_add 14 = .ok (.return_, 1) := by decide +kernel
set_option maxRecDepth 20000 in
theorem ggX5_fillKind_X5_put : GoodIn wsX5_fillKind wsX5_put := goodIn_r _ [6, 1, 7, 8, 9] (by decide +kernel) (by decide +kernel)
set_option maxRecDepth 20000 in
theorem gX5_fillKind_X5_put : GoodIn wsX5_fillKind (wsV RX5 26 RX5 yX5_put wsX5_put) := goodIn_app (goodIn_of _ (by decide +kernel)) ggX5_fillKind_X5_put
theorem dX5_fillKind_0 : decode cX5_fillKind 0 = .ok (.iconst 0, 1) := by decide +kernel
theorem dX5_fillKind_1 : decode cX5_fillKind 1 = .ok (.istore_n 3, 1) := by decide +kernel
theorem dX5_fillKind_2 : decode cX5_fillKind 2 = .ok (.iload_n 3, 1) := by decide +kernel
theorem dX5_fillKind_3 : decode cX5_fillKind 3 = .ok (.aload_n 0, 1) := by decide +kernel
theorem dX5_fillKind_4 : decode cX5_fillKind 4 = .ok (.getfield 7, 3) := by decide +kernel
theorem dX5_fillKind_7 : decode cX5_fillKind 7 = .ok (.if_icmp .ge 16, 3) := by decide +kernel
theorem dX5_fillKind_10 : decode cX5_fillKind 10 = .ok (.aload_n 0, 1) := by decide +kernel
theorem dX5_fillKind_11 : decode cX5_fillKind 11 = .ok (.iload_n 1, 1) := by decide +kernel
theorem dX5_fillKind_12 : decode cX5_fillKind 12 = .ok (.iload_n 3, 1) := by decide +kernel
theorem dX5_fillKind_13 : decode cX5_fillKind 13 = .ok (.iload_n 2, 1) := by decide +kernel
theorem dX5_fillKind_14 : decode cX5_fillKind 14 = .ok (.invokevirtual 26, 3) := by decide +kernel
theorem dX5_fillKind_17 : decode cX5_fillKind 17 = .ok (.iinc 3 1, 3) := by decide +kernel
theorem dX5_fillKind_20 : decode cX5_fillKind 20 = .ok (.goto (-18), 3) := by decide +kernel
theorem dX5_fillKind_23 : decode cX5_fillKind 23 = .ok (.return_, 1) := by decide +kernel
theorem dX5_fillAll_0 : decode cX5_fillAll 0 = .ok (.iconst 0, 1) := by decide +kernel
theorem dX5_fillAll_1 : decode cX5_fillAll 1 = .ok (.istore_n 2, 1) := by decide +kernel
theorem dX5_fillAll_2 : decode cX5_fillAll 2 = .ok (.iload_n 2, 1) := by decide +kernel
theorem dX5_fillAll_3 : decode cX5_fillAll 3 = .ok (.aload_n 0, 1) := by decide +kernel
theorem dX5_fillAll_4 : decode cX5_fillAll 4 = .ok (.getfield 19, 3) := by decide +kernel
theorem dX5_fillAll_7 : decode cX5_fillAll 7 = .ok (.arraylength, 1) := by decide +kernel
theorem dX5_fillAll_8 : decode cX5_fillAll 8 = .ok (.if_icmp .ge 16, 3) := by decide +kernel
theorem dX5_fillAll_11 : decode cX5_fillAll 11 = .ok (.aload_n 0, 1) := by decide +kernel
theorem dX5_fillAll_12 : decode cX5_fillAll 12 = .ok (.getfield 19, 3) := by decide +kernel
theorem dX5_fillAll_15 : decode cX5_fillAll 15 = .ok (.iload_n 2, 1) := by decide +kernel
theorem dX5_fillAll_16 : decode cX5_fillAll 16 = .ok (.iload_n 1, 1) := by decide +kernel
theorem dX5_fillAll_17 : decode cX5_fillAll 17 = .ok (.iastore, 1) := by decide +kernel
theorem dX5_fillAll_18 : decode cX5_fillAll 18 = .ok (.iinc 2 1, 3) := by decide +kernel
theorem dX5_fillAll_21 : decode cX5_fillAll 21 = .ok (.goto (-19), 3) := by decide +kernel
theorem dX5_fillAll_24 : decode cX5_fillAll 24 = .ok (.return_, 1) := by decide +kernel
theorem dX5_copy_0 : decode cX5_copy 0 = .ok (.iconst 0, 1) := by decide +kernel
theorem dX5_copy_1 : decode cX5_copy 1 = .ok (.istore_n 2, 1) := by decide +kernel
theorem dX5_copy_2 : decode cX5_copy 2 = .ok (.iload_n 2, 1) := by decide +kernel
theorem dX5_copy_3 : decode cX5_copy 3 = .ok (.aload_n 0, 1) := by decide +kernel
theorem dX5_copy_4 : decode cX5_copy 4 = .ok (.getfield 19, 3) := by decide +kernel
theorem dX5_copy_7 : decode cX5_copy 7 = .ok (.arraylength, 1) := by decide +kernel
theorem dX5_copy_8 : decode cX5_copy 8 = .ok (.if_icmp .ge 30, 3) := by decide +kernel
theorem dX5_copy_11 : decode cX5_copy 11 = .ok (.iload_n 2, 1) := by decide +kernel
theorem dX5_copy_12 : decode cX5_copy 12 = .ok (.aload_n 1, 1) := by decide +kernel
theorem dX5_copy_13 : decode cX5_copy 13 = .ok (.getfield 19, 3) := by decide +kernel
theorem dX5_copy_16 : decode cX5_copy 16 = .ok (.arraylength, 1) := by decide +kernel
theorem dX5_copy_17 : decode cX5_copy 17 = .ok (.if_icmp .ge 21, 3) := by decide +kernel
theorem dX5_copy_20 : decode cX5_copy 20 = .ok (.aload_n 0, 1) := by decide +kernel
theorem dX5_copy_21 : decode cX5_copy 21 = .ok (.getfield 19, 3) := by decide +kernel
theorem dX5_copy_24 : decode cX5_copy 24 = .ok (.iload_n 2, 1) := by decide +kernel
theorem dX5_copy_25 : decode cX5_copy 25 = .ok (.aload_n 1, 1) := by decide +kernel
theorem dX5_copy_26 : decode cX5_copy 26 = .ok (.getfield 19, 3) := by decide +kernel
theorem dX5_copy_29 : decode cX5_copy 29 = .ok (.iload_n 2, 1) := by decide +kernel
theorem dX5_copy_30 : decode cX5_copy 30 = .ok (.iaload, 1) := by decide +kernel
theorem dX5_copy_31 : decode cX5_copy 31 = .ok (.iastore, 1) := by decide +kernel
theorem dX5_copy_32 : decode cX5_copy 32 = .ok (.iinc 2 1, 3) := by decide +kernel
theorem dX5_copy_35 : decode cX5_copy 35 = .ok (.goto (-33), 3) := by decide +kernel
theorem dX5_copy_38 : decode cX5_copy 38 = .ok (.return_, 1) := by decide +kernel
set_option maxRecDepth 20000 in
theorem ggX6_init_X5_init : GoodIn wsX6_init wsX5_init := goodIn_r _ [10, 11, 2, 3, 12, 13, 14, 15, 16, 17, 18, 19, 20] (by decide +kernel) (by decide +kernel)
set_option maxRecDepth 20000 in
theorem gX6_init_X5_init : GoodIn wsX6_init (wsX5_init) := ggX6_init_X5_init
theorem dX6_init_0 : decode cX6_init 0 = .ok (.aload_n 0, 1) := by decide +kernel
theorem dX6_init_1 : decode cX6_init 1 = .ok (.invokespecial 3, 3) := by decide +kernel
theorem dX6_init_4 : decode cX6_init 4 = .ok (.aload_n 0, 1) := by decide +kernel
theorem dX6_init_5 : decode cX6_init 5 = .ok (.new 9, 3) := by decide +kernel
theorem dX6_init_8 : decode cX6_init 8 = .ok (.dup, 1) := by decide +kernel
theorem dX6_init_9 : decode cX6_init 9 = .ok (.iconst 1, 1) := by decide +kernel
theorem dX6_init_10 : decode cX6_init 10 = .ok (.bipush 120, 2) := by decide +kernel
theorem dX6_init_12 : decode cX6_init 12 = .ok (.invokespecial 11, 3) := by decide +kernel
theorem dX6_init_15 : decode cX6_init 15 = .ok (.putfield 14, 3) := by decide +kernel
theorem dX6_init_18 : decode cX6_init 18 = .ok (.return_, 1) := by decide +kernel
theorem dX6_size_0 : decode cX6_size 0 = .ok (.aload_n 0, 1) := by decide +kernel
theorem dX6_size_1 : decode cX6_size 1 = .ok (.getfield 20, 3) := by decide +kernel
theorem dX6_size_4 : decode cX6_size 4 = .ok (.ireturn, 1) := by decide +kernel
set_option maxRecDepth 20000 in
theorem ggX6_addCharacter_X5_put : GoodIn wsX6_addCharacter wsX5_put := goodIn_r _ [7, 8, 9, 12, 13] (by decide +kernel) (by decide +kernel)
set_option maxRecDepth 20000 in
theorem gX6_addCharacter_X5_put : GoodIn wsX6_addCharacter (wsV RX6 24 RX5 yX5_put wsX5_put) := goodIn_app (goodIn_of _ (by decide +kernel)) ggX6_addCharacter_X5_put
theorem dX6_addCharacter_0 : decode cX6_addCharacter 0 = .ok (.aload_n 0, 1) := by decide +kernel
theorem dX6_addCharacter_1 : decode cX6_addCharacter 1 = .ok (.getfield 20, 3) := by decide +kernel
theorem dX6_addCharacter_4 : decode cX6_addCharacter 4 = .ok (.bipush 120, 2) := by decide +kernel
theorem dX6_addCharacter_6 : decode cX6_addCharacter 6 = .ok (.if_icmp .ge 26, 3) := by decide +kernel
theorem dX6_addCharacter_9 : decode cX6_addCharacter 9 = .ok (.aload_n 0, 1) := by decide +kernel
theorem dX6_addCharacter_10 : decode cX6_addCharacter 10 = .ok (.getfield 14, 3) := by decide +kernel
theorem dX6_addCharacter_13 : decode cX6_addCharacter 13 = .ok (.iconst 0, 1) := by decide +kernel
theorem dX6_addCharacter_14 : decode cX6_addCharacter 14 = .ok (.aload_n 0, 1) := by decide +kernel
theorem dX6_addCharacter_15 : decode cX6_addCharacter 15 = .ok (.getfield 20, 3) := by decide +kernel
theorem dX6_addCharacter_18 : decode cX6_addCharacter 18 = .ok (.iload_n 1, 1) := by decide +kernel
theorem dX6_addCharacter_19 : decode cX6_addCharacter 19 = .ok (.invokevirtual 24, 3) := by decide +kernel
theorem dX6_addCharacter_22 : decode cX6_addCharacter 22 = .ok (.aload_n 0, 1) := by decide +kernel
theorem dX6_addCharacter_23 : decode cX6_addCharacter 23 = .ok (.dup, 1) := by decide +kernel
theorem dX6_addCharacter_24 : decode cX6_addCharacter 24 = .ok (.getfield 20, 3) := by decide +kernel
theorem dX6_addCharacter_27 : decode cX6_addCharacter 27 = .ok (.iconst 1, 1) := by decide +kernel
theorem dX6_addCharacter_28 : decode cX6_addCharacter 28 = .ok (.iadd, 1) := by decide +kernel
theorem dX6_addCharacter_29 : decode cX6_addCharacter 29 = .ok (.putfield 20, 3) := by decide +kernel
theorem dX6_addCharacter_32 : decode cX6_addCharacter 32 = .ok (.aload_n 0, 1) := by decide +kernel
theorem dX6_addCharacter_33 : decode cX6_addCharacter 33 = .ok (.getfield 20, 3) := by decide +kernel
theorem dX6_addCharacter_36 : decode cX6_addCharacter 36 = .ok (.ireturn, 1) := by decide +kernel
set_option maxRecDepth 20000 in
theorem ggX6_characterAt_X5_get : GoodIn wsX6_characterAt wsX5_get := goodIn_r _ [6, 7, 8, 11, 12] (by decide +kernel) (by decide +kernel)
set_option maxRecDepth 20000 in
theorem gX6_characterAt_X5_get : GoodIn wsX6_characterAt (wsV RX6 28 RX5 yX5_get wsX5_get) := goodIn_app (goodIn_of _ (by decide +kernel)) ggX6_characterAt_X5_get
theorem dX6_characterAt_0 : decode cX6_characterAt 0 = .ok (.aload_n 0, 1) := by decide +kernel
theorem dX6_characterAt_1 : decode cX6_characterAt 1 = .ok (.getfield 14, 3) := by decide +kernel
theorem dX6_characterAt_4 : decode cX6_characterAt 4 = .ok (.iconst 0, 1) := by decide +kernel
theorem dX6_characterAt_5 : decode cX6_characterAt 5 = .ok (.iload_n 1, 1) := by decide +kernel
theorem dX6_characterAt_6 : decode cX6_characterAt 6 = .ok (.invokevirtual 28, 3) := by decide +kernel
theorem dX6_characterAt_9 : decode cX6_characterAt 9 = .ok (.ireturn, 1) := by decide +kernel
set_option maxRecDepth 20000 in
theorem ggX6_number_X6_characterAt : GoodIn wsX6_number wsX6_characterAt := goodIn_r _ [5, 6, 7, 8, 9, 10, 11, 12, 13, 14, 15, 16, 17] (by decide +kernel) (by decide +kernel)
set_option maxRecDepth 20000 in
theorem gX6_number_X6_characterAt : GoodIn wsX6_number (wsV RX6 32 RX6 yX6_characterAt wsX6_characterAt) := goodIn_app (goodIn_of _ (by decide +kernel)) ggX6_number_X6_characterAt
theorem dX6_number_0 : decode cX6_number 0 = .ok (.iconst 0, 1) := by decide +kernel
theorem dX6_number_1 : decode cX6_number 1 = .ok (.istore_n 3, 1) := by decide +kernel
theorem dX6_number_2 : decode cX6_number 2 = .ok (.iconst 0, 1) := by decide +kernel
theorem dX6_number_3 : decode cX6_number 3 = .ok (.istore 4, 2) := by decide +kernel
theorem dX6_number_5 : decode cX6_number 5 = .ok (.iload 4, 2) := by decide +kernel
theorem dX6_number_7 : decode cX6_number 7 = .ok (.iload_n 2, 1) := by decide +kernel
theorem dX6_number_8 : decode cX6_number 8 = .ok (.if_icmp .ge 26, 3) := by decide +kernel
theorem dX6_number_11 : decode cX6_number 11 = .ok (.iload_n 3, 1) := by decide +kernel
theorem dX6_number_12 : decode cX6_number 12 = .ok (.bipush 10, 2) := by decide +kernel
theorem dX6_number_14 : decode cX6_number 14 = .ok (.imul, 1) := by decide +kernel
theorem dX6_number_15 : decode cX6_number 15 = .ok (.aload_n 0, 1) := by decide +kernel
theorem dX6_number_16 : decode cX6_number 16 = .ok (.iload_n 1, 1) := by decide +kernel
theorem dX6_number_17 : decode cX6_number 17 = .ok (.iload 4, 2) := by decide +kernel
theorem dX6_number_19 : decode cX6_number 19 = .ok (.iadd, 1) := by decide +kernel
theorem dX6_number_20 : decode cX6_number 20 = .ok (.invokevirtual 32, 3) := by decide +kernel
theorem dX6_number_23 : decode cX6_number 23 = .ok (.iadd, 1) := by decide +kernel
theorem dX6_number_24 : decode cX6_number 24 = .ok (.bipush 48, 2) := by decide +kernel
theorem dX6_number_26 : decode cX6_number 26 = .ok (.isub, 1) := by decide +kernel
theorem dX6_number_27 : decode cX6_number 27 = .ok (.istore_n 3, 1) := by decide +kernel
theorem dX6_number_28 : decode cX6_number 28 = .ok (.iinc 4 1, 3) := by decide +kernel
theorem dX6_number_31 : decode cX6_number 31 = .ok (.goto (-26), 3) := by decide +kernel
theorem dX6_number_34 : decode cX6_number 34 = .ok (.iload_n 3, 1) := by decide +kernel
theorem dX6_number_35 : decode cX6_number 35 = .ok (.ireturn, 1) := by decide +kernel
set_option maxRecDepth 20000 in
theorem ggX6_commandLength_X6_characterAt : GoodIn wsX6_commandLength wsX6_characterAt := goodIn_r _ [5, 6, 7, 8, 9, 10, 11, 12, 13, 17, 18, 19, 20] (by decide +kernel) (by decide +kernel)
set_option maxRecDepth 20000 in
theorem gX6_commandLength_X6_characterAt : GoodIn wsX6_commandLength (wsV RX6 32 RX6 yX6_characterAt wsX6_characterAt) := goodIn_app (goodIn_of _ (by decide +kernel)) ggX6_commandLength_X6_characterAt
set_option maxRecDepth 20000 in
theorem ggX6_commandLength_X6_fieldsOf : GoodIn wsX6_commandLength wsX6_fieldsOf := goodIn_r _ [16] (by decide +kernel) (by decide +kernel)
set_option maxRecDepth 20000 in
theorem gX6_commandLength_X6_fieldsOf : GoodIn wsX6_commandLength (va_wsS RX6 36 yX6_fieldsOf wsX6_fieldsOf) := goodIn_app (goodIn_of _ (by decide +kernel)) ggX6_commandLength_X6_fieldsOf
theorem dX6_commandLength_0 : decode cX6_commandLength 0 = .ok (.aload_n 0, 1) := by decide +kernel
theorem dX6_commandLength_1 : decode cX6_commandLength 1 = .ok (.iload_n 1, 1) := by decide +kernel
theorem dX6_commandLength_2 : decode cX6_commandLength 2 = .ok (.invokevirtual 32, 3) := by decide +kernel
theorem dX6_commandLength_5 : decode cX6_commandLength 5 = .ok (.invokestatic 36, 3) := by decide +kernel
theorem dX6_commandLength_8 : decode cX6_commandLength 8 = .ok (.astore_n 2, 1) := by decide +kernel
theorem dX6_commandLength_9 : decode cX6_commandLength 9 = .ok (.iconst 1, 1) := by decide +kernel
theorem dX6_commandLength_10 : decode cX6_commandLength 10 = .ok (.istore_n 3, 1) := by decide +kernel
theorem dX6_commandLength_11 : decode cX6_commandLength 11 = .ok (.iconst 0, 1) := by decide +kernel
theorem dX6_commandLength_12 : decode cX6_commandLength 12 = .ok (.istore 4, 2) := by decide +kernel
theorem dX6_commandLength_14 : decode cX6_commandLength 14 = .ok (.iload 4, 2) := by decide +kernel
theorem dX6_commandLength_16 : decode cX6_commandLength 16 = .ok (.aload_n 2, 1) := by decide +kernel
theorem dX6_commandLength_17 : decode cX6_commandLength 17 = .ok (.arraylength, 1) := by decide +kernel
theorem dX6_commandLength_18 : decode cX6_commandLength 18 = .ok (.if_icmp .ge 16, 3) := by decide +kernel
theorem dX6_commandLength_21 : decode cX6_commandLength 21 = .ok (.iload_n 3, 1) := by decide +kernel
theorem dX6_commandLength_22 : decode cX6_commandLength 22 = .ok (.aload_n 2, 1) := by decide +kernel
theorem dX6_commandLength_23 : decode cX6_commandLength 23 = .ok (.iload 4, 2) := by decide +kernel
theorem dX6_commandLength_25 : decode cX6_commandLength 25 = .ok (.iaload, 1) := by decide +kernel
theorem dX6_commandLength_26 : decode cX6_commandLength 26 = .ok (.iadd, 1) := by decide +kernel
theorem dX6_commandLength_27 : decode cX6_commandLength 27 = .ok (.istore_n 3, 1) := by decide +kernel
theorem dX6_commandLength_28 : decode cX6_commandLength 28 = .ok (.iinc 4 3, 3) := by decide +kernel
theorem dX6_commandLength_31 : decode cX6_commandLength 31 = .ok (.goto (-17), 3) := by decide +kernel
theorem dX6_commandLength_34 : decode cX6_commandLength 34 = .ok (.iload_n 3, 1) := by decide +kernel
theorem dX6_commandLength_35 : decode cX6_commandLength 35 = .ok (.ireturn, 1) := by decide +kernel
set_option maxRecDepth 20000 in
theorem ggX6_firstError_X6_characterAt : GoodIn wsX6_firstError wsX6_characterAt := goodIn_r _ [6, 7, 8, 9, 10, 11, 12, 13, 14, 36, 37, 38, 39] (by decide +kernel) (by decide +kernel)
set_option maxRecDepth 20000 in
theorem gX6_firstError_X6_characterAt : GoodIn wsX6_firstError (wsV RX6 32 RX6 yX6_characterAt wsX6_characterAt) := goodIn_app (goodIn_of _ (by decide +kernel)) ggX6_firstError_X6_characterAt
set_option maxRecDepth 20000 in
theorem ggX6_firstError_X6_commandError : GoodIn wsX6_firstError wsX6_commandError := goodIn_r _ [18, 2, 3, 4, 5, 6, 7, 8, 9, 10, 11, 12, 13, 14, 19, 20, 21, 22, 23, 24, 25, 26, 27, 28, 1, 29, 30, 31, 36, 37, 38, 39] (by decide +kernel) (by decide +kernel)
set_option maxRecDepth 20000 in
theorem gX6_firstError_X6_commandError : GoodIn wsX6_firstError (wsV RX6 40 RX6 yX6_commandError wsX6_commandError) := goodIn_app (goodIn_of _ (by decide +kernel)) ggX6_firstError_X6_commandError
set_option maxRecDepth 20000 in
theorem ggX6_firstError_X6_commandLength : GoodIn wsX6_firstError wsX6_commandLength := goodIn_r _ [35, 2, 3, 4, 5, 6, 7, 8, 9, 10, 11, 12, 13, 14, 22, 23, 24, 36, 37, 38, 39] (by decide +kernel) (by decide +kernel)
set_option maxRecDepth 20000 in
theorem gX6_firstError_X6_commandLength : GoodIn wsX6_firstError (wsV RX6 43 RX6 yX6_commandLength wsX6_commandLength) := goodIn_app (goodIn_of _ (by decide +kernel)) ggX6_firstError_X6_commandLength
theorem dX6_firstError_0 : decode cX6_firstError 0 = .ok (.aload_n 0, 1) := by decide +kernel
theorem dX6_firstError_1 : decode cX6_firstError 1 = .ok (.getfield 20, 3) := by decide +kernel
theorem dX6_firstError_4 : decode cX6_firstError 4 = .ok (.ifCond .eq 13, 3) := by decide +kernel
theorem dX6_firstError_7 : decode cX6_firstError 7 = .ok (.aload_n 0, 1) := by decide +kernel
theorem dX6_firstError_8 : decode cX6_firstError 8 = .ok (.iconst 0, 1) := by decide +kernel
theorem dX6_firstError_9 : decode cX6_firstError 9 = .ok (.invokevirtual 32, 3) := by decide +kernel
theorem dX6_firstError_12 : decode cX6_firstError 12 = .ok (.bipush 70, 2) := by decide +kernel
theorem dX6_firstError_14 : decode cX6_firstError 14 = .ok (.if_icmp .eq 5, 3) := by decide +kernel
theorem dX6_firstError_17 : decode cX6_firstError 17 = .ok (.iconst 0, 1) := by decide +kernel
theorem dX6_firstError_18 : decode cX6_firstError 18 = .ok (.ireturn, 1) := by decide +kernel
theorem dX6_firstError_19 : decode cX6_firstError 19 = .ok (.iconst 1, 1) := by decide +kernel
theorem dX6_firstError_20 : decode cX6_firstError 20 = .ok (.istore_n 1, 1) := by decide +kernel
theorem dX6_firstError_21 : decode cX6_firstError 21 = .ok (.iconst 0, 1) := by decide +kernel
theorem dX6_firstError_22 : decode cX6_firstError 22 = .ok (.istore_n 2, 1) := by decide +kernel
theorem dX6_firstError_23 : decode cX6_firstError 23 = .ok (.iload_n 2, 1) := by decide +kernel
theorem dX6_firstError_24 : decode cX6_firstError 24 = .ok (.bipush 120, 2) := by decide +kernel
theorem dX6_firstError_26 : decode cX6_firstError 26 = .ok (.if_icmp .ge 38, 3) := by decide +kernel
theorem dX6_firstError_29 : decode cX6_firstError 29 = .ok (.iload_n 1, 1) := by decide +kernel
theorem dX6_firstError_30 : decode cX6_firstError 30 = .ok (.aload_n 0, 1) := by decide +kernel
theorem dX6_firstError_31 : decode cX6_firstError 31 = .ok (.getfield 20, 3) := by decide +kernel
theorem dX6_firstError_34 : decode cX6_firstError 34 = .ok (.if_icmp .ge 30, 3) := by decide +kernel
theorem dX6_firstError_37 : decode cX6_firstError 37 = .ok (.aload_n 0, 1) := by decide +kernel
theorem dX6_firstError_38 : decode cX6_firstError 38 = .ok (.iload_n 1, 1) := by decide +kernel
theorem dX6_firstError_39 : decode cX6_firstError 39 = .ok (.invokevirtual 40, 3) := by decide +kernel
theorem dX6_firstError_42 : decode cX6_firstError 42 = .ok (.istore_n 3, 1) := by decide +kernel
theorem dX6_firstError_43 : decode cX6_firstError 43 = .ok (.iload_n 3, 1) := by decide +kernel
theorem dX6_firstError_44 : decode cX6_firstError 44 = .ok (.iconst (-1), 1) := by decide +kernel
theorem dX6_firstError_45 : decode cX6_firstError 45 = .ok (.if_icmp .eq 5, 3) := by decide +kernel
theorem dX6_firstError_48 : decode cX6_firstError 48 = .ok (.iload_n 3, 1) := by decide +kernel
theorem dX6_firstError_49 : decode cX6_firstError 49 = .ok (.ireturn, 1) := by decide +kernel
theorem dX6_firstError_50 : decode cX6_firstError 50 = .ok (.iload_n 1, 1) := by decide +kernel
theorem dX6_firstError_51 : decode cX6_firstError 51 = .ok (.aload_n 0, 1) := by decide +kernel
theorem dX6_firstError_52 : decode cX6_firstError 52 = .ok (.iload_n 1, 1) := by decide +kernel
theorem dX6_firstError_53 : decode cX6_firstError 53 = .ok (.invokevirtual 43, 3) := by decide +kernel
theorem dX6_firstError_56 : decode cX6_firstError 56 = .ok (.iadd, 1) := by decide +kernel
theorem dX6_firstError_57 : decode cX6_firstError 57 = .ok (.istore_n 1, 1) := by decide +kernel
theorem dX6_firstError_58 : decode cX6_firstError 58 = .ok (.iinc 2 1, 3) := by decide +kernel
theorem dX6_firstError_61 : decode cX6_firstError 61 = .ok (.goto (-38), 3) := by decide +kernel
theorem dX6_firstError_64 : decode cX6_firstError 64 = .ok (.iconst (-1), 1) := by decide +kernel
theorem dX6_firstError_65 : decode cX6_firstError 65 = .ok (.ireturn, 1) := by decide +kernel
theorem dX6_isCommand_0 : decode cX6_isCommand 0 = .ok (.iload_n 0, 1) := by decide +kernel
theorem dX6_isCommand_1 : decode cX6_isCommand 1 = .ok (.bipush 101, 2) := by decide +kernel
theorem dX6_isCommand_3 : decode cX6_isCommand 3 = .ok (.if_icmp .eq 27, 3) := by decide +kernel
theorem dX6_isCommand_6 : decode cX6_isCommand 6 = .ok (.iload_n 0, 1) := by decide +kernel
theorem dX6_isCommand_7 : decode cX6_isCommand 7 = .ok (.bipush 115, 2) := by decide +kernel
theorem dX6_isCommand_9 : decode cX6_isCommand 9 = .ok (.if_icmp .eq 21, 3) := by decide +kernel
theorem dX6_isCommand_12 : decode cX6_isCommand 12 = .ok (.iload_n 0, 1) := by decide +kernel
theorem dX6_isCommand_13 : decode cX6_isCommand 13 = .ok (.bipush 103, 2) := by decide +kernel
theorem dX6_isCommand_15 : decode cX6_isCommand 15 = .ok (.if_icmp .eq 15, 3) := by decide +kernel
theorem dX6_isCommand_18 : decode cX6_isCommand 18 = .ok (.iload_n 0, 1) := by decide +kernel
theorem dX6_isCommand_19 : decode cX6_isCommand 19 = .ok (.bipush 109, 2) := by decide +kernel
theorem dX6_isCommand_21 : decode cX6_isCommand 21 = .ok (.if_icmp .eq 9, 3) := by decide +kernel
theorem dX6_isCommand_24 : decode cX6_isCommand 24 = .ok (.iload_n 0, 1) := by decide +kernel
theorem dX6_isCommand_25 : decode cX6_isCommand 25 = .ok (.bipush 110, 2) := by decide +kernel
theorem dX6_isCommand_27 : decode cX6_isCommand 27 = .ok (.if_icmp .ne 7, 3) := by decide +kernel
theorem dX6_isCommand_30 : decode cX6_isCommand 30 = .ok (.iconst 1, 1) := by decide +kernel
theorem dX6_isCommand_31 : decode cX6_isCommand 31 = .ok (.goto 4, 3) := by decide +kernel
theorem dX6_isCommand_34 : decode cX6_isCommand 34 = .ok (.iconst 0, 1) := by decide +kernel
theorem dX6_isCommand_35 : decode cX6_isCommand 35 = .ok (.ireturn, 1) := by decide +kernel
theorem dX6_fieldsOf_0 : decode cX6_fieldsOf 0 = .ok (.iload_n 0, 1) := by decide +kernel
theorem dX6_fieldsOf_1 : decode cX6_fieldsOf 1 = .ok (.lookupswitch 47 #[(101, 35), (103, 43), (115, 39)], 35) := by decide +kernel
theorem dX6_fieldsOf_36 : decode cX6_fieldsOf 36 = .ok (.getstatic 46, 3) := by decide +kernel
theorem dX6_fieldsOf_39 : decode cX6_fieldsOf 39 = .ok (.areturn, 1) := by decide +kernel
theorem dX6_fieldsOf_40 : decode cX6_fieldsOf 40 = .ok (.getstatic 50, 3) := by decide +kernel
theorem dX6_fieldsOf_43 : decode cX6_fieldsOf 43 = .ok (.areturn, 1) := by decide +kernel
theorem dX6_fieldsOf_44 : decode cX6_fieldsOf 44 = .ok (.getstatic 53, 3) := by decide +kernel
theorem dX6_fieldsOf_47 : decode cX6_fieldsOf 47 = .ok (.areturn, 1) := by decide +kernel
theorem dX6_fieldsOf_48 : decode cX6_fieldsOf 48 = .ok (.getstatic 56, 3) := by decide +kernel
theorem dX6_fieldsOf_51 : decode cX6_fieldsOf 51 = .ok (.areturn, 1) := by decide +kernel
set_option maxRecDepth 20000 in
theorem ggX6_commandError_X6_characterAt : GoodIn wsX6_commandError wsX6_characterAt := goodIn_r _ [5, 6, 7, 8, 9, 10, 11, 12, 13, 28, 29, 30, 31] (by decide +kernel) (by decide +kernel)
set_option maxRecDepth 20000 in
theorem gX6_commandError_X6_characterAt : GoodIn wsX6_commandError (wsV RX6 32 RX6 yX6_characterAt wsX6_characterAt) := goodIn_app (goodIn_of _ (by decide +kernel)) ggX6_commandError_X6_characterAt
set_option maxRecDepth 20000 in
theorem ggX6_commandError_X6_isCommand : GoodIn wsX6_commandError wsX6_isCommand := goodIn_r _ [16] (by decide +kernel) (by decide +kernel)
set_option maxRecDepth 20000 in
theorem gX6_commandError_X6_isCommand : GoodIn wsX6_commandError (va_wsS RX6 59 yX6_isCommand wsX6_isCommand) := goodIn_app (goodIn_of _ (by decide +kernel)) ggX6_commandError_X6_isCommand
set_option maxRecDepth 20000 in
theorem ggX6_commandError_X6_fieldsOf : GoodIn wsX6_commandError wsX6_fieldsOf := goodIn_r _ [19] (by decide +kernel) (by decide +kernel)
set_option maxRecDepth 20000 in
theorem gX6_commandError_X6_fieldsOf : GoodIn wsX6_commandError (va_wsS RX6 36 yX6_fieldsOf wsX6_fieldsOf) := goodIn_app (goodIn_of _ (by decide +kernel)) ggX6_commandError_X6_fieldsOf
set_option maxRecDepth 20000 in
theorem ggX6_commandError_X6_numberError : GoodIn wsX6_commandError wsX6_numberError := goodIn_r _ [23, 24, 1, 2, 3, 4, 5, 6, 7, 8, 9, 10, 11, 12, 13, 25, 26, 27, 28, 29, 30, 31] (by decide +kernel) (by decide +kernel)
set_option maxRecDepth 20000 in
theorem gX6_commandError_X6_numberError : GoodIn wsX6_commandError (wsV RX6 63 RX6 yX6_numberError wsX6_numberError) := goodIn_app (goodIn_of _ (by decide +kernel)) ggX6_commandError_X6_numberError
theorem dX6_commandError_0 : decode cX6_commandError 0 = .ok (.aload_n 0, 1) := by decide +kernel
theorem dX6_commandError_1 : decode cX6_commandError 1 = .ok (.iload_n 1, 1) := by decide +kernel
theorem dX6_commandError_2 : decode cX6_commandError 2 = .ok (.invokevirtual 32, 3) := by decide +kernel
theorem dX6_commandError_5 : decode cX6_commandError 5 = .ok (.invokestatic 59, 3) := by decide +kernel
theorem dX6_commandError_8 : decode cX6_commandError 8 = .ok (.ifCond .ne 5, 3) := by decide +kernel
theorem dX6_commandError_11 : decode cX6_commandError 11 = .ok (.iload_n 1, 1) := by decide +kernel
theorem dX6_commandError_12 : decode cX6_commandError 12 = .ok (.ireturn, 1) := by decide +kernel
theorem dX6_commandError_13 : decode cX6_commandError 13 = .ok (.aload_n 0, 1) := by decide +kernel
theorem dX6_commandError_14 : decode cX6_commandError 14 = .ok (.iload_n 1, 1) := by decide +kernel
theorem dX6_commandError_15 : decode cX6_commandError 15 = .ok (.invokevirtual 32, 3) := by decide +kernel
theorem dX6_commandError_18 : decode cX6_commandError 18 = .ok (.invokestatic 36, 3) := by decide +kernel
theorem dX6_commandError_21 : decode cX6_commandError 21 = .ok (.astore_n 2, 1) := by decide +kernel
theorem dX6_commandError_22 : decode cX6_commandError 22 = .ok (.iload_n 1, 1) := by decide +kernel
theorem dX6_commandError_23 : decode cX6_commandError 23 = .ok (.iconst 1, 1) := by decide +kernel
theorem dX6_commandError_24 : decode cX6_commandError 24 = .ok (.iadd, 1) := by decide +kernel
theorem dX6_commandError_25 : decode cX6_commandError 25 = .ok (.istore_n 3, 1) := by decide +kernel
theorem dX6_commandError_26 : decode cX6_commandError 26 = .ok (.iconst 0, 1) := by decide +kernel
theorem dX6_commandError_27 : decode cX6_commandError 27 = .ok (.istore 4, 2) := by decide +kernel
theorem dX6_commandError_29 : decode cX6_commandError 29 = .ok (.iload 4, 2) := by decide +kernel
theorem dX6_commandError_31 : decode cX6_commandError 31 = .ok (.iconst 2, 1) := by decide +kernel
theorem dX6_commandError_32 : decode cX6_commandError 32 = .ok (.iadd, 1) := by decide +kernel
theorem dX6_commandError_33 : decode cX6_commandError 33 = .ok (.aload_n 2, 1) := by decide +kernel
theorem dX6_commandError_34 : decode cX6_commandError 34 = .ok (.arraylength, 1) := by decide +kernel
theorem dX6_commandError_35 : decode cX6_commandError 35 = .ok (.if_icmp .ge 48, 3) := by decide +kernel
theorem dX6_commandError_38 : decode cX6_commandError 38 = .ok (.aload_n 0, 1) := by decide +kernel
theorem dX6_commandError_39 : decode cX6_commandError 39 = .ok (.iload_n 3, 1) := by decide +kernel
theorem dX6_commandError_40 : decode cX6_commandError 40 = .ok (.aload_n 2, 1) := by decide +kernel
theorem dX6_commandError_41 : decode cX6_commandError 41 = .ok (.iload 4, 2) := by decide +kernel
theorem dX6_commandError_43 : decode cX6_commandError 43 = .ok (.iaload, 1) := by decide +kernel
theorem dX6_commandError_44 : decode cX6_commandError 44 = .ok (.aload_n 2, 1) := by decide +kernel
theorem dX6_commandError_45 : decode cX6_commandError 45 = .ok (.iload 4, 2) := by decide +kernel
theorem dX6_commandError_47 : decode cX6_commandError 47 = .ok (.iconst 1, 1) := by decide +kernel
theorem dX6_commandError_48 : decode cX6_commandError 48 = .ok (.iadd, 1) := by decide +kernel
theorem dX6_commandError_49 : decode cX6_commandError 49 = .ok (.iaload, 1) := by decide +kernel
theorem dX6_commandError_50 : decode cX6_commandError 50 = .ok (.aload_n 2, 1) := by decide +kernel
theorem dX6_commandError_51 : decode cX6_commandError 51 = .ok (.iload 4, 2) := by decide +kernel
theorem dX6_commandError_53 : decode cX6_commandError 53 = .ok (.iconst 2, 1) := by decide +kernel
theorem dX6_commandError_54 : decode cX6_commandError 54 = .ok (.iadd, 1) := by decide +kernel
theorem dX6_commandError_55 : decode cX6_commandError 55 = .ok (.iaload, 1) := by decide +kernel
theorem dX6_commandError_56 : decode cX6_commandError 56 = .ok (.invokevirtual 63, 3) := by decide +kernel
theorem dX6_commandError_59 : decode cX6_commandError 59 = .ok (.istore 5, 2) := by decide +kernel
theorem dX6_commandError_61 : decode cX6_commandError 61 = .ok (.iload 5, 2) := by decide +kernel
theorem dX6_commandError_63 : decode cX6_commandError 63 = .ok (.iconst (-1), 1) := by decide +kernel
theorem dX6_commandError_64 : decode cX6_commandError 64 = .ok (.if_icmp .eq 6, 3) := by decide +kernel
theorem dX6_commandError_67 : decode cX6_commandError 67 = .ok (.iload 5, 2) := by decide +kernel
theorem dX6_commandError_69 : decode cX6_commandError 69 = .ok (.ireturn, 1) := by decide +kernel
theorem dX6_commandError_70 : decode cX6_commandError 70 = .ok (.iload_n 3, 1) := by decide +kernel
theorem dX6_commandError_71 : decode cX6_commandError 71 = .ok (.aload_n 2, 1) := by decide +kernel
theorem dX6_commandError_72 : decode cX6_commandError 72 = .ok (.iload 4, 2) := by decide +kernel
theorem dX6_commandError_74 : decode cX6_commandError 74 = .ok (.iaload, 1) := by decide +kernel
theorem dX6_commandError_75 : decode cX6_commandError 75 = .ok (.iadd, 1) := by decide +kernel
theorem dX6_commandError_76 : decode cX6_commandError 76 = .ok (.istore_n 3, 1) := by decide +kernel
theorem dX6_commandError_77 : decode cX6_commandError 77 = .ok (.iinc 4 3, 3) := by decide +kernel
theorem dX6_commandError_80 : decode cX6_commandError 80 = .ok (.goto (-51), 3) := by decide +kernel
theorem dX6_commandError_83 : decode cX6_commandError 83 = .ok (.iconst (-1), 1) := by decide +kernel
theorem dX6_commandError_84 : decode cX6_commandError 84 = .ok (.ireturn, 1) := by decide +kernel
set_option maxRecDepth 20000 in
theorem ggX6_numberError_X6_characterAt : GoodIn wsX6_numberError wsX6_characterAt := goodIn_r _ [6, 7, 8, 9, 10, 11, 12, 13, 14, 18, 19, 20, 21] (by decide +kernel) (by decide +kernel)
set_option maxRecDepth 20000 in
theorem gX6_numberError_X6_characterAt : GoodIn wsX6_numberError (wsV RX6 32 RX6 yX6_characterAt wsX6_characterAt) := goodIn_app (goodIn_of _ (by decide +kernel)) ggX6_numberError_X6_characterAt
set_option maxRecDepth 20000 in
theorem ggX6_numberError_X7_isIn : GoodIn wsX6_numberError wsX7_isIn := goodIn_r _ [17] (by decide +kernel) (by decide +kernel)
set_option maxRecDepth 20000 in
theorem gX6_numberError_X7_isIn_n67 : GoodIn wsX6_numberError (wsX7_isIn) := ggX6_numberError_X7_isIn
theorem dX6_numberError_0 : decode cX6_numberError 0 = .ok (.iload_n 2, 1) := by decide +kernel
theorem dX6_numberError_1 : decode cX6_numberError 1 = .ok (.iconst 3, 1) := by decide +kernel
theorem dX6_numberError_2 : decode cX6_numberError 2 = .ok (.if_icmp .ne 8, 3) := by decide +kernel
theorem dX6_numberError_5 : decode cX6_numberError 5 = .ok (.bipush 100, 2) := by decide +kernel
theorem dX6_numberError_7 : decode cX6_numberError 7 = .ok (.goto 14, 3) := by decide +kernel
theorem dX6_numberError_10 : decode cX6_numberError 10 = .ok (.iload_n 2, 1) := by decide +kernel
theorem dX6_numberError_11 : decode cX6_numberError 11 = .ok (.iconst 2, 1) := by decide +kernel
theorem dX6_numberError_12 : decode cX6_numberError 12 = .ok (.if_icmp .ne 8, 3) := by decide +kernel
theorem dX6_numberError_15 : decode cX6_numberError 15 = .ok (.bipush 10, 2) := by decide +kernel
theorem dX6_numberError_17 : decode cX6_numberError 17 = .ok (.goto 4, 3) := by decide +kernel
theorem dX6_numberError_20 : decode cX6_numberError 20 = .ok (.iconst 1, 1) := by decide +kernel
theorem dX6_numberError_21 : decode cX6_numberError 21 = .ok (.istore 5, 2) := by decide +kernel
theorem dX6_numberError_23 : decode cX6_numberError 23 = .ok (.iconst 0, 1) := by decide +kernel
theorem dX6_numberError_24 : decode cX6_numberError 24 = .ok (.istore 6, 2) := by decide +kernel
theorem dX6_numberError_26 : decode cX6_numberError 26 = .ok (.iconst 0, 1) := by decide +kernel
theorem dX6_numberError_27 : decode cX6_numberError 27 = .ok (.istore 7, 2) := by decide +kernel
theorem dX6_numberError_29 : decode cX6_numberError 29 = .ok (.iload 7, 2) := by decide +kernel
theorem dX6_numberError_31 : decode cX6_numberError 31 = .ok (.iload_n 2, 1) := by decide +kernel
theorem dX6_numberError_32 : decode cX6_numberError 32 = .ok (.if_icmp .ge 89, 3) := by decide +kernel
theorem dX6_numberError_35 : decode cX6_numberError 35 = .ok (.iload_n 1, 1) := by decide +kernel
theorem dX6_numberError_36 : decode cX6_numberError 36 = .ok (.iload 7, 2) := by decide +kernel
theorem dX6_numberError_38 : decode cX6_numberError 38 = .ok (.iadd, 1) := by decide +kernel
theorem dX6_numberError_39 : decode cX6_numberError 39 = .ok (.istore 8, 2) := by decide +kernel
theorem dX6_numberError_41 : decode cX6_numberError 41 = .ok (.iload 8, 2) := by decide +kernel
theorem dX6_numberError_43 : decode cX6_numberError 43 = .ok (.aload_n 0, 1) := by decide +kernel
theorem dX6_numberError_44 : decode cX6_numberError 44 = .ok (.getfield 20, 3) := by decide +kernel
theorem dX6_numberError_47 : decode cX6_numberError 47 = .ok (.if_icmp .lt 8, 3) := by decide +kernel
theorem dX6_numberError_50 : decode cX6_numberError 50 = .ok (.aload_n 0, 1) := by decide +kernel
theorem dX6_numberError_51 : decode cX6_numberError 51 = .ok (.getfield 20, 3) := by decide +kernel
theorem dX6_numberError_54 : decode cX6_numberError 54 = .ok (.ireturn, 1) := by decide +kernel
theorem dX6_numberError_55 : decode cX6_numberError 55 = .ok (.aload_n 0, 1) := by decide +kernel
theorem dX6_numberError_56 : decode cX6_numberError 56 = .ok (.iload 8, 2) := by decide +kernel
theorem dX6_numberError_58 : decode cX6_numberError 58 = .ok (.invokevirtual 32, 3) := by decide +kernel
theorem dX6_numberError_61 : decode cX6_numberError 61 = .ok (.bipush 48, 2) := by decide +kernel
theorem dX6_numberError_63 : decode cX6_numberError 63 = .ok (.isub, 1) := by decide +kernel
theorem dX6_numberError_64 : decode cX6_numberError 64 = .ok (.istore 9, 2) := by decide +kernel
theorem dX6_numberError_66 : decode cX6_numberError 66 = .ok (.iload 6, 2) := by decide +kernel
theorem dX6_numberError_68 : decode cX6_numberError 68 = .ok (.iload 9, 2) := by decide +kernel
theorem dX6_numberError_70 : decode cX6_numberError 70 = .ok (.iload 5, 2) := by decide +kernel
theorem dX6_numberError_72 : decode cX6_numberError 72 = .ok (.imul, 1) := by decide +kernel
theorem dX6_numberError_73 : decode cX6_numberError 73 = .ok (.iadd, 1) := by decide +kernel
theorem dX6_numberError_74 : decode cX6_numberError 74 = .ok (.istore 6, 2) := by decide +kernel
theorem dX6_numberError_76 : decode cX6_numberError 76 = .ok (.iload 9, 2) := by decide +kernel
theorem dX6_numberError_78 : decode cX6_numberError 78 = .ok (.iconst 0, 1) := by decide +kernel
theorem dX6_numberError_79 : decode cX6_numberError 79 = .ok (.bipush 9, 2) := by decide +kernel
theorem dX6_numberError_81 : decode cX6_numberError 81 = .ok (.invokestatic 67, 3) := by decide +kernel
theorem dX6_numberError_84 : decode cX6_numberError 84 = .ok (.ifCond .eq 21, 3) := by decide +kernel
theorem dX6_numberError_87 : decode cX6_numberError 87 = .ok (.iload 6, 2) := by decide +kernel
theorem dX6_numberError_89 : decode cX6_numberError 89 = .ok (.iload 4, 2) := by decide +kernel
theorem dX6_numberError_91 : decode cX6_numberError 91 = .ok (.if_icmp .gt 14, 3) := by decide +kernel
theorem dX6_numberError_94 : decode cX6_numberError 94 = .ok (.iload 6, 2) := by decide +kernel
theorem dX6_numberError_96 : decode cX6_numberError 96 = .ok (.iload 5, 2) := by decide +kernel
theorem dX6_numberError_98 : decode cX6_numberError 98 = .ok (.iadd, 1) := by decide +kernel
theorem dX6_numberError_99 : decode cX6_numberError 99 = .ok (.iconst 1, 1) := by decide +kernel
theorem dX6_numberError_100 : decode cX6_numberError 100 = .ok (.isub, 1) := by decide +kernel
theorem dX6_numberError_101 : decode cX6_numberError 101 = .ok (.iload_n 3, 1) := by decide +kernel
theorem dX6_numberError_102 : decode cX6_numberError 102 = .ok (.if_icmp .ge 6, 3) := by decide +kernel
theorem dX6_numberError_105 : decode cX6_numberError 105 = .ok (.iload 8, 2) := by decide +kernel
theorem dX6_numberError_107 : decode cX6_numberError 107 = .ok (.ireturn, 1) := by decide +kernel
theorem dX6_numberError_108 : decode cX6_numberError 108 = .ok (.iload 5, 2) := by decide +kernel
theorem dX6_numberError_110 : decode cX6_numberError 110 = .ok (.bipush 10, 2) := by decide +kernel
theorem dX6_numberError_112 : decode cX6_numberError 112 = .ok (.idiv, 1) := by decide +kernel
theorem dX6_numberError_113 : decode cX6_numberError 113 = .ok (.istore 5, 2) := by decide +kernel
theorem dX6_numberError_115 : decode cX6_numberError 115 = .ok (.iinc 7 1, 3) := by decide +kernel
theorem dX6_numberError_118 : decode cX6_numberError 118 = .ok (.goto (-89), 3) := by decide +kernel
theorem dX6_numberError_121 : decode cX6_numberError 121 = .ok (.iconst (-1), 1) := by decide +kernel
theorem dX6_numberError_122 : decode cX6_numberError 122 = .ok (.ireturn, 1) := by decide +kernel
