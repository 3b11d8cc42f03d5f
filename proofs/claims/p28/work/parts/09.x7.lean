set_option maxRecDepth 20000 in
theorem ggX7_init_X0_init : GoodIn wsX7_init wsX0_init := goodIn_r _ [24, 25, 2, 3, 26, 27, 28, 29, 30, 31, 32, 33, 34, 35, 36, 37, 38, 39, 40, 41, 42, 43, 44, 45, 6, 46, 47, 48, 49, 50, 51, 52, 53, 54, 55, 56, 57, 58, 59, 60, 61, 106, 107, 83, 84, 85, 86, 87, 88, 89, 90, 91, 92] (by decide +kernel) (by decide +kernel)
set_option maxRecDepth 20000 in
theorem gX7_init_X0_init : GoodIn wsX7_init (wsX0_init) := ggX7_init_X0_init
set_option maxRecDepth 20000 in
theorem ggX7_init_X1_init : GoodIn wsX7_init wsX1_init := goodIn_r _ [64, 65, 2, 3, 66, 67, 5, 6, 68, 23, 24, 25, 26, 27, 28, 29, 30, 31, 32, 33, 34, 35, 36, 37, 38, 39, 40, 41, 42, 43, 44, 45, 46, 47, 48, 49, 50, 51, 52, 53, 54, 55, 56, 57, 58, 59, 60, 61, 99, 100, 101, 83, 84, 85, 86, 87, 88, 89, 90, 91, 92, 106, 107] (by decide +kernel) (by decide +kernel)
set_option maxRecDepth 20000 in
theorem gX7_init_X1_init : GoodIn wsX7_init (wsX1_init) := ggX7_init_X1_init
set_option maxRecDepth 20000 in
theorem ggX7_init_X4_init : GoodIn wsX7_init wsX4_init := goodIn_r _ [71, 72, 2, 3, 73, 5, 6, 74, 75, 23, 24, 25, 26, 27, 28, 29, 30, 31, 32, 33, 34, 35, 36, 37, 38, 39, 40, 41, 42, 43, 44, 45, 46, 47, 48, 49, 50, 51, 52, 53, 54, 55, 56, 57, 58, 59, 60, 61, 83, 84, 85, 86, 87, 88, 89, 90, 91, 92, 102, 103, 106, 107] (by decide +kernel) (by decide +kernel)
set_option maxRecDepth 20000 in
theorem gX7_init_X4_init : GoodIn wsX7_init (wsX4_init) := ggX7_init_X4_init
set_option maxRecDepth 20000 in
theorem ggX7_init_X6_init : GoodIn wsX7_init wsX6_init := goodIn_r _ [78, 79, 2, 3, 80, 27, 28, 81, 82, 33, 34, 35, 36, 37, 38, 39, 40, 41, 42, 106, 107, 104, 105] (by decide +kernel) (by decide +kernel)
set_option maxRecDepth 20000 in
theorem gX7_init_X6_init : GoodIn wsX7_init (wsX6_init) := ggX7_init_X6_init
theorem dX7_init_0 : decode cX7_init 0 = .ok (.aload_n 0, 1) := by decide +kernel
theorem dX7_init_1 : decode cX7_init 1 = .ok (.invokespecial 1, 3) := by decide +kernel
theorem dX7_init_4 : decode cX7_init 4 = .ok (.aload_n 0, 1) := by decide +kernel
theorem dX7_init_5 : decode cX7_init 5 = .ok (.new 7, 3) := by decide +kernel
theorem dX7_init_8 : decode cX7_init 8 = .ok (.dup, 1) := by decide +kernel
theorem dX7_init_9 : decode cX7_init 9 = .ok (.invokespecial 9, 3) := by decide +kernel
theorem dX7_init_12 : decode cX7_init 12 = .ok (.putfield 10, 3) := by decide +kernel
theorem dX7_init_15 : decode cX7_init 15 = .ok (.aload_n 0, 1) := by decide +kernel
theorem dX7_init_16 : decode cX7_init 16 = .ok (.new 7, 3) := by decide +kernel
theorem dX7_init_19 : decode cX7_init 19 = .ok (.dup, 1) := by decide +kernel
theorem dX7_init_20 : decode cX7_init 20 = .ok (.invokespecial 9, 3) := by decide +kernel
theorem dX7_init_23 : decode cX7_init 23 = .ok (.putfield 16, 3) := by decide +kernel
theorem dX7_init_26 : decode cX7_init 26 = .ok (.aload_n 0, 1) := by decide +kernel
theorem dX7_init_27 : decode cX7_init 27 = .ok (.new 19, 3) := by decide +kernel
theorem dX7_init_30 : decode cX7_init 30 = .ok (.dup, 1) := by decide +kernel
theorem dX7_init_31 : decode cX7_init 31 = .ok (.invokespecial 21, 3) := by decide +kernel
theorem dX7_init_34 : decode cX7_init 34 = .ok (.putfield 22, 3) := by decide +kernel
theorem dX7_init_37 : decode cX7_init 37 = .ok (.aload_n 0, 1) := by decide +kernel
theorem dX7_init_38 : decode cX7_init 38 = .ok (.new 26, 3) := by decide +kernel
theorem dX7_init_41 : decode cX7_init 41 = .ok (.dup, 1) := by decide +kernel
theorem dX7_init_42 : decode cX7_init 42 = .ok (.invokespecial 28, 3) := by decide +kernel
theorem dX7_init_45 : decode cX7_init 45 = .ok (.putfield 29, 3) := by decide +kernel
theorem dX7_init_48 : decode cX7_init 48 = .ok (.aload_n 0, 1) := by decide +kernel
theorem dX7_init_49 : decode cX7_init 49 = .ok (.new 26, 3) := by decide +kernel
theorem dX7_init_52 : decode cX7_init 52 = .ok (.dup, 1) := by decide +kernel
theorem dX7_init_53 : decode cX7_init 53 = .ok (.invokespecial 28, 3) := by decide +kernel
theorem dX7_init_56 : decode cX7_init 56 = .ok (.putfield 33, 3) := by decide +kernel
theorem dX7_init_59 : decode cX7_init 59 = .ok (.aload_n 0, 1) := by decide +kernel
theorem dX7_init_60 : decode cX7_init 60 = .ok (.new 36, 3) := by decide +kernel
theorem dX7_init_63 : decode cX7_init 63 = .ok (.dup, 1) := by decide +kernel
theorem dX7_init_64 : decode cX7_init 64 = .ok (.invokespecial 38, 3) := by decide +kernel
theorem dX7_init_67 : decode cX7_init 67 = .ok (.putfield 39, 3) := by decide +kernel
theorem dX7_init_70 : decode cX7_init 70 = .ok (.return_, 1) := by decide +kernel
set_option maxRecDepth 20000 in
theorem ggX7_append_X7_isIn : GoodIn wsX7_append wsX7_isIn := goodIn_r _ [5] (by decide +kernel) (by decide +kernel)
set_option maxRecDepth 20000 in
theorem gX7_append_X7_isIn : GoodIn wsX7_append (va_wsS RX7 43 yX7_isIn wsX7_isIn) := goodIn_app (goodIn_of _ (by decide +kernel)) ggX7_append_X7_isIn
set_option maxRecDepth 20000 in
theorem ggX7_append_X7_requireArgument : GoodIn wsX7_append wsX7_requireArgument := goodIn_ca (goodIn_r _ [8, 9, 10] (by decide +kernel) (by decide +kernel)) (goodIn_sub (fun _ h => List.mem_cons_of_mem _ (List.mem_append_left _ (List.mem_append_right _ h))) (by decide +kernel))
set_option maxRecDepth 20000 in
theorem gX7_append_X7_requireArgument : GoodIn wsX7_append (va_wsS RX7 47 yX7_requireArgument wsX7_requireArgument) := goodIn_app (goodIn_of _ (by decide +kernel)) ggX7_append_X7_requireArgument
set_option maxRecDepth 20000 in
theorem ggX7_append_X6_size : GoodIn wsX7_append wsX6_size := goodIn_r _ [15, 16, 40, 41] (by decide +kernel) (by decide +kernel)
set_option maxRecDepth 20000 in
theorem gX7_append_X6_size : GoodIn wsX7_append (wsV RX7 51 RX6 yX6_size wsX6_size) := goodIn_app (goodIn_of _ (by decide +kernel)) ggX7_append_X6_size
set_option maxRecDepth 20000 in
theorem ggX7_append_X7_requireState : GoodIn wsX7_append wsX7_requireState := goodIn_ca (goodIn_r _ [19, 20, 21] (by decide +kernel) (by decide +kernel)) (goodIn_sub (fun _ h => List.mem_cons_of_mem _ (List.mem_append_right _ h)) (by decide +kernel))
set_option maxRecDepth 20000 in
theorem gX7_append_X7_requireState : GoodIn wsX7_append (va_wsS RX7 55 yX7_requireState wsX7_requireState) := goodIn_app (goodIn_of _ (by decide +kernel)) ggX7_append_X7_requireState
set_option maxRecDepth 20000 in
theorem ggX7_append_X6_addCharacter : GoodIn wsX7_append wsX6_addCharacter := goodIn_r _ [25, 16, 26, 27, 28, 29, 30, 31, 32, 33, 40, 41, 42, 43] (by decide +kernel) (by decide +kernel)
set_option maxRecDepth 20000 in
theorem gX7_append_X6_addCharacter : GoodIn wsX7_append (wsV RX7 58 RX6 yX6_addCharacter wsX6_addCharacter) := goodIn_app (goodIn_of _ (by decide +kernel)) ggX7_append_X6_addCharacter
theorem dX7_append_0 : decode cX7_append 0 = .ok (.iload_n 1, 1) := by decide +kernel
theorem dX7_append_1 : decode cX7_append 1 = .ok (.iconst 0, 1) := by decide +kernel
theorem dX7_append_2 : decode cX7_append 2 = .ok (.sipush 255, 3) := by decide +kernel
theorem dX7_append_5 : decode cX7_append 5 = .ok (.invokestatic 43, 3) := by decide +kernel
theorem dX7_append_8 : decode cX7_append 8 = .ok (.invokestatic 47, 3) := by decide +kernel
theorem dX7_append_11 : decode cX7_append 11 = .ok (.aload_n 0, 1) := by decide +kernel
theorem dX7_append_12 : decode cX7_append 12 = .ok (.getfield 39, 3) := by decide +kernel
theorem dX7_append_15 : decode cX7_append 15 = .ok (.invokevirtual 51, 3) := by decide +kernel
theorem dX7_append_18 : decode cX7_append 18 = .ok (.bipush 120, 2) := by decide +kernel
theorem dX7_append_20 : decode cX7_append 20 = .ok (.if_icmp .ge 7, 3) := by decide +kernel
theorem dX7_append_23 : decode cX7_append 23 = .ok (.iconst 1, 1) := by decide +kernel
theorem dX7_append_24 : decode cX7_append 24 = .ok (.goto 4, 3) := by decide +kernel
theorem dX7_append_27 : decode cX7_append 27 = .ok (.iconst 0, 1) := by decide +kernel
theorem dX7_append_28 : decode cX7_append 28 = .ok (.invokestatic 55, 3) := by decide +kernel
theorem dX7_append_31 : decode cX7_append 31 = .ok (.aload_n 0, 1) := by decide +kernel
theorem dX7_append_32 : decode cX7_append 32 = .ok (.getfield 39, 3) := by decide +kernel
theorem dX7_append_35 : decode cX7_append 35 = .ok (.iload_n 1, 1) := by decide +kernel
theorem dX7_append_36 : decode cX7_append 36 = .ok (.invokevirtual 58, 3) := by decide +kernel
theorem dX7_append_39 : decode cX7_append 39 = .ok (.ireturn, 1) := by decide +kernel
set_option maxRecDepth 20000 in
theorem ggX7_load_X6_firstError : GoodIn wsX7_load wsX6_firstError := goodIn_r _ [10, 11, 12, 13, 14, 9, 15, 16, 17, 18, 19, 20, 21, 22, 23, 24, 25, 26, 27, 28, 29, 30, 31, 32, 33, 34, 35, 36, 37, 38, 39, 40, 41, 42, 43, 44, 219, 220, 221, 222] (by decide +kernel) (by decide +kernel)
set_option maxRecDepth 20000 in
theorem gX7_load_X6_firstError : GoodIn wsX7_load (wsV RX7 65 RX6 yX6_firstError wsX6_firstError) := goodIn_app (goodIn_of _ (by decide +kernel)) ggX7_load_X6_firstError
set_option maxRecDepth 20000 in
theorem ggX7_load_X7_requireState : GoodIn wsX7_load wsX7_requireState := goodIn_ca (goodIn_r _ [47, 48, 49] (by decide +kernel) (by decide +kernel)) (goodIn_sub (fun _ h => List.mem_cons_of_mem _ (List.mem_append_right _ h)) (by decide +kernel))
set_option maxRecDepth 20000 in
theorem gX7_load_X7_requireState : GoodIn wsX7_load (va_wsS RX7 55 yX7_requireState wsX7_requireState) := goodIn_app (goodIn_of _ (by decide +kernel)) ggX7_load_X7_requireState
set_option maxRecDepth 20000 in
theorem ggX7_load_X0_startNew : GoodIn wsX7_load wsX0_startNew := goodIn_r _ [54, 55, 56, 57, 58, 59, 60, 61, 62, 63, 64, 65, 66, 67, 20, 68, 23, 69, 70, 71, 72, 22, 223, 224, 225, 226, 227, 228, 229, 230, 231, 232, 221, 222] (by decide +kernel) (by decide +kernel)
set_option maxRecDepth 20000 in
theorem gX7_load_X0_startNew : GoodIn wsX7_load (wsV RX7 68 RX0 yX0_startNew wsX0_startNew) := goodIn_app (goodIn_of _ (by decide +kernel)) ggX7_load_X0_startNew
set_option maxRecDepth 20000 in
theorem ggX7_load_X1_forget : GoodIn wsX7_load wsX1_forget := goodIn_r _ [77, 78, 233, 234, 235] (by decide +kernel) (by decide +kernel)
set_option maxRecDepth 20000 in
theorem gX7_load_X1_forget : GoodIn wsX7_load (wsV RX7 71 RX1 yX1_forget wsX1_forget) := goodIn_app (goodIn_of _ (by decide +kernel)) ggX7_load_X1_forget
set_option maxRecDepth 20000 in
theorem ggX7_load_X4_empty : GoodIn wsX7_load wsX4_empty := goodIn_r _ [83, 84, 236, 237] (by decide +kernel) (by decide +kernel)
set_option maxRecDepth 20000 in
theorem gX7_load_X4_empty : GoodIn wsX7_load (wsV RX7 74 RX4 yX4_empty wsX4_empty) := goodIn_app (goodIn_of _ (by decide +kernel)) ggX7_load_X4_empty
set_option maxRecDepth 20000 in
theorem ggX7_load_X6_size : GoodIn wsX7_load wsX6_size := goodIn_r _ [88, 11, 219, 220] (by decide +kernel) (by decide +kernel)
set_option maxRecDepth 20000 in
theorem gX7_load_X6_size : GoodIn wsX7_load (wsV RX7 51 RX6 yX6_size wsX6_size) := goodIn_app (goodIn_of _ (by decide +kernel)) ggX7_load_X6_size
set_option maxRecDepth 20000 in
theorem ggX7_load_X7_doTextCommand : GoodIn wsX7_load wsX7_doTextCommand := goodIn_r _ [92, 1, 2, 93, 13, 14, 9, 15, 16, 17, 18, 19, 20, 21, 22, 23, 94, 95, 96, 97, 12, 98, 99, 100, 53, 101, 58, 55, 102, 103, 104, 105, 69, 70, 71, 72, 106, 107, 108, 109, 59, 56, 110, 111, 112, 113, 114, 115, 116, 117, 118, 119, 120, 121, 122, 123, 124, 125, 126, 127, 128, 129, 130, 131, 132, 133, 134, 135, 136, 137, 138, 139, 140, 141, 142, 57, 143, 144, 145, 146, 147, 148, 149, 150, 151, 39, 152, 153, 154, 155, 156, 157, 158, 159, 160, 161, 162, 163, 164, 165, 166, 167, 168, 169, 170, 171, 61, 64, 172, 173, 174, 175, 176, 177, 178, 179, 180, 181, 182, 183, 184, 185, 186, 187, 188, 189, 63, 62, 190, 191, 192, 193, 194, 195, 196, 197, 198, 199, 200, 201, 202, 203, 204, 205, 206, 207, 208, 209, 210, 211, 60, 213, 214, 215, 216, 217, 218, 219, 220, 221, 222, 223, 224, 225, 226, 227, 228, 229, 230, 231, 232] (by decide +kernel) (by decide +kernel)
set_option maxRecDepth 20000 in
theorem gX7_load_X7_doTextCommand : GoodIn wsX7_load (wsV RX7 76 RX7 yX7_doTextCommand wsX7_doTextCommand) := goodIn_app (goodIn_of _ (by decide +kernel)) ggX7_load_X7_doTextCommand
set_option maxRecDepth 20000 in
theorem ggX7_load_X6_commandLength : GoodIn wsX7_load wsX6_commandLength := goodIn_r _ [44, 12, 13, 14, 9, 15, 16, 17, 18, 19, 20, 21, 22, 23, 31, 32, 33, 219, 220, 221, 222] (by decide +kernel) (by decide +kernel)
set_option maxRecDepth 20000 in
theorem gX7_load_X6_commandLength : GoodIn wsX7_load (wsV RX7 80 RX6 yX6_commandLength wsX6_commandLength) := goodIn_app (goodIn_of _ (by decide +kernel)) ggX7_load_X6_commandLength
theorem dX7_load_0 : decode cX7_load 0 = .ok (.aload_n 0, 1) := by decide +kernel
theorem dX7_load_1 : decode cX7_load 1 = .ok (.getfield 39, 3) := by decide +kernel
theorem dX7_load_4 : decode cX7_load 4 = .ok (.invokevirtual 65, 3) := by decide +kernel
theorem dX7_load_7 : decode cX7_load 7 = .ok (.iconst (-1), 1) := by decide +kernel
theorem dX7_load_8 : decode cX7_load 8 = .ok (.if_icmp .ne 7, 3) := by decide +kernel
theorem dX7_load_11 : decode cX7_load 11 = .ok (.iconst 1, 1) := by decide +kernel
theorem dX7_load_12 : decode cX7_load 12 = .ok (.goto 4, 3) := by decide +kernel
theorem dX7_load_15 : decode cX7_load 15 = .ok (.iconst 0, 1) := by decide +kernel
theorem dX7_load_16 : decode cX7_load 16 = .ok (.invokestatic 55, 3) := by decide +kernel
theorem dX7_load_19 : decode cX7_load 19 = .ok (.aload_n 0, 1) := by decide +kernel
theorem dX7_load_20 : decode cX7_load 20 = .ok (.getfield 10, 3) := by decide +kernel
theorem dX7_load_23 : decode cX7_load 23 = .ok (.invokevirtual 68, 3) := by decide +kernel
theorem dX7_load_26 : decode cX7_load 26 = .ok (.aload_n 0, 1) := by decide +kernel
theorem dX7_load_27 : decode cX7_load 27 = .ok (.getfield 22, 3) := by decide +kernel
theorem dX7_load_30 : decode cX7_load 30 = .ok (.invokevirtual 71, 3) := by decide +kernel
theorem dX7_load_33 : decode cX7_load 33 = .ok (.aload_n 0, 1) := by decide +kernel
theorem dX7_load_34 : decode cX7_load 34 = .ok (.getfield 29, 3) := by decide +kernel
theorem dX7_load_37 : decode cX7_load 37 = .ok (.invokevirtual 74, 3) := by decide +kernel
theorem dX7_load_40 : decode cX7_load 40 = .ok (.aload_n 0, 1) := by decide +kernel
theorem dX7_load_41 : decode cX7_load 41 = .ok (.getfield 33, 3) := by decide +kernel
theorem dX7_load_44 : decode cX7_load 44 = .ok (.invokevirtual 74, 3) := by decide +kernel
theorem dX7_load_47 : decode cX7_load 47 = .ok (.iconst 0, 1) := by decide +kernel
theorem dX7_load_48 : decode cX7_load 48 = .ok (.istore_n 1, 1) := by decide +kernel
theorem dX7_load_49 : decode cX7_load 49 = .ok (.iconst 1, 1) := by decide +kernel
theorem dX7_load_50 : decode cX7_load 50 = .ok (.istore_n 2, 1) := by decide +kernel
theorem dX7_load_51 : decode cX7_load 51 = .ok (.iconst 0, 1) := by decide +kernel
theorem dX7_load_52 : decode cX7_load 52 = .ok (.istore_n 3, 1) := by decide +kernel
theorem dX7_load_53 : decode cX7_load 53 = .ok (.iload_n 3, 1) := by decide +kernel
theorem dX7_load_54 : decode cX7_load 54 = .ok (.bipush 120, 2) := by decide +kernel
theorem dX7_load_56 : decode cX7_load 56 = .ok (.if_icmp .ge 42, 3) := by decide +kernel
theorem dX7_load_59 : decode cX7_load 59 = .ok (.iload_n 2, 1) := by decide +kernel
theorem dX7_load_60 : decode cX7_load 60 = .ok (.aload_n 0, 1) := by decide +kernel
theorem dX7_load_61 : decode cX7_load 61 = .ok (.getfield 39, 3) := by decide +kernel
theorem dX7_load_64 : decode cX7_load 64 = .ok (.invokevirtual 51, 3) := by decide +kernel
theorem dX7_load_67 : decode cX7_load 67 = .ok (.if_icmp .ge 31, 3) := by decide +kernel
theorem dX7_load_70 : decode cX7_load 70 = .ok (.aload_n 0, 1) := by decide +kernel
theorem dX7_load_71 : decode cX7_load 71 = .ok (.iload_n 2, 1) := by decide +kernel
theorem dX7_load_72 : decode cX7_load 72 = .ok (.invokevirtual 76, 3) := by decide +kernel
theorem dX7_load_75 : decode cX7_load 75 = .ok (.ifCond .ne 6, 3) := by decide +kernel
theorem dX7_load_78 : decode cX7_load 78 = .ok (.iinc 1 1, 3) := by decide +kernel
theorem dX7_load_81 : decode cX7_load 81 = .ok (.iload_n 2, 1) := by decide +kernel
theorem dX7_load_82 : decode cX7_load 82 = .ok (.aload_n 0, 1) := by decide +kernel
theorem dX7_load_83 : decode cX7_load 83 = .ok (.getfield 39, 3) := by decide +kernel
theorem dX7_load_86 : decode cX7_load 86 = .ok (.iload_n 2, 1) := by decide +kernel
theorem dX7_load_87 : decode cX7_load 87 = .ok (.invokevirtual 80, 3) := by decide +kernel
theorem dX7_load_90 : decode cX7_load 90 = .ok (.iadd, 1) := by decide +kernel
theorem dX7_load_91 : decode cX7_load 91 = .ok (.istore_n 2, 1) := by decide +kernel
theorem dX7_load_92 : decode cX7_load 92 = .ok (.iinc 3 1, 3) := by decide +kernel
theorem dX7_load_95 : decode cX7_load 95 = .ok (.goto (-42), 3) := by decide +kernel
theorem dX7_load_98 : decode cX7_load 98 = .ok (.iload_n 1, 1) := by decide +kernel
theorem dX7_load_99 : decode cX7_load 99 = .ok (.ireturn, 1) := by decide +kernel
set_option maxRecDepth 20000 in
theorem ggX7_about_X7_isIn : GoodIn wsX7_about wsX7_isIn := goodIn_r _ [5] (by decide +kernel) (by decide +kernel)
set_option maxRecDepth 20000 in
theorem gX7_about_X7_isIn : GoodIn wsX7_about (va_wsS RX7 43 yX7_isIn wsX7_isIn) := goodIn_app (goodIn_of _ (by decide +kernel)) ggX7_about_X7_isIn
set_option maxRecDepth 20000 in
theorem ggX7_about_X7_requireArgument : GoodIn wsX7_about wsX7_requireArgument := goodIn_ca (goodIn_r _ [8, 9, 10] (by decide +kernel) (by decide +kernel)) (goodIn_sub (fun _ h => List.mem_cons_of_mem _ (List.mem_append_right _ h)) (by decide +kernel))
set_option maxRecDepth 20000 in
theorem gX7_about_X7_requireArgument : GoodIn wsX7_about (va_wsS RX7 47 yX7_requireArgument wsX7_requireArgument) := goodIn_app (goodIn_of _ (by decide +kernel)) ggX7_about_X7_requireArgument
set_option maxRecDepth 20000 in
theorem ggX7_about_X0_total : GoodIn wsX7_about wsX0_total := goodIn_r _ [15, 16, 17, 18, 19, 20, 21, 22, 23, 24, 25, 14, 26, 27, 28, 29, 30, 31, 32, 33, 34, 35, 36, 37, 38, 39, 40, 41, 42, 43, 44, 4, 45, 46, 47, 48, 49, 50, 51, 52, 59, 60, 61, 62, 63, 64, 65, 66, 67, 68, 69, 70] (by decide +kernel) (by decide +kernel)
set_option maxRecDepth 20000 in
theorem gX7_about_X0_total : GoodIn wsX7_about (wsV RX7 83 RX0 yX0_total wsX0_total) := goodIn_app (goodIn_of _ (by decide +kernel)) ggX7_about_X0_total
theorem dX7_about_0 : decode cX7_about 0 = .ok (.iload_n 1, 1) := by decide +kernel
theorem dX7_about_1 : decode cX7_about 1 = .ok (.iconst 0, 1) := by decide +kernel
theorem dX7_about_2 : decode cX7_about 2 = .ok (.bipush 8, 2) := by decide +kernel
theorem dX7_about_4 : decode cX7_about 4 = .ok (.invokestatic 43, 3) := by decide +kernel
theorem dX7_about_7 : decode cX7_about 7 = .ok (.invokestatic 47, 3) := by decide +kernel
theorem dX7_about_10 : decode cX7_about 10 = .ok (.aload_n 0, 1) := by decide +kernel
theorem dX7_about_11 : decode cX7_about 11 = .ok (.getfield 10, 3) := by decide +kernel
theorem dX7_about_14 : decode cX7_about 14 = .ok (.iload_n 1, 1) := by decide +kernel
theorem dX7_about_15 : decode cX7_about 15 = .ok (.invokevirtual 83, 3) := by decide +kernel
theorem dX7_about_18 : decode cX7_about 18 = .ok (.ireturn, 1) := by decide +kernel
set_option maxRecDepth 20000 in
theorem ggX7_extraOf_X7_requireExtra : GoodIn wsX7_extraOf wsX7_requireExtra := goodIn_ca (goodIn_r _ [6, 1, 7, 8, 9, 10, 11, 12, 13, 14, 5, 15, 16, 17, 54, 55, 56, 57, 58, 59, 60, 61, 62, 63, 64, 65, 66, 67, 68, 69] (by decide +kernel) (by decide +kernel)) (goodIn_sub (fun _ h => List.mem_cons_of_mem _ (List.mem_append_left _ (List.mem_append_right _ h))) (by decide +kernel))
set_option maxRecDepth 20000 in
theorem gX7_extraOf_X7_requireExtra : GoodIn wsX7_extraOf (wsV RX7 86 RX7 yX7_requireExtra wsX7_requireExtra) := goodIn_app (goodIn_of _ (by decide +kernel)) ggX7_extraOf_X7_requireExtra
set_option maxRecDepth 20000 in
theorem ggX7_extraOf_X7_isIn : GoodIn wsX7_extraOf wsX7_isIn := goodIn_r _ [20] (by decide +kernel) (by decide +kernel)
set_option maxRecDepth 20000 in
theorem gX7_extraOf_X7_isIn : GoodIn wsX7_extraOf (va_wsS RX7 43 yX7_isIn wsX7_isIn) := goodIn_app (goodIn_of _ (by decide +kernel)) ggX7_extraOf_X7_isIn
set_option maxRecDepth 20000 in
theorem ggX7_extraOf_X7_requireArgument : GoodIn wsX7_extraOf wsX7_requireArgument := goodIn_ca (goodIn_r _ [23, 24, 25] (by decide +kernel) (by decide +kernel)) (goodIn_sub (fun _ h => List.mem_cons_of_mem _ (List.mem_append_right _ h)) (by decide +kernel))
set_option maxRecDepth 20000 in
theorem gX7_extraOf_X7_requireArgument : GoodIn wsX7_extraOf (va_wsS RX7 47 yX7_requireArgument wsX7_requireArgument) := goodIn_app (goodIn_of _ (by decide +kernel)) ggX7_extraOf_X7_requireArgument
set_option maxRecDepth 20000 in
theorem ggX7_extraOf_X0_numberOfExtra : GoodIn wsX7_extraOf wsX0_numberOfExtra := goodIn_r _ [29, 30, 31, 32, 33, 10, 34, 35, 36, 37, 38, 39, 40, 41, 42, 43, 44, 45, 46, 47, 48, 5, 49, 50, 51, 52, 53, 12, 60, 61, 62, 63, 64, 65, 66, 67, 68, 69, 70, 71] (by decide +kernel) (by decide +kernel)
set_option maxRecDepth 20000 in
theorem gX7_extraOf_X0_numberOfExtra : GoodIn wsX7_extraOf (wsV RX7 90 RX0 yX0_numberOfExtra wsX0_numberOfExtra) := goodIn_app (goodIn_of _ (by decide +kernel)) ggX7_extraOf_X0_numberOfExtra
theorem dX7_extraOf_0 : decode cX7_extraOf 0 = .ok (.aload_n 0, 1) := by decide +kernel
theorem dX7_extraOf_1 : decode cX7_extraOf 1 = .ok (.iload_n 1, 1) := by decide +kernel
theorem dX7_extraOf_2 : decode cX7_extraOf 2 = .ok (.invokevirtual 86, 3) := by decide +kernel
theorem dX7_extraOf_5 : decode cX7_extraOf 5 = .ok (.iload_n 2, 1) := by decide +kernel
theorem dX7_extraOf_6 : decode cX7_extraOf 6 = .ok (.iconst 0, 1) := by decide +kernel
theorem dX7_extraOf_7 : decode cX7_extraOf 7 = .ok (.bipush 6, 2) := by decide +kernel
theorem dX7_extraOf_9 : decode cX7_extraOf 9 = .ok (.invokestatic 43, 3) := by decide +kernel
theorem dX7_extraOf_12 : decode cX7_extraOf 12 = .ok (.invokestatic 47, 3) := by decide +kernel
theorem dX7_extraOf_15 : decode cX7_extraOf 15 = .ok (.aload_n 0, 1) := by decide +kernel
theorem dX7_extraOf_16 : decode cX7_extraOf 16 = .ok (.getfield 10, 3) := by decide +kernel
theorem dX7_extraOf_19 : decode cX7_extraOf 19 = .ok (.iload_n 1, 1) := by decide +kernel
theorem dX7_extraOf_20 : decode cX7_extraOf 20 = .ok (.iload_n 2, 1) := by decide +kernel
theorem dX7_extraOf_21 : decode cX7_extraOf 21 = .ok (.invokevirtual 90, 3) := by decide +kernel
theorem dX7_extraOf_24 : decode cX7_extraOf 24 = .ok (.ireturn, 1) := by decide +kernel
set_option maxRecDepth 20000 in
theorem ggX7_sceneOf_X7_requireScene : GoodIn wsX7_sceneOf wsX7_requireScene := goodIn_ca (goodIn_r _ [6, 1, 7, 8, 9, 10, 11, 12, 13, 14, 5, 15, 16, 17, 54, 55, 56, 57, 58, 59, 60, 61, 62, 63, 64, 65, 66, 67, 68, 69] (by decide +kernel) (by decide +kernel)) (goodIn_sub (fun _ h => List.mem_cons_of_mem _ (List.mem_append_left _ (List.mem_append_right _ h))) (by decide +kernel))
set_option maxRecDepth 20000 in
theorem gX7_sceneOf_X7_requireScene : GoodIn wsX7_sceneOf (wsV RX7 94 RX7 yX7_requireScene wsX7_requireScene) := goodIn_app (goodIn_of _ (by decide +kernel)) ggX7_sceneOf_X7_requireScene
set_option maxRecDepth 20000 in
theorem ggX7_sceneOf_X7_isIn : GoodIn wsX7_sceneOf wsX7_isIn := goodIn_r _ [20] (by decide +kernel) (by decide +kernel)
set_option maxRecDepth 20000 in
theorem gX7_sceneOf_X7_isIn : GoodIn wsX7_sceneOf (va_wsS RX7 43 yX7_isIn wsX7_isIn) := goodIn_app (goodIn_of _ (by decide +kernel)) ggX7_sceneOf_X7_isIn
set_option maxRecDepth 20000 in
theorem ggX7_sceneOf_X7_requireArgument : GoodIn wsX7_sceneOf wsX7_requireArgument := goodIn_ca (goodIn_r _ [23, 24, 25] (by decide +kernel) (by decide +kernel)) (goodIn_sub (fun _ h => List.mem_cons_of_mem _ (List.mem_append_right _ h)) (by decide +kernel))
set_option maxRecDepth 20000 in
theorem gX7_sceneOf_X7_requireArgument : GoodIn wsX7_sceneOf (va_wsS RX7 47 yX7_requireArgument wsX7_requireArgument) := goodIn_app (goodIn_of _ (by decide +kernel)) ggX7_sceneOf_X7_requireArgument
set_option maxRecDepth 20000 in
theorem ggX7_sceneOf_X0_numberOfScene : GoodIn wsX7_sceneOf wsX0_numberOfScene := goodIn_r _ [29, 30, 31, 32, 33, 10, 34, 35, 36, 37, 38, 39, 40, 41, 42, 43, 44, 45, 12, 46, 47, 48, 49, 50, 51, 52, 5, 53, 60, 61, 62, 63, 64, 65, 66, 67, 68, 69, 70, 71] (by decide +kernel) (by decide +kernel)
set_option maxRecDepth 20000 in
theorem gX7_sceneOf_X0_numberOfScene : GoodIn wsX7_sceneOf (wsV RX7 97 RX0 yX0_numberOfScene wsX0_numberOfScene) := goodIn_app (goodIn_of _ (by decide +kernel)) ggX7_sceneOf_X0_numberOfScene
theorem dX7_sceneOf_0 : decode cX7_sceneOf 0 = .ok (.aload_n 0, 1) := by decide +kernel
theorem dX7_sceneOf_1 : decode cX7_sceneOf 1 = .ok (.iload_n 1, 1) := by decide +kernel
theorem dX7_sceneOf_2 : decode cX7_sceneOf 2 = .ok (.invokevirtual 94, 3) := by decide +kernel
theorem dX7_sceneOf_5 : decode cX7_sceneOf 5 = .ok (.iload_n 2, 1) := by decide +kernel
theorem dX7_sceneOf_6 : decode cX7_sceneOf 6 = .ok (.iconst 0, 1) := by decide +kernel
theorem dX7_sceneOf_7 : decode cX7_sceneOf 7 = .ok (.bipush 8, 2) := by decide +kernel
theorem dX7_sceneOf_9 : decode cX7_sceneOf 9 = .ok (.invokestatic 43, 3) := by decide +kernel
theorem dX7_sceneOf_12 : decode cX7_sceneOf 12 = .ok (.invokestatic 47, 3) := by decide +kernel
theorem dX7_sceneOf_15 : decode cX7_sceneOf 15 = .ok (.aload_n 0, 1) := by decide +kernel
theorem dX7_sceneOf_16 : decode cX7_sceneOf 16 = .ok (.getfield 10, 3) := by decide +kernel
theorem dX7_sceneOf_19 : decode cX7_sceneOf 19 = .ok (.iload_n 1, 1) := by decide +kernel
theorem dX7_sceneOf_20 : decode cX7_sceneOf 20 = .ok (.iload_n 2, 1) := by decide +kernel
theorem dX7_sceneOf_21 : decode cX7_sceneOf 21 = .ok (.invokevirtual 97, 3) := by decide +kernel
theorem dX7_sceneOf_24 : decode cX7_sceneOf 24 = .ok (.ireturn, 1) := by decide +kernel
set_option maxRecDepth 20000 in
theorem ggX7_setting_X7_isIn : GoodIn wsX7_setting wsX7_isIn := goodIn_r _ [5] (by decide +kernel) (by decide +kernel)
set_option maxRecDepth 20000 in
theorem gX7_setting_X7_isIn : GoodIn wsX7_setting (va_wsS RX7 43 yX7_isIn wsX7_isIn) := goodIn_app (goodIn_of _ (by decide +kernel)) ggX7_setting_X7_isIn
set_option maxRecDepth 20000 in
theorem ggX7_setting_X7_requireArgument : GoodIn wsX7_setting wsX7_requireArgument := goodIn_ca (goodIn_r _ [8, 9, 10] (by decide +kernel) (by decide +kernel)) (goodIn_sub (fun _ h => List.mem_cons_of_mem _ (List.mem_append_right _ h)) (by decide +kernel))
set_option maxRecDepth 20000 in
theorem gX7_setting_X7_requireArgument : GoodIn wsX7_setting (va_wsS RX7 47 yX7_requireArgument wsX7_requireArgument) := goodIn_app (goodIn_of _ (by decide +kernel)) ggX7_setting_X7_requireArgument
set_option maxRecDepth 20000 in
theorem ggX7_setting_X0_valueOf : GoodIn wsX7_setting wsX0_valueOf := goodIn_r _ [15, 16, 17, 18, 19, 20, 21, 22, 23, 30, 31, 32, 33, 34, 35, 36, 37, 38, 39, 40, 41] (by decide +kernel) (by decide +kernel)
set_option maxRecDepth 20000 in
theorem gX7_setting_X0_valueOf : GoodIn wsX7_setting (wsV RX7 100 RX0 yX0_valueOf wsX0_valueOf) := goodIn_app (goodIn_of _ (by decide +kernel)) ggX7_setting_X0_valueOf
theorem dX7_setting_0 : decode cX7_setting 0 = .ok (.iload_n 1, 1) := by decide +kernel
theorem dX7_setting_1 : decode cX7_setting 1 = .ok (.iconst 0, 1) := by decide +kernel
theorem dX7_setting_2 : decode cX7_setting 2 = .ok (.iconst 2, 1) := by decide +kernel
theorem dX7_setting_3 : decode cX7_setting 3 = .ok (.invokestatic 43, 3) := by decide +kernel
theorem dX7_setting_6 : decode cX7_setting 6 = .ok (.invokestatic 47, 3) := by decide +kernel
theorem dX7_setting_9 : decode cX7_setting 9 = .ok (.aload_n 0, 1) := by decide +kernel
theorem dX7_setting_10 : decode cX7_setting 10 = .ok (.getfield 10, 3) := by decide +kernel
theorem dX7_setting_13 : decode cX7_setting 13 = .ok (.iload_n 1, 1) := by decide +kernel
theorem dX7_setting_14 : decode cX7_setting 14 = .ok (.invokevirtual 100, 3) := by decide +kernel
theorem dX7_setting_17 : decode cX7_setting 17 = .ok (.ireturn, 1) := by decide +kernel
set_option maxRecDepth 20000 in
theorem ggX7_extra_X7_isIn : GoodIn wsX7_extra wsX7_isIn := goodIn_r _ [6] (by decide +kernel) (by decide +kernel)
set_option maxRecDepth 20000 in
theorem gX7_extra_X7_isIn : GoodIn wsX7_extra (va_wsS RX7 43 yX7_isIn wsX7_isIn) := goodIn_app (goodIn_of _ (by decide +kernel)) ggX7_extra_X7_isIn
set_option maxRecDepth 20000 in
theorem ggX7_extra_X7_requireArgument : GoodIn wsX7_extra wsX7_requireArgument := goodIn_ca (goodIn_r _ [9, 10, 11] (by decide +kernel) (by decide +kernel)) (goodIn_sub (fun _ h => List.mem_cons_of_mem _ (List.mem_append_left _ (List.mem_append_right _ h))) (by decide +kernel))
set_option maxRecDepth 20000 in
theorem gX7_extra_X7_requireArgument : GoodIn wsX7_extra (va_wsS RX7 47 yX7_requireArgument wsX7_requireArgument) := goodIn_app (goodIn_of _ (by decide +kernel)) ggX7_extra_X7_requireArgument
set_option maxRecDepth 20000 in
theorem ggX7_extra_X0_hasRoomForExtra : GoodIn wsX7_extra wsX0_hasRoomForExtra := goodIn_r _ [16, 17, 70, 71, 72, 73, 74, 75, 76, 77, 78, 79] (by decide +kernel) (by decide +kernel)
set_option maxRecDepth 20000 in
theorem gX7_extra_X0_hasRoomForExtra : GoodIn wsX7_extra (wsV RX7 103 RX0 yX0_hasRoomForExtra wsX0_hasRoomForExtra) := goodIn_app (goodIn_of _ (by decide +kernel)) ggX7_extra_X0_hasRoomForExtra
set_option maxRecDepth 20000 in
theorem ggX7_extra_X7_requireState : GoodIn wsX7_extra wsX7_requireState := goodIn_ca (goodIn_r _ [20, 21, 22] (by decide +kernel) (by decide +kernel)) (goodIn_sub (fun _ h => List.mem_cons_of_mem _ (List.mem_append_right _ h)) (by decide +kernel))
set_option maxRecDepth 20000 in
theorem gX7_extra_X7_requireState : GoodIn wsX7_extra (va_wsS RX7 55 yX7_requireState wsX7_requireState) := goodIn_app (goodIn_of _ (by decide +kernel)) ggX7_extra_X7_requireState
set_option maxRecDepth 20000 in
theorem ggX7_extra_X1_remember : GoodIn wsX7_extra wsX1_remember := goodIn_r _ [27, 28, 29, 30, 31, 32, 26, 33, 34, 35, 36, 37, 15, 38, 39, 40, 41, 17, 42, 43, 44, 45, 46, 47, 48, 49, 50, 51, 52, 53, 80, 81, 82, 70, 71, 72, 73, 74, 75, 76, 77, 78, 79, 83, 84] (by decide +kernel) (by decide +kernel)
set_option maxRecDepth 20000 in
theorem gX7_extra_X1_remember : GoodIn wsX7_extra (wsV RX7 107 RX1 yX1_remember wsX1_remember) := goodIn_app (goodIn_of _ (by decide +kernel)) ggX7_extra_X1_remember
set_option maxRecDepth 20000 in
theorem ggX7_extra_X0_addExtra : GoodIn wsX7_extra wsX0_addExtra := goodIn_r _ [57, 17, 39, 58, 13, 14, 15, 16, 59, 60, 61, 51, 62, 63, 53, 70, 71, 72, 73, 74, 75, 76, 77, 78, 79, 83, 84] (by decide +kernel) (by decide +kernel)
set_option maxRecDepth 20000 in
theorem gX7_extra_X0_addExtra : GoodIn wsX7_extra (wsV RX7 111 RX0 yX0_addExtra wsX0_addExtra) := goodIn_app (goodIn_of _ (by decide +kernel)) ggX7_extra_X0_addExtra
theorem dX7_extra_0 : decode cX7_extra 0 = .ok (.iload_n 1, 1) := by decide +kernel
theorem dX7_extra_1 : decode cX7_extra 1 = .ok (.iconst 0, 1) := by decide +kernel
theorem dX7_extra_2 : decode cX7_extra 2 = .ok (.iconst 4, 1) := by decide +kernel
theorem dX7_extra_3 : decode cX7_extra 3 = .ok (.invokestatic 43, 3) := by decide +kernel
theorem dX7_extra_6 : decode cX7_extra 6 = .ok (.ifCond .eq 17, 3) := by decide +kernel
theorem dX7_extra_9 : decode cX7_extra 9 = .ok (.iload_n 2, 1) := by decide +kernel
theorem dX7_extra_10 : decode cX7_extra 10 = .ok (.iconst 0, 1) := by decide +kernel
theorem dX7_extra_11 : decode cX7_extra 11 = .ok (.bipush 13, 2) := by decide +kernel
theorem dX7_extra_13 : decode cX7_extra 13 = .ok (.invokestatic 43, 3) := by decide +kernel
theorem dX7_extra_16 : decode cX7_extra 16 = .ok (.ifCond .eq 7, 3) := by decide +kernel
theorem dX7_extra_19 : decode cX7_extra 19 = .ok (.iconst 1, 1) := by decide +kernel
theorem dX7_extra_20 : decode cX7_extra 20 = .ok (.goto 4, 3) := by decide +kernel
theorem dX7_extra_23 : decode cX7_extra 23 = .ok (.iconst 0, 1) := by decide +kernel
theorem dX7_extra_24 : decode cX7_extra 24 = .ok (.invokestatic 47, 3) := by decide +kernel
theorem dX7_extra_27 : decode cX7_extra 27 = .ok (.aload_n 0, 1) := by decide +kernel
theorem dX7_extra_28 : decode cX7_extra 28 = .ok (.getfield 10, 3) := by decide +kernel
theorem dX7_extra_31 : decode cX7_extra 31 = .ok (.invokevirtual 103, 3) := by decide +kernel
theorem dX7_extra_34 : decode cX7_extra 34 = .ok (.invokestatic 55, 3) := by decide +kernel
theorem dX7_extra_37 : decode cX7_extra 37 = .ok (.aload_n 0, 1) := by decide +kernel
theorem dX7_extra_38 : decode cX7_extra 38 = .ok (.getfield 22, 3) := by decide +kernel
theorem dX7_extra_41 : decode cX7_extra 41 = .ok (.aload_n 0, 1) := by decide +kernel
theorem dX7_extra_42 : decode cX7_extra 42 = .ok (.getfield 10, 3) := by decide +kernel
theorem dX7_extra_45 : decode cX7_extra 45 = .ok (.invokevirtual 107, 3) := by decide +kernel
theorem dX7_extra_48 : decode cX7_extra 48 = .ok (.aload_n 0, 1) := by decide +kernel
theorem dX7_extra_49 : decode cX7_extra 49 = .ok (.getfield 10, 3) := by decide +kernel
theorem dX7_extra_52 : decode cX7_extra 52 = .ok (.iload_n 1, 1) := by decide +kernel
theorem dX7_extra_53 : decode cX7_extra 53 = .ok (.iload_n 2, 1) := by decide +kernel
theorem dX7_extra_54 : decode cX7_extra 54 = .ok (.invokevirtual 111, 3) := by decide +kernel
theorem dX7_extra_57 : decode cX7_extra 57 = .ok (.ireturn, 1) := by decide +kernel
set_option maxRecDepth 20000 in
theorem ggX7_scene_X7_isIn : GoodIn wsX7_scene wsX7_isIn := goodIn_r _ [6] (by decide +kernel) (by decide +kernel)
set_option maxRecDepth 20000 in
theorem gX7_scene_X7_isIn : GoodIn wsX7_scene (va_wsS RX7 43 yX7_isIn wsX7_isIn) := goodIn_app (goodIn_of _ (by decide +kernel)) ggX7_scene_X7_isIn
set_option maxRecDepth 20000 in
theorem ggX7_scene_X7_requireArgument : GoodIn wsX7_scene wsX7_requireArgument := goodIn_ca (goodIn_r _ [9, 10, 11] (by decide +kernel) (by decide +kernel)) (goodIn_sub (fun _ h => List.mem_cons_of_mem _ (List.mem_append_left _ (List.mem_append_right _ h))) (by decide +kernel))
set_option maxRecDepth 20000 in
theorem gX7_scene_X7_requireArgument : GoodIn wsX7_scene (va_wsS RX7 47 yX7_requireArgument wsX7_requireArgument) := goodIn_app (goodIn_of _ (by decide +kernel)) ggX7_scene_X7_requireArgument
set_option maxRecDepth 20000 in
theorem ggX7_scene_X0_hasRoomForScene : GoodIn wsX7_scene wsX0_hasRoomForScene := goodIn_r _ [16, 17, 70, 71, 72, 73, 74, 75, 76, 77, 78, 79] (by decide +kernel) (by decide +kernel)
set_option maxRecDepth 20000 in
theorem gX7_scene_X0_hasRoomForScene : GoodIn wsX7_scene (wsV RX7 114 RX0 yX0_hasRoomForScene wsX0_hasRoomForScene) := goodIn_app (goodIn_of _ (by decide +kernel)) ggX7_scene_X0_hasRoomForScene
set_option maxRecDepth 20000 in
theorem ggX7_scene_X7_requireState : GoodIn wsX7_scene wsX7_requireState := goodIn_ca (goodIn_r _ [20, 21, 22] (by decide +kernel) (by decide +kernel)) (goodIn_sub (fun _ h => List.mem_cons_of_mem _ (List.mem_append_right _ h)) (by decide +kernel))
set_option maxRecDepth 20000 in
theorem gX7_scene_X7_requireState : GoodIn wsX7_scene (va_wsS RX7 55 yX7_requireState wsX7_requireState) := goodIn_app (goodIn_of _ (by decide +kernel)) ggX7_scene_X7_requireState
set_option maxRecDepth 20000 in
theorem ggX7_scene_X1_remember : GoodIn wsX7_scene wsX1_remember := goodIn_r _ [27, 28, 29, 30, 31, 32, 26, 33, 34, 35, 36, 37, 15, 38, 39, 40, 41, 42, 17, 43, 44, 45, 46, 47, 48, 49, 50, 51, 52, 53, 80, 81, 82, 70, 71, 72, 73, 74, 75, 76, 77, 78, 79, 83, 84] (by decide +kernel) (by decide +kernel)
set_option maxRecDepth 20000 in
theorem gX7_scene_X1_remember : GoodIn wsX7_scene (wsV RX7 107 RX1 yX1_remember wsX1_remember) := goodIn_app (goodIn_of _ (by decide +kernel)) ggX7_scene_X1_remember
set_option maxRecDepth 20000 in
theorem ggX7_scene_X0_addScene : GoodIn wsX7_scene wsX0_addScene := goodIn_r _ [57, 17, 40, 58, 13, 14, 15, 16, 59, 60, 61, 51, 62, 63, 53, 70, 71, 72, 73, 74, 75, 76, 77, 78, 79, 83, 84] (by decide +kernel) (by decide +kernel)
set_option maxRecDepth 20000 in
theorem gX7_scene_X0_addScene : GoodIn wsX7_scene (wsV RX7 117 RX0 yX0_addScene wsX0_addScene) := goodIn_app (goodIn_of _ (by decide +kernel)) ggX7_scene_X0_addScene
theorem dX7_scene_0 : decode cX7_scene 0 = .ok (.iload_n 1, 1) := by decide +kernel
theorem dX7_scene_1 : decode cX7_scene 1 = .ok (.iconst 0, 1) := by decide +kernel
theorem dX7_scene_2 : decode cX7_scene 2 = .ok (.iconst 4, 1) := by decide +kernel
theorem dX7_scene_3 : decode cX7_scene 3 = .ok (.invokestatic 43, 3) := by decide +kernel
theorem dX7_scene_6 : decode cX7_scene 6 = .ok (.ifCond .eq 50, 3) := by decide +kernel
theorem dX7_scene_9 : decode cX7_scene 9 = .ok (.iload_n 2, 1) := by decide +kernel
theorem dX7_scene_10 : decode cX7_scene 10 = .ok (.iconst 1, 1) := by decide +kernel
theorem dX7_scene_11 : decode cX7_scene 11 = .ok (.bipush 6, 2) := by decide +kernel
theorem dX7_scene_13 : decode cX7_scene 13 = .ok (.invokestatic 43, 3) := by decide +kernel
theorem dX7_scene_16 : decode cX7_scene 16 = .ok (.ifCond .eq 40, 3) := by decide +kernel
theorem dX7_scene_19 : decode cX7_scene 19 = .ok (.iload_n 3, 1) := by decide +kernel
theorem dX7_scene_20 : decode cX7_scene 20 = .ok (.iconst 0, 1) := by decide +kernel
theorem dX7_scene_21 : decode cX7_scene 21 = .ok (.bipush 9, 2) := by decide +kernel
theorem dX7_scene_23 : decode cX7_scene 23 = .ok (.invokestatic 43, 3) := by decide +kernel
theorem dX7_scene_26 : decode cX7_scene 26 = .ok (.ifCond .eq 30, 3) := by decide +kernel
theorem dX7_scene_29 : decode cX7_scene 29 = .ok (.iload 4, 2) := by decide +kernel
theorem dX7_scene_31 : decode cX7_scene 31 = .ok (.iconst 0, 1) := by decide +kernel
theorem dX7_scene_32 : decode cX7_scene 32 = .ok (.iconst 3, 1) := by decide +kernel
theorem dX7_scene_33 : decode cX7_scene 33 = .ok (.invokestatic 43, 3) := by decide +kernel
theorem dX7_scene_36 : decode cX7_scene 36 = .ok (.ifCond .eq 20, 3) := by decide +kernel
theorem dX7_scene_39 : decode cX7_scene 39 = .ok (.iload 5, 2) := by decide +kernel
theorem dX7_scene_41 : decode cX7_scene 41 = .ok (.bipush 10, 2) := by decide +kernel
theorem dX7_scene_43 : decode cX7_scene 43 = .ok (.sipush 240, 3) := by decide +kernel
theorem dX7_scene_46 : decode cX7_scene 46 = .ok (.invokestatic 43, 3) := by decide +kernel
theorem dX7_scene_49 : decode cX7_scene 49 = .ok (.ifCond .eq 7, 3) := by decide +kernel
theorem dX7_scene_52 : decode cX7_scene 52 = .ok (.iconst 1, 1) := by decide +kernel
theorem dX7_scene_53 : decode cX7_scene 53 = .ok (.goto 4, 3) := by decide +kernel
theorem dX7_scene_56 : decode cX7_scene 56 = .ok (.iconst 0, 1) := by decide +kernel
theorem dX7_scene_57 : decode cX7_scene 57 = .ok (.invokestatic 47, 3) := by decide +kernel
theorem dX7_scene_60 : decode cX7_scene 60 = .ok (.aload_n 0, 1) := by decide +kernel
theorem dX7_scene_61 : decode cX7_scene 61 = .ok (.getfield 10, 3) := by decide +kernel
theorem dX7_scene_64 : decode cX7_scene 64 = .ok (.invokevirtual 114, 3) := by decide +kernel
theorem dX7_scene_67 : decode cX7_scene 67 = .ok (.invokestatic 55, 3) := by decide +kernel
theorem dX7_scene_70 : decode cX7_scene 70 = .ok (.aload_n 0, 1) := by decide +kernel
theorem dX7_scene_71 : decode cX7_scene 71 = .ok (.getfield 22, 3) := by decide +kernel
theorem dX7_scene_74 : decode cX7_scene 74 = .ok (.aload_n 0, 1) := by decide +kernel
theorem dX7_scene_75 : decode cX7_scene 75 = .ok (.getfield 10, 3) := by decide +kernel
theorem dX7_scene_78 : decode cX7_scene 78 = .ok (.invokevirtual 107, 3) := by decide +kernel
theorem dX7_scene_81 : decode cX7_scene 81 = .ok (.aload_n 0, 1) := by decide +kernel
theorem dX7_scene_82 : decode cX7_scene 82 = .ok (.getfield 10, 3) := by decide +kernel
theorem dX7_scene_85 : decode cX7_scene 85 = .ok (.iload_n 1, 1) := by decide +kernel
theorem dX7_scene_86 : decode cX7_scene 86 = .ok (.iload_n 2, 1) := by decide +kernel
theorem dX7_scene_87 : decode cX7_scene 87 = .ok (.iload_n 3, 1) := by decide +kernel
theorem dX7_scene_88 : decode cX7_scene 88 = .ok (.iload 4, 2) := by decide +kernel
theorem dX7_scene_90 : decode cX7_scene 90 = .ok (.iload 5, 2) := by decide +kernel
theorem dX7_scene_92 : decode cX7_scene 92 = .ok (.invokevirtual 117, 3) := by decide +kernel
theorem dX7_scene_95 : decode cX7_scene 95 = .ok (.ireturn, 1) := by decide +kernel
set_option maxRecDepth 20000 in
theorem ggX7_shoot_X7_requireScene : GoodIn wsX7_shoot wsX7_requireScene := goodIn_ca (goodIn_r _ [7, 1, 8, 9, 10, 11, 12, 13, 14, 15, 6, 16, 17, 18, 142, 143, 144, 145, 146, 147, 148, 149, 150, 151, 152, 153, 154, 155, 156, 157] (by decide +kernel) (by decide +kernel)) (goodIn_sub (fun _ h => List.mem_cons_of_mem _ (List.mem_append_left _ (List.mem_append_right _ h))) (by decide +kernel))
set_option maxRecDepth 20000 in
theorem gX7_shoot_X7_requireScene : GoodIn wsX7_shoot (wsV RX7 94 RX7 yX7_requireScene wsX7_requireScene) := goodIn_app (goodIn_of _ (by decide +kernel)) ggX7_shoot_X7_requireScene
set_option maxRecDepth 20000 in
theorem ggX7_shoot_X0_crowdNow : GoodIn wsX7_shoot wsX0_crowdNow := goodIn_r _ [22, 23, 24, 9, 10, 11, 12, 13, 25, 26, 27, 28, 29, 30, 31, 32, 33, 34, 35, 36, 37, 38, 39, 40, 41, 42, 43, 44, 45, 46, 47, 48, 49, 50, 51, 52, 53, 54, 55, 56, 57, 58, 59, 6, 60, 61, 62, 63, 64, 65, 66, 67, 68, 69, 70, 71, 72, 73, 74, 75, 148, 149, 150, 151, 152, 153, 154, 155, 156, 157, 158, 159] (by decide +kernel) (by decide +kernel)
set_option maxRecDepth 20000 in
theorem gX7_shoot_X0_crowdNow : GoodIn wsX7_shoot (wsV RX7 121 RX0 yX0_crowdNow wsX0_crowdNow) := goodIn_app (goodIn_of _ (by decide +kernel)) ggX7_shoot_X0_crowdNow
set_option maxRecDepth 20000 in
theorem ggX7_shoot_X7_requireState : GoodIn wsX7_shoot wsX7_requireState := goodIn_ca (goodIn_r _ [78, 79, 80] (by decide +kernel) (by decide +kernel)) (goodIn_sub (fun _ h => List.mem_cons_of_mem _ (List.mem_append_right _ h)) (by decide +kernel))
set_option maxRecDepth 20000 in
theorem gX7_shoot_X7_requireState : GoodIn wsX7_shoot (va_wsS RX7 55 yX7_requireState wsX7_requireState) := goodIn_app (goodIn_of _ (by decide +kernel)) ggX7_shoot_X7_requireState
set_option maxRecDepth 20000 in
theorem ggX7_shoot_X1_remember : GoodIn wsX7_shoot wsX1_remember := goodIn_r _ [85, 86, 87, 88, 89, 90, 84, 91, 92, 93, 94, 95, 11, 96, 45, 23, 50, 44, 13, 97, 98, 99, 100, 101, 102, 103, 104, 32, 105, 35, 160, 161, 162, 148, 149, 150, 151, 152, 153, 154, 155, 156, 157, 158, 159] (by decide +kernel) (by decide +kernel)
set_option maxRecDepth 20000 in
theorem gX7_shoot_X1_remember : GoodIn wsX7_shoot (wsV RX7 107 RX1 yX1_remember wsX1_remember) := goodIn_app (goodIn_of _ (by decide +kernel)) ggX7_shoot_X1_remember
set_option maxRecDepth 20000 in
theorem ggX7_shoot_X0_work : GoodIn wsX7_shoot wsX0_work := goodIn_r _ [109, 98, 101, 44, 23, 110, 111, 112, 11, 113, 61, 62, 63, 64, 65, 66, 67, 114, 115, 116, 117, 50, 29, 30, 31, 32, 33, 34, 35, 118, 6, 119, 120, 121, 122, 123, 51, 52, 53, 54, 13, 55, 56, 57, 58, 45, 59, 60, 124, 125, 126, 127, 100, 99, 128, 129, 130, 131, 132, 133, 134, 135, 136, 137, 138, 139, 140, 141, 148, 149, 150, 151, 152, 153, 154, 155, 156, 157, 158, 159] (by decide +kernel) (by decide +kernel)
set_option maxRecDepth 20000 in
theorem gX7_shoot_X0_work : GoodIn wsX7_shoot (wsV RX7 124 RX0 yX0_work wsX0_work) := goodIn_app (goodIn_of _ (by decide +kernel)) ggX7_shoot_X0_work
theorem dX7_shoot_0 : decode cX7_shoot 0 = .ok (.aload_n 0, 1) := by decide +kernel
theorem dX7_shoot_1 : decode cX7_shoot 1 = .ok (.iload_n 1, 1) := by decide +kernel
theorem dX7_shoot_2 : decode cX7_shoot 2 = .ok (.invokevirtual 94, 3) := by decide +kernel
theorem dX7_shoot_5 : decode cX7_shoot 5 = .ok (.aload_n 0, 1) := by decide +kernel
theorem dX7_shoot_6 : decode cX7_shoot 6 = .ok (.getfield 10, 3) := by decide +kernel
theorem dX7_shoot_9 : decode cX7_shoot 9 = .ok (.iload_n 1, 1) := by decide +kernel
theorem dX7_shoot_10 : decode cX7_shoot 10 = .ok (.invokevirtual 121, 3) := by decide +kernel
theorem dX7_shoot_13 : decode cX7_shoot 13 = .ok (.istore_n 2, 1) := by decide +kernel
theorem dX7_shoot_14 : decode cX7_shoot 14 = .ok (.iload_n 2, 1) := by decide +kernel
theorem dX7_shoot_15 : decode cX7_shoot 15 = .ok (.ifCond .eq 7, 3) := by decide +kernel
theorem dX7_shoot_18 : decode cX7_shoot 18 = .ok (.iconst 1, 1) := by decide +kernel
theorem dX7_shoot_19 : decode cX7_shoot 19 = .ok (.goto 4, 3) := by decide +kernel
theorem dX7_shoot_22 : decode cX7_shoot 22 = .ok (.iconst 0, 1) := by decide +kernel
theorem dX7_shoot_23 : decode cX7_shoot 23 = .ok (.invokestatic 55, 3) := by decide +kernel
theorem dX7_shoot_26 : decode cX7_shoot 26 = .ok (.aload_n 0, 1) := by decide +kernel
theorem dX7_shoot_27 : decode cX7_shoot 27 = .ok (.getfield 22, 3) := by decide +kernel
theorem dX7_shoot_30 : decode cX7_shoot 30 = .ok (.aload_n 0, 1) := by decide +kernel
theorem dX7_shoot_31 : decode cX7_shoot 31 = .ok (.getfield 10, 3) := by decide +kernel
theorem dX7_shoot_34 : decode cX7_shoot 34 = .ok (.invokevirtual 107, 3) := by decide +kernel
theorem dX7_shoot_37 : decode cX7_shoot 37 = .ok (.aload_n 0, 1) := by decide +kernel
theorem dX7_shoot_38 : decode cX7_shoot 38 = .ok (.getfield 10, 3) := by decide +kernel
theorem dX7_shoot_41 : decode cX7_shoot 41 = .ok (.iload_n 1, 1) := by decide +kernel
theorem dX7_shoot_42 : decode cX7_shoot 42 = .ok (.iload_n 2, 1) := by decide +kernel
theorem dX7_shoot_43 : decode cX7_shoot 43 = .ok (.invokevirtual 124, 3) := by decide +kernel
theorem dX7_shoot_46 : decode cX7_shoot 46 = .ok (.iload_n 2, 1) := by decide +kernel
theorem dX7_shoot_47 : decode cX7_shoot 47 = .ok (.ireturn, 1) := by decide +kernel
set_option maxRecDepth 20000 in
theorem ggX7_replace_X7_requireScene : GoodIn wsX7_replace wsX7_requireScene := goodIn_ca (goodIn_r _ [7, 1, 8, 9, 10, 11, 12, 13, 14, 15, 6, 16, 17, 18, 100, 101, 102, 103, 104, 105, 106, 107, 108, 109, 110, 111, 112, 113, 114, 115] (by decide +kernel) (by decide +kernel)) (goodIn_sub (fun _ h => List.mem_cons_of_mem _ (List.mem_append_left _ (List.mem_append_right _ h))) (by decide +kernel))
set_option maxRecDepth 20000 in
theorem gX7_replace_X7_requireScene : GoodIn wsX7_replace (wsV RX7 94 RX7 yX7_requireScene wsX7_requireScene) := goodIn_app (goodIn_of _ (by decide +kernel)) ggX7_replace_X7_requireScene
set_option maxRecDepth 20000 in
theorem ggX7_replace_X7_requireExtra : GoodIn wsX7_replace wsX7_requireExtra := goodIn_ca (goodIn_r _ [22, 1, 23, 24, 25, 11, 26, 27, 14, 15, 6, 16, 17, 18, 100, 101, 102, 103, 104, 105, 106, 107, 108, 109, 110, 111, 112, 113, 114, 115] (by decide +kernel) (by decide +kernel)) (goodIn_sub (fun _ h => List.mem_cons_of_mem _ (List.mem_append_left _ (List.mem_append_right _ h))) (by decide +kernel))
set_option maxRecDepth 20000 in
theorem gX7_replace_X7_requireExtra : GoodIn wsX7_replace (wsV RX7 86 RX7 yX7_requireExtra wsX7_requireExtra) := goodIn_app (goodIn_of _ (by decide +kernel)) ggX7_replace_X7_requireExtra
set_option maxRecDepth 20000 in
theorem ggX7_replace_X0_canExchange : GoodIn wsX7_replace wsX0_canExchange := goodIn_r _ [31, 32, 33, 9, 10, 11, 12, 13, 34, 24, 25, 26, 27, 35, 36, 37, 38, 39, 40, 41, 42, 43, 44, 45, 46, 47, 6, 48, 49, 50, 51, 52, 53, 54, 55, 56, 57, 58, 59, 60, 106, 107, 108, 109, 110, 111, 112, 113, 114, 115, 116, 117] (by decide +kernel) (by decide +kernel)
set_option maxRecDepth 20000 in
theorem gX7_replace_X0_canExchange : GoodIn wsX7_replace (wsV RX7 128 RX0 yX0_canExchange wsX0_canExchange) := goodIn_app (goodIn_of _ (by decide +kernel)) ggX7_replace_X0_canExchange
set_option maxRecDepth 20000 in
theorem ggX7_replace_X7_requireState : GoodIn wsX7_replace wsX7_requireState := goodIn_ca (goodIn_r _ [63, 64, 65] (by decide +kernel) (by decide +kernel)) (goodIn_sub (fun _ h => List.mem_cons_of_mem _ (List.mem_append_right _ h)) (by decide +kernel))
set_option maxRecDepth 20000 in
theorem gX7_replace_X7_requireState : GoodIn wsX7_replace (va_wsS RX7 55 yX7_requireState wsX7_requireState) := goodIn_app (goodIn_of _ (by decide +kernel)) ggX7_replace_X7_requireState
set_option maxRecDepth 20000 in
theorem ggX7_replace_X1_remember : GoodIn wsX7_replace wsX1_remember := goodIn_r _ [70, 71, 72, 73, 74, 75, 69, 76, 77, 78, 79, 80, 11, 81, 32, 39, 82, 27, 13, 83, 84, 85, 86, 87, 88, 89, 90, 43, 91, 46, 118, 119, 120, 106, 107, 108, 109, 110, 111, 112, 113, 114, 115, 116, 117] (by decide +kernel) (by decide +kernel)
set_option maxRecDepth 20000 in
theorem gX7_replace_X1_remember : GoodIn wsX7_replace (wsV RX7 107 RX1 yX1_remember wsX1_remember) := goodIn_app (goodIn_of _ (by decide +kernel)) ggX7_replace_X1_remember
set_option maxRecDepth 20000 in
theorem ggX7_replace_X0_exchange : GoodIn wsX7_replace wsX0_exchange := goodIn_r _ [95, 39, 35, 36, 37, 11, 38, 40, 41, 42, 43, 44, 45, 46, 96, 97, 98, 99, 106, 107, 108, 109, 110, 111, 112, 113, 114, 115, 116, 117] (by decide +kernel) (by decide +kernel)
set_option maxRecDepth 20000 in
theorem gX7_replace_X0_exchange : GoodIn wsX7_replace (wsV RX7 131 RX0 yX0_exchange wsX0_exchange) := goodIn_app (goodIn_of _ (by decide +kernel)) ggX7_replace_X0_exchange
theorem dX7_replace_0 : decode cX7_replace 0 = .ok (.aload_n 0, 1) := by decide +kernel
theorem dX7_replace_1 : decode cX7_replace 1 = .ok (.iload_n 1, 1) := by decide +kernel
theorem dX7_replace_2 : decode cX7_replace 2 = .ok (.invokevirtual 94, 3) := by decide +kernel
theorem dX7_replace_5 : decode cX7_replace 5 = .ok (.aload_n 0, 1) := by decide +kernel
theorem dX7_replace_6 : decode cX7_replace 6 = .ok (.iload_n 2, 1) := by decide +kernel
theorem dX7_replace_7 : decode cX7_replace 7 = .ok (.invokevirtual 86, 3) := by decide +kernel
theorem dX7_replace_10 : decode cX7_replace 10 = .ok (.aload_n 0, 1) := by decide +kernel
theorem dX7_replace_11 : decode cX7_replace 11 = .ok (.iload_n 3, 1) := by decide +kernel
theorem dX7_replace_12 : decode cX7_replace 12 = .ok (.invokevirtual 86, 3) := by decide +kernel
theorem dX7_replace_15 : decode cX7_replace 15 = .ok (.aload_n 0, 1) := by decide +kernel
theorem dX7_replace_16 : decode cX7_replace 16 = .ok (.getfield 10, 3) := by decide +kernel
theorem dX7_replace_19 : decode cX7_replace 19 = .ok (.iload_n 1, 1) := by decide +kernel
theorem dX7_replace_20 : decode cX7_replace 20 = .ok (.iload_n 2, 1) := by decide +kernel
theorem dX7_replace_21 : decode cX7_replace 21 = .ok (.iload_n 3, 1) := by decide +kernel
theorem dX7_replace_22 : decode cX7_replace 22 = .ok (.invokevirtual 128, 3) := by decide +kernel
theorem dX7_replace_25 : decode cX7_replace 25 = .ok (.invokestatic 55, 3) := by decide +kernel
theorem dX7_replace_28 : decode cX7_replace 28 = .ok (.aload_n 0, 1) := by decide +kernel
theorem dX7_replace_29 : decode cX7_replace 29 = .ok (.getfield 22, 3) := by decide +kernel
theorem dX7_replace_32 : decode cX7_replace 32 = .ok (.aload_n 0, 1) := by decide +kernel
theorem dX7_replace_33 : decode cX7_replace 33 = .ok (.getfield 10, 3) := by decide +kernel
theorem dX7_replace_36 : decode cX7_replace 36 = .ok (.invokevirtual 107, 3) := by decide +kernel
theorem dX7_replace_39 : decode cX7_replace 39 = .ok (.aload_n 0, 1) := by decide +kernel
theorem dX7_replace_40 : decode cX7_replace 40 = .ok (.getfield 10, 3) := by decide +kernel
theorem dX7_replace_43 : decode cX7_replace 43 = .ok (.iload_n 1, 1) := by decide +kernel
theorem dX7_replace_44 : decode cX7_replace 44 = .ok (.iload_n 2, 1) := by decide +kernel
theorem dX7_replace_45 : decode cX7_replace 45 = .ok (.iload_n 3, 1) := by decide +kernel
theorem dX7_replace_46 : decode cX7_replace 46 = .ok (.invokevirtual 131, 3) := by decide +kernel
theorem dX7_replace_49 : decode cX7_replace 49 = .ok (.ireturn, 1) := by decide +kernel
set_option maxRecDepth 20000 in
theorem ggX7_meal_X1_remember : GoodIn wsX7_meal wsX1_remember := goodIn_r _ [7, 8, 9, 10, 11, 12, 6, 13, 14, 15, 16, 17, 18, 19, 20, 21, 22, 23, 24, 25, 26, 27, 28, 29, 30, 31, 32, 33, 34, 35, 59, 60, 61, 62, 63, 64, 65, 66, 67, 68, 69, 70, 71, 72, 73] (by decide +kernel) (by decide +kernel)
set_option maxRecDepth 20000 in
theorem gX7_meal_X1_remember : GoodIn wsX7_meal (wsV RX7 107 RX1 yX1_remember wsX1_remember) := goodIn_app (goodIn_of _ (by decide +kernel)) ggX7_meal_X1_remember
set_option maxRecDepth 20000 in
theorem ggX7_meal_X0_eat : GoodIn wsX7_meal wsX0_eat := goodIn_r _ [39, 23, 20, 40, 41, 42, 33, 43, 44, 35, 45, 46, 47, 48, 49, 50, 51, 52, 62, 63, 64, 65, 66, 67, 68, 69, 70, 71, 72, 73] (by decide +kernel) (by decide +kernel)
set_option maxRecDepth 20000 in
theorem gX7_meal_X0_eat : GoodIn wsX7_meal (wsV RX7 135 RX0 yX0_eat wsX0_eat) := goodIn_app (goodIn_of _ (by decide +kernel)) ggX7_meal_X0_eat
theorem dX7_meal_0 : decode cX7_meal 0 = .ok (.aload_n 0, 1) := by decide +kernel
theorem dX7_meal_1 : decode cX7_meal 1 = .ok (.getfield 22, 3) := by decide +kernel
theorem dX7_meal_4 : decode cX7_meal 4 = .ok (.aload_n 0, 1) := by decide +kernel
theorem dX7_meal_5 : decode cX7_meal 5 = .ok (.getfield 10, 3) := by decide +kernel
theorem dX7_meal_8 : decode cX7_meal 8 = .ok (.invokevirtual 107, 3) := by decide +kernel
theorem dX7_meal_11 : decode cX7_meal 11 = .ok (.aload_n 0, 1) := by decide +kernel
theorem dX7_meal_12 : decode cX7_meal 12 = .ok (.getfield 10, 3) := by decide +kernel
theorem dX7_meal_15 : decode cX7_meal 15 = .ok (.invokevirtual 135, 3) := by decide +kernel
theorem dX7_meal_18 : decode cX7_meal 18 = .ok (.ireturn, 1) := by decide +kernel
set_option maxRecDepth 20000 in
theorem ggX7_nextDay_X1_remember : GoodIn wsX7_nextDay wsX1_remember := goodIn_r _ [7, 8, 9, 10, 11, 12, 6, 13, 14, 15, 16, 17, 18, 19, 20, 21, 22, 23, 24, 25, 26, 27, 28, 29, 30, 31, 32, 33, 34, 35, 55, 56, 57, 58, 59, 60, 61, 62, 63, 64, 65, 66, 67, 68, 69] (by decide +kernel) (by decide +kernel)
set_option maxRecDepth 20000 in
theorem gX7_nextDay_X1_remember : GoodIn wsX7_nextDay (wsV RX7 107 RX1 yX1_remember wsX1_remember) := goodIn_app (goodIn_of _ (by decide +kernel)) ggX7_nextDay_X1_remember
set_option maxRecDepth 20000 in
theorem ggX7_nextDay_X0_beginDay : GoodIn wsX7_nextDay wsX0_beginDay := goodIn_r _ [39, 20, 25, 40, 41, 42, 33, 43, 44, 45, 46, 47, 48, 35, 58, 59, 60, 61, 62, 63, 64, 65, 66, 67, 68, 69] (by decide +kernel) (by decide +kernel)
set_option maxRecDepth 20000 in
theorem gX7_nextDay_X0_beginDay : GoodIn wsX7_nextDay (wsV RX7 138 RX0 yX0_beginDay wsX0_beginDay) := goodIn_app (goodIn_of _ (by decide +kernel)) ggX7_nextDay_X0_beginDay
theorem dX7_nextDay_0 : decode cX7_nextDay 0 = .ok (.aload_n 0, 1) := by decide +kernel
theorem dX7_nextDay_1 : decode cX7_nextDay 1 = .ok (.getfield 22, 3) := by decide +kernel
theorem dX7_nextDay_4 : decode cX7_nextDay 4 = .ok (.aload_n 0, 1) := by decide +kernel
theorem dX7_nextDay_5 : decode cX7_nextDay 5 = .ok (.getfield 10, 3) := by decide +kernel
theorem dX7_nextDay_8 : decode cX7_nextDay 8 = .ok (.invokevirtual 107, 3) := by decide +kernel
theorem dX7_nextDay_11 : decode cX7_nextDay 11 = .ok (.aload_n 0, 1) := by decide +kernel
theorem dX7_nextDay_12 : decode cX7_nextDay 12 = .ok (.getfield 10, 3) := by decide +kernel
theorem dX7_nextDay_15 : decode cX7_nextDay 15 = .ok (.invokevirtual 138, 3) := by decide +kernel
theorem dX7_nextDay_18 : decode cX7_nextDay 18 = .ok (.ireturn, 1) := by decide +kernel
set_option maxRecDepth 20000 in
theorem ggX7_set_X7_isSetting : GoodIn wsX7_set wsX7_isSetting := goodIn_r _ [6, 7, 8, 5, 9] (by decide +kernel) (by decide +kernel)
set_option maxRecDepth 20000 in
theorem gX7_set_X7_isSetting : GoodIn wsX7_set (va_wsS RX7 141 yX7_isSetting wsX7_isSetting) := goodIn_app (goodIn_of _ (by decide +kernel)) ggX7_set_X7_isSetting
set_option maxRecDepth 20000 in
theorem ggX7_set_X7_requireArgument : GoodIn wsX7_set wsX7_requireArgument := goodIn_ca (goodIn_r _ [12, 13, 14] (by decide +kernel) (by decide +kernel)) (goodIn_sub (fun _ h => List.mem_cons_of_mem _ (List.mem_append_right _ h)) (by decide +kernel))
set_option maxRecDepth 20000 in
theorem gX7_set_X7_requireArgument : GoodIn wsX7_set (va_wsS RX7 47 yX7_requireArgument wsX7_requireArgument) := goodIn_app (goodIn_of _ (by decide +kernel)) ggX7_set_X7_requireArgument
set_option maxRecDepth 20000 in
theorem ggX7_set_X1_remember : GoodIn wsX7_set wsX1_remember := goodIn_r _ [19, 20, 21, 22, 23, 24, 18, 25, 26, 27, 28, 29, 30, 31, 32, 33, 34, 35, 36, 37, 38, 39, 40, 41, 42, 43, 44, 45, 46, 47, 71, 72, 73, 74, 75, 76, 77, 78, 79, 80, 81, 82, 83, 84, 85] (by decide +kernel) (by decide +kernel)
set_option maxRecDepth 20000 in
theorem gX7_set_X1_remember : GoodIn wsX7_set (wsV RX7 107 RX1 yX1_remember wsX1_remember) := goodIn_app (goodIn_of _ (by decide +kernel)) ggX7_set_X1_remember
set_option maxRecDepth 20000 in
theorem ggX7_set_X0_change : GoodIn wsX7_set wsX0_change := goodIn_r _ [51, 34, 52, 53, 54, 30, 55, 56, 57, 58, 45, 59, 60, 47, 61, 62, 63, 64, 74, 75, 76, 77, 78, 79, 80, 81, 82, 83, 84, 85] (by decide +kernel) (by decide +kernel)
set_option maxRecDepth 20000 in
theorem gX7_set_X0_change : GoodIn wsX7_set (wsV RX7 145 RX0 yX0_change wsX0_change) := goodIn_app (goodIn_of _ (by decide +kernel)) ggX7_set_X0_change
theorem dX7_set_0 : decode cX7_set 0 = .ok (.iload_n 1, 1) := by decide +kernel
theorem dX7_set_1 : decode cX7_set 1 = .ok (.iload_n 2, 1) := by decide +kernel
theorem dX7_set_2 : decode cX7_set 2 = .ok (.invokestatic 141, 3) := by decide +kernel
theorem dX7_set_5 : decode cX7_set 5 = .ok (.invokestatic 47, 3) := by decide +kernel
theorem dX7_set_8 : decode cX7_set 8 = .ok (.aload_n 0, 1) := by decide +kernel
theorem dX7_set_9 : decode cX7_set 9 = .ok (.getfield 22, 3) := by decide +kernel
theorem dX7_set_12 : decode cX7_set 12 = .ok (.aload_n 0, 1) := by decide +kernel
theorem dX7_set_13 : decode cX7_set 13 = .ok (.getfield 10, 3) := by decide +kernel
theorem dX7_set_16 : decode cX7_set 16 = .ok (.invokevirtual 107, 3) := by decide +kernel
theorem dX7_set_19 : decode cX7_set 19 = .ok (.aload_n 0, 1) := by decide +kernel
theorem dX7_set_20 : decode cX7_set 20 = .ok (.getfield 10, 3) := by decide +kernel
theorem dX7_set_23 : decode cX7_set 23 = .ok (.iload_n 1, 1) := by decide +kernel
theorem dX7_set_24 : decode cX7_set 24 = .ok (.iload_n 2, 1) := by decide +kernel
theorem dX7_set_25 : decode cX7_set 25 = .ok (.invokevirtual 145, 3) := by decide +kernel
theorem dX7_set_28 : decode cX7_set 28 = .ok (.ireturn, 1) := by decide +kernel
set_option maxRecDepth 20000 in
theorem ggX7_undo_X1_size : GoodIn wsX7_undo wsX1_size := goodIn_r _ [7, 8, 52, 53, 54] (by decide +kernel) (by decide +kernel)
set_option maxRecDepth 20000 in
theorem gX7_undo_X1_size : GoodIn wsX7_undo (wsV RX7 148 RX1 yX1_size wsX1_size) := goodIn_app (goodIn_of _ (by decide +kernel)) ggX7_undo_X1_size
set_option maxRecDepth 20000 in
theorem ggX7_undo_X7_requireState : GoodIn wsX7_undo wsX7_requireState := goodIn_ca (goodIn_r _ [12, 13, 14] (by decide +kernel) (by decide +kernel)) (goodIn_sub (fun _ h => List.mem_cons_of_mem _ (List.mem_append_right _ h)) (by decide +kernel))
set_option maxRecDepth 20000 in
theorem gX7_undo_X7_requireState : GoodIn wsX7_undo (va_wsS RX7 55 yX7_requireState wsX7_requireState) := goodIn_app (goodIn_of _ (by decide +kernel)) ggX7_undo_X7_requireState
set_option maxRecDepth 20000 in
theorem ggX7_undo_X1_takeBack : GoodIn wsX7_undo wsX1_takeBack := goodIn_r _ [18, 8, 19, 20, 21, 6, 22, 23, 24, 25, 26, 27, 28, 29, 30, 31, 32, 33, 34, 35, 36, 37, 38, 39, 40, 41, 42, 43, 44, 45, 52, 53, 54, 55, 56, 57, 58, 59, 60, 61, 62, 63, 64, 65, 66] (by decide +kernel) (by decide +kernel)
set_option maxRecDepth 20000 in
theorem gX7_undo_X1_takeBack : GoodIn wsX7_undo (wsV RX7 149 RX1 yX1_takeBack wsX1_takeBack) := goodIn_app (goodIn_of _ (by decide +kernel)) ggX7_undo_X1_takeBack
theorem dX7_undo_0 : decode cX7_undo 0 = .ok (.aload_n 0, 1) := by decide +kernel
theorem dX7_undo_1 : decode cX7_undo 1 = .ok (.getfield 22, 3) := by decide +kernel
theorem dX7_undo_4 : decode cX7_undo 4 = .ok (.invokevirtual 148, 3) := by decide +kernel
theorem dX7_undo_7 : decode cX7_undo 7 = .ok (.ifCond .le 7, 3) := by decide +kernel
theorem dX7_undo_10 : decode cX7_undo 10 = .ok (.iconst 1, 1) := by decide +kernel
theorem dX7_undo_11 : decode cX7_undo 11 = .ok (.goto 4, 3) := by decide +kernel
theorem dX7_undo_14 : decode cX7_undo 14 = .ok (.iconst 0, 1) := by decide +kernel
theorem dX7_undo_15 : decode cX7_undo 15 = .ok (.invokestatic 55, 3) := by decide +kernel
theorem dX7_undo_18 : decode cX7_undo 18 = .ok (.aload_n 0, 1) := by decide +kernel
theorem dX7_undo_19 : decode cX7_undo 19 = .ok (.getfield 22, 3) := by decide +kernel
theorem dX7_undo_22 : decode cX7_undo 22 = .ok (.aload_n 0, 1) := by decide +kernel
theorem dX7_undo_23 : decode cX7_undo 23 = .ok (.getfield 10, 3) := by decide +kernel
theorem dX7_undo_26 : decode cX7_undo 26 = .ok (.invokevirtual 149, 3) := by decide +kernel
theorem dX7_undo_29 : decode cX7_undo 29 = .ok (.ireturn, 1) := by decide +kernel
set_option maxRecDepth 20000 in
theorem ggX7_would_X7_requireScene : GoodIn wsX7_would wsX7_requireScene := goodIn_ca (goodIn_r _ [6, 1, 7, 8, 9, 10, 11, 12, 13, 14, 5, 15, 16, 17, 105, 106, 107, 108, 109, 110, 111, 112, 113, 114, 115, 116, 117, 118, 119, 120] (by decide +kernel) (by decide +kernel)) (goodIn_sub (fun _ h => List.mem_cons_of_mem _ (List.mem_append_left _ (List.mem_append_right _ h))) (by decide +kernel))
set_option maxRecDepth 20000 in
theorem gX7_would_X7_requireScene : GoodIn wsX7_would (wsV RX7 94 RX7 yX7_requireScene wsX7_requireScene) := goodIn_app (goodIn_of _ (by decide +kernel)) ggX7_would_X7_requireScene
set_option maxRecDepth 20000 in
theorem ggX7_would_X7_isIn : GoodIn wsX7_would wsX7_isIn := goodIn_r _ [20] (by decide +kernel) (by decide +kernel)
set_option maxRecDepth 20000 in
theorem gX7_would_X7_isIn : GoodIn wsX7_would (va_wsS RX7 43 yX7_isIn wsX7_isIn) := goodIn_app (goodIn_of _ (by decide +kernel)) ggX7_would_X7_isIn
set_option maxRecDepth 20000 in
theorem ggX7_would_X7_requireArgument : GoodIn wsX7_would wsX7_requireArgument := goodIn_ca (goodIn_r _ [23, 24, 25] (by decide +kernel) (by decide +kernel)) (goodIn_sub (fun _ h => List.mem_cons_of_mem _ (List.mem_append_right _ h)) (by decide +kernel))
set_option maxRecDepth 20000 in
theorem gX7_would_X7_requireArgument : GoodIn wsX7_would (va_wsS RX7 47 yX7_requireArgument wsX7_requireArgument) := goodIn_app (goodIn_of _ (by decide +kernel)) ggX7_would_X7_requireArgument
set_option maxRecDepth 20000 in
theorem ggX7_would_X0_crowdNow : GoodIn wsX7_would wsX0_crowdNow := goodIn_r _ [29, 30, 31, 8, 9, 10, 11, 12, 32, 33, 34, 35, 36, 37, 38, 39, 40, 41, 42, 43, 44, 45, 46, 47, 48, 49, 50, 51, 52, 53, 54, 55, 56, 57, 58, 59, 60, 61, 62, 63, 64, 65, 66, 5, 67, 68, 69, 70, 71, 72, 73, 74, 75, 76, 77, 78, 79, 80, 81, 82, 111, 112, 113, 114, 115, 116, 117, 118, 119, 120, 121, 122] (by decide +kernel) (by decide +kernel)
set_option maxRecDepth 20000 in
theorem gX7_would_X0_crowdNow : GoodIn wsX7_would (wsV RX7 121 RX0 yX0_crowdNow wsX0_crowdNow) := goodIn_app (goodIn_of _ (by decide +kernel)) ggX7_would_X0_crowdNow
set_option maxRecDepth 20000 in
theorem ggX7_would_X0_wagesOf : GoodIn wsX7_would wsX0_wagesOf := goodIn_r _ [86, 68, 69, 70, 71, 72, 73, 74, 87, 88, 89, 10, 90, 30, 57, 36, 37, 38, 39, 40, 41, 42, 91, 5, 92, 111, 112, 113, 114, 115, 116, 117, 118, 119, 120, 121, 122] (by decide +kernel) (by decide +kernel)
set_option maxRecDepth 20000 in
theorem gX7_would_X0_wagesOf : GoodIn wsX7_would (wsV RX7 153 RX0 yX0_wagesOf wsX0_wagesOf) := goodIn_app (goodIn_of _ (by decide +kernel)) ggX7_would_X0_wagesOf
set_option maxRecDepth 20000 in
theorem ggX7_would_X0_penaltyCostsOf : GoodIn wsX7_would wsX0_penaltyCostsOf := goodIn_r _ [96, 51, 57, 66, 5, 67, 97, 98, 99, 10, 100, 52, 30, 36, 37, 38, 39, 40, 41, 42, 91, 92, 111, 112, 113, 114, 115, 116, 117, 118, 119, 120, 121, 122] (by decide +kernel) (by decide +kernel)
set_option maxRecDepth 20000 in
theorem gX7_would_X0_penaltyCostsOf : GoodIn wsX7_would (wsV RX7 156 RX0 yX0_penaltyCostsOf wsX0_penaltyCostsOf) := goodIn_app (goodIn_of _ (by decide +kernel)) ggX7_would_X0_penaltyCostsOf
set_option maxRecDepth 20000 in
theorem ggX7_would_X0_breaksOf : GoodIn wsX7_would wsX0_breaksOf := goodIn_r _ [104, 58, 59, 60, 10, 61, 30, 12, 36, 37, 38, 39, 40, 41, 42, 62, 63, 64, 65, 51, 52, 66, 5, 67, 68, 69, 70, 71, 72, 73, 74, 111, 112, 113, 114, 115, 116, 117, 118, 119, 120, 121, 122] (by decide +kernel) (by decide +kernel)
set_option maxRecDepth 20000 in
theorem gX7_would_X0_breaksOf : GoodIn wsX7_would (wsV RX7 159 RX0 yX0_breaksOf wsX0_breaksOf) := goodIn_app (goodIn_of _ (by decide +kernel)) ggX7_would_X0_breaksOf
theorem dX7_would_0 : decode cX7_would 0 = .ok (.aload_n 0, 1) := by decide +kernel
theorem dX7_would_1 : decode cX7_would 1 = .ok (.iload_n 1, 1) := by decide +kernel
theorem dX7_would_2 : decode cX7_would 2 = .ok (.invokevirtual 94, 3) := by decide +kernel
theorem dX7_would_5 : decode cX7_would 5 = .ok (.iload_n 2, 1) := by decide +kernel
theorem dX7_would_6 : decode cX7_would 6 = .ok (.iconst 0, 1) := by decide +kernel
theorem dX7_would_7 : decode cX7_would 7 = .ok (.iconst 3, 1) := by decide +kernel
theorem dX7_would_8 : decode cX7_would 8 = .ok (.invokestatic 43, 3) := by decide +kernel
theorem dX7_would_11 : decode cX7_would 11 = .ok (.invokestatic 47, 3) := by decide +kernel
theorem dX7_would_14 : decode cX7_would 14 = .ok (.aload_n 0, 1) := by decide +kernel
theorem dX7_would_15 : decode cX7_would 15 = .ok (.getfield 10, 3) := by decide +kernel
theorem dX7_would_18 : decode cX7_would 18 = .ok (.iload_n 1, 1) := by decide +kernel
theorem dX7_would_19 : decode cX7_would 19 = .ok (.invokevirtual 121, 3) := by decide +kernel
theorem dX7_would_22 : decode cX7_would 22 = .ok (.istore_n 3, 1) := by decide +kernel
theorem dX7_would_23 : decode cX7_would 23 = .ok (.iload_n 3, 1) := by decide +kernel
theorem dX7_would_24 : decode cX7_would 24 = .ok (.ifCond .ne 5, 3) := by decide +kernel
theorem dX7_would_27 : decode cX7_would 27 = .ok (.iconst (-1), 1) := by decide +kernel
theorem dX7_would_28 : decode cX7_would 28 = .ok (.ireturn, 1) := by decide +kernel
theorem dX7_would_29 : decode cX7_would 29 = .ok (.iload_n 2, 1) := by decide +kernel
theorem dX7_would_30 : decode cX7_would 30 = .ok (.tableswitch 48 0 2 #[26, 28, 38], 26) := by decide +kernel
theorem dX7_would_56 : decode cX7_would 56 = .ok (.iload_n 3, 1) := by decide +kernel
theorem dX7_would_57 : decode cX7_would 57 = .ok (.ireturn, 1) := by decide +kernel
theorem dX7_would_58 : decode cX7_would 58 = .ok (.aload_n 0, 1) := by decide +kernel
theorem dX7_would_59 : decode cX7_would 59 = .ok (.getfield 10, 3) := by decide +kernel
theorem dX7_would_62 : decode cX7_would 62 = .ok (.iload_n 1, 1) := by decide +kernel
theorem dX7_would_63 : decode cX7_would 63 = .ok (.iload_n 3, 1) := by decide +kernel
theorem dX7_would_64 : decode cX7_would 64 = .ok (.invokevirtual 153, 3) := by decide +kernel
theorem dX7_would_67 : decode cX7_would 67 = .ok (.ireturn, 1) := by decide +kernel
theorem dX7_would_68 : decode cX7_would 68 = .ok (.aload_n 0, 1) := by decide +kernel
theorem dX7_would_69 : decode cX7_would 69 = .ok (.getfield 10, 3) := by decide +kernel
theorem dX7_would_72 : decode cX7_would 72 = .ok (.iload_n 1, 1) := by decide +kernel
theorem dX7_would_73 : decode cX7_would 73 = .ok (.iload_n 3, 1) := by decide +kernel
theorem dX7_would_74 : decode cX7_would 74 = .ok (.invokevirtual 156, 3) := by decide +kernel
theorem dX7_would_77 : decode cX7_would 77 = .ok (.ireturn, 1) := by decide +kernel
theorem dX7_would_78 : decode cX7_would 78 = .ok (.aload_n 0, 1) := by decide +kernel
theorem dX7_would_79 : decode cX7_would 79 = .ok (.getfield 10, 3) := by decide +kernel
theorem dX7_would_82 : decode cX7_would 82 = .ok (.iload_n 1, 1) := by decide +kernel
theorem dX7_would_83 : decode cX7_would 83 = .ok (.iload_n 3, 1) := by decide +kernel
theorem dX7_would_84 : decode cX7_would 84 = .ok (.invokevirtual 159, 3) := by decide +kernel
theorem dX7_would_87 : decode cX7_would 87 = .ok (.ireturn, 1) := by decide +kernel
set_option maxRecDepth 20000 in
theorem ggX7_why_X7_requireScene : GoodIn wsX7_why wsX7_requireScene := goodIn_ca (goodIn_r _ [6, 1, 7, 8, 9, 10, 11, 12, 13, 14, 5, 15, 16, 17, 87, 88, 89, 90, 91, 92, 93, 94, 95, 96, 97, 98, 99, 100, 101, 102] (by decide +kernel) (by decide +kernel)) (goodIn_sub (fun _ h => List.mem_cons_of_mem _ (List.mem_append_right _ h)) (by decide +kernel))
set_option maxRecDepth 20000 in
theorem gX7_why_X7_requireScene : GoodIn wsX7_why (wsV RX7 94 RX7 yX7_requireScene wsX7_requireScene) := goodIn_app (goodIn_of _ (by decide +kernel)) ggX7_why_X7_requireScene
set_option maxRecDepth 20000 in
theorem ggX7_why_X7_requireExtra : GoodIn wsX7_why wsX7_requireExtra := goodIn_ca (goodIn_r _ [21, 1, 22, 23, 24, 10, 25, 26, 13, 14, 5, 15, 16, 17, 87, 88, 89, 90, 91, 92, 93, 94, 95, 96, 97, 98, 99, 100, 101, 102] (by decide +kernel) (by decide +kernel)) (goodIn_sub (fun _ h => List.mem_cons_of_mem _ (List.mem_append_right _ h)) (by decide +kernel))
set_option maxRecDepth 20000 in
theorem gX7_why_X7_requireExtra : GoodIn wsX7_why (wsV RX7 86 RX7 yX7_requireExtra wsX7_requireExtra) := goodIn_app (goodIn_of _ (by decide +kernel)) ggX7_why_X7_requireExtra
set_option maxRecDepth 20000 in
theorem ggX7_why_X0_reason : GoodIn wsX7_why wsX0_reason := goodIn_r _ [30, 31, 32, 33, 34, 35, 36, 37, 38, 39, 40, 41, 10, 42, 43, 26, 44, 5, 45, 46, 47, 48, 49, 50, 51, 52, 53, 54, 12, 55, 56, 57, 58, 59, 60, 61, 62, 63, 8, 9, 11, 64, 65, 66, 67, 68, 69, 70, 71, 72, 73, 74, 75, 76, 77, 78, 79, 80, 81, 82, 83, 84, 85, 86, 93, 94, 95, 96, 97, 98, 99, 100, 101, 102, 103, 104] (by decide +kernel) (by decide +kernel)
set_option maxRecDepth 20000 in
theorem gX7_why_X0_reason : GoodIn wsX7_why (wsV RX7 162 RX0 yX0_reason wsX0_reason) := goodIn_app (goodIn_of _ (by decide +kernel)) ggX7_why_X0_reason
theorem dX7_why_0 : decode cX7_why 0 = .ok (.aload_n 0, 1) := by decide +kernel
theorem dX7_why_1 : decode cX7_why 1 = .ok (.iload_n 1, 1) := by decide +kernel
theorem dX7_why_2 : decode cX7_why 2 = .ok (.invokevirtual 94, 3) := by decide +kernel
theorem dX7_why_5 : decode cX7_why 5 = .ok (.aload_n 0, 1) := by decide +kernel
theorem dX7_why_6 : decode cX7_why 6 = .ok (.iload_n 2, 1) := by decide +kernel
theorem dX7_why_7 : decode cX7_why 7 = .ok (.invokevirtual 86, 3) := by decide +kernel
theorem dX7_why_10 : decode cX7_why 10 = .ok (.aload_n 0, 1) := by decide +kernel
theorem dX7_why_11 : decode cX7_why 11 = .ok (.getfield 10, 3) := by decide +kernel
theorem dX7_why_14 : decode cX7_why 14 = .ok (.iload_n 1, 1) := by decide +kernel
theorem dX7_why_15 : decode cX7_why 15 = .ok (.iload_n 2, 1) := by decide +kernel
theorem dX7_why_16 : decode cX7_why 16 = .ok (.invokevirtual 162, 3) := by decide +kernel
theorem dX7_why_19 : decode cX7_why 19 = .ok (.ireturn, 1) := by decide +kernel
set_option maxRecDepth 20000 in
theorem ggX7_cheapest_X0_crowdNow : GoodIn wsX7_cheapest wsX0_crowdNow := goodIn_r _ [6, 7, 8, 9, 10, 5, 11, 12, 13, 14, 15, 16, 17, 18, 19, 20, 21, 22, 23, 24, 25, 26, 27, 28, 29, 30, 31, 32, 33, 34, 35, 36, 37, 38, 39, 40, 41, 42, 43, 44, 45, 46, 47, 48, 49, 50, 51, 52, 53, 54, 55, 56, 57, 58, 59, 60, 61, 62, 63, 64, 93, 94, 95, 96, 97, 98, 99, 100, 101, 102, 103, 104] (by decide +kernel) (by decide +kernel)
set_option maxRecDepth 20000 in
theorem gX7_cheapest_X0_crowdNow : GoodIn wsX7_cheapest (wsV RX7 121 RX0 yX0_crowdNow wsX0_crowdNow) := goodIn_app (goodIn_of _ (by decide +kernel)) ggX7_cheapest_X0_crowdNow
set_option maxRecDepth 20000 in
theorem ggX7_cheapest_X0_costOf : GoodIn wsX7_cheapest wsX0_costOf := goodIn_r _ [68, 69, 70, 71, 5, 72, 50, 51, 52, 53, 54, 55, 56, 73, 74, 75, 76, 7, 38, 17, 18, 19, 20, 21, 22, 23, 77, 48, 78, 79, 80, 81, 82, 32, 47, 49, 83, 84, 85, 86, 33, 93, 94, 95, 96, 97, 98, 99, 100, 101, 102, 103, 104] (by decide +kernel) (by decide +kernel)
set_option maxRecDepth 20000 in
theorem gX7_cheapest_X0_costOf : GoodIn wsX7_cheapest (wsV RX7 165 RX0 yX0_costOf wsX0_costOf) := goodIn_app (goodIn_of _ (by decide +kernel)) ggX7_cheapest_X0_costOf
theorem dX7_cheapest_0 : decode cX7_cheapest 0 = .ok (.iconst (-1), 1) := by decide +kernel
theorem dX7_cheapest_1 : decode cX7_cheapest 1 = .ok (.istore_n 1, 1) := by decide +kernel
theorem dX7_cheapest_2 : decode cX7_cheapest 2 = .ok (.iconst 0, 1) := by decide +kernel
theorem dX7_cheapest_3 : decode cX7_cheapest 3 = .ok (.istore_n 2, 1) := by decide +kernel
theorem dX7_cheapest_4 : decode cX7_cheapest 4 = .ok (.iconst 0, 1) := by decide +kernel
theorem dX7_cheapest_5 : decode cX7_cheapest 5 = .ok (.istore_n 3, 1) := by decide +kernel
theorem dX7_cheapest_6 : decode cX7_cheapest 6 = .ok (.iload_n 3, 1) := by decide +kernel
theorem dX7_cheapest_7 : decode cX7_cheapest 7 = .ok (.bipush 10, 2) := by decide +kernel
theorem dX7_cheapest_9 : decode cX7_cheapest 9 = .ok (.if_icmp .ge 52, 3) := by decide +kernel
theorem dX7_cheapest_12 : decode cX7_cheapest 12 = .ok (.aload_n 0, 1) := by decide +kernel
theorem dX7_cheapest_13 : decode cX7_cheapest 13 = .ok (.getfield 10, 3) := by decide +kernel
theorem dX7_cheapest_16 : decode cX7_cheapest 16 = .ok (.iload_n 3, 1) := by decide +kernel
theorem dX7_cheapest_17 : decode cX7_cheapest 17 = .ok (.invokevirtual 121, 3) := by decide +kernel
theorem dX7_cheapest_20 : decode cX7_cheapest 20 = .ok (.istore 4, 2) := by decide +kernel
theorem dX7_cheapest_22 : decode cX7_cheapest 22 = .ok (.iload 4, 2) := by decide +kernel
theorem dX7_cheapest_24 : decode cX7_cheapest 24 = .ok (.ifCond .eq 31, 3) := by decide +kernel
theorem dX7_cheapest_27 : decode cX7_cheapest 27 = .ok (.aload_n 0, 1) := by decide +kernel
theorem dX7_cheapest_28 : decode cX7_cheapest 28 = .ok (.getfield 10, 3) := by decide +kernel
theorem dX7_cheapest_31 : decode cX7_cheapest 31 = .ok (.iload_n 3, 1) := by decide +kernel
theorem dX7_cheapest_32 : decode cX7_cheapest 32 = .ok (.iload 4, 2) := by decide +kernel
theorem dX7_cheapest_34 : decode cX7_cheapest 34 = .ok (.invokevirtual 165, 3) := by decide +kernel
theorem dX7_cheapest_37 : decode cX7_cheapest 37 = .ok (.istore 5, 2) := by decide +kernel
theorem dX7_cheapest_39 : decode cX7_cheapest 39 = .ok (.iload_n 1, 1) := by decide +kernel
theorem dX7_cheapest_40 : decode cX7_cheapest 40 = .ok (.iconst (-1), 1) := by decide +kernel
theorem dX7_cheapest_41 : decode cX7_cheapest 41 = .ok (.if_icmp .eq 9, 3) := by decide +kernel
theorem dX7_cheapest_44 : decode cX7_cheapest 44 = .ok (.iload 5, 2) := by decide +kernel
theorem dX7_cheapest_46 : decode cX7_cheapest 46 = .ok (.iload_n 2, 1) := by decide +kernel
theorem dX7_cheapest_47 : decode cX7_cheapest 47 = .ok (.if_icmp .ge 8, 3) := by decide +kernel
theorem dX7_cheapest_50 : decode cX7_cheapest 50 = .ok (.iload_n 3, 1) := by decide +kernel
theorem dX7_cheapest_51 : decode cX7_cheapest 51 = .ok (.istore_n 1, 1) := by decide +kernel
theorem dX7_cheapest_52 : decode cX7_cheapest 52 = .ok (.iload 5, 2) := by decide +kernel
theorem dX7_cheapest_54 : decode cX7_cheapest 54 = .ok (.istore_n 2, 1) := by decide +kernel
theorem dX7_cheapest_55 : decode cX7_cheapest 55 = .ok (.iinc 3 1, 3) := by decide +kernel
theorem dX7_cheapest_58 : decode cX7_cheapest 58 = .ok (.goto (-52), 3) := by decide +kernel
theorem dX7_cheapest_61 : decode cX7_cheapest 61 = .ok (.iload_n 1, 1) := by decide +kernel
theorem dX7_cheapest_62 : decode cX7_cheapest 62 = .ok (.ireturn, 1) := by decide +kernel
set_option maxRecDepth 20000 in
theorem ggX7_lacks_X7_requireScene : GoodIn wsX7_lacks wsX7_requireScene := goodIn_ca (goodIn_r _ [6, 1, 7, 8, 9, 10, 11, 12, 13, 14, 5, 15, 16, 17, 70, 71, 72, 73, 74, 75, 76, 77, 78, 79, 80, 81, 82, 83, 84, 85] (by decide +kernel) (by decide +kernel)) (goodIn_sub (fun _ h => List.mem_cons_of_mem _ (List.mem_append_right _ h)) (by decide +kernel))
set_option maxRecDepth 20000 in
theorem gX7_lacks_X7_requireScene : GoodIn wsX7_lacks (wsV RX7 94 RX7 yX7_requireScene wsX7_requireScene) := goodIn_app (goodIn_of _ (by decide +kernel)) ggX7_lacks_X7_requireScene
set_option maxRecDepth 20000 in
theorem ggX7_lacks_X0_lackOf : GoodIn wsX7_lacks wsX0_lackOf := goodIn_r _ [21, 22, 23, 24, 25, 26, 27, 28, 29, 30, 31, 32, 10, 33, 34, 35, 36, 37, 38, 39, 40, 41, 42, 43, 44, 45, 46, 47, 48, 12, 49, 50, 51, 52, 53, 5, 54, 55, 56, 57, 58, 59, 60, 61, 62, 63, 64, 65, 66, 67, 68, 69, 76, 77, 78, 79, 80, 81, 82, 83, 84, 85, 86, 87] (by decide +kernel) (by decide +kernel)
set_option maxRecDepth 20000 in
theorem gX7_lacks_X0_lackOf : GoodIn wsX7_lacks (wsV RX7 168 RX0 yX0_lackOf wsX0_lackOf) := goodIn_app (goodIn_of _ (by decide +kernel)) ggX7_lacks_X0_lackOf
theorem dX7_lacks_0 : decode cX7_lacks 0 = .ok (.aload_n 0, 1) := by decide +kernel
theorem dX7_lacks_1 : decode cX7_lacks 1 = .ok (.iload_n 1, 1) := by decide +kernel
theorem dX7_lacks_2 : decode cX7_lacks 2 = .ok (.invokevirtual 94, 3) := by decide +kernel
theorem dX7_lacks_5 : decode cX7_lacks 5 = .ok (.aload_n 0, 1) := by decide +kernel
theorem dX7_lacks_6 : decode cX7_lacks 6 = .ok (.getfield 10, 3) := by decide +kernel
theorem dX7_lacks_9 : decode cX7_lacks 9 = .ok (.iload_n 1, 1) := by decide +kernel
theorem dX7_lacks_10 : decode cX7_lacks 10 = .ok (.invokevirtual 168, 3) := by decide +kernel
theorem dX7_lacks_13 : decode cX7_lacks 13 = .ok (.ireturn, 1) := by decide +kernel
set_option maxRecDepth 20000 in
theorem ggX7_order_X7_requireScene : GoodIn wsX7_order wsX7_requireScene := goodIn_ca (goodIn_r _ [5, 6, 7, 8, 9, 10, 11, 12, 13, 14, 4, 15, 16, 17, 142, 143, 144, 145, 146, 147, 148, 149, 150, 151, 152, 153, 154, 155, 156, 157] (by decide +kernel) (by decide +kernel)) (goodIn_sub (fun _ h => List.mem_cons_of_mem _ (List.mem_append_left _ (List.mem_append_right _ h))) (by decide +kernel))
set_option maxRecDepth 20000 in
theorem gX7_order_X7_requireScene : GoodIn wsX7_order (wsV RX7 94 RX7 yX7_requireScene wsX7_requireScene) := goodIn_app (goodIn_of _ (by decide +kernel)) ggX7_order_X7_requireScene
set_option maxRecDepth 20000 in
theorem ggX7_order_X7_requireArgument : GoodIn wsX7_order wsX7_requireArgument := goodIn_ca (goodIn_r _ [20, 21, 22] (by decide +kernel) (by decide +kernel)) (goodIn_sub (fun _ h => List.mem_cons_of_mem _ (List.mem_append_right _ h)) (by decide +kernel))
set_option maxRecDepth 20000 in
theorem gX7_order_X7_requireArgument : GoodIn wsX7_order (va_wsS RX7 47 yX7_requireArgument wsX7_requireArgument) := goodIn_app (goodIn_of _ (by decide +kernel)) ggX7_order_X7_requireArgument
set_option maxRecDepth 20000 in
theorem ggX7_order_X7_costInTurn : GoodIn wsX7_order wsX7_costInTurn := goodIn_r _ [26, 27, 6, 28, 29, 30, 10, 31, 32, 33, 34, 35, 12, 36, 37, 38, 39, 40, 41, 42, 43, 44, 45, 46, 47, 48, 49, 50, 51, 52, 53, 54, 55, 8, 9, 11, 56, 57, 58, 59, 60, 61, 62, 63, 64, 65, 66, 67, 68, 69, 70, 71, 72, 73, 74, 75, 76, 77, 78, 79, 80, 81, 82, 83, 84, 85, 4, 86, 87, 88, 89, 90, 91, 92, 93, 94, 95, 96, 97, 98, 99, 100, 101, 102, 103, 104, 105, 106, 107, 108, 109, 110, 111, 112, 113, 114, 115, 116, 117, 118, 119, 120, 121, 122, 123, 124, 125, 126, 127, 128, 129, 130, 131, 132, 133, 134, 135, 136, 137, 138, 139, 140, 141, 142, 143, 144, 145, 146, 147, 148, 149, 150, 151, 152, 153, 154, 155, 156, 157, 158, 159] (by decide +kernel) (by decide +kernel)
set_option maxRecDepth 20000 in
theorem gX7_order_X7_costInTurn : GoodIn wsX7_order (wsV RX7 171 RX7 yX7_costInTurn wsX7_costInTurn) := goodIn_app (goodIn_of _ (by decide +kernel)) ggX7_order_X7_costInTurn
theorem dX7_order_0 : decode cX7_order 0 = .ok (.aload_n 0, 1) := by decide +kernel
theorem dX7_order_1 : decode cX7_order 1 = .ok (.iload_n 1, 1) := by decide +kernel
theorem dX7_order_2 : decode cX7_order 2 = .ok (.invokevirtual 94, 3) := by decide +kernel
theorem dX7_order_5 : decode cX7_order 5 = .ok (.aload_n 0, 1) := by decide +kernel
theorem dX7_order_6 : decode cX7_order 6 = .ok (.iload_n 2, 1) := by decide +kernel
theorem dX7_order_7 : decode cX7_order 7 = .ok (.invokevirtual 94, 3) := by decide +kernel
theorem dX7_order_10 : decode cX7_order 10 = .ok (.iload_n 1, 1) := by decide +kernel
theorem dX7_order_11 : decode cX7_order 11 = .ok (.iload_n 2, 1) := by decide +kernel
theorem dX7_order_12 : decode cX7_order 12 = .ok (.if_icmp .eq 7, 3) := by decide +kernel
theorem dX7_order_15 : decode cX7_order 15 = .ok (.iconst 1, 1) := by decide +kernel
theorem dX7_order_16 : decode cX7_order 16 = .ok (.goto 4, 3) := by decide +kernel
theorem dX7_order_19 : decode cX7_order 19 = .ok (.iconst 0, 1) := by decide +kernel
theorem dX7_order_20 : decode cX7_order 20 = .ok (.invokestatic 47, 3) := by decide +kernel
theorem dX7_order_23 : decode cX7_order 23 = .ok (.aload_n 0, 1) := by decide +kernel
theorem dX7_order_24 : decode cX7_order 24 = .ok (.iload_n 1, 1) := by decide +kernel
theorem dX7_order_25 : decode cX7_order 25 = .ok (.iload_n 2, 1) := by decide +kernel
theorem dX7_order_26 : decode cX7_order 26 = .ok (.invokevirtual 171, 3) := by decide +kernel
theorem dX7_order_29 : decode cX7_order 29 = .ok (.istore_n 3, 1) := by decide +kernel
theorem dX7_order_30 : decode cX7_order 30 = .ok (.aload_n 0, 1) := by decide +kernel
theorem dX7_order_31 : decode cX7_order 31 = .ok (.iload_n 2, 1) := by decide +kernel
theorem dX7_order_32 : decode cX7_order 32 = .ok (.iload_n 1, 1) := by decide +kernel
theorem dX7_order_33 : decode cX7_order 33 = .ok (.invokevirtual 171, 3) := by decide +kernel
theorem dX7_order_36 : decode cX7_order 36 = .ok (.istore 4, 2) := by decide +kernel
theorem dX7_order_38 : decode cX7_order 38 = .ok (.iload_n 3, 1) := by decide +kernel
theorem dX7_order_39 : decode cX7_order 39 = .ok (.iconst (-1), 1) := by decide +kernel
theorem dX7_order_40 : decode cX7_order 40 = .ok (.if_icmp .eq 9, 3) := by decide +kernel
theorem dX7_order_43 : decode cX7_order 43 = .ok (.iload 4, 2) := by decide +kernel
theorem dX7_order_45 : decode cX7_order 45 = .ok (.iconst (-1), 1) := by decide +kernel
theorem dX7_order_46 : decode cX7_order 46 = .ok (.if_icmp .ne 5, 3) := by decide +kernel
theorem dX7_order_49 : decode cX7_order 49 = .ok (.iconst (-1), 1) := by decide +kernel
theorem dX7_order_50 : decode cX7_order 50 = .ok (.ireturn, 1) := by decide +kernel
theorem dX7_order_51 : decode cX7_order 51 = .ok (.iload_n 3, 1) := by decide +kernel
theorem dX7_order_52 : decode cX7_order 52 = .ok (.iload 4, 2) := by decide +kernel
theorem dX7_order_54 : decode cX7_order 54 = .ok (.if_icmp .ne 5, 3) := by decide +kernel
theorem dX7_order_57 : decode cX7_order 57 = .ok (.iconst 2, 1) := by decide +kernel
theorem dX7_order_58 : decode cX7_order 58 = .ok (.ireturn, 1) := by decide +kernel
theorem dX7_order_59 : decode cX7_order 59 = .ok (.iload_n 3, 1) := by decide +kernel
theorem dX7_order_60 : decode cX7_order 60 = .ok (.iload 4, 2) := by decide +kernel
theorem dX7_order_62 : decode cX7_order 62 = .ok (.if_icmp .ge 7, 3) := by decide +kernel
theorem dX7_order_65 : decode cX7_order 65 = .ok (.iconst 0, 1) := by decide +kernel
theorem dX7_order_66 : decode cX7_order 66 = .ok (.goto 4, 3) := by decide +kernel
theorem dX7_order_69 : decode cX7_order 69 = .ok (.iconst 1, 1) := by decide +kernel
theorem dX7_order_70 : decode cX7_order 70 = .ok (.ireturn, 1) := by decide +kernel
set_option maxRecDepth 20000 in
theorem ggX7_runScript_X7_isIn : GoodIn wsX7_runScript wsX7_isIn := goodIn_r _ [6] (by decide +kernel) (by decide +kernel)
set_option maxRecDepth 20000 in
theorem gX7_runScript_X7_isIn : GoodIn wsX7_runScript (va_wsS RX7 43 yX7_isIn wsX7_isIn) := goodIn_app (goodIn_of _ (by decide +kernel)) ggX7_runScript_X7_isIn
set_option maxRecDepth 20000 in
theorem ggX7_runScript_X7_requireArgument : GoodIn wsX7_runScript wsX7_requireArgument := goodIn_ca (goodIn_r _ [9, 10, 11] (by decide +kernel) (by decide +kernel)) (goodIn_sub (fun _ h => List.mem_cons_of_mem _ (List.mem_append_right _ h)) (by decide +kernel))
set_option maxRecDepth 20000 in
theorem gX7_runScript_X7_requireArgument : GoodIn wsX7_runScript (va_wsS RX7 47 yX7_requireArgument wsX7_requireArgument) := goodIn_app (goodIn_of _ (by decide +kernel)) ggX7_runScript_X7_requireArgument
set_option maxRecDepth 20000 in
theorem ggX7_runScript_X7_groupUnit : GoodIn wsX7_runScript wsX7_groupUnit := goodIn_r _ [14, 15] (by decide +kernel) (by decide +kernel)
set_option maxRecDepth 20000 in
theorem gX7_runScript_X7_groupUnit : GoodIn wsX7_runScript (va_wsS RX7 174 yX7_groupUnit wsX7_groupUnit) := goodIn_app (goodIn_of _ (by decide +kernel)) ggX7_runScript_X7_groupUnit
set_option maxRecDepth 20000 in
theorem ggX7_runScript_X0_copy : GoodIn wsX7_runScript wsX0_copy := goodIn_r _ [20, 21, 22, 23, 24, 25, 26, 27, 28, 29, 30, 31, 32, 33, 34, 35, 36, 206, 207, 208, 209, 210, 211, 212, 213, 214, 215, 216, 217] (by decide +kernel) (by decide +kernel)
set_option maxRecDepth 20000 in
theorem gX7_runScript_X0_copy : GoodIn wsX7_runScript (wsV RX7 178 RX0 yX0_copy wsX0_copy) := goodIn_app (goodIn_of _ (by decide +kernel)) ggX7_runScript_X0_copy
set_option maxRecDepth 20000 in
theorem ggX7_runScript_X7_groupOf : GoodIn wsX7_runScript wsX7_groupOf := goodIn_r _ [39, 15] (by decide +kernel) (by decide +kernel)
set_option maxRecDepth 20000 in
theorem gX7_runScript_X7_groupOf : GoodIn wsX7_runScript (va_wsS RX7 181 yX7_groupOf wsX7_groupOf) := goodIn_app (goodIn_of _ (by decide +kernel)) ggX7_runScript_X7_groupOf
set_option maxRecDepth 20000 in
theorem ggX7_runScript_X2_succeeds : GoodIn wsX7_runScript wsX2_succeeds := goodIn_r _ [43, 44, 45, 46, 19, 47, 48, 49, 50, 51, 22, 52, 53, 54, 55, 25, 56, 57, 58, 59, 60, 61, 62, 34, 63, 64, 36, 65, 66, 67, 68, 69, 70, 71, 72, 24, 21, 73, 74, 75, 76, 23, 77, 78, 79, 80, 81, 82, 83, 84, 85, 5, 86, 87, 88, 89, 90, 91, 92, 93, 94, 95, 96, 97, 98, 99, 100, 101, 102, 103, 104, 105, 27, 30, 106, 107, 108, 109, 110, 111, 112, 113, 114, 115, 116, 117, 118, 119, 120, 121, 122, 123, 29, 28, 124, 125, 126, 127, 128, 129, 130, 131, 132, 133, 134, 135, 136, 137, 138, 139, 140, 141, 142, 143, 144, 145, 146, 147, 148, 149, 26, 150, 151, 152, 153, 154, 155, 156, 157, 158, 159, 160, 161, 162, 163, 164, 165, 166, 167, 42, 168, 169, 170, 3, 4, 6, 171, 172, 173, 174, 175, 176, 177, 178, 179, 180, 181, 182, 183, 184, 185, 186, 187, 188, 189, 190, 191, 192, 193, 194, 195, 196, 197, 198, 199, 206, 207, 208, 209, 210, 211, 212, 213, 214, 215, 216, 217] (by decide +kernel) (by decide +kernel)
set_option maxRecDepth 20000 in
theorem gX7_runScript_X2_succeeds : GoodIn wsX7_runScript (va_wsS RX7 185 yX2_succeeds wsX2_succeeds) := goodIn_app (goodIn_of _ (by decide +kernel)) ggX7_runScript_X2_succeeds
theorem dX7_runScript_0 : decode cX7_runScript 0 = .ok (.iload_n 1, 1) := by decide +kernel
theorem dX7_runScript_1 : decode cX7_runScript 1 = .ok (.iconst 1, 1) := by decide +kernel
theorem dX7_runScript_2 : decode cX7_runScript 2 = .ok (.iconst 3, 1) := by decide +kernel
theorem dX7_runScript_3 : decode cX7_runScript 3 = .ok (.invokestatic 43, 3) := by decide +kernel
theorem dX7_runScript_6 : decode cX7_runScript 6 = .ok (.invokestatic 47, 3) := by decide +kernel
theorem dX7_runScript_9 : decode cX7_runScript 9 = .ok (.lload_n 2, 1) := by decide +kernel
theorem dX7_runScript_10 : decode cX7_runScript 10 = .ok (.lconst 0, 1) := by decide +kernel
theorem dX7_runScript_11 : decode cX7_runScript 11 = .ok (.lcmp, 1) := by decide +kernel
theorem dX7_runScript_12 : decode cX7_runScript 12 = .ok (.ifCond .lt 16, 3) := by decide +kernel
theorem dX7_runScript_15 : decode cX7_runScript 15 = .ok (.lload_n 2, 1) := by decide +kernel
theorem dX7_runScript_16 : decode cX7_runScript 16 = .ok (.iload_n 1, 1) := by decide +kernel
theorem dX7_runScript_17 : decode cX7_runScript 17 = .ok (.invokestatic 174, 3) := by decide +kernel
theorem dX7_runScript_20 : decode cX7_runScript 20 = .ok (.lcmp, 1) := by decide +kernel
theorem dX7_runScript_21 : decode cX7_runScript 21 = .ok (.ifCond .ge 7, 3) := by decide +kernel
theorem dX7_runScript_24 : decode cX7_runScript 24 = .ok (.iconst 1, 1) := by decide +kernel
theorem dX7_runScript_25 : decode cX7_runScript 25 = .ok (.goto 4, 3) := by decide +kernel
theorem dX7_runScript_28 : decode cX7_runScript 28 = .ok (.iconst 0, 1) := by decide +kernel
theorem dX7_runScript_29 : decode cX7_runScript 29 = .ok (.invokestatic 47, 3) := by decide +kernel
theorem dX7_runScript_32 : decode cX7_runScript 32 = .ok (.aload_n 0, 1) := by decide +kernel
theorem dX7_runScript_33 : decode cX7_runScript 33 = .ok (.getfield 16, 3) := by decide +kernel
theorem dX7_runScript_36 : decode cX7_runScript 36 = .ok (.aload_n 0, 1) := by decide +kernel
theorem dX7_runScript_37 : decode cX7_runScript 37 = .ok (.getfield 10, 3) := by decide +kernel
theorem dX7_runScript_40 : decode cX7_runScript 40 = .ok (.invokevirtual 178, 3) := by decide +kernel
theorem dX7_runScript_43 : decode cX7_runScript 43 = .ok (.iconst 0, 1) := by decide +kernel
theorem dX7_runScript_44 : decode cX7_runScript 44 = .ok (.istore 4, 2) := by decide +kernel
theorem dX7_runScript_46 : decode cX7_runScript 46 = .ok (.iload 4, 2) := by decide +kernel
theorem dX7_runScript_48 : decode cX7_runScript 48 = .ok (.iload_n 1, 1) := by decide +kernel
theorem dX7_runScript_49 : decode cX7_runScript 49 = .ok (.if_icmp .ge 42, 3) := by decide +kernel
theorem dX7_runScript_52 : decode cX7_runScript 52 = .ok (.iload 4, 2) := by decide +kernel
theorem dX7_runScript_54 : decode cX7_runScript 54 = .ok (.iconst 3, 1) := by decide +kernel
theorem dX7_runScript_55 : decode cX7_runScript 55 = .ok (.if_icmp .ge 36, 3) := by decide +kernel
theorem dX7_runScript_58 : decode cX7_runScript 58 = .ok (.lload_n 2, 1) := by decide +kernel
theorem dX7_runScript_59 : decode cX7_runScript 59 = .ok (.iload_n 1, 1) := by decide +kernel
theorem dX7_runScript_60 : decode cX7_runScript 60 = .ok (.iconst 1, 1) := by decide +kernel
theorem dX7_runScript_61 : decode cX7_runScript 61 = .ok (.isub, 1) := by decide +kernel
theorem dX7_runScript_62 : decode cX7_runScript 62 = .ok (.iload 4, 2) := by decide +kernel
theorem dX7_runScript_64 : decode cX7_runScript 64 = .ok (.isub, 1) := by decide +kernel
theorem dX7_runScript_65 : decode cX7_runScript 65 = .ok (.invokestatic 181, 3) := by decide +kernel
theorem dX7_runScript_68 : decode cX7_runScript 68 = .ok (.istore 5, 2) := by decide +kernel
theorem dX7_runScript_70 : decode cX7_runScript 70 = .ok (.aload_n 0, 1) := by decide +kernel
theorem dX7_runScript_71 : decode cX7_runScript 71 = .ok (.getfield 16, 3) := by decide +kernel
theorem dX7_runScript_74 : decode cX7_runScript 74 = .ok (.iload 5, 2) := by decide +kernel
theorem dX7_runScript_76 : decode cX7_runScript 76 = .ok (.invokestatic 185, 3) := by decide +kernel
theorem dX7_runScript_79 : decode cX7_runScript 79 = .ok (.ifCond .ne 6, 3) := by decide +kernel
theorem dX7_runScript_82 : decode cX7_runScript 82 = .ok (.iload 4, 2) := by decide +kernel
theorem dX7_runScript_84 : decode cX7_runScript 84 = .ok (.ireturn, 1) := by decide +kernel
theorem dX7_runScript_85 : decode cX7_runScript 85 = .ok (.iinc 4 1, 3) := by decide +kernel
theorem dX7_runScript_88 : decode cX7_runScript 88 = .ok (.goto (-42), 3) := by decide +kernel
theorem dX7_runScript_91 : decode cX7_runScript 91 = .ok (.iconst (-1), 1) := by decide +kernel
theorem dX7_runScript_92 : decode cX7_runScript 92 = .ok (.ireturn, 1) := by decide +kernel
set_option maxRecDepth 20000 in
theorem ggX7_simulate_X7_isIn : GoodIn wsX7_simulate wsX7_isIn := goodIn_r _ [12] (by decide +kernel) (by decide +kernel)
set_option maxRecDepth 20000 in
theorem gX7_simulate_X7_isIn : GoodIn wsX7_simulate (va_wsS RX7 43 yX7_isIn wsX7_isIn) := goodIn_app (goodIn_of _ (by decide +kernel)) ggX7_simulate_X7_isIn
set_option maxRecDepth 20000 in
theorem ggX7_simulate_X7_requireArgument : GoodIn wsX7_simulate wsX7_requireArgument := goodIn_ca (goodIn_r _ [15, 16, 17] (by decide +kernel) (by decide +kernel)) (goodIn_sub (fun _ h => List.mem_cons_of_mem _ (List.mem_append_right _ h)) (by decide +kernel))
set_option maxRecDepth 20000 in
theorem gX7_simulate_X7_requireArgument : GoodIn wsX7_simulate (va_wsS RX7 47 yX7_requireArgument wsX7_requireArgument) := goodIn_app (goodIn_of _ (by decide +kernel)) ggX7_simulate_X7_requireArgument
set_option maxRecDepth 20000 in
theorem ggX7_simulate_X0_copy : GoodIn wsX7_simulate wsX0_copy := goodIn_r _ [22, 23, 24, 25, 26, 27, 28, 29, 30, 31, 32, 33, 34, 35, 36, 37, 38, 187, 188, 189, 190, 191, 192, 193, 194, 195, 196, 197, 198] (by decide +kernel) (by decide +kernel)
set_option maxRecDepth 20000 in
theorem gX7_simulate_X0_copy : GoodIn wsX7_simulate (wsV RX7 178 RX0 yX0_copy wsX0_copy) := goodIn_app (goodIn_of _ (by decide +kernel)) ggX7_simulate_X0_copy
set_option maxRecDepth 20000 in
theorem ggX7_simulate_X3_turn : GoodIn wsX7_simulate wsX3_turn := goodIn_r _ [42, 43, 44, 45, 21, 46, 26, 23, 47, 48, 49, 50, 51, 52, 53, 36, 54, 55, 38, 56, 57, 58, 59, 27, 24, 60, 61, 62, 63, 64, 65, 66, 67, 68, 69, 70, 71, 72, 73, 74, 75, 76, 77, 78, 79, 80, 28, 81, 82, 83, 84, 25, 85, 86, 87, 88, 89, 90, 91, 92, 93, 94, 95, 96, 97, 98, 99, 100, 101, 102, 103, 104, 105, 106, 107, 108, 109, 110, 111, 112, 113, 114, 115, 116, 117, 118, 119, 120, 121, 122, 123, 124, 125, 11, 126, 127, 128, 129, 130, 131, 132, 133, 134, 135, 136, 137, 138, 139, 140, 141, 142, 143, 144, 145, 29, 32, 146, 147, 148, 149, 150, 151, 152, 153, 154, 155, 156, 157, 158, 159, 160, 161, 162, 163, 31, 30, 164, 165, 166, 167, 168, 169, 170, 171, 172, 187, 188, 189, 190, 191, 192, 193, 194, 195, 196, 197, 198] (by decide +kernel) (by decide +kernel)
set_option maxRecDepth 20000 in
theorem gX7_simulate_X3_turn : GoodIn wsX7_simulate (va_wsS RX7 195 yX3_turn wsX3_turn) := goodIn_app (goodIn_of _ (by decide +kernel)) ggX7_simulate_X3_turn
set_option maxRecDepth 20000 in
theorem ggX7_simulate_X0_shotScenes : GoodIn wsX7_simulate wsX0_shotScenes := goodIn_r _ [176, 27, 101, 102, 103, 21, 104, 24, 68, 69, 70, 36, 71, 55, 38, 187, 188, 189, 190, 191, 192, 193, 194, 195, 196, 197, 198] (by decide +kernel) (by decide +kernel)
set_option maxRecDepth 20000 in
theorem gX7_simulate_X0_shotScenes : GoodIn wsX7_simulate (wsV RX7 201 RX0 yX0_shotScenes wsX0_shotScenes) := goodIn_app (goodIn_of _ (by decide +kernel)) ggX7_simulate_X0_shotScenes
set_option maxRecDepth 20000 in
theorem ggX7_simulate_X0_allPenalties : GoodIn wsX7_simulate wsX0_allPenalties := goodIn_r _ [180, 31, 187, 188, 189, 190, 191, 192, 193, 194, 195, 196] (by decide +kernel) (by decide +kernel)
set_option maxRecDepth 20000 in
theorem gX7_simulate_X0_allPenalties : GoodIn wsX7_simulate (wsV RX7 204 RX0 yX0_allPenalties wsX0_allPenalties) := goodIn_app (goodIn_of _ (by decide +kernel)) ggX7_simulate_X0_allPenalties
theorem dX7_simulate_0 : decode cX7_simulate 0 = .ok (.iload_n 3, 1) := by decide +kernel
theorem dX7_simulate_1 : decode cX7_simulate 1 = .ok (.iconst 1, 1) := by decide +kernel
theorem dX7_simulate_2 : decode cX7_simulate 2 = .ok (.bipush 60, 2) := by decide +kernel
theorem dX7_simulate_4 : decode cX7_simulate 4 = .ok (.invokestatic 43, 3) := by decide +kernel
theorem dX7_simulate_7 : decode cX7_simulate 7 = .ok (.invokestatic 47, 3) := by decide +kernel
theorem dX7_simulate_10 : decode cX7_simulate 10 = .ok (.aload_n 0, 1) := by decide +kernel
theorem dX7_simulate_11 : decode cX7_simulate 11 = .ok (.getfield 16, 3) := by decide +kernel
theorem dX7_simulate_14 : decode cX7_simulate 14 = .ok (.aload_n 0, 1) := by decide +kernel
theorem dX7_simulate_15 : decode cX7_simulate 15 = .ok (.getfield 10, 3) := by decide +kernel
theorem dX7_simulate_18 : decode cX7_simulate 18 = .ok (.invokevirtual 178, 3) := by decide +kernel
theorem dX7_simulate_21 : decode cX7_simulate 21 = .ok (.lload_n 1, 1) := by decide +kernel
theorem dX7_simulate_22 : decode cX7_simulate 22 = .ok (.lstore 4, 2) := by decide +kernel
theorem dX7_simulate_24 : decode cX7_simulate 24 = .ok (.iconst 0, 1) := by decide +kernel
theorem dX7_simulate_25 : decode cX7_simulate 25 = .ok (.istore 6, 2) := by decide +kernel
theorem dX7_simulate_27 : decode cX7_simulate 27 = .ok (.iload 6, 2) := by decide +kernel
theorem dX7_simulate_29 : decode cX7_simulate 29 = .ok (.iload_n 3, 1) := by decide +kernel
theorem dX7_simulate_30 : decode cX7_simulate 30 = .ok (.if_icmp .ge 41, 3) := by decide +kernel
theorem dX7_simulate_33 : decode cX7_simulate 33 = .ok (.iload 6, 2) := by decide +kernel
theorem dX7_simulate_35 : decode cX7_simulate 35 = .ok (.bipush 60, 2) := by decide +kernel
theorem dX7_simulate_37 : decode cX7_simulate 37 = .ok (.if_icmp .ge 34, 3) := by decide +kernel
theorem dX7_simulate_40 : decode cX7_simulate 40 = .ok (.lload 4, 2) := by decide +kernel
theorem dX7_simulate_42 : decode cX7_simulate 42 = .ok (.ldc2_w 191, 3) := by decide +kernel
theorem dX7_simulate_45 : decode cX7_simulate 45 = .ok (.lmul, 1) := by decide +kernel
theorem dX7_simulate_46 : decode cX7_simulate 46 = .ok (.ldc2_w 193, 3) := by decide +kernel
theorem dX7_simulate_49 : decode cX7_simulate 49 = .ok (.ladd, 1) := by decide +kernel
theorem dX7_simulate_50 : decode cX7_simulate 50 = .ok (.lstore 4, 2) := by decide +kernel
theorem dX7_simulate_52 : decode cX7_simulate 52 = .ok (.aload_n 0, 1) := by decide +kernel
theorem dX7_simulate_53 : decode cX7_simulate 53 = .ok (.getfield 16, 3) := by decide +kernel
theorem dX7_simulate_56 : decode cX7_simulate 56 = .ok (.lload 4, 2) := by decide +kernel
theorem dX7_simulate_58 : decode cX7_simulate 58 = .ok (.bipush 33, 2) := by decide +kernel
theorem dX7_simulate_60 : decode cX7_simulate 60 = .ok (.lushr, 1) := by decide +kernel
theorem dX7_simulate_61 : decode cX7_simulate 61 = .ok (.l2i, 1) := by decide +kernel
theorem dX7_simulate_62 : decode cX7_simulate 62 = .ok (.invokestatic 195, 3) := by decide +kernel
theorem dX7_simulate_65 : decode cX7_simulate 65 = .ok (.iinc 6 1, 3) := by decide +kernel
theorem dX7_simulate_68 : decode cX7_simulate 68 = .ok (.goto (-41), 3) := by decide +kernel
theorem dX7_simulate_71 : decode cX7_simulate 71 = .ok (.aload_n 0, 1) := by decide +kernel
theorem dX7_simulate_72 : decode cX7_simulate 72 = .ok (.getfield 16, 3) := by decide +kernel
theorem dX7_simulate_75 : decode cX7_simulate 75 = .ok (.invokevirtual 201, 3) := by decide +kernel
theorem dX7_simulate_78 : decode cX7_simulate 78 = .ok (.aload_n 0, 1) := by decide +kernel
theorem dX7_simulate_79 : decode cX7_simulate 79 = .ok (.getfield 10, 3) := by decide +kernel
theorem dX7_simulate_82 : decode cX7_simulate 82 = .ok (.invokevirtual 201, 3) := by decide +kernel
theorem dX7_simulate_85 : decode cX7_simulate 85 = .ok (.isub, 1) := by decide +kernel
theorem dX7_simulate_86 : decode cX7_simulate 86 = .ok (.istore 6, 2) := by decide +kernel
theorem dX7_simulate_88 : decode cX7_simulate 88 = .ok (.aload_n 0, 1) := by decide +kernel
theorem dX7_simulate_89 : decode cX7_simulate 89 = .ok (.getfield 16, 3) := by decide +kernel
theorem dX7_simulate_92 : decode cX7_simulate 92 = .ok (.invokevirtual 204, 3) := by decide +kernel
theorem dX7_simulate_95 : decode cX7_simulate 95 = .ok (.aload_n 0, 1) := by decide +kernel
theorem dX7_simulate_96 : decode cX7_simulate 96 = .ok (.getfield 10, 3) := by decide +kernel
theorem dX7_simulate_99 : decode cX7_simulate 99 = .ok (.invokevirtual 204, 3) := by decide +kernel
theorem dX7_simulate_102 : decode cX7_simulate 102 = .ok (.isub, 1) := by decide +kernel
theorem dX7_simulate_103 : decode cX7_simulate 103 = .ok (.istore 7, 2) := by decide +kernel
theorem dX7_simulate_105 : decode cX7_simulate 105 = .ok (.sipush 10000, 3) := by decide +kernel
theorem dX7_simulate_108 : decode cX7_simulate 108 = .ok (.iload 6, 2) := by decide +kernel
theorem dX7_simulate_110 : decode cX7_simulate 110 = .ok (.imul, 1) := by decide +kernel
theorem dX7_simulate_111 : decode cX7_simulate 111 = .ok (.iload 7, 2) := by decide +kernel
theorem dX7_simulate_113 : decode cX7_simulate 113 = .ok (.sipush 9999, 3) := by decide +kernel
theorem dX7_simulate_116 : decode cX7_simulate 116 = .ok (.invokestatic 207, 3) := by decide +kernel
theorem dX7_simulate_119 : decode cX7_simulate 119 = .ok (.iadd, 1) := by decide +kernel
theorem dX7_simulate_120 : decode cX7_simulate 120 = .ok (.ireturn, 1) := by decide +kernel
set_option maxRecDepth 20000 in
theorem ggX7_save_X7_isIn : GoodIn wsX7_save wsX7_isIn := goodIn_r _ [5] (by decide +kernel) (by decide +kernel)
set_option maxRecDepth 20000 in
theorem gX7_save_X7_isIn : GoodIn wsX7_save (va_wsS RX7 43 yX7_isIn wsX7_isIn) := goodIn_app (goodIn_of _ (by decide +kernel)) ggX7_save_X7_isIn
set_option maxRecDepth 20000 in
theorem ggX7_save_X7_requireIndex : GoodIn wsX7_save wsX7_requireIndex := goodIn_ca (goodIn_r _ [8, 9, 10] (by decide +kernel) (by decide +kernel)) (goodIn_sub (fun _ h => List.mem_cons_of_mem _ (List.mem_append_right _ h)) (by decide +kernel))
set_option maxRecDepth 20000 in
theorem gX7_save_X7_requireIndex : GoodIn wsX7_save (va_wsS RX7 212 yX7_requireIndex wsX7_requireIndex) := goodIn_app (goodIn_of _ (by decide +kernel)) ggX7_save_X7_requireIndex
set_option maxRecDepth 20000 in
theorem ggX7_save_X7_slotOf : GoodIn wsX7_save wsX7_slotOf := goodIn_r _ [14, 15, 16, 58, 59, 60, 61, 62, 63] (by decide +kernel) (by decide +kernel)
set_option maxRecDepth 20000 in
theorem gX7_save_X7_slotOf : GoodIn wsX7_save (wsV RX7 215 RX7 yX7_slotOf wsX7_slotOf) := goodIn_app (goodIn_of _ (by decide +kernel)) ggX7_save_X7_slotOf
set_option maxRecDepth 20000 in
theorem ggX7_save_X4_keep : GoodIn wsX7_save wsX4_keep := goodIn_r _ [21, 22, 23, 24, 25, 26, 27, 28, 29, 30, 31, 32, 33, 34, 35, 36, 37, 38, 39, 40, 41, 42, 43, 44, 64, 65, 66, 67, 68, 69, 70, 71, 72, 73, 74, 75, 76, 77] (by decide +kernel) (by decide +kernel)
set_option maxRecDepth 20000 in
theorem gX7_save_X4_keep : GoodIn wsX7_save (wsV RX7 219 RX4 yX4_keep wsX4_keep) := goodIn_app (goodIn_of _ (by decide +kernel)) ggX7_save_X4_keep
set_option maxRecDepth 20000 in
theorem ggX7_save_X0_shotScenes : GoodIn wsX7_save wsX0_shotScenes := goodIn_r _ [48, 33, 49, 50, 51, 27, 52, 30, 53, 54, 55, 42, 56, 57, 44, 66, 67, 68, 69, 70, 71, 72, 73, 74, 75, 76, 77] (by decide +kernel) (by decide +kernel)
set_option maxRecDepth 20000 in
theorem gX7_save_X0_shotScenes : GoodIn wsX7_save (wsV RX7 201 RX0 yX0_shotScenes wsX0_shotScenes) := goodIn_app (goodIn_of _ (by decide +kernel)) ggX7_save_X0_shotScenes
theorem dX7_save_0 : decode cX7_save 0 = .ok (.iload_n 1, 1) := by decide +kernel
theorem dX7_save_1 : decode cX7_save 1 = .ok (.iconst 0, 1) := by decide +kernel
theorem dX7_save_2 : decode cX7_save 2 = .ok (.iconst 1, 1) := by decide +kernel
theorem dX7_save_3 : decode cX7_save 3 = .ok (.invokestatic 43, 3) := by decide +kernel
theorem dX7_save_6 : decode cX7_save 6 = .ok (.invokestatic 212, 3) := by decide +kernel
theorem dX7_save_9 : decode cX7_save 9 = .ok (.aload_n 0, 1) := by decide +kernel
theorem dX7_save_10 : decode cX7_save 10 = .ok (.iload_n 1, 1) := by decide +kernel
theorem dX7_save_11 : decode cX7_save 11 = .ok (.invokevirtual 215, 3) := by decide +kernel
theorem dX7_save_14 : decode cX7_save 14 = .ok (.aload_n 0, 1) := by decide +kernel
theorem dX7_save_15 : decode cX7_save 15 = .ok (.getfield 10, 3) := by decide +kernel
theorem dX7_save_18 : decode cX7_save 18 = .ok (.invokevirtual 219, 3) := by decide +kernel
theorem dX7_save_21 : decode cX7_save 21 = .ok (.aload_n 0, 1) := by decide +kernel
theorem dX7_save_22 : decode cX7_save 22 = .ok (.getfield 10, 3) := by decide +kernel
theorem dX7_save_25 : decode cX7_save 25 = .ok (.invokevirtual 201, 3) := by decide +kernel
theorem dX7_save_28 : decode cX7_save 28 = .ok (.ireturn, 1) := by decide +kernel
set_option maxRecDepth 20000 in
theorem ggX7_restore_X7_isIn : GoodIn wsX7_restore wsX7_isIn := goodIn_r _ [6] (by decide +kernel) (by decide +kernel)
set_option maxRecDepth 20000 in
theorem gX7_restore_X7_isIn : GoodIn wsX7_restore (va_wsS RX7 43 yX7_isIn wsX7_isIn) := goodIn_app (goodIn_of _ (by decide +kernel)) ggX7_restore_X7_isIn
set_option maxRecDepth 20000 in
theorem ggX7_restore_X7_requireIndex : GoodIn wsX7_restore wsX7_requireIndex := goodIn_ca (goodIn_r _ [9, 10, 11] (by decide +kernel) (by decide +kernel)) (goodIn_sub (fun _ h => List.mem_cons_of_mem _ (List.mem_append_left _ (List.mem_append_right _ h))) (by decide +kernel))
set_option maxRecDepth 20000 in
theorem gX7_restore_X7_requireIndex : GoodIn wsX7_restore (va_wsS RX7 212 yX7_requireIndex wsX7_requireIndex) := goodIn_app (goodIn_of _ (by decide +kernel)) ggX7_restore_X7_requireIndex
set_option maxRecDepth 20000 in
theorem ggX7_restore_X7_slotOf : GoodIn wsX7_restore wsX7_slotOf := goodIn_r _ [15, 16, 17, 74, 75, 76, 77, 78, 79] (by decide +kernel) (by decide +kernel)
set_option maxRecDepth 20000 in
theorem gX7_restore_X7_slotOf : GoodIn wsX7_restore (wsV RX7 215 RX7 yX7_slotOf wsX7_slotOf) := goodIn_app (goodIn_of _ (by decide +kernel)) ggX7_restore_X7_slotOf
set_option maxRecDepth 20000 in
theorem ggX7_restore_X4_isFilled : GoodIn wsX7_restore wsX4_isFilled := goodIn_r _ [22, 23, 80, 81] (by decide +kernel) (by decide +kernel)
set_option maxRecDepth 20000 in
theorem gX7_restore_X4_isFilled : GoodIn wsX7_restore (wsV RX7 222 RX4 yX4_isFilled wsX4_isFilled) := goodIn_app (goodIn_of _ (by decide +kernel)) ggX7_restore_X4_isFilled
set_option maxRecDepth 20000 in
theorem ggX7_restore_X7_requireState : GoodIn wsX7_restore wsX7_requireState := goodIn_ca (goodIn_r _ [26, 27, 28] (by decide +kernel) (by decide +kernel)) (goodIn_sub (fun _ h => List.mem_cons_of_mem _ (List.mem_append_right _ h)) (by decide +kernel))
set_option maxRecDepth 20000 in
theorem gX7_restore_X7_requireState : GoodIn wsX7_restore (va_wsS RX7 55 yX7_requireState wsX7_requireState) := goodIn_app (goodIn_of _ (by decide +kernel)) ggX7_restore_X7_requireState
set_option maxRecDepth 20000 in
theorem ggX7_restore_X4_giveBack : GoodIn wsX7_restore wsX4_giveBack := goodIn_r _ [32, 33, 34, 35, 36, 37, 38, 39, 40, 41, 42, 43, 44, 45, 46, 47, 48, 49, 50, 51, 52, 53, 54, 80, 81, 82, 83, 84, 85, 86, 87, 88, 89, 90, 91, 92, 93] (by decide +kernel) (by decide +kernel)
set_option maxRecDepth 20000 in
theorem gX7_restore_X4_giveBack : GoodIn wsX7_restore (wsV RX7 225 RX4 yX4_giveBack wsX4_giveBack) := goodIn_app (goodIn_of _ (by decide +kernel)) ggX7_restore_X4_giveBack
set_option maxRecDepth 20000 in
theorem ggX7_restore_X1_forget : GoodIn wsX7_restore wsX1_forget := goodIn_r _ [59, 60, 94, 95, 96] (by decide +kernel) (by decide +kernel)
set_option maxRecDepth 20000 in
theorem gX7_restore_X1_forget : GoodIn wsX7_restore (wsV RX7 71 RX1 yX1_forget wsX1_forget) := goodIn_app (goodIn_of _ (by decide +kernel)) ggX7_restore_X1_forget
set_option maxRecDepth 20000 in
theorem ggX7_restore_X0_shotScenes : GoodIn wsX7_restore wsX0_shotScenes := goodIn_r _ [64, 43, 65, 66, 67, 37, 68, 40, 69, 70, 71, 52, 72, 73, 54, 82, 83, 84, 85, 86, 87, 88, 89, 90, 91, 92, 93] (by decide +kernel) (by decide +kernel)
set_option maxRecDepth 20000 in
theorem gX7_restore_X0_shotScenes : GoodIn wsX7_restore (wsV RX7 201 RX0 yX0_shotScenes wsX0_shotScenes) := goodIn_app (goodIn_of _ (by decide +kernel)) ggX7_restore_X0_shotScenes
theorem dX7_restore_0 : decode cX7_restore 0 = .ok (.iload_n 1, 1) := by decide +kernel
theorem dX7_restore_1 : decode cX7_restore 1 = .ok (.iconst 0, 1) := by decide +kernel
theorem dX7_restore_2 : decode cX7_restore 2 = .ok (.iconst 1, 1) := by decide +kernel
theorem dX7_restore_3 : decode cX7_restore 3 = .ok (.invokestatic 43, 3) := by decide +kernel
theorem dX7_restore_6 : decode cX7_restore 6 = .ok (.invokestatic 212, 3) := by decide +kernel
theorem dX7_restore_9 : decode cX7_restore 9 = .ok (.aload_n 0, 1) := by decide +kernel
theorem dX7_restore_10 : decode cX7_restore 10 = .ok (.iload_n 1, 1) := by decide +kernel
theorem dX7_restore_11 : decode cX7_restore 11 = .ok (.invokevirtual 215, 3) := by decide +kernel
theorem dX7_restore_14 : decode cX7_restore 14 = .ok (.invokevirtual 222, 3) := by decide +kernel
theorem dX7_restore_17 : decode cX7_restore 17 = .ok (.invokestatic 55, 3) := by decide +kernel
theorem dX7_restore_20 : decode cX7_restore 20 = .ok (.aload_n 0, 1) := by decide +kernel
theorem dX7_restore_21 : decode cX7_restore 21 = .ok (.iload_n 1, 1) := by decide +kernel
theorem dX7_restore_22 : decode cX7_restore 22 = .ok (.invokevirtual 215, 3) := by decide +kernel
theorem dX7_restore_25 : decode cX7_restore 25 = .ok (.aload_n 0, 1) := by decide +kernel
theorem dX7_restore_26 : decode cX7_restore 26 = .ok (.getfield 10, 3) := by decide +kernel
theorem dX7_restore_29 : decode cX7_restore 29 = .ok (.invokevirtual 225, 3) := by decide +kernel
theorem dX7_restore_32 : decode cX7_restore 32 = .ok (.aload_n 0, 1) := by decide +kernel
theorem dX7_restore_33 : decode cX7_restore 33 = .ok (.getfield 22, 3) := by decide +kernel
theorem dX7_restore_36 : decode cX7_restore 36 = .ok (.invokevirtual 71, 3) := by decide +kernel
theorem dX7_restore_39 : decode cX7_restore 39 = .ok (.aload_n 0, 1) := by decide +kernel
theorem dX7_restore_40 : decode cX7_restore 40 = .ok (.getfield 10, 3) := by decide +kernel
theorem dX7_restore_43 : decode cX7_restore 43 = .ok (.invokevirtual 201, 3) := by decide +kernel
theorem dX7_restore_46 : decode cX7_restore 46 = .ok (.ireturn, 1) := by decide +kernel
theorem dX7_requireArgument_0 : decode cX7_requireArgument 0 = .ok (.iload_n 0, 1) := by decide +kernel
theorem dX7_requireArgument_1 : decode cX7_requireArgument 1 = .ok (.ifCond .ne 13, 3) := by decide +kernel
theorem dX7_requireArgument_4 : decode cX7_requireArgument 4 = .ok (.new 228, 3) := by decide +kernel
theorem dX7_requireArgument_7 : decode cX7_requireArgument 7 = .ok (.dup, 1) := by decide +kernel
theorem dX7_requireArgument_8 : decode cX7_requireArgument 8 = .ok (.ldc 230, 2) := by decide +kernel
theorem dX7_requireArgument_10 : decode cX7_requireArgument 10 = .ok (.invokespecial 232, 3) := by decide +kernel
theorem dX7_requireArgument_13 : decode cX7_requireArgument 13 = .ok (.athrow, 1) := by decide +kernel
theorem dX7_requireArgument_14 : decode cX7_requireArgument 14 = .ok (.return_, 1) := by decide +kernel
theorem dX7_requireState_0 : decode cX7_requireState 0 = .ok (.iload_n 0, 1) := by decide +kernel
theorem dX7_requireState_1 : decode cX7_requireState 1 = .ok (.ifCond .ne 13, 3) := by decide +kernel
theorem dX7_requireState_4 : decode cX7_requireState 4 = .ok (.new 235, 3) := by decide +kernel
theorem dX7_requireState_7 : decode cX7_requireState 7 = .ok (.dup, 1) := by decide +kernel
theorem dX7_requireState_8 : decode cX7_requireState 8 = .ok (.ldc 237, 2) := by decide +kernel
theorem dX7_requireState_10 : decode cX7_requireState 10 = .ok (.invokespecial 239, 3) := by decide +kernel
theorem dX7_requireState_13 : decode cX7_requireState 13 = .ok (.athrow, 1) := by decide +kernel
theorem dX7_requireState_14 : decode cX7_requireState 14 = .ok (.return_, 1) := by decide +kernel
theorem dX7_requireIndex_0 : decode cX7_requireIndex 0 = .ok (.iload_n 0, 1) := by decide +kernel
theorem dX7_requireIndex_1 : decode cX7_requireIndex 1 = .ok (.ifCond .ne 13, 3) := by decide +kernel
theorem dX7_requireIndex_4 : decode cX7_requireIndex 4 = .ok (.new 240, 3) := by decide +kernel
theorem dX7_requireIndex_7 : decode cX7_requireIndex 7 = .ok (.dup, 1) := by decide +kernel
theorem dX7_requireIndex_8 : decode cX7_requireIndex 8 = .ok (.ldc 242, 2) := by decide +kernel
theorem dX7_requireIndex_10 : decode cX7_requireIndex 10 = .ok (.invokespecial 244, 3) := by decide +kernel
theorem dX7_requireIndex_13 : decode cX7_requireIndex 13 = .ok (.athrow, 1) := by decide +kernel
theorem dX7_requireIndex_14 : decode cX7_requireIndex 14 = .ok (.return_, 1) := by decide +kernel
set_option maxRecDepth 20000 in
theorem ggX7_requireExtra_X0_isExtra : GoodIn wsX7_requireExtra wsX0_isExtra := goodIn_r _ [6, 7, 20, 21, 22, 23, 24, 25, 26, 27, 28, 29] (by decide +kernel) (by decide +kernel)
set_option maxRecDepth 20000 in
theorem gX7_requireExtra_X0_isExtra : GoodIn wsX7_requireExtra (wsV RX7 245 RX0 yX0_isExtra wsX0_isExtra) := goodIn_app (goodIn_of _ (by decide +kernel)) ggX7_requireExtra_X0_isExtra
set_option maxRecDepth 20000 in
theorem ggX7_requireExtra_X7_requireIndex : GoodIn wsX7_requireExtra wsX7_requireIndex := goodIn_ca (goodIn_r _ [11, 12, 13] (by decide +kernel) (by decide +kernel)) (goodIn_sub (fun _ h => List.mem_cons_of_mem _ (List.mem_append_right _ h)) (by decide +kernel))
set_option maxRecDepth 20000 in
theorem gX7_requireExtra_X7_requireIndex : GoodIn wsX7_requireExtra (va_wsS RX7 212 yX7_requireIndex wsX7_requireIndex) := goodIn_app (goodIn_of _ (by decide +kernel)) ggX7_requireExtra_X7_requireIndex
theorem dX7_requireExtra_0 : decode cX7_requireExtra 0 = .ok (.aload_n 0, 1) := by decide +kernel
theorem dX7_requireExtra_1 : decode cX7_requireExtra 1 = .ok (.getfield 10, 3) := by decide +kernel
theorem dX7_requireExtra_4 : decode cX7_requireExtra 4 = .ok (.iload_n 1, 1) := by decide +kernel
theorem dX7_requireExtra_5 : decode cX7_requireExtra 5 = .ok (.invokevirtual 245, 3) := by decide +kernel
theorem dX7_requireExtra_8 : decode cX7_requireExtra 8 = .ok (.invokestatic 212, 3) := by decide +kernel
theorem dX7_requireExtra_11 : decode cX7_requireExtra 11 = .ok (.return_, 1) := by decide +kernel
set_option maxRecDepth 20000 in
theorem ggX7_requireScene_X0_isScene : GoodIn wsX7_requireScene wsX0_isScene := goodIn_r _ [6, 7, 20, 21, 22, 23, 24, 25, 26, 27, 28, 29] (by decide +kernel) (by decide +kernel)
set_option maxRecDepth 20000 in
theorem gX7_requireScene_X0_isScene : GoodIn wsX7_requireScene (wsV RX7 248 RX0 yX0_isScene wsX0_isScene) := goodIn_app (goodIn_of _ (by decide +kernel)) ggX7_requireScene_X0_isScene
set_option maxRecDepth 20000 in
theorem ggX7_requireScene_X7_requireIndex : GoodIn wsX7_requireScene wsX7_requireIndex := goodIn_ca (goodIn_r _ [11, 12, 13] (by decide +kernel) (by decide +kernel)) (goodIn_sub (fun _ h => List.mem_cons_of_mem _ (List.mem_append_right _ h)) (by decide +kernel))
set_option maxRecDepth 20000 in
theorem gX7_requireScene_X7_requireIndex : GoodIn wsX7_requireScene (va_wsS RX7 212 yX7_requireIndex wsX7_requireIndex) := goodIn_app (goodIn_of _ (by decide +kernel)) ggX7_requireScene_X7_requireIndex
theorem dX7_requireScene_0 : decode cX7_requireScene 0 = .ok (.aload_n 0, 1) := by decide +kernel
theorem dX7_requireScene_1 : decode cX7_requireScene 1 = .ok (.getfield 10, 3) := by decide +kernel
theorem dX7_requireScene_4 : decode cX7_requireScene 4 = .ok (.iload_n 1, 1) := by decide +kernel
theorem dX7_requireScene_5 : decode cX7_requireScene 5 = .ok (.invokevirtual 248, 3) := by decide +kernel
theorem dX7_requireScene_8 : decode cX7_requireScene 8 = .ok (.invokestatic 212, 3) := by decide +kernel
theorem dX7_requireScene_11 : decode cX7_requireScene 11 = .ok (.return_, 1) := by decide +kernel
theorem dX7_isIn_0 : decode cX7_isIn 0 = .ok (.iload_n 0, 1) := by decide +kernel
theorem dX7_isIn_1 : decode cX7_isIn 1 = .ok (.iload_n 1, 1) := by decide +kernel
theorem dX7_isIn_2 : decode cX7_isIn 2 = .ok (.if_icmp .lt 12, 3) := by decide +kernel
theorem dX7_isIn_5 : decode cX7_isIn 5 = .ok (.iload_n 0, 1) := by decide +kernel
theorem dX7_isIn_6 : decode cX7_isIn 6 = .ok (.iload_n 2, 1) := by decide +kernel
theorem dX7_isIn_7 : decode cX7_isIn 7 = .ok (.if_icmp .gt 7, 3) := by decide +kernel
theorem dX7_isIn_10 : decode cX7_isIn 10 = .ok (.iconst 1, 1) := by decide +kernel
theorem dX7_isIn_11 : decode cX7_isIn 11 = .ok (.goto 4, 3) := by decide +kernel
theorem dX7_isIn_14 : decode cX7_isIn 14 = .ok (.iconst 0, 1) := by decide +kernel
theorem dX7_isIn_15 : decode cX7_isIn 15 = .ok (.ireturn, 1) := by decide +kernel
set_option maxRecDepth 20000 in
theorem ggX7_isSetting_X7_isIn : GoodIn wsX7_isSetting wsX7_isIn := goodIn_r _ [4] (by decide +kernel) (by decide +kernel)
set_option maxRecDepth 20000 in
theorem gX7_isSetting_X7_isIn : GoodIn wsX7_isSetting (va_wsS RX7 43 yX7_isIn wsX7_isIn) := goodIn_app (goodIn_of _ (by decide +kernel)) ggX7_isSetting_X7_isIn
theorem dX7_isSetting_0 : decode cX7_isSetting 0 = .ok (.iload_n 0, 1) := by decide +kernel
theorem dX7_isSetting_1 : decode cX7_isSetting 1 = .ok (.tableswitch 54 0 2 #[27, 38, 46], 27) := by decide +kernel
theorem dX7_isSetting_28 : decode cX7_isSetting 28 = .ok (.iload_n 1, 1) := by decide +kernel
theorem dX7_isSetting_29 : decode cX7_isSetting 29 = .ok (.sipush 240, 3) := by decide +kernel
theorem dX7_isSetting_32 : decode cX7_isSetting 32 = .ok (.sipush 960, 3) := by decide +kernel
theorem dX7_isSetting_35 : decode cX7_isSetting 35 = .ok (.invokestatic 43, 3) := by decide +kernel
theorem dX7_isSetting_38 : decode cX7_isSetting 38 = .ok (.ireturn, 1) := by decide +kernel
theorem dX7_isSetting_39 : decode cX7_isSetting 39 = .ok (.iload_n 1, 1) := by decide +kernel
theorem dX7_isSetting_40 : decode cX7_isSetting 40 = .ok (.iconst 1, 1) := by decide +kernel
theorem dX7_isSetting_41 : decode cX7_isSetting 41 = .ok (.bipush 99, 2) := by decide +kernel
theorem dX7_isSetting_43 : decode cX7_isSetting 43 = .ok (.invokestatic 43, 3) := by decide +kernel
theorem dX7_isSetting_46 : decode cX7_isSetting 46 = .ok (.ireturn, 1) := by decide +kernel
theorem dX7_isSetting_47 : decode cX7_isSetting 47 = .ok (.iload_n 1, 1) := by decide +kernel
theorem dX7_isSetting_48 : decode cX7_isSetting 48 = .ok (.iconst 0, 1) := by decide +kernel
theorem dX7_isSetting_49 : decode cX7_isSetting 49 = .ok (.bipush 99, 2) := by decide +kernel
theorem dX7_isSetting_51 : decode cX7_isSetting 51 = .ok (.invokestatic 43, 3) := by decide +kernel
theorem dX7_isSetting_54 : decode cX7_isSetting 54 = .ok (.ireturn, 1) := by decide +kernel
theorem dX7_isSetting_55 : decode cX7_isSetting 55 = .ok (.iconst 0, 1) := by decide +kernel
theorem dX7_isSetting_56 : decode cX7_isSetting 56 = .ok (.ireturn, 1) := by decide +kernel
theorem dX7_has_0 : decode cX7_has 0 = .ok (.iload_n 0, 1) := by decide +kernel
theorem dX7_has_1 : decode cX7_has 1 = .ok (.iload_n 1, 1) := by decide +kernel
theorem dX7_has_2 : decode cX7_has 2 = .ok (.ishr, 1) := by decide +kernel
theorem dX7_has_3 : decode cX7_has 3 = .ok (.iconst 1, 1) := by decide +kernel
theorem dX7_has_4 : decode cX7_has 4 = .ok (.iand, 1) := by decide +kernel
theorem dX7_has_5 : decode cX7_has 5 = .ok (.iconst 1, 1) := by decide +kernel
theorem dX7_has_6 : decode cX7_has 6 = .ok (.if_icmp .ne 7, 3) := by decide +kernel
theorem dX7_has_9 : decode cX7_has 9 = .ok (.iconst 1, 1) := by decide +kernel
theorem dX7_has_10 : decode cX7_has 10 = .ok (.goto 4, 3) := by decide +kernel
theorem dX7_has_13 : decode cX7_has 13 = .ok (.iconst 0, 1) := by decide +kernel
theorem dX7_has_14 : decode cX7_has 14 = .ok (.ireturn, 1) := by decide +kernel
theorem dX7_begun_0 : decode cX7_begun 0 = .ok (.iload_n 0, 1) := by decide +kernel
theorem dX7_begun_1 : decode cX7_begun 1 = .ok (.ifCond .le 7, 3) := by decide +kernel
theorem dX7_begun_4 : decode cX7_begun 4 = .ok (.iload_n 1, 1) := by decide +kernel
theorem dX7_begun_5 : decode cX7_begun 5 = .ok (.ifCond .gt 7, 3) := by decide +kernel
theorem dX7_begun_8 : decode cX7_begun 8 = .ok (.iconst 0, 1) := by decide +kernel
theorem dX7_begun_9 : decode cX7_begun 9 = .ok (.goto 10, 3) := by decide +kernel
theorem dX7_begun_12 : decode cX7_begun 12 = .ok (.iload_n 0, 1) := by decide +kernel
theorem dX7_begun_13 : decode cX7_begun 13 = .ok (.iconst 1, 1) := by decide +kernel
theorem dX7_begun_14 : decode cX7_begun 14 = .ok (.isub, 1) := by decide +kernel
theorem dX7_begun_15 : decode cX7_begun 15 = .ok (.iload_n 1, 1) := by decide +kernel
theorem dX7_begun_16 : decode cX7_begun 16 = .ok (.idiv, 1) := by decide +kernel
theorem dX7_begun_17 : decode cX7_begun 17 = .ok (.iconst 1, 1) := by decide +kernel
theorem dX7_begun_18 : decode cX7_begun 18 = .ok (.iadd, 1) := by decide +kernel
theorem dX7_begun_19 : decode cX7_begun 19 = .ok (.ireturn, 1) := by decide +kernel
theorem dX7_slotOf_0 : decode cX7_slotOf 0 = .ok (.iload_n 1, 1) := by decide +kernel
theorem dX7_slotOf_1 : decode cX7_slotOf 1 = .ok (.ifCond .ne 10, 3) := by decide +kernel
theorem dX7_slotOf_4 : decode cX7_slotOf 4 = .ok (.aload_n 0, 1) := by decide +kernel
theorem dX7_slotOf_5 : decode cX7_slotOf 5 = .ok (.getfield 29, 3) := by decide +kernel
theorem dX7_slotOf_8 : decode cX7_slotOf 8 = .ok (.goto 7, 3) := by decide +kernel
theorem dX7_slotOf_11 : decode cX7_slotOf 11 = .ok (.aload_n 0, 1) := by decide +kernel
theorem dX7_slotOf_12 : decode cX7_slotOf 12 = .ok (.getfield 33, 3) := by decide +kernel
theorem dX7_slotOf_15 : decode cX7_slotOf 15 = .ok (.areturn, 1) := by decide +kernel
set_option maxRecDepth 20000 in
theorem ggX7_doTextCommand_X6_characterAt : GoodIn wsX7_doTextCommand wsX6_characterAt := goodIn_r _ [7, 8, 9, 10, 11, 12, 13, 14, 15, 157, 158, 159, 160] (by decide +kernel) (by decide +kernel)
set_option maxRecDepth 20000 in
theorem gX7_doTextCommand_X6_characterAt : GoodIn wsX7_doTextCommand (wsV RX7 251 RX6 yX6_characterAt wsX6_characterAt) := goodIn_app (goodIn_of _ (by decide +kernel)) ggX7_doTextCommand_X6_characterAt
set_option maxRecDepth 20000 in
theorem ggX7_doTextCommand_X6_number : GoodIn wsX7_doTextCommand wsX6_number := goodIn_r _ [19, 20, 4, 5, 6, 7, 8, 9, 10, 11, 12, 13, 14, 15, 157, 158, 159, 160] (by decide +kernel) (by decide +kernel)
set_option maxRecDepth 20000 in
theorem gX7_doTextCommand_X6_number : GoodIn wsX7_doTextCommand (wsV RX7 254 RX6 yX6_number wsX6_number) := goodIn_app (goodIn_of _ (by decide +kernel)) ggX7_doTextCommand_X6_number
set_option maxRecDepth 20000 in
theorem ggX7_doTextCommand_X0_addExtra : GoodIn wsX7_doTextCommand wsX0_addExtra := goodIn_r _ [25, 26, 27, 28, 29, 30, 24, 31, 32, 33, 34, 12, 35, 14, 15, 161, 162, 163, 164, 165, 166, 167, 168, 169, 170, 159, 160] (by decide +kernel) (by decide +kernel)
set_option maxRecDepth 20000 in
theorem gX7_doTextCommand_X0_addExtra : GoodIn wsX7_doTextCommand (wsV RX7 111 RX0 yX0_addExtra wsX0_addExtra) := goodIn_app (goodIn_of _ (by decide +kernel)) ggX7_doTextCommand_X0_addExtra
set_option maxRecDepth 20000 in
theorem ggX7_doTextCommand_X0_addScene : GoodIn wsX7_doTextCommand wsX0_addScene := goodIn_r _ [39, 40, 41, 42, 43, 44, 24, 45, 32, 33, 34, 12, 35, 14, 15, 161, 162, 163, 164, 165, 166, 167, 168, 169, 170, 159, 160] (by decide +kernel) (by decide +kernel)
set_option maxRecDepth 20000 in
theorem gX7_doTextCommand_X0_addScene : GoodIn wsX7_doTextCommand (wsV RX7 117 RX0 yX0_addScene wsX0_addScene) := goodIn_app (goodIn_of _ (by decide +kernel)) ggX7_doTextCommand_X0_addScene
set_option maxRecDepth 20000 in
theorem ggX7_doTextCommand_X0_shootIfPossible : GoodIn wsX7_doTextCommand wsX0_shootIfPossible := goodIn_r _ [49, 50, 51, 52, 24, 53, 41, 54, 55, 56, 57, 40, 58, 59, 60, 61, 62, 10, 11, 12, 13, 14, 15, 63, 64, 65, 66, 67, 68, 69, 70, 26, 27, 71, 72, 73, 74, 75, 76, 77, 78, 79, 80, 81, 82, 83, 84, 85, 86, 87, 88, 89, 90, 91, 92, 93, 94, 95, 96, 97, 98, 99, 100, 101, 102, 103, 104, 105, 106, 107, 108, 109, 110, 111, 112, 113, 114, 115, 116, 117, 118, 119, 120, 121, 122, 123, 124, 125, 126, 127, 128, 129, 130, 131, 132, 133, 134, 135, 136, 137, 33, 34, 35, 32, 161, 162, 163, 164, 165, 166, 167, 168, 169, 170, 159, 160] (by decide +kernel) (by decide +kernel)
set_option maxRecDepth 20000 in
theorem gX7_doTextCommand_X0_shootIfPossible : GoodIn wsX7_doTextCommand (wsV RX7 257 RX0 yX0_shootIfPossible wsX0_shootIfPossible) := goodIn_app (goodIn_of _ (by decide +kernel)) ggX7_doTextCommand_X0_shootIfPossible
set_option maxRecDepth 20000 in
theorem ggX7_doTextCommand_X0_eat : GoodIn wsX7_doTextCommand wsX0_eat := goodIn_r _ [141, 26, 27, 62, 10, 11, 12, 13, 14, 15, 142, 143, 144, 145, 137, 33, 34, 35, 161, 162, 163, 164, 165, 166, 167, 168, 169, 170, 159, 160] (by decide +kernel) (by decide +kernel)
set_option maxRecDepth 20000 in
theorem gX7_doTextCommand_X0_eat : GoodIn wsX7_doTextCommand (wsV RX7 135 RX0 yX0_eat wsX0_eat) := goodIn_app (goodIn_of _ (by decide +kernel)) ggX7_doTextCommand_X0_eat
set_option maxRecDepth 20000 in
theorem ggX7_doTextCommand_X0_beginDay : GoodIn wsX7_doTextCommand wsX0_beginDay := goodIn_r _ [149, 27, 150, 142, 143, 144, 12, 145, 14, 137, 33, 34, 35, 15, 161, 162, 163, 164, 165, 166, 167, 168, 169, 170, 159, 160] (by decide +kernel) (by decide +kernel)
set_option maxRecDepth 20000 in
theorem gX7_doTextCommand_X0_beginDay : GoodIn wsX7_doTextCommand (wsV RX7 138 RX0 yX0_beginDay wsX0_beginDay) := goodIn_app (goodIn_of _ (by decide +kernel)) ggX7_doTextCommand_X0_beginDay
theorem dX7_doTextCommand_0 : decode cX7_doTextCommand 0 = .ok (.aload_n 0, 1) := by decide +kernel
theorem dX7_doTextCommand_1 : decode cX7_doTextCommand 1 = .ok (.getfield 39, 3) := by decide +kernel
theorem dX7_doTextCommand_4 : decode cX7_doTextCommand 4 = .ok (.iload_n 1, 1) := by decide +kernel
theorem dX7_doTextCommand_5 : decode cX7_doTextCommand 5 = .ok (.invokevirtual 251, 3) := by decide +kernel
theorem dX7_doTextCommand_8 : decode cX7_doTextCommand 8 = .ok (.tableswitch 226 101 115 #[76, 226, 187, 226, 226, 226, 226, 226, 206, 216, 226, 226, 226, 226, 115], 76) := by decide +kernel
theorem dX7_doTextCommand_84 : decode cX7_doTextCommand 84 = .ok (.aload_n 0, 1) := by decide +kernel
theorem dX7_doTextCommand_85 : decode cX7_doTextCommand 85 = .ok (.getfield 10, 3) := by decide +kernel
theorem dX7_doTextCommand_88 : decode cX7_doTextCommand 88 = .ok (.aload_n 0, 1) := by decide +kernel
theorem dX7_doTextCommand_89 : decode cX7_doTextCommand 89 = .ok (.getfield 39, 3) := by decide +kernel
theorem dX7_doTextCommand_92 : decode cX7_doTextCommand 92 = .ok (.iload_n 1, 1) := by decide +kernel
theorem dX7_doTextCommand_93 : decode cX7_doTextCommand 93 = .ok (.iconst 1, 1) := by decide +kernel
theorem dX7_doTextCommand_94 : decode cX7_doTextCommand 94 = .ok (.iadd, 1) := by decide +kernel
theorem dX7_doTextCommand_95 : decode cX7_doTextCommand 95 = .ok (.iconst 1, 1) := by decide +kernel
theorem dX7_doTextCommand_96 : decode cX7_doTextCommand 96 = .ok (.invokevirtual 254, 3) := by decide +kernel
theorem dX7_doTextCommand_99 : decode cX7_doTextCommand 99 = .ok (.aload_n 0, 1) := by decide +kernel
theorem dX7_doTextCommand_100 : decode cX7_doTextCommand 100 = .ok (.getfield 39, 3) := by decide +kernel
theorem dX7_doTextCommand_103 : decode cX7_doTextCommand 103 = .ok (.iload_n 1, 1) := by decide +kernel
theorem dX7_doTextCommand_104 : decode cX7_doTextCommand 104 = .ok (.iconst 2, 1) := by decide +kernel
theorem dX7_doTextCommand_105 : decode cX7_doTextCommand 105 = .ok (.iadd, 1) := by decide +kernel
theorem dX7_doTextCommand_106 : decode cX7_doTextCommand 106 = .ok (.iconst 2, 1) := by decide +kernel
theorem dX7_doTextCommand_107 : decode cX7_doTextCommand 107 = .ok (.invokevirtual 254, 3) := by decide +kernel
theorem dX7_doTextCommand_110 : decode cX7_doTextCommand 110 = .ok (.invokevirtual 111, 3) := by decide +kernel
theorem dX7_doTextCommand_113 : decode cX7_doTextCommand 113 = .ok (.iconst (-1), 1) := by decide +kernel
theorem dX7_doTextCommand_114 : decode cX7_doTextCommand 114 = .ok (.if_icmp .eq 7, 3) := by decide +kernel
theorem dX7_doTextCommand_117 : decode cX7_doTextCommand 117 = .ok (.iconst 1, 1) := by decide +kernel
theorem dX7_doTextCommand_118 : decode cX7_doTextCommand 118 = .ok (.goto 4, 3) := by decide +kernel
theorem dX7_doTextCommand_121 : decode cX7_doTextCommand 121 = .ok (.iconst 0, 1) := by decide +kernel
theorem dX7_doTextCommand_122 : decode cX7_doTextCommand 122 = .ok (.ireturn, 1) := by decide +kernel
theorem dX7_doTextCommand_123 : decode cX7_doTextCommand 123 = .ok (.aload_n 0, 1) := by decide +kernel
theorem dX7_doTextCommand_124 : decode cX7_doTextCommand 124 = .ok (.getfield 10, 3) := by decide +kernel
theorem dX7_doTextCommand_127 : decode cX7_doTextCommand 127 = .ok (.aload_n 0, 1) := by decide +kernel
theorem dX7_doTextCommand_128 : decode cX7_doTextCommand 128 = .ok (.getfield 39, 3) := by decide +kernel
theorem dX7_doTextCommand_131 : decode cX7_doTextCommand 131 = .ok (.iload_n 1, 1) := by decide +kernel
theorem dX7_doTextCommand_132 : decode cX7_doTextCommand 132 = .ok (.iconst 1, 1) := by decide +kernel
theorem dX7_doTextCommand_133 : decode cX7_doTextCommand 133 = .ok (.iadd, 1) := by decide +kernel
theorem dX7_doTextCommand_134 : decode cX7_doTextCommand 134 = .ok (.iconst 1, 1) := by decide +kernel
theorem dX7_doTextCommand_135 : decode cX7_doTextCommand 135 = .ok (.invokevirtual 254, 3) := by decide +kernel
theorem dX7_doTextCommand_138 : decode cX7_doTextCommand 138 = .ok (.aload_n 0, 1) := by decide +kernel
theorem dX7_doTextCommand_139 : decode cX7_doTextCommand 139 = .ok (.getfield 39, 3) := by decide +kernel
theorem dX7_doTextCommand_142 : decode cX7_doTextCommand 142 = .ok (.iload_n 1, 1) := by decide +kernel
theorem dX7_doTextCommand_143 : decode cX7_doTextCommand 143 = .ok (.iconst 2, 1) := by decide +kernel
theorem dX7_doTextCommand_144 : decode cX7_doTextCommand 144 = .ok (.iadd, 1) := by decide +kernel
theorem dX7_doTextCommand_145 : decode cX7_doTextCommand 145 = .ok (.iconst 1, 1) := by decide +kernel
theorem dX7_doTextCommand_146 : decode cX7_doTextCommand 146 = .ok (.invokevirtual 254, 3) := by decide +kernel
theorem dX7_doTextCommand_149 : decode cX7_doTextCommand 149 = .ok (.aload_n 0, 1) := by decide +kernel
theorem dX7_doTextCommand_150 : decode cX7_doTextCommand 150 = .ok (.getfield 39, 3) := by decide +kernel
theorem dX7_doTextCommand_153 : decode cX7_doTextCommand 153 = .ok (.iload_n 1, 1) := by decide +kernel
theorem dX7_doTextCommand_154 : decode cX7_doTextCommand 154 = .ok (.iconst 3, 1) := by decide +kernel
theorem dX7_doTextCommand_155 : decode cX7_doTextCommand 155 = .ok (.iadd, 1) := by decide +kernel
theorem dX7_doTextCommand_156 : decode cX7_doTextCommand 156 = .ok (.iconst 1, 1) := by decide +kernel
theorem dX7_doTextCommand_157 : decode cX7_doTextCommand 157 = .ok (.invokevirtual 254, 3) := by decide +kernel
theorem dX7_doTextCommand_160 : decode cX7_doTextCommand 160 = .ok (.aload_n 0, 1) := by decide +kernel
theorem dX7_doTextCommand_161 : decode cX7_doTextCommand 161 = .ok (.getfield 39, 3) := by decide +kernel
theorem dX7_doTextCommand_164 : decode cX7_doTextCommand 164 = .ok (.iload_n 1, 1) := by decide +kernel
theorem dX7_doTextCommand_165 : decode cX7_doTextCommand 165 = .ok (.iconst 4, 1) := by decide +kernel
theorem dX7_doTextCommand_166 : decode cX7_doTextCommand 166 = .ok (.iadd, 1) := by decide +kernel
theorem dX7_doTextCommand_167 : decode cX7_doTextCommand 167 = .ok (.iconst 1, 1) := by decide +kernel
theorem dX7_doTextCommand_168 : decode cX7_doTextCommand 168 = .ok (.invokevirtual 254, 3) := by decide +kernel
theorem dX7_doTextCommand_171 : decode cX7_doTextCommand 171 = .ok (.aload_n 0, 1) := by decide +kernel
theorem dX7_doTextCommand_172 : decode cX7_doTextCommand 172 = .ok (.getfield 39, 3) := by decide +kernel
theorem dX7_doTextCommand_175 : decode cX7_doTextCommand 175 = .ok (.iload_n 1, 1) := by decide +kernel
theorem dX7_doTextCommand_176 : decode cX7_doTextCommand 176 = .ok (.iconst 5, 1) := by decide +kernel
theorem dX7_doTextCommand_177 : decode cX7_doTextCommand 177 = .ok (.iadd, 1) := by decide +kernel
theorem dX7_doTextCommand_178 : decode cX7_doTextCommand 178 = .ok (.iconst 3, 1) := by decide +kernel
theorem dX7_doTextCommand_179 : decode cX7_doTextCommand 179 = .ok (.invokevirtual 254, 3) := by decide +kernel
theorem dX7_doTextCommand_182 : decode cX7_doTextCommand 182 = .ok (.invokevirtual 117, 3) := by decide +kernel
theorem dX7_doTextCommand_185 : decode cX7_doTextCommand 185 = .ok (.iconst (-1), 1) := by decide +kernel
theorem dX7_doTextCommand_186 : decode cX7_doTextCommand 186 = .ok (.if_icmp .eq 7, 3) := by decide +kernel
theorem dX7_doTextCommand_189 : decode cX7_doTextCommand 189 = .ok (.iconst 1, 1) := by decide +kernel
theorem dX7_doTextCommand_190 : decode cX7_doTextCommand 190 = .ok (.goto 4, 3) := by decide +kernel
theorem dX7_doTextCommand_193 : decode cX7_doTextCommand 193 = .ok (.iconst 0, 1) := by decide +kernel
theorem dX7_doTextCommand_194 : decode cX7_doTextCommand 194 = .ok (.ireturn, 1) := by decide +kernel
theorem dX7_doTextCommand_195 : decode cX7_doTextCommand 195 = .ok (.aload_n 0, 1) := by decide +kernel
theorem dX7_doTextCommand_196 : decode cX7_doTextCommand 196 = .ok (.getfield 10, 3) := by decide +kernel
theorem dX7_doTextCommand_199 : decode cX7_doTextCommand 199 = .ok (.aload_n 0, 1) := by decide +kernel
theorem dX7_doTextCommand_200 : decode cX7_doTextCommand 200 = .ok (.getfield 39, 3) := by decide +kernel
theorem dX7_doTextCommand_203 : decode cX7_doTextCommand 203 = .ok (.iload_n 1, 1) := by decide +kernel
theorem dX7_doTextCommand_204 : decode cX7_doTextCommand 204 = .ok (.iconst 1, 1) := by decide +kernel
theorem dX7_doTextCommand_205 : decode cX7_doTextCommand 205 = .ok (.iadd, 1) := by decide +kernel
theorem dX7_doTextCommand_206 : decode cX7_doTextCommand 206 = .ok (.iconst 1, 1) := by decide +kernel
theorem dX7_doTextCommand_207 : decode cX7_doTextCommand 207 = .ok (.invokevirtual 254, 3) := by decide +kernel
theorem dX7_doTextCommand_210 : decode cX7_doTextCommand 210 = .ok (.invokevirtual 257, 3) := by decide +kernel
theorem dX7_doTextCommand_213 : decode cX7_doTextCommand 213 = .ok (.ireturn, 1) := by decide +kernel
theorem dX7_doTextCommand_214 : decode cX7_doTextCommand 214 = .ok (.aload_n 0, 1) := by decide +kernel
theorem dX7_doTextCommand_215 : decode cX7_doTextCommand 215 = .ok (.getfield 10, 3) := by decide +kernel
theorem dX7_doTextCommand_218 : decode cX7_doTextCommand 218 = .ok (.invokevirtual 135, 3) := by decide +kernel
theorem dX7_doTextCommand_221 : decode cX7_doTextCommand 221 = .ok (.pop, 1) := by decide +kernel
theorem dX7_doTextCommand_222 : decode cX7_doTextCommand 222 = .ok (.iconst 1, 1) := by decide +kernel
theorem dX7_doTextCommand_223 : decode cX7_doTextCommand 223 = .ok (.ireturn, 1) := by decide +kernel
theorem dX7_doTextCommand_224 : decode cX7_doTextCommand 224 = .ok (.aload_n 0, 1) := by decide +kernel
theorem dX7_doTextCommand_225 : decode cX7_doTextCommand 225 = .ok (.getfield 10, 3) := by decide +kernel
theorem dX7_doTextCommand_228 : decode cX7_doTextCommand 228 = .ok (.invokevirtual 138, 3) := by decide +kernel
theorem dX7_doTextCommand_231 : decode cX7_doTextCommand 231 = .ok (.pop, 1) := by decide +kernel
theorem dX7_doTextCommand_232 : decode cX7_doTextCommand 232 = .ok (.iconst 1, 1) := by decide +kernel
theorem dX7_doTextCommand_233 : decode cX7_doTextCommand 233 = .ok (.ireturn, 1) := by decide +kernel
theorem dX7_doTextCommand_234 : decode cX7_doTextCommand 234 = .ok (.iconst 0, 1) := by decide +kernel
theorem dX7_doTextCommand_235 : decode cX7_doTextCommand 235 = .ok (.ireturn, 1) := by decide +kernel
set_option maxRecDepth 20000 in
theorem ggX7_costInTurn_X0_copy : GoodIn wsX7_costInTurn wsX0_copy := goodIn_r _ [7, 8, 9, 10, 11, 12, 13, 14, 15, 16, 17, 18, 19, 20, 21, 22, 23, 129, 130, 131, 132, 133, 134, 135, 136, 137, 138, 139, 140] (by decide +kernel) (by decide +kernel)
set_option maxRecDepth 20000 in
theorem gX7_costInTurn_X0_copy : GoodIn wsX7_costInTurn (wsV RX7 178 RX0 yX0_copy wsX0_copy) := goodIn_app (goodIn_of _ (by decide +kernel)) ggX7_costInTurn_X0_copy
set_option maxRecDepth 20000 in
theorem ggX7_costInTurn_X0_shootIfPossible : GoodIn wsX7_costInTurn wsX0_shootIfPossible := goodIn_r _ [27, 28, 29, 30, 6, 31, 9, 32, 33, 34, 35, 12, 36, 37, 38, 39, 40, 41, 42, 21, 43, 44, 23, 45, 46, 47, 48, 49, 50, 51, 52, 11, 8, 53, 54, 55, 56, 10, 57, 58, 59, 60, 61, 62, 63, 64, 65, 66, 67, 68, 69, 70, 71, 72, 73, 74, 75, 76, 77, 78, 79, 80, 81, 82, 83, 84, 85, 86, 14, 17, 87, 88, 89, 90, 91, 92, 93, 94, 95, 96, 97, 98, 99, 100, 101, 102, 103, 104, 16, 15, 105, 106, 107, 108, 109, 110, 111, 112, 113, 114, 115, 116, 117, 118, 129, 130, 131, 132, 133, 134, 135, 136, 137, 138, 139, 140] (by decide +kernel) (by decide +kernel)
set_option maxRecDepth 20000 in
theorem gX7_costInTurn_X0_shootIfPossible : GoodIn wsX7_costInTurn (wsV RX7 257 RX0 yX0_shootIfPossible wsX0_shootIfPossible) := goodIn_app (goodIn_of _ (by decide +kernel)) ggX7_costInTurn_X0_shootIfPossible
set_option maxRecDepth 20000 in
theorem ggX7_costInTurn_X0_allCosts : GoodIn wsX7_costInTurn wsX0_allCosts := goodIn_r _ [122, 14, 15, 129, 130, 131, 132, 133, 134, 135, 136, 137, 138] (by decide +kernel) (by decide +kernel)
set_option maxRecDepth 20000 in
theorem gX7_costInTurn_X0_allCosts : GoodIn wsX7_costInTurn (wsV RX7 260 RX0 yX0_allCosts wsX0_allCosts) := goodIn_app (goodIn_of _ (by decide +kernel)) ggX7_costInTurn_X0_allCosts
theorem dX7_costInTurn_0 : decode cX7_costInTurn 0 = .ok (.aload_n 0, 1) := by decide +kernel
theorem dX7_costInTurn_1 : decode cX7_costInTurn 1 = .ok (.getfield 16, 3) := by decide +kernel
theorem dX7_costInTurn_4 : decode cX7_costInTurn 4 = .ok (.aload_n 0, 1) := by decide +kernel
theorem dX7_costInTurn_5 : decode cX7_costInTurn 5 = .ok (.getfield 10, 3) := by decide +kernel
theorem dX7_costInTurn_8 : decode cX7_costInTurn 8 = .ok (.invokevirtual 178, 3) := by decide +kernel
theorem dX7_costInTurn_11 : decode cX7_costInTurn 11 = .ok (.aload_n 0, 1) := by decide +kernel
theorem dX7_costInTurn_12 : decode cX7_costInTurn 12 = .ok (.getfield 16, 3) := by decide +kernel
theorem dX7_costInTurn_15 : decode cX7_costInTurn 15 = .ok (.iload_n 1, 1) := by decide +kernel
theorem dX7_costInTurn_16 : decode cX7_costInTurn 16 = .ok (.invokevirtual 257, 3) := by decide +kernel
theorem dX7_costInTurn_19 : decode cX7_costInTurn 19 = .ok (.ifCond .eq 14, 3) := by decide +kernel
theorem dX7_costInTurn_22 : decode cX7_costInTurn 22 = .ok (.aload_n 0, 1) := by decide +kernel
theorem dX7_costInTurn_23 : decode cX7_costInTurn 23 = .ok (.getfield 16, 3) := by decide +kernel
theorem dX7_costInTurn_26 : decode cX7_costInTurn 26 = .ok (.iload_n 2, 1) := by decide +kernel
theorem dX7_costInTurn_27 : decode cX7_costInTurn 27 = .ok (.invokevirtual 257, 3) := by decide +kernel
theorem dX7_costInTurn_30 : decode cX7_costInTurn 30 = .ok (.ifCond .ne 5, 3) := by decide +kernel
theorem dX7_costInTurn_33 : decode cX7_costInTurn 33 = .ok (.iconst (-1), 1) := by decide +kernel
theorem dX7_costInTurn_34 : decode cX7_costInTurn 34 = .ok (.ireturn, 1) := by decide +kernel
theorem dX7_costInTurn_35 : decode cX7_costInTurn 35 = .ok (.aload_n 0, 1) := by decide +kernel
theorem dX7_costInTurn_36 : decode cX7_costInTurn 36 = .ok (.getfield 16, 3) := by decide +kernel
theorem dX7_costInTurn_39 : decode cX7_costInTurn 39 = .ok (.invokevirtual 260, 3) := by decide +kernel
theorem dX7_costInTurn_42 : decode cX7_costInTurn 42 = .ok (.aload_n 0, 1) := by decide +kernel
theorem dX7_costInTurn_43 : decode cX7_costInTurn 43 = .ok (.getfield 10, 3) := by decide +kernel
theorem dX7_costInTurn_46 : decode cX7_costInTurn 46 = .ok (.invokevirtual 260, 3) := by decide +kernel
theorem dX7_costInTurn_49 : decode cX7_costInTurn 49 = .ok (.isub, 1) := by decide +kernel
theorem dX7_costInTurn_50 : decode cX7_costInTurn 50 = .ok (.ireturn, 1) := by decide +kernel
theorem dX7_groupUnit_0 : decode cX7_groupUnit 0 = .ok (.lconst 1, 1) := by decide +kernel
theorem dX7_groupUnit_1 : decode cX7_groupUnit 1 = .ok (.lstore_n 1, 1) := by decide +kernel
theorem dX7_groupUnit_2 : decode cX7_groupUnit 2 = .ok (.iconst 0, 1) := by decide +kernel
theorem dX7_groupUnit_3 : decode cX7_groupUnit 3 = .ok (.istore_n 3, 1) := by decide +kernel
theorem dX7_groupUnit_4 : decode cX7_groupUnit 4 = .ok (.iload_n 3, 1) := by decide +kernel
theorem dX7_groupUnit_5 : decode cX7_groupUnit 5 = .ok (.iload_n 0, 1) := by decide +kernel
theorem dX7_groupUnit_6 : decode cX7_groupUnit 6 = .ok (.if_icmp .ge 20, 3) := by decide +kernel
theorem dX7_groupUnit_9 : decode cX7_groupUnit 9 = .ok (.iload_n 3, 1) := by decide +kernel
theorem dX7_groupUnit_10 : decode cX7_groupUnit 10 = .ok (.iconst 3, 1) := by decide +kernel
theorem dX7_groupUnit_11 : decode cX7_groupUnit 11 = .ok (.if_icmp .ge 15, 3) := by decide +kernel
theorem dX7_groupUnit_14 : decode cX7_groupUnit 14 = .ok (.lload_n 1, 1) := by decide +kernel
theorem dX7_groupUnit_15 : decode cX7_groupUnit 15 = .ok (.ldc2_w 263, 3) := by decide +kernel
theorem dX7_groupUnit_18 : decode cX7_groupUnit 18 = .ok (.lmul, 1) := by decide +kernel
theorem dX7_groupUnit_19 : decode cX7_groupUnit 19 = .ok (.lstore_n 1, 1) := by decide +kernel
theorem dX7_groupUnit_20 : decode cX7_groupUnit 20 = .ok (.iinc 3 1, 3) := by decide +kernel
theorem dX7_groupUnit_23 : decode cX7_groupUnit 23 = .ok (.goto (-19), 3) := by decide +kernel
theorem dX7_groupUnit_26 : decode cX7_groupUnit 26 = .ok (.lload_n 1, 1) := by decide +kernel
theorem dX7_groupUnit_27 : decode cX7_groupUnit 27 = .ok (.lreturn, 1) := by decide +kernel
theorem dX7_groupOf_0 : decode cX7_groupOf 0 = .ok (.lload_n 0, 1) := by decide +kernel
theorem dX7_groupOf_1 : decode cX7_groupOf 1 = .ok (.lstore_n 3, 1) := by decide +kernel
theorem dX7_groupOf_2 : decode cX7_groupOf 2 = .ok (.iconst 0, 1) := by decide +kernel
theorem dX7_groupOf_3 : decode cX7_groupOf 3 = .ok (.istore 5, 2) := by decide +kernel
theorem dX7_groupOf_5 : decode cX7_groupOf 5 = .ok (.iload 5, 2) := by decide +kernel
theorem dX7_groupOf_7 : decode cX7_groupOf 7 = .ok (.iload_n 2, 1) := by decide +kernel
theorem dX7_groupOf_8 : decode cX7_groupOf 8 = .ok (.if_icmp .ge 21, 3) := by decide +kernel
theorem dX7_groupOf_11 : decode cX7_groupOf 11 = .ok (.iload 5, 2) := by decide +kernel
theorem dX7_groupOf_13 : decode cX7_groupOf 13 = .ok (.iconst 3, 1) := by decide +kernel
theorem dX7_groupOf_14 : decode cX7_groupOf 14 = .ok (.if_icmp .ge 15, 3) := by decide +kernel
theorem dX7_groupOf_17 : decode cX7_groupOf 17 = .ok (.lload_n 3, 1) := by decide +kernel
theorem dX7_groupOf_18 : decode cX7_groupOf 18 = .ok (.ldc2_w 263, 3) := by decide +kernel
theorem dX7_groupOf_21 : decode cX7_groupOf 21 = .ok (.ldiv, 1) := by decide +kernel
theorem dX7_groupOf_22 : decode cX7_groupOf 22 = .ok (.lstore_n 3, 1) := by decide +kernel
theorem dX7_groupOf_23 : decode cX7_groupOf 23 = .ok (.iinc 5 1, 3) := by decide +kernel
theorem dX7_groupOf_26 : decode cX7_groupOf 26 = .ok (.goto (-21), 3) := by decide +kernel
theorem dX7_groupOf_29 : decode cX7_groupOf 29 = .ok (.lload_n 3, 1) := by decide +kernel
theorem dX7_groupOf_30 : decode cX7_groupOf 30 = .ok (.ldc2_w 263, 3) := by decide +kernel
theorem dX7_groupOf_33 : decode cX7_groupOf 33 = .ok (.lrem, 1) := by decide +kernel
theorem dX7_groupOf_34 : decode cX7_groupOf 34 = .ok (.l2i, 1) := by decide +kernel
theorem dX7_groupOf_35 : decode cX7_groupOf 35 = .ok (.ireturn, 1) := by decide +kernel
