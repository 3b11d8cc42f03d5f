set_option maxRecDepth 20000 in
theorem ggX0_init_X5_init : GoodIn wsX0_init wsX5_init := goodIn_r _ [12, 13, 2, 3, 14, 15, 16, 17, 18, 19, 20, 41, 42] (by decide +kernel) (by decide +kernel)
set_option maxRecDepth 20000 in
theorem gX0_init_X5_init : GoodIn wsX0_init (wsX5_init) := ggX0_init_X5_init
set_option maxRecDepth 20000 in
theorem ggX0_init_X0_startNew : GoodIn wsX0_init wsX0_startNew := goodIn_r _ [25, 7, 8, 9, 26, 27, 28, 29, 30, 31, 32, 33, 34, 35, 6, 36, 20, 37, 38, 39, 40, 14, 43, 44, 45, 46, 47, 48, 49, 50, 51, 52, 41, 42] (by decide +kernel) (by decide +kernel)
set_option maxRecDepth 20000 in
theorem gX0_init_X0_startNew : GoodIn wsX0_init (wsV RX0 26 RX0 yX0_startNew wsX0_startNew) := goodIn_app (goodIn_of _ (by decide +kernel)) ggX0_init_X0_startNew
theorem dX0_init_0 : decode cX0_init 0 = .ok (.aload_n 0, 1) := by decide +kernel
theorem dX0_init_1 : decode cX0_init 1 = .ok (.invokespecial 3, 3) := by decide +kernel
theorem dX0_init_4 : decode cX0_init 4 = .ok (.aload_n 0, 1) := by decide +kernel
theorem dX0_init_5 : decode cX0_init 5 = .ok (.new 9, 3) := by decide +kernel
theorem dX0_init_8 : decode cX0_init 8 = .ok (.dup, 1) := by decide +kernel
theorem dX0_init_9 : decode cX0_init 9 = .ok (.bipush 6, 2) := by decide +kernel
theorem dX0_init_11 : decode cX0_init 11 = .ok (.bipush 14, 2) := by decide +kernel
theorem dX0_init_13 : decode cX0_init 13 = .ok (.invokespecial 11, 3) := by decide +kernel
theorem dX0_init_16 : decode cX0_init 16 = .ok (.putfield 14, 3) := by decide +kernel
theorem dX0_init_19 : decode cX0_init 19 = .ok (.aload_n 0, 1) := by decide +kernel
theorem dX0_init_20 : decode cX0_init 20 = .ok (.new 9, 3) := by decide +kernel
theorem dX0_init_23 : decode cX0_init 23 = .ok (.dup, 1) := by decide +kernel
theorem dX0_init_24 : decode cX0_init 24 = .ok (.bipush 6, 2) := by decide +kernel
theorem dX0_init_26 : decode cX0_init 26 = .ok (.bipush 10, 2) := by decide +kernel
theorem dX0_init_28 : decode cX0_init 28 = .ok (.invokespecial 11, 3) := by decide +kernel
theorem dX0_init_31 : decode cX0_init 31 = .ok (.putfield 20, 3) := by decide +kernel
theorem dX0_init_34 : decode cX0_init 34 = .ok (.aload_n 0, 1) := by decide +kernel
theorem dX0_init_35 : decode cX0_init 35 = .ok (.new 9, 3) := by decide +kernel
theorem dX0_init_38 : decode cX0_init 38 = .ok (.dup, 1) := by decide +kernel
theorem dX0_init_39 : decode cX0_init 39 = .ok (.iconst 3, 1) := by decide +kernel
theorem dX0_init_40 : decode cX0_init 40 = .ok (.iconst 1, 1) := by decide +kernel
theorem dX0_init_41 : decode cX0_init 41 = .ok (.invokespecial 11, 3) := by decide +kernel
theorem dX0_init_44 : decode cX0_init 44 = .ok (.putfield 23, 3) := by decide +kernel
theorem dX0_init_47 : decode cX0_init 47 = .ok (.aload_n 0, 1) := by decide +kernel
theorem dX0_init_48 : decode cX0_init 48 = .ok (.invokevirtual 26, 3) := by decide +kernel
theorem dX0_init_51 : decode cX0_init 51 = .ok (.return_, 1) := by decide +kernel
set_option maxRecDepth 20000 in
theorem ggX0_startNew_X5_fillAll : GoodIn wsX0_startNew wsX5_fillAll := goodIn_r _ [15, 16, 32, 33] (by decide +kernel) (by decide +kernel)
set_option maxRecDepth 20000 in
theorem gX0_startNew_X5_fillAll : GoodIn wsX0_startNew (wsV RX0 29 RX5 yX5_fillAll wsX5_fillAll) := goodIn_app (goodIn_of _ (by decide +kernel)) ggX0_startNew_X5_fillAll
set_option maxRecDepth 20000 in
theorem ggX0_startNew_X5_put : GoodIn wsX0_startNew wsX5_put := goodIn_r _ [20, 21, 16, 32, 33] (by decide +kernel) (by decide +kernel)
set_option maxRecDepth 20000 in
theorem gX0_startNew_X5_put : GoodIn wsX0_startNew (wsV RX0 33 RX5 yX5_put wsX5_put) := goodIn_app (goodIn_of _ (by decide +kernel)) ggX0_startNew_X5_put
theorem dX0_startNew_0 : decode cX0_startNew 0 = .ok (.aload_n 0, 1) := by decide +kernel
theorem dX0_startNew_1 : decode cX0_startNew 1 = .ok (.getfield 14, 3) := by decide +kernel
theorem dX0_startNew_4 : decode cX0_startNew 4 = .ok (.iconst 0, 1) := by decide +kernel
theorem dX0_startNew_5 : decode cX0_startNew 5 = .ok (.invokevirtual 29, 3) := by decide +kernel
theorem dX0_startNew_8 : decode cX0_startNew 8 = .ok (.aload_n 0, 1) := by decide +kernel
theorem dX0_startNew_9 : decode cX0_startNew 9 = .ok (.getfield 20, 3) := by decide +kernel
theorem dX0_startNew_12 : decode cX0_startNew 12 = .ok (.iconst 0, 1) := by decide +kernel
theorem dX0_startNew_13 : decode cX0_startNew 13 = .ok (.invokevirtual 29, 3) := by decide +kernel
theorem dX0_startNew_16 : decode cX0_startNew 16 = .ok (.aload_n 0, 1) := by decide +kernel
theorem dX0_startNew_17 : decode cX0_startNew 17 = .ok (.getfield 23, 3) := by decide +kernel
theorem dX0_startNew_20 : decode cX0_startNew 20 = .ok (.iconst 0, 1) := by decide +kernel
theorem dX0_startNew_21 : decode cX0_startNew 21 = .ok (.iconst 0, 1) := by decide +kernel
theorem dX0_startNew_22 : decode cX0_startNew 22 = .ok (.sipush 600, 3) := by decide +kernel
theorem dX0_startNew_25 : decode cX0_startNew 25 = .ok (.invokevirtual 33, 3) := by decide +kernel
theorem dX0_startNew_28 : decode cX0_startNew 28 = .ok (.aload_n 0, 1) := by decide +kernel
theorem dX0_startNew_29 : decode cX0_startNew 29 = .ok (.getfield 23, 3) := by decide +kernel
theorem dX0_startNew_32 : decode cX0_startNew 32 = .ok (.iconst 1, 1) := by decide +kernel
theorem dX0_startNew_33 : decode cX0_startNew 33 = .ok (.iconst 0, 1) := by decide +kernel
theorem dX0_startNew_34 : decode cX0_startNew 34 = .ok (.bipush 10, 2) := by decide +kernel
theorem dX0_startNew_36 : decode cX0_startNew 36 = .ok (.invokevirtual 33, 3) := by decide +kernel
theorem dX0_startNew_39 : decode cX0_startNew 39 = .ok (.aload_n 0, 1) := by decide +kernel
theorem dX0_startNew_40 : decode cX0_startNew 40 = .ok (.getfield 23, 3) := by decide +kernel
theorem dX0_startNew_43 : decode cX0_startNew 43 = .ok (.iconst 2, 1) := by decide +kernel
theorem dX0_startNew_44 : decode cX0_startNew 44 = .ok (.iconst 0, 1) := by decide +kernel
theorem dX0_startNew_45 : decode cX0_startNew 45 = .ok (.iconst 5, 1) := by decide +kernel
theorem dX0_startNew_46 : decode cX0_startNew 46 = .ok (.invokevirtual 33, 3) := by decide +kernel
theorem dX0_startNew_49 : decode cX0_startNew 49 = .ok (.aload_n 0, 1) := by decide +kernel
theorem dX0_startNew_50 : decode cX0_startNew 50 = .ok (.iconst 0, 1) := by decide +kernel
theorem dX0_startNew_51 : decode cX0_startNew 51 = .ok (.putfield 37, 3) := by decide +kernel
theorem dX0_startNew_54 : decode cX0_startNew 54 = .ok (.aload_n 0, 1) := by decide +kernel
theorem dX0_startNew_55 : decode cX0_startNew 55 = .ok (.iconst 0, 1) := by decide +kernel
theorem dX0_startNew_56 : decode cX0_startNew 56 = .ok (.putfield 41, 3) := by decide +kernel
theorem dX0_startNew_59 : decode cX0_startNew 59 = .ok (.aload_n 0, 1) := by decide +kernel
theorem dX0_startNew_60 : decode cX0_startNew 60 = .ok (.iconst 0, 1) := by decide +kernel
theorem dX0_startNew_61 : decode cX0_startNew 61 = .ok (.putfield 44, 3) := by decide +kernel
theorem dX0_startNew_64 : decode cX0_startNew 64 = .ok (.aload_n 0, 1) := by decide +kernel
theorem dX0_startNew_65 : decode cX0_startNew 65 = .ok (.iconst 0, 1) := by decide +kernel
theorem dX0_startNew_66 : decode cX0_startNew 66 = .ok (.putfield 47, 3) := by decide +kernel
theorem dX0_startNew_69 : decode cX0_startNew 69 = .ok (.aload_n 0, 1) := by decide +kernel
theorem dX0_startNew_70 : decode cX0_startNew 70 = .ok (.iconst 0, 1) := by decide +kernel
theorem dX0_startNew_71 : decode cX0_startNew 71 = .ok (.putfield 50, 3) := by decide +kernel
theorem dX0_startNew_74 : decode cX0_startNew 74 = .ok (.aload_n 0, 1) := by decide +kernel
theorem dX0_startNew_75 : decode cX0_startNew 75 = .ok (.iconst 0, 1) := by decide +kernel
theorem dX0_startNew_76 : decode cX0_startNew 76 = .ok (.putfield 53, 3) := by decide +kernel
theorem dX0_startNew_79 : decode cX0_startNew 79 = .ok (.aload_n 0, 1) := by decide +kernel
theorem dX0_startNew_80 : decode cX0_startNew 80 = .ok (.iconst 0, 1) := by decide +kernel
theorem dX0_startNew_81 : decode cX0_startNew 81 = .ok (.putfield 56, 3) := by decide +kernel
theorem dX0_startNew_84 : decode cX0_startNew 84 = .ok (.return_, 1) := by decide +kernel
set_option maxRecDepth 20000 in
theorem ggX0_copy_X5_copy : GoodIn wsX0_copy wsX5_copy := goodIn_r _ [15, 16, 27, 28] (by decide +kernel) (by decide +kernel)
set_option maxRecDepth 20000 in
theorem gX0_copy_X5_copy : GoodIn wsX0_copy (wsV RX0 59 RX5 yX5_copy wsX5_copy) := goodIn_app (goodIn_of _ (by decide +kernel)) ggX0_copy_X5_copy
theorem dX0_copy_0 : decode cX0_copy 0 = .ok (.aload_n 0, 1) := by decide +kernel
theorem dX0_copy_1 : decode cX0_copy 1 = .ok (.getfield 14, 3) := by decide +kernel
theorem dX0_copy_4 : decode cX0_copy 4 = .ok (.aload_n 1, 1) := by decide +kernel
theorem dX0_copy_5 : decode cX0_copy 5 = .ok (.getfield 14, 3) := by decide +kernel
theorem dX0_copy_8 : decode cX0_copy 8 = .ok (.invokevirtual 59, 3) := by decide +kernel
theorem dX0_copy_11 : decode cX0_copy 11 = .ok (.aload_n 0, 1) := by decide +kernel
theorem dX0_copy_12 : decode cX0_copy 12 = .ok (.getfield 20, 3) := by decide +kernel
theorem dX0_copy_15 : decode cX0_copy 15 = .ok (.aload_n 1, 1) := by decide +kernel
theorem dX0_copy_16 : decode cX0_copy 16 = .ok (.getfield 20, 3) := by decide +kernel
theorem dX0_copy_19 : decode cX0_copy 19 = .ok (.invokevirtual 59, 3) := by decide +kernel
theorem dX0_copy_22 : decode cX0_copy 22 = .ok (.aload_n 0, 1) := by decide +kernel
theorem dX0_copy_23 : decode cX0_copy 23 = .ok (.getfield 23, 3) := by decide +kernel
theorem dX0_copy_26 : decode cX0_copy 26 = .ok (.aload_n 1, 1) := by decide +kernel
theorem dX0_copy_27 : decode cX0_copy 27 = .ok (.getfield 23, 3) := by decide +kernel
theorem dX0_copy_30 : decode cX0_copy 30 = .ok (.invokevirtual 59, 3) := by decide +kernel
theorem dX0_copy_33 : decode cX0_copy 33 = .ok (.aload_n 0, 1) := by decide +kernel
theorem dX0_copy_34 : decode cX0_copy 34 = .ok (.aload_n 1, 1) := by decide +kernel
theorem dX0_copy_35 : decode cX0_copy 35 = .ok (.getfield 37, 3) := by decide +kernel
theorem dX0_copy_38 : decode cX0_copy 38 = .ok (.putfield 37, 3) := by decide +kernel
theorem dX0_copy_41 : decode cX0_copy 41 = .ok (.aload_n 0, 1) := by decide +kernel
theorem dX0_copy_42 : decode cX0_copy 42 = .ok (.aload_n 1, 1) := by decide +kernel
theorem dX0_copy_43 : decode cX0_copy 43 = .ok (.getfield 41, 3) := by decide +kernel
theorem dX0_copy_46 : decode cX0_copy 46 = .ok (.putfield 41, 3) := by decide +kernel
theorem dX0_copy_49 : decode cX0_copy 49 = .ok (.aload_n 0, 1) := by decide +kernel
theorem dX0_copy_50 : decode cX0_copy 50 = .ok (.aload_n 1, 1) := by decide +kernel
theorem dX0_copy_51 : decode cX0_copy 51 = .ok (.getfield 44, 3) := by decide +kernel
theorem dX0_copy_54 : decode cX0_copy 54 = .ok (.putfield 44, 3) := by decide +kernel
theorem dX0_copy_57 : decode cX0_copy 57 = .ok (.aload_n 0, 1) := by decide +kernel
theorem dX0_copy_58 : decode cX0_copy 58 = .ok (.aload_n 1, 1) := by decide +kernel
theorem dX0_copy_59 : decode cX0_copy 59 = .ok (.getfield 47, 3) := by decide +kernel
theorem dX0_copy_62 : decode cX0_copy 62 = .ok (.putfield 47, 3) := by decide +kernel
theorem dX0_copy_65 : decode cX0_copy 65 = .ok (.aload_n 0, 1) := by decide +kernel
theorem dX0_copy_66 : decode cX0_copy 66 = .ok (.aload_n 1, 1) := by decide +kernel
theorem dX0_copy_67 : decode cX0_copy 67 = .ok (.getfield 50, 3) := by decide +kernel
theorem dX0_copy_70 : decode cX0_copy 70 = .ok (.putfield 50, 3) := by decide +kernel
theorem dX0_copy_73 : decode cX0_copy 73 = .ok (.aload_n 0, 1) := by decide +kernel
theorem dX0_copy_74 : decode cX0_copy 74 = .ok (.aload_n 1, 1) := by decide +kernel
theorem dX0_copy_75 : decode cX0_copy 75 = .ok (.getfield 53, 3) := by decide +kernel
theorem dX0_copy_78 : decode cX0_copy 78 = .ok (.putfield 53, 3) := by decide +kernel
theorem dX0_copy_81 : decode cX0_copy 81 = .ok (.aload_n 0, 1) := by decide +kernel
theorem dX0_copy_82 : decode cX0_copy 82 = .ok (.aload_n 1, 1) := by decide +kernel
theorem dX0_copy_83 : decode cX0_copy 83 = .ok (.getfield 56, 3) := by decide +kernel
theorem dX0_copy_86 : decode cX0_copy 86 = .ok (.putfield 56, 3) := by decide +kernel
theorem dX0_copy_89 : decode cX0_copy 89 = .ok (.return_, 1) := by decide +kernel
theorem dX0_isExtra_0 : decode cX0_isExtra 0 = .ok (.iload_n 1, 1) := by decide +kernel
theorem dX0_isExtra_1 : decode cX0_isExtra 1 = .ok (.ifCond .lt 15, 3) := by decide +kernel
theorem dX0_isExtra_4 : decode cX0_isExtra 4 = .ok (.iload_n 1, 1) := by decide +kernel
theorem dX0_isExtra_5 : decode cX0_isExtra 5 = .ok (.aload_n 0, 1) := by decide +kernel
theorem dX0_isExtra_6 : decode cX0_isExtra 6 = .ok (.getfield 37, 3) := by decide +kernel
theorem dX0_isExtra_9 : decode cX0_isExtra 9 = .ok (.if_icmp .ge 7, 3) := by decide +kernel
theorem dX0_isExtra_12 : decode cX0_isExtra 12 = .ok (.iconst 1, 1) := by decide +kernel
theorem dX0_isExtra_13 : decode cX0_isExtra 13 = .ok (.goto 4, 3) := by decide +kernel
theorem dX0_isExtra_16 : decode cX0_isExtra 16 = .ok (.iconst 0, 1) := by decide +kernel
theorem dX0_isExtra_17 : decode cX0_isExtra 17 = .ok (.ireturn, 1) := by decide +kernel
theorem dX0_isScene_0 : decode cX0_isScene 0 = .ok (.iload_n 1, 1) := by decide +kernel
theorem dX0_isScene_1 : decode cX0_isScene 1 = .ok (.ifCond .lt 15, 3) := by decide +kernel
theorem dX0_isScene_4 : decode cX0_isScene 4 = .ok (.iload_n 1, 1) := by decide +kernel
theorem dX0_isScene_5 : decode cX0_isScene 5 = .ok (.aload_n 0, 1) := by decide +kernel
theorem dX0_isScene_6 : decode cX0_isScene 6 = .ok (.getfield 41, 3) := by decide +kernel
theorem dX0_isScene_9 : decode cX0_isScene 9 = .ok (.if_icmp .ge 7, 3) := by decide +kernel
theorem dX0_isScene_12 : decode cX0_isScene 12 = .ok (.iconst 1, 1) := by decide +kernel
theorem dX0_isScene_13 : decode cX0_isScene 13 = .ok (.goto 4, 3) := by decide +kernel
theorem dX0_isScene_16 : decode cX0_isScene 16 = .ok (.iconst 0, 1) := by decide +kernel
theorem dX0_isScene_17 : decode cX0_isScene 17 = .ok (.ireturn, 1) := by decide +kernel
theorem dX0_hasRoomForExtra_0 : decode cX0_hasRoomForExtra 0 = .ok (.aload_n 0, 1) := by decide +kernel
theorem dX0_hasRoomForExtra_1 : decode cX0_hasRoomForExtra 1 = .ok (.getfield 37, 3) := by decide +kernel
theorem dX0_hasRoomForExtra_4 : decode cX0_hasRoomForExtra 4 = .ok (.bipush 14, 2) := by decide +kernel
theorem dX0_hasRoomForExtra_6 : decode cX0_hasRoomForExtra 6 = .ok (.if_icmp .ge 7, 3) := by decide +kernel
theorem dX0_hasRoomForExtra_9 : decode cX0_hasRoomForExtra 9 = .ok (.iconst 1, 1) := by decide +kernel
theorem dX0_hasRoomForExtra_10 : decode cX0_hasRoomForExtra 10 = .ok (.goto 4, 3) := by decide +kernel
theorem dX0_hasRoomForExtra_13 : decode cX0_hasRoomForExtra 13 = .ok (.iconst 0, 1) := by decide +kernel
theorem dX0_hasRoomForExtra_14 : decode cX0_hasRoomForExtra 14 = .ok (.ireturn, 1) := by decide +kernel
theorem dX0_hasRoomForScene_0 : decode cX0_hasRoomForScene 0 = .ok (.aload_n 0, 1) := by decide +kernel
theorem dX0_hasRoomForScene_1 : decode cX0_hasRoomForScene 1 = .ok (.getfield 41, 3) := by decide +kernel
theorem dX0_hasRoomForScene_4 : decode cX0_hasRoomForScene 4 = .ok (.bipush 10, 2) := by decide +kernel
theorem dX0_hasRoomForScene_6 : decode cX0_hasRoomForScene 6 = .ok (.if_icmp .ge 7, 3) := by decide +kernel
theorem dX0_hasRoomForScene_9 : decode cX0_hasRoomForScene 9 = .ok (.iconst 1, 1) := by decide +kernel
theorem dX0_hasRoomForScene_10 : decode cX0_hasRoomForScene 10 = .ok (.goto 4, 3) := by decide +kernel
theorem dX0_hasRoomForScene_13 : decode cX0_hasRoomForScene 13 = .ok (.iconst 0, 1) := by decide +kernel
theorem dX0_hasRoomForScene_14 : decode cX0_hasRoomForScene 14 = .ok (.ireturn, 1) := by decide +kernel
set_option maxRecDepth 20000 in
theorem ggX0_valueOf_X5_get : GoodIn wsX0_valueOf wsX5_get := goodIn_r _ [6, 7, 8, 19, 20] (by decide +kernel) (by decide +kernel)
set_option maxRecDepth 20000 in
theorem gX0_valueOf_X5_get : GoodIn wsX0_valueOf (wsV RX0 63 RX5 yX5_get wsX5_get) := goodIn_app (goodIn_of _ (by decide +kernel)) ggX0_valueOf_X5_get
theorem dX0_valueOf_0 : decode cX0_valueOf 0 = .ok (.aload_n 0, 1) := by decide +kernel
theorem dX0_valueOf_1 : decode cX0_valueOf 1 = .ok (.getfield 23, 3) := by decide +kernel
theorem dX0_valueOf_4 : decode cX0_valueOf 4 = .ok (.iload_n 1, 1) := by decide +kernel
theorem dX0_valueOf_5 : decode cX0_valueOf 5 = .ok (.iconst 0, 1) := by decide +kernel
theorem dX0_valueOf_6 : decode cX0_valueOf 6 = .ok (.invokevirtual 63, 3) := by decide +kernel
theorem dX0_valueOf_9 : decode cX0_valueOf 9 = .ok (.ireturn, 1) := by decide +kernel
set_option maxRecDepth 20000 in
theorem ggX0_crowdOf_X5_get : GoodIn wsX0_crowdOf wsX5_get := goodIn_r _ [6, 7, 8, 19, 20] (by decide +kernel) (by decide +kernel)
set_option maxRecDepth 20000 in
theorem gX0_crowdOf_X5_get : GoodIn wsX0_crowdOf (wsV RX0 63 RX5 yX5_get wsX5_get) := goodIn_app (goodIn_of _ (by decide +kernel)) ggX0_crowdOf_X5_get
theorem dX0_crowdOf_0 : decode cX0_crowdOf 0 = .ok (.aload_n 0, 1) := by decide +kernel
theorem dX0_crowdOf_1 : decode cX0_crowdOf 1 = .ok (.getfield 20, 3) := by decide +kernel
theorem dX0_crowdOf_4 : decode cX0_crowdOf 4 = .ok (.iconst 5, 1) := by decide +kernel
theorem dX0_crowdOf_5 : decode cX0_crowdOf 5 = .ok (.iload_n 1, 1) := by decide +kernel
theorem dX0_crowdOf_6 : decode cX0_crowdOf 6 = .ok (.invokevirtual 63, 3) := by decide +kernel
theorem dX0_crowdOf_9 : decode cX0_crowdOf 9 = .ok (.ireturn, 1) := by decide +kernel
set_option maxRecDepth 20000 in
theorem ggX0_hasWorked_X5_get : GoodIn wsX0_hasWorked wsX5_get := goodIn_r _ [6, 7, 8, 19, 20] (by decide +kernel) (by decide +kernel)
set_option maxRecDepth 20000 in
theorem gX0_hasWorked_X5_get : GoodIn wsX0_hasWorked (wsV RX0 63 RX5 yX5_get wsX5_get) := goodIn_app (goodIn_of _ (by decide +kernel)) ggX0_hasWorked_X5_get
theorem dX0_hasWorked_0 : decode cX0_hasWorked 0 = .ok (.aload_n 0, 1) := by decide +kernel
theorem dX0_hasWorked_1 : decode cX0_hasWorked 1 = .ok (.getfield 14, 3) := by decide +kernel
theorem dX0_hasWorked_4 : decode cX0_hasWorked 4 = .ok (.iconst 2, 1) := by decide +kernel
theorem dX0_hasWorked_5 : decode cX0_hasWorked 5 = .ok (.iload_n 1, 1) := by decide +kernel
theorem dX0_hasWorked_6 : decode cX0_hasWorked 6 = .ok (.invokevirtual 63, 3) := by decide +kernel
theorem dX0_hasWorked_9 : decode cX0_hasWorked 9 = .ok (.ifCond .le 7, 3) := by decide +kernel
theorem dX0_hasWorked_12 : decode cX0_hasWorked 12 = .ok (.iconst 1, 1) := by decide +kernel
theorem dX0_hasWorked_13 : decode cX0_hasWorked 13 = .ok (.goto 4, 3) := by decide +kernel
theorem dX0_hasWorked_16 : decode cX0_hasWorked 16 = .ok (.iconst 0, 1) := by decide +kernel
theorem dX0_hasWorked_17 : decode cX0_hasWorked 17 = .ok (.ireturn, 1) := by decide +kernel
theorem dX0_allPenalties_0 : decode cX0_allPenalties 0 = .ok (.aload_n 0, 1) := by decide +kernel
theorem dX0_allPenalties_1 : decode cX0_allPenalties 1 = .ok (.getfield 53, 3) := by decide +kernel
theorem dX0_allPenalties_4 : decode cX0_allPenalties 4 = .ok (.ireturn, 1) := by decide +kernel
theorem dX0_allBreaks_0 : decode cX0_allBreaks 0 = .ok (.aload_n 0, 1) := by decide +kernel
theorem dX0_allBreaks_1 : decode cX0_allBreaks 1 = .ok (.getfield 56, 3) := by decide +kernel
theorem dX0_allBreaks_4 : decode cX0_allBreaks 4 = .ok (.ireturn, 1) := by decide +kernel
theorem dX0_allCosts_0 : decode cX0_allCosts 0 = .ok (.aload_n 0, 1) := by decide +kernel
theorem dX0_allCosts_1 : decode cX0_allCosts 1 = .ok (.getfield 47, 3) := by decide +kernel
theorem dX0_allCosts_4 : decode cX0_allCosts 4 = .ok (.aload_n 0, 1) := by decide +kernel
theorem dX0_allCosts_5 : decode cX0_allCosts 5 = .ok (.getfield 50, 3) := by decide +kernel
theorem dX0_allCosts_8 : decode cX0_allCosts 8 = .ok (.iadd, 1) := by decide +kernel
theorem dX0_allCosts_9 : decode cX0_allCosts 9 = .ok (.ireturn, 1) := by decide +kernel
set_option maxRecDepth 20000 in
theorem ggX0_shotScenes_X0_crowdOf : GoodIn wsX0_shotScenes wsX0_crowdOf := goodIn_r _ [6, 7, 8, 9, 10, 11, 12, 13, 14, 15, 16, 17, 18, 19, 20, 21, 22, 23, 24, 25, 26] (by decide +kernel) (by decide +kernel)
set_option maxRecDepth 20000 in
theorem gX0_shotScenes_X0_crowdOf : GoodIn wsX0_shotScenes (wsV RX0 67 RX0 yX0_crowdOf wsX0_crowdOf) := goodIn_app (goodIn_of _ (by decide +kernel)) ggX0_shotScenes_X0_crowdOf
theorem dX0_shotScenes_0 : decode cX0_shotScenes 0 = .ok (.iconst 0, 1) := by decide +kernel
theorem dX0_shotScenes_1 : decode cX0_shotScenes 1 = .ok (.istore_n 1, 1) := by decide +kernel
theorem dX0_shotScenes_2 : decode cX0_shotScenes 2 = .ok (.iconst 0, 1) := by decide +kernel
theorem dX0_shotScenes_3 : decode cX0_shotScenes 3 = .ok (.istore_n 2, 1) := by decide +kernel
theorem dX0_shotScenes_4 : decode cX0_shotScenes 4 = .ok (.iload_n 2, 1) := by decide +kernel
theorem dX0_shotScenes_5 : decode cX0_shotScenes 5 = .ok (.aload_n 0, 1) := by decide +kernel
theorem dX0_shotScenes_6 : decode cX0_shotScenes 6 = .ok (.getfield 41, 3) := by decide +kernel
theorem dX0_shotScenes_9 : decode cX0_shotScenes 9 = .ok (.if_icmp .ge 20, 3) := by decide +kernel
theorem dX0_shotScenes_12 : decode cX0_shotScenes 12 = .ok (.aload_n 0, 1) := by decide +kernel
theorem dX0_shotScenes_13 : decode cX0_shotScenes 13 = .ok (.iload_n 2, 1) := by decide +kernel
theorem dX0_shotScenes_14 : decode cX0_shotScenes 14 = .ok (.invokevirtual 67, 3) := by decide +kernel
theorem dX0_shotScenes_17 : decode cX0_shotScenes 17 = .ok (.ifCond .eq 6, 3) := by decide +kernel
theorem dX0_shotScenes_20 : decode cX0_shotScenes 20 = .ok (.iinc 1 1, 3) := by decide +kernel
theorem dX0_shotScenes_23 : decode cX0_shotScenes 23 = .ok (.iinc 2 1, 3) := by decide +kernel
theorem dX0_shotScenes_26 : decode cX0_shotScenes 26 = .ok (.goto (-22), 3) := by decide +kernel
theorem dX0_shotScenes_29 : decode cX0_shotScenes 29 = .ok (.iload_n 1, 1) := by decide +kernel
theorem dX0_shotScenes_30 : decode cX0_shotScenes 30 = .ok (.ireturn, 1) := by decide +kernel
set_option maxRecDepth 20000 in
theorem ggX0_total_X0_shotScenes : GoodIn wsX0_total wsX0_shotScenes := goodIn_r _ [12, 2, 13, 14, 15, 11, 16, 17, 18, 19, 20, 21, 22, 23, 24, 40, 41, 42, 43, 44, 45, 46, 47, 48, 49, 50, 51] (by decide +kernel) (by decide +kernel)
set_option maxRecDepth 20000 in
theorem gX0_total_X0_shotScenes : GoodIn wsX0_total (wsV RX0 71 RX0 yX0_shotScenes wsX0_shotScenes) := goodIn_app (goodIn_of _ (by decide +kernel)) ggX0_total_X0_shotScenes
set_option maxRecDepth 20000 in
theorem ggX0_total_X0_facesOf : GoodIn wsX0_total wsX0_facesOf := goodIn_r _ [28, 1, 29, 30, 31, 32, 18, 19, 20, 21, 22, 23, 24, 40, 41, 42, 43, 44, 45, 46, 47, 48, 49, 50, 51] (by decide +kernel) (by decide +kernel)
set_option maxRecDepth 20000 in
theorem gX0_total_X0_facesOf : GoodIn wsX0_total (wsV RX0 75 RX0 yX0_facesOf wsX0_facesOf) := goodIn_app (goodIn_of _ (by decide +kernel)) ggX0_total_X0_facesOf
set_option maxRecDepth 20000 in
theorem ggX0_total_J6_bitCount_0f7a4 : GoodIn wsX0_total wsJ6_bitCount_0f7a4 := goodIn_r _ [36, 37, 38, 39] (by decide +kernel) (by decide +kernel)
set_option maxRecDepth 20000 in
theorem gX0_total_J6_bitCount_0f7a4 : GoodIn wsX0_total (va_wsS RX0 78 yJ6_bitCount_0f7a4 wsJ6_bitCount_0f7a4) := goodIn_app (goodIn_of _ (by decide +kernel)) ggX0_total_J6_bitCount_0f7a4
theorem dX0_total_0 : decode cX0_total 0 = .ok (.iload_n 1, 1) := by decide +kernel
theorem dX0_total_1 : decode cX0_total 1 = .ok (.tableswitch 87 0 7 #[47, 52, 57, 62, 67, 72, 77, 82], 47) := by decide +kernel
theorem dX0_total_48 : decode cX0_total 48 = .ok (.aload_n 0, 1) := by decide +kernel
theorem dX0_total_49 : decode cX0_total 49 = .ok (.getfield 37, 3) := by decide +kernel
theorem dX0_total_52 : decode cX0_total 52 = .ok (.ireturn, 1) := by decide +kernel
theorem dX0_total_53 : decode cX0_total 53 = .ok (.aload_n 0, 1) := by decide +kernel
theorem dX0_total_54 : decode cX0_total 54 = .ok (.getfield 41, 3) := by decide +kernel
theorem dX0_total_57 : decode cX0_total 57 = .ok (.ireturn, 1) := by decide +kernel
theorem dX0_total_58 : decode cX0_total 58 = .ok (.aload_n 0, 1) := by decide +kernel
theorem dX0_total_59 : decode cX0_total 59 = .ok (.invokevirtual 71, 3) := by decide +kernel
theorem dX0_total_62 : decode cX0_total 62 = .ok (.ireturn, 1) := by decide +kernel
theorem dX0_total_63 : decode cX0_total 63 = .ok (.aload_n 0, 1) := by decide +kernel
theorem dX0_total_64 : decode cX0_total 64 = .ok (.getfield 44, 3) := by decide +kernel
theorem dX0_total_67 : decode cX0_total 67 = .ok (.ireturn, 1) := by decide +kernel
theorem dX0_total_68 : decode cX0_total 68 = .ok (.aload_n 0, 1) := by decide +kernel
theorem dX0_total_69 : decode cX0_total 69 = .ok (.getfield 47, 3) := by decide +kernel
theorem dX0_total_72 : decode cX0_total 72 = .ok (.ireturn, 1) := by decide +kernel
theorem dX0_total_73 : decode cX0_total 73 = .ok (.aload_n 0, 1) := by decide +kernel
theorem dX0_total_74 : decode cX0_total 74 = .ok (.getfield 50, 3) := by decide +kernel
theorem dX0_total_77 : decode cX0_total 77 = .ok (.ireturn, 1) := by decide +kernel
theorem dX0_total_78 : decode cX0_total 78 = .ok (.aload_n 0, 1) := by decide +kernel
theorem dX0_total_79 : decode cX0_total 79 = .ok (.getfield 53, 3) := by decide +kernel
theorem dX0_total_82 : decode cX0_total 82 = .ok (.ireturn, 1) := by decide +kernel
theorem dX0_total_83 : decode cX0_total 83 = .ok (.aload_n 0, 1) := by decide +kernel
theorem dX0_total_84 : decode cX0_total 84 = .ok (.getfield 56, 3) := by decide +kernel
theorem dX0_total_87 : decode cX0_total 87 = .ok (.ireturn, 1) := by decide +kernel
theorem dX0_total_88 : decode cX0_total 88 = .ok (.aload_n 0, 1) := by decide +kernel
theorem dX0_total_89 : decode cX0_total 89 = .ok (.iconst (-1), 1) := by decide +kernel
theorem dX0_total_90 : decode cX0_total 90 = .ok (.invokevirtual 75, 3) := by decide +kernel
theorem dX0_total_93 : decode cX0_total 93 = .ok (.invokestatic 78, 3) := by decide +kernel
theorem dX0_total_96 : decode cX0_total 96 = .ok (.ireturn, 1) := by decide +kernel
set_option maxRecDepth 20000 in
theorem ggX0_numberOfExtra_X0_scenesWith : GoodIn wsX0_numberOfExtra wsX0_scenesWith := goodIn_r _ [6, 7, 8, 9, 10, 5, 11, 12, 13, 14, 15, 16, 17, 18, 19, 20, 21, 22, 28, 29, 30, 31, 32, 33, 34, 35, 36, 37, 38, 39] (by decide +kernel) (by decide +kernel)
set_option maxRecDepth 20000 in
theorem gX0_numberOfExtra_X0_scenesWith : GoodIn wsX0_numberOfExtra (wsV RX0 83 RX0 yX0_scenesWith wsX0_scenesWith) := goodIn_app (goodIn_of _ (by decide +kernel)) ggX0_numberOfExtra_X0_scenesWith
set_option maxRecDepth 20000 in
theorem ggX0_numberOfExtra_X5_get : GoodIn wsX0_numberOfExtra wsX5_get := goodIn_r _ [17, 18, 19, 38, 39] (by decide +kernel) (by decide +kernel)
set_option maxRecDepth 20000 in
theorem gX0_numberOfExtra_X5_get : GoodIn wsX0_numberOfExtra (wsV RX0 63 RX5 yX5_get wsX5_get) := goodIn_app (goodIn_of _ (by decide +kernel)) ggX0_numberOfExtra_X5_get
set_option maxRecDepth 20000 in
theorem ggX0_numberOfExtra_X0_withFaces : GoodIn wsX0_numberOfExtra wsX0_withFaces := goodIn_r _ [26, 27, 1, 20, 21, 22, 13, 14, 15, 16, 17, 18, 19, 28, 29, 30, 31, 32, 33, 34, 35, 36, 37, 38, 39] (by decide +kernel) (by decide +kernel)
set_option maxRecDepth 20000 in
theorem gX0_numberOfExtra_X0_withFaces : GoodIn wsX0_numberOfExtra (wsV RX0 86 RX0 yX0_withFaces wsX0_withFaces) := goodIn_app (goodIn_of _ (by decide +kernel)) ggX0_numberOfExtra_X0_withFaces
theorem dX0_numberOfExtra_0 : decode cX0_numberOfExtra 0 = .ok (.iload_n 2, 1) := by decide +kernel
theorem dX0_numberOfExtra_1 : decode cX0_numberOfExtra 1 = .ok (.tableswitch 64 4 6 #[27, 33, 54], 27) := by decide +kernel
theorem dX0_numberOfExtra_28 : decode cX0_numberOfExtra 28 = .ok (.aload_n 0, 1) := by decide +kernel
theorem dX0_numberOfExtra_29 : decode cX0_numberOfExtra 29 = .ok (.iload_n 1, 1) := by decide +kernel
theorem dX0_numberOfExtra_30 : decode cX0_numberOfExtra 30 = .ok (.invokevirtual 83, 3) := by decide +kernel
theorem dX0_numberOfExtra_33 : decode cX0_numberOfExtra 33 = .ok (.ireturn, 1) := by decide +kernel
theorem dX0_numberOfExtra_34 : decode cX0_numberOfExtra 34 = .ok (.aload_n 0, 1) := by decide +kernel
theorem dX0_numberOfExtra_35 : decode cX0_numberOfExtra 35 = .ok (.iconst 1, 1) := by decide +kernel
theorem dX0_numberOfExtra_36 : decode cX0_numberOfExtra 36 = .ok (.iload_n 1, 1) := by decide +kernel
theorem dX0_numberOfExtra_37 : decode cX0_numberOfExtra 37 = .ok (.ishl, 1) := by decide +kernel
theorem dX0_numberOfExtra_38 : decode cX0_numberOfExtra 38 = .ok (.iconst (-1), 1) := by decide +kernel
theorem dX0_numberOfExtra_39 : decode cX0_numberOfExtra 39 = .ok (.ixor, 1) := by decide +kernel
theorem dX0_numberOfExtra_40 : decode cX0_numberOfExtra 40 = .ok (.iconst 1, 1) := by decide +kernel
theorem dX0_numberOfExtra_41 : decode cX0_numberOfExtra 41 = .ok (.aload_n 0, 1) := by decide +kernel
theorem dX0_numberOfExtra_42 : decode cX0_numberOfExtra 42 = .ok (.getfield 14, 3) := by decide +kernel
theorem dX0_numberOfExtra_45 : decode cX0_numberOfExtra 45 = .ok (.iconst 1, 1) := by decide +kernel
theorem dX0_numberOfExtra_46 : decode cX0_numberOfExtra 46 = .ok (.iload_n 1, 1) := by decide +kernel
theorem dX0_numberOfExtra_47 : decode cX0_numberOfExtra 47 = .ok (.invokevirtual 63, 3) := by decide +kernel
theorem dX0_numberOfExtra_50 : decode cX0_numberOfExtra 50 = .ok (.ishl, 1) := by decide +kernel
theorem dX0_numberOfExtra_51 : decode cX0_numberOfExtra 51 = .ok (.invokevirtual 86, 3) := by decide +kernel
theorem dX0_numberOfExtra_54 : decode cX0_numberOfExtra 54 = .ok (.ireturn, 1) := by decide +kernel
theorem dX0_numberOfExtra_55 : decode cX0_numberOfExtra 55 = .ok (.aload_n 0, 1) := by decide +kernel
theorem dX0_numberOfExtra_56 : decode cX0_numberOfExtra 56 = .ok (.getfield 14, 3) := by decide +kernel
theorem dX0_numberOfExtra_59 : decode cX0_numberOfExtra 59 = .ok (.iconst 5, 1) := by decide +kernel
theorem dX0_numberOfExtra_60 : decode cX0_numberOfExtra 60 = .ok (.iload_n 1, 1) := by decide +kernel
theorem dX0_numberOfExtra_61 : decode cX0_numberOfExtra 61 = .ok (.invokevirtual 63, 3) := by decide +kernel
theorem dX0_numberOfExtra_64 : decode cX0_numberOfExtra 64 = .ok (.ireturn, 1) := by decide +kernel
theorem dX0_numberOfExtra_65 : decode cX0_numberOfExtra 65 = .ok (.aload_n 0, 1) := by decide +kernel
theorem dX0_numberOfExtra_66 : decode cX0_numberOfExtra 66 = .ok (.getfield 14, 3) := by decide +kernel
theorem dX0_numberOfExtra_69 : decode cX0_numberOfExtra 69 = .ok (.iload_n 2, 1) := by decide +kernel
theorem dX0_numberOfExtra_70 : decode cX0_numberOfExtra 70 = .ok (.iload_n 1, 1) := by decide +kernel
theorem dX0_numberOfExtra_71 : decode cX0_numberOfExtra 71 = .ok (.invokevirtual 63, 3) := by decide +kernel
theorem dX0_numberOfExtra_74 : decode cX0_numberOfExtra 74 = .ok (.ireturn, 1) := by decide +kernel
set_option maxRecDepth 20000 in
theorem ggX0_numberOfScene_X0_crowdOf : GoodIn wsX0_numberOfScene wsX0_crowdOf := goodIn_r _ [6, 1, 7, 8, 9, 10, 11, 12, 13, 28, 29, 30, 31, 32, 33, 34, 35, 36, 37, 38, 39] (by decide +kernel) (by decide +kernel)
set_option maxRecDepth 20000 in
theorem gX0_numberOfScene_X0_crowdOf : GoodIn wsX0_numberOfScene (wsV RX0 67 RX0 yX0_crowdOf wsX0_crowdOf) := goodIn_app (goodIn_of _ (by decide +kernel)) ggX0_numberOfScene_X0_crowdOf
set_option maxRecDepth 20000 in
theorem ggX0_numberOfScene_X0_castOf : GoodIn wsX0_numberOfScene wsX0_castOf := goodIn_r _ [17, 1, 18, 7, 8, 9, 10, 11, 12, 13, 28, 29, 30, 31, 32, 33, 34, 35, 36, 37, 38, 39] (by decide +kernel) (by decide +kernel)
set_option maxRecDepth 20000 in
theorem gX0_numberOfScene_X0_castOf : GoodIn wsX0_numberOfScene (wsV RX0 89 RX0 yX0_castOf wsX0_castOf) := goodIn_app (goodIn_of _ (by decide +kernel)) ggX0_numberOfScene_X0_castOf
set_option maxRecDepth 20000 in
theorem ggX0_numberOfScene_X0_facesOf : GoodIn wsX0_numberOfScene wsX0_facesOf := goodIn_r _ [22, 23, 24, 25, 26, 27, 7, 8, 9, 10, 11, 12, 13, 28, 29, 30, 31, 32, 33, 34, 35, 36, 37, 38, 39] (by decide +kernel) (by decide +kernel)
set_option maxRecDepth 20000 in
theorem gX0_numberOfScene_X0_facesOf : GoodIn wsX0_numberOfScene (wsV RX0 75 RX0 yX0_facesOf wsX0_facesOf) := goodIn_app (goodIn_of _ (by decide +kernel)) ggX0_numberOfScene_X0_facesOf
set_option maxRecDepth 20000 in
theorem ggX0_numberOfScene_X5_get : GoodIn wsX0_numberOfScene wsX5_get := goodIn_r _ [11, 12, 13, 38, 39] (by decide +kernel) (by decide +kernel)
set_option maxRecDepth 20000 in
theorem gX0_numberOfScene_X5_get : GoodIn wsX0_numberOfScene (wsV RX0 63 RX5 yX5_get wsX5_get) := goodIn_app (goodIn_of _ (by decide +kernel)) ggX0_numberOfScene_X5_get
theorem dX0_numberOfScene_0 : decode cX0_numberOfScene 0 = .ok (.iload_n 2, 1) := by decide +kernel
theorem dX0_numberOfScene_1 : decode cX0_numberOfScene 1 = .ok (.tableswitch 73 5 8 #[31, 45, 51, 62], 31) := by decide +kernel
theorem dX0_numberOfScene_32 : decode cX0_numberOfScene 32 = .ok (.aload_n 0, 1) := by decide +kernel
theorem dX0_numberOfScene_33 : decode cX0_numberOfScene 33 = .ok (.iload_n 1, 1) := by decide +kernel
theorem dX0_numberOfScene_34 : decode cX0_numberOfScene 34 = .ok (.invokevirtual 67, 3) := by decide +kernel
theorem dX0_numberOfScene_37 : decode cX0_numberOfScene 37 = .ok (.ifCond .eq 7, 3) := by decide +kernel
theorem dX0_numberOfScene_40 : decode cX0_numberOfScene 40 = .ok (.iconst 1, 1) := by decide +kernel
theorem dX0_numberOfScene_41 : decode cX0_numberOfScene 41 = .ok (.goto 4, 3) := by decide +kernel
theorem dX0_numberOfScene_44 : decode cX0_numberOfScene 44 = .ok (.iconst 0, 1) := by decide +kernel
theorem dX0_numberOfScene_45 : decode cX0_numberOfScene 45 = .ok (.ireturn, 1) := by decide +kernel
theorem dX0_numberOfScene_46 : decode cX0_numberOfScene 46 = .ok (.aload_n 0, 1) := by decide +kernel
theorem dX0_numberOfScene_47 : decode cX0_numberOfScene 47 = .ok (.iload_n 1, 1) := by decide +kernel
theorem dX0_numberOfScene_48 : decode cX0_numberOfScene 48 = .ok (.invokevirtual 67, 3) := by decide +kernel
theorem dX0_numberOfScene_51 : decode cX0_numberOfScene 51 = .ok (.ireturn, 1) := by decide +kernel
theorem dX0_numberOfScene_52 : decode cX0_numberOfScene 52 = .ok (.aload_n 0, 1) := by decide +kernel
theorem dX0_numberOfScene_53 : decode cX0_numberOfScene 53 = .ok (.aload_n 0, 1) := by decide +kernel
theorem dX0_numberOfScene_54 : decode cX0_numberOfScene 54 = .ok (.iload_n 1, 1) := by decide +kernel
theorem dX0_numberOfScene_55 : decode cX0_numberOfScene 55 = .ok (.iconst 1, 1) := by decide +kernel
theorem dX0_numberOfScene_56 : decode cX0_numberOfScene 56 = .ok (.invokevirtual 89, 3) := by decide +kernel
theorem dX0_numberOfScene_59 : decode cX0_numberOfScene 59 = .ok (.invokevirtual 75, 3) := by decide +kernel
theorem dX0_numberOfScene_62 : decode cX0_numberOfScene 62 = .ok (.ireturn, 1) := by decide +kernel
theorem dX0_numberOfScene_63 : decode cX0_numberOfScene 63 = .ok (.aload_n 0, 1) := by decide +kernel
theorem dX0_numberOfScene_64 : decode cX0_numberOfScene 64 = .ok (.aload_n 0, 1) := by decide +kernel
theorem dX0_numberOfScene_65 : decode cX0_numberOfScene 65 = .ok (.iload_n 1, 1) := by decide +kernel
theorem dX0_numberOfScene_66 : decode cX0_numberOfScene 66 = .ok (.iconst 0, 1) := by decide +kernel
theorem dX0_numberOfScene_67 : decode cX0_numberOfScene 67 = .ok (.invokevirtual 89, 3) := by decide +kernel
theorem dX0_numberOfScene_70 : decode cX0_numberOfScene 70 = .ok (.invokevirtual 75, 3) := by decide +kernel
theorem dX0_numberOfScene_73 : decode cX0_numberOfScene 73 = .ok (.ireturn, 1) := by decide +kernel
theorem dX0_numberOfScene_74 : decode cX0_numberOfScene 74 = .ok (.aload_n 0, 1) := by decide +kernel
theorem dX0_numberOfScene_75 : decode cX0_numberOfScene 75 = .ok (.getfield 20, 3) := by decide +kernel
theorem dX0_numberOfScene_78 : decode cX0_numberOfScene 78 = .ok (.iload_n 2, 1) := by decide +kernel
theorem dX0_numberOfScene_79 : decode cX0_numberOfScene 79 = .ok (.iload_n 1, 1) := by decide +kernel
theorem dX0_numberOfScene_80 : decode cX0_numberOfScene 80 = .ok (.invokevirtual 63, 3) := by decide +kernel
theorem dX0_numberOfScene_83 : decode cX0_numberOfScene 83 = .ok (.ireturn, 1) := by decide +kernel
set_option maxRecDepth 20000 in
theorem ggX0_scenesWith_X0_crowdOf : GoodIn wsX0_scenesWith wsX0_crowdOf := goodIn_r _ [6, 7, 8, 9, 10, 11, 12, 13, 14, 18, 19, 20, 21, 22, 23, 24, 25, 26, 27, 28, 29] (by decide +kernel) (by decide +kernel)
set_option maxRecDepth 20000 in
theorem gX0_scenesWith_X0_crowdOf : GoodIn wsX0_scenesWith (wsV RX0 67 RX0 yX0_crowdOf wsX0_crowdOf) := goodIn_app (goodIn_of _ (by decide +kernel)) ggX0_scenesWith_X0_crowdOf
set_option maxRecDepth 20000 in
theorem ggX0_scenesWith_X7_has : GoodIn wsX0_scenesWith wsX7_has := goodIn_r _ [17] (by decide +kernel) (by decide +kernel)
set_option maxRecDepth 20000 in
theorem gX0_scenesWith_X7_has_n93 : GoodIn wsX0_scenesWith (wsX7_has) := ggX0_scenesWith_X7_has
theorem dX0_scenesWith_0 : decode cX0_scenesWith 0 = .ok (.iconst 0, 1) := by decide +kernel
theorem dX0_scenesWith_1 : decode cX0_scenesWith 1 = .ok (.istore_n 2, 1) := by decide +kernel
theorem dX0_scenesWith_2 : decode cX0_scenesWith 2 = .ok (.iconst 0, 1) := by decide +kernel
theorem dX0_scenesWith_3 : decode cX0_scenesWith 3 = .ok (.istore_n 3, 1) := by decide +kernel
theorem dX0_scenesWith_4 : decode cX0_scenesWith 4 = .ok (.iload_n 3, 1) := by decide +kernel
theorem dX0_scenesWith_5 : decode cX0_scenesWith 5 = .ok (.aload_n 0, 1) := by decide +kernel
theorem dX0_scenesWith_6 : decode cX0_scenesWith 6 = .ok (.getfield 41, 3) := by decide +kernel
theorem dX0_scenesWith_9 : decode cX0_scenesWith 9 = .ok (.if_icmp .ge 24, 3) := by decide +kernel
theorem dX0_scenesWith_12 : decode cX0_scenesWith 12 = .ok (.aload_n 0, 1) := by decide +kernel
theorem dX0_scenesWith_13 : decode cX0_scenesWith 13 = .ok (.iload_n 3, 1) := by decide +kernel
theorem dX0_scenesWith_14 : decode cX0_scenesWith 14 = .ok (.invokevirtual 67, 3) := by decide +kernel
theorem dX0_scenesWith_17 : decode cX0_scenesWith 17 = .ok (.iload_n 1, 1) := by decide +kernel
theorem dX0_scenesWith_18 : decode cX0_scenesWith 18 = .ok (.invokestatic 93, 3) := by decide +kernel
theorem dX0_scenesWith_21 : decode cX0_scenesWith 21 = .ok (.ifCond .eq 6, 3) := by decide +kernel
theorem dX0_scenesWith_24 : decode cX0_scenesWith 24 = .ok (.iinc 2 1, 3) := by decide +kernel
theorem dX0_scenesWith_27 : decode cX0_scenesWith 27 = .ok (.iinc 3 1, 3) := by decide +kernel
theorem dX0_scenesWith_30 : decode cX0_scenesWith 30 = .ok (.goto (-26), 3) := by decide +kernel
theorem dX0_scenesWith_33 : decode cX0_scenesWith 33 = .ok (.iload_n 2, 1) := by decide +kernel
theorem dX0_scenesWith_34 : decode cX0_scenesWith 34 = .ok (.ireturn, 1) := by decide +kernel
set_option maxRecDepth 20000 in
theorem ggX0_castOf_X5_get : GoodIn wsX0_castOf wsX5_get := goodIn_r _ [7, 8, 9, 20, 21] (by decide +kernel) (by decide +kernel)
set_option maxRecDepth 20000 in
theorem gX0_castOf_X5_get : GoodIn wsX0_castOf (wsV RX0 63 RX5 yX5_get wsX5_get) := goodIn_app (goodIn_of _ (by decide +kernel)) ggX0_castOf_X5_get
theorem dX0_castOf_0 : decode cX0_castOf 0 = .ok (.aload_n 0, 1) := by decide +kernel
theorem dX0_castOf_1 : decode cX0_castOf 1 = .ok (.getfield 20, 3) := by decide +kernel
theorem dX0_castOf_4 : decode cX0_castOf 4 = .ok (.iconst 2, 1) := by decide +kernel
theorem dX0_castOf_5 : decode cX0_castOf 5 = .ok (.iload_n 1, 1) := by decide +kernel
theorem dX0_castOf_6 : decode cX0_castOf 6 = .ok (.invokevirtual 63, 3) := by decide +kernel
theorem dX0_castOf_9 : decode cX0_castOf 9 = .ok (.istore_n 3, 1) := by decide +kernel
theorem dX0_castOf_10 : decode cX0_castOf 10 = .ok (.aload_n 0, 1) := by decide +kernel
theorem dX0_castOf_11 : decode cX0_castOf 11 = .ok (.getfield 20, 3) := by decide +kernel
theorem dX0_castOf_14 : decode cX0_castOf 14 = .ok (.iconst 3, 1) := by decide +kernel
theorem dX0_castOf_15 : decode cX0_castOf 15 = .ok (.iload_n 1, 1) := by decide +kernel
theorem dX0_castOf_16 : decode cX0_castOf 16 = .ok (.invokevirtual 63, 3) := by decide +kernel
theorem dX0_castOf_19 : decode cX0_castOf 19 = .ok (.istore 4, 2) := by decide +kernel
theorem dX0_castOf_21 : decode cX0_castOf 21 = .ok (.iconst 0, 1) := by decide +kernel
theorem dX0_castOf_22 : decode cX0_castOf 22 = .ok (.istore 5, 2) := by decide +kernel
theorem dX0_castOf_24 : decode cX0_castOf 24 = .ok (.iconst 0, 1) := by decide +kernel
theorem dX0_castOf_25 : decode cX0_castOf 25 = .ok (.istore 6, 2) := by decide +kernel
theorem dX0_castOf_27 : decode cX0_castOf 27 = .ok (.iload 6, 2) := by decide +kernel
theorem dX0_castOf_29 : decode cX0_castOf 29 = .ok (.aload_n 0, 1) := by decide +kernel
theorem dX0_castOf_30 : decode cX0_castOf 30 = .ok (.getfield 41, 3) := by decide +kernel
theorem dX0_castOf_33 : decode cX0_castOf 33 = .ok (.if_icmp .ge 72, 3) := by decide +kernel
theorem dX0_castOf_36 : decode cX0_castOf 36 = .ok (.aload_n 0, 1) := by decide +kernel
theorem dX0_castOf_37 : decode cX0_castOf 37 = .ok (.getfield 20, 3) := by decide +kernel
theorem dX0_castOf_40 : decode cX0_castOf 40 = .ok (.iconst 3, 1) := by decide +kernel
theorem dX0_castOf_41 : decode cX0_castOf 41 = .ok (.iload 6, 2) := by decide +kernel
theorem dX0_castOf_43 : decode cX0_castOf 43 = .ok (.invokevirtual 63, 3) := by decide +kernel
theorem dX0_castOf_46 : decode cX0_castOf 46 = .ok (.iload 4, 2) := by decide +kernel
theorem dX0_castOf_48 : decode cX0_castOf 48 = .ok (.if_icmp .ne 7, 3) := by decide +kernel
theorem dX0_castOf_51 : decode cX0_castOf 51 = .ok (.iconst 1, 1) := by decide +kernel
theorem dX0_castOf_52 : decode cX0_castOf 52 = .ok (.goto 4, 3) := by decide +kernel
theorem dX0_castOf_55 : decode cX0_castOf 55 = .ok (.iconst 0, 1) := by decide +kernel
theorem dX0_castOf_56 : decode cX0_castOf 56 = .ok (.istore 7, 2) := by decide +kernel
theorem dX0_castOf_58 : decode cX0_castOf 58 = .ok (.iload 6, 2) := by decide +kernel
theorem dX0_castOf_60 : decode cX0_castOf 60 = .ok (.iload_n 1, 1) := by decide +kernel
theorem dX0_castOf_61 : decode cX0_castOf 61 = .ok (.if_icmp .eq 38, 3) := by decide +kernel
theorem dX0_castOf_64 : decode cX0_castOf 64 = .ok (.aload_n 0, 1) := by decide +kernel
theorem dX0_castOf_65 : decode cX0_castOf 65 = .ok (.getfield 20, 3) := by decide +kernel
theorem dX0_castOf_68 : decode cX0_castOf 68 = .ok (.iconst 2, 1) := by decide +kernel
theorem dX0_castOf_69 : decode cX0_castOf 69 = .ok (.iload 6, 2) := by decide +kernel
theorem dX0_castOf_71 : decode cX0_castOf 71 = .ok (.invokevirtual 63, 3) := by decide +kernel
theorem dX0_castOf_74 : decode cX0_castOf 74 = .ok (.iload_n 3, 1) := by decide +kernel
theorem dX0_castOf_75 : decode cX0_castOf 75 = .ok (.if_icmp .ne 24, 3) := by decide +kernel
theorem dX0_castOf_78 : decode cX0_castOf 78 = .ok (.iload 7, 2) := by decide +kernel
theorem dX0_castOf_80 : decode cX0_castOf 80 = .ok (.iload_n 2, 1) := by decide +kernel
theorem dX0_castOf_81 : decode cX0_castOf 81 = .ok (.if_icmp .ne 18, 3) := by decide +kernel
theorem dX0_castOf_84 : decode cX0_castOf 84 = .ok (.iload 5, 2) := by decide +kernel
theorem dX0_castOf_86 : decode cX0_castOf 86 = .ok (.aload_n 0, 1) := by decide +kernel
theorem dX0_castOf_87 : decode cX0_castOf 87 = .ok (.getfield 20, 3) := by decide +kernel
theorem dX0_castOf_90 : decode cX0_castOf 90 = .ok (.iconst 5, 1) := by decide +kernel
theorem dX0_castOf_91 : decode cX0_castOf 91 = .ok (.iload 6, 2) := by decide +kernel
theorem dX0_castOf_93 : decode cX0_castOf 93 = .ok (.invokevirtual 63, 3) := by decide +kernel
theorem dX0_castOf_96 : decode cX0_castOf 96 = .ok (.ior, 1) := by decide +kernel
theorem dX0_castOf_97 : decode cX0_castOf 97 = .ok (.istore 5, 2) := by decide +kernel
theorem dX0_castOf_99 : decode cX0_castOf 99 = .ok (.iinc 6 1, 3) := by decide +kernel
theorem dX0_castOf_102 : decode cX0_castOf 102 = .ok (.goto (-75), 3) := by decide +kernel
theorem dX0_castOf_105 : decode cX0_castOf 105 = .ok (.iload 5, 2) := by decide +kernel
theorem dX0_castOf_107 : decode cX0_castOf 107 = .ok (.ireturn, 1) := by decide +kernel
set_option maxRecDepth 20000 in
theorem ggX0_facesOf_X7_has : GoodIn wsX0_facesOf wsX7_has := goodIn_r _ [5] (by decide +kernel) (by decide +kernel)
set_option maxRecDepth 20000 in
theorem gX0_facesOf_X7_has_n93 : GoodIn wsX0_facesOf (wsX7_has) := ggX0_facesOf_X7_has
set_option maxRecDepth 20000 in
theorem ggX0_facesOf_X5_get : GoodIn wsX0_facesOf wsX5_get := goodIn_r _ [10, 11, 12, 23, 24] (by decide +kernel) (by decide +kernel)
set_option maxRecDepth 20000 in
theorem gX0_facesOf_X5_get : GoodIn wsX0_facesOf (wsV RX0 63 RX5 yX5_get wsX5_get) := goodIn_app (goodIn_of _ (by decide +kernel)) ggX0_facesOf_X5_get
theorem dX0_facesOf_0 : decode cX0_facesOf 0 = .ok (.iconst 0, 1) := by decide +kernel
theorem dX0_facesOf_1 : decode cX0_facesOf 1 = .ok (.istore_n 2, 1) := by decide +kernel
theorem dX0_facesOf_2 : decode cX0_facesOf 2 = .ok (.iconst 0, 1) := by decide +kernel
theorem dX0_facesOf_3 : decode cX0_facesOf 3 = .ok (.istore_n 3, 1) := by decide +kernel
theorem dX0_facesOf_4 : decode cX0_facesOf 4 = .ok (.iload_n 3, 1) := by decide +kernel
theorem dX0_facesOf_5 : decode cX0_facesOf 5 = .ok (.aload_n 0, 1) := by decide +kernel
theorem dX0_facesOf_6 : decode cX0_facesOf 6 = .ok (.getfield 37, 3) := by decide +kernel
theorem dX0_facesOf_9 : decode cX0_facesOf 9 = .ok (.if_icmp .ge 31, 3) := by decide +kernel
theorem dX0_facesOf_12 : decode cX0_facesOf 12 = .ok (.iload_n 1, 1) := by decide +kernel
theorem dX0_facesOf_13 : decode cX0_facesOf 13 = .ok (.iload_n 3, 1) := by decide +kernel
theorem dX0_facesOf_14 : decode cX0_facesOf 14 = .ok (.invokestatic 93, 3) := by decide +kernel
theorem dX0_facesOf_17 : decode cX0_facesOf 17 = .ok (.ifCond .eq 17, 3) := by decide +kernel
theorem dX0_facesOf_20 : decode cX0_facesOf 20 = .ok (.iload_n 2, 1) := by decide +kernel
theorem dX0_facesOf_21 : decode cX0_facesOf 21 = .ok (.iconst 1, 1) := by decide +kernel
theorem dX0_facesOf_22 : decode cX0_facesOf 22 = .ok (.aload_n 0, 1) := by decide +kernel
theorem dX0_facesOf_23 : decode cX0_facesOf 23 = .ok (.getfield 14, 3) := by decide +kernel
theorem dX0_facesOf_26 : decode cX0_facesOf 26 = .ok (.iconst 1, 1) := by decide +kernel
theorem dX0_facesOf_27 : decode cX0_facesOf 27 = .ok (.iload_n 3, 1) := by decide +kernel
theorem dX0_facesOf_28 : decode cX0_facesOf 28 = .ok (.invokevirtual 63, 3) := by decide +kernel
theorem dX0_facesOf_31 : decode cX0_facesOf 31 = .ok (.ishl, 1) := by decide +kernel
theorem dX0_facesOf_32 : decode cX0_facesOf 32 = .ok (.ior, 1) := by decide +kernel
theorem dX0_facesOf_33 : decode cX0_facesOf 33 = .ok (.istore_n 2, 1) := by decide +kernel
theorem dX0_facesOf_34 : decode cX0_facesOf 34 = .ok (.iinc 3 1, 3) := by decide +kernel
theorem dX0_facesOf_37 : decode cX0_facesOf 37 = .ok (.goto (-33), 3) := by decide +kernel
theorem dX0_facesOf_40 : decode cX0_facesOf 40 = .ok (.iload_n 2, 1) := by decide +kernel
theorem dX0_facesOf_41 : decode cX0_facesOf 41 = .ok (.ireturn, 1) := by decide +kernel
set_option maxRecDepth 20000 in
theorem ggX0_withFaces_X7_has : GoodIn wsX0_withFaces wsX7_has := goodIn_r _ [5] (by decide +kernel) (by decide +kernel)
set_option maxRecDepth 20000 in
theorem gX0_withFaces_X7_has_n93 : GoodIn wsX0_withFaces (wsX7_has) := ggX0_withFaces_X7_has
set_option maxRecDepth 20000 in
theorem ggX0_withFaces_X5_get : GoodIn wsX0_withFaces wsX5_get := goodIn_r _ [10, 11, 12, 23, 24] (by decide +kernel) (by decide +kernel)
set_option maxRecDepth 20000 in
theorem gX0_withFaces_X5_get : GoodIn wsX0_withFaces (wsV RX0 63 RX5 yX5_get wsX5_get) := goodIn_app (goodIn_of _ (by decide +kernel)) ggX0_withFaces_X5_get
theorem dX0_withFaces_0 : decode cX0_withFaces 0 = .ok (.iconst 0, 1) := by decide +kernel
theorem dX0_withFaces_1 : decode cX0_withFaces 1 = .ok (.istore_n 3, 1) := by decide +kernel
theorem dX0_withFaces_2 : decode cX0_withFaces 2 = .ok (.iconst 0, 1) := by decide +kernel
theorem dX0_withFaces_3 : decode cX0_withFaces 3 = .ok (.istore 4, 2) := by decide +kernel
theorem dX0_withFaces_5 : decode cX0_withFaces 5 = .ok (.iload 4, 2) := by decide +kernel
theorem dX0_withFaces_7 : decode cX0_withFaces 7 = .ok (.aload_n 0, 1) := by decide +kernel
theorem dX0_withFaces_8 : decode cX0_withFaces 8 = .ok (.getfield 37, 3) := by decide +kernel
theorem dX0_withFaces_11 : decode cX0_withFaces 11 = .ok (.if_icmp .ge 42, 3) := by decide +kernel
theorem dX0_withFaces_14 : decode cX0_withFaces 14 = .ok (.iload_n 1, 1) := by decide +kernel
theorem dX0_withFaces_15 : decode cX0_withFaces 15 = .ok (.iload 4, 2) := by decide +kernel
theorem dX0_withFaces_17 : decode cX0_withFaces 17 = .ok (.invokestatic 93, 3) := by decide +kernel
theorem dX0_withFaces_20 : decode cX0_withFaces 20 = .ok (.ifCond .eq 27, 3) := by decide +kernel
theorem dX0_withFaces_23 : decode cX0_withFaces 23 = .ok (.iload_n 2, 1) := by decide +kernel
theorem dX0_withFaces_24 : decode cX0_withFaces 24 = .ok (.aload_n 0, 1) := by decide +kernel
theorem dX0_withFaces_25 : decode cX0_withFaces 25 = .ok (.getfield 14, 3) := by decide +kernel
theorem dX0_withFaces_28 : decode cX0_withFaces 28 = .ok (.iconst 1, 1) := by decide +kernel
theorem dX0_withFaces_29 : decode cX0_withFaces 29 = .ok (.iload 4, 2) := by decide +kernel
theorem dX0_withFaces_31 : decode cX0_withFaces 31 = .ok (.invokevirtual 63, 3) := by decide +kernel
theorem dX0_withFaces_34 : decode cX0_withFaces 34 = .ok (.invokestatic 93, 3) := by decide +kernel
theorem dX0_withFaces_37 : decode cX0_withFaces 37 = .ok (.ifCond .eq 10, 3) := by decide +kernel
theorem dX0_withFaces_40 : decode cX0_withFaces 40 = .ok (.iload_n 3, 1) := by decide +kernel
theorem dX0_withFaces_41 : decode cX0_withFaces 41 = .ok (.iconst 1, 1) := by decide +kernel
theorem dX0_withFaces_42 : decode cX0_withFaces 42 = .ok (.iload 4, 2) := by decide +kernel
theorem dX0_withFaces_44 : decode cX0_withFaces 44 = .ok (.ishl, 1) := by decide +kernel
theorem dX0_withFaces_45 : decode cX0_withFaces 45 = .ok (.ior, 1) := by decide +kernel
theorem dX0_withFaces_46 : decode cX0_withFaces 46 = .ok (.istore_n 3, 1) := by decide +kernel
theorem dX0_withFaces_47 : decode cX0_withFaces 47 = .ok (.iinc 4 1, 3) := by decide +kernel
theorem dX0_withFaces_50 : decode cX0_withFaces 50 = .ok (.goto (-45), 3) := by decide +kernel
theorem dX0_withFaces_53 : decode cX0_withFaces 53 = .ok (.iload_n 3, 1) := by decide +kernel
theorem dX0_withFaces_54 : decode cX0_withFaces 54 = .ok (.ireturn, 1) := by decide +kernel
set_option maxRecDepth 20000 in
theorem ggX0_withRightLook_X5_get : GoodIn wsX0_withRightLook wsX5_get := goodIn_r _ [8, 9, 10, 21, 22] (by decide +kernel) (by decide +kernel)
set_option maxRecDepth 20000 in
theorem gX0_withRightLook_X5_get : GoodIn wsX0_withRightLook (wsV RX0 63 RX5 yX5_get wsX5_get) := goodIn_app (goodIn_of _ (by decide +kernel)) ggX0_withRightLook_X5_get
theorem dX0_withRightLook_0 : decode cX0_withRightLook 0 = .ok (.aload_n 0, 1) := by decide +kernel
theorem dX0_withRightLook_1 : decode cX0_withRightLook 1 = .ok (.getfield 20, 3) := by decide +kernel
theorem dX0_withRightLook_4 : decode cX0_withRightLook 4 = .ok (.iconst 0, 1) := by decide +kernel
theorem dX0_withRightLook_5 : decode cX0_withRightLook 5 = .ok (.iload_n 1, 1) := by decide +kernel
theorem dX0_withRightLook_6 : decode cX0_withRightLook 6 = .ok (.invokevirtual 63, 3) := by decide +kernel
theorem dX0_withRightLook_9 : decode cX0_withRightLook 9 = .ok (.istore_n 2, 1) := by decide +kernel
theorem dX0_withRightLook_10 : decode cX0_withRightLook 10 = .ok (.iconst 0, 1) := by decide +kernel
theorem dX0_withRightLook_11 : decode cX0_withRightLook 11 = .ok (.istore_n 3, 1) := by decide +kernel
theorem dX0_withRightLook_12 : decode cX0_withRightLook 12 = .ok (.iconst 0, 1) := by decide +kernel
theorem dX0_withRightLook_13 : decode cX0_withRightLook 13 = .ok (.istore 4, 2) := by decide +kernel
theorem dX0_withRightLook_15 : decode cX0_withRightLook 15 = .ok (.iload 4, 2) := by decide +kernel
theorem dX0_withRightLook_17 : decode cX0_withRightLook 17 = .ok (.aload_n 0, 1) := by decide +kernel
theorem dX0_withRightLook_18 : decode cX0_withRightLook 18 = .ok (.getfield 37, 3) := by decide +kernel
theorem dX0_withRightLook_21 : decode cX0_withRightLook 21 = .ok (.if_icmp .ge 30, 3) := by decide +kernel
theorem dX0_withRightLook_24 : decode cX0_withRightLook 24 = .ok (.aload_n 0, 1) := by decide +kernel
theorem dX0_withRightLook_25 : decode cX0_withRightLook 25 = .ok (.getfield 14, 3) := by decide +kernel
theorem dX0_withRightLook_28 : decode cX0_withRightLook 28 = .ok (.iconst 0, 1) := by decide +kernel
theorem dX0_withRightLook_29 : decode cX0_withRightLook 29 = .ok (.iload 4, 2) := by decide +kernel
theorem dX0_withRightLook_31 : decode cX0_withRightLook 31 = .ok (.invokevirtual 63, 3) := by decide +kernel
theorem dX0_withRightLook_34 : decode cX0_withRightLook 34 = .ok (.iload_n 2, 1) := by decide +kernel
theorem dX0_withRightLook_35 : decode cX0_withRightLook 35 = .ok (.if_icmp .ne 10, 3) := by decide +kernel
theorem dX0_withRightLook_38 : decode cX0_withRightLook 38 = .ok (.iload_n 3, 1) := by decide +kernel
theorem dX0_withRightLook_39 : decode cX0_withRightLook 39 = .ok (.iconst 1, 1) := by decide +kernel
theorem dX0_withRightLook_40 : decode cX0_withRightLook 40 = .ok (.iload 4, 2) := by decide +kernel
theorem dX0_withRightLook_42 : decode cX0_withRightLook 42 = .ok (.ishl, 1) := by decide +kernel
theorem dX0_withRightLook_43 : decode cX0_withRightLook 43 = .ok (.ior, 1) := by decide +kernel
theorem dX0_withRightLook_44 : decode cX0_withRightLook 44 = .ok (.istore_n 3, 1) := by decide +kernel
theorem dX0_withRightLook_45 : decode cX0_withRightLook 45 = .ok (.iinc 4 1, 3) := by decide +kernel
theorem dX0_withRightLook_48 : decode cX0_withRightLook 48 = .ok (.goto (-33), 3) := by decide +kernel
theorem dX0_withRightLook_51 : decode cX0_withRightLook 51 = .ok (.iload_n 3, 1) := by decide +kernel
theorem dX0_withRightLook_52 : decode cX0_withRightLook 52 = .ok (.ireturn, 1) := by decide +kernel
set_option maxRecDepth 20000 in
theorem ggX0_withTime_X5_get : GoodIn wsX0_withTime wsX5_get := goodIn_r _ [9, 10, 11, 22, 23] (by decide +kernel) (by decide +kernel)
set_option maxRecDepth 20000 in
theorem gX0_withTime_X5_get : GoodIn wsX0_withTime (wsV RX0 63 RX5 yX5_get wsX5_get) := goodIn_app (goodIn_of _ (by decide +kernel)) ggX0_withTime_X5_get
theorem dX0_withTime_0 : decode cX0_withTime 0 = .ok (.aload_n 0, 1) := by decide +kernel
theorem dX0_withTime_1 : decode cX0_withTime 1 = .ok (.getfield 23, 3) := by decide +kernel
theorem dX0_withTime_4 : decode cX0_withTime 4 = .ok (.iconst 0, 1) := by decide +kernel
theorem dX0_withTime_5 : decode cX0_withTime 5 = .ok (.iconst 0, 1) := by decide +kernel
theorem dX0_withTime_6 : decode cX0_withTime 6 = .ok (.invokevirtual 63, 3) := by decide +kernel
theorem dX0_withTime_9 : decode cX0_withTime 9 = .ok (.aload_n 0, 1) := by decide +kernel
theorem dX0_withTime_10 : decode cX0_withTime 10 = .ok (.getfield 20, 3) := by decide +kernel
theorem dX0_withTime_13 : decode cX0_withTime 13 = .ok (.iconst 4, 1) := by decide +kernel
theorem dX0_withTime_14 : decode cX0_withTime 14 = .ok (.iload_n 1, 1) := by decide +kernel
theorem dX0_withTime_15 : decode cX0_withTime 15 = .ok (.invokevirtual 63, 3) := by decide +kernel
theorem dX0_withTime_18 : decode cX0_withTime 18 = .ok (.isub, 1) := by decide +kernel
theorem dX0_withTime_19 : decode cX0_withTime 19 = .ok (.istore_n 2, 1) := by decide +kernel
theorem dX0_withTime_20 : decode cX0_withTime 20 = .ok (.iconst 0, 1) := by decide +kernel
theorem dX0_withTime_21 : decode cX0_withTime 21 = .ok (.istore_n 3, 1) := by decide +kernel
theorem dX0_withTime_22 : decode cX0_withTime 22 = .ok (.iconst 0, 1) := by decide +kernel
theorem dX0_withTime_23 : decode cX0_withTime 23 = .ok (.istore 4, 2) := by decide +kernel
theorem dX0_withTime_25 : decode cX0_withTime 25 = .ok (.iload 4, 2) := by decide +kernel
theorem dX0_withTime_27 : decode cX0_withTime 27 = .ok (.aload_n 0, 1) := by decide +kernel
theorem dX0_withTime_28 : decode cX0_withTime 28 = .ok (.getfield 37, 3) := by decide +kernel
theorem dX0_withTime_31 : decode cX0_withTime 31 = .ok (.if_icmp .ge 30, 3) := by decide +kernel
theorem dX0_withTime_34 : decode cX0_withTime 34 = .ok (.aload_n 0, 1) := by decide +kernel
theorem dX0_withTime_35 : decode cX0_withTime 35 = .ok (.getfield 14, 3) := by decide +kernel
theorem dX0_withTime_38 : decode cX0_withTime 38 = .ok (.iconst 2, 1) := by decide +kernel
theorem dX0_withTime_39 : decode cX0_withTime 39 = .ok (.iload 4, 2) := by decide +kernel
theorem dX0_withTime_41 : decode cX0_withTime 41 = .ok (.invokevirtual 63, 3) := by decide +kernel
theorem dX0_withTime_44 : decode cX0_withTime 44 = .ok (.iload_n 2, 1) := by decide +kernel
theorem dX0_withTime_45 : decode cX0_withTime 45 = .ok (.if_icmp .gt 10, 3) := by decide +kernel
theorem dX0_withTime_48 : decode cX0_withTime 48 = .ok (.iload_n 3, 1) := by decide +kernel
theorem dX0_withTime_49 : decode cX0_withTime 49 = .ok (.iconst 1, 1) := by decide +kernel
theorem dX0_withTime_50 : decode cX0_withTime 50 = .ok (.iload 4, 2) := by decide +kernel
theorem dX0_withTime_52 : decode cX0_withTime 52 = .ok (.ishl, 1) := by decide +kernel
theorem dX0_withTime_53 : decode cX0_withTime 53 = .ok (.ior, 1) := by decide +kernel
theorem dX0_withTime_54 : decode cX0_withTime 54 = .ok (.istore_n 3, 1) := by decide +kernel
theorem dX0_withTime_55 : decode cX0_withTime 55 = .ok (.iinc 4 1, 3) := by decide +kernel
theorem dX0_withTime_58 : decode cX0_withTime 58 = .ok (.goto (-33), 3) := by decide +kernel
theorem dX0_withTime_61 : decode cX0_withTime 61 = .ok (.iload_n 3, 1) := by decide +kernel
theorem dX0_withTime_62 : decode cX0_withTime 62 = .ok (.ireturn, 1) := by decide +kernel
set_option maxRecDepth 20000 in
theorem ggX0_leastWorked_X7_has : GoodIn wsX0_leastWorked wsX7_has := goodIn_r _ [5] (by decide +kernel) (by decide +kernel)
set_option maxRecDepth 20000 in
theorem gX0_leastWorked_X7_has_n93 : GoodIn wsX0_leastWorked (wsX7_has) := ggX0_leastWorked_X7_has
set_option maxRecDepth 20000 in
theorem ggX0_leastWorked_X5_get : GoodIn wsX0_leastWorked wsX5_get := goodIn_r _ [10, 11, 12, 23, 24] (by decide +kernel) (by decide +kernel)
set_option maxRecDepth 20000 in
theorem gX0_leastWorked_X5_get : GoodIn wsX0_leastWorked (wsV RX0 63 RX5 yX5_get wsX5_get) := goodIn_app (goodIn_of _ (by decide +kernel)) ggX0_leastWorked_X5_get
theorem dX0_leastWorked_0 : decode cX0_leastWorked 0 = .ok (.iconst (-1), 1) := by decide +kernel
theorem dX0_leastWorked_1 : decode cX0_leastWorked 1 = .ok (.istore_n 2, 1) := by decide +kernel
theorem dX0_leastWorked_2 : decode cX0_leastWorked 2 = .ok (.iconst 0, 1) := by decide +kernel
theorem dX0_leastWorked_3 : decode cX0_leastWorked 3 = .ok (.istore_n 3, 1) := by decide +kernel
theorem dX0_leastWorked_4 : decode cX0_leastWorked 4 = .ok (.iload_n 3, 1) := by decide +kernel
theorem dX0_leastWorked_5 : decode cX0_leastWorked 5 = .ok (.aload_n 0, 1) := by decide +kernel
theorem dX0_leastWorked_6 : decode cX0_leastWorked 6 = .ok (.getfield 37, 3) := by decide +kernel
theorem dX0_leastWorked_9 : decode cX0_leastWorked 9 = .ok (.if_icmp .ge 45, 3) := by decide +kernel
theorem dX0_leastWorked_12 : decode cX0_leastWorked 12 = .ok (.iload_n 1, 1) := by decide +kernel
theorem dX0_leastWorked_13 : decode cX0_leastWorked 13 = .ok (.iload_n 3, 1) := by decide +kernel
theorem dX0_leastWorked_14 : decode cX0_leastWorked 14 = .ok (.invokestatic 93, 3) := by decide +kernel
theorem dX0_leastWorked_17 : decode cX0_leastWorked 17 = .ok (.ifCond .eq 31, 3) := by decide +kernel
theorem dX0_leastWorked_20 : decode cX0_leastWorked 20 = .ok (.iload_n 2, 1) := by decide +kernel
theorem dX0_leastWorked_21 : decode cX0_leastWorked 21 = .ok (.iconst (-1), 1) := by decide +kernel
theorem dX0_leastWorked_22 : decode cX0_leastWorked 22 = .ok (.if_icmp .eq 24, 3) := by decide +kernel
theorem dX0_leastWorked_25 : decode cX0_leastWorked 25 = .ok (.aload_n 0, 1) := by decide +kernel
theorem dX0_leastWorked_26 : decode cX0_leastWorked 26 = .ok (.getfield 14, 3) := by decide +kernel
theorem dX0_leastWorked_29 : decode cX0_leastWorked 29 = .ok (.iconst 2, 1) := by decide +kernel
theorem dX0_leastWorked_30 : decode cX0_leastWorked 30 = .ok (.iload_n 3, 1) := by decide +kernel
theorem dX0_leastWorked_31 : decode cX0_leastWorked 31 = .ok (.invokevirtual 63, 3) := by decide +kernel
theorem dX0_leastWorked_34 : decode cX0_leastWorked 34 = .ok (.aload_n 0, 1) := by decide +kernel
theorem dX0_leastWorked_35 : decode cX0_leastWorked 35 = .ok (.getfield 14, 3) := by decide +kernel
theorem dX0_leastWorked_38 : decode cX0_leastWorked 38 = .ok (.iconst 2, 1) := by decide +kernel
theorem dX0_leastWorked_39 : decode cX0_leastWorked 39 = .ok (.iload_n 2, 1) := by decide +kernel
theorem dX0_leastWorked_40 : decode cX0_leastWorked 40 = .ok (.invokevirtual 63, 3) := by decide +kernel
theorem dX0_leastWorked_43 : decode cX0_leastWorked 43 = .ok (.if_icmp .ge 5, 3) := by decide +kernel
theorem dX0_leastWorked_46 : decode cX0_leastWorked 46 = .ok (.iload_n 3, 1) := by decide +kernel
theorem dX0_leastWorked_47 : decode cX0_leastWorked 47 = .ok (.istore_n 2, 1) := by decide +kernel
theorem dX0_leastWorked_48 : decode cX0_leastWorked 48 = .ok (.iinc 3 1, 3) := by decide +kernel
theorem dX0_leastWorked_51 : decode cX0_leastWorked 51 = .ok (.goto (-47), 3) := by decide +kernel
theorem dX0_leastWorked_54 : decode cX0_leastWorked 54 = .ok (.iload_n 2, 1) := by decide +kernel
theorem dX0_leastWorked_55 : decode cX0_leastWorked 55 = .ok (.iconst (-1), 1) := by decide +kernel
theorem dX0_leastWorked_56 : decode cX0_leastWorked 56 = .ok (.if_icmp .ne 7, 3) := by decide +kernel
theorem dX0_leastWorked_59 : decode cX0_leastWorked 59 = .ok (.iconst 0, 1) := by decide +kernel
theorem dX0_leastWorked_60 : decode cX0_leastWorked 60 = .ok (.goto 6, 3) := by decide +kernel
theorem dX0_leastWorked_63 : decode cX0_leastWorked 63 = .ok (.iconst 1, 1) := by decide +kernel
theorem dX0_leastWorked_64 : decode cX0_leastWorked 64 = .ok (.iload_n 2, 1) := by decide +kernel
theorem dX0_leastWorked_65 : decode cX0_leastWorked 65 = .ok (.ishl, 1) := by decide +kernel
theorem dX0_leastWorked_66 : decode cX0_leastWorked 66 = .ok (.ireturn, 1) := by decide +kernel
set_option maxRecDepth 20000 in
theorem ggX0_chosenCrowd_X5_get : GoodIn wsX0_chosenCrowd wsX5_get := goodIn_r _ [6, 7, 8, 58, 59] (by decide +kernel) (by decide +kernel)
set_option maxRecDepth 20000 in
theorem gX0_chosenCrowd_X5_get : GoodIn wsX0_chosenCrowd (wsV RX0 63 RX5 yX5_get wsX5_get) := goodIn_app (goodIn_of _ (by decide +kernel)) ggX0_chosenCrowd_X5_get
set_option maxRecDepth 20000 in
theorem ggX0_chosenCrowd_X0_withRightLook : GoodIn wsX0_chosenCrowd wsX0_withRightLook := goodIn_r _ [13, 1, 14, 15, 2, 3, 4, 5, 6, 7, 8, 48, 49, 50, 51, 52, 53, 54, 55, 56, 57, 58, 59] (by decide +kernel) (by decide +kernel)
set_option maxRecDepth 20000 in
theorem gX0_chosenCrowd_X0_withRightLook : GoodIn wsX0_chosenCrowd (wsV RX0 97 RX0 yX0_withRightLook wsX0_withRightLook) := goodIn_app (goodIn_of _ (by decide +kernel)) ggX0_chosenCrowd_X0_withRightLook
set_option maxRecDepth 20000 in
theorem ggX0_chosenCrowd_X0_withTime : GoodIn wsX0_chosenCrowd wsX0_withTime := goodIn_r _ [19, 20, 1, 14, 15, 2, 3, 4, 5, 6, 7, 8, 48, 49, 50, 51, 52, 53, 54, 55, 56, 57, 58, 59] (by decide +kernel) (by decide +kernel)
set_option maxRecDepth 20000 in
theorem gX0_chosenCrowd_X0_withTime : GoodIn wsX0_chosenCrowd (wsV RX0 100 RX0 yX0_withTime wsX0_withTime) := goodIn_app (goodIn_of _ (by decide +kernel)) ggX0_chosenCrowd_X0_withTime
set_option maxRecDepth 20000 in
theorem ggX0_chosenCrowd_X0_castOf : GoodIn wsX0_chosenCrowd wsX0_castOf := goodIn_r _ [24, 1, 25, 2, 3, 4, 5, 6, 7, 8, 48, 49, 50, 51, 52, 53, 54, 55, 56, 57, 58, 59] (by decide +kernel) (by decide +kernel)
set_option maxRecDepth 20000 in
theorem gX0_chosenCrowd_X0_castOf : GoodIn wsX0_chosenCrowd (wsV RX0 89 RX0 yX0_castOf wsX0_castOf) := goodIn_app (goodIn_of _ (by decide +kernel)) ggX0_chosenCrowd_X0_castOf
set_option maxRecDepth 20000 in
theorem ggX0_chosenCrowd_X0_facesOf : GoodIn wsX0_chosenCrowd wsX0_facesOf := goodIn_r _ [29, 14, 15, 30, 31, 32, 2, 3, 4, 5, 6, 7, 8, 48, 49, 50, 51, 52, 53, 54, 55, 56, 57, 58, 59] (by decide +kernel) (by decide +kernel)
set_option maxRecDepth 20000 in
theorem gX0_chosenCrowd_X0_facesOf : GoodIn wsX0_chosenCrowd (wsV RX0 75 RX0 yX0_facesOf wsX0_facesOf) := goodIn_app (goodIn_of _ (by decide +kernel)) ggX0_chosenCrowd_X0_facesOf
set_option maxRecDepth 20000 in
theorem ggX0_chosenCrowd_J6_bitCount_0f7a4 : GoodIn wsX0_chosenCrowd wsJ6_bitCount_0f7a4 := goodIn_r _ [36, 37, 38, 39] (by decide +kernel) (by decide +kernel)
set_option maxRecDepth 20000 in
theorem gX0_chosenCrowd_J6_bitCount_0f7a4 : GoodIn wsX0_chosenCrowd (va_wsS RX0 78 yJ6_bitCount_0f7a4 wsJ6_bitCount_0f7a4) := goodIn_app (goodIn_of _ (by decide +kernel)) ggX0_chosenCrowd_J6_bitCount_0f7a4
set_option maxRecDepth 20000 in
theorem ggX0_chosenCrowd_X0_withFaces : GoodIn wsX0_chosenCrowd wsX0_withFaces := goodIn_r _ [43, 14, 15, 30, 31, 32, 2, 3, 4, 5, 6, 7, 8, 48, 49, 50, 51, 52, 53, 54, 55, 56, 57, 58, 59] (by decide +kernel) (by decide +kernel)
set_option maxRecDepth 20000 in
theorem gX0_chosenCrowd_X0_withFaces : GoodIn wsX0_chosenCrowd (wsV RX0 86 RX0 yX0_withFaces wsX0_withFaces) := goodIn_app (goodIn_of _ (by decide +kernel)) ggX0_chosenCrowd_X0_withFaces
set_option maxRecDepth 20000 in
theorem ggX0_chosenCrowd_X0_leastWorked : GoodIn wsX0_chosenCrowd wsX0_leastWorked := goodIn_r _ [47, 14, 15, 30, 31, 32, 2, 3, 4, 5, 6, 7, 8, 48, 49, 50, 51, 52, 53, 54, 55, 56, 57, 58, 59] (by decide +kernel) (by decide +kernel)
set_option maxRecDepth 20000 in
theorem gX0_chosenCrowd_X0_leastWorked : GoodIn wsX0_chosenCrowd (wsV RX0 103 RX0 yX0_leastWorked wsX0_leastWorked) := goodIn_app (goodIn_of _ (by decide +kernel)) ggX0_chosenCrowd_X0_leastWorked
theorem dX0_chosenCrowd_0 : decode cX0_chosenCrowd 0 = .ok (.aload_n 0, 1) := by decide +kernel
theorem dX0_chosenCrowd_1 : decode cX0_chosenCrowd 1 = .ok (.getfield 20, 3) := by decide +kernel
theorem dX0_chosenCrowd_4 : decode cX0_chosenCrowd 4 = .ok (.iconst 1, 1) := by decide +kernel
theorem dX0_chosenCrowd_5 : decode cX0_chosenCrowd 5 = .ok (.iload_n 1, 1) := by decide +kernel
theorem dX0_chosenCrowd_6 : decode cX0_chosenCrowd 6 = .ok (.invokevirtual 63, 3) := by decide +kernel
theorem dX0_chosenCrowd_9 : decode cX0_chosenCrowd 9 = .ok (.istore_n 2, 1) := by decide +kernel
theorem dX0_chosenCrowd_10 : decode cX0_chosenCrowd 10 = .ok (.aload_n 0, 1) := by decide +kernel
theorem dX0_chosenCrowd_11 : decode cX0_chosenCrowd 11 = .ok (.iload_n 1, 1) := by decide +kernel
theorem dX0_chosenCrowd_12 : decode cX0_chosenCrowd 12 = .ok (.invokevirtual 97, 3) := by decide +kernel
theorem dX0_chosenCrowd_15 : decode cX0_chosenCrowd 15 = .ok (.aload_n 0, 1) := by decide +kernel
theorem dX0_chosenCrowd_16 : decode cX0_chosenCrowd 16 = .ok (.iload_n 1, 1) := by decide +kernel
theorem dX0_chosenCrowd_17 : decode cX0_chosenCrowd 17 = .ok (.invokevirtual 100, 3) := by decide +kernel
theorem dX0_chosenCrowd_20 : decode cX0_chosenCrowd 20 = .ok (.iand, 1) := by decide +kernel
theorem dX0_chosenCrowd_21 : decode cX0_chosenCrowd 21 = .ok (.istore_n 3, 1) := by decide +kernel
theorem dX0_chosenCrowd_22 : decode cX0_chosenCrowd 22 = .ok (.aload_n 0, 1) := by decide +kernel
theorem dX0_chosenCrowd_23 : decode cX0_chosenCrowd 23 = .ok (.aload_n 0, 1) := by decide +kernel
theorem dX0_chosenCrowd_24 : decode cX0_chosenCrowd 24 = .ok (.iload_n 1, 1) := by decide +kernel
theorem dX0_chosenCrowd_25 : decode cX0_chosenCrowd 25 = .ok (.iconst 1, 1) := by decide +kernel
theorem dX0_chosenCrowd_26 : decode cX0_chosenCrowd 26 = .ok (.invokevirtual 89, 3) := by decide +kernel
theorem dX0_chosenCrowd_29 : decode cX0_chosenCrowd 29 = .ok (.invokevirtual 75, 3) := by decide +kernel
theorem dX0_chosenCrowd_32 : decode cX0_chosenCrowd 32 = .ok (.istore 4, 2) := by decide +kernel
theorem dX0_chosenCrowd_34 : decode cX0_chosenCrowd 34 = .ok (.aload_n 0, 1) := by decide +kernel
theorem dX0_chosenCrowd_35 : decode cX0_chosenCrowd 35 = .ok (.aload_n 0, 1) := by decide +kernel
theorem dX0_chosenCrowd_36 : decode cX0_chosenCrowd 36 = .ok (.iload_n 1, 1) := by decide +kernel
theorem dX0_chosenCrowd_37 : decode cX0_chosenCrowd 37 = .ok (.iconst 0, 1) := by decide +kernel
theorem dX0_chosenCrowd_38 : decode cX0_chosenCrowd 38 = .ok (.invokevirtual 89, 3) := by decide +kernel
theorem dX0_chosenCrowd_41 : decode cX0_chosenCrowd 41 = .ok (.invokevirtual 75, 3) := by decide +kernel
theorem dX0_chosenCrowd_44 : decode cX0_chosenCrowd 44 = .ok (.istore 5, 2) := by decide +kernel
theorem dX0_chosenCrowd_46 : decode cX0_chosenCrowd 46 = .ok (.iconst 0, 1) := by decide +kernel
theorem dX0_chosenCrowd_47 : decode cX0_chosenCrowd 47 = .ok (.istore 6, 2) := by decide +kernel
theorem dX0_chosenCrowd_49 : decode cX0_chosenCrowd 49 = .ok (.iconst 0, 1) := by decide +kernel
theorem dX0_chosenCrowd_50 : decode cX0_chosenCrowd 50 = .ok (.istore 7, 2) := by decide +kernel
theorem dX0_chosenCrowd_52 : decode cX0_chosenCrowd 52 = .ok (.iload 7, 2) := by decide +kernel
theorem dX0_chosenCrowd_54 : decode cX0_chosenCrowd 54 = .ok (.bipush 13, 2) := by decide +kernel
theorem dX0_chosenCrowd_56 : decode cX0_chosenCrowd 56 = .ok (.if_icmp .gt 48, 3) := by decide +kernel
theorem dX0_chosenCrowd_59 : decode cX0_chosenCrowd 59 = .ok (.iload 6, 2) := by decide +kernel
theorem dX0_chosenCrowd_61 : decode cX0_chosenCrowd 61 = .ok (.invokestatic 78, 3) := by decide +kernel
theorem dX0_chosenCrowd_64 : decode cX0_chosenCrowd 64 = .ok (.iload_n 2, 1) := by decide +kernel
theorem dX0_chosenCrowd_65 : decode cX0_chosenCrowd 65 = .ok (.if_icmp .ge 39, 3) := by decide +kernel
theorem dX0_chosenCrowd_68 : decode cX0_chosenCrowd 68 = .ok (.aload_n 0, 1) := by decide +kernel
theorem dX0_chosenCrowd_69 : decode cX0_chosenCrowd 69 = .ok (.iload_n 3, 1) := by decide +kernel
theorem dX0_chosenCrowd_70 : decode cX0_chosenCrowd 70 = .ok (.iload 4, 2) := by decide +kernel
theorem dX0_chosenCrowd_72 : decode cX0_chosenCrowd 72 = .ok (.iload 5, 2) := by decide +kernel
theorem dX0_chosenCrowd_74 : decode cX0_chosenCrowd 74 = .ok (.iconst (-1), 1) := by decide +kernel
theorem dX0_chosenCrowd_75 : decode cX0_chosenCrowd 75 = .ok (.ixor, 1) := by decide +kernel
theorem dX0_chosenCrowd_76 : decode cX0_chosenCrowd 76 = .ok (.iand, 1) := by decide +kernel
theorem dX0_chosenCrowd_77 : decode cX0_chosenCrowd 77 = .ok (.iconst 1, 1) := by decide +kernel
theorem dX0_chosenCrowd_78 : decode cX0_chosenCrowd 78 = .ok (.iload 7, 2) := by decide +kernel
theorem dX0_chosenCrowd_80 : decode cX0_chosenCrowd 80 = .ok (.ishl, 1) := by decide +kernel
theorem dX0_chosenCrowd_81 : decode cX0_chosenCrowd 81 = .ok (.iand, 1) := by decide +kernel
theorem dX0_chosenCrowd_82 : decode cX0_chosenCrowd 82 = .ok (.invokevirtual 86, 3) := by decide +kernel
theorem dX0_chosenCrowd_85 : decode cX0_chosenCrowd 85 = .ok (.istore 8, 2) := by decide +kernel
theorem dX0_chosenCrowd_87 : decode cX0_chosenCrowd 87 = .ok (.iload 6, 2) := by decide +kernel
theorem dX0_chosenCrowd_89 : decode cX0_chosenCrowd 89 = .ok (.iload 8, 2) := by decide +kernel
theorem dX0_chosenCrowd_91 : decode cX0_chosenCrowd 91 = .ok (.iload 8, 2) := by decide +kernel
theorem dX0_chosenCrowd_93 : decode cX0_chosenCrowd 93 = .ok (.ineg, 1) := by decide +kernel
theorem dX0_chosenCrowd_94 : decode cX0_chosenCrowd 94 = .ok (.iand, 1) := by decide +kernel
theorem dX0_chosenCrowd_95 : decode cX0_chosenCrowd 95 = .ok (.ior, 1) := by decide +kernel
theorem dX0_chosenCrowd_96 : decode cX0_chosenCrowd 96 = .ok (.istore 6, 2) := by decide +kernel
theorem dX0_chosenCrowd_98 : decode cX0_chosenCrowd 98 = .ok (.iinc 7 1, 3) := by decide +kernel
theorem dX0_chosenCrowd_101 : decode cX0_chosenCrowd 101 = .ok (.goto (-49), 3) := by decide +kernel
theorem dX0_chosenCrowd_104 : decode cX0_chosenCrowd 104 = .ok (.aload_n 0, 1) := by decide +kernel
theorem dX0_chosenCrowd_105 : decode cX0_chosenCrowd 105 = .ok (.iload_n 3, 1) := by decide +kernel
theorem dX0_chosenCrowd_106 : decode cX0_chosenCrowd 106 = .ok (.iload 4, 2) := by decide +kernel
theorem dX0_chosenCrowd_108 : decode cX0_chosenCrowd 108 = .ok (.iload 5, 2) := by decide +kernel
theorem dX0_chosenCrowd_110 : decode cX0_chosenCrowd 110 = .ok (.ior, 1) := by decide +kernel
theorem dX0_chosenCrowd_111 : decode cX0_chosenCrowd 111 = .ok (.iconst (-1), 1) := by decide +kernel
theorem dX0_chosenCrowd_112 : decode cX0_chosenCrowd 112 = .ok (.ixor, 1) := by decide +kernel
theorem dX0_chosenCrowd_113 : decode cX0_chosenCrowd 113 = .ok (.invokevirtual 86, 3) := by decide +kernel
theorem dX0_chosenCrowd_116 : decode cX0_chosenCrowd 116 = .ok (.istore 7, 2) := by decide +kernel
theorem dX0_chosenCrowd_118 : decode cX0_chosenCrowd 118 = .ok (.iconst 0, 1) := by decide +kernel
theorem dX0_chosenCrowd_119 : decode cX0_chosenCrowd 119 = .ok (.istore 8, 2) := by decide +kernel
theorem dX0_chosenCrowd_121 : decode cX0_chosenCrowd 121 = .ok (.iload 8, 2) := by decide +kernel
theorem dX0_chosenCrowd_123 : decode cX0_chosenCrowd 123 = .ok (.bipush 14, 2) := by decide +kernel
theorem dX0_chosenCrowd_125 : decode cX0_chosenCrowd 125 = .ok (.if_icmp .ge 54, 3) := by decide +kernel
theorem dX0_chosenCrowd_128 : decode cX0_chosenCrowd 128 = .ok (.iload 7, 2) := by decide +kernel
theorem dX0_chosenCrowd_130 : decode cX0_chosenCrowd 130 = .ok (.ifCond .eq 49, 3) := by decide +kernel
theorem dX0_chosenCrowd_133 : decode cX0_chosenCrowd 133 = .ok (.iload 6, 2) := by decide +kernel
theorem dX0_chosenCrowd_135 : decode cX0_chosenCrowd 135 = .ok (.invokestatic 78, 3) := by decide +kernel
theorem dX0_chosenCrowd_138 : decode cX0_chosenCrowd 138 = .ok (.iload_n 2, 1) := by decide +kernel
theorem dX0_chosenCrowd_139 : decode cX0_chosenCrowd 139 = .ok (.if_icmp .ge 40, 3) := by decide +kernel
theorem dX0_chosenCrowd_142 : decode cX0_chosenCrowd 142 = .ok (.aload_n 0, 1) := by decide +kernel
theorem dX0_chosenCrowd_143 : decode cX0_chosenCrowd 143 = .ok (.iload 7, 2) := by decide +kernel
theorem dX0_chosenCrowd_145 : decode cX0_chosenCrowd 145 = .ok (.invokevirtual 103, 3) := by decide +kernel
theorem dX0_chosenCrowd_148 : decode cX0_chosenCrowd 148 = .ok (.istore 9, 2) := by decide +kernel
theorem dX0_chosenCrowd_150 : decode cX0_chosenCrowd 150 = .ok (.iload 6, 2) := by decide +kernel
theorem dX0_chosenCrowd_152 : decode cX0_chosenCrowd 152 = .ok (.iload 9, 2) := by decide +kernel
theorem dX0_chosenCrowd_154 : decode cX0_chosenCrowd 154 = .ok (.ior, 1) := by decide +kernel
theorem dX0_chosenCrowd_155 : decode cX0_chosenCrowd 155 = .ok (.istore 6, 2) := by decide +kernel
theorem dX0_chosenCrowd_157 : decode cX0_chosenCrowd 157 = .ok (.aload_n 0, 1) := by decide +kernel
theorem dX0_chosenCrowd_158 : decode cX0_chosenCrowd 158 = .ok (.iload 7, 2) := by decide +kernel
theorem dX0_chosenCrowd_160 : decode cX0_chosenCrowd 160 = .ok (.aload_n 0, 1) := by decide +kernel
theorem dX0_chosenCrowd_161 : decode cX0_chosenCrowd 161 = .ok (.iload 9, 2) := by decide +kernel
theorem dX0_chosenCrowd_163 : decode cX0_chosenCrowd 163 = .ok (.invokevirtual 75, 3) := by decide +kernel
theorem dX0_chosenCrowd_166 : decode cX0_chosenCrowd 166 = .ok (.iconst (-1), 1) := by decide +kernel
theorem dX0_chosenCrowd_167 : decode cX0_chosenCrowd 167 = .ok (.ixor, 1) := by decide +kernel
theorem dX0_chosenCrowd_168 : decode cX0_chosenCrowd 168 = .ok (.invokevirtual 86, 3) := by decide +kernel
theorem dX0_chosenCrowd_171 : decode cX0_chosenCrowd 171 = .ok (.istore 7, 2) := by decide +kernel
theorem dX0_chosenCrowd_173 : decode cX0_chosenCrowd 173 = .ok (.iinc 8 1, 3) := by decide +kernel
theorem dX0_chosenCrowd_176 : decode cX0_chosenCrowd 176 = .ok (.goto (-55), 3) := by decide +kernel
theorem dX0_chosenCrowd_179 : decode cX0_chosenCrowd 179 = .ok (.iload 6, 2) := by decide +kernel
theorem dX0_chosenCrowd_181 : decode cX0_chosenCrowd 181 = .ok (.ireturn, 1) := by decide +kernel
set_option maxRecDepth 20000 in
theorem ggX0_lackOf_X5_get : GoodIn wsX0_lackOf wsX5_get := goodIn_r _ [6, 7, 8, 62, 63] (by decide +kernel) (by decide +kernel)
set_option maxRecDepth 20000 in
theorem gX0_lackOf_X5_get : GoodIn wsX0_lackOf (wsV RX0 63 RX5 yX5_get wsX5_get) := goodIn_app (goodIn_of _ (by decide +kernel)) ggX0_lackOf_X5_get
set_option maxRecDepth 20000 in
theorem ggX0_lackOf_X0_chosenCrowd : GoodIn wsX0_lackOf wsX0_chosenCrowd := goodIn_r _ [13, 1, 2, 3, 4, 5, 6, 7, 8, 14, 15, 16, 12, 17, 18, 19, 20, 21, 22, 23, 24, 25, 26, 27, 28, 29, 30, 31, 32, 33, 34, 35, 36, 37, 38, 39, 40, 41, 42, 43, 44, 45, 46, 47, 48, 49, 50, 51, 52, 53, 54, 55, 56, 57, 58, 59, 60, 61, 62, 63] (by decide +kernel) (by decide +kernel)
set_option maxRecDepth 20000 in
theorem gX0_lackOf_X0_chosenCrowd : GoodIn wsX0_lackOf (wsV RX0 106 RX0 yX0_chosenCrowd wsX0_chosenCrowd) := goodIn_app (goodIn_of _ (by decide +kernel)) ggX0_lackOf_X0_chosenCrowd
set_option maxRecDepth 20000 in
theorem ggX0_lackOf_J6_bitCount_0f7a4 : GoodIn wsX0_lackOf wsJ6_bitCount_0f7a4 := goodIn_r _ [40, 41, 42, 43] (by decide +kernel) (by decide +kernel)
set_option maxRecDepth 20000 in
theorem gX0_lackOf_J6_bitCount_0f7a4 : GoodIn wsX0_lackOf (va_wsS RX0 78 yJ6_bitCount_0f7a4 wsJ6_bitCount_0f7a4) := goodIn_app (goodIn_of _ (by decide +kernel)) ggX0_lackOf_J6_bitCount_0f7a4
theorem dX0_lackOf_0 : decode cX0_lackOf 0 = .ok (.aload_n 0, 1) := by decide +kernel
theorem dX0_lackOf_1 : decode cX0_lackOf 1 = .ok (.getfield 20, 3) := by decide +kernel
theorem dX0_lackOf_4 : decode cX0_lackOf 4 = .ok (.iconst 1, 1) := by decide +kernel
theorem dX0_lackOf_5 : decode cX0_lackOf 5 = .ok (.iload_n 1, 1) := by decide +kernel
theorem dX0_lackOf_6 : decode cX0_lackOf 6 = .ok (.invokevirtual 63, 3) := by decide +kernel
theorem dX0_lackOf_9 : decode cX0_lackOf 9 = .ok (.aload_n 0, 1) := by decide +kernel
theorem dX0_lackOf_10 : decode cX0_lackOf 10 = .ok (.iload_n 1, 1) := by decide +kernel
theorem dX0_lackOf_11 : decode cX0_lackOf 11 = .ok (.invokevirtual 106, 3) := by decide +kernel
theorem dX0_lackOf_14 : decode cX0_lackOf 14 = .ok (.invokestatic 78, 3) := by decide +kernel
theorem dX0_lackOf_17 : decode cX0_lackOf 17 = .ok (.isub, 1) := by decide +kernel
theorem dX0_lackOf_18 : decode cX0_lackOf 18 = .ok (.ireturn, 1) := by decide +kernel
set_option maxRecDepth 20000 in
theorem ggX0_crowdNow_X0_isScene : GoodIn wsX0_crowdNow wsX0_isScene := goodIn_r _ [6, 7, 60, 61, 62, 63, 64, 65, 66, 67, 68, 69] (by decide +kernel) (by decide +kernel)
set_option maxRecDepth 20000 in
theorem gX0_crowdNow_X0_isScene : GoodIn wsX0_crowdNow (wsV RX0 109 RX0 yX0_isScene wsX0_isScene) := goodIn_app (goodIn_of _ (by decide +kernel)) ggX0_crowdNow_X0_isScene
set_option maxRecDepth 20000 in
theorem ggX0_crowdNow_X0_crowdOf : GoodIn wsX0_crowdNow wsX0_crowdOf := goodIn_r _ [11, 1, 12, 13, 14, 15, 16, 17, 18, 60, 61, 62, 63, 64, 65, 66, 67, 68, 69, 70, 71] (by decide +kernel) (by decide +kernel)
set_option maxRecDepth 20000 in
theorem gX0_crowdNow_X0_crowdOf : GoodIn wsX0_crowdNow (wsV RX0 67 RX0 yX0_crowdOf wsX0_crowdOf) := goodIn_app (goodIn_of _ (by decide +kernel)) ggX0_crowdNow_X0_crowdOf
set_option maxRecDepth 20000 in
theorem ggX0_crowdNow_X0_chosenCrowd : GoodIn wsX0_crowdNow wsX0_chosenCrowd := goodIn_r _ [22, 1, 12, 13, 14, 15, 16, 17, 18, 23, 24, 25, 5, 26, 27, 28, 29, 30, 31, 32, 33, 34, 35, 36, 37, 7, 38, 39, 40, 41, 42, 43, 44, 45, 46, 47, 48, 49, 50, 51, 52, 53, 54, 55, 56, 57, 58, 59, 60, 61, 62, 63, 64, 65, 66, 67, 68, 69, 70, 71] (by decide +kernel) (by decide +kernel)
set_option maxRecDepth 20000 in
theorem gX0_crowdNow_X0_chosenCrowd : GoodIn wsX0_crowdNow (wsV RX0 106 RX0 yX0_chosenCrowd wsX0_chosenCrowd) := goodIn_app (goodIn_of _ (by decide +kernel)) ggX0_crowdNow_X0_chosenCrowd
set_option maxRecDepth 20000 in
theorem ggX0_crowdNow_J6_bitCount_0f7a4 : GoodIn wsX0_crowdNow wsJ6_bitCount_0f7a4 := goodIn_r _ [48, 49, 50, 51] (by decide +kernel) (by decide +kernel)
set_option maxRecDepth 20000 in
theorem gX0_crowdNow_J6_bitCount_0f7a4 : GoodIn wsX0_crowdNow (va_wsS RX0 78 yJ6_bitCount_0f7a4 wsJ6_bitCount_0f7a4) := goodIn_app (goodIn_of _ (by decide +kernel)) ggX0_crowdNow_J6_bitCount_0f7a4
set_option maxRecDepth 20000 in
theorem ggX0_crowdNow_X5_get : GoodIn wsX0_crowdNow wsX5_get := goodIn_r _ [16, 17, 18, 70, 71] (by decide +kernel) (by decide +kernel)
set_option maxRecDepth 20000 in
theorem gX0_crowdNow_X5_get : GoodIn wsX0_crowdNow (wsV RX0 63 RX5 yX5_get wsX5_get) := goodIn_app (goodIn_of _ (by decide +kernel)) ggX0_crowdNow_X5_get
theorem dX0_crowdNow_0 : decode cX0_crowdNow 0 = .ok (.aload_n 0, 1) := by decide +kernel
theorem dX0_crowdNow_1 : decode cX0_crowdNow 1 = .ok (.iload_n 1, 1) := by decide +kernel
theorem dX0_crowdNow_2 : decode cX0_crowdNow 2 = .ok (.invokevirtual 109, 3) := by decide +kernel
theorem dX0_crowdNow_5 : decode cX0_crowdNow 5 = .ok (.ifCond .eq 11, 3) := by decide +kernel
theorem dX0_crowdNow_8 : decode cX0_crowdNow 8 = .ok (.aload_n 0, 1) := by decide +kernel
theorem dX0_crowdNow_9 : decode cX0_crowdNow 9 = .ok (.iload_n 1, 1) := by decide +kernel
theorem dX0_crowdNow_10 : decode cX0_crowdNow 10 = .ok (.invokevirtual 67, 3) := by decide +kernel
theorem dX0_crowdNow_13 : decode cX0_crowdNow 13 = .ok (.ifCond .eq 5, 3) := by decide +kernel
theorem dX0_crowdNow_16 : decode cX0_crowdNow 16 = .ok (.iconst 0, 1) := by decide +kernel
theorem dX0_crowdNow_17 : decode cX0_crowdNow 17 = .ok (.ireturn, 1) := by decide +kernel
theorem dX0_crowdNow_18 : decode cX0_crowdNow 18 = .ok (.aload_n 0, 1) := by decide +kernel
theorem dX0_crowdNow_19 : decode cX0_crowdNow 19 = .ok (.iload_n 1, 1) := by decide +kernel
theorem dX0_crowdNow_20 : decode cX0_crowdNow 20 = .ok (.invokevirtual 106, 3) := by decide +kernel
theorem dX0_crowdNow_23 : decode cX0_crowdNow 23 = .ok (.istore_n 2, 1) := by decide +kernel
theorem dX0_crowdNow_24 : decode cX0_crowdNow 24 = .ok (.iload_n 2, 1) := by decide +kernel
theorem dX0_crowdNow_25 : decode cX0_crowdNow 25 = .ok (.invokestatic 78, 3) := by decide +kernel
theorem dX0_crowdNow_28 : decode cX0_crowdNow 28 = .ok (.aload_n 0, 1) := by decide +kernel
theorem dX0_crowdNow_29 : decode cX0_crowdNow 29 = .ok (.getfield 20, 3) := by decide +kernel
theorem dX0_crowdNow_32 : decode cX0_crowdNow 32 = .ok (.iconst 1, 1) := by decide +kernel
theorem dX0_crowdNow_33 : decode cX0_crowdNow 33 = .ok (.iload_n 1, 1) := by decide +kernel
theorem dX0_crowdNow_34 : decode cX0_crowdNow 34 = .ok (.invokevirtual 63, 3) := by decide +kernel
theorem dX0_crowdNow_37 : decode cX0_crowdNow 37 = .ok (.if_icmp .ge 7, 3) := by decide +kernel
theorem dX0_crowdNow_40 : decode cX0_crowdNow 40 = .ok (.iconst 0, 1) := by decide +kernel
theorem dX0_crowdNow_41 : decode cX0_crowdNow 41 = .ok (.goto 4, 3) := by decide +kernel
theorem dX0_crowdNow_44 : decode cX0_crowdNow 44 = .ok (.iload_n 2, 1) := by decide +kernel
theorem dX0_crowdNow_45 : decode cX0_crowdNow 45 = .ok (.ireturn, 1) := by decide +kernel
set_option maxRecDepth 20000 in
theorem ggX0_reason_X5_get : GoodIn wsX0_reason wsX5_get := goodIn_r _ [6, 7, 8, 74, 75] (by decide +kernel) (by decide +kernel)
set_option maxRecDepth 20000 in
theorem gX0_reason_X5_get : GoodIn wsX0_reason (wsV RX0 63 RX5 yX5_get wsX5_get) := goodIn_app (goodIn_of _ (by decide +kernel)) ggX0_reason_X5_get
set_option maxRecDepth 20000 in
theorem ggX0_reason_X0_withRightLook : GoodIn wsX0_reason wsX0_withRightLook := goodIn_r _ [13, 14, 15, 1, 2, 3, 4, 5, 6, 7, 8, 64, 65, 66, 67, 68, 69, 70, 71, 72, 73, 74, 75] (by decide +kernel) (by decide +kernel)
set_option maxRecDepth 20000 in
theorem gX0_reason_X0_withRightLook : GoodIn wsX0_reason (wsV RX0 97 RX0 yX0_withRightLook wsX0_withRightLook) := goodIn_app (goodIn_of _ (by decide +kernel)) ggX0_reason_X0_withRightLook
set_option maxRecDepth 20000 in
theorem ggX0_reason_X7_has : GoodIn wsX0_reason wsX7_has := goodIn_r _ [18] (by decide +kernel) (by decide +kernel)
set_option maxRecDepth 20000 in
theorem gX0_reason_X7_has_n93 : GoodIn wsX0_reason (wsX7_has) := ggX0_reason_X7_has
set_option maxRecDepth 20000 in
theorem ggX0_reason_X0_withTime : GoodIn wsX0_reason wsX0_withTime := goodIn_r _ [22, 23, 14, 15, 1, 2, 3, 4, 5, 6, 7, 8, 64, 65, 66, 67, 68, 69, 70, 71, 72, 73, 74, 75] (by decide +kernel) (by decide +kernel)
set_option maxRecDepth 20000 in
theorem gX0_reason_X0_withTime : GoodIn wsX0_reason (wsV RX0 100 RX0 yX0_withTime wsX0_withTime) := goodIn_app (goodIn_of _ (by decide +kernel)) ggX0_reason_X0_withTime
set_option maxRecDepth 20000 in
theorem ggX0_reason_X0_castOf : GoodIn wsX0_reason wsX0_castOf := goodIn_r _ [27, 14, 28, 2, 3, 4, 5, 6, 7, 8, 64, 65, 66, 67, 68, 69, 70, 71, 72, 73, 74, 75] (by decide +kernel) (by decide +kernel)
set_option maxRecDepth 20000 in
theorem gX0_reason_X0_castOf : GoodIn wsX0_reason (wsV RX0 89 RX0 yX0_castOf wsX0_castOf) := goodIn_app (goodIn_of _ (by decide +kernel)) ggX0_reason_X0_castOf
set_option maxRecDepth 20000 in
theorem ggX0_reason_X0_facesOf : GoodIn wsX0_reason wsX0_facesOf := goodIn_r _ [32, 15, 1, 16, 17, 18, 2, 3, 4, 5, 6, 7, 8, 64, 65, 66, 67, 68, 69, 70, 71, 72, 73, 74, 75] (by decide +kernel) (by decide +kernel)
set_option maxRecDepth 20000 in
theorem gX0_reason_X0_facesOf : GoodIn wsX0_reason (wsV RX0 75 RX0 yX0_facesOf wsX0_facesOf) := goodIn_app (goodIn_of _ (by decide +kernel)) ggX0_reason_X0_facesOf
set_option maxRecDepth 20000 in
theorem ggX0_reason_X0_crowdNow : GoodIn wsX0_reason wsX0_crowdNow := goodIn_r _ [36, 14, 37, 38, 39, 12, 40, 28, 41, 42, 43, 44, 2, 3, 4, 5, 6, 7, 8, 45, 46, 47, 48, 9, 10, 11, 13, 15, 1, 19, 20, 21, 22, 23, 24, 25, 26, 27, 29, 30, 31, 32, 16, 17, 18, 49, 50, 51, 52, 53, 54, 55, 56, 57, 58, 59, 60, 61, 62, 63, 64, 65, 66, 67, 68, 69, 70, 71, 72, 73, 74, 75] (by decide +kernel) (by decide +kernel)
set_option maxRecDepth 20000 in
theorem gX0_reason_X0_crowdNow : GoodIn wsX0_reason (wsV RX0 113 RX0 yX0_crowdNow wsX0_crowdNow) := goodIn_app (goodIn_of _ (by decide +kernel)) ggX0_reason_X0_crowdNow
theorem dX0_reason_0 : decode cX0_reason 0 = .ok (.iconst 1, 1) := by decide +kernel
theorem dX0_reason_1 : decode cX0_reason 1 = .ok (.aload_n 0, 1) := by decide +kernel
theorem dX0_reason_2 : decode cX0_reason 2 = .ok (.getfield 14, 3) := by decide +kernel
theorem dX0_reason_5 : decode cX0_reason 5 = .ok (.iconst 1, 1) := by decide +kernel
theorem dX0_reason_6 : decode cX0_reason 6 = .ok (.iload_n 2, 1) := by decide +kernel
theorem dX0_reason_7 : decode cX0_reason 7 = .ok (.invokevirtual 63, 3) := by decide +kernel
theorem dX0_reason_10 : decode cX0_reason 10 = .ok (.ishl, 1) := by decide +kernel
theorem dX0_reason_11 : decode cX0_reason 11 = .ok (.istore_n 3, 1) := by decide +kernel
theorem dX0_reason_12 : decode cX0_reason 12 = .ok (.aload_n 0, 1) := by decide +kernel
theorem dX0_reason_13 : decode cX0_reason 13 = .ok (.iload_n 1, 1) := by decide +kernel
theorem dX0_reason_14 : decode cX0_reason 14 = .ok (.invokevirtual 97, 3) := by decide +kernel
theorem dX0_reason_17 : decode cX0_reason 17 = .ok (.iload_n 2, 1) := by decide +kernel
theorem dX0_reason_18 : decode cX0_reason 18 = .ok (.invokestatic 93, 3) := by decide +kernel
theorem dX0_reason_21 : decode cX0_reason 21 = .ok (.ifCond .ne 5, 3) := by decide +kernel
theorem dX0_reason_24 : decode cX0_reason 24 = .ok (.iconst 1, 1) := by decide +kernel
theorem dX0_reason_25 : decode cX0_reason 25 = .ok (.ireturn, 1) := by decide +kernel
theorem dX0_reason_26 : decode cX0_reason 26 = .ok (.aload_n 0, 1) := by decide +kernel
theorem dX0_reason_27 : decode cX0_reason 27 = .ok (.iload_n 1, 1) := by decide +kernel
theorem dX0_reason_28 : decode cX0_reason 28 = .ok (.invokevirtual 100, 3) := by decide +kernel
theorem dX0_reason_31 : decode cX0_reason 31 = .ok (.iload_n 2, 1) := by decide +kernel
theorem dX0_reason_32 : decode cX0_reason 32 = .ok (.invokestatic 93, 3) := by decide +kernel
theorem dX0_reason_35 : decode cX0_reason 35 = .ok (.ifCond .ne 5, 3) := by decide +kernel
theorem dX0_reason_38 : decode cX0_reason 38 = .ok (.iconst 2, 1) := by decide +kernel
theorem dX0_reason_39 : decode cX0_reason 39 = .ok (.ireturn, 1) := by decide +kernel
theorem dX0_reason_40 : decode cX0_reason 40 = .ok (.aload_n 0, 1) := by decide +kernel
theorem dX0_reason_41 : decode cX0_reason 41 = .ok (.aload_n 0, 1) := by decide +kernel
theorem dX0_reason_42 : decode cX0_reason 42 = .ok (.iload_n 1, 1) := by decide +kernel
theorem dX0_reason_43 : decode cX0_reason 43 = .ok (.iconst 0, 1) := by decide +kernel
theorem dX0_reason_44 : decode cX0_reason 44 = .ok (.invokevirtual 89, 3) := by decide +kernel
theorem dX0_reason_47 : decode cX0_reason 47 = .ok (.invokevirtual 75, 3) := by decide +kernel
theorem dX0_reason_50 : decode cX0_reason 50 = .ok (.iload_n 3, 1) := by decide +kernel
theorem dX0_reason_51 : decode cX0_reason 51 = .ok (.iand, 1) := by decide +kernel
theorem dX0_reason_52 : decode cX0_reason 52 = .ok (.ifCond .eq 5, 3) := by decide +kernel
theorem dX0_reason_55 : decode cX0_reason 55 = .ok (.iconst 3, 1) := by decide +kernel
theorem dX0_reason_56 : decode cX0_reason 56 = .ok (.ireturn, 1) := by decide +kernel
theorem dX0_reason_57 : decode cX0_reason 57 = .ok (.aload_n 0, 1) := by decide +kernel
theorem dX0_reason_58 : decode cX0_reason 58 = .ok (.iload_n 1, 1) := by decide +kernel
theorem dX0_reason_59 : decode cX0_reason 59 = .ok (.invokevirtual 113, 3) := by decide +kernel
theorem dX0_reason_62 : decode cX0_reason 62 = .ok (.istore 4, 2) := by decide +kernel
theorem dX0_reason_64 : decode cX0_reason 64 = .ok (.iload 4, 2) := by decide +kernel
theorem dX0_reason_66 : decode cX0_reason 66 = .ok (.ifCond .ne 5, 3) := by decide +kernel
theorem dX0_reason_69 : decode cX0_reason 69 = .ok (.iconst 4, 1) := by decide +kernel
theorem dX0_reason_70 : decode cX0_reason 70 = .ok (.ireturn, 1) := by decide +kernel
theorem dX0_reason_71 : decode cX0_reason 71 = .ok (.iload 4, 2) := by decide +kernel
theorem dX0_reason_73 : decode cX0_reason 73 = .ok (.iload_n 2, 1) := by decide +kernel
theorem dX0_reason_74 : decode cX0_reason 74 = .ok (.invokestatic 93, 3) := by decide +kernel
theorem dX0_reason_77 : decode cX0_reason 77 = .ok (.ifCond .eq 5, 3) := by decide +kernel
theorem dX0_reason_80 : decode cX0_reason 80 = .ok (.iconst 0, 1) := by decide +kernel
theorem dX0_reason_81 : decode cX0_reason 81 = .ok (.ireturn, 1) := by decide +kernel
theorem dX0_reason_82 : decode cX0_reason 82 = .ok (.aload_n 0, 1) := by decide +kernel
theorem dX0_reason_83 : decode cX0_reason 83 = .ok (.iload 4, 2) := by decide +kernel
theorem dX0_reason_85 : decode cX0_reason 85 = .ok (.invokevirtual 75, 3) := by decide +kernel
theorem dX0_reason_88 : decode cX0_reason 88 = .ok (.iload_n 3, 1) := by decide +kernel
theorem dX0_reason_89 : decode cX0_reason 89 = .ok (.iand, 1) := by decide +kernel
theorem dX0_reason_90 : decode cX0_reason 90 = .ok (.ifCond .eq 7, 3) := by decide +kernel
theorem dX0_reason_93 : decode cX0_reason 93 = .ok (.iconst 5, 1) := by decide +kernel
theorem dX0_reason_94 : decode cX0_reason 94 = .ok (.goto 5, 3) := by decide +kernel
theorem dX0_reason_97 : decode cX0_reason 97 = .ok (.bipush 6, 2) := by decide +kernel
theorem dX0_reason_99 : decode cX0_reason 99 = .ok (.ireturn, 1) := by decide +kernel
set_option maxRecDepth 20000 in
theorem ggX0_wageOf_X5_get : GoodIn wsX0_wageOf wsX5_get := goodIn_r _ [7, 8, 9, 23, 24] (by decide +kernel) (by decide +kernel)
set_option maxRecDepth 20000 in
theorem gX0_wageOf_X5_get : GoodIn wsX0_wageOf (wsV RX0 63 RX5 yX5_get wsX5_get) := goodIn_app (goodIn_of _ (by decide +kernel)) ggX0_wageOf_X5_get
set_option maxRecDepth 20000 in
theorem ggX0_wageOf_X7_begun : GoodIn wsX0_wageOf wsX7_begun := goodIn_r _ [12] (by decide +kernel) (by decide +kernel)
set_option maxRecDepth 20000 in
theorem gX0_wageOf_X7_begun_n116 : GoodIn wsX0_wageOf (wsX7_begun) := ggX0_wageOf_X7_begun
theorem dX0_wageOf_0 : decode cX0_wageOf 0 = .ok (.aload_n 0, 1) := by decide +kernel
theorem dX0_wageOf_1 : decode cX0_wageOf 1 = .ok (.getfield 20, 3) := by decide +kernel
theorem dX0_wageOf_4 : decode cX0_wageOf 4 = .ok (.iconst 4, 1) := by decide +kernel
theorem dX0_wageOf_5 : decode cX0_wageOf 5 = .ok (.iload_n 1, 1) := by decide +kernel
theorem dX0_wageOf_6 : decode cX0_wageOf 6 = .ok (.invokevirtual 63, 3) := by decide +kernel
theorem dX0_wageOf_9 : decode cX0_wageOf 9 = .ok (.bipush 60, 2) := by decide +kernel
theorem dX0_wageOf_11 : decode cX0_wageOf 11 = .ok (.invokestatic 116, 3) := by decide +kernel
theorem dX0_wageOf_14 : decode cX0_wageOf 14 = .ok (.aload_n 0, 1) := by decide +kernel
theorem dX0_wageOf_15 : decode cX0_wageOf 15 = .ok (.getfield 23, 3) := by decide +kernel
theorem dX0_wageOf_18 : decode cX0_wageOf 18 = .ok (.iconst 1, 1) := by decide +kernel
theorem dX0_wageOf_19 : decode cX0_wageOf 19 = .ok (.iconst 0, 1) := by decide +kernel
theorem dX0_wageOf_20 : decode cX0_wageOf 20 = .ok (.invokevirtual 63, 3) := by decide +kernel
theorem dX0_wageOf_23 : decode cX0_wageOf 23 = .ok (.imul, 1) := by decide +kernel
theorem dX0_wageOf_24 : decode cX0_wageOf 24 = .ok (.ireturn, 1) := by decide +kernel
set_option maxRecDepth 20000 in
theorem ggX0_wagesOf_J6_bitCount_0f7a4 : GoodIn wsX0_wagesOf wsJ6_bitCount_0f7a4 := goodIn_r _ [4, 5, 6, 7] (by decide +kernel) (by decide +kernel)
set_option maxRecDepth 20000 in
theorem gX0_wagesOf_J6_bitCount_0f7a4 : GoodIn wsX0_wagesOf (va_wsS RX0 78 yJ6_bitCount_0f7a4 wsJ6_bitCount_0f7a4) := goodIn_app (goodIn_of _ (by decide +kernel)) ggX0_wagesOf_J6_bitCount_0f7a4
set_option maxRecDepth 20000 in
theorem ggX0_wagesOf_X0_wageOf : GoodIn wsX0_wagesOf wsX0_wageOf := goodIn_r _ [12, 13, 14, 15, 16, 17, 18, 19, 20, 21, 22, 23, 24, 25, 26, 27, 28, 29, 30, 31, 32, 33, 34, 35, 36] (by decide +kernel) (by decide +kernel)
set_option maxRecDepth 20000 in
theorem gX0_wagesOf_X0_wageOf : GoodIn wsX0_wagesOf (wsV RX0 119 RX0 yX0_wageOf wsX0_wageOf) := goodIn_app (goodIn_of _ (by decide +kernel)) ggX0_wagesOf_X0_wageOf
theorem dX0_wagesOf_0 : decode cX0_wagesOf 0 = .ok (.iload_n 2, 1) := by decide +kernel
theorem dX0_wagesOf_1 : decode cX0_wagesOf 1 = .ok (.invokestatic 78, 3) := by decide +kernel
theorem dX0_wagesOf_4 : decode cX0_wagesOf 4 = .ok (.aload_n 0, 1) := by decide +kernel
theorem dX0_wagesOf_5 : decode cX0_wagesOf 5 = .ok (.iload_n 1, 1) := by decide +kernel
theorem dX0_wagesOf_6 : decode cX0_wagesOf 6 = .ok (.invokevirtual 119, 3) := by decide +kernel
theorem dX0_wagesOf_9 : decode cX0_wagesOf 9 = .ok (.imul, 1) := by decide +kernel
theorem dX0_wagesOf_10 : decode cX0_wagesOf 10 = .ok (.ireturn, 1) := by decide +kernel
set_option maxRecDepth 20000 in
theorem ggX0_newPenalties_X5_get : GoodIn wsX0_newPenalties wsX5_get := goodIn_r _ [7, 8, 9, 23, 24] (by decide +kernel) (by decide +kernel)
set_option maxRecDepth 20000 in
theorem gX0_newPenalties_X5_get : GoodIn wsX0_newPenalties (wsV RX0 63 RX5 yX5_get wsX5_get) := goodIn_app (goodIn_of _ (by decide +kernel)) ggX0_newPenalties_X5_get
set_option maxRecDepth 20000 in
theorem ggX0_newPenalties_X7_begun : GoodIn wsX0_newPenalties wsX7_begun := goodIn_r _ [12] (by decide +kernel) (by decide +kernel)
set_option maxRecDepth 20000 in
theorem gX0_newPenalties_X7_begun_n116 : GoodIn wsX0_newPenalties (wsX7_begun) := ggX0_newPenalties_X7_begun
theorem dX0_newPenalties_0 : decode cX0_newPenalties 0 = .ok (.aload_n 0, 1) := by decide +kernel
theorem dX0_newPenalties_1 : decode cX0_newPenalties 1 = .ok (.getfield 14, 3) := by decide +kernel
theorem dX0_newPenalties_4 : decode cX0_newPenalties 4 = .ok (.iconst 3, 1) := by decide +kernel
theorem dX0_newPenalties_5 : decode cX0_newPenalties 5 = .ok (.iload_n 2, 1) := by decide +kernel
theorem dX0_newPenalties_6 : decode cX0_newPenalties 6 = .ok (.invokevirtual 63, 3) := by decide +kernel
theorem dX0_newPenalties_9 : decode cX0_newPenalties 9 = .ok (.aload_n 0, 1) := by decide +kernel
theorem dX0_newPenalties_10 : decode cX0_newPenalties 10 = .ok (.getfield 20, 3) := by decide +kernel
theorem dX0_newPenalties_13 : decode cX0_newPenalties 13 = .ok (.iconst 4, 1) := by decide +kernel
theorem dX0_newPenalties_14 : decode cX0_newPenalties 14 = .ok (.iload_n 1, 1) := by decide +kernel
theorem dX0_newPenalties_15 : decode cX0_newPenalties 15 = .ok (.invokevirtual 63, 3) := by decide +kernel
theorem dX0_newPenalties_18 : decode cX0_newPenalties 18 = .ok (.iadd, 1) := by decide +kernel
theorem dX0_newPenalties_19 : decode cX0_newPenalties 19 = .ok (.sipush 360, 3) := by decide +kernel
theorem dX0_newPenalties_22 : decode cX0_newPenalties 22 = .ok (.isub, 1) := by decide +kernel
theorem dX0_newPenalties_23 : decode cX0_newPenalties 23 = .ok (.istore_n 3, 1) := by decide +kernel
theorem dX0_newPenalties_24 : decode cX0_newPenalties 24 = .ok (.iload_n 3, 1) := by decide +kernel
theorem dX0_newPenalties_25 : decode cX0_newPenalties 25 = .ok (.bipush 30, 2) := by decide +kernel
theorem dX0_newPenalties_27 : decode cX0_newPenalties 27 = .ok (.invokestatic 116, 3) := by decide +kernel
theorem dX0_newPenalties_30 : decode cX0_newPenalties 30 = .ok (.aload_n 0, 1) := by decide +kernel
theorem dX0_newPenalties_31 : decode cX0_newPenalties 31 = .ok (.getfield 14, 3) := by decide +kernel
theorem dX0_newPenalties_34 : decode cX0_newPenalties 34 = .ok (.iconst 4, 1) := by decide +kernel
theorem dX0_newPenalties_35 : decode cX0_newPenalties 35 = .ok (.iload_n 2, 1) := by decide +kernel
theorem dX0_newPenalties_36 : decode cX0_newPenalties 36 = .ok (.invokevirtual 63, 3) := by decide +kernel
theorem dX0_newPenalties_39 : decode cX0_newPenalties 39 = .ok (.isub, 1) := by decide +kernel
theorem dX0_newPenalties_40 : decode cX0_newPenalties 40 = .ok (.ireturn, 1) := by decide +kernel
set_option maxRecDepth 20000 in
theorem ggX0_penaltyCostsOf_X7_has : GoodIn wsX0_penaltyCostsOf wsX7_has := goodIn_r _ [5] (by decide +kernel) (by decide +kernel)
set_option maxRecDepth 20000 in
theorem gX0_penaltyCostsOf_X7_has_n93 : GoodIn wsX0_penaltyCostsOf (wsX7_has) := ggX0_penaltyCostsOf_X7_has
set_option maxRecDepth 20000 in
theorem ggX0_penaltyCostsOf_X0_newPenalties : GoodIn wsX0_penaltyCostsOf wsX0_newPenalties := goodIn_r _ [10, 11, 12, 13, 14, 15, 16, 17, 18, 19, 20, 4, 21, 22, 23, 24, 25, 26, 27, 28, 29, 30, 31, 32, 33] (by decide +kernel) (by decide +kernel)
set_option maxRecDepth 20000 in
theorem gX0_penaltyCostsOf_X0_newPenalties : GoodIn wsX0_penaltyCostsOf (wsV RX0 122 RX0 yX0_newPenalties wsX0_newPenalties) := goodIn_app (goodIn_of _ (by decide +kernel)) ggX0_penaltyCostsOf_X0_newPenalties
set_option maxRecDepth 20000 in
theorem ggX0_penaltyCostsOf_X5_get : GoodIn wsX0_penaltyCostsOf wsX5_get := goodIn_r _ [17, 18, 19, 32, 33] (by decide +kernel) (by decide +kernel)
set_option maxRecDepth 20000 in
theorem gX0_penaltyCostsOf_X5_get : GoodIn wsX0_penaltyCostsOf (wsV RX0 63 RX5 yX5_get wsX5_get) := goodIn_app (goodIn_of _ (by decide +kernel)) ggX0_penaltyCostsOf_X5_get
theorem dX0_penaltyCostsOf_0 : decode cX0_penaltyCostsOf 0 = .ok (.iconst 0, 1) := by decide +kernel
theorem dX0_penaltyCostsOf_1 : decode cX0_penaltyCostsOf 1 = .ok (.istore_n 3, 1) := by decide +kernel
theorem dX0_penaltyCostsOf_2 : decode cX0_penaltyCostsOf 2 = .ok (.iconst 0, 1) := by decide +kernel
theorem dX0_penaltyCostsOf_3 : decode cX0_penaltyCostsOf 3 = .ok (.istore 4, 2) := by decide +kernel
theorem dX0_penaltyCostsOf_5 : decode cX0_penaltyCostsOf 5 = .ok (.iload 4, 2) := by decide +kernel
theorem dX0_penaltyCostsOf_7 : decode cX0_penaltyCostsOf 7 = .ok (.aload_n 0, 1) := by decide +kernel
theorem dX0_penaltyCostsOf_8 : decode cX0_penaltyCostsOf 8 = .ok (.getfield 37, 3) := by decide +kernel
theorem dX0_penaltyCostsOf_11 : decode cX0_penaltyCostsOf 11 = .ok (.if_icmp .ge 28, 3) := by decide +kernel
theorem dX0_penaltyCostsOf_14 : decode cX0_penaltyCostsOf 14 = .ok (.iload_n 2, 1) := by decide +kernel
theorem dX0_penaltyCostsOf_15 : decode cX0_penaltyCostsOf 15 = .ok (.iload 4, 2) := by decide +kernel
theorem dX0_penaltyCostsOf_17 : decode cX0_penaltyCostsOf 17 = .ok (.invokestatic 93, 3) := by decide +kernel
theorem dX0_penaltyCostsOf_20 : decode cX0_penaltyCostsOf 20 = .ok (.ifCond .eq 13, 3) := by decide +kernel
theorem dX0_penaltyCostsOf_23 : decode cX0_penaltyCostsOf 23 = .ok (.iload_n 3, 1) := by decide +kernel
theorem dX0_penaltyCostsOf_24 : decode cX0_penaltyCostsOf 24 = .ok (.aload_n 0, 1) := by decide +kernel
theorem dX0_penaltyCostsOf_25 : decode cX0_penaltyCostsOf 25 = .ok (.iload_n 1, 1) := by decide +kernel
theorem dX0_penaltyCostsOf_26 : decode cX0_penaltyCostsOf 26 = .ok (.iload 4, 2) := by decide +kernel
theorem dX0_penaltyCostsOf_28 : decode cX0_penaltyCostsOf 28 = .ok (.invokevirtual 122, 3) := by decide +kernel
theorem dX0_penaltyCostsOf_31 : decode cX0_penaltyCostsOf 31 = .ok (.iadd, 1) := by decide +kernel
theorem dX0_penaltyCostsOf_32 : decode cX0_penaltyCostsOf 32 = .ok (.istore_n 3, 1) := by decide +kernel
theorem dX0_penaltyCostsOf_33 : decode cX0_penaltyCostsOf 33 = .ok (.iinc 4 1, 3) := by decide +kernel
theorem dX0_penaltyCostsOf_36 : decode cX0_penaltyCostsOf 36 = .ok (.goto (-31), 3) := by decide +kernel
theorem dX0_penaltyCostsOf_39 : decode cX0_penaltyCostsOf 39 = .ok (.iload_n 3, 1) := by decide +kernel
theorem dX0_penaltyCostsOf_40 : decode cX0_penaltyCostsOf 40 = .ok (.aload_n 0, 1) := by decide +kernel
theorem dX0_penaltyCostsOf_41 : decode cX0_penaltyCostsOf 41 = .ok (.getfield 23, 3) := by decide +kernel
theorem dX0_penaltyCostsOf_44 : decode cX0_penaltyCostsOf 44 = .ok (.iconst 2, 1) := by decide +kernel
theorem dX0_penaltyCostsOf_45 : decode cX0_penaltyCostsOf 45 = .ok (.iconst 0, 1) := by decide +kernel
theorem dX0_penaltyCostsOf_46 : decode cX0_penaltyCostsOf 46 = .ok (.invokevirtual 63, 3) := by decide +kernel
theorem dX0_penaltyCostsOf_49 : decode cX0_penaltyCostsOf 49 = .ok (.imul, 1) := by decide +kernel
theorem dX0_penaltyCostsOf_50 : decode cX0_penaltyCostsOf 50 = .ok (.ireturn, 1) := by decide +kernel
set_option maxRecDepth 20000 in
theorem ggX0_costOf_X0_wagesOf : GoodIn wsX0_costOf wsX0_wagesOf := goodIn_r _ [5, 6, 7, 8, 9, 10, 11, 12, 13, 14, 15, 4, 16, 17, 18, 19, 20, 21, 22, 23, 24, 25, 26, 27, 28, 41, 42, 43, 44, 45, 46, 47, 48, 49, 50, 51, 52] (by decide +kernel) (by decide +kernel)
set_option maxRecDepth 20000 in
theorem gX0_costOf_X0_wagesOf : GoodIn wsX0_costOf (wsV RX0 125 RX0 yX0_wagesOf wsX0_wagesOf) := goodIn_app (goodIn_of _ (by decide +kernel)) ggX0_costOf_X0_wagesOf
set_option maxRecDepth 20000 in
theorem ggX0_costOf_X0_penaltyCostsOf : GoodIn wsX0_costOf wsX0_penaltyCostsOf := goodIn_r _ [32, 33, 18, 34, 27, 35, 36, 37, 38, 4, 39, 40, 17, 19, 20, 21, 22, 23, 24, 25, 26, 28, 41, 42, 43, 44, 45, 46, 47, 48, 49, 50, 51, 52] (by decide +kernel) (by decide +kernel)
set_option maxRecDepth 20000 in
theorem gX0_costOf_X0_penaltyCostsOf : GoodIn wsX0_costOf (wsV RX0 128 RX0 yX0_penaltyCostsOf wsX0_penaltyCostsOf) := goodIn_app (goodIn_of _ (by decide +kernel)) ggX0_costOf_X0_penaltyCostsOf
theorem dX0_costOf_0 : decode cX0_costOf 0 = .ok (.aload_n 0, 1) := by decide +kernel
theorem dX0_costOf_1 : decode cX0_costOf 1 = .ok (.iload_n 1, 1) := by decide +kernel
theorem dX0_costOf_2 : decode cX0_costOf 2 = .ok (.iload_n 2, 1) := by decide +kernel
theorem dX0_costOf_3 : decode cX0_costOf 3 = .ok (.invokevirtual 125, 3) := by decide +kernel
theorem dX0_costOf_6 : decode cX0_costOf 6 = .ok (.aload_n 0, 1) := by decide +kernel
theorem dX0_costOf_7 : decode cX0_costOf 7 = .ok (.iload_n 1, 1) := by decide +kernel
theorem dX0_costOf_8 : decode cX0_costOf 8 = .ok (.iload_n 2, 1) := by decide +kernel
theorem dX0_costOf_9 : decode cX0_costOf 9 = .ok (.invokevirtual 128, 3) := by decide +kernel
theorem dX0_costOf_12 : decode cX0_costOf 12 = .ok (.iadd, 1) := by decide +kernel
theorem dX0_costOf_13 : decode cX0_costOf 13 = .ok (.ireturn, 1) := by decide +kernel
set_option maxRecDepth 20000 in
theorem ggX0_breaksOf_X0_castOf : GoodIn wsX0_breaksOf wsX0_castOf := goodIn_r _ [5, 6, 7, 8, 9, 10, 11, 12, 13, 14, 31, 32, 33, 34, 35, 36, 37, 38, 39, 40, 41, 42] (by decide +kernel) (by decide +kernel)
set_option maxRecDepth 20000 in
theorem gX0_breaksOf_X0_castOf : GoodIn wsX0_breaksOf (wsV RX0 89 RX0 yX0_castOf wsX0_castOf) := goodIn_app (goodIn_of _ (by decide +kernel)) ggX0_breaksOf_X0_castOf
set_option maxRecDepth 20000 in
theorem ggX0_breaksOf_X0_facesOf : GoodIn wsX0_breaksOf wsX0_facesOf := goodIn_r _ [18, 19, 20, 21, 22, 23, 8, 9, 10, 11, 12, 13, 14, 31, 32, 33, 34, 35, 36, 37, 38, 39, 40, 41, 42] (by decide +kernel) (by decide +kernel)
set_option maxRecDepth 20000 in
theorem gX0_breaksOf_X0_facesOf : GoodIn wsX0_breaksOf (wsV RX0 75 RX0 yX0_facesOf wsX0_facesOf) := goodIn_app (goodIn_of _ (by decide +kernel)) ggX0_breaksOf_X0_facesOf
set_option maxRecDepth 20000 in
theorem ggX0_breaksOf_J6_bitCount_0f7a4 : GoodIn wsX0_breaksOf wsJ6_bitCount_0f7a4 := goodIn_r _ [27, 28, 29, 30] (by decide +kernel) (by decide +kernel)
set_option maxRecDepth 20000 in
theorem gX0_breaksOf_J6_bitCount_0f7a4 : GoodIn wsX0_breaksOf (va_wsS RX0 78 yJ6_bitCount_0f7a4 wsJ6_bitCount_0f7a4) := goodIn_app (goodIn_of _ (by decide +kernel)) ggX0_breaksOf_J6_bitCount_0f7a4
theorem dX0_breaksOf_0 : decode cX0_breaksOf 0 = .ok (.aload_n 0, 1) := by decide +kernel
theorem dX0_breaksOf_1 : decode cX0_breaksOf 1 = .ok (.aload_n 0, 1) := by decide +kernel
theorem dX0_breaksOf_2 : decode cX0_breaksOf 2 = .ok (.iload_n 1, 1) := by decide +kernel
theorem dX0_breaksOf_3 : decode cX0_breaksOf 3 = .ok (.iconst 1, 1) := by decide +kernel
theorem dX0_breaksOf_4 : decode cX0_breaksOf 4 = .ok (.invokevirtual 89, 3) := by decide +kernel
theorem dX0_breaksOf_7 : decode cX0_breaksOf 7 = .ok (.invokevirtual 75, 3) := by decide +kernel
theorem dX0_breaksOf_10 : decode cX0_breaksOf 10 = .ok (.aload_n 0, 1) := by decide +kernel
theorem dX0_breaksOf_11 : decode cX0_breaksOf 11 = .ok (.iload_n 2, 1) := by decide +kernel
theorem dX0_breaksOf_12 : decode cX0_breaksOf 12 = .ok (.invokevirtual 75, 3) := by decide +kernel
theorem dX0_breaksOf_15 : decode cX0_breaksOf 15 = .ok (.iconst (-1), 1) := by decide +kernel
theorem dX0_breaksOf_16 : decode cX0_breaksOf 16 = .ok (.ixor, 1) := by decide +kernel
theorem dX0_breaksOf_17 : decode cX0_breaksOf 17 = .ok (.iand, 1) := by decide +kernel
theorem dX0_breaksOf_18 : decode cX0_breaksOf 18 = .ok (.invokestatic 78, 3) := by decide +kernel
theorem dX0_breaksOf_21 : decode cX0_breaksOf 21 = .ok (.ireturn, 1) := by decide +kernel
set_option maxRecDepth 20000 in
theorem ggX0_addExtra_X0_hasRoomForExtra : GoodIn wsX0_addExtra wsX0_hasRoomForExtra := goodIn_r _ [7, 1, 15, 16, 17, 18, 19, 20, 21, 22, 23, 24] (by decide +kernel) (by decide +kernel)
set_option maxRecDepth 20000 in
theorem gX0_addExtra_X0_hasRoomForExtra : GoodIn wsX0_addExtra (wsV RX0 131 RX0 yX0_hasRoomForExtra wsX0_hasRoomForExtra) := goodIn_app (goodIn_of _ (by decide +kernel)) ggX0_addExtra_X0_hasRoomForExtra
set_option maxRecDepth 20000 in
theorem ggX0_addExtra_X5_put : GoodIn wsX0_addExtra wsX5_put := goodIn_r _ [12, 13, 14, 25, 26] (by decide +kernel) (by decide +kernel)
set_option maxRecDepth 20000 in
theorem gX0_addExtra_X5_put : GoodIn wsX0_addExtra (wsV RX0 33 RX5 yX5_put wsX5_put) := goodIn_app (goodIn_of _ (by decide +kernel)) ggX0_addExtra_X5_put
theorem dX0_addExtra_0 : decode cX0_addExtra 0 = .ok (.aload_n 0, 1) := by decide +kernel
theorem dX0_addExtra_1 : decode cX0_addExtra 1 = .ok (.invokevirtual 131, 3) := by decide +kernel
theorem dX0_addExtra_4 : decode cX0_addExtra 4 = .ok (.ifCond .ne 5, 3) := by decide +kernel
theorem dX0_addExtra_7 : decode cX0_addExtra 7 = .ok (.iconst (-1), 1) := by decide +kernel
theorem dX0_addExtra_8 : decode cX0_addExtra 8 = .ok (.ireturn, 1) := by decide +kernel
theorem dX0_addExtra_9 : decode cX0_addExtra 9 = .ok (.aload_n 0, 1) := by decide +kernel
theorem dX0_addExtra_10 : decode cX0_addExtra 10 = .ok (.getfield 37, 3) := by decide +kernel
theorem dX0_addExtra_13 : decode cX0_addExtra 13 = .ok (.istore_n 3, 1) := by decide +kernel
theorem dX0_addExtra_14 : decode cX0_addExtra 14 = .ok (.aload_n 0, 1) := by decide +kernel
theorem dX0_addExtra_15 : decode cX0_addExtra 15 = .ok (.getfield 14, 3) := by decide +kernel
theorem dX0_addExtra_18 : decode cX0_addExtra 18 = .ok (.iconst 0, 1) := by decide +kernel
theorem dX0_addExtra_19 : decode cX0_addExtra 19 = .ok (.iload_n 3, 1) := by decide +kernel
theorem dX0_addExtra_20 : decode cX0_addExtra 20 = .ok (.iload_n 1, 1) := by decide +kernel
theorem dX0_addExtra_21 : decode cX0_addExtra 21 = .ok (.invokevirtual 33, 3) := by decide +kernel
theorem dX0_addExtra_24 : decode cX0_addExtra 24 = .ok (.aload_n 0, 1) := by decide +kernel
theorem dX0_addExtra_25 : decode cX0_addExtra 25 = .ok (.getfield 14, 3) := by decide +kernel
theorem dX0_addExtra_28 : decode cX0_addExtra 28 = .ok (.iconst 1, 1) := by decide +kernel
theorem dX0_addExtra_29 : decode cX0_addExtra 29 = .ok (.iload_n 3, 1) := by decide +kernel
theorem dX0_addExtra_30 : decode cX0_addExtra 30 = .ok (.iload_n 2, 1) := by decide +kernel
theorem dX0_addExtra_31 : decode cX0_addExtra 31 = .ok (.invokevirtual 33, 3) := by decide +kernel
theorem dX0_addExtra_34 : decode cX0_addExtra 34 = .ok (.aload_n 0, 1) := by decide +kernel
theorem dX0_addExtra_35 : decode cX0_addExtra 35 = .ok (.dup, 1) := by decide +kernel
theorem dX0_addExtra_36 : decode cX0_addExtra 36 = .ok (.getfield 37, 3) := by decide +kernel
theorem dX0_addExtra_39 : decode cX0_addExtra 39 = .ok (.iconst 1, 1) := by decide +kernel
theorem dX0_addExtra_40 : decode cX0_addExtra 40 = .ok (.iadd, 1) := by decide +kernel
theorem dX0_addExtra_41 : decode cX0_addExtra 41 = .ok (.putfield 37, 3) := by decide +kernel
theorem dX0_addExtra_44 : decode cX0_addExtra 44 = .ok (.iload_n 3, 1) := by decide +kernel
theorem dX0_addExtra_45 : decode cX0_addExtra 45 = .ok (.ireturn, 1) := by decide +kernel
set_option maxRecDepth 20000 in
theorem ggX0_addScene_X0_hasRoomForScene : GoodIn wsX0_addScene wsX0_hasRoomForScene := goodIn_r _ [7, 1, 15, 16, 17, 18, 19, 20, 21, 22, 23, 24] (by decide +kernel) (by decide +kernel)
set_option maxRecDepth 20000 in
theorem gX0_addScene_X0_hasRoomForScene : GoodIn wsX0_addScene (wsV RX0 135 RX0 yX0_hasRoomForScene wsX0_hasRoomForScene) := goodIn_app (goodIn_of _ (by decide +kernel)) ggX0_addScene_X0_hasRoomForScene
set_option maxRecDepth 20000 in
theorem ggX0_addScene_X5_put : GoodIn wsX0_addScene wsX5_put := goodIn_r _ [12, 13, 14, 25, 26] (by decide +kernel) (by decide +kernel)
set_option maxRecDepth 20000 in
theorem gX0_addScene_X5_put : GoodIn wsX0_addScene (wsV RX0 33 RX5 yX5_put wsX5_put) := goodIn_app (goodIn_of _ (by decide +kernel)) ggX0_addScene_X5_put
theorem dX0_addScene_0 : decode cX0_addScene 0 = .ok (.aload_n 0, 1) := by decide +kernel
theorem dX0_addScene_1 : decode cX0_addScene 1 = .ok (.invokevirtual 135, 3) := by decide +kernel
theorem dX0_addScene_4 : decode cX0_addScene 4 = .ok (.ifCond .ne 5, 3) := by decide +kernel
theorem dX0_addScene_7 : decode cX0_addScene 7 = .ok (.iconst (-1), 1) := by decide +kernel
theorem dX0_addScene_8 : decode cX0_addScene 8 = .ok (.ireturn, 1) := by decide +kernel
theorem dX0_addScene_9 : decode cX0_addScene 9 = .ok (.aload_n 0, 1) := by decide +kernel
theorem dX0_addScene_10 : decode cX0_addScene 10 = .ok (.getfield 41, 3) := by decide +kernel
theorem dX0_addScene_13 : decode cX0_addScene 13 = .ok (.istore 6, 2) := by decide +kernel
theorem dX0_addScene_15 : decode cX0_addScene 15 = .ok (.aload_n 0, 1) := by decide +kernel
theorem dX0_addScene_16 : decode cX0_addScene 16 = .ok (.getfield 20, 3) := by decide +kernel
theorem dX0_addScene_19 : decode cX0_addScene 19 = .ok (.iconst 0, 1) := by decide +kernel
theorem dX0_addScene_20 : decode cX0_addScene 20 = .ok (.iload 6, 2) := by decide +kernel
theorem dX0_addScene_22 : decode cX0_addScene 22 = .ok (.iload_n 1, 1) := by decide +kernel
theorem dX0_addScene_23 : decode cX0_addScene 23 = .ok (.invokevirtual 33, 3) := by decide +kernel
theorem dX0_addScene_26 : decode cX0_addScene 26 = .ok (.aload_n 0, 1) := by decide +kernel
theorem dX0_addScene_27 : decode cX0_addScene 27 = .ok (.getfield 20, 3) := by decide +kernel
theorem dX0_addScene_30 : decode cX0_addScene 30 = .ok (.iconst 1, 1) := by decide +kernel
theorem dX0_addScene_31 : decode cX0_addScene 31 = .ok (.iload 6, 2) := by decide +kernel
theorem dX0_addScene_33 : decode cX0_addScene 33 = .ok (.iload_n 2, 1) := by decide +kernel
theorem dX0_addScene_34 : decode cX0_addScene 34 = .ok (.invokevirtual 33, 3) := by decide +kernel
theorem dX0_addScene_37 : decode cX0_addScene 37 = .ok (.aload_n 0, 1) := by decide +kernel
theorem dX0_addScene_38 : decode cX0_addScene 38 = .ok (.getfield 20, 3) := by decide +kernel
theorem dX0_addScene_41 : decode cX0_addScene 41 = .ok (.iconst 2, 1) := by decide +kernel
theorem dX0_addScene_42 : decode cX0_addScene 42 = .ok (.iload 6, 2) := by decide +kernel
theorem dX0_addScene_44 : decode cX0_addScene 44 = .ok (.iload_n 3, 1) := by decide +kernel
theorem dX0_addScene_45 : decode cX0_addScene 45 = .ok (.invokevirtual 33, 3) := by decide +kernel
theorem dX0_addScene_48 : decode cX0_addScene 48 = .ok (.aload_n 0, 1) := by decide +kernel
theorem dX0_addScene_49 : decode cX0_addScene 49 = .ok (.getfield 20, 3) := by decide +kernel
theorem dX0_addScene_52 : decode cX0_addScene 52 = .ok (.iconst 3, 1) := by decide +kernel
theorem dX0_addScene_53 : decode cX0_addScene 53 = .ok (.iload 6, 2) := by decide +kernel
theorem dX0_addScene_55 : decode cX0_addScene 55 = .ok (.iload 4, 2) := by decide +kernel
theorem dX0_addScene_57 : decode cX0_addScene 57 = .ok (.invokevirtual 33, 3) := by decide +kernel
theorem dX0_addScene_60 : decode cX0_addScene 60 = .ok (.aload_n 0, 1) := by decide +kernel
theorem dX0_addScene_61 : decode cX0_addScene 61 = .ok (.getfield 20, 3) := by decide +kernel
theorem dX0_addScene_64 : decode cX0_addScene 64 = .ok (.iconst 4, 1) := by decide +kernel
theorem dX0_addScene_65 : decode cX0_addScene 65 = .ok (.iload 6, 2) := by decide +kernel
theorem dX0_addScene_67 : decode cX0_addScene 67 = .ok (.iload 5, 2) := by decide +kernel
theorem dX0_addScene_69 : decode cX0_addScene 69 = .ok (.invokevirtual 33, 3) := by decide +kernel
theorem dX0_addScene_72 : decode cX0_addScene 72 = .ok (.aload_n 0, 1) := by decide +kernel
theorem dX0_addScene_73 : decode cX0_addScene 73 = .ok (.dup, 1) := by decide +kernel
theorem dX0_addScene_74 : decode cX0_addScene 74 = .ok (.getfield 41, 3) := by decide +kernel
theorem dX0_addScene_77 : decode cX0_addScene 77 = .ok (.iconst 1, 1) := by decide +kernel
theorem dX0_addScene_78 : decode cX0_addScene 78 = .ok (.iadd, 1) := by decide +kernel
theorem dX0_addScene_79 : decode cX0_addScene 79 = .ok (.putfield 41, 3) := by decide +kernel
theorem dX0_addScene_82 : decode cX0_addScene 82 = .ok (.iload 6, 2) := by decide +kernel
theorem dX0_addScene_84 : decode cX0_addScene 84 = .ok (.ireturn, 1) := by decide +kernel
set_option maxRecDepth 20000 in
theorem ggX0_shootIfPossible_X0_crowdNow : GoodIn wsX0_shootIfPossible wsX0_crowdNow := goodIn_r _ [5, 6, 7, 8, 9, 4, 10, 11, 12, 13, 14, 15, 16, 17, 18, 19, 20, 21, 22, 23, 24, 25, 26, 27, 28, 29, 30, 31, 32, 33, 34, 35, 36, 37, 38, 39, 40, 41, 42, 43, 44, 45, 46, 47, 48, 49, 50, 51, 52, 53, 54, 55, 56, 57, 58, 59, 60, 61, 62, 63, 104, 105, 106, 107, 108, 109, 110, 111, 112, 113, 114, 115] (by decide +kernel) (by decide +kernel)
set_option maxRecDepth 20000 in
theorem gX0_shootIfPossible_X0_crowdNow : GoodIn wsX0_shootIfPossible (wsV RX0 113 RX0 yX0_crowdNow wsX0_crowdNow) := goodIn_app (goodIn_of _ (by decide +kernel)) ggX0_shootIfPossible_X0_crowdNow
set_option maxRecDepth 20000 in
theorem ggX0_shootIfPossible_X0_work : GoodIn wsX0_shootIfPossible wsX0_work := goodIn_r _ [67, 68, 69, 31, 6, 70, 71, 72, 4, 73, 49, 50, 51, 52, 53, 54, 55, 74, 75, 76, 77, 37, 16, 17, 18, 19, 20, 21, 22, 78, 47, 79, 80, 81, 82, 83, 38, 39, 40, 41, 11, 42, 43, 44, 45, 32, 46, 48, 84, 85, 86, 87, 88, 89, 90, 91, 92, 93, 94, 95, 96, 97, 98, 99, 100, 101, 102, 103, 104, 105, 106, 107, 108, 109, 110, 111, 112, 113, 114, 115] (by decide +kernel) (by decide +kernel)
set_option maxRecDepth 20000 in
theorem gX0_shootIfPossible_X0_work : GoodIn wsX0_shootIfPossible (wsV RX0 138 RX0 yX0_work wsX0_work) := goodIn_app (goodIn_of _ (by decide +kernel)) ggX0_shootIfPossible_X0_work
theorem dX0_shootIfPossible_0 : decode cX0_shootIfPossible 0 = .ok (.aload_n 0, 1) := by decide +kernel
theorem dX0_shootIfPossible_1 : decode cX0_shootIfPossible 1 = .ok (.iload_n 1, 1) := by decide +kernel
theorem dX0_shootIfPossible_2 : decode cX0_shootIfPossible 2 = .ok (.invokevirtual 113, 3) := by decide +kernel
theorem dX0_shootIfPossible_5 : decode cX0_shootIfPossible 5 = .ok (.istore_n 2, 1) := by decide +kernel
theorem dX0_shootIfPossible_6 : decode cX0_shootIfPossible 6 = .ok (.iload_n 2, 1) := by decide +kernel
theorem dX0_shootIfPossible_7 : decode cX0_shootIfPossible 7 = .ok (.ifCond .ne 5, 3) := by decide +kernel
theorem dX0_shootIfPossible_10 : decode cX0_shootIfPossible 10 = .ok (.iconst 0, 1) := by decide +kernel
theorem dX0_shootIfPossible_11 : decode cX0_shootIfPossible 11 = .ok (.ireturn, 1) := by decide +kernel
theorem dX0_shootIfPossible_12 : decode cX0_shootIfPossible 12 = .ok (.aload_n 0, 1) := by decide +kernel
theorem dX0_shootIfPossible_13 : decode cX0_shootIfPossible 13 = .ok (.iload_n 1, 1) := by decide +kernel
theorem dX0_shootIfPossible_14 : decode cX0_shootIfPossible 14 = .ok (.iload_n 2, 1) := by decide +kernel
theorem dX0_shootIfPossible_15 : decode cX0_shootIfPossible 15 = .ok (.invokevirtual 138, 3) := by decide +kernel
theorem dX0_shootIfPossible_18 : decode cX0_shootIfPossible 18 = .ok (.iconst 1, 1) := by decide +kernel
theorem dX0_shootIfPossible_19 : decode cX0_shootIfPossible 19 = .ok (.ireturn, 1) := by decide +kernel
set_option maxRecDepth 20000 in
theorem ggX0_work_X0_wagesOf : GoodIn wsX0_work wsX0_wagesOf := goodIn_r _ [9, 10, 11, 12, 13, 14, 15, 16, 17, 18, 19, 8, 20, 4, 21, 22, 23, 24, 25, 26, 27, 28, 29, 30, 31, 68, 69, 70, 71, 72, 73, 74, 75, 76, 77, 78, 79] (by decide +kernel) (by decide +kernel)
set_option maxRecDepth 20000 in
theorem gX0_work_X0_wagesOf : GoodIn wsX0_work (wsV RX0 125 RX0 yX0_wagesOf wsX0_wagesOf) := goodIn_app (goodIn_of _ (by decide +kernel)) ggX0_work_X0_wagesOf
set_option maxRecDepth 20000 in
theorem ggX0_work_X0_breaksOf : GoodIn wsX0_work wsX0_breaksOf := goodIn_r _ [35, 36, 37, 38, 8, 39, 4, 40, 22, 23, 24, 25, 26, 27, 28, 41, 42, 43, 44, 3, 45, 46, 30, 47, 10, 11, 12, 13, 14, 15, 16, 68, 69, 70, 71, 72, 73, 74, 75, 76, 77, 78, 79] (by decide +kernel) (by decide +kernel)
set_option maxRecDepth 20000 in
theorem gX0_work_X0_breaksOf : GoodIn wsX0_work (wsV RX0 141 RX0 yX0_breaksOf wsX0_breaksOf) := goodIn_app (goodIn_of _ (by decide +kernel)) ggX0_work_X0_breaksOf
set_option maxRecDepth 20000 in
theorem ggX0_work_X7_has : GoodIn wsX0_work wsX7_has := goodIn_r _ [47] (by decide +kernel) (by decide +kernel)
set_option maxRecDepth 20000 in
theorem gX0_work_X7_has_n93 : GoodIn wsX0_work (wsX7_has) := ggX0_work_X7_has
set_option maxRecDepth 20000 in
theorem ggX0_work_X0_workOne : GoodIn wsX0_work wsX0_workOne := goodIn_r _ [51, 21, 45, 4, 52, 53, 54, 55, 56, 8, 57, 22, 23, 24, 25, 26, 27, 28, 29, 30, 31, 58, 59, 60, 61, 62, 63, 64, 65, 66, 17, 18, 19, 20, 68, 69, 70, 71, 72, 73, 74, 75, 76, 77, 78, 79] (by decide +kernel) (by decide +kernel)
set_option maxRecDepth 20000 in
theorem gX0_work_X0_workOne : GoodIn wsX0_work (wsV RX0 144 RX0 yX0_workOne wsX0_workOne) := goodIn_app (goodIn_of _ (by decide +kernel)) ggX0_work_X0_workOne
set_option maxRecDepth 20000 in
theorem ggX0_work_X5_put : GoodIn wsX0_work wsX5_put := goodIn_r _ [66, 27, 28, 78, 79] (by decide +kernel) (by decide +kernel)
set_option maxRecDepth 20000 in
theorem gX0_work_X5_put : GoodIn wsX0_work (wsV RX0 33 RX5 yX5_put wsX5_put) := goodIn_app (goodIn_of _ (by decide +kernel)) ggX0_work_X5_put
theorem dX0_work_0 : decode cX0_work 0 = .ok (.aload_n 0, 1) := by decide +kernel
theorem dX0_work_1 : decode cX0_work 1 = .ok (.dup, 1) := by decide +kernel
theorem dX0_work_2 : decode cX0_work 2 = .ok (.getfield 47, 3) := by decide +kernel
theorem dX0_work_5 : decode cX0_work 5 = .ok (.aload_n 0, 1) := by decide +kernel
theorem dX0_work_6 : decode cX0_work 6 = .ok (.iload_n 1, 1) := by decide +kernel
theorem dX0_work_7 : decode cX0_work 7 = .ok (.iload_n 2, 1) := by decide +kernel
theorem dX0_work_8 : decode cX0_work 8 = .ok (.invokevirtual 125, 3) := by decide +kernel
theorem dX0_work_11 : decode cX0_work 11 = .ok (.iadd, 1) := by decide +kernel
theorem dX0_work_12 : decode cX0_work 12 = .ok (.putfield 47, 3) := by decide +kernel
theorem dX0_work_15 : decode cX0_work 15 = .ok (.aload_n 0, 1) := by decide +kernel
theorem dX0_work_16 : decode cX0_work 16 = .ok (.dup, 1) := by decide +kernel
theorem dX0_work_17 : decode cX0_work 17 = .ok (.getfield 56, 3) := by decide +kernel
theorem dX0_work_20 : decode cX0_work 20 = .ok (.aload_n 0, 1) := by decide +kernel
theorem dX0_work_21 : decode cX0_work 21 = .ok (.iload_n 1, 1) := by decide +kernel
theorem dX0_work_22 : decode cX0_work 22 = .ok (.iload_n 2, 1) := by decide +kernel
theorem dX0_work_23 : decode cX0_work 23 = .ok (.invokevirtual 141, 3) := by decide +kernel
theorem dX0_work_26 : decode cX0_work 26 = .ok (.iadd, 1) := by decide +kernel
theorem dX0_work_27 : decode cX0_work 27 = .ok (.putfield 56, 3) := by decide +kernel
theorem dX0_work_30 : decode cX0_work 30 = .ok (.iconst 0, 1) := by decide +kernel
theorem dX0_work_31 : decode cX0_work 31 = .ok (.istore_n 3, 1) := by decide +kernel
theorem dX0_work_32 : decode cX0_work 32 = .ok (.iload_n 3, 1) := by decide +kernel
theorem dX0_work_33 : decode cX0_work 33 = .ok (.aload_n 0, 1) := by decide +kernel
theorem dX0_work_34 : decode cX0_work 34 = .ok (.getfield 37, 3) := by decide +kernel
theorem dX0_work_37 : decode cX0_work 37 = .ok (.if_icmp .ge 23, 3) := by decide +kernel
theorem dX0_work_40 : decode cX0_work 40 = .ok (.iload_n 2, 1) := by decide +kernel
theorem dX0_work_41 : decode cX0_work 41 = .ok (.iload_n 3, 1) := by decide +kernel
theorem dX0_work_42 : decode cX0_work 42 = .ok (.invokestatic 93, 3) := by decide +kernel
theorem dX0_work_45 : decode cX0_work 45 = .ok (.ifCond .eq 9, 3) := by decide +kernel
theorem dX0_work_48 : decode cX0_work 48 = .ok (.aload_n 0, 1) := by decide +kernel
theorem dX0_work_49 : decode cX0_work 49 = .ok (.iload_n 1, 1) := by decide +kernel
theorem dX0_work_50 : decode cX0_work 50 = .ok (.iload_n 3, 1) := by decide +kernel
theorem dX0_work_51 : decode cX0_work 51 = .ok (.invokevirtual 144, 3) := by decide +kernel
theorem dX0_work_54 : decode cX0_work 54 = .ok (.iinc 3 1, 3) := by decide +kernel
theorem dX0_work_57 : decode cX0_work 57 = .ok (.goto (-25), 3) := by decide +kernel
theorem dX0_work_60 : decode cX0_work 60 = .ok (.aload_n 0, 1) := by decide +kernel
theorem dX0_work_61 : decode cX0_work 61 = .ok (.getfield 20, 3) := by decide +kernel
theorem dX0_work_64 : decode cX0_work 64 = .ok (.iconst 5, 1) := by decide +kernel
theorem dX0_work_65 : decode cX0_work 65 = .ok (.iload_n 1, 1) := by decide +kernel
theorem dX0_work_66 : decode cX0_work 66 = .ok (.iload_n 2, 1) := by decide +kernel
theorem dX0_work_67 : decode cX0_work 67 = .ok (.invokevirtual 33, 3) := by decide +kernel
theorem dX0_work_70 : decode cX0_work 70 = .ok (.return_, 1) := by decide +kernel
set_option maxRecDepth 20000 in
theorem ggX0_workOne_X0_newPenalties : GoodIn wsX0_workOne wsX0_newPenalties := goodIn_r _ [10, 2, 3, 11, 12, 13, 14, 15, 16, 17, 18, 19, 20, 34, 35, 36, 37, 38, 39, 40, 41, 42, 43, 44, 45] (by decide +kernel) (by decide +kernel)
set_option maxRecDepth 20000 in
theorem gX0_workOne_X0_newPenalties : GoodIn wsX0_workOne (wsV RX0 122 RX0 yX0_newPenalties wsX0_newPenalties) := goodIn_app (goodIn_of _ (by decide +kernel)) ggX0_workOne_X0_newPenalties
set_option maxRecDepth 20000 in
theorem ggX0_workOne_X5_get : GoodIn wsX0_workOne wsX5_get := goodIn_r _ [15, 16, 17, 44, 45] (by decide +kernel) (by decide +kernel)
set_option maxRecDepth 20000 in
theorem gX0_workOne_X5_get : GoodIn wsX0_workOne (wsV RX0 63 RX5 yX5_get wsX5_get) := goodIn_app (goodIn_of _ (by decide +kernel)) ggX0_workOne_X5_get
set_option maxRecDepth 20000 in
theorem ggX0_workOne_X5_add : GoodIn wsX0_workOne wsX5_add := goodIn_r _ [24, 25, 12, 13, 14, 15, 16, 17, 26, 27, 28, 29, 44, 45] (by decide +kernel) (by decide +kernel)
set_option maxRecDepth 20000 in
theorem gX0_workOne_X5_add : GoodIn wsX0_workOne (wsV RX0 147 RX5 yX5_add wsX5_add) := goodIn_app (goodIn_of _ (by decide +kernel)) ggX0_workOne_X5_add
set_option maxRecDepth 20000 in
theorem ggX0_workOne_X0_wageOf : GoodIn wsX0_workOne wsX0_wageOf := goodIn_r _ [33, 3, 1, 11, 12, 13, 14, 15, 16, 17, 18, 19, 20, 34, 35, 36, 37, 38, 39, 40, 41, 42, 43, 44, 45] (by decide +kernel) (by decide +kernel)
set_option maxRecDepth 20000 in
theorem gX0_workOne_X0_wageOf : GoodIn wsX0_workOne (wsV RX0 119 RX0 yX0_wageOf wsX0_wageOf) := goodIn_app (goodIn_of _ (by decide +kernel)) ggX0_workOne_X0_wageOf
theorem dX0_workOne_0 : decode cX0_workOne 0 = .ok (.aload_n 0, 1) := by decide +kernel
theorem dX0_workOne_1 : decode cX0_workOne 1 = .ok (.iload_n 1, 1) := by decide +kernel
theorem dX0_workOne_2 : decode cX0_workOne 2 = .ok (.iload_n 2, 1) := by decide +kernel
theorem dX0_workOne_3 : decode cX0_workOne 3 = .ok (.invokevirtual 122, 3) := by decide +kernel
theorem dX0_workOne_6 : decode cX0_workOne 6 = .ok (.istore_n 3, 1) := by decide +kernel
theorem dX0_workOne_7 : decode cX0_workOne 7 = .ok (.iload_n 3, 1) := by decide +kernel
theorem dX0_workOne_8 : decode cX0_workOne 8 = .ok (.aload_n 0, 1) := by decide +kernel
theorem dX0_workOne_9 : decode cX0_workOne 9 = .ok (.getfield 23, 3) := by decide +kernel
theorem dX0_workOne_12 : decode cX0_workOne 12 = .ok (.iconst 2, 1) := by decide +kernel
theorem dX0_workOne_13 : decode cX0_workOne 13 = .ok (.iconst 0, 1) := by decide +kernel
theorem dX0_workOne_14 : decode cX0_workOne 14 = .ok (.invokevirtual 63, 3) := by decide +kernel
theorem dX0_workOne_17 : decode cX0_workOne 17 = .ok (.imul, 1) := by decide +kernel
theorem dX0_workOne_18 : decode cX0_workOne 18 = .ok (.istore 4, 2) := by decide +kernel
theorem dX0_workOne_20 : decode cX0_workOne 20 = .ok (.aload_n 0, 1) := by decide +kernel
theorem dX0_workOne_21 : decode cX0_workOne 21 = .ok (.getfield 14, 3) := by decide +kernel
theorem dX0_workOne_24 : decode cX0_workOne 24 = .ok (.iconst 4, 1) := by decide +kernel
theorem dX0_workOne_25 : decode cX0_workOne 25 = .ok (.iload_n 2, 1) := by decide +kernel
theorem dX0_workOne_26 : decode cX0_workOne 26 = .ok (.iload_n 3, 1) := by decide +kernel
theorem dX0_workOne_27 : decode cX0_workOne 27 = .ok (.invokevirtual 147, 3) := by decide +kernel
theorem dX0_workOne_30 : decode cX0_workOne 30 = .ok (.aload_n 0, 1) := by decide +kernel
theorem dX0_workOne_31 : decode cX0_workOne 31 = .ok (.getfield 14, 3) := by decide +kernel
theorem dX0_workOne_34 : decode cX0_workOne 34 = .ok (.iconst 5, 1) := by decide +kernel
theorem dX0_workOne_35 : decode cX0_workOne 35 = .ok (.iload_n 2, 1) := by decide +kernel
theorem dX0_workOne_36 : decode cX0_workOne 36 = .ok (.aload_n 0, 1) := by decide +kernel
theorem dX0_workOne_37 : decode cX0_workOne 37 = .ok (.iload_n 1, 1) := by decide +kernel
theorem dX0_workOne_38 : decode cX0_workOne 38 = .ok (.invokevirtual 119, 3) := by decide +kernel
theorem dX0_workOne_41 : decode cX0_workOne 41 = .ok (.iload 4, 2) := by decide +kernel
theorem dX0_workOne_43 : decode cX0_workOne 43 = .ok (.iadd, 1) := by decide +kernel
theorem dX0_workOne_44 : decode cX0_workOne 44 = .ok (.invokevirtual 147, 3) := by decide +kernel
theorem dX0_workOne_47 : decode cX0_workOne 47 = .ok (.aload_n 0, 1) := by decide +kernel
theorem dX0_workOne_48 : decode cX0_workOne 48 = .ok (.getfield 14, 3) := by decide +kernel
theorem dX0_workOne_51 : decode cX0_workOne 51 = .ok (.iconst 2, 1) := by decide +kernel
theorem dX0_workOne_52 : decode cX0_workOne 52 = .ok (.iload_n 2, 1) := by decide +kernel
theorem dX0_workOne_53 : decode cX0_workOne 53 = .ok (.aload_n 0, 1) := by decide +kernel
theorem dX0_workOne_54 : decode cX0_workOne 54 = .ok (.getfield 20, 3) := by decide +kernel
theorem dX0_workOne_57 : decode cX0_workOne 57 = .ok (.iconst 4, 1) := by decide +kernel
theorem dX0_workOne_58 : decode cX0_workOne 58 = .ok (.iload_n 1, 1) := by decide +kernel
theorem dX0_workOne_59 : decode cX0_workOne 59 = .ok (.invokevirtual 63, 3) := by decide +kernel
theorem dX0_workOne_62 : decode cX0_workOne 62 = .ok (.invokevirtual 147, 3) := by decide +kernel
theorem dX0_workOne_65 : decode cX0_workOne 65 = .ok (.aload_n 0, 1) := by decide +kernel
theorem dX0_workOne_66 : decode cX0_workOne 66 = .ok (.getfield 14, 3) := by decide +kernel
theorem dX0_workOne_69 : decode cX0_workOne 69 = .ok (.iconst 3, 1) := by decide +kernel
theorem dX0_workOne_70 : decode cX0_workOne 70 = .ok (.iload_n 2, 1) := by decide +kernel
theorem dX0_workOne_71 : decode cX0_workOne 71 = .ok (.aload_n 0, 1) := by decide +kernel
theorem dX0_workOne_72 : decode cX0_workOne 72 = .ok (.getfield 20, 3) := by decide +kernel
theorem dX0_workOne_75 : decode cX0_workOne 75 = .ok (.iconst 4, 1) := by decide +kernel
theorem dX0_workOne_76 : decode cX0_workOne 76 = .ok (.iload_n 1, 1) := by decide +kernel
theorem dX0_workOne_77 : decode cX0_workOne 77 = .ok (.invokevirtual 63, 3) := by decide +kernel
theorem dX0_workOne_80 : decode cX0_workOne 80 = .ok (.invokevirtual 147, 3) := by decide +kernel
theorem dX0_workOne_83 : decode cX0_workOne 83 = .ok (.aload_n 0, 1) := by decide +kernel
theorem dX0_workOne_84 : decode cX0_workOne 84 = .ok (.dup, 1) := by decide +kernel
theorem dX0_workOne_85 : decode cX0_workOne 85 = .ok (.getfield 53, 3) := by decide +kernel
theorem dX0_workOne_88 : decode cX0_workOne 88 = .ok (.iload_n 3, 1) := by decide +kernel
theorem dX0_workOne_89 : decode cX0_workOne 89 = .ok (.iadd, 1) := by decide +kernel
theorem dX0_workOne_90 : decode cX0_workOne 90 = .ok (.putfield 53, 3) := by decide +kernel
theorem dX0_workOne_93 : decode cX0_workOne 93 = .ok (.aload_n 0, 1) := by decide +kernel
theorem dX0_workOne_94 : decode cX0_workOne 94 = .ok (.dup, 1) := by decide +kernel
theorem dX0_workOne_95 : decode cX0_workOne 95 = .ok (.getfield 50, 3) := by decide +kernel
theorem dX0_workOne_98 : decode cX0_workOne 98 = .ok (.iload 4, 2) := by decide +kernel
theorem dX0_workOne_100 : decode cX0_workOne 100 = .ok (.iadd, 1) := by decide +kernel
theorem dX0_workOne_101 : decode cX0_workOne 101 = .ok (.putfield 50, 3) := by decide +kernel
theorem dX0_workOne_104 : decode cX0_workOne 104 = .ok (.return_, 1) := by decide +kernel
set_option maxRecDepth 20000 in
theorem ggX0_canExchange_X0_isScene : GoodIn wsX0_canExchange wsX0_isScene := goodIn_r _ [6, 7, 40, 41, 42, 43, 44, 45, 46, 47, 48, 49] (by decide +kernel) (by decide +kernel)
set_option maxRecDepth 20000 in
theorem gX0_canExchange_X0_isScene : GoodIn wsX0_canExchange (wsV RX0 109 RX0 yX0_isScene wsX0_isScene) := goodIn_app (goodIn_of _ (by decide +kernel)) ggX0_canExchange_X0_isScene
set_option maxRecDepth 20000 in
theorem ggX0_canExchange_X0_isExtra : GoodIn wsX0_canExchange wsX0_isExtra := goodIn_r _ [11, 12, 40, 41, 42, 43, 44, 45, 46, 47, 48, 49] (by decide +kernel) (by decide +kernel)
set_option maxRecDepth 20000 in
theorem gX0_canExchange_X0_isExtra : GoodIn wsX0_canExchange (wsV RX0 150 RX0 yX0_isExtra wsX0_isExtra) := goodIn_app (goodIn_of _ (by decide +kernel)) ggX0_canExchange_X0_isExtra
set_option maxRecDepth 20000 in
theorem ggX0_canExchange_X0_crowdOf : GoodIn wsX0_canExchange wsX0_crowdOf := goodIn_r _ [16, 17, 18, 19, 20, 21, 22, 23, 24, 40, 41, 42, 43, 44, 45, 46, 47, 48, 49, 50, 51] (by decide +kernel) (by decide +kernel)
set_option maxRecDepth 20000 in
theorem gX0_canExchange_X0_crowdOf : GoodIn wsX0_canExchange (wsV RX0 67 RX0 yX0_crowdOf wsX0_crowdOf) := goodIn_app (goodIn_of _ (by decide +kernel)) ggX0_canExchange_X0_crowdOf
set_option maxRecDepth 20000 in
theorem ggX0_canExchange_X7_has : GoodIn wsX0_canExchange wsX7_has := goodIn_r _ [27] (by decide +kernel) (by decide +kernel)
set_option maxRecDepth 20000 in
theorem gX0_canExchange_X7_has_n93 : GoodIn wsX0_canExchange (wsX7_has) := ggX0_canExchange_X7_has
set_option maxRecDepth 20000 in
theorem ggX0_canExchange_X0_withRightLook : GoodIn wsX0_canExchange wsX0_withRightLook := goodIn_r _ [31, 17, 12, 1, 18, 19, 20, 21, 22, 23, 24, 40, 41, 42, 43, 44, 45, 46, 47, 48, 49, 50, 51] (by decide +kernel) (by decide +kernel)
set_option maxRecDepth 20000 in
theorem gX0_canExchange_X0_withRightLook : GoodIn wsX0_canExchange (wsV RX0 97 RX0 yX0_withRightLook wsX0_withRightLook) := goodIn_app (goodIn_of _ (by decide +kernel)) ggX0_canExchange_X0_withRightLook
set_option maxRecDepth 20000 in
theorem ggX0_canExchange_X0_facesOf : GoodIn wsX0_canExchange wsX0_facesOf := goodIn_r _ [35, 12, 1, 25, 26, 27, 18, 19, 20, 21, 22, 23, 24, 40, 41, 42, 43, 44, 45, 46, 47, 48, 49, 50, 51] (by decide +kernel) (by decide +kernel)
set_option maxRecDepth 20000 in
theorem gX0_canExchange_X0_facesOf : GoodIn wsX0_canExchange (wsV RX0 75 RX0 yX0_facesOf wsX0_facesOf) := goodIn_app (goodIn_of _ (by decide +kernel)) ggX0_canExchange_X0_facesOf
set_option maxRecDepth 20000 in
theorem ggX0_canExchange_X0_castOf : GoodIn wsX0_canExchange wsX0_castOf := goodIn_r _ [39, 17, 7, 18, 19, 20, 21, 22, 23, 24, 40, 41, 42, 43, 44, 45, 46, 47, 48, 49, 50, 51] (by decide +kernel) (by decide +kernel)
set_option maxRecDepth 20000 in
theorem gX0_canExchange_X0_castOf : GoodIn wsX0_canExchange (wsV RX0 89 RX0 yX0_castOf wsX0_castOf) := goodIn_app (goodIn_of _ (by decide +kernel)) ggX0_canExchange_X0_castOf
set_option maxRecDepth 20000 in
theorem ggX0_canExchange_X5_get : GoodIn wsX0_canExchange wsX5_get := goodIn_r _ [22, 23, 24, 50, 51] (by decide +kernel) (by decide +kernel)
set_option maxRecDepth 20000 in
theorem gX0_canExchange_X5_get : GoodIn wsX0_canExchange (wsV RX0 63 RX5 yX5_get wsX5_get) := goodIn_app (goodIn_of _ (by decide +kernel)) ggX0_canExchange_X5_get
theorem dX0_canExchange_0 : decode cX0_canExchange 0 = .ok (.aload_n 0, 1) := by decide +kernel
theorem dX0_canExchange_1 : decode cX0_canExchange 1 = .ok (.iload_n 1, 1) := by decide +kernel
theorem dX0_canExchange_2 : decode cX0_canExchange 2 = .ok (.invokevirtual 109, 3) := by decide +kernel
theorem dX0_canExchange_5 : decode cX0_canExchange 5 = .ok (.ifCond .eq 19, 3) := by decide +kernel
theorem dX0_canExchange_8 : decode cX0_canExchange 8 = .ok (.aload_n 0, 1) := by decide +kernel
theorem dX0_canExchange_9 : decode cX0_canExchange 9 = .ok (.iload_n 2, 1) := by decide +kernel
theorem dX0_canExchange_10 : decode cX0_canExchange 10 = .ok (.invokevirtual 150, 3) := by decide +kernel
theorem dX0_canExchange_13 : decode cX0_canExchange 13 = .ok (.ifCond .eq 11, 3) := by decide +kernel
theorem dX0_canExchange_16 : decode cX0_canExchange 16 = .ok (.aload_n 0, 1) := by decide +kernel
theorem dX0_canExchange_17 : decode cX0_canExchange 17 = .ok (.iload_n 3, 1) := by decide +kernel
theorem dX0_canExchange_18 : decode cX0_canExchange 18 = .ok (.invokevirtual 150, 3) := by decide +kernel
theorem dX0_canExchange_21 : decode cX0_canExchange 21 = .ok (.ifCond .ne 5, 3) := by decide +kernel
theorem dX0_canExchange_24 : decode cX0_canExchange 24 = .ok (.iconst 0, 1) := by decide +kernel
theorem dX0_canExchange_25 : decode cX0_canExchange 25 = .ok (.ireturn, 1) := by decide +kernel
theorem dX0_canExchange_26 : decode cX0_canExchange 26 = .ok (.aload_n 0, 1) := by decide +kernel
theorem dX0_canExchange_27 : decode cX0_canExchange 27 = .ok (.iload_n 1, 1) := by decide +kernel
theorem dX0_canExchange_28 : decode cX0_canExchange 28 = .ok (.invokevirtual 67, 3) := by decide +kernel
theorem dX0_canExchange_31 : decode cX0_canExchange 31 = .ok (.istore 4, 2) := by decide +kernel
theorem dX0_canExchange_33 : decode cX0_canExchange 33 = .ok (.iload 4, 2) := by decide +kernel
theorem dX0_canExchange_35 : decode cX0_canExchange 35 = .ok (.iload_n 2, 1) := by decide +kernel
theorem dX0_canExchange_36 : decode cX0_canExchange 36 = .ok (.invokestatic 93, 3) := by decide +kernel
theorem dX0_canExchange_39 : decode cX0_canExchange 39 = .ok (.ifCond .eq 24, 3) := by decide +kernel
theorem dX0_canExchange_42 : decode cX0_canExchange 42 = .ok (.iload 4, 2) := by decide +kernel
theorem dX0_canExchange_44 : decode cX0_canExchange 44 = .ok (.iload_n 3, 1) := by decide +kernel
theorem dX0_canExchange_45 : decode cX0_canExchange 45 = .ok (.invokestatic 93, 3) := by decide +kernel
theorem dX0_canExchange_48 : decode cX0_canExchange 48 = .ok (.ifCond .ne 15, 3) := by decide +kernel
theorem dX0_canExchange_51 : decode cX0_canExchange 51 = .ok (.aload_n 0, 1) := by decide +kernel
theorem dX0_canExchange_52 : decode cX0_canExchange 52 = .ok (.iload_n 1, 1) := by decide +kernel
theorem dX0_canExchange_53 : decode cX0_canExchange 53 = .ok (.invokevirtual 97, 3) := by decide +kernel
theorem dX0_canExchange_56 : decode cX0_canExchange 56 = .ok (.iload_n 3, 1) := by decide +kernel
theorem dX0_canExchange_57 : decode cX0_canExchange 57 = .ok (.invokestatic 93, 3) := by decide +kernel
theorem dX0_canExchange_60 : decode cX0_canExchange 60 = .ok (.ifCond .ne 5, 3) := by decide +kernel
theorem dX0_canExchange_63 : decode cX0_canExchange 63 = .ok (.iconst 0, 1) := by decide +kernel
theorem dX0_canExchange_64 : decode cX0_canExchange 64 = .ok (.ireturn, 1) := by decide +kernel
theorem dX0_canExchange_65 : decode cX0_canExchange 65 = .ok (.aload_n 0, 1) := by decide +kernel
theorem dX0_canExchange_66 : decode cX0_canExchange 66 = .ok (.iload 4, 2) := by decide +kernel
theorem dX0_canExchange_68 : decode cX0_canExchange 68 = .ok (.iconst 1, 1) := by decide +kernel
theorem dX0_canExchange_69 : decode cX0_canExchange 69 = .ok (.iload_n 2, 1) := by decide +kernel
theorem dX0_canExchange_70 : decode cX0_canExchange 70 = .ok (.ishl, 1) := by decide +kernel
theorem dX0_canExchange_71 : decode cX0_canExchange 71 = .ok (.iconst (-1), 1) := by decide +kernel
theorem dX0_canExchange_72 : decode cX0_canExchange 72 = .ok (.ixor, 1) := by decide +kernel
theorem dX0_canExchange_73 : decode cX0_canExchange 73 = .ok (.iand, 1) := by decide +kernel
theorem dX0_canExchange_74 : decode cX0_canExchange 74 = .ok (.invokevirtual 75, 3) := by decide +kernel
theorem dX0_canExchange_77 : decode cX0_canExchange 77 = .ok (.istore 5, 2) := by decide +kernel
theorem dX0_canExchange_79 : decode cX0_canExchange 79 = .ok (.iload 5, 2) := by decide +kernel
theorem dX0_canExchange_81 : decode cX0_canExchange 81 = .ok (.aload_n 0, 1) := by decide +kernel
theorem dX0_canExchange_82 : decode cX0_canExchange 82 = .ok (.aload_n 0, 1) := by decide +kernel
theorem dX0_canExchange_83 : decode cX0_canExchange 83 = .ok (.iload_n 1, 1) := by decide +kernel
theorem dX0_canExchange_84 : decode cX0_canExchange 84 = .ok (.iconst 0, 1) := by decide +kernel
theorem dX0_canExchange_85 : decode cX0_canExchange 85 = .ok (.invokevirtual 89, 3) := by decide +kernel
theorem dX0_canExchange_88 : decode cX0_canExchange 88 = .ok (.invokevirtual 75, 3) := by decide +kernel
theorem dX0_canExchange_91 : decode cX0_canExchange 91 = .ok (.ior, 1) := by decide +kernel
theorem dX0_canExchange_92 : decode cX0_canExchange 92 = .ok (.aload_n 0, 1) := by decide +kernel
theorem dX0_canExchange_93 : decode cX0_canExchange 93 = .ok (.getfield 14, 3) := by decide +kernel
theorem dX0_canExchange_96 : decode cX0_canExchange 96 = .ok (.iconst 1, 1) := by decide +kernel
theorem dX0_canExchange_97 : decode cX0_canExchange 97 = .ok (.iload_n 3, 1) := by decide +kernel
theorem dX0_canExchange_98 : decode cX0_canExchange 98 = .ok (.invokevirtual 63, 3) := by decide +kernel
theorem dX0_canExchange_101 : decode cX0_canExchange 101 = .ok (.invokestatic 93, 3) := by decide +kernel
theorem dX0_canExchange_104 : decode cX0_canExchange 104 = .ok (.ifCond .ne 7, 3) := by decide +kernel
theorem dX0_canExchange_107 : decode cX0_canExchange 107 = .ok (.iconst 1, 1) := by decide +kernel
theorem dX0_canExchange_108 : decode cX0_canExchange 108 = .ok (.goto 4, 3) := by decide +kernel
theorem dX0_canExchange_111 : decode cX0_canExchange 111 = .ok (.iconst 0, 1) := by decide +kernel
theorem dX0_canExchange_112 : decode cX0_canExchange 112 = .ok (.ireturn, 1) := by decide +kernel
set_option maxRecDepth 20000 in
theorem ggX0_exchange_X0_crowdOf : GoodIn wsX0_exchange wsX0_crowdOf := goodIn_r _ [6, 1, 7, 8, 9, 10, 11, 12, 13, 18, 19, 20, 21, 22, 23, 24, 25, 26, 27, 28, 29] (by decide +kernel) (by decide +kernel)
set_option maxRecDepth 20000 in
theorem gX0_exchange_X0_crowdOf : GoodIn wsX0_exchange (wsV RX0 67 RX0 yX0_crowdOf wsX0_crowdOf) := goodIn_app (goodIn_of _ (by decide +kernel)) ggX0_exchange_X0_crowdOf
set_option maxRecDepth 20000 in
theorem ggX0_exchange_X5_put : GoodIn wsX0_exchange wsX5_put := goodIn_r _ [17, 12, 13, 28, 29] (by decide +kernel) (by decide +kernel)
set_option maxRecDepth 20000 in
theorem gX0_exchange_X5_put : GoodIn wsX0_exchange (wsV RX0 33 RX5 yX5_put wsX5_put) := goodIn_app (goodIn_of _ (by decide +kernel)) ggX0_exchange_X5_put
theorem dX0_exchange_0 : decode cX0_exchange 0 = .ok (.aload_n 0, 1) := by decide +kernel
theorem dX0_exchange_1 : decode cX0_exchange 1 = .ok (.iload_n 1, 1) := by decide +kernel
theorem dX0_exchange_2 : decode cX0_exchange 2 = .ok (.invokevirtual 67, 3) := by decide +kernel
theorem dX0_exchange_5 : decode cX0_exchange 5 = .ok (.iconst 1, 1) := by decide +kernel
theorem dX0_exchange_6 : decode cX0_exchange 6 = .ok (.iload_n 2, 1) := by decide +kernel
theorem dX0_exchange_7 : decode cX0_exchange 7 = .ok (.ishl, 1) := by decide +kernel
theorem dX0_exchange_8 : decode cX0_exchange 8 = .ok (.iconst (-1), 1) := by decide +kernel
theorem dX0_exchange_9 : decode cX0_exchange 9 = .ok (.ixor, 1) := by decide +kernel
theorem dX0_exchange_10 : decode cX0_exchange 10 = .ok (.iand, 1) := by decide +kernel
theorem dX0_exchange_11 : decode cX0_exchange 11 = .ok (.iconst 1, 1) := by decide +kernel
theorem dX0_exchange_12 : decode cX0_exchange 12 = .ok (.iload_n 3, 1) := by decide +kernel
theorem dX0_exchange_13 : decode cX0_exchange 13 = .ok (.ishl, 1) := by decide +kernel
theorem dX0_exchange_14 : decode cX0_exchange 14 = .ok (.ior, 1) := by decide +kernel
theorem dX0_exchange_15 : decode cX0_exchange 15 = .ok (.istore 4, 2) := by decide +kernel
theorem dX0_exchange_17 : decode cX0_exchange 17 = .ok (.aload_n 0, 1) := by decide +kernel
theorem dX0_exchange_18 : decode cX0_exchange 18 = .ok (.getfield 20, 3) := by decide +kernel
theorem dX0_exchange_21 : decode cX0_exchange 21 = .ok (.iconst 5, 1) := by decide +kernel
theorem dX0_exchange_22 : decode cX0_exchange 22 = .ok (.iload_n 1, 1) := by decide +kernel
theorem dX0_exchange_23 : decode cX0_exchange 23 = .ok (.iload 4, 2) := by decide +kernel
theorem dX0_exchange_25 : decode cX0_exchange 25 = .ok (.invokevirtual 33, 3) := by decide +kernel
theorem dX0_exchange_28 : decode cX0_exchange 28 = .ok (.iload 4, 2) := by decide +kernel
theorem dX0_exchange_30 : decode cX0_exchange 30 = .ok (.ireturn, 1) := by decide +kernel
set_option maxRecDepth 20000 in
theorem ggX0_exchangeForLowest_X0_canExchange : GoodIn wsX0_exchangeForLowest wsX0_canExchange := goodIn_r _ [6, 7, 8, 9, 10, 5, 11, 12, 13, 14, 15, 16, 1, 17, 18, 19, 20, 21, 22, 23, 24, 25, 26, 27, 28, 29, 30, 31, 32, 33, 34, 35, 36, 37, 38, 39, 40, 41, 42, 43, 52, 53, 54, 55, 56, 57, 58, 59, 60, 61, 62, 63] (by decide +kernel) (by decide +kernel)
set_option maxRecDepth 20000 in
theorem gX0_exchangeForLowest_X0_canExchange : GoodIn wsX0_exchangeForLowest (wsV RX0 153 RX0 yX0_canExchange wsX0_canExchange) := goodIn_app (goodIn_of _ (by decide +kernel)) ggX0_exchangeForLowest_X0_canExchange
set_option maxRecDepth 20000 in
theorem ggX0_exchangeForLowest_X0_exchange : GoodIn wsX0_exchangeForLowest wsX0_exchange := goodIn_r _ [47, 21, 17, 18, 19, 5, 20, 22, 23, 24, 25, 26, 27, 28, 48, 49, 50, 51, 52, 53, 54, 55, 56, 57, 58, 59, 60, 61, 62, 63] (by decide +kernel) (by decide +kernel)
set_option maxRecDepth 20000 in
theorem gX0_exchangeForLowest_X0_exchange : GoodIn wsX0_exchangeForLowest (wsV RX0 157 RX0 yX0_exchange wsX0_exchange) := goodIn_app (goodIn_of _ (by decide +kernel)) ggX0_exchangeForLowest_X0_exchange
theorem dX0_exchangeForLowest_0 : decode cX0_exchangeForLowest 0 = .ok (.iconst 0, 1) := by decide +kernel
theorem dX0_exchangeForLowest_1 : decode cX0_exchangeForLowest 1 = .ok (.istore_n 3, 1) := by decide +kernel
theorem dX0_exchangeForLowest_2 : decode cX0_exchangeForLowest 2 = .ok (.iload_n 3, 1) := by decide +kernel
theorem dX0_exchangeForLowest_3 : decode cX0_exchangeForLowest 3 = .ok (.aload_n 0, 1) := by decide +kernel
theorem dX0_exchangeForLowest_4 : decode cX0_exchangeForLowest 4 = .ok (.getfield 37, 3) := by decide +kernel
theorem dX0_exchangeForLowest_7 : decode cX0_exchangeForLowest 7 = .ok (.if_icmp .ge 29, 3) := by decide +kernel
theorem dX0_exchangeForLowest_10 : decode cX0_exchangeForLowest 10 = .ok (.aload_n 0, 1) := by decide +kernel
theorem dX0_exchangeForLowest_11 : decode cX0_exchangeForLowest 11 = .ok (.iload_n 1, 1) := by decide +kernel
theorem dX0_exchangeForLowest_12 : decode cX0_exchangeForLowest 12 = .ok (.iload_n 2, 1) := by decide +kernel
theorem dX0_exchangeForLowest_13 : decode cX0_exchangeForLowest 13 = .ok (.iload_n 3, 1) := by decide +kernel
theorem dX0_exchangeForLowest_14 : decode cX0_exchangeForLowest 14 = .ok (.invokevirtual 153, 3) := by decide +kernel
theorem dX0_exchangeForLowest_17 : decode cX0_exchangeForLowest 17 = .ok (.ifCond .eq 13, 3) := by decide +kernel
theorem dX0_exchangeForLowest_20 : decode cX0_exchangeForLowest 20 = .ok (.aload_n 0, 1) := by decide +kernel
theorem dX0_exchangeForLowest_21 : decode cX0_exchangeForLowest 21 = .ok (.iload_n 1, 1) := by decide +kernel
theorem dX0_exchangeForLowest_22 : decode cX0_exchangeForLowest 22 = .ok (.iload_n 2, 1) := by decide +kernel
theorem dX0_exchangeForLowest_23 : decode cX0_exchangeForLowest 23 = .ok (.iload_n 3, 1) := by decide +kernel
theorem dX0_exchangeForLowest_24 : decode cX0_exchangeForLowest 24 = .ok (.invokevirtual 157, 3) := by decide +kernel
theorem dX0_exchangeForLowest_27 : decode cX0_exchangeForLowest 27 = .ok (.pop, 1) := by decide +kernel
theorem dX0_exchangeForLowest_28 : decode cX0_exchangeForLowest 28 = .ok (.iconst 1, 1) := by decide +kernel
theorem dX0_exchangeForLowest_29 : decode cX0_exchangeForLowest 29 = .ok (.ireturn, 1) := by decide +kernel
theorem dX0_exchangeForLowest_30 : decode cX0_exchangeForLowest 30 = .ok (.iinc 3 1, 3) := by decide +kernel
theorem dX0_exchangeForLowest_33 : decode cX0_exchangeForLowest 33 = .ok (.goto (-31), 3) := by decide +kernel
theorem dX0_exchangeForLowest_36 : decode cX0_exchangeForLowest 36 = .ok (.iconst 0, 1) := by decide +kernel
theorem dX0_exchangeForLowest_37 : decode cX0_exchangeForLowest 37 = .ok (.ireturn, 1) := by decide +kernel
set_option maxRecDepth 20000 in
theorem ggX0_eat_X5_get : GoodIn wsX0_eat wsX5_get := goodIn_r _ [7, 8, 9, 28, 29] (by decide +kernel) (by decide +kernel)
set_option maxRecDepth 20000 in
theorem gX0_eat_X5_get : GoodIn wsX0_eat (wsV RX0 63 RX5 yX5_get wsX5_get) := goodIn_app (goodIn_of _ (by decide +kernel)) ggX0_eat_X5_get
set_option maxRecDepth 20000 in
theorem ggX0_eat_X5_fillKind : GoodIn wsX0_eat wsX5_fillKind := goodIn_r _ [13, 8, 14, 15, 16, 6, 17, 9, 28, 29] (by decide +kernel) (by decide +kernel)
set_option maxRecDepth 20000 in
theorem gX0_eat_X5_fillKind : GoodIn wsX0_eat (wsV RX0 161 RX5 yX5_fillKind wsX5_fillKind) := goodIn_app (goodIn_of _ (by decide +kernel)) ggX0_eat_X5_fillKind
theorem dX0_eat_0 : decode cX0_eat 0 = .ok (.iconst 0, 1) := by decide +kernel
theorem dX0_eat_1 : decode cX0_eat 1 = .ok (.istore_n 1, 1) := by decide +kernel
theorem dX0_eat_2 : decode cX0_eat 2 = .ok (.iconst 0, 1) := by decide +kernel
theorem dX0_eat_3 : decode cX0_eat 3 = .ok (.istore_n 2, 1) := by decide +kernel
theorem dX0_eat_4 : decode cX0_eat 4 = .ok (.iload_n 2, 1) := by decide +kernel
theorem dX0_eat_5 : decode cX0_eat 5 = .ok (.aload_n 0, 1) := by decide +kernel
theorem dX0_eat_6 : decode cX0_eat 6 = .ok (.getfield 37, 3) := by decide +kernel
theorem dX0_eat_9 : decode cX0_eat 9 = .ok (.if_icmp .ge 27, 3) := by decide +kernel
theorem dX0_eat_12 : decode cX0_eat 12 = .ok (.aload_n 0, 1) := by decide +kernel
theorem dX0_eat_13 : decode cX0_eat 13 = .ok (.getfield 14, 3) := by decide +kernel
theorem dX0_eat_16 : decode cX0_eat 16 = .ok (.iconst 3, 1) := by decide +kernel
theorem dX0_eat_17 : decode cX0_eat 17 = .ok (.iload_n 2, 1) := by decide +kernel
theorem dX0_eat_18 : decode cX0_eat 18 = .ok (.invokevirtual 63, 3) := by decide +kernel
theorem dX0_eat_21 : decode cX0_eat 21 = .ok (.sipush 360, 3) := by decide +kernel
theorem dX0_eat_24 : decode cX0_eat 24 = .ok (.if_icmp .le 6, 3) := by decide +kernel
theorem dX0_eat_27 : decode cX0_eat 27 = .ok (.iinc 1 1, 3) := by decide +kernel
theorem dX0_eat_30 : decode cX0_eat 30 = .ok (.iinc 2 1, 3) := by decide +kernel
theorem dX0_eat_33 : decode cX0_eat 33 = .ok (.goto (-29), 3) := by decide +kernel
theorem dX0_eat_36 : decode cX0_eat 36 = .ok (.aload_n 0, 1) := by decide +kernel
theorem dX0_eat_37 : decode cX0_eat 37 = .ok (.getfield 14, 3) := by decide +kernel
theorem dX0_eat_40 : decode cX0_eat 40 = .ok (.iconst 3, 1) := by decide +kernel
theorem dX0_eat_41 : decode cX0_eat 41 = .ok (.iconst 0, 1) := by decide +kernel
theorem dX0_eat_42 : decode cX0_eat 42 = .ok (.invokevirtual 161, 3) := by decide +kernel
theorem dX0_eat_45 : decode cX0_eat 45 = .ok (.aload_n 0, 1) := by decide +kernel
theorem dX0_eat_46 : decode cX0_eat 46 = .ok (.getfield 14, 3) := by decide +kernel
theorem dX0_eat_49 : decode cX0_eat 49 = .ok (.iconst 4, 1) := by decide +kernel
theorem dX0_eat_50 : decode cX0_eat 50 = .ok (.iconst 0, 1) := by decide +kernel
theorem dX0_eat_51 : decode cX0_eat 51 = .ok (.invokevirtual 161, 3) := by decide +kernel
theorem dX0_eat_54 : decode cX0_eat 54 = .ok (.iload_n 1, 1) := by decide +kernel
theorem dX0_eat_55 : decode cX0_eat 55 = .ok (.ireturn, 1) := by decide +kernel
set_option maxRecDepth 20000 in
theorem ggX0_beginDay_X5_fillKind : GoodIn wsX0_beginDay wsX5_fillKind := goodIn_r _ [7, 8, 9, 10, 11, 6, 12, 13, 24, 25] (by decide +kernel) (by decide +kernel)
set_option maxRecDepth 20000 in
theorem gX0_beginDay_X5_fillKind : GoodIn wsX0_beginDay (wsV RX0 161 RX5 yX5_fillKind wsX5_fillKind) := goodIn_app (goodIn_of _ (by decide +kernel)) ggX0_beginDay_X5_fillKind
theorem dX0_beginDay_0 : decode cX0_beginDay 0 = .ok (.aload_n 0, 1) := by decide +kernel
theorem dX0_beginDay_1 : decode cX0_beginDay 1 = .ok (.getfield 14, 3) := by decide +kernel
theorem dX0_beginDay_4 : decode cX0_beginDay 4 = .ok (.iconst 2, 1) := by decide +kernel
theorem dX0_beginDay_5 : decode cX0_beginDay 5 = .ok (.iconst 0, 1) := by decide +kernel
theorem dX0_beginDay_6 : decode cX0_beginDay 6 = .ok (.invokevirtual 161, 3) := by decide +kernel
theorem dX0_beginDay_9 : decode cX0_beginDay 9 = .ok (.aload_n 0, 1) := by decide +kernel
theorem dX0_beginDay_10 : decode cX0_beginDay 10 = .ok (.getfield 14, 3) := by decide +kernel
theorem dX0_beginDay_13 : decode cX0_beginDay 13 = .ok (.iconst 3, 1) := by decide +kernel
theorem dX0_beginDay_14 : decode cX0_beginDay 14 = .ok (.iconst 0, 1) := by decide +kernel
theorem dX0_beginDay_15 : decode cX0_beginDay 15 = .ok (.invokevirtual 161, 3) := by decide +kernel
theorem dX0_beginDay_18 : decode cX0_beginDay 18 = .ok (.aload_n 0, 1) := by decide +kernel
theorem dX0_beginDay_19 : decode cX0_beginDay 19 = .ok (.getfield 14, 3) := by decide +kernel
theorem dX0_beginDay_22 : decode cX0_beginDay 22 = .ok (.iconst 4, 1) := by decide +kernel
theorem dX0_beginDay_23 : decode cX0_beginDay 23 = .ok (.iconst 0, 1) := by decide +kernel
theorem dX0_beginDay_24 : decode cX0_beginDay 24 = .ok (.invokevirtual 161, 3) := by decide +kernel
theorem dX0_beginDay_27 : decode cX0_beginDay 27 = .ok (.aload_n 0, 1) := by decide +kernel
theorem dX0_beginDay_28 : decode cX0_beginDay 28 = .ok (.dup, 1) := by decide +kernel
theorem dX0_beginDay_29 : decode cX0_beginDay 29 = .ok (.getfield 44, 3) := by decide +kernel
theorem dX0_beginDay_32 : decode cX0_beginDay 32 = .ok (.iconst 1, 1) := by decide +kernel
theorem dX0_beginDay_33 : decode cX0_beginDay 33 = .ok (.iadd, 1) := by decide +kernel
theorem dX0_beginDay_34 : decode cX0_beginDay 34 = .ok (.putfield 44, 3) := by decide +kernel
theorem dX0_beginDay_37 : decode cX0_beginDay 37 = .ok (.aload_n 0, 1) := by decide +kernel
theorem dX0_beginDay_38 : decode cX0_beginDay 38 = .ok (.getfield 44, 3) := by decide +kernel
theorem dX0_beginDay_41 : decode cX0_beginDay 41 = .ok (.ireturn, 1) := by decide +kernel
set_option maxRecDepth 20000 in
theorem ggX0_change_X0_valueOf : GoodIn wsX0_change wsX0_valueOf := goodIn_r _ [6, 1, 7, 8, 9, 10, 11, 12, 13, 18, 19, 20, 21, 22, 23, 24, 25, 26, 27, 28, 29] (by decide +kernel) (by decide +kernel)
set_option maxRecDepth 20000 in
theorem gX0_change_X0_valueOf : GoodIn wsX0_change (wsV RX0 164 RX0 yX0_valueOf wsX0_valueOf) := goodIn_app (goodIn_of _ (by decide +kernel)) ggX0_change_X0_valueOf
set_option maxRecDepth 20000 in
theorem ggX0_change_X5_put : GoodIn wsX0_change wsX5_put := goodIn_r _ [17, 12, 13, 28, 29] (by decide +kernel) (by decide +kernel)
set_option maxRecDepth 20000 in
theorem gX0_change_X5_put : GoodIn wsX0_change (wsV RX0 33 RX5 yX5_put wsX5_put) := goodIn_app (goodIn_of _ (by decide +kernel)) ggX0_change_X5_put
theorem dX0_change_0 : decode cX0_change 0 = .ok (.aload_n 0, 1) := by decide +kernel
theorem dX0_change_1 : decode cX0_change 1 = .ok (.iload_n 1, 1) := by decide +kernel
theorem dX0_change_2 : decode cX0_change 2 = .ok (.invokevirtual 164, 3) := by decide +kernel
theorem dX0_change_5 : decode cX0_change 5 = .ok (.istore_n 3, 1) := by decide +kernel
theorem dX0_change_6 : decode cX0_change 6 = .ok (.aload_n 0, 1) := by decide +kernel
theorem dX0_change_7 : decode cX0_change 7 = .ok (.getfield 23, 3) := by decide +kernel
theorem dX0_change_10 : decode cX0_change 10 = .ok (.iload_n 1, 1) := by decide +kernel
theorem dX0_change_11 : decode cX0_change 11 = .ok (.iconst 0, 1) := by decide +kernel
theorem dX0_change_12 : decode cX0_change 12 = .ok (.iload_n 2, 1) := by decide +kernel
theorem dX0_change_13 : decode cX0_change 13 = .ok (.invokevirtual 33, 3) := by decide +kernel
theorem dX0_change_16 : decode cX0_change 16 = .ok (.iload_n 3, 1) := by decide +kernel
theorem dX0_change_17 : decode cX0_change 17 = .ok (.ireturn, 1) := by decide +kernel
