set_option maxRecDepth 20000 in
theorem ggX8_load_X8_readText : GoodIn wsX8_load wsX8_readText := goodIn_r _ [10, 5, 11, 12, 13, 14, 15, 9, 16, 17, 18, 19, 20, 21, 22, 23, 24, 25, 26, 27, 28, 29, 30, 31, 32, 33, 34, 35, 36, 37, 38, 39, 40, 41, 42, 43, 44, 45, 46, 47, 48, 49, 50, 51, 52, 53, 54, 55, 56, 57, 58, 59, 60, 61, 62, 63, 64, 65, 66, 67, 68, 69, 70, 71, 72, 73, 74, 75, 76, 77, 78, 79, 80, 81, 82, 83, 84, 85, 86, 87, 88, 89, 90, 91, 92, 93, 94, 95, 96, 97, 98, 99, 100, 101, 102, 111, 112, 113, 114, 115, 116, 117, 118, 119, 120, 121] (by decide +kernel) (by decide +kernel)
set_option maxRecDepth 20000 in
theorem gX8_load_X8_readText : GoodIn wsX8_load (wsV RX8 166 RX8 yX8_readText wsX8_readText) := goodIn_app (goodIn_of _ (by decide +kernel)) ggX8_load_X8_readText
set_option maxRecDepth 20000 in
theorem ggX8_load_X8_refused : GoodIn wsX8_load wsX8_refused := goodIn_r _ [106, 107, 111, 112, 113, 114, 115, 116, 117, 118, 119, 120, 121] (by decide +kernel) (by decide +kernel)
set_option maxRecDepth 20000 in
theorem gX8_load_X8_refused : GoodIn wsX8_load (wsV RX8 125 RX8 yX8_refused wsX8_refused) := goodIn_app (goodIn_of _ (by decide +kernel)) ggX8_load_X8_refused
set_option maxRecDepth 20000 in
theorem ggX8_load_X8_copyState : GoodIn wsX8_load wsX8_copyState := goodIn_r _ [110] (by decide +kernel) (by decide +kernel)
set_option maxRecDepth 20000 in
theorem gX8_load_X8_copyState : GoodIn wsX8_load (va_wsS RX8 169 yX8_copyState wsX8_copyState) := goodIn_app (goodIn_of _ (by decide +kernel)) ggX8_load_X8_copyState
theorem dX8_load_0 : decode cX8_load 0 = .ok (.aload_n 0, 1) := by decide +kernel
theorem dX8_load_1 : decode cX8_load 1 = .ok (.aload_n 0, 1) := by decide +kernel
theorem dX8_load_2 : decode cX8_load 2 = .ok (.aload_n 0, 1) := by decide +kernel
theorem dX8_load_3 : decode cX8_load 3 = .ok (.getfield 16, 3) := by decide +kernel
theorem dX8_load_6 : decode cX8_load 6 = .ok (.invokevirtual 166, 3) := by decide +kernel
theorem dX8_load_9 : decode cX8_load 9 = .ok (.iconst (-1), 1) := by decide +kernel
theorem dX8_load_10 : decode cX8_load 10 = .ok (.if_icmp .ne 7, 3) := by decide +kernel
theorem dX8_load_13 : decode cX8_load 13 = .ok (.iconst 0, 1) := by decide +kernel
theorem dX8_load_14 : decode cX8_load 14 = .ok (.goto 4, 3) := by decide +kernel
theorem dX8_load_17 : decode cX8_load 17 = .ok (.iconst 1, 1) := by decide +kernel
theorem dX8_load_18 : decode cX8_load 18 = .ok (.invokevirtual 125, 3) := by decide +kernel
theorem dX8_load_21 : decode cX8_load 21 = .ok (.ifCond .eq 5, 3) := by decide +kernel
theorem dX8_load_24 : decode cX8_load 24 = .ok (.iconst 0, 1) := by decide +kernel
theorem dX8_load_25 : decode cX8_load 25 = .ok (.ireturn, 1) := by decide +kernel
theorem dX8_load_26 : decode cX8_load 26 = .ok (.aload_n 0, 1) := by decide +kernel
theorem dX8_load_27 : decode cX8_load 27 = .ok (.getfield 16, 3) := by decide +kernel
theorem dX8_load_30 : decode cX8_load 30 = .ok (.iconst 0, 1) := by decide +kernel
theorem dX8_load_31 : decode cX8_load 31 = .ok (.aload_n 0, 1) := by decide +kernel
theorem dX8_load_32 : decode cX8_load 32 = .ok (.getfield 13, 3) := by decide +kernel
theorem dX8_load_35 : decode cX8_load 35 = .ok (.iconst 0, 1) := by decide +kernel
theorem dX8_load_36 : decode cX8_load 36 = .ok (.invokestatic 169, 3) := by decide +kernel
theorem dX8_load_39 : decode cX8_load 39 = .ok (.aload_n 0, 1) := by decide +kernel
theorem dX8_load_40 : decode cX8_load 40 = .ok (.iconst 0, 1) := by decide +kernel
theorem dX8_load_41 : decode cX8_load 41 = .ok (.putfield 173, 3) := by decide +kernel
theorem dX8_load_44 : decode cX8_load 44 = .ok (.aload_n 0, 1) := by decide +kernel
theorem dX8_load_45 : decode cX8_load 45 = .ok (.getfield 25, 3) := by decide +kernel
theorem dX8_load_48 : decode cX8_load 48 = .ok (.iconst 0, 1) := by decide +kernel
theorem dX8_load_49 : decode cX8_load 49 = .ok (.iconst 0, 1) := by decide +kernel
theorem dX8_load_50 : decode cX8_load 50 = .ok (.bastore, 1) := by decide +kernel
theorem dX8_load_51 : decode cX8_load 51 = .ok (.aload_n 0, 1) := by decide +kernel
theorem dX8_load_52 : decode cX8_load 52 = .ok (.getfield 25, 3) := by decide +kernel
theorem dX8_load_55 : decode cX8_load 55 = .ok (.iconst 1, 1) := by decide +kernel
theorem dX8_load_56 : decode cX8_load 56 = .ok (.iconst 0, 1) := by decide +kernel
theorem dX8_load_57 : decode cX8_load 57 = .ok (.bastore, 1) := by decide +kernel
theorem dX8_load_58 : decode cX8_load 58 = .ok (.aload_n 0, 1) := by decide +kernel
theorem dX8_load_59 : decode cX8_load 59 = .ok (.getfield 132, 3) := by decide +kernel
theorem dX8_load_62 : decode cX8_load 62 = .ok (.ireturn, 1) := by decide +kernel
set_option maxRecDepth 20000 in
theorem ggX8_about_X8_in : GoodIn wsX8_about wsX8_in := goodIn_r _ [6] (by decide +kernel) (by decide +kernel)
set_option maxRecDepth 20000 in
theorem gX8_about_X8_in : GoodIn wsX8_about (va_wsS RX8 37 yX8_in wsX8_in) := goodIn_app (goodIn_of _ (by decide +kernel)) ggX8_about_X8_in
set_option maxRecDepth 20000 in
theorem ggX8_about_X8_refused : GoodIn wsX8_about wsX8_refused := goodIn_r _ [10, 11, 30, 31, 32, 33, 34, 35, 36, 37, 38, 39, 40] (by decide +kernel) (by decide +kernel)
set_option maxRecDepth 20000 in
theorem gX8_about_X8_refused : GoodIn wsX8_about (wsV RX8 125 RX8 yX8_refused wsX8_refused) := goodIn_app (goodIn_of _ (by decide +kernel)) ggX8_about_X8_refused
set_option maxRecDepth 20000 in
theorem ggX8_about_X8_shots : GoodIn wsX8_about wsX8_shots := goodIn_r _ [14, 15, 16, 5, 17] (by decide +kernel) (by decide +kernel)
set_option maxRecDepth 20000 in
theorem gX8_about_X8_shots : GoodIn wsX8_about (va_wsS RX8 178 yX8_shots wsX8_shots) := goodIn_app (goodIn_of _ (by decide +kernel)) ggX8_about_X8_shots
set_option maxRecDepth 20000 in
theorem ggX8_about_X8_facesOf : GoodIn wsX8_about wsX8_facesOf := goodIn_r _ [20, 21, 22, 5, 23, 24, 25, 26] (by decide +kernel) (by decide +kernel)
set_option maxRecDepth 20000 in
theorem gX8_about_X8_facesOf : GoodIn wsX8_about (va_wsS RX8 52 yX8_facesOf wsX8_facesOf) := goodIn_app (goodIn_of _ (by decide +kernel)) ggX8_about_X8_facesOf
set_option maxRecDepth 20000 in
theorem ggX8_about_X8_bits : GoodIn wsX8_about wsX8_bits := goodIn_r _ [29] (by decide +kernel) (by decide +kernel)
set_option maxRecDepth 20000 in
theorem gX8_about_X8_bits : GoodIn wsX8_about (va_wsS RX8 79 yX8_bits wsX8_bits) := goodIn_app (goodIn_of _ (by decide +kernel)) ggX8_about_X8_bits
theorem dX8_about_0 : decode cX8_about 0 = .ok (.aload_n 0, 1) := by decide +kernel
theorem dX8_about_1 : decode cX8_about 1 = .ok (.iload_n 1, 1) := by decide +kernel
theorem dX8_about_2 : decode cX8_about 2 = .ok (.i2l, 1) := by decide +kernel
theorem dX8_about_3 : decode cX8_about 3 = .ok (.lconst 0, 1) := by decide +kernel
theorem dX8_about_4 : decode cX8_about 4 = .ok (.ldc2_w 176, 3) := by decide +kernel
theorem dX8_about_7 : decode cX8_about 7 = .ok (.invokestatic 37, 3) := by decide +kernel
theorem dX8_about_10 : decode cX8_about 10 = .ok (.ifCond .eq 7, 3) := by decide +kernel
theorem dX8_about_13 : decode cX8_about 13 = .ok (.iconst 0, 1) := by decide +kernel
theorem dX8_about_14 : decode cX8_about 14 = .ok (.goto 4, 3) := by decide +kernel
theorem dX8_about_17 : decode cX8_about 17 = .ok (.iconst 1, 1) := by decide +kernel
theorem dX8_about_18 : decode cX8_about 18 = .ok (.invokevirtual 125, 3) := by decide +kernel
theorem dX8_about_21 : decode cX8_about 21 = .ok (.ifCond .eq 5, 3) := by decide +kernel
theorem dX8_about_24 : decode cX8_about 24 = .ok (.iconst 0, 1) := by decide +kernel
theorem dX8_about_25 : decode cX8_about 25 = .ok (.ireturn, 1) := by decide +kernel
theorem dX8_about_26 : decode cX8_about 26 = .ok (.iload_n 1, 1) := by decide +kernel
theorem dX8_about_27 : decode cX8_about 27 = .ok (.tableswitch 78 0 8 #[49, 49, 56, 78, 78, 78, 78, 78, 64], 49) := by decide +kernel
theorem dX8_about_76 : decode cX8_about 76 = .ok (.aload_n 0, 1) := by decide +kernel
theorem dX8_about_77 : decode cX8_about 77 = .ok (.getfield 13, 3) := by decide +kernel
theorem dX8_about_80 : decode cX8_about 80 = .ok (.iload_n 1, 1) := by decide +kernel
theorem dX8_about_81 : decode cX8_about 81 = .ok (.iaload, 1) := by decide +kernel
theorem dX8_about_82 : decode cX8_about 82 = .ok (.ireturn, 1) := by decide +kernel
theorem dX8_about_83 : decode cX8_about 83 = .ok (.aload_n 0, 1) := by decide +kernel
theorem dX8_about_84 : decode cX8_about 84 = .ok (.getfield 13, 3) := by decide +kernel
theorem dX8_about_87 : decode cX8_about 87 = .ok (.invokestatic 178, 3) := by decide +kernel
theorem dX8_about_90 : decode cX8_about 90 = .ok (.ireturn, 1) := by decide +kernel
theorem dX8_about_91 : decode cX8_about 91 = .ok (.aload_n 0, 1) := by decide +kernel
theorem dX8_about_92 : decode cX8_about 92 = .ok (.getfield 13, 3) := by decide +kernel
theorem dX8_about_95 : decode cX8_about 95 = .ok (.sipush 16383, 3) := by decide +kernel
theorem dX8_about_98 : decode cX8_about 98 = .ok (.invokestatic 52, 3) := by decide +kernel
theorem dX8_about_101 : decode cX8_about 101 = .ok (.invokestatic 79, 3) := by decide +kernel
theorem dX8_about_104 : decode cX8_about 104 = .ok (.ireturn, 1) := by decide +kernel
theorem dX8_about_105 : decode cX8_about 105 = .ok (.aload_n 0, 1) := by decide +kernel
theorem dX8_about_106 : decode cX8_about 106 = .ok (.getfield 13, 3) := by decide +kernel
theorem dX8_about_109 : decode cX8_about 109 = .ok (.iload_n 1, 1) := by decide +kernel
theorem dX8_about_110 : decode cX8_about 110 = .ok (.iconst 1, 1) := by decide +kernel
theorem dX8_about_111 : decode cX8_about 111 = .ok (.isub, 1) := by decide +kernel
theorem dX8_about_112 : decode cX8_about 112 = .ok (.iaload, 1) := by decide +kernel
theorem dX8_about_113 : decode cX8_about 113 = .ok (.ireturn, 1) := by decide +kernel
set_option maxRecDepth 20000 in
theorem ggX8_extraOf_X8_isExtra : GoodIn wsX8_extraOf wsX8_isExtra := goodIn_r _ [6, 7, 8, 5, 9] (by decide +kernel) (by decide +kernel)
set_option maxRecDepth 20000 in
theorem gX8_extraOf_X8_isExtra : GoodIn wsX8_extraOf (va_wsS RX8 181 yX8_isExtra wsX8_isExtra) := goodIn_app (goodIn_of _ (by decide +kernel)) ggX8_extraOf_X8_isExtra
set_option maxRecDepth 20000 in
theorem ggX8_extraOf_X8_in : GoodIn wsX8_extraOf wsX8_in := goodIn_r _ [9] (by decide +kernel) (by decide +kernel)
set_option maxRecDepth 20000 in
theorem gX8_extraOf_X8_in : GoodIn wsX8_extraOf (va_wsS RX8 37 yX8_in wsX8_in) := goodIn_app (goodIn_of _ (by decide +kernel)) ggX8_extraOf_X8_in
set_option maxRecDepth 20000 in
theorem ggX8_extraOf_X8_refused : GoodIn wsX8_extraOf wsX8_refused := goodIn_r _ [13, 14, 24, 25, 26, 27, 28, 29, 30, 31, 32, 33, 34] (by decide +kernel) (by decide +kernel)
set_option maxRecDepth 20000 in
theorem gX8_extraOf_X8_refused : GoodIn wsX8_extraOf (wsV RX8 125 RX8 yX8_refused wsX8_refused) := goodIn_app (goodIn_of _ (by decide +kernel)) ggX8_extraOf_X8_refused
set_option maxRecDepth 20000 in
theorem ggX8_extraOf_X8_told : GoodIn wsX8_extraOf wsX8_told := goodIn_r _ [17] (by decide +kernel) (by decide +kernel)
set_option maxRecDepth 20000 in
theorem gX8_extraOf_X8_told : GoodIn wsX8_extraOf (va_wsS RX8 49 yX8_told wsX8_told) := goodIn_app (goodIn_of _ (by decide +kernel)) ggX8_extraOf_X8_told
set_option maxRecDepth 20000 in
theorem ggX8_extraOf_X8_has : GoodIn wsX8_extraOf wsX8_has := goodIn_r _ [20] (by decide +kernel) (by decide +kernel)
set_option maxRecDepth 20000 in
theorem gX8_extraOf_X8_has : GoodIn wsX8_extraOf (va_wsS RX8 41 yX8_has wsX8_has) := goodIn_app (goodIn_of _ (by decide +kernel)) ggX8_extraOf_X8_has
set_option maxRecDepth 20000 in
theorem ggX8_extraOf_X8_of : GoodIn wsX8_extraOf wsX8_of := goodIn_r _ [23] (by decide +kernel) (by decide +kernel)
set_option maxRecDepth 20000 in
theorem gX8_extraOf_X8_of : GoodIn wsX8_extraOf (va_wsS RX8 45 yX8_of wsX8_of) := goodIn_app (goodIn_of _ (by decide +kernel)) ggX8_extraOf_X8_of
theorem dX8_extraOf_0 : decode cX8_extraOf 0 = .ok (.aload_n 0, 1) := by decide +kernel
theorem dX8_extraOf_1 : decode cX8_extraOf 1 = .ok (.aload_n 0, 1) := by decide +kernel
theorem dX8_extraOf_2 : decode cX8_extraOf 2 = .ok (.getfield 13, 3) := by decide +kernel
theorem dX8_extraOf_5 : decode cX8_extraOf 5 = .ok (.iload_n 1, 1) := by decide +kernel
theorem dX8_extraOf_6 : decode cX8_extraOf 6 = .ok (.invokestatic 181, 3) := by decide +kernel
theorem dX8_extraOf_9 : decode cX8_extraOf 9 = .ok (.ifCond .ne 7, 3) := by decide +kernel
theorem dX8_extraOf_12 : decode cX8_extraOf 12 = .ok (.iconst 1, 1) := by decide +kernel
theorem dX8_extraOf_13 : decode cX8_extraOf 13 = .ok (.goto 20, 3) := by decide +kernel
theorem dX8_extraOf_16 : decode cX8_extraOf 16 = .ok (.iload_n 2, 1) := by decide +kernel
theorem dX8_extraOf_17 : decode cX8_extraOf 17 = .ok (.i2l, 1) := by decide +kernel
theorem dX8_extraOf_18 : decode cX8_extraOf 18 = .ok (.lconst 0, 1) := by decide +kernel
theorem dX8_extraOf_19 : decode cX8_extraOf 19 = .ok (.ldc2_w 102, 3) := by decide +kernel
theorem dX8_extraOf_22 : decode cX8_extraOf 22 = .ok (.invokestatic 37, 3) := by decide +kernel
theorem dX8_extraOf_25 : decode cX8_extraOf 25 = .ok (.ifCond .eq 7, 3) := by decide +kernel
theorem dX8_extraOf_28 : decode cX8_extraOf 28 = .ok (.iconst 0, 1) := by decide +kernel
theorem dX8_extraOf_29 : decode cX8_extraOf 29 = .ok (.goto 4, 3) := by decide +kernel
theorem dX8_extraOf_32 : decode cX8_extraOf 32 = .ok (.iconst 2, 1) := by decide +kernel
theorem dX8_extraOf_33 : decode cX8_extraOf 33 = .ok (.invokevirtual 125, 3) := by decide +kernel
theorem dX8_extraOf_36 : decode cX8_extraOf 36 = .ok (.ifCond .eq 5, 3) := by decide +kernel
theorem dX8_extraOf_39 : decode cX8_extraOf 39 = .ok (.iconst 0, 1) := by decide +kernel
theorem dX8_extraOf_40 : decode cX8_extraOf 40 = .ok (.ireturn, 1) := by decide +kernel
theorem dX8_extraOf_41 : decode cX8_extraOf 41 = .ok (.iconst 0, 1) := by decide +kernel
theorem dX8_extraOf_42 : decode cX8_extraOf 42 = .ok (.istore_n 3, 1) := by decide +kernel
theorem dX8_extraOf_43 : decode cX8_extraOf 43 = .ok (.iconst 0, 1) := by decide +kernel
theorem dX8_extraOf_44 : decode cX8_extraOf 44 = .ok (.istore 4, 2) := by decide +kernel
theorem dX8_extraOf_46 : decode cX8_extraOf 46 = .ok (.iconst 0, 1) := by decide +kernel
theorem dX8_extraOf_47 : decode cX8_extraOf 47 = .ok (.istore 5, 2) := by decide +kernel
theorem dX8_extraOf_49 : decode cX8_extraOf 49 = .ok (.iload 5, 2) := by decide +kernel
theorem dX8_extraOf_51 : decode cX8_extraOf 51 = .ok (.aload_n 0, 1) := by decide +kernel
theorem dX8_extraOf_52 : decode cX8_extraOf 52 = .ok (.getfield 13, 3) := by decide +kernel
theorem dX8_extraOf_55 : decode cX8_extraOf 55 = .ok (.iconst 1, 1) := by decide +kernel
theorem dX8_extraOf_56 : decode cX8_extraOf 56 = .ok (.iaload, 1) := by decide +kernel
theorem dX8_extraOf_57 : decode cX8_extraOf 57 = .ok (.if_icmp .ge 35, 3) := by decide +kernel
theorem dX8_extraOf_60 : decode cX8_extraOf 60 = .ok (.iload_n 3, 1) := by decide +kernel
theorem dX8_extraOf_61 : decode cX8_extraOf 61 = .ok (.aload_n 0, 1) := by decide +kernel
theorem dX8_extraOf_62 : decode cX8_extraOf 62 = .ok (.getfield 13, 3) := by decide +kernel
theorem dX8_extraOf_65 : decode cX8_extraOf 65 = .ok (.iload 5, 2) := by decide +kernel
theorem dX8_extraOf_67 : decode cX8_extraOf 67 = .ok (.bipush 6, 2) := by decide +kernel
theorem dX8_extraOf_69 : decode cX8_extraOf 69 = .ok (.invokestatic 49, 3) := by decide +kernel
theorem dX8_extraOf_72 : decode cX8_extraOf 72 = .ok (.iload_n 1, 1) := by decide +kernel
theorem dX8_extraOf_73 : decode cX8_extraOf 73 = .ok (.invokestatic 41, 3) := by decide +kernel
theorem dX8_extraOf_76 : decode cX8_extraOf 76 = .ok (.ifCond .eq 7, 3) := by decide +kernel
theorem dX8_extraOf_79 : decode cX8_extraOf 79 = .ok (.iconst 1, 1) := by decide +kernel
theorem dX8_extraOf_80 : decode cX8_extraOf 80 = .ok (.goto 4, 3) := by decide +kernel
theorem dX8_extraOf_83 : decode cX8_extraOf 83 = .ok (.iconst 0, 1) := by decide +kernel
theorem dX8_extraOf_84 : decode cX8_extraOf 84 = .ok (.iadd, 1) := by decide +kernel
theorem dX8_extraOf_85 : decode cX8_extraOf 85 = .ok (.istore_n 3, 1) := by decide +kernel
theorem dX8_extraOf_86 : decode cX8_extraOf 86 = .ok (.iinc 5 1, 3) := by decide +kernel
theorem dX8_extraOf_89 : decode cX8_extraOf 89 = .ok (.goto (-40), 3) := by decide +kernel
theorem dX8_extraOf_92 : decode cX8_extraOf 92 = .ok (.iconst 0, 1) := by decide +kernel
theorem dX8_extraOf_93 : decode cX8_extraOf 93 = .ok (.istore 5, 2) := by decide +kernel
theorem dX8_extraOf_95 : decode cX8_extraOf 95 = .ok (.iload 5, 2) := by decide +kernel
theorem dX8_extraOf_97 : decode cX8_extraOf 97 = .ok (.aload_n 0, 1) := by decide +kernel
theorem dX8_extraOf_98 : decode cX8_extraOf 98 = .ok (.getfield 13, 3) := by decide +kernel
theorem dX8_extraOf_101 : decode cX8_extraOf 101 = .ok (.iconst 0, 1) := by decide +kernel
theorem dX8_extraOf_102 : decode cX8_extraOf 102 = .ok (.iaload, 1) := by decide +kernel
theorem dX8_extraOf_103 : decode cX8_extraOf 103 = .ok (.if_icmp .ge 50, 3) := by decide +kernel
theorem dX8_extraOf_106 : decode cX8_extraOf 106 = .ok (.iload 4, 2) := by decide +kernel
theorem dX8_extraOf_108 : decode cX8_extraOf 108 = .ok (.iload 5, 2) := by decide +kernel
theorem dX8_extraOf_110 : decode cX8_extraOf 110 = .ok (.iload_n 1, 1) := by decide +kernel
theorem dX8_extraOf_111 : decode cX8_extraOf 111 = .ok (.if_icmp .eq 32, 3) := by decide +kernel
theorem dX8_extraOf_114 : decode cX8_extraOf 114 = .ok (.aload_n 0, 1) := by decide +kernel
theorem dX8_extraOf_115 : decode cX8_extraOf 115 = .ok (.getfield 13, 3) := by decide +kernel
theorem dX8_extraOf_118 : decode cX8_extraOf 118 = .ok (.iload 5, 2) := by decide +kernel
theorem dX8_extraOf_120 : decode cX8_extraOf 120 = .ok (.iconst 1, 1) := by decide +kernel
theorem dX8_extraOf_121 : decode cX8_extraOf 121 = .ok (.invokestatic 45, 3) := by decide +kernel
theorem dX8_extraOf_124 : decode cX8_extraOf 124 = .ok (.aload_n 0, 1) := by decide +kernel
theorem dX8_extraOf_125 : decode cX8_extraOf 125 = .ok (.getfield 13, 3) := by decide +kernel
theorem dX8_extraOf_128 : decode cX8_extraOf 128 = .ok (.iload_n 1, 1) := by decide +kernel
theorem dX8_extraOf_129 : decode cX8_extraOf 129 = .ok (.iconst 1, 1) := by decide +kernel
theorem dX8_extraOf_130 : decode cX8_extraOf 130 = .ok (.invokestatic 45, 3) := by decide +kernel
theorem dX8_extraOf_133 : decode cX8_extraOf 133 = .ok (.if_icmp .ne 10, 3) := by decide +kernel
theorem dX8_extraOf_136 : decode cX8_extraOf 136 = .ok (.iconst 1, 1) := by decide +kernel
theorem dX8_extraOf_137 : decode cX8_extraOf 137 = .ok (.iload 5, 2) := by decide +kernel
theorem dX8_extraOf_139 : decode cX8_extraOf 139 = .ok (.ishl, 1) := by decide +kernel
theorem dX8_extraOf_140 : decode cX8_extraOf 140 = .ok (.goto 4, 3) := by decide +kernel
theorem dX8_extraOf_143 : decode cX8_extraOf 143 = .ok (.iconst 0, 1) := by decide +kernel
theorem dX8_extraOf_144 : decode cX8_extraOf 144 = .ok (.ior, 1) := by decide +kernel
theorem dX8_extraOf_145 : decode cX8_extraOf 145 = .ok (.istore 4, 2) := by decide +kernel
theorem dX8_extraOf_147 : decode cX8_extraOf 147 = .ok (.iinc 5 1, 3) := by decide +kernel
theorem dX8_extraOf_150 : decode cX8_extraOf 150 = .ok (.goto (-55), 3) := by decide +kernel
theorem dX8_extraOf_153 : decode cX8_extraOf 153 = .ok (.iload_n 2, 1) := by decide +kernel
theorem dX8_extraOf_154 : decode cX8_extraOf 154 = .ok (.iconst 4, 1) := by decide +kernel
theorem dX8_extraOf_155 : decode cX8_extraOf 155 = .ok (.if_icmp .ge 15, 3) := by decide +kernel
theorem dX8_extraOf_158 : decode cX8_extraOf 158 = .ok (.aload_n 0, 1) := by decide +kernel
theorem dX8_extraOf_159 : decode cX8_extraOf 159 = .ok (.getfield 13, 3) := by decide +kernel
theorem dX8_extraOf_162 : decode cX8_extraOf 162 = .ok (.iload_n 1, 1) := by decide +kernel
theorem dX8_extraOf_163 : decode cX8_extraOf 163 = .ok (.iload_n 2, 1) := by decide +kernel
theorem dX8_extraOf_164 : decode cX8_extraOf 164 = .ok (.invokestatic 45, 3) := by decide +kernel
theorem dX8_extraOf_167 : decode cX8_extraOf 167 = .ok (.goto 31, 3) := by decide +kernel
theorem dX8_extraOf_170 : decode cX8_extraOf 170 = .ok (.iload_n 2, 1) := by decide +kernel
theorem dX8_extraOf_171 : decode cX8_extraOf 171 = .ok (.iconst 4, 1) := by decide +kernel
theorem dX8_extraOf_172 : decode cX8_extraOf 172 = .ok (.if_icmp .ne 7, 3) := by decide +kernel
theorem dX8_extraOf_175 : decode cX8_extraOf 175 = .ok (.iload_n 3, 1) := by decide +kernel
theorem dX8_extraOf_176 : decode cX8_extraOf 176 = .ok (.goto 22, 3) := by decide +kernel
theorem dX8_extraOf_179 : decode cX8_extraOf 179 = .ok (.iload_n 2, 1) := by decide +kernel
theorem dX8_extraOf_180 : decode cX8_extraOf 180 = .ok (.iconst 5, 1) := by decide +kernel
theorem dX8_extraOf_181 : decode cX8_extraOf 181 = .ok (.if_icmp .ne 8, 3) := by decide +kernel
theorem dX8_extraOf_184 : decode cX8_extraOf 184 = .ok (.iload 4, 2) := by decide +kernel
theorem dX8_extraOf_186 : decode cX8_extraOf 186 = .ok (.goto 12, 3) := by decide +kernel
theorem dX8_extraOf_189 : decode cX8_extraOf 189 = .ok (.aload_n 0, 1) := by decide +kernel
theorem dX8_extraOf_190 : decode cX8_extraOf 190 = .ok (.getfield 13, 3) := by decide +kernel
theorem dX8_extraOf_193 : decode cX8_extraOf 193 = .ok (.iload_n 1, 1) := by decide +kernel
theorem dX8_extraOf_194 : decode cX8_extraOf 194 = .ok (.iconst 5, 1) := by decide +kernel
theorem dX8_extraOf_195 : decode cX8_extraOf 195 = .ok (.invokestatic 45, 3) := by decide +kernel
theorem dX8_extraOf_198 : decode cX8_extraOf 198 = .ok (.ireturn, 1) := by decide +kernel
set_option maxRecDepth 20000 in
theorem ggX8_sceneOf_X8_isScene : GoodIn wsX8_sceneOf wsX8_isScene := goodIn_r _ [6, 7, 8, 5, 9] (by decide +kernel) (by decide +kernel)
set_option maxRecDepth 20000 in
theorem gX8_sceneOf_X8_isScene : GoodIn wsX8_sceneOf (va_wsS RX8 83 yX8_isScene wsX8_isScene) := goodIn_app (goodIn_of _ (by decide +kernel)) ggX8_sceneOf_X8_isScene
set_option maxRecDepth 20000 in
theorem ggX8_sceneOf_X8_in : GoodIn wsX8_sceneOf wsX8_in := goodIn_r _ [9] (by decide +kernel) (by decide +kernel)
set_option maxRecDepth 20000 in
theorem gX8_sceneOf_X8_in : GoodIn wsX8_sceneOf (va_wsS RX8 37 yX8_in wsX8_in) := goodIn_app (goodIn_of _ (by decide +kernel)) ggX8_sceneOf_X8_in
set_option maxRecDepth 20000 in
theorem ggX8_sceneOf_X8_refused : GoodIn wsX8_sceneOf wsX8_refused := goodIn_r _ [13, 14, 30, 31, 32, 33, 34, 35, 36, 37, 38, 39, 40] (by decide +kernel) (by decide +kernel)
set_option maxRecDepth 20000 in
theorem gX8_sceneOf_X8_refused : GoodIn wsX8_sceneOf (wsV RX8 125 RX8 yX8_refused wsX8_refused) := goodIn_app (goodIn_of _ (by decide +kernel)) ggX8_sceneOf_X8_refused
set_option maxRecDepth 20000 in
theorem ggX8_sceneOf_X8_told : GoodIn wsX8_sceneOf wsX8_told := goodIn_r _ [17] (by decide +kernel) (by decide +kernel)
set_option maxRecDepth 20000 in
theorem gX8_sceneOf_X8_told : GoodIn wsX8_sceneOf (va_wsS RX8 49 yX8_told wsX8_told) := goodIn_app (goodIn_of _ (by decide +kernel)) ggX8_sceneOf_X8_told
set_option maxRecDepth 20000 in
theorem ggX8_sceneOf_X8_seen : GoodIn wsX8_sceneOf wsX8_seen := goodIn_r _ [20, 15, 16, 5, 17, 21, 22, 23, 24, 25, 26, 27, 28, 29] (by decide +kernel) (by decide +kernel)
set_option maxRecDepth 20000 in
theorem gX8_sceneOf_X8_seen : GoodIn wsX8_sceneOf (va_wsS RX8 66 yX8_seen wsX8_seen) := goodIn_app (goodIn_of _ (by decide +kernel)) ggX8_sceneOf_X8_seen
theorem dX8_sceneOf_0 : decode cX8_sceneOf 0 = .ok (.aload_n 0, 1) := by decide +kernel
theorem dX8_sceneOf_1 : decode cX8_sceneOf 1 = .ok (.aload_n 0, 1) := by decide +kernel
theorem dX8_sceneOf_2 : decode cX8_sceneOf 2 = .ok (.getfield 13, 3) := by decide +kernel
theorem dX8_sceneOf_5 : decode cX8_sceneOf 5 = .ok (.iload_n 1, 1) := by decide +kernel
theorem dX8_sceneOf_6 : decode cX8_sceneOf 6 = .ok (.invokestatic 83, 3) := by decide +kernel
theorem dX8_sceneOf_9 : decode cX8_sceneOf 9 = .ok (.ifCond .ne 7, 3) := by decide +kernel
theorem dX8_sceneOf_12 : decode cX8_sceneOf 12 = .ok (.iconst 1, 1) := by decide +kernel
theorem dX8_sceneOf_13 : decode cX8_sceneOf 13 = .ok (.goto 20, 3) := by decide +kernel
theorem dX8_sceneOf_16 : decode cX8_sceneOf 16 = .ok (.iload_n 2, 1) := by decide +kernel
theorem dX8_sceneOf_17 : decode cX8_sceneOf 17 = .ok (.i2l, 1) := by decide +kernel
theorem dX8_sceneOf_18 : decode cX8_sceneOf 18 = .ok (.lconst 0, 1) := by decide +kernel
theorem dX8_sceneOf_19 : decode cX8_sceneOf 19 = .ok (.ldc2_w 176, 3) := by decide +kernel
theorem dX8_sceneOf_22 : decode cX8_sceneOf 22 = .ok (.invokestatic 37, 3) := by decide +kernel
theorem dX8_sceneOf_25 : decode cX8_sceneOf 25 = .ok (.ifCond .eq 7, 3) := by decide +kernel
theorem dX8_sceneOf_28 : decode cX8_sceneOf 28 = .ok (.iconst 0, 1) := by decide +kernel
theorem dX8_sceneOf_29 : decode cX8_sceneOf 29 = .ok (.goto 4, 3) := by decide +kernel
theorem dX8_sceneOf_32 : decode cX8_sceneOf 32 = .ok (.iconst 2, 1) := by decide +kernel
theorem dX8_sceneOf_33 : decode cX8_sceneOf 33 = .ok (.invokevirtual 125, 3) := by decide +kernel
theorem dX8_sceneOf_36 : decode cX8_sceneOf 36 = .ok (.ifCond .eq 5, 3) := by decide +kernel
theorem dX8_sceneOf_39 : decode cX8_sceneOf 39 = .ok (.iconst 0, 1) := by decide +kernel
theorem dX8_sceneOf_40 : decode cX8_sceneOf 40 = .ok (.ireturn, 1) := by decide +kernel
theorem dX8_sceneOf_41 : decode cX8_sceneOf 41 = .ok (.iload_n 2, 1) := by decide +kernel
theorem dX8_sceneOf_42 : decode cX8_sceneOf 42 = .ok (.bipush 7, 2) := by decide +kernel
theorem dX8_sceneOf_44 : decode cX8_sceneOf 44 = .ok (.if_icmp .ge 15, 3) := by decide +kernel
theorem dX8_sceneOf_47 : decode cX8_sceneOf 47 = .ok (.aload_n 0, 1) := by decide +kernel
theorem dX8_sceneOf_48 : decode cX8_sceneOf 48 = .ok (.getfield 13, 3) := by decide +kernel
theorem dX8_sceneOf_51 : decode cX8_sceneOf 51 = .ok (.iload_n 1, 1) := by decide +kernel
theorem dX8_sceneOf_52 : decode cX8_sceneOf 52 = .ok (.iload_n 2, 1) := by decide +kernel
theorem dX8_sceneOf_53 : decode cX8_sceneOf 53 = .ok (.invokestatic 49, 3) := by decide +kernel
theorem dX8_sceneOf_56 : decode cX8_sceneOf 56 = .ok (.goto 22, 3) := by decide +kernel
theorem dX8_sceneOf_59 : decode cX8_sceneOf 59 = .ok (.aload_n 0, 1) := by decide +kernel
theorem dX8_sceneOf_60 : decode cX8_sceneOf 60 = .ok (.getfield 13, 3) := by decide +kernel
theorem dX8_sceneOf_63 : decode cX8_sceneOf 63 = .ok (.iload_n 1, 1) := by decide +kernel
theorem dX8_sceneOf_64 : decode cX8_sceneOf 64 = .ok (.iload_n 2, 1) := by decide +kernel
theorem dX8_sceneOf_65 : decode cX8_sceneOf 65 = .ok (.bipush 7, 2) := by decide +kernel
theorem dX8_sceneOf_67 : decode cX8_sceneOf 67 = .ok (.if_icmp .ne 7, 3) := by decide +kernel
theorem dX8_sceneOf_70 : decode cX8_sceneOf 70 = .ok (.iconst 1, 1) := by decide +kernel
theorem dX8_sceneOf_71 : decode cX8_sceneOf 71 = .ok (.goto 4, 3) := by decide +kernel
theorem dX8_sceneOf_74 : decode cX8_sceneOf 74 = .ok (.iconst 0, 1) := by decide +kernel
theorem dX8_sceneOf_75 : decode cX8_sceneOf 75 = .ok (.invokestatic 66, 3) := by decide +kernel
theorem dX8_sceneOf_78 : decode cX8_sceneOf 78 = .ok (.ireturn, 1) := by decide +kernel
set_option maxRecDepth 20000 in
theorem ggX8_setting_X8_in : GoodIn wsX8_setting wsX8_in := goodIn_r _ [6] (by decide +kernel) (by decide +kernel)
set_option maxRecDepth 20000 in
theorem gX8_setting_X8_in : GoodIn wsX8_setting (va_wsS RX8 37 yX8_in wsX8_in) := goodIn_app (goodIn_of _ (by decide +kernel)) ggX8_setting_X8_in
set_option maxRecDepth 20000 in
theorem ggX8_setting_X8_refused : GoodIn wsX8_setting wsX8_refused := goodIn_r _ [10, 11, 12, 13, 14, 15, 16, 17, 18, 19, 20, 21, 22] (by decide +kernel) (by decide +kernel)
set_option maxRecDepth 20000 in
theorem gX8_setting_X8_refused : GoodIn wsX8_setting (wsV RX8 125 RX8 yX8_refused wsX8_refused) := goodIn_app (goodIn_of _ (by decide +kernel)) ggX8_setting_X8_refused
theorem dX8_setting_0 : decode cX8_setting 0 = .ok (.aload_n 0, 1) := by decide +kernel
theorem dX8_setting_1 : decode cX8_setting 1 = .ok (.iload_n 1, 1) := by decide +kernel
theorem dX8_setting_2 : decode cX8_setting 2 = .ok (.i2l, 1) := by decide +kernel
theorem dX8_setting_3 : decode cX8_setting 3 = .ok (.lconst 0, 1) := by decide +kernel
theorem dX8_setting_4 : decode cX8_setting 4 = .ok (.ldc2_w 184, 3) := by decide +kernel
theorem dX8_setting_7 : decode cX8_setting 7 = .ok (.invokestatic 37, 3) := by decide +kernel
theorem dX8_setting_10 : decode cX8_setting 10 = .ok (.ifCond .eq 7, 3) := by decide +kernel
theorem dX8_setting_13 : decode cX8_setting 13 = .ok (.iconst 0, 1) := by decide +kernel
theorem dX8_setting_14 : decode cX8_setting 14 = .ok (.goto 4, 3) := by decide +kernel
theorem dX8_setting_17 : decode cX8_setting 17 = .ok (.iconst 1, 1) := by decide +kernel
theorem dX8_setting_18 : decode cX8_setting 18 = .ok (.invokevirtual 125, 3) := by decide +kernel
theorem dX8_setting_21 : decode cX8_setting 21 = .ok (.ifCond .eq 5, 3) := by decide +kernel
theorem dX8_setting_24 : decode cX8_setting 24 = .ok (.iconst 0, 1) := by decide +kernel
theorem dX8_setting_25 : decode cX8_setting 25 = .ok (.ireturn, 1) := by decide +kernel
theorem dX8_setting_26 : decode cX8_setting 26 = .ok (.aload_n 0, 1) := by decide +kernel
theorem dX8_setting_27 : decode cX8_setting 27 = .ok (.getfield 13, 3) := by decide +kernel
theorem dX8_setting_30 : decode cX8_setting 30 = .ok (.bipush 7, 2) := by decide +kernel
theorem dX8_setting_32 : decode cX8_setting 32 = .ok (.iload_n 1, 1) := by decide +kernel
theorem dX8_setting_33 : decode cX8_setting 33 = .ok (.iadd, 1) := by decide +kernel
theorem dX8_setting_34 : decode cX8_setting 34 = .ok (.iaload, 1) := by decide +kernel
theorem dX8_setting_35 : decode cX8_setting 35 = .ok (.ireturn, 1) := by decide +kernel
set_option maxRecDepth 20000 in
theorem ggX8_remember_X8_copyState : GoodIn wsX8_remember wsX8_copyState := goodIn_r _ [7] (by decide +kernel) (by decide +kernel)
set_option maxRecDepth 20000 in
theorem gX8_remember_X8_copyState : GoodIn wsX8_remember (va_wsS RX8 169 yX8_copyState wsX8_copyState) := goodIn_app (goodIn_of _ (by decide +kernel)) ggX8_remember_X8_copyState
theorem dX8_remember_0 : decode cX8_remember 0 = .ok (.aload_n 0, 1) := by decide +kernel
theorem dX8_remember_1 : decode cX8_remember 1 = .ok (.getfield 173, 3) := by decide +kernel
theorem dX8_remember_4 : decode cX8_remember 4 = .ok (.bipush 14, 2) := by decide +kernel
theorem dX8_remember_6 : decode cX8_remember 6 = .ok (.if_icmp .ne 44, 3) := by decide +kernel
theorem dX8_remember_9 : decode cX8_remember 9 = .ok (.iconst 0, 1) := by decide +kernel
theorem dX8_remember_10 : decode cX8_remember 10 = .ok (.istore_n 1, 1) := by decide +kernel
theorem dX8_remember_11 : decode cX8_remember 11 = .ok (.iload_n 1, 1) := by decide +kernel
theorem dX8_remember_12 : decode cX8_remember 12 = .ok (.sipush 2132, 3) := by decide +kernel
theorem dX8_remember_15 : decode cX8_remember 15 = .ok (.if_icmp .ge 25, 3) := by decide +kernel
theorem dX8_remember_18 : decode cX8_remember 18 = .ok (.aload_n 0, 1) := by decide +kernel
theorem dX8_remember_19 : decode cX8_remember 19 = .ok (.getfield 19, 3) := by decide +kernel
theorem dX8_remember_22 : decode cX8_remember 22 = .ok (.iload_n 1, 1) := by decide +kernel
theorem dX8_remember_23 : decode cX8_remember 23 = .ok (.aload_n 0, 1) := by decide +kernel
theorem dX8_remember_24 : decode cX8_remember 24 = .ok (.getfield 19, 3) := by decide +kernel
theorem dX8_remember_27 : decode cX8_remember 27 = .ok (.iload_n 1, 1) := by decide +kernel
theorem dX8_remember_28 : decode cX8_remember 28 = .ok (.sipush 164, 3) := by decide +kernel
theorem dX8_remember_31 : decode cX8_remember 31 = .ok (.iadd, 1) := by decide +kernel
theorem dX8_remember_32 : decode cX8_remember 32 = .ok (.iaload, 1) := by decide +kernel
theorem dX8_remember_33 : decode cX8_remember 33 = .ok (.iastore, 1) := by decide +kernel
theorem dX8_remember_34 : decode cX8_remember 34 = .ok (.iinc 1 1, 3) := by decide +kernel
theorem dX8_remember_37 : decode cX8_remember 37 = .ok (.goto (-26), 3) := by decide +kernel
theorem dX8_remember_40 : decode cX8_remember 40 = .ok (.aload_n 0, 1) := by decide +kernel
theorem dX8_remember_41 : decode cX8_remember 41 = .ok (.dup, 1) := by decide +kernel
theorem dX8_remember_42 : decode cX8_remember 42 = .ok (.getfield 173, 3) := by decide +kernel
theorem dX8_remember_45 : decode cX8_remember 45 = .ok (.iconst 1, 1) := by decide +kernel
theorem dX8_remember_46 : decode cX8_remember 46 = .ok (.isub, 1) := by decide +kernel
theorem dX8_remember_47 : decode cX8_remember 47 = .ok (.putfield 173, 3) := by decide +kernel
theorem dX8_remember_50 : decode cX8_remember 50 = .ok (.aload_n 0, 1) := by decide +kernel
theorem dX8_remember_51 : decode cX8_remember 51 = .ok (.getfield 13, 3) := by decide +kernel
theorem dX8_remember_54 : decode cX8_remember 54 = .ok (.iconst 0, 1) := by decide +kernel
theorem dX8_remember_55 : decode cX8_remember 55 = .ok (.aload_n 0, 1) := by decide +kernel
theorem dX8_remember_56 : decode cX8_remember 56 = .ok (.getfield 19, 3) := by decide +kernel
theorem dX8_remember_59 : decode cX8_remember 59 = .ok (.sipush 164, 3) := by decide +kernel
theorem dX8_remember_62 : decode cX8_remember 62 = .ok (.aload_n 0, 1) := by decide +kernel
theorem dX8_remember_63 : decode cX8_remember 63 = .ok (.getfield 173, 3) := by decide +kernel
theorem dX8_remember_66 : decode cX8_remember 66 = .ok (.imul, 1) := by decide +kernel
theorem dX8_remember_67 : decode cX8_remember 67 = .ok (.invokestatic 169, 3) := by decide +kernel
theorem dX8_remember_70 : decode cX8_remember 70 = .ok (.aload_n 0, 1) := by decide +kernel
theorem dX8_remember_71 : decode cX8_remember 71 = .ok (.dup, 1) := by decide +kernel
theorem dX8_remember_72 : decode cX8_remember 72 = .ok (.getfield 173, 3) := by decide +kernel
theorem dX8_remember_75 : decode cX8_remember 75 = .ok (.iconst 1, 1) := by decide +kernel
theorem dX8_remember_76 : decode cX8_remember 76 = .ok (.iadd, 1) := by decide +kernel
theorem dX8_remember_77 : decode cX8_remember 77 = .ok (.putfield 173, 3) := by decide +kernel
theorem dX8_remember_80 : decode cX8_remember 80 = .ok (.return_, 1) := by decide +kernel
set_option maxRecDepth 20000 in
theorem ggX8_extra_X8_isNewExtra : GoodIn wsX8_extra wsX8_isNewExtra := goodIn_r _ [5, 6, 7, 8, 9, 4, 10] (by decide +kernel) (by decide +kernel)
set_option maxRecDepth 20000 in
theorem gX8_extra_X8_isNewExtra : GoodIn wsX8_extra (va_wsS RX8 186 yX8_isNewExtra wsX8_isNewExtra) := goodIn_app (goodIn_of _ (by decide +kernel)) ggX8_extra_X8_isNewExtra
set_option maxRecDepth 20000 in
theorem ggX8_extra_X8_refused : GoodIn wsX8_extra wsX8_refused := goodIn_r _ [14, 15, 31, 32, 33, 34, 35, 36, 37, 38, 39, 40, 41] (by decide +kernel) (by decide +kernel)
set_option maxRecDepth 20000 in
theorem gX8_extra_X8_refused : GoodIn wsX8_extra (wsV RX8 125 RX8 yX8_refused wsX8_refused) := goodIn_app (goodIn_of _ (by decide +kernel)) ggX8_extra_X8_refused
set_option maxRecDepth 20000 in
theorem ggX8_extra_X8_remember : GoodIn wsX8_extra wsX8_remember := goodIn_r _ [19, 20, 21, 1, 22, 23, 4, 24, 31, 32, 33, 34, 35, 36, 37, 38, 39, 40, 41] (by decide +kernel) (by decide +kernel)
set_option maxRecDepth 20000 in
theorem gX8_extra_X8_remember : GoodIn wsX8_extra (wsV RX8 189 RX8 yX8_remember wsX8_remember) := goodIn_app (goodIn_of _ (by decide +kernel)) ggX8_extra_X8_remember
set_option maxRecDepth 20000 in
theorem ggX8_extra_X8_extraOn : GoodIn wsX8_extra wsX8_extraOn := goodIn_r _ [27, 28, 29, 4, 30] (by decide +kernel) (by decide +kernel)
set_option maxRecDepth 20000 in
theorem gX8_extra_X8_extraOn : GoodIn wsX8_extra (va_wsS RX8 147 yX8_extraOn wsX8_extraOn) := goodIn_app (goodIn_of _ (by decide +kernel)) ggX8_extra_X8_extraOn
theorem dX8_extra_0 : decode cX8_extra 0 = .ok (.aload_n 0, 1) := by decide +kernel
theorem dX8_extra_1 : decode cX8_extra 1 = .ok (.iload_n 1, 1) := by decide +kernel
theorem dX8_extra_2 : decode cX8_extra 2 = .ok (.iload_n 2, 1) := by decide +kernel
theorem dX8_extra_3 : decode cX8_extra 3 = .ok (.invokestatic 186, 3) := by decide +kernel
theorem dX8_extra_6 : decode cX8_extra 6 = .ok (.ifCond .ne 7, 3) := by decide +kernel
theorem dX8_extra_9 : decode cX8_extra 9 = .ok (.iconst 1, 1) := by decide +kernel
theorem dX8_extra_10 : decode cX8_extra 10 = .ok (.goto 19, 3) := by decide +kernel
theorem dX8_extra_13 : decode cX8_extra 13 = .ok (.aload_n 0, 1) := by decide +kernel
theorem dX8_extra_14 : decode cX8_extra 14 = .ok (.getfield 13, 3) := by decide +kernel
theorem dX8_extra_17 : decode cX8_extra 17 = .ok (.iconst 0, 1) := by decide +kernel
theorem dX8_extra_18 : decode cX8_extra 18 = .ok (.iaload, 1) := by decide +kernel
theorem dX8_extra_19 : decode cX8_extra 19 = .ok (.bipush 14, 2) := by decide +kernel
theorem dX8_extra_21 : decode cX8_extra 21 = .ok (.if_icmp .ge 7, 3) := by decide +kernel
theorem dX8_extra_24 : decode cX8_extra 24 = .ok (.iconst 0, 1) := by decide +kernel
theorem dX8_extra_25 : decode cX8_extra 25 = .ok (.goto 4, 3) := by decide +kernel
theorem dX8_extra_28 : decode cX8_extra 28 = .ok (.iconst 2, 1) := by decide +kernel
theorem dX8_extra_29 : decode cX8_extra 29 = .ok (.invokevirtual 125, 3) := by decide +kernel
theorem dX8_extra_32 : decode cX8_extra 32 = .ok (.ifCond .eq 5, 3) := by decide +kernel
theorem dX8_extra_35 : decode cX8_extra 35 = .ok (.iconst 0, 1) := by decide +kernel
theorem dX8_extra_36 : decode cX8_extra 36 = .ok (.ireturn, 1) := by decide +kernel
theorem dX8_extra_37 : decode cX8_extra 37 = .ok (.aload_n 0, 1) := by decide +kernel
theorem dX8_extra_38 : decode cX8_extra 38 = .ok (.invokevirtual 189, 3) := by decide +kernel
theorem dX8_extra_41 : decode cX8_extra 41 = .ok (.aload_n 0, 1) := by decide +kernel
theorem dX8_extra_42 : decode cX8_extra 42 = .ok (.getfield 13, 3) := by decide +kernel
theorem dX8_extra_45 : decode cX8_extra 45 = .ok (.iload_n 1, 1) := by decide +kernel
theorem dX8_extra_46 : decode cX8_extra 46 = .ok (.iload_n 2, 1) := by decide +kernel
theorem dX8_extra_47 : decode cX8_extra 47 = .ok (.invokestatic 147, 3) := by decide +kernel
theorem dX8_extra_50 : decode cX8_extra 50 = .ok (.ireturn, 1) := by decide +kernel
set_option maxRecDepth 20000 in
theorem ggX8_scene_X8_isNewScene : GoodIn wsX8_scene wsX8_isNewScene := goodIn_r _ [5, 6, 7, 8, 9, 10, 11, 12, 13, 4, 14] (by decide +kernel) (by decide +kernel)
set_option maxRecDepth 20000 in
theorem gX8_scene_X8_isNewScene : GoodIn wsX8_scene (va_wsS RX8 192 yX8_isNewScene wsX8_isNewScene) := goodIn_app (goodIn_of _ (by decide +kernel)) ggX8_scene_X8_isNewScene
set_option maxRecDepth 20000 in
theorem ggX8_scene_X8_refused : GoodIn wsX8_scene wsX8_refused := goodIn_r _ [18, 19, 32, 33, 34, 35, 36, 37, 38, 39, 40, 41, 42] (by decide +kernel) (by decide +kernel)
set_option maxRecDepth 20000 in
theorem gX8_scene_X8_refused : GoodIn wsX8_scene (wsV RX8 125 RX8 yX8_refused wsX8_refused) := goodIn_app (goodIn_of _ (by decide +kernel)) ggX8_scene_X8_refused
set_option maxRecDepth 20000 in
theorem ggX8_scene_X8_remember : GoodIn wsX8_scene wsX8_remember := goodIn_r _ [23, 24, 25, 1, 26, 27, 4, 28, 32, 33, 34, 35, 36, 37, 38, 39, 40, 41, 42] (by decide +kernel) (by decide +kernel)
set_option maxRecDepth 20000 in
theorem gX8_scene_X8_remember : GoodIn wsX8_scene (wsV RX8 189 RX8 yX8_remember wsX8_remember) := goodIn_app (goodIn_of _ (by decide +kernel)) ggX8_scene_X8_remember
set_option maxRecDepth 20000 in
theorem ggX8_scene_X8_sceneOn : GoodIn wsX8_scene wsX8_sceneOn := goodIn_r _ [31] (by decide +kernel) (by decide +kernel)
set_option maxRecDepth 20000 in
theorem gX8_scene_X8_sceneOn : GoodIn wsX8_scene (va_wsS RX8 139 yX8_sceneOn wsX8_sceneOn) := goodIn_app (goodIn_of _ (by decide +kernel)) ggX8_scene_X8_sceneOn
theorem dX8_scene_0 : decode cX8_scene 0 = .ok (.aload_n 0, 1) := by decide +kernel
theorem dX8_scene_1 : decode cX8_scene 1 = .ok (.iload_n 1, 1) := by decide +kernel
theorem dX8_scene_2 : decode cX8_scene 2 = .ok (.iload_n 2, 1) := by decide +kernel
theorem dX8_scene_3 : decode cX8_scene 3 = .ok (.iload_n 3, 1) := by decide +kernel
theorem dX8_scene_4 : decode cX8_scene 4 = .ok (.iload 4, 2) := by decide +kernel
theorem dX8_scene_6 : decode cX8_scene 6 = .ok (.iload 5, 2) := by decide +kernel
theorem dX8_scene_8 : decode cX8_scene 8 = .ok (.invokestatic 192, 3) := by decide +kernel
theorem dX8_scene_11 : decode cX8_scene 11 = .ok (.ifCond .ne 7, 3) := by decide +kernel
theorem dX8_scene_14 : decode cX8_scene 14 = .ok (.iconst 1, 1) := by decide +kernel
theorem dX8_scene_15 : decode cX8_scene 15 = .ok (.goto 19, 3) := by decide +kernel
theorem dX8_scene_18 : decode cX8_scene 18 = .ok (.aload_n 0, 1) := by decide +kernel
theorem dX8_scene_19 : decode cX8_scene 19 = .ok (.getfield 13, 3) := by decide +kernel
theorem dX8_scene_22 : decode cX8_scene 22 = .ok (.iconst 1, 1) := by decide +kernel
theorem dX8_scene_23 : decode cX8_scene 23 = .ok (.iaload, 1) := by decide +kernel
theorem dX8_scene_24 : decode cX8_scene 24 = .ok (.bipush 10, 2) := by decide +kernel
theorem dX8_scene_26 : decode cX8_scene 26 = .ok (.if_icmp .ge 7, 3) := by decide +kernel
theorem dX8_scene_29 : decode cX8_scene 29 = .ok (.iconst 0, 1) := by decide +kernel
theorem dX8_scene_30 : decode cX8_scene 30 = .ok (.goto 4, 3) := by decide +kernel
theorem dX8_scene_33 : decode cX8_scene 33 = .ok (.iconst 2, 1) := by decide +kernel
theorem dX8_scene_34 : decode cX8_scene 34 = .ok (.invokevirtual 125, 3) := by decide +kernel
theorem dX8_scene_37 : decode cX8_scene 37 = .ok (.ifCond .eq 5, 3) := by decide +kernel
theorem dX8_scene_40 : decode cX8_scene 40 = .ok (.iconst 0, 1) := by decide +kernel
theorem dX8_scene_41 : decode cX8_scene 41 = .ok (.ireturn, 1) := by decide +kernel
theorem dX8_scene_42 : decode cX8_scene 42 = .ok (.aload_n 0, 1) := by decide +kernel
theorem dX8_scene_43 : decode cX8_scene 43 = .ok (.invokevirtual 189, 3) := by decide +kernel
theorem dX8_scene_46 : decode cX8_scene 46 = .ok (.aload_n 0, 1) := by decide +kernel
theorem dX8_scene_47 : decode cX8_scene 47 = .ok (.getfield 13, 3) := by decide +kernel
theorem dX8_scene_50 : decode cX8_scene 50 = .ok (.iload_n 1, 1) := by decide +kernel
theorem dX8_scene_51 : decode cX8_scene 51 = .ok (.iload_n 2, 1) := by decide +kernel
theorem dX8_scene_52 : decode cX8_scene 52 = .ok (.iload_n 3, 1) := by decide +kernel
theorem dX8_scene_53 : decode cX8_scene 53 = .ok (.iload 4, 2) := by decide +kernel
theorem dX8_scene_55 : decode cX8_scene 55 = .ok (.iload 5, 2) := by decide +kernel
theorem dX8_scene_57 : decode cX8_scene 57 = .ok (.invokestatic 139, 3) := by decide +kernel
theorem dX8_scene_60 : decode cX8_scene 60 = .ok (.ireturn, 1) := by decide +kernel
set_option maxRecDepth 20000 in
theorem ggX8_shoot_X8_isScene : GoodIn wsX8_shoot wsX8_isScene := goodIn_r _ [5, 6, 7, 4, 8] (by decide +kernel) (by decide +kernel)
set_option maxRecDepth 20000 in
theorem gX8_shoot_X8_isScene : GoodIn wsX8_shoot (va_wsS RX8 83 yX8_isScene wsX8_isScene) := goodIn_app (goodIn_of _ (by decide +kernel)) ggX8_shoot_X8_isScene
set_option maxRecDepth 20000 in
theorem ggX8_shoot_X8_canShoot : GoodIn wsX8_shoot wsX8_canShoot := goodIn_r _ [11, 2, 3, 4, 5, 6, 7, 8, 12, 13, 14, 15, 16, 17, 18, 19, 20, 21, 22, 23, 24, 25, 26, 27, 28, 29, 30, 31, 32, 33, 34, 35, 36, 37, 38, 39, 40, 41, 42, 43, 44, 45, 46, 47, 48, 49, 50] (by decide +kernel) (by decide +kernel)
set_option maxRecDepth 20000 in
theorem gX8_shoot_X8_canShoot : GoodIn wsX8_shoot (va_wsS RX8 154 yX8_canShoot wsX8_canShoot) := goodIn_app (goodIn_of _ (by decide +kernel)) ggX8_shoot_X8_canShoot
set_option maxRecDepth 20000 in
theorem ggX8_shoot_X8_refused : GoodIn wsX8_shoot wsX8_refused := goodIn_r _ [54, 55, 74, 75, 76, 77, 78, 79, 80, 81, 82, 83, 84] (by decide +kernel) (by decide +kernel)
set_option maxRecDepth 20000 in
theorem gX8_shoot_X8_refused : GoodIn wsX8_shoot (wsV RX8 125 RX8 yX8_refused wsX8_refused) := goodIn_app (goodIn_of _ (by decide +kernel)) ggX8_shoot_X8_refused
set_option maxRecDepth 20000 in
theorem ggX8_shoot_X8_remember : GoodIn wsX8_shoot wsX8_remember := goodIn_r _ [59, 60, 61, 1, 62, 63, 4, 64, 74, 75, 76, 77, 78, 79, 80, 81, 82, 83, 84] (by decide +kernel) (by decide +kernel)
set_option maxRecDepth 20000 in
theorem gX8_shoot_X8_remember : GoodIn wsX8_shoot (wsV RX8 189 RX8 yX8_remember wsX8_remember) := goodIn_app (goodIn_of _ (by decide +kernel)) ggX8_shoot_X8_remember
set_option maxRecDepth 20000 in
theorem ggX8_shoot_X8_shootOn : GoodIn wsX8_shoot wsX8_shootOn := goodIn_r _ [67, 18, 19, 4, 20, 21, 22, 23, 12, 13, 14, 24, 25, 26, 27, 28, 29, 30, 31, 32, 33, 34, 35, 36, 37, 38, 39, 40, 41, 42, 43, 44, 45, 46, 47, 48, 49, 50, 68, 69, 70, 71, 72, 73] (by decide +kernel) (by decide +kernel)
set_option maxRecDepth 20000 in
theorem gX8_shoot_X8_shootOn : GoodIn wsX8_shoot (va_wsS RX8 157 yX8_shootOn wsX8_shootOn) := goodIn_app (goodIn_of _ (by decide +kernel)) ggX8_shoot_X8_shootOn
theorem dX8_shoot_0 : decode cX8_shoot 0 = .ok (.aload_n 0, 1) := by decide +kernel
theorem dX8_shoot_1 : decode cX8_shoot 1 = .ok (.aload_n 0, 1) := by decide +kernel
theorem dX8_shoot_2 : decode cX8_shoot 2 = .ok (.getfield 13, 3) := by decide +kernel
theorem dX8_shoot_5 : decode cX8_shoot 5 = .ok (.iload_n 1, 1) := by decide +kernel
theorem dX8_shoot_6 : decode cX8_shoot 6 = .ok (.invokestatic 83, 3) := by decide +kernel
theorem dX8_shoot_9 : decode cX8_shoot 9 = .ok (.ifCond .ne 7, 3) := by decide +kernel
theorem dX8_shoot_12 : decode cX8_shoot 12 = .ok (.iconst 1, 1) := by decide +kernel
theorem dX8_shoot_13 : decode cX8_shoot 13 = .ok (.goto 19, 3) := by decide +kernel
theorem dX8_shoot_16 : decode cX8_shoot 16 = .ok (.aload_n 0, 1) := by decide +kernel
theorem dX8_shoot_17 : decode cX8_shoot 17 = .ok (.getfield 13, 3) := by decide +kernel
theorem dX8_shoot_20 : decode cX8_shoot 20 = .ok (.iload_n 1, 1) := by decide +kernel
theorem dX8_shoot_21 : decode cX8_shoot 21 = .ok (.invokestatic 154, 3) := by decide +kernel
theorem dX8_shoot_24 : decode cX8_shoot 24 = .ok (.ifCond .eq 7, 3) := by decide +kernel
theorem dX8_shoot_27 : decode cX8_shoot 27 = .ok (.iconst 0, 1) := by decide +kernel
theorem dX8_shoot_28 : decode cX8_shoot 28 = .ok (.goto 4, 3) := by decide +kernel
theorem dX8_shoot_31 : decode cX8_shoot 31 = .ok (.iconst 2, 1) := by decide +kernel
theorem dX8_shoot_32 : decode cX8_shoot 32 = .ok (.invokevirtual 125, 3) := by decide +kernel
theorem dX8_shoot_35 : decode cX8_shoot 35 = .ok (.ifCond .eq 5, 3) := by decide +kernel
theorem dX8_shoot_38 : decode cX8_shoot 38 = .ok (.iconst 0, 1) := by decide +kernel
theorem dX8_shoot_39 : decode cX8_shoot 39 = .ok (.ireturn, 1) := by decide +kernel
theorem dX8_shoot_40 : decode cX8_shoot 40 = .ok (.aload_n 0, 1) := by decide +kernel
theorem dX8_shoot_41 : decode cX8_shoot 41 = .ok (.invokevirtual 189, 3) := by decide +kernel
theorem dX8_shoot_44 : decode cX8_shoot 44 = .ok (.aload_n 0, 1) := by decide +kernel
theorem dX8_shoot_45 : decode cX8_shoot 45 = .ok (.getfield 13, 3) := by decide +kernel
theorem dX8_shoot_48 : decode cX8_shoot 48 = .ok (.iload_n 1, 1) := by decide +kernel
theorem dX8_shoot_49 : decode cX8_shoot 49 = .ok (.invokestatic 157, 3) := by decide +kernel
theorem dX8_shoot_52 : decode cX8_shoot 52 = .ok (.ireturn, 1) := by decide +kernel
set_option maxRecDepth 20000 in
theorem ggX8_replace_X8_isScene : GoodIn wsX8_replace wsX8_isScene := goodIn_r _ [5, 6, 7, 4, 8] (by decide +kernel) (by decide +kernel)
set_option maxRecDepth 20000 in
theorem gX8_replace_X8_isScene : GoodIn wsX8_replace (va_wsS RX8 83 yX8_isScene wsX8_isScene) := goodIn_app (goodIn_of _ (by decide +kernel)) ggX8_replace_X8_isScene
set_option maxRecDepth 20000 in
theorem ggX8_replace_X8_isExtra : GoodIn wsX8_replace wsX8_isExtra := goodIn_r _ [11, 6, 7, 4, 8] (by decide +kernel) (by decide +kernel)
set_option maxRecDepth 20000 in
theorem gX8_replace_X8_isExtra : GoodIn wsX8_replace (va_wsS RX8 181 yX8_isExtra wsX8_isExtra) := goodIn_app (goodIn_of _ (by decide +kernel)) ggX8_replace_X8_isExtra
set_option maxRecDepth 20000 in
theorem ggX8_replace_X8_canReplace : GoodIn wsX8_replace wsX8_canReplace := goodIn_r _ [14, 15, 16, 4, 17, 18, 19, 20, 21, 22, 23, 24, 25, 26, 27, 28, 29, 30, 31, 32] (by decide +kernel) (by decide +kernel)
set_option maxRecDepth 20000 in
theorem gX8_replace_X8_canReplace : GoodIn wsX8_replace (va_wsS RX8 196 yX8_canReplace wsX8_canReplace) := goodIn_app (goodIn_of _ (by decide +kernel)) ggX8_replace_X8_canReplace
set_option maxRecDepth 20000 in
theorem ggX8_replace_X8_refused : GoodIn wsX8_replace wsX8_refused := goodIn_r _ [36, 37, 50, 51, 52, 53, 54, 55, 56, 57, 58, 59, 60] (by decide +kernel) (by decide +kernel)
set_option maxRecDepth 20000 in
theorem gX8_replace_X8_refused : GoodIn wsX8_replace (wsV RX8 125 RX8 yX8_refused wsX8_refused) := goodIn_app (goodIn_of _ (by decide +kernel)) ggX8_replace_X8_refused
set_option maxRecDepth 20000 in
theorem ggX8_replace_X8_remember : GoodIn wsX8_replace wsX8_remember := goodIn_r _ [41, 42, 43, 1, 44, 45, 4, 46, 50, 51, 52, 53, 54, 55, 56, 57, 58, 59, 60] (by decide +kernel) (by decide +kernel)
set_option maxRecDepth 20000 in
theorem gX8_replace_X8_remember : GoodIn wsX8_replace (wsV RX8 189 RX8 yX8_remember wsX8_remember) := goodIn_app (goodIn_of _ (by decide +kernel)) ggX8_replace_X8_remember
set_option maxRecDepth 20000 in
theorem ggX8_replace_X8_replaceOn : GoodIn wsX8_replace wsX8_replaceOn := goodIn_r _ [49, 15, 16, 4, 17] (by decide +kernel) (by decide +kernel)
set_option maxRecDepth 20000 in
theorem gX8_replace_X8_replaceOn : GoodIn wsX8_replace (va_wsS RX8 200 yX8_replaceOn wsX8_replaceOn) := goodIn_app (goodIn_of _ (by decide +kernel)) ggX8_replace_X8_replaceOn
theorem dX8_replace_0 : decode cX8_replace 0 = .ok (.aload_n 0, 1) := by decide +kernel
theorem dX8_replace_1 : decode cX8_replace 1 = .ok (.aload_n 0, 1) := by decide +kernel
theorem dX8_replace_2 : decode cX8_replace 2 = .ok (.getfield 13, 3) := by decide +kernel
theorem dX8_replace_5 : decode cX8_replace 5 = .ok (.iload_n 1, 1) := by decide +kernel
theorem dX8_replace_6 : decode cX8_replace 6 = .ok (.invokestatic 83, 3) := by decide +kernel
theorem dX8_replace_9 : decode cX8_replace 9 = .ok (.ifCond .eq 25, 3) := by decide +kernel
theorem dX8_replace_12 : decode cX8_replace 12 = .ok (.aload_n 0, 1) := by decide +kernel
theorem dX8_replace_13 : decode cX8_replace 13 = .ok (.getfield 13, 3) := by decide +kernel
theorem dX8_replace_16 : decode cX8_replace 16 = .ok (.iload_n 2, 1) := by decide +kernel
theorem dX8_replace_17 : decode cX8_replace 17 = .ok (.invokestatic 181, 3) := by decide +kernel
theorem dX8_replace_20 : decode cX8_replace 20 = .ok (.ifCond .eq 14, 3) := by decide +kernel
theorem dX8_replace_23 : decode cX8_replace 23 = .ok (.aload_n 0, 1) := by decide +kernel
theorem dX8_replace_24 : decode cX8_replace 24 = .ok (.getfield 13, 3) := by decide +kernel
theorem dX8_replace_27 : decode cX8_replace 27 = .ok (.iload_n 3, 1) := by decide +kernel
theorem dX8_replace_28 : decode cX8_replace 28 = .ok (.invokestatic 181, 3) := by decide +kernel
theorem dX8_replace_31 : decode cX8_replace 31 = .ok (.ifCond .ne 7, 3) := by decide +kernel
theorem dX8_replace_34 : decode cX8_replace 34 = .ok (.iconst 1, 1) := by decide +kernel
theorem dX8_replace_35 : decode cX8_replace 35 = .ok (.goto 21, 3) := by decide +kernel
theorem dX8_replace_38 : decode cX8_replace 38 = .ok (.aload_n 0, 1) := by decide +kernel
theorem dX8_replace_39 : decode cX8_replace 39 = .ok (.getfield 13, 3) := by decide +kernel
theorem dX8_replace_42 : decode cX8_replace 42 = .ok (.iload_n 1, 1) := by decide +kernel
theorem dX8_replace_43 : decode cX8_replace 43 = .ok (.iload_n 2, 1) := by decide +kernel
theorem dX8_replace_44 : decode cX8_replace 44 = .ok (.iload_n 3, 1) := by decide +kernel
theorem dX8_replace_45 : decode cX8_replace 45 = .ok (.invokestatic 196, 3) := by decide +kernel
theorem dX8_replace_48 : decode cX8_replace 48 = .ok (.ifCond .eq 7, 3) := by decide +kernel
theorem dX8_replace_51 : decode cX8_replace 51 = .ok (.iconst 0, 1) := by decide +kernel
theorem dX8_replace_52 : decode cX8_replace 52 = .ok (.goto 4, 3) := by decide +kernel
theorem dX8_replace_55 : decode cX8_replace 55 = .ok (.iconst 2, 1) := by decide +kernel
theorem dX8_replace_56 : decode cX8_replace 56 = .ok (.invokevirtual 125, 3) := by decide +kernel
theorem dX8_replace_59 : decode cX8_replace 59 = .ok (.ifCond .eq 5, 3) := by decide +kernel
theorem dX8_replace_62 : decode cX8_replace 62 = .ok (.iconst 0, 1) := by decide +kernel
theorem dX8_replace_63 : decode cX8_replace 63 = .ok (.ireturn, 1) := by decide +kernel
theorem dX8_replace_64 : decode cX8_replace 64 = .ok (.aload_n 0, 1) := by decide +kernel
theorem dX8_replace_65 : decode cX8_replace 65 = .ok (.invokevirtual 189, 3) := by decide +kernel
theorem dX8_replace_68 : decode cX8_replace 68 = .ok (.aload_n 0, 1) := by decide +kernel
theorem dX8_replace_69 : decode cX8_replace 69 = .ok (.getfield 13, 3) := by decide +kernel
theorem dX8_replace_72 : decode cX8_replace 72 = .ok (.iload_n 1, 1) := by decide +kernel
theorem dX8_replace_73 : decode cX8_replace 73 = .ok (.iload_n 2, 1) := by decide +kernel
theorem dX8_replace_74 : decode cX8_replace 74 = .ok (.iload_n 3, 1) := by decide +kernel
theorem dX8_replace_75 : decode cX8_replace 75 = .ok (.invokestatic 200, 3) := by decide +kernel
theorem dX8_replace_78 : decode cX8_replace 78 = .ok (.ireturn, 1) := by decide +kernel
set_option maxRecDepth 20000 in
theorem ggX8_meal_X8_remember : GoodIn wsX8_meal wsX8_remember := goodIn_r _ [7, 8, 9, 2, 10, 11, 6, 12, 22, 23, 24, 25, 26, 27, 28, 29, 30, 31, 32] (by decide +kernel) (by decide +kernel)
set_option maxRecDepth 20000 in
theorem gX8_meal_X8_remember : GoodIn wsX8_meal (wsV RX8 189 RX8 yX8_remember wsX8_remember) := goodIn_app (goodIn_of _ (by decide +kernel)) ggX8_meal_X8_remember
set_option maxRecDepth 20000 in
theorem ggX8_meal_X8_mealOn : GoodIn wsX8_meal wsX8_mealOn := goodIn_r _ [15, 16, 17, 6, 18, 19, 20, 21] (by decide +kernel) (by decide +kernel)
set_option maxRecDepth 20000 in
theorem gX8_meal_X8_mealOn : GoodIn wsX8_meal (va_wsS RX8 112 yX8_mealOn wsX8_mealOn) := goodIn_app (goodIn_of _ (by decide +kernel)) ggX8_meal_X8_mealOn
theorem dX8_meal_0 : decode cX8_meal 0 = .ok (.aload_n 0, 1) := by decide +kernel
theorem dX8_meal_1 : decode cX8_meal 1 = .ok (.iconst 0, 1) := by decide +kernel
theorem dX8_meal_2 : decode cX8_meal 2 = .ok (.putfield 33, 3) := by decide +kernel
theorem dX8_meal_5 : decode cX8_meal 5 = .ok (.aload_n 0, 1) := by decide +kernel
theorem dX8_meal_6 : decode cX8_meal 6 = .ok (.invokevirtual 189, 3) := by decide +kernel
theorem dX8_meal_9 : decode cX8_meal 9 = .ok (.aload_n 0, 1) := by decide +kernel
theorem dX8_meal_10 : decode cX8_meal 10 = .ok (.getfield 13, 3) := by decide +kernel
theorem dX8_meal_13 : decode cX8_meal 13 = .ok (.invokestatic 112, 3) := by decide +kernel
theorem dX8_meal_16 : decode cX8_meal 16 = .ok (.ireturn, 1) := by decide +kernel
set_option maxRecDepth 20000 in
theorem ggX8_nextDay_X8_remember : GoodIn wsX8_nextDay wsX8_remember := goodIn_r _ [7, 8, 9, 2, 10, 11, 6, 12, 25, 26, 27, 28, 29, 30, 31, 32, 33, 34, 35] (by decide +kernel) (by decide +kernel)
set_option maxRecDepth 20000 in
theorem gX8_nextDay_X8_remember : GoodIn wsX8_nextDay (wsV RX8 189 RX8 yX8_remember wsX8_remember) := goodIn_app (goodIn_of _ (by decide +kernel)) ggX8_nextDay_X8_remember
set_option maxRecDepth 20000 in
theorem ggX8_nextDay_X8_nextOn : GoodIn wsX8_nextDay wsX8_nextOn := goodIn_r _ [15, 16, 17, 6, 18, 19, 20, 21, 22, 23, 24] (by decide +kernel) (by decide +kernel)
set_option maxRecDepth 20000 in
theorem gX8_nextDay_X8_nextOn : GoodIn wsX8_nextDay (va_wsS RX8 160 yX8_nextOn wsX8_nextOn) := goodIn_app (goodIn_of _ (by decide +kernel)) ggX8_nextDay_X8_nextOn
theorem dX8_nextDay_0 : decode cX8_nextDay 0 = .ok (.aload_n 0, 1) := by decide +kernel
theorem dX8_nextDay_1 : decode cX8_nextDay 1 = .ok (.iconst 0, 1) := by decide +kernel
theorem dX8_nextDay_2 : decode cX8_nextDay 2 = .ok (.putfield 33, 3) := by decide +kernel
theorem dX8_nextDay_5 : decode cX8_nextDay 5 = .ok (.aload_n 0, 1) := by decide +kernel
theorem dX8_nextDay_6 : decode cX8_nextDay 6 = .ok (.invokevirtual 189, 3) := by decide +kernel
theorem dX8_nextDay_9 : decode cX8_nextDay 9 = .ok (.aload_n 0, 1) := by decide +kernel
theorem dX8_nextDay_10 : decode cX8_nextDay 10 = .ok (.getfield 13, 3) := by decide +kernel
theorem dX8_nextDay_13 : decode cX8_nextDay 13 = .ok (.invokestatic 160, 3) := by decide +kernel
theorem dX8_nextDay_16 : decode cX8_nextDay 16 = .ok (.ireturn, 1) := by decide +kernel
set_option maxRecDepth 20000 in
theorem ggX8_set_X8_isSetting : GoodIn wsX8_set wsX8_isSetting := goodIn_r _ [5, 6, 7, 8, 9, 10, 4, 11] (by decide +kernel) (by decide +kernel)
set_option maxRecDepth 20000 in
theorem gX8_set_X8_isSetting : GoodIn wsX8_set (va_wsS RX8 204 yX8_isSetting wsX8_isSetting) := goodIn_app (goodIn_of _ (by decide +kernel)) ggX8_set_X8_isSetting
set_option maxRecDepth 20000 in
theorem ggX8_set_X8_refused : GoodIn wsX8_set wsX8_refused := goodIn_r _ [15, 16, 26, 27, 28, 29, 30, 31, 32, 33, 34, 35, 36] (by decide +kernel) (by decide +kernel)
set_option maxRecDepth 20000 in
theorem gX8_set_X8_refused : GoodIn wsX8_set (wsV RX8 125 RX8 yX8_refused wsX8_refused) := goodIn_app (goodIn_of _ (by decide +kernel)) ggX8_set_X8_refused
set_option maxRecDepth 20000 in
theorem ggX8_set_X8_remember : GoodIn wsX8_set wsX8_remember := goodIn_r _ [20, 21, 22, 1, 23, 24, 4, 25, 26, 27, 28, 29, 30, 31, 32, 33, 34, 35, 36] (by decide +kernel) (by decide +kernel)
set_option maxRecDepth 20000 in
theorem gX8_set_X8_remember : GoodIn wsX8_set (wsV RX8 189 RX8 yX8_remember wsX8_remember) := goodIn_app (goodIn_of _ (by decide +kernel)) ggX8_set_X8_remember
theorem dX8_set_0 : decode cX8_set 0 = .ok (.aload_n 0, 1) := by decide +kernel
theorem dX8_set_1 : decode cX8_set 1 = .ok (.iload_n 1, 1) := by decide +kernel
theorem dX8_set_2 : decode cX8_set 2 = .ok (.iload_n 2, 1) := by decide +kernel
theorem dX8_set_3 : decode cX8_set 3 = .ok (.invokestatic 204, 3) := by decide +kernel
theorem dX8_set_6 : decode cX8_set 6 = .ok (.ifCond .eq 7, 3) := by decide +kernel
theorem dX8_set_9 : decode cX8_set 9 = .ok (.iconst 0, 1) := by decide +kernel
theorem dX8_set_10 : decode cX8_set 10 = .ok (.goto 4, 3) := by decide +kernel
theorem dX8_set_13 : decode cX8_set 13 = .ok (.iconst 1, 1) := by decide +kernel
theorem dX8_set_14 : decode cX8_set 14 = .ok (.invokevirtual 125, 3) := by decide +kernel
theorem dX8_set_17 : decode cX8_set 17 = .ok (.ifCond .eq 5, 3) := by decide +kernel
theorem dX8_set_20 : decode cX8_set 20 = .ok (.iconst 0, 1) := by decide +kernel
theorem dX8_set_21 : decode cX8_set 21 = .ok (.ireturn, 1) := by decide +kernel
theorem dX8_set_22 : decode cX8_set 22 = .ok (.aload_n 0, 1) := by decide +kernel
theorem dX8_set_23 : decode cX8_set 23 = .ok (.invokevirtual 189, 3) := by decide +kernel
theorem dX8_set_26 : decode cX8_set 26 = .ok (.aload_n 0, 1) := by decide +kernel
theorem dX8_set_27 : decode cX8_set 27 = .ok (.getfield 13, 3) := by decide +kernel
theorem dX8_set_30 : decode cX8_set 30 = .ok (.bipush 7, 2) := by decide +kernel
theorem dX8_set_32 : decode cX8_set 32 = .ok (.iload_n 1, 1) := by decide +kernel
theorem dX8_set_33 : decode cX8_set 33 = .ok (.iadd, 1) := by decide +kernel
theorem dX8_set_34 : decode cX8_set 34 = .ok (.iaload, 1) := by decide +kernel
theorem dX8_set_35 : decode cX8_set 35 = .ok (.istore_n 3, 1) := by decide +kernel
theorem dX8_set_36 : decode cX8_set 36 = .ok (.aload_n 0, 1) := by decide +kernel
theorem dX8_set_37 : decode cX8_set 37 = .ok (.getfield 13, 3) := by decide +kernel
theorem dX8_set_40 : decode cX8_set 40 = .ok (.bipush 7, 2) := by decide +kernel
theorem dX8_set_42 : decode cX8_set 42 = .ok (.iload_n 1, 1) := by decide +kernel
theorem dX8_set_43 : decode cX8_set 43 = .ok (.iadd, 1) := by decide +kernel
theorem dX8_set_44 : decode cX8_set 44 = .ok (.iload_n 2, 1) := by decide +kernel
theorem dX8_set_45 : decode cX8_set 45 = .ok (.iastore, 1) := by decide +kernel
theorem dX8_set_46 : decode cX8_set 46 = .ok (.iload_n 3, 1) := by decide +kernel
theorem dX8_set_47 : decode cX8_set 47 = .ok (.ireturn, 1) := by decide +kernel
set_option maxRecDepth 20000 in
theorem ggX8_undo_X8_refused : GoodIn wsX8_undo wsX8_refused := goodIn_r _ [8, 9, 13, 14, 15, 16, 17, 18, 19, 20, 21, 22, 23] (by decide +kernel) (by decide +kernel)
set_option maxRecDepth 20000 in
theorem gX8_undo_X8_refused : GoodIn wsX8_undo (wsV RX8 125 RX8 yX8_refused wsX8_refused) := goodIn_app (goodIn_of _ (by decide +kernel)) ggX8_undo_X8_refused
set_option maxRecDepth 20000 in
theorem ggX8_undo_X8_copyState : GoodIn wsX8_undo wsX8_copyState := goodIn_r _ [12] (by decide +kernel) (by decide +kernel)
set_option maxRecDepth 20000 in
theorem gX8_undo_X8_copyState : GoodIn wsX8_undo (va_wsS RX8 169 yX8_copyState wsX8_copyState) := goodIn_app (goodIn_of _ (by decide +kernel)) ggX8_undo_X8_copyState
theorem dX8_undo_0 : decode cX8_undo 0 = .ok (.aload_n 0, 1) := by decide +kernel
theorem dX8_undo_1 : decode cX8_undo 1 = .ok (.aload_n 0, 1) := by decide +kernel
theorem dX8_undo_2 : decode cX8_undo 2 = .ok (.getfield 173, 3) := by decide +kernel
theorem dX8_undo_5 : decode cX8_undo 5 = .ok (.ifCond .ne 7, 3) := by decide +kernel
theorem dX8_undo_8 : decode cX8_undo 8 = .ok (.iconst 1, 1) := by decide +kernel
theorem dX8_undo_9 : decode cX8_undo 9 = .ok (.goto 4, 3) := by decide +kernel
theorem dX8_undo_12 : decode cX8_undo 12 = .ok (.iconst 0, 1) := by decide +kernel
theorem dX8_undo_13 : decode cX8_undo 13 = .ok (.invokevirtual 125, 3) := by decide +kernel
theorem dX8_undo_16 : decode cX8_undo 16 = .ok (.ifCond .eq 5, 3) := by decide +kernel
theorem dX8_undo_19 : decode cX8_undo 19 = .ok (.iconst 0, 1) := by decide +kernel
theorem dX8_undo_20 : decode cX8_undo 20 = .ok (.ireturn, 1) := by decide +kernel
theorem dX8_undo_21 : decode cX8_undo 21 = .ok (.aload_n 0, 1) := by decide +kernel
theorem dX8_undo_22 : decode cX8_undo 22 = .ok (.dup, 1) := by decide +kernel
theorem dX8_undo_23 : decode cX8_undo 23 = .ok (.getfield 173, 3) := by decide +kernel
theorem dX8_undo_26 : decode cX8_undo 26 = .ok (.iconst 1, 1) := by decide +kernel
theorem dX8_undo_27 : decode cX8_undo 27 = .ok (.isub, 1) := by decide +kernel
theorem dX8_undo_28 : decode cX8_undo 28 = .ok (.putfield 173, 3) := by decide +kernel
theorem dX8_undo_31 : decode cX8_undo 31 = .ok (.aload_n 0, 1) := by decide +kernel
theorem dX8_undo_32 : decode cX8_undo 32 = .ok (.getfield 19, 3) := by decide +kernel
theorem dX8_undo_35 : decode cX8_undo 35 = .ok (.sipush 164, 3) := by decide +kernel
theorem dX8_undo_38 : decode cX8_undo 38 = .ok (.aload_n 0, 1) := by decide +kernel
theorem dX8_undo_39 : decode cX8_undo 39 = .ok (.getfield 173, 3) := by decide +kernel
theorem dX8_undo_42 : decode cX8_undo 42 = .ok (.imul, 1) := by decide +kernel
theorem dX8_undo_43 : decode cX8_undo 43 = .ok (.aload_n 0, 1) := by decide +kernel
theorem dX8_undo_44 : decode cX8_undo 44 = .ok (.getfield 13, 3) := by decide +kernel
theorem dX8_undo_47 : decode cX8_undo 47 = .ok (.iconst 0, 1) := by decide +kernel
theorem dX8_undo_48 : decode cX8_undo 48 = .ok (.invokestatic 169, 3) := by decide +kernel
theorem dX8_undo_51 : decode cX8_undo 51 = .ok (.aload_n 0, 1) := by decide +kernel
theorem dX8_undo_52 : decode cX8_undo 52 = .ok (.getfield 173, 3) := by decide +kernel
theorem dX8_undo_55 : decode cX8_undo 55 = .ok (.ireturn, 1) := by decide +kernel
set_option maxRecDepth 20000 in
theorem ggX8_would_X8_isScene : GoodIn wsX8_would wsX8_isScene := goodIn_r _ [7, 8, 9, 6, 10] (by decide +kernel) (by decide +kernel)
set_option maxRecDepth 20000 in
theorem gX8_would_X8_isScene : GoodIn wsX8_would (va_wsS RX8 83 yX8_isScene wsX8_isScene) := goodIn_app (goodIn_of _ (by decide +kernel)) ggX8_would_X8_isScene
set_option maxRecDepth 20000 in
theorem ggX8_would_X8_in : GoodIn wsX8_would wsX8_in := goodIn_r _ [10] (by decide +kernel) (by decide +kernel)
set_option maxRecDepth 20000 in
theorem gX8_would_X8_in : GoodIn wsX8_would (va_wsS RX8 37 yX8_in wsX8_in) := goodIn_app (goodIn_of _ (by decide +kernel)) ggX8_would_X8_in
set_option maxRecDepth 20000 in
theorem ggX8_would_X8_refused : GoodIn wsX8_would wsX8_refused := goodIn_r _ [14, 15, 70, 71, 72, 73, 74, 75, 76, 77, 78, 79, 80] (by decide +kernel) (by decide +kernel)
set_option maxRecDepth 20000 in
theorem gX8_would_X8_refused : GoodIn wsX8_would (wsV RX8 125 RX8 yX8_refused wsX8_refused) := goodIn_app (goodIn_of _ (by decide +kernel)) ggX8_would_X8_refused
set_option maxRecDepth 20000 in
theorem ggX8_would_X8_canShoot : GoodIn wsX8_would wsX8_canShoot := goodIn_r _ [18, 4, 5, 6, 7, 8, 9, 10, 19, 20, 21, 22, 23, 24, 25, 26, 27, 28, 29, 30, 31, 32, 33, 34, 35, 36, 37, 38, 39, 40, 41, 42, 43, 44, 45, 46, 47, 48, 49, 50, 51, 52, 53, 54, 55, 56, 57] (by decide +kernel) (by decide +kernel)
set_option maxRecDepth 20000 in
theorem gX8_would_X8_canShoot : GoodIn wsX8_would (va_wsS RX8 154 yX8_canShoot wsX8_canShoot) := goodIn_app (goodIn_of _ (by decide +kernel)) ggX8_would_X8_canShoot
set_option maxRecDepth 20000 in
theorem ggX8_would_X8_copyState : GoodIn wsX8_would wsX8_copyState := goodIn_r _ [60] (by decide +kernel) (by decide +kernel)
set_option maxRecDepth 20000 in
theorem gX8_would_X8_copyState : GoodIn wsX8_would (va_wsS RX8 169 yX8_copyState wsX8_copyState) := goodIn_app (goodIn_of _ (by decide +kernel)) ggX8_would_X8_copyState
set_option maxRecDepth 20000 in
theorem ggX8_would_X8_shootOn : GoodIn wsX8_would wsX8_shootOn := goodIn_r _ [63, 25, 26, 6, 27, 28, 29, 30, 19, 20, 21, 31, 32, 33, 34, 35, 36, 37, 38, 39, 40, 41, 42, 43, 44, 45, 46, 47, 48, 49, 50, 51, 52, 53, 54, 55, 56, 57, 64, 65, 66, 67, 68, 69] (by decide +kernel) (by decide +kernel)
set_option maxRecDepth 20000 in
theorem gX8_would_X8_shootOn : GoodIn wsX8_would (va_wsS RX8 157 yX8_shootOn wsX8_shootOn) := goodIn_app (goodIn_of _ (by decide +kernel)) ggX8_would_X8_shootOn
theorem dX8_would_0 : decode cX8_would 0 = .ok (.aload_n 0, 1) := by decide +kernel
theorem dX8_would_1 : decode cX8_would 1 = .ok (.aload_n 0, 1) := by decide +kernel
theorem dX8_would_2 : decode cX8_would 2 = .ok (.getfield 13, 3) := by decide +kernel
theorem dX8_would_5 : decode cX8_would 5 = .ok (.iload_n 1, 1) := by decide +kernel
theorem dX8_would_6 : decode cX8_would 6 = .ok (.invokestatic 83, 3) := by decide +kernel
theorem dX8_would_9 : decode cX8_would 9 = .ok (.ifCond .ne 7, 3) := by decide +kernel
theorem dX8_would_12 : decode cX8_would 12 = .ok (.iconst 1, 1) := by decide +kernel
theorem dX8_would_13 : decode cX8_would 13 = .ok (.goto 20, 3) := by decide +kernel
theorem dX8_would_16 : decode cX8_would 16 = .ok (.iload_n 2, 1) := by decide +kernel
theorem dX8_would_17 : decode cX8_would 17 = .ok (.i2l, 1) := by decide +kernel
theorem dX8_would_18 : decode cX8_would 18 = .ok (.lconst 0, 1) := by decide +kernel
theorem dX8_would_19 : decode cX8_would 19 = .ok (.ldc2_w 106, 3) := by decide +kernel
theorem dX8_would_22 : decode cX8_would 22 = .ok (.invokestatic 37, 3) := by decide +kernel
theorem dX8_would_25 : decode cX8_would 25 = .ok (.ifCond .eq 7, 3) := by decide +kernel
theorem dX8_would_28 : decode cX8_would 28 = .ok (.iconst 0, 1) := by decide +kernel
theorem dX8_would_29 : decode cX8_would 29 = .ok (.goto 4, 3) := by decide +kernel
theorem dX8_would_32 : decode cX8_would 32 = .ok (.iconst 2, 1) := by decide +kernel
theorem dX8_would_33 : decode cX8_would 33 = .ok (.invokevirtual 125, 3) := by decide +kernel
theorem dX8_would_36 : decode cX8_would 36 = .ok (.ifCond .eq 5, 3) := by decide +kernel
theorem dX8_would_39 : decode cX8_would 39 = .ok (.iconst 0, 1) := by decide +kernel
theorem dX8_would_40 : decode cX8_would 40 = .ok (.ireturn, 1) := by decide +kernel
theorem dX8_would_41 : decode cX8_would 41 = .ok (.aload_n 0, 1) := by decide +kernel
theorem dX8_would_42 : decode cX8_would 42 = .ok (.getfield 13, 3) := by decide +kernel
theorem dX8_would_45 : decode cX8_would 45 = .ok (.iload_n 1, 1) := by decide +kernel
theorem dX8_would_46 : decode cX8_would 46 = .ok (.invokestatic 154, 3) := by decide +kernel
theorem dX8_would_49 : decode cX8_would 49 = .ok (.ifCond .ne 5, 3) := by decide +kernel
theorem dX8_would_52 : decode cX8_would 52 = .ok (.iconst (-1), 1) := by decide +kernel
theorem dX8_would_53 : decode cX8_would 53 = .ok (.ireturn, 1) := by decide +kernel
theorem dX8_would_54 : decode cX8_would 54 = .ok (.aload_n 0, 1) := by decide +kernel
theorem dX8_would_55 : decode cX8_would 55 = .ok (.getfield 13, 3) := by decide +kernel
theorem dX8_would_58 : decode cX8_would 58 = .ok (.iconst 0, 1) := by decide +kernel
theorem dX8_would_59 : decode cX8_would 59 = .ok (.aload_n 0, 1) := by decide +kernel
theorem dX8_would_60 : decode cX8_would 60 = .ok (.getfield 16, 3) := by decide +kernel
theorem dX8_would_63 : decode cX8_would 63 = .ok (.iconst 0, 1) := by decide +kernel
theorem dX8_would_64 : decode cX8_would 64 = .ok (.invokestatic 169, 3) := by decide +kernel
theorem dX8_would_67 : decode cX8_would 67 = .ok (.aload_n 0, 1) := by decide +kernel
theorem dX8_would_68 : decode cX8_would 68 = .ok (.getfield 16, 3) := by decide +kernel
theorem dX8_would_71 : decode cX8_would 71 = .ok (.iload_n 1, 1) := by decide +kernel
theorem dX8_would_72 : decode cX8_would 72 = .ok (.invokestatic 157, 3) := by decide +kernel
theorem dX8_would_75 : decode cX8_would 75 = .ok (.istore_n 3, 1) := by decide +kernel
theorem dX8_would_76 : decode cX8_would 76 = .ok (.iload_n 2, 1) := by decide +kernel
theorem dX8_would_77 : decode cX8_would 77 = .ok (.ifCond .ne 7, 3) := by decide +kernel
theorem dX8_would_80 : decode cX8_would 80 = .ok (.iload_n 3, 1) := by decide +kernel
theorem dX8_would_81 : decode cX8_would 81 = .ok (.goto 60, 3) := by decide +kernel
theorem dX8_would_84 : decode cX8_would 84 = .ok (.iload_n 2, 1) := by decide +kernel
theorem dX8_would_85 : decode cX8_would 85 = .ok (.iconst 1, 1) := by decide +kernel
theorem dX8_would_86 : decode cX8_would 86 = .ok (.if_icmp .ne 19, 3) := by decide +kernel
theorem dX8_would_89 : decode cX8_would 89 = .ok (.aload_n 0, 1) := by decide +kernel
theorem dX8_would_90 : decode cX8_would 90 = .ok (.getfield 16, 3) := by decide +kernel
theorem dX8_would_93 : decode cX8_would 93 = .ok (.iconst 3, 1) := by decide +kernel
theorem dX8_would_94 : decode cX8_would 94 = .ok (.iaload, 1) := by decide +kernel
theorem dX8_would_95 : decode cX8_would 95 = .ok (.aload_n 0, 1) := by decide +kernel
theorem dX8_would_96 : decode cX8_would 96 = .ok (.getfield 13, 3) := by decide +kernel
theorem dX8_would_99 : decode cX8_would 99 = .ok (.iconst 3, 1) := by decide +kernel
theorem dX8_would_100 : decode cX8_would 100 = .ok (.iaload, 1) := by decide +kernel
theorem dX8_would_101 : decode cX8_would 101 = .ok (.isub, 1) := by decide +kernel
theorem dX8_would_102 : decode cX8_would 102 = .ok (.goto 39, 3) := by decide +kernel
theorem dX8_would_105 : decode cX8_would 105 = .ok (.iload_n 2, 1) := by decide +kernel
theorem dX8_would_106 : decode cX8_would 106 = .ok (.iconst 2, 1) := by decide +kernel
theorem dX8_would_107 : decode cX8_would 107 = .ok (.if_icmp .ne 19, 3) := by decide +kernel
theorem dX8_would_110 : decode cX8_would 110 = .ok (.aload_n 0, 1) := by decide +kernel
theorem dX8_would_111 : decode cX8_would 111 = .ok (.getfield 16, 3) := by decide +kernel
theorem dX8_would_114 : decode cX8_would 114 = .ok (.iconst 4, 1) := by decide +kernel
theorem dX8_would_115 : decode cX8_would 115 = .ok (.iaload, 1) := by decide +kernel
theorem dX8_would_116 : decode cX8_would 116 = .ok (.aload_n 0, 1) := by decide +kernel
theorem dX8_would_117 : decode cX8_would 117 = .ok (.getfield 13, 3) := by decide +kernel
theorem dX8_would_120 : decode cX8_would 120 = .ok (.iconst 4, 1) := by decide +kernel
theorem dX8_would_121 : decode cX8_would 121 = .ok (.iaload, 1) := by decide +kernel
theorem dX8_would_122 : decode cX8_would 122 = .ok (.isub, 1) := by decide +kernel
theorem dX8_would_123 : decode cX8_would 123 = .ok (.goto 18, 3) := by decide +kernel
theorem dX8_would_126 : decode cX8_would 126 = .ok (.aload_n 0, 1) := by decide +kernel
theorem dX8_would_127 : decode cX8_would 127 = .ok (.getfield 16, 3) := by decide +kernel
theorem dX8_would_130 : decode cX8_would 130 = .ok (.bipush 6, 2) := by decide +kernel
theorem dX8_would_132 : decode cX8_would 132 = .ok (.iaload, 1) := by decide +kernel
theorem dX8_would_133 : decode cX8_would 133 = .ok (.aload_n 0, 1) := by decide +kernel
theorem dX8_would_134 : decode cX8_would 134 = .ok (.getfield 13, 3) := by decide +kernel
theorem dX8_would_137 : decode cX8_would 137 = .ok (.bipush 6, 2) := by decide +kernel
theorem dX8_would_139 : decode cX8_would 139 = .ok (.iaload, 1) := by decide +kernel
theorem dX8_would_140 : decode cX8_would 140 = .ok (.isub, 1) := by decide +kernel
theorem dX8_would_141 : decode cX8_would 141 = .ok (.ireturn, 1) := by decide +kernel
set_option maxRecDepth 20000 in
theorem ggX8_why_X8_isScene : GoodIn wsX8_why wsX8_isScene := goodIn_r _ [5, 6, 7, 4, 8] (by decide +kernel) (by decide +kernel)
set_option maxRecDepth 20000 in
theorem gX8_why_X8_isScene : GoodIn wsX8_why (va_wsS RX8 83 yX8_isScene wsX8_isScene) := goodIn_app (goodIn_of _ (by decide +kernel)) ggX8_why_X8_isScene
set_option maxRecDepth 20000 in
theorem ggX8_why_X8_isExtra : GoodIn wsX8_why wsX8_isExtra := goodIn_r _ [11, 6, 7, 4, 8] (by decide +kernel) (by decide +kernel)
set_option maxRecDepth 20000 in
theorem gX8_why_X8_isExtra : GoodIn wsX8_why (va_wsS RX8 181 yX8_isExtra wsX8_isExtra) := goodIn_app (goodIn_of _ (by decide +kernel)) ggX8_why_X8_isExtra
set_option maxRecDepth 20000 in
theorem ggX8_why_X8_refused : GoodIn wsX8_why wsX8_refused := goodIn_r _ [15, 16, 59, 60, 61, 62, 63, 64, 65, 66, 67, 68, 69] (by decide +kernel) (by decide +kernel)
set_option maxRecDepth 20000 in
theorem gX8_why_X8_refused : GoodIn wsX8_why (wsV RX8 125 RX8 yX8_refused wsX8_refused) := goodIn_app (goodIn_of _ (by decide +kernel)) ggX8_why_X8_refused
set_option maxRecDepth 20000 in
theorem ggX8_why_X8_fits : GoodIn wsX8_why wsX8_fits := goodIn_r _ [19, 20, 21, 4, 22, 23, 24, 25] (by decide +kernel) (by decide +kernel)
set_option maxRecDepth 20000 in
theorem gX8_why_X8_fits : GoodIn wsX8_why (va_wsS RX8 56 yX8_fits wsX8_fits) := goodIn_app (goodIn_of _ (by decide +kernel)) ggX8_why_X8_fits
set_option maxRecDepth 20000 in
theorem ggX8_why_X8_hasTime : GoodIn wsX8_why wsX8_hasTime := goodIn_r _ [28, 20, 21, 4, 22, 23, 24, 25] (by decide +kernel) (by decide +kernel)
set_option maxRecDepth 20000 in
theorem gX8_why_X8_hasTime : GoodIn wsX8_why (va_wsS RX8 60 yX8_hasTime wsX8_hasTime) := goodIn_app (goodIn_of _ (by decide +kernel)) ggX8_why_X8_hasTime
set_option maxRecDepth 20000 in
theorem ggX8_why_X8_seen : GoodIn wsX8_why wsX8_seen := goodIn_r _ [31, 23, 24, 4, 25, 32, 33, 34, 35, 36, 37, 20, 21, 22] (by decide +kernel) (by decide +kernel)
set_option maxRecDepth 20000 in
theorem gX8_why_X8_seen : GoodIn wsX8_why (va_wsS RX8 66 yX8_seen wsX8_seen) := goodIn_app (goodIn_of _ (by decide +kernel)) ggX8_why_X8_seen
set_option maxRecDepth 20000 in
theorem ggX8_why_X8_of : GoodIn wsX8_why wsX8_of := goodIn_r _ [22] (by decide +kernel) (by decide +kernel)
set_option maxRecDepth 20000 in
theorem gX8_why_X8_of : GoodIn wsX8_why (va_wsS RX8 45 yX8_of wsX8_of) := goodIn_app (goodIn_of _ (by decide +kernel)) ggX8_why_X8_of
set_option maxRecDepth 20000 in
theorem ggX8_why_X8_has : GoodIn wsX8_why wsX8_has := goodIn_r _ [37] (by decide +kernel) (by decide +kernel)
set_option maxRecDepth 20000 in
theorem gX8_why_X8_has : GoodIn wsX8_why (va_wsS RX8 41 yX8_has wsX8_has) := goodIn_app (goodIn_of _ (by decide +kernel)) ggX8_why_X8_has
set_option maxRecDepth 20000 in
theorem ggX8_why_X8_canShoot : GoodIn wsX8_why wsX8_canShoot := goodIn_r _ [40, 2, 3, 4, 5, 6, 7, 8, 23, 24, 25, 41, 42, 43, 44, 45, 46, 29, 30, 31, 32, 33, 34, 35, 36, 37, 20, 21, 22, 47, 48, 49, 50, 51, 52, 17, 18, 19, 26, 27, 28, 53, 54, 55, 56, 57, 58] (by decide +kernel) (by decide +kernel)
set_option maxRecDepth 20000 in
theorem gX8_why_X8_canShoot : GoodIn wsX8_why (va_wsS RX8 154 yX8_canShoot wsX8_canShoot) := goodIn_app (goodIn_of _ (by decide +kernel)) ggX8_why_X8_canShoot
set_option maxRecDepth 20000 in
theorem ggX8_why_X8_choose : GoodIn wsX8_why wsX8_choose := goodIn_r _ [46, 29, 30, 4, 31, 23, 24, 25, 32, 33, 34, 35, 36, 37, 20, 21, 22, 47, 48, 49, 50, 51, 52, 17, 18, 19, 26, 27, 28, 53, 54, 55] (by decide +kernel) (by decide +kernel)
set_option maxRecDepth 20000 in
theorem gX8_why_X8_choose : GoodIn wsX8_why (va_wsS RX8 76 yX8_choose wsX8_choose) := goodIn_app (goodIn_of _ (by decide +kernel)) ggX8_why_X8_choose
set_option maxRecDepth 20000 in
theorem ggX8_why_X8_facesOf : GoodIn wsX8_why wsX8_facesOf := goodIn_r _ [34, 35, 36, 4, 37, 20, 21, 22] (by decide +kernel) (by decide +kernel)
set_option maxRecDepth 20000 in
theorem gX8_why_X8_facesOf : GoodIn wsX8_why (va_wsS RX8 52 yX8_facesOf wsX8_facesOf) := goodIn_app (goodIn_of _ (by decide +kernel)) ggX8_why_X8_facesOf
theorem dX8_why_0 : decode cX8_why 0 = .ok (.aload_n 0, 1) := by decide +kernel
theorem dX8_why_1 : decode cX8_why 1 = .ok (.aload_n 0, 1) := by decide +kernel
theorem dX8_why_2 : decode cX8_why 2 = .ok (.getfield 13, 3) := by decide +kernel
theorem dX8_why_5 : decode cX8_why 5 = .ok (.iload_n 1, 1) := by decide +kernel
theorem dX8_why_6 : decode cX8_why 6 = .ok (.invokestatic 83, 3) := by decide +kernel
theorem dX8_why_9 : decode cX8_why 9 = .ok (.ifCond .eq 18, 3) := by decide +kernel
theorem dX8_why_12 : decode cX8_why 12 = .ok (.aload_n 0, 1) := by decide +kernel
theorem dX8_why_13 : decode cX8_why 13 = .ok (.getfield 13, 3) := by decide +kernel
theorem dX8_why_16 : decode cX8_why 16 = .ok (.iload_n 2, 1) := by decide +kernel
theorem dX8_why_17 : decode cX8_why 17 = .ok (.invokestatic 181, 3) := by decide +kernel
theorem dX8_why_20 : decode cX8_why 20 = .ok (.ifCond .eq 7, 3) := by decide +kernel
theorem dX8_why_23 : decode cX8_why 23 = .ok (.iconst 0, 1) := by decide +kernel
theorem dX8_why_24 : decode cX8_why 24 = .ok (.goto 4, 3) := by decide +kernel
theorem dX8_why_27 : decode cX8_why 27 = .ok (.iconst 1, 1) := by decide +kernel
theorem dX8_why_28 : decode cX8_why 28 = .ok (.invokevirtual 125, 3) := by decide +kernel
theorem dX8_why_31 : decode cX8_why 31 = .ok (.ifCond .eq 5, 3) := by decide +kernel
theorem dX8_why_34 : decode cX8_why 34 = .ok (.iconst 0, 1) := by decide +kernel
theorem dX8_why_35 : decode cX8_why 35 = .ok (.ireturn, 1) := by decide +kernel
theorem dX8_why_36 : decode cX8_why 36 = .ok (.aload_n 0, 1) := by decide +kernel
theorem dX8_why_37 : decode cX8_why 37 = .ok (.getfield 13, 3) := by decide +kernel
theorem dX8_why_40 : decode cX8_why 40 = .ok (.iload_n 1, 1) := by decide +kernel
theorem dX8_why_41 : decode cX8_why 41 = .ok (.iload_n 2, 1) := by decide +kernel
theorem dX8_why_42 : decode cX8_why 42 = .ok (.invokestatic 56, 3) := by decide +kernel
theorem dX8_why_45 : decode cX8_why 45 = .ok (.ifCond .ne 5, 3) := by decide +kernel
theorem dX8_why_48 : decode cX8_why 48 = .ok (.iconst 1, 1) := by decide +kernel
theorem dX8_why_49 : decode cX8_why 49 = .ok (.ireturn, 1) := by decide +kernel
theorem dX8_why_50 : decode cX8_why 50 = .ok (.aload_n 0, 1) := by decide +kernel
theorem dX8_why_51 : decode cX8_why 51 = .ok (.getfield 13, 3) := by decide +kernel
theorem dX8_why_54 : decode cX8_why 54 = .ok (.iload_n 1, 1) := by decide +kernel
theorem dX8_why_55 : decode cX8_why 55 = .ok (.iload_n 2, 1) := by decide +kernel
theorem dX8_why_56 : decode cX8_why 56 = .ok (.invokestatic 60, 3) := by decide +kernel
theorem dX8_why_59 : decode cX8_why 59 = .ok (.ifCond .ne 5, 3) := by decide +kernel
theorem dX8_why_62 : decode cX8_why 62 = .ok (.iconst 2, 1) := by decide +kernel
theorem dX8_why_63 : decode cX8_why 63 = .ok (.ireturn, 1) := by decide +kernel
theorem dX8_why_64 : decode cX8_why 64 = .ok (.aload_n 0, 1) := by decide +kernel
theorem dX8_why_65 : decode cX8_why 65 = .ok (.getfield 13, 3) := by decide +kernel
theorem dX8_why_68 : decode cX8_why 68 = .ok (.iload_n 1, 1) := by decide +kernel
theorem dX8_why_69 : decode cX8_why 69 = .ok (.iconst 0, 1) := by decide +kernel
theorem dX8_why_70 : decode cX8_why 70 = .ok (.invokestatic 66, 3) := by decide +kernel
theorem dX8_why_73 : decode cX8_why 73 = .ok (.aload_n 0, 1) := by decide +kernel
theorem dX8_why_74 : decode cX8_why 74 = .ok (.getfield 13, 3) := by decide +kernel
theorem dX8_why_77 : decode cX8_why 77 = .ok (.iload_n 2, 1) := by decide +kernel
theorem dX8_why_78 : decode cX8_why 78 = .ok (.iconst 1, 1) := by decide +kernel
theorem dX8_why_79 : decode cX8_why 79 = .ok (.invokestatic 45, 3) := by decide +kernel
theorem dX8_why_82 : decode cX8_why 82 = .ok (.invokestatic 41, 3) := by decide +kernel
theorem dX8_why_85 : decode cX8_why 85 = .ok (.ifCond .eq 5, 3) := by decide +kernel
theorem dX8_why_88 : decode cX8_why 88 = .ok (.iconst 3, 1) := by decide +kernel
theorem dX8_why_89 : decode cX8_why 89 = .ok (.ireturn, 1) := by decide +kernel
theorem dX8_why_90 : decode cX8_why 90 = .ok (.aload_n 0, 1) := by decide +kernel
theorem dX8_why_91 : decode cX8_why 91 = .ok (.getfield 13, 3) := by decide +kernel
theorem dX8_why_94 : decode cX8_why 94 = .ok (.iload_n 1, 1) := by decide +kernel
theorem dX8_why_95 : decode cX8_why 95 = .ok (.invokestatic 154, 3) := by decide +kernel
theorem dX8_why_98 : decode cX8_why 98 = .ok (.ifCond .ne 5, 3) := by decide +kernel
theorem dX8_why_101 : decode cX8_why 101 = .ok (.iconst 4, 1) := by decide +kernel
theorem dX8_why_102 : decode cX8_why 102 = .ok (.ireturn, 1) := by decide +kernel
theorem dX8_why_103 : decode cX8_why 103 = .ok (.aload_n 0, 1) := by decide +kernel
theorem dX8_why_104 : decode cX8_why 104 = .ok (.getfield 13, 3) := by decide +kernel
theorem dX8_why_107 : decode cX8_why 107 = .ok (.iload_n 1, 1) := by decide +kernel
theorem dX8_why_108 : decode cX8_why 108 = .ok (.invokestatic 76, 3) := by decide +kernel
theorem dX8_why_111 : decode cX8_why 111 = .ok (.istore_n 3, 1) := by decide +kernel
theorem dX8_why_112 : decode cX8_why 112 = .ok (.iload_n 3, 1) := by decide +kernel
theorem dX8_why_113 : decode cX8_why 113 = .ok (.iload_n 2, 1) := by decide +kernel
theorem dX8_why_114 : decode cX8_why 114 = .ok (.invokestatic 41, 3) := by decide +kernel
theorem dX8_why_117 : decode cX8_why 117 = .ok (.ifCond .eq 7, 3) := by decide +kernel
theorem dX8_why_120 : decode cX8_why 120 = .ok (.iconst 0, 1) := by decide +kernel
theorem dX8_why_121 : decode cX8_why 121 = .ok (.goto 32, 3) := by decide +kernel
theorem dX8_why_124 : decode cX8_why 124 = .ok (.aload_n 0, 1) := by decide +kernel
theorem dX8_why_125 : decode cX8_why 125 = .ok (.getfield 13, 3) := by decide +kernel
theorem dX8_why_128 : decode cX8_why 128 = .ok (.iload_n 3, 1) := by decide +kernel
theorem dX8_why_129 : decode cX8_why 129 = .ok (.invokestatic 52, 3) := by decide +kernel
theorem dX8_why_132 : decode cX8_why 132 = .ok (.aload_n 0, 1) := by decide +kernel
theorem dX8_why_133 : decode cX8_why 133 = .ok (.getfield 13, 3) := by decide +kernel
theorem dX8_why_136 : decode cX8_why 136 = .ok (.iload_n 2, 1) := by decide +kernel
theorem dX8_why_137 : decode cX8_why 137 = .ok (.iconst 1, 1) := by decide +kernel
theorem dX8_why_138 : decode cX8_why 138 = .ok (.invokestatic 45, 3) := by decide +kernel
theorem dX8_why_141 : decode cX8_why 141 = .ok (.invokestatic 41, 3) := by decide +kernel
theorem dX8_why_144 : decode cX8_why 144 = .ok (.ifCond .eq 7, 3) := by decide +kernel
theorem dX8_why_147 : decode cX8_why 147 = .ok (.iconst 5, 1) := by decide +kernel
theorem dX8_why_148 : decode cX8_why 148 = .ok (.goto 5, 3) := by decide +kernel
theorem dX8_why_151 : decode cX8_why 151 = .ok (.bipush 6, 2) := by decide +kernel
theorem dX8_why_153 : decode cX8_why 153 = .ok (.ireturn, 1) := by decide +kernel
set_option maxRecDepth 20000 in
theorem ggX8_price_X8_canShoot : GoodIn wsX8_price wsX8_canShoot := goodIn_r _ [4, 5, 6, 3, 7, 8, 9, 10, 11, 12, 13, 14, 15, 16, 17, 18, 19, 20, 21, 22, 23, 24, 25, 26, 27, 28, 29, 30, 31, 32, 33, 34, 35, 36, 37, 38, 39, 40, 41, 42, 43, 44, 45, 46, 47, 48, 49] (by decide +kernel) (by decide +kernel)
set_option maxRecDepth 20000 in
theorem gX8_price_X8_canShoot : GoodIn wsX8_price (va_wsS RX8 154 yX8_canShoot wsX8_canShoot) := goodIn_app (goodIn_of _ (by decide +kernel)) ggX8_price_X8_canShoot
set_option maxRecDepth 20000 in
theorem ggX8_price_X8_spent : GoodIn wsX8_price wsX8_spent := goodIn_r _ [52] (by decide +kernel) (by decide +kernel)
set_option maxRecDepth 20000 in
theorem gX8_price_X8_spent : GoodIn wsX8_price (va_wsS RX8 207 yX8_spent wsX8_spent) := goodIn_app (goodIn_of _ (by decide +kernel)) ggX8_price_X8_spent
set_option maxRecDepth 20000 in
theorem ggX8_price_X8_shootOn : GoodIn wsX8_price wsX8_shootOn := goodIn_r _ [55, 17, 18, 3, 19, 20, 21, 22, 11, 12, 13, 23, 24, 25, 26, 27, 28, 29, 30, 31, 32, 33, 34, 35, 36, 37, 38, 39, 40, 41, 42, 43, 44, 45, 46, 47, 48, 49, 56, 57, 58, 59, 60, 61] (by decide +kernel) (by decide +kernel)
set_option maxRecDepth 20000 in
theorem gX8_price_X8_shootOn : GoodIn wsX8_price (va_wsS RX8 157 yX8_shootOn wsX8_shootOn) := goodIn_app (goodIn_of _ (by decide +kernel)) ggX8_price_X8_shootOn
theorem dX8_price_0 : decode cX8_price 0 = .ok (.aload_n 0, 1) := by decide +kernel
theorem dX8_price_1 : decode cX8_price 1 = .ok (.iload_n 1, 1) := by decide +kernel
theorem dX8_price_2 : decode cX8_price 2 = .ok (.invokestatic 154, 3) := by decide +kernel
theorem dX8_price_5 : decode cX8_price 5 = .ok (.ifCond .ne 5, 3) := by decide +kernel
theorem dX8_price_8 : decode cX8_price 8 = .ok (.iconst (-1), 1) := by decide +kernel
theorem dX8_price_9 : decode cX8_price 9 = .ok (.ireturn, 1) := by decide +kernel
theorem dX8_price_10 : decode cX8_price 10 = .ok (.aload_n 0, 1) := by decide +kernel
theorem dX8_price_11 : decode cX8_price 11 = .ok (.invokestatic 207, 3) := by decide +kernel
theorem dX8_price_14 : decode cX8_price 14 = .ok (.istore_n 2, 1) := by decide +kernel
theorem dX8_price_15 : decode cX8_price 15 = .ok (.aload_n 0, 1) := by decide +kernel
theorem dX8_price_16 : decode cX8_price 16 = .ok (.iload_n 1, 1) := by decide +kernel
theorem dX8_price_17 : decode cX8_price 17 = .ok (.invokestatic 157, 3) := by decide +kernel
theorem dX8_price_20 : decode cX8_price 20 = .ok (.pop, 1) := by decide +kernel
theorem dX8_price_21 : decode cX8_price 21 = .ok (.aload_n 0, 1) := by decide +kernel
theorem dX8_price_22 : decode cX8_price 22 = .ok (.invokestatic 207, 3) := by decide +kernel
theorem dX8_price_25 : decode cX8_price 25 = .ok (.iload_n 2, 1) := by decide +kernel
theorem dX8_price_26 : decode cX8_price 26 = .ok (.isub, 1) := by decide +kernel
theorem dX8_price_27 : decode cX8_price 27 = .ok (.ireturn, 1) := by decide +kernel
set_option maxRecDepth 20000 in
theorem ggX8_cheapest_X8_copyState : GoodIn wsX8_cheapest wsX8_copyState := goodIn_r _ [7] (by decide +kernel) (by decide +kernel)
set_option maxRecDepth 20000 in
theorem gX8_cheapest_X8_copyState : GoodIn wsX8_cheapest (va_wsS RX8 169 yX8_copyState wsX8_copyState) := goodIn_app (goodIn_of _ (by decide +kernel)) ggX8_cheapest_X8_copyState
set_option maxRecDepth 20000 in
theorem ggX8_cheapest_X8_price : GoodIn wsX8_cheapest wsX8_price := goodIn_r _ [10, 11, 12, 6, 13, 14, 15, 16, 17, 18, 19, 20, 21, 22, 23, 24, 25, 26, 27, 28, 29, 30, 31, 32, 33, 34, 35, 36, 37, 38, 39, 40, 41, 42, 43, 44, 45, 46, 47, 48, 49, 50, 51, 52, 53, 54, 55, 56, 57, 58, 59, 60, 61, 62, 63, 64, 65, 66, 67, 68, 69, 70] (by decide +kernel) (by decide +kernel)
set_option maxRecDepth 20000 in
theorem gX8_cheapest_X8_price : GoodIn wsX8_cheapest (va_wsS RX8 210 yX8_price wsX8_price) := goodIn_app (goodIn_of _ (by decide +kernel)) ggX8_cheapest_X8_price
theorem dX8_cheapest_0 : decode cX8_cheapest 0 = .ok (.aload_n 0, 1) := by decide +kernel
theorem dX8_cheapest_1 : decode cX8_cheapest 1 = .ok (.iconst 0, 1) := by decide +kernel
theorem dX8_cheapest_2 : decode cX8_cheapest 2 = .ok (.putfield 33, 3) := by decide +kernel
theorem dX8_cheapest_5 : decode cX8_cheapest 5 = .ok (.iconst (-1), 1) := by decide +kernel
theorem dX8_cheapest_6 : decode cX8_cheapest 6 = .ok (.istore_n 1, 1) := by decide +kernel
theorem dX8_cheapest_7 : decode cX8_cheapest 7 = .ok (.iconst 0, 1) := by decide +kernel
theorem dX8_cheapest_8 : decode cX8_cheapest 8 = .ok (.istore_n 2, 1) := by decide +kernel
theorem dX8_cheapest_9 : decode cX8_cheapest 9 = .ok (.iconst 0, 1) := by decide +kernel
theorem dX8_cheapest_10 : decode cX8_cheapest 10 = .ok (.istore_n 3, 1) := by decide +kernel
theorem dX8_cheapest_11 : decode cX8_cheapest 11 = .ok (.iload_n 3, 1) := by decide +kernel
theorem dX8_cheapest_12 : decode cX8_cheapest 12 = .ok (.aload_n 0, 1) := by decide +kernel
theorem dX8_cheapest_13 : decode cX8_cheapest 13 = .ok (.getfield 13, 3) := by decide +kernel
theorem dX8_cheapest_16 : decode cX8_cheapest 16 = .ok (.iconst 1, 1) := by decide +kernel
theorem dX8_cheapest_17 : decode cX8_cheapest 17 = .ok (.iaload, 1) := by decide +kernel
theorem dX8_cheapest_18 : decode cX8_cheapest 18 = .ok (.if_icmp .ge 79, 3) := by decide +kernel
theorem dX8_cheapest_21 : decode cX8_cheapest 21 = .ok (.aload_n 0, 1) := by decide +kernel
theorem dX8_cheapest_22 : decode cX8_cheapest 22 = .ok (.getfield 13, 3) := by decide +kernel
theorem dX8_cheapest_25 : decode cX8_cheapest 25 = .ok (.iconst 0, 1) := by decide +kernel
theorem dX8_cheapest_26 : decode cX8_cheapest 26 = .ok (.aload_n 0, 1) := by decide +kernel
theorem dX8_cheapest_27 : decode cX8_cheapest 27 = .ok (.getfield 16, 3) := by decide +kernel
theorem dX8_cheapest_30 : decode cX8_cheapest 30 = .ok (.iconst 0, 1) := by decide +kernel
theorem dX8_cheapest_31 : decode cX8_cheapest 31 = .ok (.invokestatic 169, 3) := by decide +kernel
theorem dX8_cheapest_34 : decode cX8_cheapest 34 = .ok (.aload_n 0, 1) := by decide +kernel
theorem dX8_cheapest_35 : decode cX8_cheapest 35 = .ok (.getfield 16, 3) := by decide +kernel
theorem dX8_cheapest_38 : decode cX8_cheapest 38 = .ok (.iload_n 3, 1) := by decide +kernel
theorem dX8_cheapest_39 : decode cX8_cheapest 39 = .ok (.invokestatic 210, 3) := by decide +kernel
theorem dX8_cheapest_42 : decode cX8_cheapest 42 = .ok (.istore 4, 2) := by decide +kernel
theorem dX8_cheapest_44 : decode cX8_cheapest 44 = .ok (.iload 4, 2) := by decide +kernel
theorem dX8_cheapest_46 : decode cX8_cheapest 46 = .ok (.iconst (-1), 1) := by decide +kernel
theorem dX8_cheapest_47 : decode cX8_cheapest 47 = .ok (.if_icmp .eq 18, 3) := by decide +kernel
theorem dX8_cheapest_50 : decode cX8_cheapest 50 = .ok (.iload_n 1, 1) := by decide +kernel
theorem dX8_cheapest_51 : decode cX8_cheapest 51 = .ok (.iconst (-1), 1) := by decide +kernel
theorem dX8_cheapest_52 : decode cX8_cheapest 52 = .ok (.if_icmp .eq 9, 3) := by decide +kernel
theorem dX8_cheapest_55 : decode cX8_cheapest 55 = .ok (.iload 4, 2) := by decide +kernel
theorem dX8_cheapest_57 : decode cX8_cheapest 57 = .ok (.iload_n 2, 1) := by decide +kernel
theorem dX8_cheapest_58 : decode cX8_cheapest 58 = .ok (.if_icmp .ge 7, 3) := by decide +kernel
theorem dX8_cheapest_61 : decode cX8_cheapest 61 = .ok (.iconst 1, 1) := by decide +kernel
theorem dX8_cheapest_62 : decode cX8_cheapest 62 = .ok (.goto 4, 3) := by decide +kernel
theorem dX8_cheapest_65 : decode cX8_cheapest 65 = .ok (.iconst 0, 1) := by decide +kernel
theorem dX8_cheapest_66 : decode cX8_cheapest 66 = .ok (.istore 5, 2) := by decide +kernel
theorem dX8_cheapest_68 : decode cX8_cheapest 68 = .ok (.iload 5, 2) := by decide +kernel
theorem dX8_cheapest_70 : decode cX8_cheapest 70 = .ok (.ifCond .eq 7, 3) := by decide +kernel
theorem dX8_cheapest_73 : decode cX8_cheapest 73 = .ok (.iload_n 3, 1) := by decide +kernel
theorem dX8_cheapest_74 : decode cX8_cheapest 74 = .ok (.goto 4, 3) := by decide +kernel
theorem dX8_cheapest_77 : decode cX8_cheapest 77 = .ok (.iload_n 1, 1) := by decide +kernel
theorem dX8_cheapest_78 : decode cX8_cheapest 78 = .ok (.istore_n 1, 1) := by decide +kernel
theorem dX8_cheapest_79 : decode cX8_cheapest 79 = .ok (.iload 5, 2) := by decide +kernel
theorem dX8_cheapest_81 : decode cX8_cheapest 81 = .ok (.ifCond .eq 8, 3) := by decide +kernel
theorem dX8_cheapest_84 : decode cX8_cheapest 84 = .ok (.iload 4, 2) := by decide +kernel
theorem dX8_cheapest_86 : decode cX8_cheapest 86 = .ok (.goto 4, 3) := by decide +kernel
theorem dX8_cheapest_89 : decode cX8_cheapest 89 = .ok (.iload_n 2, 1) := by decide +kernel
theorem dX8_cheapest_90 : decode cX8_cheapest 90 = .ok (.istore_n 2, 1) := by decide +kernel
theorem dX8_cheapest_91 : decode cX8_cheapest 91 = .ok (.iinc 3 1, 3) := by decide +kernel
theorem dX8_cheapest_94 : decode cX8_cheapest 94 = .ok (.goto (-83), 3) := by decide +kernel
theorem dX8_cheapest_97 : decode cX8_cheapest 97 = .ok (.iload_n 1, 1) := by decide +kernel
theorem dX8_cheapest_98 : decode cX8_cheapest 98 = .ok (.ireturn, 1) := by decide +kernel
set_option maxRecDepth 20000 in
theorem ggX8_lacks_X8_isScene : GoodIn wsX8_lacks wsX8_isScene := goodIn_r _ [5, 6, 7, 4, 8] (by decide +kernel) (by decide +kernel)
set_option maxRecDepth 20000 in
theorem gX8_lacks_X8_isScene : GoodIn wsX8_lacks (va_wsS RX8 83 yX8_isScene wsX8_isScene) := goodIn_app (goodIn_of _ (by decide +kernel)) ggX8_lacks_X8_isScene
set_option maxRecDepth 20000 in
theorem ggX8_lacks_X8_refused : GoodIn wsX8_lacks wsX8_refused := goodIn_r _ [12, 13, 53, 54, 55, 56, 57, 58, 59, 60, 61, 62, 63] (by decide +kernel) (by decide +kernel)
set_option maxRecDepth 20000 in
theorem gX8_lacks_X8_refused : GoodIn wsX8_lacks (wsV RX8 125 RX8 yX8_refused wsX8_refused) := goodIn_app (goodIn_of _ (by decide +kernel)) ggX8_lacks_X8_refused
set_option maxRecDepth 20000 in
theorem ggX8_lacks_X8_lacking : GoodIn wsX8_lacks wsX8_lacking := goodIn_r _ [16, 17, 18, 4, 19, 20, 21, 22, 23, 24, 25, 26, 27, 28, 29, 30, 31, 32, 33, 34, 35, 36, 37, 38, 39, 40, 41, 42, 43, 44, 45, 46, 47, 48, 49, 50, 51, 52] (by decide +kernel) (by decide +kernel)
set_option maxRecDepth 20000 in
theorem gX8_lacks_X8_lacking : GoodIn wsX8_lacks (va_wsS RX8 87 yX8_lacking wsX8_lacking) := goodIn_app (goodIn_of _ (by decide +kernel)) ggX8_lacks_X8_lacking
theorem dX8_lacks_0 : decode cX8_lacks 0 = .ok (.aload_n 0, 1) := by decide +kernel
theorem dX8_lacks_1 : decode cX8_lacks 1 = .ok (.aload_n 0, 1) := by decide +kernel
theorem dX8_lacks_2 : decode cX8_lacks 2 = .ok (.getfield 13, 3) := by decide +kernel
theorem dX8_lacks_5 : decode cX8_lacks 5 = .ok (.iload_n 1, 1) := by decide +kernel
theorem dX8_lacks_6 : decode cX8_lacks 6 = .ok (.invokestatic 83, 3) := by decide +kernel
theorem dX8_lacks_9 : decode cX8_lacks 9 = .ok (.ifCond .eq 7, 3) := by decide +kernel
theorem dX8_lacks_12 : decode cX8_lacks 12 = .ok (.iconst 0, 1) := by decide +kernel
theorem dX8_lacks_13 : decode cX8_lacks 13 = .ok (.goto 4, 3) := by decide +kernel
theorem dX8_lacks_16 : decode cX8_lacks 16 = .ok (.iconst 1, 1) := by decide +kernel
theorem dX8_lacks_17 : decode cX8_lacks 17 = .ok (.invokevirtual 125, 3) := by decide +kernel
theorem dX8_lacks_20 : decode cX8_lacks 20 = .ok (.ifCond .eq 5, 3) := by decide +kernel
theorem dX8_lacks_23 : decode cX8_lacks 23 = .ok (.iconst 0, 1) := by decide +kernel
theorem dX8_lacks_24 : decode cX8_lacks 24 = .ok (.ireturn, 1) := by decide +kernel
theorem dX8_lacks_25 : decode cX8_lacks 25 = .ok (.aload_n 0, 1) := by decide +kernel
theorem dX8_lacks_26 : decode cX8_lacks 26 = .ok (.getfield 13, 3) := by decide +kernel
theorem dX8_lacks_29 : decode cX8_lacks 29 = .ok (.iload_n 1, 1) := by decide +kernel
theorem dX8_lacks_30 : decode cX8_lacks 30 = .ok (.invokestatic 87, 3) := by decide +kernel
theorem dX8_lacks_33 : decode cX8_lacks 33 = .ok (.ireturn, 1) := by decide +kernel
set_option maxRecDepth 20000 in
theorem ggX8_both_X8_copyState : GoodIn wsX8_both wsX8_copyState := goodIn_r _ [6] (by decide +kernel) (by decide +kernel)
set_option maxRecDepth 20000 in
theorem gX8_both_X8_copyState : GoodIn wsX8_both (va_wsS RX8 169 yX8_copyState wsX8_copyState) := goodIn_app (goodIn_of _ (by decide +kernel)) ggX8_both_X8_copyState
set_option maxRecDepth 20000 in
theorem ggX8_both_X8_price : GoodIn wsX8_both wsX8_price := goodIn_r _ [9, 10, 11, 5, 12, 13, 14, 15, 16, 17, 18, 19, 20, 21, 22, 23, 24, 25, 26, 27, 28, 29, 30, 31, 32, 33, 34, 35, 36, 37, 38, 39, 40, 41, 42, 43, 44, 45, 46, 47, 48, 49, 50, 51, 52, 53, 54, 55, 56, 57, 58, 59, 60, 61, 62, 63, 64, 65, 66, 67, 68, 69] (by decide +kernel) (by decide +kernel)
set_option maxRecDepth 20000 in
theorem gX8_both_X8_price : GoodIn wsX8_both (va_wsS RX8 210 yX8_price wsX8_price) := goodIn_app (goodIn_of _ (by decide +kernel)) ggX8_both_X8_price
theorem dX8_both_0 : decode cX8_both 0 = .ok (.aload_n 0, 1) := by decide +kernel
theorem dX8_both_1 : decode cX8_both 1 = .ok (.getfield 13, 3) := by decide +kernel
theorem dX8_both_4 : decode cX8_both 4 = .ok (.iconst 0, 1) := by decide +kernel
theorem dX8_both_5 : decode cX8_both 5 = .ok (.aload_n 0, 1) := by decide +kernel
theorem dX8_both_6 : decode cX8_both 6 = .ok (.getfield 16, 3) := by decide +kernel
theorem dX8_both_9 : decode cX8_both 9 = .ok (.iconst 0, 1) := by decide +kernel
theorem dX8_both_10 : decode cX8_both 10 = .ok (.invokestatic 169, 3) := by decide +kernel
theorem dX8_both_13 : decode cX8_both 13 = .ok (.aload_n 0, 1) := by decide +kernel
theorem dX8_both_14 : decode cX8_both 14 = .ok (.getfield 16, 3) := by decide +kernel
theorem dX8_both_17 : decode cX8_both 17 = .ok (.iload_n 1, 1) := by decide +kernel
theorem dX8_both_18 : decode cX8_both 18 = .ok (.invokestatic 210, 3) := by decide +kernel
theorem dX8_both_21 : decode cX8_both 21 = .ok (.istore_n 3, 1) := by decide +kernel
theorem dX8_both_22 : decode cX8_both 22 = .ok (.iload_n 3, 1) := by decide +kernel
theorem dX8_both_23 : decode cX8_both 23 = .ok (.iconst (-1), 1) := by decide +kernel
theorem dX8_both_24 : decode cX8_both 24 = .ok (.if_icmp .ne 7, 3) := by decide +kernel
theorem dX8_both_27 : decode cX8_both 27 = .ok (.iconst (-1), 1) := by decide +kernel
theorem dX8_both_28 : decode cX8_both 28 = .ok (.goto 11, 3) := by decide +kernel
theorem dX8_both_31 : decode cX8_both 31 = .ok (.aload_n 0, 1) := by decide +kernel
theorem dX8_both_32 : decode cX8_both 32 = .ok (.getfield 16, 3) := by decide +kernel
theorem dX8_both_35 : decode cX8_both 35 = .ok (.iload_n 2, 1) := by decide +kernel
theorem dX8_both_36 : decode cX8_both 36 = .ok (.invokestatic 210, 3) := by decide +kernel
theorem dX8_both_39 : decode cX8_both 39 = .ok (.istore 4, 2) := by decide +kernel
theorem dX8_both_41 : decode cX8_both 41 = .ok (.iload 4, 2) := by decide +kernel
theorem dX8_both_43 : decode cX8_both 43 = .ok (.iconst (-1), 1) := by decide +kernel
theorem dX8_both_44 : decode cX8_both 44 = .ok (.if_icmp .ne 7, 3) := by decide +kernel
theorem dX8_both_47 : decode cX8_both 47 = .ok (.iconst (-1), 1) := by decide +kernel
theorem dX8_both_48 : decode cX8_both 48 = .ok (.goto 7, 3) := by decide +kernel
theorem dX8_both_51 : decode cX8_both 51 = .ok (.iload_n 3, 1) := by decide +kernel
theorem dX8_both_52 : decode cX8_both 52 = .ok (.iload 4, 2) := by decide +kernel
theorem dX8_both_54 : decode cX8_both 54 = .ok (.iadd, 1) := by decide +kernel
theorem dX8_both_55 : decode cX8_both 55 = .ok (.ireturn, 1) := by decide +kernel
set_option maxRecDepth 20000 in
theorem ggX8_order_X8_isScene : GoodIn wsX8_order wsX8_isScene := goodIn_r _ [5, 6, 7, 4, 8] (by decide +kernel) (by decide +kernel)
set_option maxRecDepth 20000 in
theorem gX8_order_X8_isScene : GoodIn wsX8_order (va_wsS RX8 83 yX8_isScene wsX8_isScene) := goodIn_app (goodIn_of _ (by decide +kernel)) ggX8_order_X8_isScene
set_option maxRecDepth 20000 in
theorem ggX8_order_X8_refused : GoodIn wsX8_order wsX8_refused := goodIn_r _ [12, 13, 79, 80, 81, 82, 83, 84, 85, 86, 87, 88, 89] (by decide +kernel) (by decide +kernel)
set_option maxRecDepth 20000 in
theorem gX8_order_X8_refused : GoodIn wsX8_order (wsV RX8 125 RX8 yX8_refused wsX8_refused) := goodIn_app (goodIn_of _ (by decide +kernel)) ggX8_order_X8_refused
set_option maxRecDepth 20000 in
theorem ggX8_order_X8_both : GoodIn wsX8_order wsX8_both := goodIn_r _ [17, 1, 18, 19, 20, 4, 21, 22, 23, 24, 25, 26, 27, 2, 3, 5, 6, 7, 8, 28, 29, 30, 31, 32, 33, 34, 35, 36, 37, 38, 39, 40, 41, 42, 43, 44, 45, 46, 47, 48, 49, 50, 51, 52, 53, 54, 55, 56, 57, 58, 59, 60, 61, 62, 63, 64, 65, 66, 67, 68, 69, 70, 71, 72, 73, 74, 75, 76, 77, 78, 79, 80, 81, 82, 83, 84, 85, 86, 87, 88, 89] (by decide +kernel) (by decide +kernel)
set_option maxRecDepth 20000 in
theorem gX8_order_X8_both : GoodIn wsX8_order (wsV RX8 213 RX8 yX8_both wsX8_both) := goodIn_app (goodIn_of _ (by decide +kernel)) ggX8_order_X8_both
theorem dX8_order_0 : decode cX8_order 0 = .ok (.aload_n 0, 1) := by decide +kernel
theorem dX8_order_1 : decode cX8_order 1 = .ok (.aload_n 0, 1) := by decide +kernel
theorem dX8_order_2 : decode cX8_order 2 = .ok (.getfield 13, 3) := by decide +kernel
theorem dX8_order_5 : decode cX8_order 5 = .ok (.iload_n 1, 1) := by decide +kernel
theorem dX8_order_6 : decode cX8_order 6 = .ok (.invokestatic 83, 3) := by decide +kernel
theorem dX8_order_9 : decode cX8_order 9 = .ok (.ifCond .eq 14, 3) := by decide +kernel
theorem dX8_order_12 : decode cX8_order 12 = .ok (.aload_n 0, 1) := by decide +kernel
theorem dX8_order_13 : decode cX8_order 13 = .ok (.getfield 13, 3) := by decide +kernel
theorem dX8_order_16 : decode cX8_order 16 = .ok (.iload_n 2, 1) := by decide +kernel
theorem dX8_order_17 : decode cX8_order 17 = .ok (.invokestatic 83, 3) := by decide +kernel
theorem dX8_order_20 : decode cX8_order 20 = .ok (.ifCond .ne 7, 3) := by decide +kernel
theorem dX8_order_23 : decode cX8_order 23 = .ok (.iconst 1, 1) := by decide +kernel
theorem dX8_order_24 : decode cX8_order 24 = .ok (.goto 13, 3) := by decide +kernel
theorem dX8_order_27 : decode cX8_order 27 = .ok (.iload_n 1, 1) := by decide +kernel
theorem dX8_order_28 : decode cX8_order 28 = .ok (.iload_n 2, 1) := by decide +kernel
theorem dX8_order_29 : decode cX8_order 29 = .ok (.if_icmp .ne 7, 3) := by decide +kernel
theorem dX8_order_32 : decode cX8_order 32 = .ok (.iconst 2, 1) := by decide +kernel
theorem dX8_order_33 : decode cX8_order 33 = .ok (.goto 4, 3) := by decide +kernel
theorem dX8_order_36 : decode cX8_order 36 = .ok (.iconst 0, 1) := by decide +kernel
theorem dX8_order_37 : decode cX8_order 37 = .ok (.invokevirtual 125, 3) := by decide +kernel
theorem dX8_order_40 : decode cX8_order 40 = .ok (.ifCond .eq 5, 3) := by decide +kernel
theorem dX8_order_43 : decode cX8_order 43 = .ok (.iconst 0, 1) := by decide +kernel
theorem dX8_order_44 : decode cX8_order 44 = .ok (.ireturn, 1) := by decide +kernel
theorem dX8_order_45 : decode cX8_order 45 = .ok (.aload_n 0, 1) := by decide +kernel
theorem dX8_order_46 : decode cX8_order 46 = .ok (.iload_n 1, 1) := by decide +kernel
theorem dX8_order_47 : decode cX8_order 47 = .ok (.iload_n 2, 1) := by decide +kernel
theorem dX8_order_48 : decode cX8_order 48 = .ok (.invokevirtual 213, 3) := by decide +kernel
theorem dX8_order_51 : decode cX8_order 51 = .ok (.istore_n 3, 1) := by decide +kernel
theorem dX8_order_52 : decode cX8_order 52 = .ok (.aload_n 0, 1) := by decide +kernel
theorem dX8_order_53 : decode cX8_order 53 = .ok (.iload_n 2, 1) := by decide +kernel
theorem dX8_order_54 : decode cX8_order 54 = .ok (.iload_n 1, 1) := by decide +kernel
theorem dX8_order_55 : decode cX8_order 55 = .ok (.invokevirtual 213, 3) := by decide +kernel
theorem dX8_order_58 : decode cX8_order 58 = .ok (.istore 4, 2) := by decide +kernel
theorem dX8_order_60 : decode cX8_order 60 = .ok (.iload_n 3, 1) := by decide +kernel
theorem dX8_order_61 : decode cX8_order 61 = .ok (.iconst (-1), 1) := by decide +kernel
theorem dX8_order_62 : decode cX8_order 62 = .ok (.if_icmp .eq 9, 3) := by decide +kernel
theorem dX8_order_65 : decode cX8_order 65 = .ok (.iload 4, 2) := by decide +kernel
theorem dX8_order_67 : decode cX8_order 67 = .ok (.iconst (-1), 1) := by decide +kernel
theorem dX8_order_68 : decode cX8_order 68 = .ok (.if_icmp .ne 7, 3) := by decide +kernel
theorem dX8_order_71 : decode cX8_order 71 = .ok (.iconst (-1), 1) := by decide +kernel
theorem dX8_order_72 : decode cX8_order 72 = .ok (.goto 24, 3) := by decide +kernel
theorem dX8_order_75 : decode cX8_order 75 = .ok (.iload_n 3, 1) := by decide +kernel
theorem dX8_order_76 : decode cX8_order 76 = .ok (.iload 4, 2) := by decide +kernel
theorem dX8_order_78 : decode cX8_order 78 = .ok (.if_icmp .ge 7, 3) := by decide +kernel
theorem dX8_order_81 : decode cX8_order 81 = .ok (.iconst 0, 1) := by decide +kernel
theorem dX8_order_82 : decode cX8_order 82 = .ok (.goto 14, 3) := by decide +kernel
theorem dX8_order_85 : decode cX8_order 85 = .ok (.iload_n 3, 1) := by decide +kernel
theorem dX8_order_86 : decode cX8_order 86 = .ok (.iload 4, 2) := by decide +kernel
theorem dX8_order_88 : decode cX8_order 88 = .ok (.if_icmp .le 7, 3) := by decide +kernel
theorem dX8_order_91 : decode cX8_order 91 = .ok (.iconst 1, 1) := by decide +kernel
theorem dX8_order_92 : decode cX8_order 92 = .ok (.goto 4, 3) := by decide +kernel
theorem dX8_order_95 : decode cX8_order 95 = .ok (.iconst 2, 1) := by decide +kernel
theorem dX8_order_96 : decode cX8_order 96 = .ok (.ireturn, 1) := by decide +kernel
set_option maxRecDepth 20000 in
theorem ggX8_instead_X8_canReplace : GoodIn wsX8_instead wsX8_canReplace := goodIn_r _ [4, 5, 6, 3, 7, 8, 9, 10, 11, 12, 13, 14, 15, 16, 17, 18, 19, 20, 21, 22] (by decide +kernel) (by decide +kernel)
set_option maxRecDepth 20000 in
theorem gX8_instead_X8_canReplace : GoodIn wsX8_instead (va_wsS RX8 196 yX8_canReplace wsX8_canReplace) := goodIn_app (goodIn_of _ (by decide +kernel)) ggX8_instead_X8_canReplace
theorem dX8_instead_0 : decode cX8_instead 0 = .ok (.iconst 0, 1) := by decide +kernel
theorem dX8_instead_1 : decode cX8_instead 1 = .ok (.istore_n 3, 1) := by decide +kernel
theorem dX8_instead_2 : decode cX8_instead 2 = .ok (.iload_n 3, 1) := by decide +kernel
theorem dX8_instead_3 : decode cX8_instead 3 = .ok (.aload_n 0, 1) := by decide +kernel
theorem dX8_instead_4 : decode cX8_instead 4 = .ok (.iconst 0, 1) := by decide +kernel
theorem dX8_instead_5 : decode cX8_instead 5 = .ok (.iaload, 1) := by decide +kernel
theorem dX8_instead_6 : decode cX8_instead 6 = .ok (.if_icmp .ge 21, 3) := by decide +kernel
theorem dX8_instead_9 : decode cX8_instead 9 = .ok (.aload_n 0, 1) := by decide +kernel
theorem dX8_instead_10 : decode cX8_instead 10 = .ok (.iload_n 1, 1) := by decide +kernel
theorem dX8_instead_11 : decode cX8_instead 11 = .ok (.iload_n 2, 1) := by decide +kernel
theorem dX8_instead_12 : decode cX8_instead 12 = .ok (.iload_n 3, 1) := by decide +kernel
theorem dX8_instead_13 : decode cX8_instead 13 = .ok (.invokestatic 196, 3) := by decide +kernel
theorem dX8_instead_16 : decode cX8_instead 16 = .ok (.ifCond .eq 5, 3) := by decide +kernel
theorem dX8_instead_19 : decode cX8_instead 19 = .ok (.iload_n 3, 1) := by decide +kernel
theorem dX8_instead_20 : decode cX8_instead 20 = .ok (.ireturn, 1) := by decide +kernel
theorem dX8_instead_21 : decode cX8_instead 21 = .ok (.iinc 3 1, 3) := by decide +kernel
theorem dX8_instead_24 : decode cX8_instead 24 = .ok (.goto (-22), 3) := by decide +kernel
theorem dX8_instead_27 : decode cX8_instead 27 = .ok (.iconst (-1), 1) := by decide +kernel
theorem dX8_instead_28 : decode cX8_instead 28 = .ok (.ireturn, 1) := by decide +kernel
set_option maxRecDepth 20000 in
theorem ggX8_command_X8_canShoot : GoodIn wsX8_command wsX8_canShoot := goodIn_r _ [5, 6, 7, 4, 8, 9, 10, 11, 12, 13, 14, 15, 16, 17, 18, 19, 20, 21, 22, 23, 24, 25, 26, 27, 28, 29, 30, 31, 32, 33, 34, 35, 36, 37, 38, 39, 40, 41, 42, 43, 44, 45, 46, 47, 48, 49, 50] (by decide +kernel) (by decide +kernel)
set_option maxRecDepth 20000 in
theorem gX8_command_X8_canShoot : GoodIn wsX8_command (va_wsS RX8 154 yX8_canShoot wsX8_canShoot) := goodIn_app (goodIn_of _ (by decide +kernel)) ggX8_command_X8_canShoot
set_option maxRecDepth 20000 in
theorem ggX8_command_X8_shootOn : GoodIn wsX8_command wsX8_shootOn := goodIn_r _ [53, 18, 19, 4, 20, 21, 22, 23, 12, 13, 14, 24, 25, 26, 27, 28, 29, 30, 31, 32, 33, 34, 35, 36, 37, 38, 39, 40, 41, 42, 43, 44, 45, 46, 47, 48, 49, 50, 54, 55, 56, 57, 58, 59] (by decide +kernel) (by decide +kernel)
set_option maxRecDepth 20000 in
theorem gX8_command_X8_shootOn : GoodIn wsX8_command (va_wsS RX8 157 yX8_shootOn wsX8_shootOn) := goodIn_app (goodIn_of _ (by decide +kernel)) ggX8_command_X8_shootOn
set_option maxRecDepth 20000 in
theorem ggX8_command_X8_mealOn : GoodIn wsX8_command wsX8_mealOn := goodIn_r _ [62, 30, 31, 4, 32, 57, 58, 59] (by decide +kernel) (by decide +kernel)
set_option maxRecDepth 20000 in
theorem gX8_command_X8_mealOn : GoodIn wsX8_command (va_wsS RX8 112 yX8_mealOn wsX8_mealOn) := goodIn_app (goodIn_of _ (by decide +kernel)) ggX8_command_X8_mealOn
set_option maxRecDepth 20000 in
theorem ggX8_command_X8_nextOn : GoodIn wsX8_command wsX8_nextOn := goodIn_r _ [65, 60, 61, 4, 62, 30, 31, 32, 57, 58, 59] (by decide +kernel) (by decide +kernel)
set_option maxRecDepth 20000 in
theorem gX8_command_X8_nextOn : GoodIn wsX8_command (va_wsS RX8 160 yX8_nextOn wsX8_nextOn) := goodIn_app (goodIn_of _ (by decide +kernel)) ggX8_command_X8_nextOn
set_option maxRecDepth 20000 in
theorem ggX8_command_X8_isScene : GoodIn wsX8_command wsX8_isScene := goodIn_r _ [8, 9, 10, 4, 11] (by decide +kernel) (by decide +kernel)
set_option maxRecDepth 20000 in
theorem gX8_command_X8_isScene : GoodIn wsX8_command (va_wsS RX8 83 yX8_isScene wsX8_isScene) := goodIn_app (goodIn_of _ (by decide +kernel)) ggX8_command_X8_isScene
set_option maxRecDepth 20000 in
theorem ggX8_command_X8_isExtra : GoodIn wsX8_command wsX8_isExtra := goodIn_r _ [68, 9, 10, 4, 11] (by decide +kernel) (by decide +kernel)
set_option maxRecDepth 20000 in
theorem gX8_command_X8_isExtra : GoodIn wsX8_command (va_wsS RX8 181 yX8_isExtra wsX8_isExtra) := goodIn_app (goodIn_of _ (by decide +kernel)) ggX8_command_X8_isExtra
set_option maxRecDepth 20000 in
theorem ggX8_command_X8_instead : GoodIn wsX8_command wsX8_instead := goodIn_r _ [71, 72, 73, 4, 74, 12, 13, 14, 27, 28, 29, 39, 40, 41, 30, 31, 32, 24, 25, 26, 21, 22, 23] (by decide +kernel) (by decide +kernel)
set_option maxRecDepth 20000 in
theorem gX8_command_X8_instead : GoodIn wsX8_command (va_wsS RX8 217 yX8_instead wsX8_instead) := goodIn_app (goodIn_of _ (by decide +kernel)) ggX8_command_X8_instead
set_option maxRecDepth 20000 in
theorem ggX8_command_X8_replaceOn : GoodIn wsX8_command wsX8_replaceOn := goodIn_r _ [77, 12, 13, 4, 14] (by decide +kernel) (by decide +kernel)
set_option maxRecDepth 20000 in
theorem gX8_command_X8_replaceOn : GoodIn wsX8_command (va_wsS RX8 200 yX8_replaceOn wsX8_replaceOn) := goodIn_app (goodIn_of _ (by decide +kernel)) ggX8_command_X8_replaceOn
set_option maxRecDepth 20000 in
theorem ggX8_command_X8_isSetting : GoodIn wsX8_command wsX8_isSetting := goodIn_r _ [80, 81, 82, 83, 9, 10, 4, 11] (by decide +kernel) (by decide +kernel)
set_option maxRecDepth 20000 in
theorem gX8_command_X8_isSetting : GoodIn wsX8_command (va_wsS RX8 204 yX8_isSetting wsX8_isSetting) := goodIn_app (goodIn_of _ (by decide +kernel)) ggX8_command_X8_isSetting
set_option maxRecDepth 20000 in
theorem ggX8_command_X8_told : GoodIn wsX8_command wsX8_told := goodIn_r _ [14] (by decide +kernel) (by decide +kernel)
set_option maxRecDepth 20000 in
theorem gX8_command_X8_told : GoodIn wsX8_command (va_wsS RX8 49 yX8_told wsX8_told) := goodIn_app (goodIn_of _ (by decide +kernel)) ggX8_command_X8_told
set_option maxRecDepth 20000 in
theorem ggX8_command_X8_has : GoodIn wsX8_command wsX8_has := goodIn_r _ [29] (by decide +kernel) (by decide +kernel)
set_option maxRecDepth 20000 in
theorem gX8_command_X8_has : GoodIn wsX8_command (va_wsS RX8 41 yX8_has wsX8_has) := goodIn_app (goodIn_of _ (by decide +kernel)) ggX8_command_X8_has
set_option maxRecDepth 20000 in
theorem ggX8_command_X8_of : GoodIn wsX8_command wsX8_of := goodIn_r _ [32] (by decide +kernel) (by decide +kernel)
set_option maxRecDepth 20000 in
theorem gX8_command_X8_of : GoodIn wsX8_command (va_wsS RX8 45 yX8_of wsX8_of) := goodIn_app (goodIn_of _ (by decide +kernel)) ggX8_command_X8_of
theorem dX8_command_0 : decode cX8_command 0 = .ok (.iload_n 2, 1) := by decide +kernel
theorem dX8_command_1 : decode cX8_command 1 = .ok (.sipush 1000, 3) := by decide +kernel
theorem dX8_command_4 : decode cX8_command 4 = .ok (.idiv, 1) := by decide +kernel
theorem dX8_command_5 : decode cX8_command 5 = .ok (.istore_n 3, 1) := by decide +kernel
theorem dX8_command_6 : decode cX8_command 6 = .ok (.iload_n 2, 1) := by decide +kernel
theorem dX8_command_7 : decode cX8_command 7 = .ok (.bipush 100, 2) := by decide +kernel
theorem dX8_command_9 : decode cX8_command 9 = .ok (.idiv, 1) := by decide +kernel
theorem dX8_command_10 : decode cX8_command 10 = .ok (.istore 4, 2) := by decide +kernel
theorem dX8_command_12 : decode cX8_command 12 = .ok (.iload_n 2, 1) := by decide +kernel
theorem dX8_command_13 : decode cX8_command 13 = .ok (.bipush 10, 2) := by decide +kernel
theorem dX8_command_15 : decode cX8_command 15 = .ok (.idiv, 1) := by decide +kernel
theorem dX8_command_16 : decode cX8_command 16 = .ok (.bipush 100, 2) := by decide +kernel
theorem dX8_command_18 : decode cX8_command 18 = .ok (.irem, 1) := by decide +kernel
theorem dX8_command_19 : decode cX8_command 19 = .ok (.istore 5, 2) := by decide +kernel
theorem dX8_command_21 : decode cX8_command 21 = .ok (.iload_n 2, 1) := by decide +kernel
theorem dX8_command_22 : decode cX8_command 22 = .ok (.sipush 1000, 3) := by decide +kernel
theorem dX8_command_25 : decode cX8_command 25 = .ok (.irem, 1) := by decide +kernel
theorem dX8_command_26 : decode cX8_command 26 = .ok (.istore 6, 2) := by decide +kernel
theorem dX8_command_28 : decode cX8_command 28 = .ok (.iload_n 2, 1) := by decide +kernel
theorem dX8_command_29 : decode cX8_command 29 = .ok (.bipush 10, 2) := by decide +kernel
theorem dX8_command_31 : decode cX8_command 31 = .ok (.irem, 1) := by decide +kernel
theorem dX8_command_32 : decode cX8_command 32 = .ok (.istore 7, 2) := by decide +kernel
theorem dX8_command_34 : decode cX8_command 34 = .ok (.iload_n 1, 1) := by decide +kernel
theorem dX8_command_35 : decode cX8_command 35 = .ok (.tableswitch 370 1 9 #[49, 82, 102, 122, 191, 215, 267, 325, 347], 49) := by decide +kernel
theorem dX8_command_84 : decode cX8_command 84 = .ok (.iload 6, 2) := by decide +kernel
theorem dX8_command_86 : decode cX8_command 86 = .ok (.ifCond .ne 29, 3) := by decide +kernel
theorem dX8_command_89 : decode cX8_command 89 = .ok (.aload_n 0, 1) := by decide +kernel
theorem dX8_command_90 : decode cX8_command 90 = .ok (.getfield 16, 3) := by decide +kernel
theorem dX8_command_93 : decode cX8_command 93 = .ok (.iload_n 3, 1) := by decide +kernel
theorem dX8_command_94 : decode cX8_command 94 = .ok (.invokestatic 154, 3) := by decide +kernel
theorem dX8_command_97 : decode cX8_command 97 = .ok (.ifCond .eq 18, 3) := by decide +kernel
theorem dX8_command_100 : decode cX8_command 100 = .ok (.aload_n 0, 1) := by decide +kernel
theorem dX8_command_101 : decode cX8_command 101 = .ok (.getfield 16, 3) := by decide +kernel
theorem dX8_command_104 : decode cX8_command 104 = .ok (.iload_n 3, 1) := by decide +kernel
theorem dX8_command_105 : decode cX8_command 105 = .ok (.invokestatic 157, 3) := by decide +kernel
theorem dX8_command_108 : decode cX8_command 108 = .ok (.ifCond .le 7, 3) := by decide +kernel
theorem dX8_command_111 : decode cX8_command 111 = .ok (.iconst 1, 1) := by decide +kernel
theorem dX8_command_112 : decode cX8_command 112 = .ok (.goto 4, 3) := by decide +kernel
theorem dX8_command_115 : decode cX8_command 115 = .ok (.iconst 0, 1) := by decide +kernel
theorem dX8_command_116 : decode cX8_command 116 = .ok (.ireturn, 1) := by decide +kernel
theorem dX8_command_117 : decode cX8_command 117 = .ok (.iload_n 2, 1) := by decide +kernel
theorem dX8_command_118 : decode cX8_command 118 = .ok (.ifCond .ne 17, 3) := by decide +kernel
theorem dX8_command_121 : decode cX8_command 121 = .ok (.aload_n 0, 1) := by decide +kernel
theorem dX8_command_122 : decode cX8_command 122 = .ok (.getfield 16, 3) := by decide +kernel
theorem dX8_command_125 : decode cX8_command 125 = .ok (.invokestatic 112, 3) := by decide +kernel
theorem dX8_command_128 : decode cX8_command 128 = .ok (.ifCond .lt 7, 3) := by decide +kernel
theorem dX8_command_131 : decode cX8_command 131 = .ok (.iconst 1, 1) := by decide +kernel
theorem dX8_command_132 : decode cX8_command 132 = .ok (.goto 4, 3) := by decide +kernel
theorem dX8_command_135 : decode cX8_command 135 = .ok (.iconst 0, 1) := by decide +kernel
theorem dX8_command_136 : decode cX8_command 136 = .ok (.ireturn, 1) := by decide +kernel
theorem dX8_command_137 : decode cX8_command 137 = .ok (.iload_n 2, 1) := by decide +kernel
theorem dX8_command_138 : decode cX8_command 138 = .ok (.ifCond .ne 17, 3) := by decide +kernel
theorem dX8_command_141 : decode cX8_command 141 = .ok (.aload_n 0, 1) := by decide +kernel
theorem dX8_command_142 : decode cX8_command 142 = .ok (.getfield 16, 3) := by decide +kernel
theorem dX8_command_145 : decode cX8_command 145 = .ok (.invokestatic 160, 3) := by decide +kernel
theorem dX8_command_148 : decode cX8_command 148 = .ok (.ifCond .le 7, 3) := by decide +kernel
theorem dX8_command_151 : decode cX8_command 151 = .ok (.iconst 1, 1) := by decide +kernel
theorem dX8_command_152 : decode cX8_command 152 = .ok (.goto 4, 3) := by decide +kernel
theorem dX8_command_155 : decode cX8_command 155 = .ok (.iconst 0, 1) := by decide +kernel
theorem dX8_command_156 : decode cX8_command 156 = .ok (.ireturn, 1) := by decide +kernel
theorem dX8_command_157 : decode cX8_command 157 = .ok (.iload 7, 2) := by decide +kernel
theorem dX8_command_159 : decode cX8_command 159 = .ok (.ifCond .gt 26, 3) := by decide +kernel
theorem dX8_command_162 : decode cX8_command 162 = .ok (.aload_n 0, 1) := by decide +kernel
theorem dX8_command_163 : decode cX8_command 163 = .ok (.getfield 16, 3) := by decide +kernel
theorem dX8_command_166 : decode cX8_command 166 = .ok (.iload_n 3, 1) := by decide +kernel
theorem dX8_command_167 : decode cX8_command 167 = .ok (.invokestatic 83, 3) := by decide +kernel
theorem dX8_command_170 : decode cX8_command 170 = .ok (.ifCond .eq 15, 3) := by decide +kernel
theorem dX8_command_173 : decode cX8_command 173 = .ok (.aload_n 0, 1) := by decide +kernel
theorem dX8_command_174 : decode cX8_command 174 = .ok (.getfield 16, 3) := by decide +kernel
theorem dX8_command_177 : decode cX8_command 177 = .ok (.iload 5, 2) := by decide +kernel
theorem dX8_command_179 : decode cX8_command 179 = .ok (.invokestatic 181, 3) := by decide +kernel
theorem dX8_command_182 : decode cX8_command 182 = .ok (.ifCond .ne 5, 3) := by decide +kernel
theorem dX8_command_185 : decode cX8_command 185 = .ok (.iconst 0, 1) := by decide +kernel
theorem dX8_command_186 : decode cX8_command 186 = .ok (.ireturn, 1) := by decide +kernel
theorem dX8_command_187 : decode cX8_command 187 = .ok (.aload_n 0, 1) := by decide +kernel
theorem dX8_command_188 : decode cX8_command 188 = .ok (.getfield 16, 3) := by decide +kernel
theorem dX8_command_191 : decode cX8_command 191 = .ok (.iload_n 3, 1) := by decide +kernel
theorem dX8_command_192 : decode cX8_command 192 = .ok (.iload 5, 2) := by decide +kernel
theorem dX8_command_194 : decode cX8_command 194 = .ok (.invokestatic 217, 3) := by decide +kernel
theorem dX8_command_197 : decode cX8_command 197 = .ok (.istore 8, 2) := by decide +kernel
theorem dX8_command_199 : decode cX8_command 199 = .ok (.iload 8, 2) := by decide +kernel
theorem dX8_command_201 : decode cX8_command 201 = .ok (.iconst (-1), 1) := by decide +kernel
theorem dX8_command_202 : decode cX8_command 202 = .ok (.if_icmp .eq 22, 3) := by decide +kernel
theorem dX8_command_205 : decode cX8_command 205 = .ok (.aload_n 0, 1) := by decide +kernel
theorem dX8_command_206 : decode cX8_command 206 = .ok (.getfield 16, 3) := by decide +kernel
theorem dX8_command_209 : decode cX8_command 209 = .ok (.iload_n 3, 1) := by decide +kernel
theorem dX8_command_210 : decode cX8_command 210 = .ok (.iload 5, 2) := by decide +kernel
theorem dX8_command_212 : decode cX8_command 212 = .ok (.iload 8, 2) := by decide +kernel
theorem dX8_command_214 : decode cX8_command 214 = .ok (.invokestatic 200, 3) := by decide +kernel
theorem dX8_command_217 : decode cX8_command 217 = .ok (.ifCond .le 7, 3) := by decide +kernel
theorem dX8_command_220 : decode cX8_command 220 = .ok (.iconst 1, 1) := by decide +kernel
theorem dX8_command_221 : decode cX8_command 221 = .ok (.goto 4, 3) := by decide +kernel
theorem dX8_command_224 : decode cX8_command 224 = .ok (.iconst 0, 1) := by decide +kernel
theorem dX8_command_225 : decode cX8_command 225 = .ok (.ireturn, 1) := by decide +kernel
theorem dX8_command_226 : decode cX8_command 226 = .ok (.iload_n 3, 1) := by decide +kernel
theorem dX8_command_227 : decode cX8_command 227 = .ok (.iload 6, 2) := by decide +kernel
theorem dX8_command_229 : decode cX8_command 229 = .ok (.invokestatic 204, 3) := by decide +kernel
theorem dX8_command_232 : decode cX8_command 232 = .ok (.ifCond .ne 5, 3) := by decide +kernel
theorem dX8_command_235 : decode cX8_command 235 = .ok (.iconst 0, 1) := by decide +kernel
theorem dX8_command_236 : decode cX8_command 236 = .ok (.ireturn, 1) := by decide +kernel
theorem dX8_command_237 : decode cX8_command 237 = .ok (.aload_n 0, 1) := by decide +kernel
theorem dX8_command_238 : decode cX8_command 238 = .ok (.getfield 16, 3) := by decide +kernel
theorem dX8_command_241 : decode cX8_command 241 = .ok (.bipush 7, 2) := by decide +kernel
theorem dX8_command_243 : decode cX8_command 243 = .ok (.iload_n 3, 1) := by decide +kernel
theorem dX8_command_244 : decode cX8_command 244 = .ok (.iadd, 1) := by decide +kernel
theorem dX8_command_245 : decode cX8_command 245 = .ok (.iload 6, 2) := by decide +kernel
theorem dX8_command_247 : decode cX8_command 247 = .ok (.iastore, 1) := by decide +kernel
theorem dX8_command_248 : decode cX8_command 248 = .ok (.iconst 1, 1) := by decide +kernel
theorem dX8_command_249 : decode cX8_command 249 = .ok (.ireturn, 1) := by decide +kernel
theorem dX8_command_250 : decode cX8_command 250 = .ok (.iload 7, 2) := by decide +kernel
theorem dX8_command_252 : decode cX8_command 252 = .ok (.ifCond .ne 48, 3) := by decide +kernel
theorem dX8_command_255 : decode cX8_command 255 = .ok (.aload_n 0, 1) := by decide +kernel
theorem dX8_command_256 : decode cX8_command 256 = .ok (.getfield 16, 3) := by decide +kernel
theorem dX8_command_259 : decode cX8_command 259 = .ok (.iload_n 3, 1) := by decide +kernel
theorem dX8_command_260 : decode cX8_command 260 = .ok (.invokestatic 83, 3) := by decide +kernel
theorem dX8_command_263 : decode cX8_command 263 = .ok (.ifCond .eq 37, 3) := by decide +kernel
theorem dX8_command_266 : decode cX8_command 266 = .ok (.aload_n 0, 1) := by decide +kernel
theorem dX8_command_267 : decode cX8_command 267 = .ok (.getfield 16, 3) := by decide +kernel
theorem dX8_command_270 : decode cX8_command 270 = .ok (.iload 5, 2) := by decide +kernel
theorem dX8_command_272 : decode cX8_command 272 = .ok (.invokestatic 181, 3) := by decide +kernel
theorem dX8_command_275 : decode cX8_command 275 = .ok (.ifCond .eq 25, 3) := by decide +kernel
theorem dX8_command_278 : decode cX8_command 278 = .ok (.aload_n 0, 1) := by decide +kernel
theorem dX8_command_279 : decode cX8_command 279 = .ok (.getfield 16, 3) := by decide +kernel
theorem dX8_command_282 : decode cX8_command 282 = .ok (.iload_n 3, 1) := by decide +kernel
theorem dX8_command_283 : decode cX8_command 283 = .ok (.bipush 6, 2) := by decide +kernel
theorem dX8_command_285 : decode cX8_command 285 = .ok (.invokestatic 49, 3) := by decide +kernel
theorem dX8_command_288 : decode cX8_command 288 = .ok (.iload 5, 2) := by decide +kernel
theorem dX8_command_290 : decode cX8_command 290 = .ok (.invokestatic 41, 3) := by decide +kernel
theorem dX8_command_293 : decode cX8_command 293 = .ok (.ifCond .eq 7, 3) := by decide +kernel
theorem dX8_command_296 : decode cX8_command 296 = .ok (.iconst 1, 1) := by decide +kernel
theorem dX8_command_297 : decode cX8_command 297 = .ok (.goto 4, 3) := by decide +kernel
theorem dX8_command_300 : decode cX8_command 300 = .ok (.iconst 0, 1) := by decide +kernel
theorem dX8_command_301 : decode cX8_command 301 = .ok (.ireturn, 1) := by decide +kernel
theorem dX8_command_302 : decode cX8_command 302 = .ok (.iload_n 2, 1) := by decide +kernel
theorem dX8_command_303 : decode cX8_command 303 = .ok (.bipush 100, 2) := by decide +kernel
theorem dX8_command_305 : decode cX8_command 305 = .ok (.irem, 1) := by decide +kernel
theorem dX8_command_306 : decode cX8_command 306 = .ok (.iconst 2, 1) := by decide +kernel
theorem dX8_command_307 : decode cX8_command 307 = .ok (.if_icmp .ge 51, 3) := by decide +kernel
theorem dX8_command_310 : decode cX8_command 310 = .ok (.aload_n 0, 1) := by decide +kernel
theorem dX8_command_311 : decode cX8_command 311 = .ok (.getfield 16, 3) := by decide +kernel
theorem dX8_command_314 : decode cX8_command 314 = .ok (.iload 4, 2) := by decide +kernel
theorem dX8_command_316 : decode cX8_command 316 = .ok (.invokestatic 181, 3) := by decide +kernel
theorem dX8_command_319 : decode cX8_command 319 = .ok (.ifCond .eq 39, 3) := by decide +kernel
theorem dX8_command_322 : decode cX8_command 322 = .ok (.aload_n 0, 1) := by decide +kernel
theorem dX8_command_323 : decode cX8_command 323 = .ok (.getfield 16, 3) := by decide +kernel
theorem dX8_command_326 : decode cX8_command 326 = .ok (.iload 4, 2) := by decide +kernel
theorem dX8_command_328 : decode cX8_command 328 = .ok (.iconst 2, 1) := by decide +kernel
theorem dX8_command_329 : decode cX8_command 329 = .ok (.invokestatic 45, 3) := by decide +kernel
theorem dX8_command_332 : decode cX8_command 332 = .ok (.ifCond .le 7, 3) := by decide +kernel
theorem dX8_command_335 : decode cX8_command 335 = .ok (.iconst 1, 1) := by decide +kernel
theorem dX8_command_336 : decode cX8_command 336 = .ok (.goto 4, 3) := by decide +kernel
theorem dX8_command_339 : decode cX8_command 339 = .ok (.iconst 0, 1) := by decide +kernel
theorem dX8_command_340 : decode cX8_command 340 = .ok (.iload 7, 2) := by decide +kernel
theorem dX8_command_342 : decode cX8_command 342 = .ok (.iconst 1, 1) := by decide +kernel
theorem dX8_command_343 : decode cX8_command 343 = .ok (.if_icmp .ne 7, 3) := by decide +kernel
theorem dX8_command_346 : decode cX8_command 346 = .ok (.iconst 1, 1) := by decide +kernel
theorem dX8_command_347 : decode cX8_command 347 = .ok (.goto 4, 3) := by decide +kernel
theorem dX8_command_350 : decode cX8_command 350 = .ok (.iconst 0, 1) := by decide +kernel
theorem dX8_command_351 : decode cX8_command 351 = .ok (.if_icmp .ne 7, 3) := by decide +kernel
theorem dX8_command_354 : decode cX8_command 354 = .ok (.iconst 1, 1) := by decide +kernel
theorem dX8_command_355 : decode cX8_command 355 = .ok (.goto 4, 3) := by decide +kernel
theorem dX8_command_358 : decode cX8_command 358 = .ok (.iconst 0, 1) := by decide +kernel
theorem dX8_command_359 : decode cX8_command 359 = .ok (.ireturn, 1) := by decide +kernel
theorem dX8_command_360 : decode cX8_command 360 = .ok (.iload_n 2, 1) := by decide +kernel
theorem dX8_command_361 : decode cX8_command 361 = .ok (.bipush 100, 2) := by decide +kernel
theorem dX8_command_363 : decode cX8_command 363 = .ok (.if_icmp .ge 17, 3) := by decide +kernel
theorem dX8_command_366 : decode cX8_command 366 = .ok (.aload_n 0, 1) := by decide +kernel
theorem dX8_command_367 : decode cX8_command 367 = .ok (.getfield 16, 3) := by decide +kernel
theorem dX8_command_370 : decode cX8_command 370 = .ok (.iconst 5, 1) := by decide +kernel
theorem dX8_command_371 : decode cX8_command 371 = .ok (.iaload, 1) := by decide +kernel
theorem dX8_command_372 : decode cX8_command 372 = .ok (.iload_n 2, 1) := by decide +kernel
theorem dX8_command_373 : decode cX8_command 373 = .ok (.if_icmp .gt 7, 3) := by decide +kernel
theorem dX8_command_376 : decode cX8_command 376 = .ok (.iconst 1, 1) := by decide +kernel
theorem dX8_command_377 : decode cX8_command 377 = .ok (.goto 4, 3) := by decide +kernel
theorem dX8_command_380 : decode cX8_command 380 = .ok (.iconst 0, 1) := by decide +kernel
theorem dX8_command_381 : decode cX8_command 381 = .ok (.ireturn, 1) := by decide +kernel
theorem dX8_command_382 : decode cX8_command 382 = .ok (.iload_n 2, 1) := by decide +kernel
theorem dX8_command_383 : decode cX8_command 383 = .ok (.bipush 100, 2) := by decide +kernel
theorem dX8_command_385 : decode cX8_command 385 = .ok (.if_icmp .ge 18, 3) := by decide +kernel
theorem dX8_command_388 : decode cX8_command 388 = .ok (.aload_n 0, 1) := by decide +kernel
theorem dX8_command_389 : decode cX8_command 389 = .ok (.getfield 16, 3) := by decide +kernel
theorem dX8_command_392 : decode cX8_command 392 = .ok (.bipush 6, 2) := by decide +kernel
theorem dX8_command_394 : decode cX8_command 394 = .ok (.iaload, 1) := by decide +kernel
theorem dX8_command_395 : decode cX8_command 395 = .ok (.iload_n 2, 1) := by decide +kernel
theorem dX8_command_396 : decode cX8_command 396 = .ok (.if_icmp .gt 7, 3) := by decide +kernel
theorem dX8_command_399 : decode cX8_command 399 = .ok (.iconst 1, 1) := by decide +kernel
theorem dX8_command_400 : decode cX8_command 400 = .ok (.goto 4, 3) := by decide +kernel
theorem dX8_command_403 : decode cX8_command 403 = .ok (.iconst 0, 1) := by decide +kernel
theorem dX8_command_404 : decode cX8_command 404 = .ok (.ireturn, 1) := by decide +kernel
theorem dX8_command_405 : decode cX8_command 405 = .ok (.iconst 0, 1) := by decide +kernel
theorem dX8_command_406 : decode cX8_command 406 = .ok (.ireturn, 1) := by decide +kernel
set_option maxRecDepth 20000 in
theorem ggX8_runScript_X8_in : GoodIn wsX8_runScript wsX8_in := goodIn_r _ [8] (by decide +kernel) (by decide +kernel)
set_option maxRecDepth 20000 in
theorem gX8_runScript_X8_in : GoodIn wsX8_runScript (va_wsS RX8 37 yX8_in wsX8_in) := goodIn_app (goodIn_of _ (by decide +kernel)) ggX8_runScript_X8_in
set_option maxRecDepth 20000 in
theorem ggX8_runScript_X8_refused : GoodIn wsX8_runScript wsX8_refused := goodIn_r _ [12, 13, 99, 100, 101, 102, 103, 104, 105, 106, 107, 108, 109] (by decide +kernel) (by decide +kernel)
set_option maxRecDepth 20000 in
theorem gX8_runScript_X8_refused : GoodIn wsX8_runScript (wsV RX8 125 RX8 yX8_refused wsX8_refused) := goodIn_app (goodIn_of _ (by decide +kernel)) ggX8_runScript_X8_refused
set_option maxRecDepth 20000 in
theorem ggX8_runScript_X8_copyState : GoodIn wsX8_runScript wsX8_copyState := goodIn_r _ [16] (by decide +kernel) (by decide +kernel)
set_option maxRecDepth 20000 in
theorem gX8_runScript_X8_copyState : GoodIn wsX8_runScript (va_wsS RX8 169 yX8_copyState wsX8_copyState) := goodIn_app (goodIn_of _ (by decide +kernel)) ggX8_runScript_X8_copyState
set_option maxRecDepth 20000 in
theorem ggX8_runScript_X8_command : GoodIn wsX8_runScript wsX8_command := goodIn_r _ [20, 4, 21, 22, 7, 23, 24, 25, 26, 5, 6, 8, 27, 28, 29, 30, 31, 32, 33, 34, 35, 36, 37, 38, 39, 40, 41, 42, 43, 44, 45, 46, 47, 48, 49, 50, 51, 52, 53, 54, 55, 56, 57, 58, 59, 60, 61, 62, 63, 64, 65, 66, 67, 68, 69, 70, 71, 72, 73, 74, 75, 76, 77, 78, 79, 80, 81, 82, 83, 84, 85, 86, 87, 88, 89, 90, 91, 92, 93, 94, 95, 96, 97, 98, 99, 100, 101, 102, 103, 104, 105, 106, 107, 108, 109] (by decide +kernel) (by decide +kernel)
set_option maxRecDepth 20000 in
theorem gX8_runScript_X8_command : GoodIn wsX8_runScript (wsV RX8 222 RX8 yX8_command wsX8_command) := goodIn_app (goodIn_of _ (by decide +kernel)) ggX8_runScript_X8_command
theorem dX8_runScript_0 : decode cX8_runScript 0 = .ok (.lconst 1, 1) := by decide +kernel
theorem dX8_runScript_1 : decode cX8_runScript 1 = .ok (.lstore 4, 2) := by decide +kernel
theorem dX8_runScript_3 : decode cX8_runScript 3 = .ok (.iconst 0, 1) := by decide +kernel
theorem dX8_runScript_4 : decode cX8_runScript 4 = .ok (.istore 6, 2) := by decide +kernel
theorem dX8_runScript_6 : decode cX8_runScript 6 = .ok (.iload 6, 2) := by decide +kernel
theorem dX8_runScript_8 : decode cX8_runScript 8 = .ok (.iload_n 1, 1) := by decide +kernel
theorem dX8_runScript_9 : decode cX8_runScript 9 = .ok (.if_icmp .ge 23, 3) := by decide +kernel
theorem dX8_runScript_12 : decode cX8_runScript 12 = .ok (.iload 6, 2) := by decide +kernel
theorem dX8_runScript_14 : decode cX8_runScript 14 = .ok (.iconst 3, 1) := by decide +kernel
theorem dX8_runScript_15 : decode cX8_runScript 15 = .ok (.if_icmp .ge 17, 3) := by decide +kernel
theorem dX8_runScript_18 : decode cX8_runScript 18 = .ok (.lload 4, 2) := by decide +kernel
theorem dX8_runScript_20 : decode cX8_runScript 20 = .ok (.ldc2_w 220, 3) := by decide +kernel
theorem dX8_runScript_23 : decode cX8_runScript 23 = .ok (.lmul, 1) := by decide +kernel
theorem dX8_runScript_24 : decode cX8_runScript 24 = .ok (.lstore 4, 2) := by decide +kernel
theorem dX8_runScript_26 : decode cX8_runScript 26 = .ok (.iinc 6 1, 3) := by decide +kernel
theorem dX8_runScript_29 : decode cX8_runScript 29 = .ok (.goto (-23), 3) := by decide +kernel
theorem dX8_runScript_32 : decode cX8_runScript 32 = .ok (.aload_n 0, 1) := by decide +kernel
theorem dX8_runScript_33 : decode cX8_runScript 33 = .ok (.iload_n 1, 1) := by decide +kernel
theorem dX8_runScript_34 : decode cX8_runScript 34 = .ok (.i2l, 1) := by decide +kernel
theorem dX8_runScript_35 : decode cX8_runScript 35 = .ok (.lconst 1, 1) := by decide +kernel
theorem dX8_runScript_36 : decode cX8_runScript 36 = .ok (.ldc2_w 106, 3) := by decide +kernel
theorem dX8_runScript_39 : decode cX8_runScript 39 = .ok (.invokestatic 37, 3) := by decide +kernel
theorem dX8_runScript_42 : decode cX8_runScript 42 = .ok (.ifCond .eq 19, 3) := by decide +kernel
theorem dX8_runScript_45 : decode cX8_runScript 45 = .ok (.lload_n 2, 1) := by decide +kernel
theorem dX8_runScript_46 : decode cX8_runScript 46 = .ok (.lconst 0, 1) := by decide +kernel
theorem dX8_runScript_47 : decode cX8_runScript 47 = .ok (.lload 4, 2) := by decide +kernel
theorem dX8_runScript_49 : decode cX8_runScript 49 = .ok (.lconst 1, 1) := by decide +kernel
theorem dX8_runScript_50 : decode cX8_runScript 50 = .ok (.lsub, 1) := by decide +kernel
theorem dX8_runScript_51 : decode cX8_runScript 51 = .ok (.invokestatic 37, 3) := by decide +kernel
theorem dX8_runScript_54 : decode cX8_runScript 54 = .ok (.ifCond .eq 7, 3) := by decide +kernel
theorem dX8_runScript_57 : decode cX8_runScript 57 = .ok (.iconst 0, 1) := by decide +kernel
theorem dX8_runScript_58 : decode cX8_runScript 58 = .ok (.goto 4, 3) := by decide +kernel
theorem dX8_runScript_61 : decode cX8_runScript 61 = .ok (.iconst 1, 1) := by decide +kernel
theorem dX8_runScript_62 : decode cX8_runScript 62 = .ok (.invokevirtual 125, 3) := by decide +kernel
theorem dX8_runScript_65 : decode cX8_runScript 65 = .ok (.ifCond .eq 5, 3) := by decide +kernel
theorem dX8_runScript_68 : decode cX8_runScript 68 = .ok (.iconst 0, 1) := by decide +kernel
theorem dX8_runScript_69 : decode cX8_runScript 69 = .ok (.ireturn, 1) := by decide +kernel
theorem dX8_runScript_70 : decode cX8_runScript 70 = .ok (.aload_n 0, 1) := by decide +kernel
theorem dX8_runScript_71 : decode cX8_runScript 71 = .ok (.getfield 13, 3) := by decide +kernel
theorem dX8_runScript_74 : decode cX8_runScript 74 = .ok (.iconst 0, 1) := by decide +kernel
theorem dX8_runScript_75 : decode cX8_runScript 75 = .ok (.aload_n 0, 1) := by decide +kernel
theorem dX8_runScript_76 : decode cX8_runScript 76 = .ok (.getfield 16, 3) := by decide +kernel
theorem dX8_runScript_79 : decode cX8_runScript 79 = .ok (.iconst 0, 1) := by decide +kernel
theorem dX8_runScript_80 : decode cX8_runScript 80 = .ok (.invokestatic 169, 3) := by decide +kernel
theorem dX8_runScript_83 : decode cX8_runScript 83 = .ok (.iconst 0, 1) := by decide +kernel
theorem dX8_runScript_84 : decode cX8_runScript 84 = .ok (.istore 6, 2) := by decide +kernel
theorem dX8_runScript_86 : decode cX8_runScript 86 = .ok (.iload 6, 2) := by decide +kernel
theorem dX8_runScript_88 : decode cX8_runScript 88 = .ok (.iload_n 1, 1) := by decide +kernel
theorem dX8_runScript_89 : decode cX8_runScript 89 = .ok (.if_icmp .ge 50, 3) := by decide +kernel
theorem dX8_runScript_92 : decode cX8_runScript 92 = .ok (.lload 4, 2) := by decide +kernel
theorem dX8_runScript_94 : decode cX8_runScript 94 = .ok (.ldc2_w 220, 3) := by decide +kernel
theorem dX8_runScript_97 : decode cX8_runScript 97 = .ok (.ldiv, 1) := by decide +kernel
theorem dX8_runScript_98 : decode cX8_runScript 98 = .ok (.lstore 4, 2) := by decide +kernel
theorem dX8_runScript_100 : decode cX8_runScript 100 = .ok (.lload_n 2, 1) := by decide +kernel
theorem dX8_runScript_101 : decode cX8_runScript 101 = .ok (.lload 4, 2) := by decide +kernel
theorem dX8_runScript_103 : decode cX8_runScript 103 = .ok (.ldiv, 1) := by decide +kernel
theorem dX8_runScript_104 : decode cX8_runScript 104 = .ok (.ldc2_w 220, 3) := by decide +kernel
theorem dX8_runScript_107 : decode cX8_runScript 107 = .ok (.lrem, 1) := by decide +kernel
theorem dX8_runScript_108 : decode cX8_runScript 108 = .ok (.l2i, 1) := by decide +kernel
theorem dX8_runScript_109 : decode cX8_runScript 109 = .ok (.istore 7, 2) := by decide +kernel
theorem dX8_runScript_111 : decode cX8_runScript 111 = .ok (.aload_n 0, 1) := by decide +kernel
theorem dX8_runScript_112 : decode cX8_runScript 112 = .ok (.iload 7, 2) := by decide +kernel
theorem dX8_runScript_114 : decode cX8_runScript 114 = .ok (.sipush 10000, 3) := by decide +kernel
theorem dX8_runScript_117 : decode cX8_runScript 117 = .ok (.idiv, 1) := by decide +kernel
theorem dX8_runScript_118 : decode cX8_runScript 118 = .ok (.iload 7, 2) := by decide +kernel
theorem dX8_runScript_120 : decode cX8_runScript 120 = .ok (.sipush 10000, 3) := by decide +kernel
theorem dX8_runScript_123 : decode cX8_runScript 123 = .ok (.irem, 1) := by decide +kernel
theorem dX8_runScript_124 : decode cX8_runScript 124 = .ok (.invokevirtual 222, 3) := by decide +kernel
theorem dX8_runScript_127 : decode cX8_runScript 127 = .ok (.ifCond .ne 6, 3) := by decide +kernel
theorem dX8_runScript_130 : decode cX8_runScript 130 = .ok (.iload 6, 2) := by decide +kernel
theorem dX8_runScript_132 : decode cX8_runScript 132 = .ok (.ireturn, 1) := by decide +kernel
theorem dX8_runScript_133 : decode cX8_runScript 133 = .ok (.iinc 6 1, 3) := by decide +kernel
theorem dX8_runScript_136 : decode cX8_runScript 136 = .ok (.goto (-50), 3) := by decide +kernel
theorem dX8_runScript_139 : decode cX8_runScript 139 = .ok (.iconst (-1), 1) := by decide +kernel
theorem dX8_runScript_140 : decode cX8_runScript 140 = .ok (.ireturn, 1) := by decide +kernel
set_option maxRecDepth 20000 in
theorem ggX8_turn_X8_extraOn : GoodIn wsX8_turn wsX8_extraOn := goodIn_r _ [4, 5, 6, 3, 7] (by decide +kernel) (by decide +kernel)
set_option maxRecDepth 20000 in
theorem gX8_turn_X8_extraOn : GoodIn wsX8_turn (va_wsS RX8 147 yX8_extraOn wsX8_extraOn) := goodIn_app (goodIn_of _ (by decide +kernel)) ggX8_turn_X8_extraOn
set_option maxRecDepth 20000 in
theorem ggX8_turn_X8_sceneOn : GoodIn wsX8_turn wsX8_sceneOn := goodIn_r _ [10] (by decide +kernel) (by decide +kernel)
set_option maxRecDepth 20000 in
theorem gX8_turn_X8_sceneOn : GoodIn wsX8_turn (va_wsS RX8 139 yX8_sceneOn wsX8_sceneOn) := goodIn_app (goodIn_of _ (by decide +kernel)) ggX8_turn_X8_sceneOn
set_option maxRecDepth 20000 in
theorem ggX8_turn_X8_mealOn : GoodIn wsX8_turn wsX8_mealOn := goodIn_r _ [13, 14, 15, 3, 16, 5, 6, 7] (by decide +kernel) (by decide +kernel)
set_option maxRecDepth 20000 in
theorem gX8_turn_X8_mealOn : GoodIn wsX8_turn (va_wsS RX8 112 yX8_mealOn wsX8_mealOn) := goodIn_app (goodIn_of _ (by decide +kernel)) ggX8_turn_X8_mealOn
set_option maxRecDepth 20000 in
theorem ggX8_turn_X8_nextOn : GoodIn wsX8_turn wsX8_nextOn := goodIn_r _ [19, 11, 12, 3, 13, 14, 15, 16, 5, 6, 7] (by decide +kernel) (by decide +kernel)
set_option maxRecDepth 20000 in
theorem gX8_turn_X8_nextOn : GoodIn wsX8_turn (va_wsS RX8 160 yX8_nextOn wsX8_nextOn) := goodIn_app (goodIn_of _ (by decide +kernel)) ggX8_turn_X8_nextOn
set_option maxRecDepth 20000 in
theorem ggX8_turn_X8_canShoot : GoodIn wsX8_turn wsX8_canShoot := goodIn_r _ [22, 23, 24, 3, 25, 26, 27, 28, 29, 30, 31, 32, 33, 34, 35, 36, 37, 38, 39, 40, 41, 42, 43, 44, 45, 46, 14, 15, 16, 47, 48, 49, 50, 51, 52, 53, 54, 55, 56, 57, 58, 59, 60, 61, 62, 63, 64] (by decide +kernel) (by decide +kernel)
set_option maxRecDepth 20000 in
theorem gX8_turn_X8_canShoot : GoodIn wsX8_turn (va_wsS RX8 154 yX8_canShoot wsX8_canShoot) := goodIn_app (goodIn_of _ (by decide +kernel)) ggX8_turn_X8_canShoot
set_option maxRecDepth 20000 in
theorem ggX8_turn_X8_shootOn : GoodIn wsX8_turn wsX8_shootOn := goodIn_r _ [67, 35, 36, 3, 37, 38, 39, 40, 29, 30, 31, 41, 42, 43, 44, 45, 46, 14, 15, 16, 47, 48, 49, 50, 51, 52, 53, 54, 55, 56, 57, 58, 59, 60, 61, 62, 63, 64, 68, 69, 70, 5, 6, 7] (by decide +kernel) (by decide +kernel)
set_option maxRecDepth 20000 in
theorem gX8_turn_X8_shootOn : GoodIn wsX8_turn (va_wsS RX8 157 yX8_shootOn wsX8_shootOn) := goodIn_app (goodIn_of _ (by decide +kernel)) ggX8_turn_X8_shootOn
theorem dX8_turn_0 : decode cX8_turn 0 = .ok (.iload_n 1, 1) := by decide +kernel
theorem dX8_turn_1 : decode cX8_turn 1 = .ok (.bipush 8, 2) := by decide +kernel
theorem dX8_turn_3 : decode cX8_turn 3 = .ok (.idiv, 1) := by decide +kernel
theorem dX8_turn_4 : decode cX8_turn 4 = .ok (.istore_n 2, 1) := by decide +kernel
theorem dX8_turn_5 : decode cX8_turn 5 = .ok (.iload_n 1, 1) := by decide +kernel
theorem dX8_turn_6 : decode cX8_turn 6 = .ok (.bipush 8, 2) := by decide +kernel
theorem dX8_turn_8 : decode cX8_turn 8 = .ok (.irem, 1) := by decide +kernel
theorem dX8_turn_9 : decode cX8_turn 9 = .ok (.tableswitch 150 0 4 #[35, 35, 60, 110, 118], 35) := by decide +kernel
theorem dX8_turn_44 : decode cX8_turn 44 = .ok (.aload_n 0, 1) := by decide +kernel
theorem dX8_turn_45 : decode cX8_turn 45 = .ok (.iconst 0, 1) := by decide +kernel
theorem dX8_turn_46 : decode cX8_turn 46 = .ok (.iaload, 1) := by decide +kernel
theorem dX8_turn_47 : decode cX8_turn 47 = .ok (.bipush 14, 2) := by decide +kernel
theorem dX8_turn_49 : decode cX8_turn 49 = .ok (.if_icmp .ge 130, 3) := by decide +kernel
theorem dX8_turn_52 : decode cX8_turn 52 = .ok (.aload_n 0, 1) := by decide +kernel
theorem dX8_turn_53 : decode cX8_turn 53 = .ok (.iload_n 2, 1) := by decide +kernel
theorem dX8_turn_54 : decode cX8_turn 54 = .ok (.iconst 3, 1) := by decide +kernel
theorem dX8_turn_55 : decode cX8_turn 55 = .ok (.irem, 1) := by decide +kernel
theorem dX8_turn_56 : decode cX8_turn 56 = .ok (.iload_n 2, 1) := by decide +kernel
theorem dX8_turn_57 : decode cX8_turn 57 = .ok (.iconst 4, 1) := by decide +kernel
theorem dX8_turn_58 : decode cX8_turn 58 = .ok (.idiv, 1) := by decide +kernel
theorem dX8_turn_59 : decode cX8_turn 59 = .ok (.bipush 14, 2) := by decide +kernel
theorem dX8_turn_61 : decode cX8_turn 61 = .ok (.irem, 1) := by decide +kernel
theorem dX8_turn_62 : decode cX8_turn 62 = .ok (.invokestatic 147, 3) := by decide +kernel
theorem dX8_turn_65 : decode cX8_turn 65 = .ok (.pop, 1) := by decide +kernel
theorem dX8_turn_66 : decode cX8_turn 66 = .ok (.goto 113, 3) := by decide +kernel
theorem dX8_turn_69 : decode cX8_turn 69 = .ok (.aload_n 0, 1) := by decide +kernel
theorem dX8_turn_70 : decode cX8_turn 70 = .ok (.iconst 1, 1) := by decide +kernel
theorem dX8_turn_71 : decode cX8_turn 71 = .ok (.iaload, 1) := by decide +kernel
theorem dX8_turn_72 : decode cX8_turn 72 = .ok (.bipush 10, 2) := by decide +kernel
theorem dX8_turn_74 : decode cX8_turn 74 = .ok (.if_icmp .ge 105, 3) := by decide +kernel
theorem dX8_turn_77 : decode cX8_turn 77 = .ok (.aload_n 0, 1) := by decide +kernel
theorem dX8_turn_78 : decode cX8_turn 78 = .ok (.iload_n 2, 1) := by decide +kernel
theorem dX8_turn_79 : decode cX8_turn 79 = .ok (.iconst 3, 1) := by decide +kernel
theorem dX8_turn_80 : decode cX8_turn 80 = .ok (.irem, 1) := by decide +kernel
theorem dX8_turn_81 : decode cX8_turn 81 = .ok (.iconst 1, 1) := by decide +kernel
theorem dX8_turn_82 : decode cX8_turn 82 = .ok (.iload_n 2, 1) := by decide +kernel
theorem dX8_turn_83 : decode cX8_turn 83 = .ok (.iconst 4, 1) := by decide +kernel
theorem dX8_turn_84 : decode cX8_turn 84 = .ok (.idiv, 1) := by decide +kernel
theorem dX8_turn_85 : decode cX8_turn 85 = .ok (.iconst 4, 1) := by decide +kernel
theorem dX8_turn_86 : decode cX8_turn 86 = .ok (.irem, 1) := by decide +kernel
theorem dX8_turn_87 : decode cX8_turn 87 = .ok (.iadd, 1) := by decide +kernel
theorem dX8_turn_88 : decode cX8_turn 88 = .ok (.iload_n 2, 1) := by decide +kernel
theorem dX8_turn_89 : decode cX8_turn 89 = .ok (.bipush 16, 2) := by decide +kernel
theorem dX8_turn_91 : decode cX8_turn 91 = .ok (.idiv, 1) := by decide +kernel
theorem dX8_turn_92 : decode cX8_turn 92 = .ok (.iconst 3, 1) := by decide +kernel
theorem dX8_turn_93 : decode cX8_turn 93 = .ok (.irem, 1) := by decide +kernel
theorem dX8_turn_94 : decode cX8_turn 94 = .ok (.iload_n 2, 1) := by decide +kernel
theorem dX8_turn_95 : decode cX8_turn 95 = .ok (.bipush 64, 2) := by decide +kernel
theorem dX8_turn_97 : decode cX8_turn 97 = .ok (.idiv, 1) := by decide +kernel
theorem dX8_turn_98 : decode cX8_turn 98 = .ok (.iconst 2, 1) := by decide +kernel
theorem dX8_turn_99 : decode cX8_turn 99 = .ok (.irem, 1) := by decide +kernel
theorem dX8_turn_100 : decode cX8_turn 100 = .ok (.bipush 10, 2) := by decide +kernel
theorem dX8_turn_102 : decode cX8_turn 102 = .ok (.iload_n 2, 1) := by decide +kernel
theorem dX8_turn_103 : decode cX8_turn 103 = .ok (.sipush 128, 3) := by decide +kernel
theorem dX8_turn_106 : decode cX8_turn 106 = .ok (.idiv, 1) := by decide +kernel
theorem dX8_turn_107 : decode cX8_turn 107 = .ok (.sipush 231, 3) := by decide +kernel
theorem dX8_turn_110 : decode cX8_turn 110 = .ok (.irem, 1) := by decide +kernel
theorem dX8_turn_111 : decode cX8_turn 111 = .ok (.iadd, 1) := by decide +kernel
theorem dX8_turn_112 : decode cX8_turn 112 = .ok (.invokestatic 139, 3) := by decide +kernel
theorem dX8_turn_115 : decode cX8_turn 115 = .ok (.pop, 1) := by decide +kernel
theorem dX8_turn_116 : decode cX8_turn 116 = .ok (.goto 63, 3) := by decide +kernel
theorem dX8_turn_119 : decode cX8_turn 119 = .ok (.aload_n 0, 1) := by decide +kernel
theorem dX8_turn_120 : decode cX8_turn 120 = .ok (.invokestatic 112, 3) := by decide +kernel
theorem dX8_turn_123 : decode cX8_turn 123 = .ok (.pop, 1) := by decide +kernel
theorem dX8_turn_124 : decode cX8_turn 124 = .ok (.goto 55, 3) := by decide +kernel
theorem dX8_turn_127 : decode cX8_turn 127 = .ok (.iload_n 2, 1) := by decide +kernel
theorem dX8_turn_128 : decode cX8_turn 128 = .ok (.iconst 4, 1) := by decide +kernel
theorem dX8_turn_129 : decode cX8_turn 129 = .ok (.irem, 1) := by decide +kernel
theorem dX8_turn_130 : decode cX8_turn 130 = .ok (.ifCond .ne 11, 3) := by decide +kernel
theorem dX8_turn_133 : decode cX8_turn 133 = .ok (.aload_n 0, 1) := by decide +kernel
theorem dX8_turn_134 : decode cX8_turn 134 = .ok (.invokestatic 160, 3) := by decide +kernel
theorem dX8_turn_137 : decode cX8_turn 137 = .ok (.pop, 1) := by decide +kernel
theorem dX8_turn_138 : decode cX8_turn 138 = .ok (.goto 41, 3) := by decide +kernel
theorem dX8_turn_141 : decode cX8_turn 141 = .ok (.aload_n 0, 1) := by decide +kernel
theorem dX8_turn_142 : decode cX8_turn 142 = .ok (.bipush 7, 2) := by decide +kernel
theorem dX8_turn_144 : decode cX8_turn 144 = .ok (.sipush 240, 3) := by decide +kernel
theorem dX8_turn_147 : decode cX8_turn 147 = .ok (.iload_n 2, 1) := by decide +kernel
theorem dX8_turn_148 : decode cX8_turn 148 = .ok (.iconst 4, 1) := by decide +kernel
theorem dX8_turn_149 : decode cX8_turn 149 = .ok (.idiv, 1) := by decide +kernel
theorem dX8_turn_150 : decode cX8_turn 150 = .ok (.sipush 721, 3) := by decide +kernel
theorem dX8_turn_153 : decode cX8_turn 153 = .ok (.irem, 1) := by decide +kernel
theorem dX8_turn_154 : decode cX8_turn 154 = .ok (.iadd, 1) := by decide +kernel
theorem dX8_turn_155 : decode cX8_turn 155 = .ok (.iastore, 1) := by decide +kernel
theorem dX8_turn_156 : decode cX8_turn 156 = .ok (.goto 23, 3) := by decide +kernel
theorem dX8_turn_159 : decode cX8_turn 159 = .ok (.aload_n 0, 1) := by decide +kernel
theorem dX8_turn_160 : decode cX8_turn 160 = .ok (.iload_n 2, 1) := by decide +kernel
theorem dX8_turn_161 : decode cX8_turn 161 = .ok (.bipush 10, 2) := by decide +kernel
theorem dX8_turn_163 : decode cX8_turn 163 = .ok (.irem, 1) := by decide +kernel
theorem dX8_turn_164 : decode cX8_turn 164 = .ok (.invokestatic 154, 3) := by decide +kernel
theorem dX8_turn_167 : decode cX8_turn 167 = .ok (.ifCond .eq 12, 3) := by decide +kernel
theorem dX8_turn_170 : decode cX8_turn 170 = .ok (.aload_n 0, 1) := by decide +kernel
theorem dX8_turn_171 : decode cX8_turn 171 = .ok (.iload_n 2, 1) := by decide +kernel
theorem dX8_turn_172 : decode cX8_turn 172 = .ok (.bipush 10, 2) := by decide +kernel
theorem dX8_turn_174 : decode cX8_turn 174 = .ok (.irem, 1) := by decide +kernel
theorem dX8_turn_175 : decode cX8_turn 175 = .ok (.invokestatic 157, 3) := by decide +kernel
theorem dX8_turn_178 : decode cX8_turn 178 = .ok (.pop, 1) := by decide +kernel
theorem dX8_turn_179 : decode cX8_turn 179 = .ok (.return_, 1) := by decide +kernel
set_option maxRecDepth 20000 in
theorem ggX8_simulate_X8_in : GoodIn wsX8_simulate wsX8_in := goodIn_r _ [9] (by decide +kernel) (by decide +kernel)
set_option maxRecDepth 20000 in
theorem gX8_simulate_X8_in : GoodIn wsX8_simulate (va_wsS RX8 37 yX8_in wsX8_in) := goodIn_app (goodIn_of _ (by decide +kernel)) ggX8_simulate_X8_in
set_option maxRecDepth 20000 in
theorem ggX8_simulate_X8_refused : GoodIn wsX8_simulate wsX8_refused := goodIn_r _ [13, 14, 90, 91, 92, 93, 94, 95, 96, 97, 98, 99, 100] (by decide +kernel) (by decide +kernel)
set_option maxRecDepth 20000 in
theorem gX8_simulate_X8_refused : GoodIn wsX8_simulate (wsV RX8 125 RX8 yX8_refused wsX8_refused) := goodIn_app (goodIn_of _ (by decide +kernel)) ggX8_simulate_X8_refused
set_option maxRecDepth 20000 in
theorem ggX8_simulate_X8_copyState : GoodIn wsX8_simulate wsX8_copyState := goodIn_r _ [17] (by decide +kernel) (by decide +kernel)
set_option maxRecDepth 20000 in
theorem gX8_simulate_X8_copyState : GoodIn wsX8_simulate (va_wsS RX8 169 yX8_copyState wsX8_copyState) := goodIn_app (goodIn_of _ (by decide +kernel)) ggX8_simulate_X8_copyState
set_option maxRecDepth 20000 in
theorem ggX8_simulate_X8_turn : GoodIn wsX8_simulate wsX8_turn := goodIn_r _ [20, 21, 22, 8, 23, 24, 25, 26, 27, 28, 29, 30, 31, 32, 33, 34, 35, 36, 37, 38, 39, 40, 41, 42, 43, 44, 6, 7, 9, 45, 46, 47, 48, 49, 50, 51, 52, 53, 54, 55, 56, 57, 58, 59, 60, 61, 62, 63, 64, 65, 66, 67, 68, 69, 70, 71, 72, 73, 74, 75, 76, 77, 78, 79, 80, 81, 82, 83, 84, 85, 86] (by decide +kernel) (by decide +kernel)
set_option maxRecDepth 20000 in
theorem gX8_simulate_X8_turn : GoodIn wsX8_simulate (va_wsS RX8 231 yX8_turn wsX8_turn) := goodIn_app (goodIn_of _ (by decide +kernel)) ggX8_simulate_X8_turn
set_option maxRecDepth 20000 in
theorem ggX8_simulate_X8_shots : GoodIn wsX8_simulate wsX8_shots := goodIn_r _ [89, 45, 46, 8, 47] (by decide +kernel) (by decide +kernel)
set_option maxRecDepth 20000 in
theorem gX8_simulate_X8_shots : GoodIn wsX8_simulate (va_wsS RX8 178 yX8_shots wsX8_shots) := goodIn_app (goodIn_of _ (by decide +kernel)) ggX8_simulate_X8_shots
theorem dX8_simulate_0 : decode cX8_simulate 0 = .ok (.aload_n 0, 1) := by decide +kernel
theorem dX8_simulate_1 : decode cX8_simulate 1 = .ok (.iload_n 3, 1) := by decide +kernel
theorem dX8_simulate_2 : decode cX8_simulate 2 = .ok (.i2l, 1) := by decide +kernel
theorem dX8_simulate_3 : decode cX8_simulate 3 = .ok (.lconst 1, 1) := by decide +kernel
theorem dX8_simulate_4 : decode cX8_simulate 4 = .ok (.ldc2_w 225, 3) := by decide +kernel
theorem dX8_simulate_7 : decode cX8_simulate 7 = .ok (.invokestatic 37, 3) := by decide +kernel
theorem dX8_simulate_10 : decode cX8_simulate 10 = .ok (.ifCond .eq 7, 3) := by decide +kernel
theorem dX8_simulate_13 : decode cX8_simulate 13 = .ok (.iconst 0, 1) := by decide +kernel
theorem dX8_simulate_14 : decode cX8_simulate 14 = .ok (.goto 4, 3) := by decide +kernel
theorem dX8_simulate_17 : decode cX8_simulate 17 = .ok (.iconst 1, 1) := by decide +kernel
theorem dX8_simulate_18 : decode cX8_simulate 18 = .ok (.invokevirtual 125, 3) := by decide +kernel
theorem dX8_simulate_21 : decode cX8_simulate 21 = .ok (.ifCond .eq 5, 3) := by decide +kernel
theorem dX8_simulate_24 : decode cX8_simulate 24 = .ok (.iconst 0, 1) := by decide +kernel
theorem dX8_simulate_25 : decode cX8_simulate 25 = .ok (.ireturn, 1) := by decide +kernel
theorem dX8_simulate_26 : decode cX8_simulate 26 = .ok (.aload_n 0, 1) := by decide +kernel
theorem dX8_simulate_27 : decode cX8_simulate 27 = .ok (.getfield 13, 3) := by decide +kernel
theorem dX8_simulate_30 : decode cX8_simulate 30 = .ok (.iconst 0, 1) := by decide +kernel
theorem dX8_simulate_31 : decode cX8_simulate 31 = .ok (.aload_n 0, 1) := by decide +kernel
theorem dX8_simulate_32 : decode cX8_simulate 32 = .ok (.getfield 16, 3) := by decide +kernel
theorem dX8_simulate_35 : decode cX8_simulate 35 = .ok (.iconst 0, 1) := by decide +kernel
theorem dX8_simulate_36 : decode cX8_simulate 36 = .ok (.invokestatic 169, 3) := by decide +kernel
theorem dX8_simulate_39 : decode cX8_simulate 39 = .ok (.lload_n 1, 1) := by decide +kernel
theorem dX8_simulate_40 : decode cX8_simulate 40 = .ok (.lstore 4, 2) := by decide +kernel
theorem dX8_simulate_42 : decode cX8_simulate 42 = .ok (.iconst 0, 1) := by decide +kernel
theorem dX8_simulate_43 : decode cX8_simulate 43 = .ok (.istore 6, 2) := by decide +kernel
theorem dX8_simulate_45 : decode cX8_simulate 45 = .ok (.iload 6, 2) := by decide +kernel
theorem dX8_simulate_47 : decode cX8_simulate 47 = .ok (.iload_n 3, 1) := by decide +kernel
theorem dX8_simulate_48 : decode cX8_simulate 48 = .ok (.if_icmp .ge 34, 3) := by decide +kernel
theorem dX8_simulate_51 : decode cX8_simulate 51 = .ok (.lload 4, 2) := by decide +kernel
theorem dX8_simulate_53 : decode cX8_simulate 53 = .ok (.ldc2_w 227, 3) := by decide +kernel
theorem dX8_simulate_56 : decode cX8_simulate 56 = .ok (.lmul, 1) := by decide +kernel
theorem dX8_simulate_57 : decode cX8_simulate 57 = .ok (.ldc2_w 229, 3) := by decide +kernel
theorem dX8_simulate_60 : decode cX8_simulate 60 = .ok (.ladd, 1) := by decide +kernel
theorem dX8_simulate_61 : decode cX8_simulate 61 = .ok (.lstore 4, 2) := by decide +kernel
theorem dX8_simulate_63 : decode cX8_simulate 63 = .ok (.aload_n 0, 1) := by decide +kernel
theorem dX8_simulate_64 : decode cX8_simulate 64 = .ok (.getfield 16, 3) := by decide +kernel
theorem dX8_simulate_67 : decode cX8_simulate 67 = .ok (.lload 4, 2) := by decide +kernel
theorem dX8_simulate_69 : decode cX8_simulate 69 = .ok (.bipush 33, 2) := by decide +kernel
theorem dX8_simulate_71 : decode cX8_simulate 71 = .ok (.lushr, 1) := by decide +kernel
theorem dX8_simulate_72 : decode cX8_simulate 72 = .ok (.l2i, 1) := by decide +kernel
theorem dX8_simulate_73 : decode cX8_simulate 73 = .ok (.invokestatic 231, 3) := by decide +kernel
theorem dX8_simulate_76 : decode cX8_simulate 76 = .ok (.iinc 6 1, 3) := by decide +kernel
theorem dX8_simulate_79 : decode cX8_simulate 79 = .ok (.goto (-34), 3) := by decide +kernel
theorem dX8_simulate_82 : decode cX8_simulate 82 = .ok (.aload_n 0, 1) := by decide +kernel
theorem dX8_simulate_83 : decode cX8_simulate 83 = .ok (.getfield 16, 3) := by decide +kernel
theorem dX8_simulate_86 : decode cX8_simulate 86 = .ok (.iconst 5, 1) := by decide +kernel
theorem dX8_simulate_87 : decode cX8_simulate 87 = .ok (.iaload, 1) := by decide +kernel
theorem dX8_simulate_88 : decode cX8_simulate 88 = .ok (.aload_n 0, 1) := by decide +kernel
theorem dX8_simulate_89 : decode cX8_simulate 89 = .ok (.getfield 13, 3) := by decide +kernel
theorem dX8_simulate_92 : decode cX8_simulate 92 = .ok (.iconst 5, 1) := by decide +kernel
theorem dX8_simulate_93 : decode cX8_simulate 93 = .ok (.iaload, 1) := by decide +kernel
theorem dX8_simulate_94 : decode cX8_simulate 94 = .ok (.isub, 1) := by decide +kernel
theorem dX8_simulate_95 : decode cX8_simulate 95 = .ok (.istore 6, 2) := by decide +kernel
theorem dX8_simulate_97 : decode cX8_simulate 97 = .ok (.sipush 10000, 3) := by decide +kernel
theorem dX8_simulate_100 : decode cX8_simulate 100 = .ok (.aload_n 0, 1) := by decide +kernel
theorem dX8_simulate_101 : decode cX8_simulate 101 = .ok (.getfield 16, 3) := by decide +kernel
theorem dX8_simulate_104 : decode cX8_simulate 104 = .ok (.invokestatic 178, 3) := by decide +kernel
theorem dX8_simulate_107 : decode cX8_simulate 107 = .ok (.aload_n 0, 1) := by decide +kernel
theorem dX8_simulate_108 : decode cX8_simulate 108 = .ok (.getfield 13, 3) := by decide +kernel
theorem dX8_simulate_111 : decode cX8_simulate 111 = .ok (.invokestatic 178, 3) := by decide +kernel
theorem dX8_simulate_114 : decode cX8_simulate 114 = .ok (.isub, 1) := by decide +kernel
theorem dX8_simulate_115 : decode cX8_simulate 115 = .ok (.imul, 1) := by decide +kernel
theorem dX8_simulate_116 : decode cX8_simulate 116 = .ok (.iload 6, 2) := by decide +kernel
theorem dX8_simulate_118 : decode cX8_simulate 118 = .ok (.sipush 9999, 3) := by decide +kernel
theorem dX8_simulate_121 : decode cX8_simulate 121 = .ok (.if_icmp .le 9, 3) := by decide +kernel
theorem dX8_simulate_124 : decode cX8_simulate 124 = .ok (.sipush 9999, 3) := by decide +kernel
theorem dX8_simulate_127 : decode cX8_simulate 127 = .ok (.goto 5, 3) := by decide +kernel
theorem dX8_simulate_130 : decode cX8_simulate 130 = .ok (.iload 6, 2) := by decide +kernel
theorem dX8_simulate_132 : decode cX8_simulate 132 = .ok (.iadd, 1) := by decide +kernel
theorem dX8_simulate_133 : decode cX8_simulate 133 = .ok (.ireturn, 1) := by decide +kernel
set_option maxRecDepth 20000 in
theorem ggX8_save_X8_in : GoodIn wsX8_save wsX8_in := goodIn_r _ [7] (by decide +kernel) (by decide +kernel)
set_option maxRecDepth 20000 in
theorem gX8_save_X8_in : GoodIn wsX8_save (va_wsS RX8 37 yX8_in wsX8_in) := goodIn_app (goodIn_of _ (by decide +kernel)) ggX8_save_X8_in
set_option maxRecDepth 20000 in
theorem ggX8_save_X8_refused : GoodIn wsX8_save wsX8_refused := goodIn_r _ [11, 12, 22, 23, 24, 25, 26, 27, 28, 29, 30, 31, 32] (by decide +kernel) (by decide +kernel)
set_option maxRecDepth 20000 in
theorem gX8_save_X8_refused : GoodIn wsX8_save (wsV RX8 125 RX8 yX8_refused wsX8_refused) := goodIn_app (goodIn_of _ (by decide +kernel)) ggX8_save_X8_refused
set_option maxRecDepth 20000 in
theorem ggX8_save_X8_copyState : GoodIn wsX8_save wsX8_copyState := goodIn_r _ [15] (by decide +kernel) (by decide +kernel)
set_option maxRecDepth 20000 in
theorem gX8_save_X8_copyState : GoodIn wsX8_save (va_wsS RX8 169 yX8_copyState wsX8_copyState) := goodIn_app (goodIn_of _ (by decide +kernel)) ggX8_save_X8_copyState
set_option maxRecDepth 20000 in
theorem ggX8_save_X8_shots : GoodIn wsX8_save wsX8_shots := goodIn_r _ [18, 19, 20, 6, 21] (by decide +kernel) (by decide +kernel)
set_option maxRecDepth 20000 in
theorem gX8_save_X8_shots : GoodIn wsX8_save (va_wsS RX8 178 yX8_shots wsX8_shots) := goodIn_app (goodIn_of _ (by decide +kernel)) ggX8_save_X8_shots
theorem dX8_save_0 : decode cX8_save 0 = .ok (.aload_n 0, 1) := by decide +kernel
theorem dX8_save_1 : decode cX8_save 1 = .ok (.iload_n 1, 1) := by decide +kernel
theorem dX8_save_2 : decode cX8_save 2 = .ok (.i2l, 1) := by decide +kernel
theorem dX8_save_3 : decode cX8_save 3 = .ok (.lconst 0, 1) := by decide +kernel
theorem dX8_save_4 : decode cX8_save 4 = .ok (.lconst 1, 1) := by decide +kernel
theorem dX8_save_5 : decode cX8_save 5 = .ok (.invokestatic 37, 3) := by decide +kernel
theorem dX8_save_8 : decode cX8_save 8 = .ok (.ifCond .eq 7, 3) := by decide +kernel
theorem dX8_save_11 : decode cX8_save 11 = .ok (.iconst 0, 1) := by decide +kernel
theorem dX8_save_12 : decode cX8_save 12 = .ok (.goto 4, 3) := by decide +kernel
theorem dX8_save_15 : decode cX8_save 15 = .ok (.iconst 1, 1) := by decide +kernel
theorem dX8_save_16 : decode cX8_save 16 = .ok (.invokevirtual 125, 3) := by decide +kernel
theorem dX8_save_19 : decode cX8_save 19 = .ok (.ifCond .eq 5, 3) := by decide +kernel
theorem dX8_save_22 : decode cX8_save 22 = .ok (.iconst 0, 1) := by decide +kernel
theorem dX8_save_23 : decode cX8_save 23 = .ok (.ireturn, 1) := by decide +kernel
theorem dX8_save_24 : decode cX8_save 24 = .ok (.aload_n 0, 1) := by decide +kernel
theorem dX8_save_25 : decode cX8_save 25 = .ok (.getfield 13, 3) := by decide +kernel
theorem dX8_save_28 : decode cX8_save 28 = .ok (.iconst 0, 1) := by decide +kernel
theorem dX8_save_29 : decode cX8_save 29 = .ok (.aload_n 0, 1) := by decide +kernel
theorem dX8_save_30 : decode cX8_save 30 = .ok (.getfield 22, 3) := by decide +kernel
theorem dX8_save_33 : decode cX8_save 33 = .ok (.sipush 164, 3) := by decide +kernel
theorem dX8_save_36 : decode cX8_save 36 = .ok (.iload_n 1, 1) := by decide +kernel
theorem dX8_save_37 : decode cX8_save 37 = .ok (.imul, 1) := by decide +kernel
theorem dX8_save_38 : decode cX8_save 38 = .ok (.invokestatic 169, 3) := by decide +kernel
theorem dX8_save_41 : decode cX8_save 41 = .ok (.aload_n 0, 1) := by decide +kernel
theorem dX8_save_42 : decode cX8_save 42 = .ok (.getfield 25, 3) := by decide +kernel
theorem dX8_save_45 : decode cX8_save 45 = .ok (.iload_n 1, 1) := by decide +kernel
theorem dX8_save_46 : decode cX8_save 46 = .ok (.iconst 1, 1) := by decide +kernel
theorem dX8_save_47 : decode cX8_save 47 = .ok (.bastore, 1) := by decide +kernel
theorem dX8_save_48 : decode cX8_save 48 = .ok (.aload_n 0, 1) := by decide +kernel
theorem dX8_save_49 : decode cX8_save 49 = .ok (.getfield 13, 3) := by decide +kernel
theorem dX8_save_52 : decode cX8_save 52 = .ok (.invokestatic 178, 3) := by decide +kernel
theorem dX8_save_55 : decode cX8_save 55 = .ok (.ireturn, 1) := by decide +kernel
set_option maxRecDepth 20000 in
theorem ggX8_restore_X8_in : GoodIn wsX8_restore wsX8_in := goodIn_r _ [8] (by decide +kernel) (by decide +kernel)
set_option maxRecDepth 20000 in
theorem gX8_restore_X8_in : GoodIn wsX8_restore (va_wsS RX8 37 yX8_in wsX8_in) := goodIn_app (goodIn_of _ (by decide +kernel)) ggX8_restore_X8_in
set_option maxRecDepth 20000 in
theorem ggX8_restore_X8_refused : GoodIn wsX8_restore wsX8_refused := goodIn_r _ [12, 13, 23, 24, 25, 26, 27, 28, 29, 30, 31, 32, 33] (by decide +kernel) (by decide +kernel)
set_option maxRecDepth 20000 in
theorem gX8_restore_X8_refused : GoodIn wsX8_restore (wsV RX8 125 RX8 yX8_refused wsX8_refused) := goodIn_app (goodIn_of _ (by decide +kernel)) ggX8_restore_X8_refused
set_option maxRecDepth 20000 in
theorem ggX8_restore_X8_copyState : GoodIn wsX8_restore wsX8_copyState := goodIn_r _ [16] (by decide +kernel) (by decide +kernel)
set_option maxRecDepth 20000 in
theorem gX8_restore_X8_copyState : GoodIn wsX8_restore (va_wsS RX8 169 yX8_copyState wsX8_copyState) := goodIn_app (goodIn_of _ (by decide +kernel)) ggX8_restore_X8_copyState
set_option maxRecDepth 20000 in
theorem ggX8_restore_X8_shots : GoodIn wsX8_restore wsX8_shots := goodIn_r _ [19, 20, 21, 7, 22] (by decide +kernel) (by decide +kernel)
set_option maxRecDepth 20000 in
theorem gX8_restore_X8_shots : GoodIn wsX8_restore (va_wsS RX8 178 yX8_shots wsX8_shots) := goodIn_app (goodIn_of _ (by decide +kernel)) ggX8_restore_X8_shots
theorem dX8_restore_0 : decode cX8_restore 0 = .ok (.aload_n 0, 1) := by decide +kernel
theorem dX8_restore_1 : decode cX8_restore 1 = .ok (.iload_n 1, 1) := by decide +kernel
theorem dX8_restore_2 : decode cX8_restore 2 = .ok (.i2l, 1) := by decide +kernel
theorem dX8_restore_3 : decode cX8_restore 3 = .ok (.lconst 0, 1) := by decide +kernel
theorem dX8_restore_4 : decode cX8_restore 4 = .ok (.lconst 1, 1) := by decide +kernel
theorem dX8_restore_5 : decode cX8_restore 5 = .ok (.invokestatic 37, 3) := by decide +kernel
theorem dX8_restore_8 : decode cX8_restore 8 = .ok (.ifCond .ne 7, 3) := by decide +kernel
theorem dX8_restore_11 : decode cX8_restore 11 = .ok (.iconst 1, 1) := by decide +kernel
theorem dX8_restore_12 : decode cX8_restore 12 = .ok (.goto 17, 3) := by decide +kernel
theorem dX8_restore_15 : decode cX8_restore 15 = .ok (.aload_n 0, 1) := by decide +kernel
theorem dX8_restore_16 : decode cX8_restore 16 = .ok (.getfield 25, 3) := by decide +kernel
theorem dX8_restore_19 : decode cX8_restore 19 = .ok (.iload_n 1, 1) := by decide +kernel
theorem dX8_restore_20 : decode cX8_restore 20 = .ok (.baload, 1) := by decide +kernel
theorem dX8_restore_21 : decode cX8_restore 21 = .ok (.ifCond .ne 7, 3) := by decide +kernel
theorem dX8_restore_24 : decode cX8_restore 24 = .ok (.iconst 2, 1) := by decide +kernel
theorem dX8_restore_25 : decode cX8_restore 25 = .ok (.goto 4, 3) := by decide +kernel
theorem dX8_restore_28 : decode cX8_restore 28 = .ok (.iconst 0, 1) := by decide +kernel
theorem dX8_restore_29 : decode cX8_restore 29 = .ok (.invokevirtual 125, 3) := by decide +kernel
theorem dX8_restore_32 : decode cX8_restore 32 = .ok (.ifCond .eq 5, 3) := by decide +kernel
theorem dX8_restore_35 : decode cX8_restore 35 = .ok (.iconst 0, 1) := by decide +kernel
theorem dX8_restore_36 : decode cX8_restore 36 = .ok (.ireturn, 1) := by decide +kernel
theorem dX8_restore_37 : decode cX8_restore 37 = .ok (.aload_n 0, 1) := by decide +kernel
theorem dX8_restore_38 : decode cX8_restore 38 = .ok (.getfield 22, 3) := by decide +kernel
theorem dX8_restore_41 : decode cX8_restore 41 = .ok (.sipush 164, 3) := by decide +kernel
theorem dX8_restore_44 : decode cX8_restore 44 = .ok (.iload_n 1, 1) := by decide +kernel
theorem dX8_restore_45 : decode cX8_restore 45 = .ok (.imul, 1) := by decide +kernel
theorem dX8_restore_46 : decode cX8_restore 46 = .ok (.aload_n 0, 1) := by decide +kernel
theorem dX8_restore_47 : decode cX8_restore 47 = .ok (.getfield 13, 3) := by decide +kernel
theorem dX8_restore_50 : decode cX8_restore 50 = .ok (.iconst 0, 1) := by decide +kernel
theorem dX8_restore_51 : decode cX8_restore 51 = .ok (.invokestatic 169, 3) := by decide +kernel
theorem dX8_restore_54 : decode cX8_restore 54 = .ok (.aload_n 0, 1) := by decide +kernel
theorem dX8_restore_55 : decode cX8_restore 55 = .ok (.iconst 0, 1) := by decide +kernel
theorem dX8_restore_56 : decode cX8_restore 56 = .ok (.putfield 173, 3) := by decide +kernel
theorem dX8_restore_59 : decode cX8_restore 59 = .ok (.aload_n 0, 1) := by decide +kernel
theorem dX8_restore_60 : decode cX8_restore 60 = .ok (.getfield 13, 3) := by decide +kernel
theorem dX8_restore_63 : decode cX8_restore 63 = .ok (.invokestatic 178, 3) := by decide +kernel
theorem dX8_restore_66 : decode cX8_restore 66 = .ok (.ireturn, 1) := by decide +kernel
