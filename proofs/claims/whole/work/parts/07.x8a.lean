theorem ggX8_init_X8_clear : GoodIn wsX8_init wsX8_clear := goodIn_r _ [15] (by decide +kernel) (by decide +kernel)
set_option maxRecDepth 20000 in
theorem gX8_init_X8_clear : GoodIn wsX8_init (va_wsS RX8 29 yX8_clear wsX8_clear) := goodIn_app (goodIn_of _ (by decide +kernel)) ggX8_init_X8_clear
theorem dX8_init_0 : decode cX8_init 0 = .ok (.aload_n 0, 1) := by decide +kernel
theorem dX8_init_1 : decode cX8_init 1 = .ok (.invokespecial 1, 3) := by decide +kernel
theorem dX8_init_4 : decode cX8_init 4 = .ok (.aload_n 0, 1) := by decide +kernel
theorem dX8_init_5 : decode cX8_init 5 = .ok (.bipush 120, 2) := by decide +kernel
theorem dX8_init_7 : decode cX8_init 7 = .ok (.newarray .int, 2) := by decide +kernel
theorem dX8_init_9 : decode cX8_init 9 = .ok (.putfield 7, 3) := by decide +kernel
theorem dX8_init_12 : decode cX8_init 12 = .ok (.aload_n 0, 1) := by decide +kernel
theorem dX8_init_13 : decode cX8_init 13 = .ok (.sipush 164, 3) := by decide +kernel
theorem dX8_init_16 : decode cX8_init 16 = .ok (.newarray .int, 2) := by decide +kernel
theorem dX8_init_18 : decode cX8_init 18 = .ok (.putfield 13, 3) := by decide +kernel
theorem dX8_init_21 : decode cX8_init 21 = .ok (.aload_n 0, 1) := by decide +kernel
theorem dX8_init_22 : decode cX8_init 22 = .ok (.sipush 164, 3) := by decide +kernel
theorem dX8_init_25 : decode cX8_init 25 = .ok (.newarray .int, 2) := by decide +kernel
theorem dX8_init_27 : decode cX8_init 27 = .ok (.putfield 16, 3) := by decide +kernel
theorem dX8_init_30 : decode cX8_init 30 = .ok (.aload_n 0, 1) := by decide +kernel
theorem dX8_init_31 : decode cX8_init 31 = .ok (.sipush 2296, 3) := by decide +kernel
theorem dX8_init_34 : decode cX8_init 34 = .ok (.newarray .int, 2) := by decide +kernel
theorem dX8_init_36 : decode cX8_init 36 = .ok (.putfield 19, 3) := by decide +kernel
theorem dX8_init_39 : decode cX8_init 39 = .ok (.aload_n 0, 1) := by decide +kernel
theorem dX8_init_40 : decode cX8_init 40 = .ok (.sipush 328, 3) := by decide +kernel
theorem dX8_init_43 : decode cX8_init 43 = .ok (.newarray .int, 2) := by decide +kernel
theorem dX8_init_45 : decode cX8_init 45 = .ok (.putfield 22, 3) := by decide +kernel
theorem dX8_init_48 : decode cX8_init 48 = .ok (.aload_n 0, 1) := by decide +kernel
theorem dX8_init_49 : decode cX8_init 49 = .ok (.iconst 2, 1) := by decide +kernel
theorem dX8_init_50 : decode cX8_init 50 = .ok (.newarray .boolean, 2) := by decide +kernel
theorem dX8_init_52 : decode cX8_init 52 = .ok (.putfield 25, 3) := by decide +kernel
theorem dX8_init_55 : decode cX8_init 55 = .ok (.aload_n 0, 1) := by decide +kernel
theorem dX8_init_56 : decode cX8_init 56 = .ok (.getfield 13, 3) := by decide +kernel
theorem dX8_init_59 : decode cX8_init 59 = .ok (.invokestatic 29, 3) := by decide +kernel
theorem dX8_init_62 : decode cX8_init 62 = .ok (.return_, 1) := by decide +kernel
theorem dX8_thrown_0 : decode cX8_thrown 0 = .ok (.aload_n 0, 1) := by decide +kernel
theorem dX8_thrown_1 : decode cX8_thrown 1 = .ok (.getfield 33, 3) := by decide +kernel
theorem dX8_thrown_4 : decode cX8_thrown 4 = .ok (.ireturn, 1) := by decide +kernel
theorem dX8_refused_0 : decode cX8_refused 0 = .ok (.aload_n 0, 1) := by decide +kernel
theorem dX8_refused_1 : decode cX8_refused 1 = .ok (.iload_n 1, 1) := by decide +kernel
theorem dX8_refused_2 : decode cX8_refused 2 = .ok (.putfield 33, 3) := by decide +kernel
theorem dX8_refused_5 : decode cX8_refused 5 = .ok (.iload_n 1, 1) := by decide +kernel
theorem dX8_refused_6 : decode cX8_refused 6 = .ok (.ifCond .le 7, 3) := by decide +kernel
theorem dX8_refused_9 : decode cX8_refused 9 = .ok (.iconst 1, 1) := by decide +kernel
theorem dX8_refused_10 : decode cX8_refused 10 = .ok (.goto 4, 3) := by decide +kernel
theorem dX8_refused_13 : decode cX8_refused 13 = .ok (.iconst 0, 1) := by decide +kernel
theorem dX8_refused_14 : decode cX8_refused 14 = .ok (.ireturn, 1) := by decide +kernel
theorem dX8_in_0 : decode cX8_in 0 = .ok (.lload_n 0, 1) := by decide +kernel
theorem dX8_in_1 : decode cX8_in 1 = .ok (.lload_n 2, 1) := by decide +kernel
theorem dX8_in_2 : decode cX8_in 2 = .ok (.lcmp, 1) := by decide +kernel
theorem dX8_in_3 : decode cX8_in 3 = .ok (.ifCond .lt 14, 3) := by decide +kernel
theorem dX8_in_6 : decode cX8_in 6 = .ok (.lload_n 0, 1) := by decide +kernel
theorem dX8_in_7 : decode cX8_in 7 = .ok (.lload 4, 2) := by decide +kernel
theorem dX8_in_9 : decode cX8_in 9 = .ok (.lcmp, 1) := by decide +kernel
theorem dX8_in_10 : decode cX8_in 10 = .ok (.ifCond .gt 7, 3) := by decide +kernel
theorem dX8_in_13 : decode cX8_in 13 = .ok (.iconst 1, 1) := by decide +kernel
theorem dX8_in_14 : decode cX8_in 14 = .ok (.goto 4, 3) := by decide +kernel
theorem dX8_in_17 : decode cX8_in 17 = .ok (.iconst 0, 1) := by decide +kernel
theorem dX8_in_18 : decode cX8_in 18 = .ok (.ireturn, 1) := by decide +kernel
theorem dX8_copyState_0 : decode cX8_copyState 0 = .ok (.iconst 0, 1) := by decide +kernel
theorem dX8_copyState_1 : decode cX8_copyState 1 = .ok (.istore 4, 2) := by decide +kernel
theorem dX8_copyState_3 : decode cX8_copyState 3 = .ok (.iload 4, 2) := by decide +kernel
theorem dX8_copyState_5 : decode cX8_copyState 5 = .ok (.sipush 164, 3) := by decide +kernel
theorem dX8_copyState_8 : decode cX8_copyState 8 = .ok (.if_icmp .ge 21, 3) := by decide +kernel
theorem dX8_copyState_11 : decode cX8_copyState 11 = .ok (.aload_n 2, 1) := by decide +kernel
theorem dX8_copyState_12 : decode cX8_copyState 12 = .ok (.iload_n 3, 1) := by decide +kernel
theorem dX8_copyState_13 : decode cX8_copyState 13 = .ok (.iload 4, 2) := by decide +kernel
theorem dX8_copyState_15 : decode cX8_copyState 15 = .ok (.iadd, 1) := by decide +kernel
theorem dX8_copyState_16 : decode cX8_copyState 16 = .ok (.aload_n 0, 1) := by decide +kernel
theorem dX8_copyState_17 : decode cX8_copyState 17 = .ok (.iload_n 1, 1) := by decide +kernel
theorem dX8_copyState_18 : decode cX8_copyState 18 = .ok (.iload 4, 2) := by decide +kernel
theorem dX8_copyState_20 : decode cX8_copyState 20 = .ok (.iadd, 1) := by decide +kernel
theorem dX8_copyState_21 : decode cX8_copyState 21 = .ok (.iaload, 1) := by decide +kernel
theorem dX8_copyState_22 : decode cX8_copyState 22 = .ok (.iastore, 1) := by decide +kernel
theorem dX8_copyState_23 : decode cX8_copyState 23 = .ok (.iinc 4 1, 3) := by decide +kernel
theorem dX8_copyState_26 : decode cX8_copyState 26 = .ok (.goto (-23), 3) := by decide +kernel
theorem dX8_copyState_29 : decode cX8_copyState 29 = .ok (.return_, 1) := by decide +kernel
theorem dX8_clear_0 : decode cX8_clear 0 = .ok (.iconst 0, 1) := by decide +kernel
theorem dX8_clear_1 : decode cX8_clear 1 = .ok (.istore_n 1, 1) := by decide +kernel
theorem dX8_clear_2 : decode cX8_clear 2 = .ok (.iload_n 1, 1) := by decide +kernel
theorem dX8_clear_3 : decode cX8_clear 3 = .ok (.sipush 164, 3) := by decide +kernel
theorem dX8_clear_6 : decode cX8_clear 6 = .ok (.if_icmp .ge 13, 3) := by decide +kernel
theorem dX8_clear_9 : decode cX8_clear 9 = .ok (.aload_n 0, 1) := by decide +kernel
theorem dX8_clear_10 : decode cX8_clear 10 = .ok (.iload_n 1, 1) := by decide +kernel
theorem dX8_clear_11 : decode cX8_clear 11 = .ok (.iconst 0, 1) := by decide +kernel
theorem dX8_clear_12 : decode cX8_clear 12 = .ok (.iastore, 1) := by decide +kernel
theorem dX8_clear_13 : decode cX8_clear 13 = .ok (.iinc 1 1, 3) := by decide +kernel
theorem dX8_clear_16 : decode cX8_clear 16 = .ok (.goto (-14), 3) := by decide +kernel
theorem dX8_clear_19 : decode cX8_clear 19 = .ok (.aload_n 0, 1) := by decide +kernel
theorem dX8_clear_20 : decode cX8_clear 20 = .ok (.bipush 7, 2) := by decide +kernel
theorem dX8_clear_22 : decode cX8_clear 22 = .ok (.sipush 600, 3) := by decide +kernel
theorem dX8_clear_25 : decode cX8_clear 25 = .ok (.iastore, 1) := by decide +kernel
theorem dX8_clear_26 : decode cX8_clear 26 = .ok (.aload_n 0, 1) := by decide +kernel
theorem dX8_clear_27 : decode cX8_clear 27 = .ok (.bipush 8, 2) := by decide +kernel
theorem dX8_clear_29 : decode cX8_clear 29 = .ok (.bipush 10, 2) := by decide +kernel
theorem dX8_clear_31 : decode cX8_clear 31 = .ok (.iastore, 1) := by decide +kernel
theorem dX8_clear_32 : decode cX8_clear 32 = .ok (.aload_n 0, 1) := by decide +kernel
theorem dX8_clear_33 : decode cX8_clear 33 = .ok (.bipush 9, 2) := by decide +kernel
theorem dX8_clear_35 : decode cX8_clear 35 = .ok (.iconst 5, 1) := by decide +kernel
theorem dX8_clear_36 : decode cX8_clear 36 = .ok (.iastore, 1) := by decide +kernel
theorem dX8_clear_37 : decode cX8_clear 37 = .ok (.return_, 1) := by decide +kernel
set_option maxRecDepth 20000 in
theorem ggX8_isExtra_X8_in : GoodIn wsX8_isExtra wsX8_in := goodIn_r _ [4] (by decide +kernel) (by decide +kernel)
set_option maxRecDepth 20000 in
theorem gX8_isExtra_X8_in : GoodIn wsX8_isExtra (va_wsS RX8 37 yX8_in wsX8_in) := goodIn_app (goodIn_of _ (by decide +kernel)) ggX8_isExtra_X8_in
theorem dX8_isExtra_0 : decode cX8_isExtra 0 = .ok (.iload_n 1, 1) := by decide +kernel
theorem dX8_isExtra_1 : decode cX8_isExtra 1 = .ok (.i2l, 1) := by decide +kernel
theorem dX8_isExtra_2 : decode cX8_isExtra 2 = .ok (.lconst 0, 1) := by decide +kernel
theorem dX8_isExtra_3 : decode cX8_isExtra 3 = .ok (.aload_n 0, 1) := by decide +kernel
theorem dX8_isExtra_4 : decode cX8_isExtra 4 = .ok (.iconst 0, 1) := by decide +kernel
theorem dX8_isExtra_5 : decode cX8_isExtra 5 = .ok (.iaload, 1) := by decide +kernel
theorem dX8_isExtra_6 : decode cX8_isExtra 6 = .ok (.iconst 1, 1) := by decide +kernel
theorem dX8_isExtra_7 : decode cX8_isExtra 7 = .ok (.isub, 1) := by decide +kernel
theorem dX8_isExtra_8 : decode cX8_isExtra 8 = .ok (.i2l, 1) := by decide +kernel
theorem dX8_isExtra_9 : decode cX8_isExtra 9 = .ok (.invokestatic 37, 3) := by decide +kernel
theorem dX8_isExtra_12 : decode cX8_isExtra 12 = .ok (.ireturn, 1) := by decide +kernel
set_option maxRecDepth 20000 in
theorem ggX8_isScene_X8_in : GoodIn wsX8_isScene wsX8_in := goodIn_r _ [4] (by decide +kernel) (by decide +kernel)
set_option maxRecDepth 20000 in
theorem gX8_isScene_X8_in : GoodIn wsX8_isScene (va_wsS RX8 37 yX8_in wsX8_in) := goodIn_app (goodIn_of _ (by decide +kernel)) ggX8_isScene_X8_in
theorem dX8_isScene_0 : decode cX8_isScene 0 = .ok (.iload_n 1, 1) := by decide +kernel
theorem dX8_isScene_1 : decode cX8_isScene 1 = .ok (.i2l, 1) := by decide +kernel
theorem dX8_isScene_2 : decode cX8_isScene 2 = .ok (.lconst 0, 1) := by decide +kernel
theorem dX8_isScene_3 : decode cX8_isScene 3 = .ok (.aload_n 0, 1) := by decide +kernel
theorem dX8_isScene_4 : decode cX8_isScene 4 = .ok (.iconst 1, 1) := by decide +kernel
theorem dX8_isScene_5 : decode cX8_isScene 5 = .ok (.iaload, 1) := by decide +kernel
theorem dX8_isScene_6 : decode cX8_isScene 6 = .ok (.iconst 1, 1) := by decide +kernel
theorem dX8_isScene_7 : decode cX8_isScene 7 = .ok (.isub, 1) := by decide +kernel
theorem dX8_isScene_8 : decode cX8_isScene 8 = .ok (.i2l, 1) := by decide +kernel
theorem dX8_isScene_9 : decode cX8_isScene 9 = .ok (.invokestatic 37, 3) := by decide +kernel
theorem dX8_isScene_12 : decode cX8_isScene 12 = .ok (.ireturn, 1) := by decide +kernel
theorem dX8_of_0 : decode cX8_of 0 = .ok (.aload_n 0, 1) := by decide +kernel
theorem dX8_of_1 : decode cX8_of 1 = .ok (.bipush 10, 2) := by decide +kernel
theorem dX8_of_3 : decode cX8_of 3 = .ok (.bipush 6, 2) := by decide +kernel
theorem dX8_of_5 : decode cX8_of 5 = .ok (.iload_n 1, 1) := by decide +kernel
theorem dX8_of_6 : decode cX8_of 6 = .ok (.imul, 1) := by decide +kernel
theorem dX8_of_7 : decode cX8_of 7 = .ok (.iadd, 1) := by decide +kernel
theorem dX8_of_8 : decode cX8_of 8 = .ok (.iload_n 2, 1) := by decide +kernel
theorem dX8_of_9 : decode cX8_of 9 = .ok (.iadd, 1) := by decide +kernel
theorem dX8_of_10 : decode cX8_of 10 = .ok (.iaload, 1) := by decide +kernel
theorem dX8_of_11 : decode cX8_of 11 = .ok (.ireturn, 1) := by decide +kernel
theorem dX8_lay_0 : decode cX8_lay 0 = .ok (.aload_n 0, 1) := by decide +kernel
theorem dX8_lay_1 : decode cX8_lay 1 = .ok (.bipush 10, 2) := by decide +kernel
theorem dX8_lay_3 : decode cX8_lay 3 = .ok (.bipush 6, 2) := by decide +kernel
theorem dX8_lay_5 : decode cX8_lay 5 = .ok (.iload_n 1, 1) := by decide +kernel
theorem dX8_lay_6 : decode cX8_lay 6 = .ok (.imul, 1) := by decide +kernel
theorem dX8_lay_7 : decode cX8_lay 7 = .ok (.iadd, 1) := by decide +kernel
theorem dX8_lay_8 : decode cX8_lay 8 = .ok (.iload_n 2, 1) := by decide +kernel
theorem dX8_lay_9 : decode cX8_lay 9 = .ok (.iadd, 1) := by decide +kernel
theorem dX8_lay_10 : decode cX8_lay 10 = .ok (.iload_n 3, 1) := by decide +kernel
theorem dX8_lay_11 : decode cX8_lay 11 = .ok (.iastore, 1) := by decide +kernel
theorem dX8_lay_12 : decode cX8_lay 12 = .ok (.return_, 1) := by decide +kernel
theorem dX8_told_0 : decode cX8_told 0 = .ok (.aload_n 0, 1) := by decide +kernel
theorem dX8_told_1 : decode cX8_told 1 = .ok (.bipush 94, 2) := by decide +kernel
theorem dX8_told_3 : decode cX8_told 3 = .ok (.bipush 7, 2) := by decide +kernel
theorem dX8_told_5 : decode cX8_told 5 = .ok (.iload_n 1, 1) := by decide +kernel
theorem dX8_told_6 : decode cX8_told 6 = .ok (.imul, 1) := by decide +kernel
theorem dX8_told_7 : decode cX8_told 7 = .ok (.iadd, 1) := by decide +kernel
theorem dX8_told_8 : decode cX8_told 8 = .ok (.iload_n 2, 1) := by decide +kernel
theorem dX8_told_9 : decode cX8_told 9 = .ok (.iadd, 1) := by decide +kernel
theorem dX8_told_10 : decode cX8_told 10 = .ok (.iaload, 1) := by decide +kernel
theorem dX8_told_11 : decode cX8_told 11 = .ok (.ireturn, 1) := by decide +kernel
theorem dX8_has_0 : decode cX8_has 0 = .ok (.iload_n 0, 1) := by decide +kernel
theorem dX8_has_1 : decode cX8_has 1 = .ok (.iload_n 1, 1) := by decide +kernel
theorem dX8_has_2 : decode cX8_has 2 = .ok (.ishr, 1) := by decide +kernel
theorem dX8_has_3 : decode cX8_has 3 = .ok (.iconst 1, 1) := by decide +kernel
theorem dX8_has_4 : decode cX8_has 4 = .ok (.iand, 1) := by decide +kernel
theorem dX8_has_5 : decode cX8_has 5 = .ok (.iconst 1, 1) := by decide +kernel
theorem dX8_has_6 : decode cX8_has 6 = .ok (.if_icmp .ne 7, 3) := by decide +kernel
theorem dX8_has_9 : decode cX8_has 9 = .ok (.iconst 1, 1) := by decide +kernel
theorem dX8_has_10 : decode cX8_has 10 = .ok (.goto 4, 3) := by decide +kernel
theorem dX8_has_13 : decode cX8_has 13 = .ok (.iconst 0, 1) := by decide +kernel
theorem dX8_has_14 : decode cX8_has 14 = .ok (.ireturn, 1) := by decide +kernel
theorem dX8_bits_0 : decode cX8_bits 0 = .ok (.iconst 0, 1) := by decide +kernel
theorem dX8_bits_1 : decode cX8_bits 1 = .ok (.istore_n 1, 1) := by decide +kernel
theorem dX8_bits_2 : decode cX8_bits 2 = .ok (.iconst 0, 1) := by decide +kernel
theorem dX8_bits_3 : decode cX8_bits 3 = .ok (.istore_n 2, 1) := by decide +kernel
theorem dX8_bits_4 : decode cX8_bits 4 = .ok (.iload_n 2, 1) := by decide +kernel
theorem dX8_bits_5 : decode cX8_bits 5 = .ok (.bipush 14, 2) := by decide +kernel
theorem dX8_bits_7 : decode cX8_bits 7 = .ok (.if_icmp .ge 17, 3) := by decide +kernel
theorem dX8_bits_10 : decode cX8_bits 10 = .ok (.iload_n 1, 1) := by decide +kernel
theorem dX8_bits_11 : decode cX8_bits 11 = .ok (.iload_n 0, 1) := by decide +kernel
theorem dX8_bits_12 : decode cX8_bits 12 = .ok (.iload_n 2, 1) := by decide +kernel
theorem dX8_bits_13 : decode cX8_bits 13 = .ok (.ishr, 1) := by decide +kernel
theorem dX8_bits_14 : decode cX8_bits 14 = .ok (.iconst 1, 1) := by decide +kernel
theorem dX8_bits_15 : decode cX8_bits 15 = .ok (.iand, 1) := by decide +kernel
theorem dX8_bits_16 : decode cX8_bits 16 = .ok (.iadd, 1) := by decide +kernel
theorem dX8_bits_17 : decode cX8_bits 17 = .ok (.istore_n 1, 1) := by decide +kernel
theorem dX8_bits_18 : decode cX8_bits 18 = .ok (.iinc 2 1, 3) := by decide +kernel
theorem dX8_bits_21 : decode cX8_bits 21 = .ok (.goto (-17), 3) := by decide +kernel
theorem dX8_bits_24 : decode cX8_bits 24 = .ok (.iload_n 1, 1) := by decide +kernel
theorem dX8_bits_25 : decode cX8_bits 25 = .ok (.ireturn, 1) := by decide +kernel
set_option maxRecDepth 20000 in
theorem ggX8_facesOf_X8_has : GoodIn wsX8_facesOf wsX8_has := goodIn_r _ [4] (by decide +kernel) (by decide +kernel)
set_option maxRecDepth 20000 in
theorem gX8_facesOf_X8_has : GoodIn wsX8_facesOf (va_wsS RX8 41 yX8_has wsX8_has) := goodIn_app (goodIn_of _ (by decide +kernel)) ggX8_facesOf_X8_has
set_option maxRecDepth 20000 in
theorem ggX8_facesOf_X8_of : GoodIn wsX8_facesOf wsX8_of := goodIn_r _ [7] (by decide +kernel) (by decide +kernel)
set_option maxRecDepth 20000 in
theorem gX8_facesOf_X8_of : GoodIn wsX8_facesOf (va_wsS RX8 45 yX8_of wsX8_of) := goodIn_app (goodIn_of _ (by decide +kernel)) ggX8_facesOf_X8_of
theorem dX8_facesOf_0 : decode cX8_facesOf 0 = .ok (.iconst 0, 1) := by decide +kernel
theorem dX8_facesOf_1 : decode cX8_facesOf 1 = .ok (.istore_n 2, 1) := by decide +kernel
theorem dX8_facesOf_2 : decode cX8_facesOf 2 = .ok (.iconst 0, 1) := by decide +kernel
theorem dX8_facesOf_3 : decode cX8_facesOf 3 = .ok (.istore_n 3, 1) := by decide +kernel
theorem dX8_facesOf_4 : decode cX8_facesOf 4 = .ok (.iload_n 3, 1) := by decide +kernel
theorem dX8_facesOf_5 : decode cX8_facesOf 5 = .ok (.aload_n 0, 1) := by decide +kernel
theorem dX8_facesOf_6 : decode cX8_facesOf 6 = .ok (.iconst 0, 1) := by decide +kernel
theorem dX8_facesOf_7 : decode cX8_facesOf 7 = .ok (.iaload, 1) := by decide +kernel
theorem dX8_facesOf_8 : decode cX8_facesOf 8 = .ok (.if_icmp .ge 32, 3) := by decide +kernel
theorem dX8_facesOf_11 : decode cX8_facesOf 11 = .ok (.iload_n 2, 1) := by decide +kernel
theorem dX8_facesOf_12 : decode cX8_facesOf 12 = .ok (.iload_n 1, 1) := by decide +kernel
theorem dX8_facesOf_13 : decode cX8_facesOf 13 = .ok (.iload_n 3, 1) := by decide +kernel
theorem dX8_facesOf_14 : decode cX8_facesOf 14 = .ok (.invokestatic 41, 3) := by decide +kernel
theorem dX8_facesOf_17 : decode cX8_facesOf 17 = .ok (.ifCond .eq 14, 3) := by decide +kernel
theorem dX8_facesOf_20 : decode cX8_facesOf 20 = .ok (.iconst 1, 1) := by decide +kernel
theorem dX8_facesOf_21 : decode cX8_facesOf 21 = .ok (.aload_n 0, 1) := by decide +kernel
theorem dX8_facesOf_22 : decode cX8_facesOf 22 = .ok (.iload_n 3, 1) := by decide +kernel
theorem dX8_facesOf_23 : decode cX8_facesOf 23 = .ok (.iconst 1, 1) := by decide +kernel
theorem dX8_facesOf_24 : decode cX8_facesOf 24 = .ok (.invokestatic 45, 3) := by decide +kernel
theorem dX8_facesOf_27 : decode cX8_facesOf 27 = .ok (.ishl, 1) := by decide +kernel
theorem dX8_facesOf_28 : decode cX8_facesOf 28 = .ok (.goto 4, 3) := by decide +kernel
theorem dX8_facesOf_31 : decode cX8_facesOf 31 = .ok (.iconst 0, 1) := by decide +kernel
theorem dX8_facesOf_32 : decode cX8_facesOf 32 = .ok (.ior, 1) := by decide +kernel
theorem dX8_facesOf_33 : decode cX8_facesOf 33 = .ok (.istore_n 2, 1) := by decide +kernel
theorem dX8_facesOf_34 : decode cX8_facesOf 34 = .ok (.iinc 3 1, 3) := by decide +kernel
theorem dX8_facesOf_37 : decode cX8_facesOf 37 = .ok (.goto (-33), 3) := by decide +kernel
theorem dX8_facesOf_40 : decode cX8_facesOf 40 = .ok (.iload_n 2, 1) := by decide +kernel
theorem dX8_facesOf_41 : decode cX8_facesOf 41 = .ok (.ireturn, 1) := by decide +kernel
set_option maxRecDepth 20000 in
theorem ggX8_seen_X8_told : GoodIn wsX8_seen wsX8_told := goodIn_r _ [4] (by decide +kernel) (by decide +kernel)
set_option maxRecDepth 20000 in
theorem gX8_seen_X8_told : GoodIn wsX8_seen (va_wsS RX8 49 yX8_told wsX8_told) := goodIn_app (goodIn_of _ (by decide +kernel)) ggX8_seen_X8_told
set_option maxRecDepth 20000 in
theorem ggX8_seen_X8_facesOf : GoodIn wsX8_seen wsX8_facesOf := goodIn_r _ [7, 8, 9, 3, 10, 11, 12, 13] (by decide +kernel) (by decide +kernel)
set_option maxRecDepth 20000 in
theorem gX8_seen_X8_facesOf : GoodIn wsX8_seen (va_wsS RX8 52 yX8_facesOf wsX8_facesOf) := goodIn_app (goodIn_of _ (by decide +kernel)) ggX8_seen_X8_facesOf
theorem dX8_seen_0 : decode cX8_seen 0 = .ok (.iconst 0, 1) := by decide +kernel
theorem dX8_seen_1 : decode cX8_seen 1 = .ok (.istore_n 3, 1) := by decide +kernel
theorem dX8_seen_2 : decode cX8_seen 2 = .ok (.iconst 0, 1) := by decide +kernel
theorem dX8_seen_3 : decode cX8_seen 3 = .ok (.istore 4, 2) := by decide +kernel
theorem dX8_seen_5 : decode cX8_seen 5 = .ok (.iload 4, 2) := by decide +kernel
theorem dX8_seen_7 : decode cX8_seen 7 = .ok (.aload_n 0, 1) := by decide +kernel
theorem dX8_seen_8 : decode cX8_seen 8 = .ok (.iconst 1, 1) := by decide +kernel
theorem dX8_seen_9 : decode cX8_seen 9 = .ok (.iaload, 1) := by decide +kernel
theorem dX8_seen_10 : decode cX8_seen 10 = .ok (.if_icmp .ge 98, 3) := by decide +kernel
theorem dX8_seen_13 : decode cX8_seen 13 = .ok (.iload 4, 2) := by decide +kernel
theorem dX8_seen_15 : decode cX8_seen 15 = .ok (.iload_n 1, 1) := by decide +kernel
theorem dX8_seen_16 : decode cX8_seen 16 = .ok (.if_icmp .eq 59, 3) := by decide +kernel
theorem dX8_seen_19 : decode cX8_seen 19 = .ok (.aload_n 0, 1) := by decide +kernel
theorem dX8_seen_20 : decode cX8_seen 20 = .ok (.iload 4, 2) := by decide +kernel
theorem dX8_seen_22 : decode cX8_seen 22 = .ok (.iconst 5, 1) := by decide +kernel
theorem dX8_seen_23 : decode cX8_seen 23 = .ok (.invokestatic 49, 3) := by decide +kernel
theorem dX8_seen_26 : decode cX8_seen 26 = .ok (.iconst 1, 1) := by decide +kernel
theorem dX8_seen_27 : decode cX8_seen 27 = .ok (.if_icmp .ne 48, 3) := by decide +kernel
theorem dX8_seen_30 : decode cX8_seen 30 = .ok (.aload_n 0, 1) := by decide +kernel
theorem dX8_seen_31 : decode cX8_seen 31 = .ok (.iload 4, 2) := by decide +kernel
theorem dX8_seen_33 : decode cX8_seen 33 = .ok (.iconst 2, 1) := by decide +kernel
theorem dX8_seen_34 : decode cX8_seen 34 = .ok (.invokestatic 49, 3) := by decide +kernel
theorem dX8_seen_37 : decode cX8_seen 37 = .ok (.aload_n 0, 1) := by decide +kernel
theorem dX8_seen_38 : decode cX8_seen 38 = .ok (.iload_n 1, 1) := by decide +kernel
theorem dX8_seen_39 : decode cX8_seen 39 = .ok (.iconst 2, 1) := by decide +kernel
theorem dX8_seen_40 : decode cX8_seen 40 = .ok (.invokestatic 49, 3) := by decide +kernel
theorem dX8_seen_43 : decode cX8_seen 43 = .ok (.if_icmp .ne 32, 3) := by decide +kernel
theorem dX8_seen_46 : decode cX8_seen 46 = .ok (.aload_n 0, 1) := by decide +kernel
theorem dX8_seen_47 : decode cX8_seen 47 = .ok (.iload 4, 2) := by decide +kernel
theorem dX8_seen_49 : decode cX8_seen 49 = .ok (.iconst 3, 1) := by decide +kernel
theorem dX8_seen_50 : decode cX8_seen 50 = .ok (.invokestatic 49, 3) := by decide +kernel
theorem dX8_seen_53 : decode cX8_seen 53 = .ok (.aload_n 0, 1) := by decide +kernel
theorem dX8_seen_54 : decode cX8_seen 54 = .ok (.iload_n 1, 1) := by decide +kernel
theorem dX8_seen_55 : decode cX8_seen 55 = .ok (.iconst 3, 1) := by decide +kernel
theorem dX8_seen_56 : decode cX8_seen 56 = .ok (.invokestatic 49, 3) := by decide +kernel
theorem dX8_seen_59 : decode cX8_seen 59 = .ok (.if_icmp .ne 7, 3) := by decide +kernel
theorem dX8_seen_62 : decode cX8_seen 62 = .ok (.iconst 1, 1) := by decide +kernel
theorem dX8_seen_63 : decode cX8_seen 63 = .ok (.goto 4, 3) := by decide +kernel
theorem dX8_seen_66 : decode cX8_seen 66 = .ok (.iconst 0, 1) := by decide +kernel
theorem dX8_seen_67 : decode cX8_seen 67 = .ok (.iload_n 2, 1) := by decide +kernel
theorem dX8_seen_68 : decode cX8_seen 68 = .ok (.if_icmp .ne 7, 3) := by decide +kernel
theorem dX8_seen_71 : decode cX8_seen 71 = .ok (.iconst 1, 1) := by decide +kernel
theorem dX8_seen_72 : decode cX8_seen 72 = .ok (.goto 4, 3) := by decide +kernel
theorem dX8_seen_75 : decode cX8_seen 75 = .ok (.iconst 0, 1) := by decide +kernel
theorem dX8_seen_76 : decode cX8_seen 76 = .ok (.istore 5, 2) := by decide +kernel
theorem dX8_seen_78 : decode cX8_seen 78 = .ok (.iload_n 3, 1) := by decide +kernel
theorem dX8_seen_79 : decode cX8_seen 79 = .ok (.iload 5, 2) := by decide +kernel
theorem dX8_seen_81 : decode cX8_seen 81 = .ok (.ifCond .eq 18, 3) := by decide +kernel
theorem dX8_seen_84 : decode cX8_seen 84 = .ok (.aload_n 0, 1) := by decide +kernel
theorem dX8_seen_85 : decode cX8_seen 85 = .ok (.aload_n 0, 1) := by decide +kernel
theorem dX8_seen_86 : decode cX8_seen 86 = .ok (.iload 4, 2) := by decide +kernel
theorem dX8_seen_88 : decode cX8_seen 88 = .ok (.bipush 6, 2) := by decide +kernel
theorem dX8_seen_90 : decode cX8_seen 90 = .ok (.invokestatic 49, 3) := by decide +kernel
theorem dX8_seen_93 : decode cX8_seen 93 = .ok (.invokestatic 52, 3) := by decide +kernel
theorem dX8_seen_96 : decode cX8_seen 96 = .ok (.goto 4, 3) := by decide +kernel
theorem dX8_seen_99 : decode cX8_seen 99 = .ok (.iconst 0, 1) := by decide +kernel
theorem dX8_seen_100 : decode cX8_seen 100 = .ok (.ior, 1) := by decide +kernel
theorem dX8_seen_101 : decode cX8_seen 101 = .ok (.istore_n 3, 1) := by decide +kernel
theorem dX8_seen_102 : decode cX8_seen 102 = .ok (.iinc 4 1, 3) := by decide +kernel
theorem dX8_seen_105 : decode cX8_seen 105 = .ok (.goto (-100), 3) := by decide +kernel
theorem dX8_seen_108 : decode cX8_seen 108 = .ok (.iload_n 3, 1) := by decide +kernel
theorem dX8_seen_109 : decode cX8_seen 109 = .ok (.ireturn, 1) := by decide +kernel
set_option maxRecDepth 20000 in
theorem ggX8_fits_X8_of : GoodIn wsX8_fits wsX8_of := goodIn_r _ [4] (by decide +kernel) (by decide +kernel)
set_option maxRecDepth 20000 in
theorem gX8_fits_X8_of : GoodIn wsX8_fits (va_wsS RX8 45 yX8_of wsX8_of) := goodIn_app (goodIn_of _ (by decide +kernel)) ggX8_fits_X8_of
set_option maxRecDepth 20000 in
theorem ggX8_fits_X8_told : GoodIn wsX8_fits wsX8_told := goodIn_r _ [7] (by decide +kernel) (by decide +kernel)
set_option maxRecDepth 20000 in
theorem gX8_fits_X8_told : GoodIn wsX8_fits (va_wsS RX8 49 yX8_told wsX8_told) := goodIn_app (goodIn_of _ (by decide +kernel)) ggX8_fits_X8_told
theorem dX8_fits_0 : decode cX8_fits 0 = .ok (.aload_n 0, 1) := by decide +kernel
theorem dX8_fits_1 : decode cX8_fits 1 = .ok (.iload_n 2, 1) := by decide +kernel
theorem dX8_fits_2 : decode cX8_fits 2 = .ok (.iconst 0, 1) := by decide +kernel
theorem dX8_fits_3 : decode cX8_fits 3 = .ok (.invokestatic 45, 3) := by decide +kernel
theorem dX8_fits_6 : decode cX8_fits 6 = .ok (.aload_n 0, 1) := by decide +kernel
theorem dX8_fits_7 : decode cX8_fits 7 = .ok (.iload_n 1, 1) := by decide +kernel
theorem dX8_fits_8 : decode cX8_fits 8 = .ok (.iconst 0, 1) := by decide +kernel
theorem dX8_fits_9 : decode cX8_fits 9 = .ok (.invokestatic 49, 3) := by decide +kernel
theorem dX8_fits_12 : decode cX8_fits 12 = .ok (.if_icmp .ne 7, 3) := by decide +kernel
theorem dX8_fits_15 : decode cX8_fits 15 = .ok (.iconst 1, 1) := by decide +kernel
theorem dX8_fits_16 : decode cX8_fits 16 = .ok (.goto 4, 3) := by decide +kernel
theorem dX8_fits_19 : decode cX8_fits 19 = .ok (.iconst 0, 1) := by decide +kernel
theorem dX8_fits_20 : decode cX8_fits 20 = .ok (.ireturn, 1) := by decide +kernel
set_option maxRecDepth 20000 in
theorem ggX8_hasTime_X8_of : GoodIn wsX8_hasTime wsX8_of := goodIn_r _ [4] (by decide +kernel) (by decide +kernel)
set_option maxRecDepth 20000 in
theorem gX8_hasTime_X8_of : GoodIn wsX8_hasTime (va_wsS RX8 45 yX8_of wsX8_of) := goodIn_app (goodIn_of _ (by decide +kernel)) ggX8_hasTime_X8_of
set_option maxRecDepth 20000 in
theorem ggX8_hasTime_X8_told : GoodIn wsX8_hasTime wsX8_told := goodIn_r _ [7] (by decide +kernel) (by decide +kernel)
set_option maxRecDepth 20000 in
theorem gX8_hasTime_X8_told : GoodIn wsX8_hasTime (va_wsS RX8 49 yX8_told wsX8_told) := goodIn_app (goodIn_of _ (by decide +kernel)) ggX8_hasTime_X8_told
theorem dX8_hasTime_0 : decode cX8_hasTime 0 = .ok (.aload_n 0, 1) := by decide +kernel
theorem dX8_hasTime_1 : decode cX8_hasTime 1 = .ok (.iload_n 2, 1) := by decide +kernel
theorem dX8_hasTime_2 : decode cX8_hasTime 2 = .ok (.iconst 2, 1) := by decide +kernel
theorem dX8_hasTime_3 : decode cX8_hasTime 3 = .ok (.invokestatic 45, 3) := by decide +kernel
theorem dX8_hasTime_6 : decode cX8_hasTime 6 = .ok (.aload_n 0, 1) := by decide +kernel
theorem dX8_hasTime_7 : decode cX8_hasTime 7 = .ok (.iload_n 1, 1) := by decide +kernel
theorem dX8_hasTime_8 : decode cX8_hasTime 8 = .ok (.iconst 4, 1) := by decide +kernel
theorem dX8_hasTime_9 : decode cX8_hasTime 9 = .ok (.invokestatic 49, 3) := by decide +kernel
theorem dX8_hasTime_12 : decode cX8_hasTime 12 = .ok (.iadd, 1) := by decide +kernel
theorem dX8_hasTime_13 : decode cX8_hasTime 13 = .ok (.aload_n 0, 1) := by decide +kernel
theorem dX8_hasTime_14 : decode cX8_hasTime 14 = .ok (.bipush 7, 2) := by decide +kernel
theorem dX8_hasTime_16 : decode cX8_hasTime 16 = .ok (.iaload, 1) := by decide +kernel
theorem dX8_hasTime_17 : decode cX8_hasTime 17 = .ok (.if_icmp .gt 7, 3) := by decide +kernel
theorem dX8_hasTime_20 : decode cX8_hasTime 20 = .ok (.iconst 1, 1) := by decide +kernel
theorem dX8_hasTime_21 : decode cX8_hasTime 21 = .ok (.goto 4, 3) := by decide +kernel
theorem dX8_hasTime_24 : decode cX8_hasTime 24 = .ok (.iconst 0, 1) := by decide +kernel
theorem dX8_hasTime_25 : decode cX8_hasTime 25 = .ok (.ireturn, 1) := by decide +kernel
set_option maxRecDepth 20000 in
theorem ggX8_isFree_X8_fits : GoodIn wsX8_isFree wsX8_fits := goodIn_r _ [4, 5, 6, 3, 7, 8, 9, 10] (by decide +kernel) (by decide +kernel)
set_option maxRecDepth 20000 in
theorem gX8_isFree_X8_fits : GoodIn wsX8_isFree (va_wsS RX8 56 yX8_fits wsX8_fits) := goodIn_app (goodIn_of _ (by decide +kernel)) ggX8_isFree_X8_fits
set_option maxRecDepth 20000 in
theorem ggX8_isFree_X8_hasTime : GoodIn wsX8_isFree wsX8_hasTime := goodIn_r _ [13, 5, 6, 3, 7, 8, 9, 10] (by decide +kernel) (by decide +kernel)
set_option maxRecDepth 20000 in
theorem gX8_isFree_X8_hasTime : GoodIn wsX8_isFree (va_wsS RX8 60 yX8_hasTime wsX8_hasTime) := goodIn_app (goodIn_of _ (by decide +kernel)) ggX8_isFree_X8_hasTime
theorem dX8_isFree_0 : decode cX8_isFree 0 = .ok (.aload_n 0, 1) := by decide +kernel
theorem dX8_isFree_1 : decode cX8_isFree 1 = .ok (.iload_n 1, 1) := by decide +kernel
theorem dX8_isFree_2 : decode cX8_isFree 2 = .ok (.iload_n 2, 1) := by decide +kernel
theorem dX8_isFree_3 : decode cX8_isFree 3 = .ok (.invokestatic 56, 3) := by decide +kernel
theorem dX8_isFree_6 : decode cX8_isFree 6 = .ok (.ifCond .eq 16, 3) := by decide +kernel
theorem dX8_isFree_9 : decode cX8_isFree 9 = .ok (.aload_n 0, 1) := by decide +kernel
theorem dX8_isFree_10 : decode cX8_isFree 10 = .ok (.iload_n 1, 1) := by decide +kernel
theorem dX8_isFree_11 : decode cX8_isFree 11 = .ok (.iload_n 2, 1) := by decide +kernel
theorem dX8_isFree_12 : decode cX8_isFree 12 = .ok (.invokestatic 60, 3) := by decide +kernel
theorem dX8_isFree_15 : decode cX8_isFree 15 = .ok (.ifCond .eq 7, 3) := by decide +kernel
theorem dX8_isFree_18 : decode cX8_isFree 18 = .ok (.iconst 1, 1) := by decide +kernel
theorem dX8_isFree_19 : decode cX8_isFree 19 = .ok (.goto 4, 3) := by decide +kernel
theorem dX8_isFree_22 : decode cX8_isFree 22 = .ok (.iconst 0, 1) := by decide +kernel
theorem dX8_isFree_23 : decode cX8_isFree 23 = .ok (.ireturn, 1) := by decide +kernel
set_option maxRecDepth 20000 in
theorem ggX8_lowestWith_X8_of : GoodIn wsX8_lowestWith wsX8_of := goodIn_r _ [4] (by decide +kernel) (by decide +kernel)
set_option maxRecDepth 20000 in
theorem gX8_lowestWith_X8_of : GoodIn wsX8_lowestWith (va_wsS RX8 45 yX8_of wsX8_of) := goodIn_app (goodIn_of _ (by decide +kernel)) ggX8_lowestWith_X8_of
set_option maxRecDepth 20000 in
theorem ggX8_lowestWith_X8_isFree : GoodIn wsX8_lowestWith wsX8_isFree := goodIn_r _ [7, 8, 9, 3, 10, 1, 2, 4, 11, 12, 13, 14, 15, 16] (by decide +kernel) (by decide +kernel)
set_option maxRecDepth 20000 in
theorem gX8_lowestWith_X8_isFree : GoodIn wsX8_lowestWith (va_wsS RX8 63 yX8_isFree wsX8_isFree) := goodIn_app (goodIn_of _ (by decide +kernel)) ggX8_lowestWith_X8_isFree
theorem dX8_lowestWith_0 : decode cX8_lowestWith 0 = .ok (.iconst 0, 1) := by decide +kernel
theorem dX8_lowestWith_1 : decode cX8_lowestWith 1 = .ok (.istore_n 3, 1) := by decide +kernel
theorem dX8_lowestWith_2 : decode cX8_lowestWith 2 = .ok (.iload_n 3, 1) := by decide +kernel
theorem dX8_lowestWith_3 : decode cX8_lowestWith 3 = .ok (.aload_n 0, 1) := by decide +kernel
theorem dX8_lowestWith_4 : decode cX8_lowestWith 4 = .ok (.iconst 0, 1) := by decide +kernel
theorem dX8_lowestWith_5 : decode cX8_lowestWith 5 = .ok (.iaload, 1) := by decide +kernel
theorem dX8_lowestWith_6 : decode cX8_lowestWith 6 = .ok (.if_icmp .ge 30, 3) := by decide +kernel
theorem dX8_lowestWith_9 : decode cX8_lowestWith 9 = .ok (.aload_n 0, 1) := by decide +kernel
theorem dX8_lowestWith_10 : decode cX8_lowestWith 10 = .ok (.iload_n 3, 1) := by decide +kernel
theorem dX8_lowestWith_11 : decode cX8_lowestWith 11 = .ok (.iconst 1, 1) := by decide +kernel
theorem dX8_lowestWith_12 : decode cX8_lowestWith 12 = .ok (.invokestatic 45, 3) := by decide +kernel
theorem dX8_lowestWith_15 : decode cX8_lowestWith 15 = .ok (.iload_n 2, 1) := by decide +kernel
theorem dX8_lowestWith_16 : decode cX8_lowestWith 16 = .ok (.if_icmp .ne 14, 3) := by decide +kernel
theorem dX8_lowestWith_19 : decode cX8_lowestWith 19 = .ok (.aload_n 0, 1) := by decide +kernel
theorem dX8_lowestWith_20 : decode cX8_lowestWith 20 = .ok (.iload_n 1, 1) := by decide +kernel
theorem dX8_lowestWith_21 : decode cX8_lowestWith 21 = .ok (.iload_n 3, 1) := by decide +kernel
theorem dX8_lowestWith_22 : decode cX8_lowestWith 22 = .ok (.invokestatic 63, 3) := by decide +kernel
theorem dX8_lowestWith_25 : decode cX8_lowestWith 25 = .ok (.ifCond .eq 5, 3) := by decide +kernel
theorem dX8_lowestWith_28 : decode cX8_lowestWith 28 = .ok (.iload_n 3, 1) := by decide +kernel
theorem dX8_lowestWith_29 : decode cX8_lowestWith 29 = .ok (.ireturn, 1) := by decide +kernel
theorem dX8_lowestWith_30 : decode cX8_lowestWith 30 = .ok (.iinc 3 1, 3) := by decide +kernel
theorem dX8_lowestWith_33 : decode cX8_lowestWith 33 = .ok (.goto (-31), 3) := by decide +kernel
theorem dX8_lowestWith_36 : decode cX8_lowestWith 36 = .ok (.iconst (-1), 1) := by decide +kernel
theorem dX8_lowestWith_37 : decode cX8_lowestWith 37 = .ok (.ireturn, 1) := by decide +kernel
set_option maxRecDepth 20000 in
theorem ggX8_freshest_X8_isFree : GoodIn wsX8_freshest wsX8_isFree := goodIn_r _ [4, 5, 6, 3, 7, 8, 9, 10, 11, 12, 13, 14, 15, 16] (by decide +kernel) (by decide +kernel)
set_option maxRecDepth 20000 in
theorem gX8_freshest_X8_isFree : GoodIn wsX8_freshest (va_wsS RX8 63 yX8_isFree wsX8_isFree) := goodIn_app (goodIn_of _ (by decide +kernel)) ggX8_freshest_X8_isFree
set_option maxRecDepth 20000 in
theorem ggX8_freshest_X8_of : GoodIn wsX8_freshest wsX8_of := goodIn_r _ [10] (by decide +kernel) (by decide +kernel)
set_option maxRecDepth 20000 in
theorem gX8_freshest_X8_of : GoodIn wsX8_freshest (va_wsS RX8 45 yX8_of wsX8_of) := goodIn_app (goodIn_of _ (by decide +kernel)) ggX8_freshest_X8_of
set_option maxRecDepth 20000 in
theorem ggX8_freshest_X8_has : GoodIn wsX8_freshest wsX8_has := goodIn_r _ [19] (by decide +kernel) (by decide +kernel)
set_option maxRecDepth 20000 in
theorem gX8_freshest_X8_has : GoodIn wsX8_freshest (va_wsS RX8 41 yX8_has wsX8_has) := goodIn_app (goodIn_of _ (by decide +kernel)) ggX8_freshest_X8_has
theorem dX8_freshest_0 : decode cX8_freshest 0 = .ok (.iconst (-1), 1) := by decide +kernel
theorem dX8_freshest_1 : decode cX8_freshest 1 = .ok (.istore_n 3, 1) := by decide +kernel
theorem dX8_freshest_2 : decode cX8_freshest 2 = .ok (.iconst 0, 1) := by decide +kernel
theorem dX8_freshest_3 : decode cX8_freshest 3 = .ok (.istore 4, 2) := by decide +kernel
theorem dX8_freshest_5 : decode cX8_freshest 5 = .ok (.iload 4, 2) := by decide +kernel
theorem dX8_freshest_7 : decode cX8_freshest 7 = .ok (.aload_n 0, 1) := by decide +kernel
theorem dX8_freshest_8 : decode cX8_freshest 8 = .ok (.iconst 0, 1) := by decide +kernel
theorem dX8_freshest_9 : decode cX8_freshest 9 = .ok (.iaload, 1) := by decide +kernel
theorem dX8_freshest_10 : decode cX8_freshest 10 = .ok (.if_icmp .ge 73, 3) := by decide +kernel
theorem dX8_freshest_13 : decode cX8_freshest 13 = .ok (.aload_n 0, 1) := by decide +kernel
theorem dX8_freshest_14 : decode cX8_freshest 14 = .ok (.iload_n 1, 1) := by decide +kernel
theorem dX8_freshest_15 : decode cX8_freshest 15 = .ok (.iload 4, 2) := by decide +kernel
theorem dX8_freshest_17 : decode cX8_freshest 17 = .ok (.invokestatic 63, 3) := by decide +kernel
theorem dX8_freshest_20 : decode cX8_freshest 20 = .ok (.ifCond .eq 21, 3) := by decide +kernel
theorem dX8_freshest_23 : decode cX8_freshest 23 = .ok (.iload_n 2, 1) := by decide +kernel
theorem dX8_freshest_24 : decode cX8_freshest 24 = .ok (.aload_n 0, 1) := by decide +kernel
theorem dX8_freshest_25 : decode cX8_freshest 25 = .ok (.iload 4, 2) := by decide +kernel
theorem dX8_freshest_27 : decode cX8_freshest 27 = .ok (.iconst 1, 1) := by decide +kernel
theorem dX8_freshest_28 : decode cX8_freshest 28 = .ok (.invokestatic 45, 3) := by decide +kernel
theorem dX8_freshest_31 : decode cX8_freshest 31 = .ok (.invokestatic 41, 3) := by decide +kernel
theorem dX8_freshest_34 : decode cX8_freshest 34 = .ok (.ifCond .ne 7, 3) := by decide +kernel
theorem dX8_freshest_37 : decode cX8_freshest 37 = .ok (.iconst 1, 1) := by decide +kernel
theorem dX8_freshest_38 : decode cX8_freshest 38 = .ok (.goto 4, 3) := by decide +kernel
theorem dX8_freshest_41 : decode cX8_freshest 41 = .ok (.iconst 0, 1) := by decide +kernel
theorem dX8_freshest_42 : decode cX8_freshest 42 = .ok (.istore 5, 2) := by decide +kernel
theorem dX8_freshest_44 : decode cX8_freshest 44 = .ok (.iload 5, 2) := by decide +kernel
theorem dX8_freshest_46 : decode cX8_freshest 46 = .ok (.ifCond .eq 29, 3) := by decide +kernel
theorem dX8_freshest_49 : decode cX8_freshest 49 = .ok (.iload_n 3, 1) := by decide +kernel
theorem dX8_freshest_50 : decode cX8_freshest 50 = .ok (.iconst (-1), 1) := by decide +kernel
theorem dX8_freshest_51 : decode cX8_freshest 51 = .ok (.if_icmp .eq 19, 3) := by decide +kernel
theorem dX8_freshest_54 : decode cX8_freshest 54 = .ok (.aload_n 0, 1) := by decide +kernel
theorem dX8_freshest_55 : decode cX8_freshest 55 = .ok (.iload 4, 2) := by decide +kernel
theorem dX8_freshest_57 : decode cX8_freshest 57 = .ok (.iconst 2, 1) := by decide +kernel
theorem dX8_freshest_58 : decode cX8_freshest 58 = .ok (.invokestatic 45, 3) := by decide +kernel
theorem dX8_freshest_61 : decode cX8_freshest 61 = .ok (.aload_n 0, 1) := by decide +kernel
theorem dX8_freshest_62 : decode cX8_freshest 62 = .ok (.iload_n 3, 1) := by decide +kernel
theorem dX8_freshest_63 : decode cX8_freshest 63 = .ok (.iconst 2, 1) := by decide +kernel
theorem dX8_freshest_64 : decode cX8_freshest 64 = .ok (.invokestatic 45, 3) := by decide +kernel
theorem dX8_freshest_67 : decode cX8_freshest 67 = .ok (.if_icmp .ge 8, 3) := by decide +kernel
theorem dX8_freshest_70 : decode cX8_freshest 70 = .ok (.iload 4, 2) := by decide +kernel
theorem dX8_freshest_72 : decode cX8_freshest 72 = .ok (.goto 4, 3) := by decide +kernel
theorem dX8_freshest_75 : decode cX8_freshest 75 = .ok (.iload_n 3, 1) := by decide +kernel
theorem dX8_freshest_76 : decode cX8_freshest 76 = .ok (.istore_n 3, 1) := by decide +kernel
theorem dX8_freshest_77 : decode cX8_freshest 77 = .ok (.iinc 4 1, 3) := by decide +kernel
theorem dX8_freshest_80 : decode cX8_freshest 80 = .ok (.goto (-75), 3) := by decide +kernel
theorem dX8_freshest_83 : decode cX8_freshest 83 = .ok (.iload_n 3, 1) := by decide +kernel
theorem dX8_freshest_84 : decode cX8_freshest 84 = .ok (.ireturn, 1) := by decide +kernel
set_option maxRecDepth 20000 in
theorem ggX8_choose_X8_seen : GoodIn wsX8_choose wsX8_seen := goodIn_r _ [4, 5, 6, 3, 7, 8, 9, 10, 11, 12, 13, 14, 15, 16] (by decide +kernel) (by decide +kernel)
set_option maxRecDepth 20000 in
theorem gX8_choose_X8_seen : GoodIn wsX8_choose (va_wsS RX8 66 yX8_seen wsX8_seen) := goodIn_app (goodIn_of _ (by decide +kernel)) ggX8_choose_X8_seen
set_option maxRecDepth 20000 in
theorem ggX8_choose_X8_told : GoodIn wsX8_choose wsX8_told := goodIn_r _ [7] (by decide +kernel) (by decide +kernel)
set_option maxRecDepth 20000 in
theorem gX8_choose_X8_told : GoodIn wsX8_choose (va_wsS RX8 49 yX8_told wsX8_told) := goodIn_app (goodIn_of _ (by decide +kernel)) ggX8_choose_X8_told
set_option maxRecDepth 20000 in
theorem ggX8_choose_X8_has : GoodIn wsX8_choose wsX8_has := goodIn_r _ [13] (by decide +kernel) (by decide +kernel)
set_option maxRecDepth 20000 in
theorem gX8_choose_X8_has : GoodIn wsX8_choose (va_wsS RX8 41 yX8_has wsX8_has) := goodIn_app (goodIn_of _ (by decide +kernel)) ggX8_choose_X8_has
set_option maxRecDepth 20000 in
theorem ggX8_choose_X8_lowestWith : GoodIn wsX8_choose wsX8_lowestWith := goodIn_r _ [19, 14, 15, 3, 16, 20, 21, 22, 23, 24, 25, 5, 6, 7, 26, 27, 28] (by decide +kernel) (by decide +kernel)
set_option maxRecDepth 20000 in
theorem gX8_choose_X8_lowestWith : GoodIn wsX8_choose (va_wsS RX8 70 yX8_lowestWith wsX8_lowestWith) := goodIn_app (goodIn_of _ (by decide +kernel)) ggX8_choose_X8_lowestWith
set_option maxRecDepth 20000 in
theorem ggX8_choose_X8_facesOf : GoodIn wsX8_choose wsX8_facesOf := goodIn_r _ [10, 11, 12, 3, 13, 14, 15, 16] (by decide +kernel) (by decide +kernel)
set_option maxRecDepth 20000 in
theorem gX8_choose_X8_facesOf : GoodIn wsX8_choose (va_wsS RX8 52 yX8_facesOf wsX8_facesOf) := goodIn_app (goodIn_of _ (by decide +kernel)) ggX8_choose_X8_facesOf
set_option maxRecDepth 20000 in
theorem ggX8_choose_X8_freshest : GoodIn wsX8_choose wsX8_freshest := goodIn_r _ [31, 20, 21, 3, 22, 23, 24, 25, 14, 15, 16, 5, 6, 7, 26, 27, 28, 11, 12, 13] (by decide +kernel) (by decide +kernel)
set_option maxRecDepth 20000 in
theorem gX8_choose_X8_freshest : GoodIn wsX8_choose (va_wsS RX8 73 yX8_freshest wsX8_freshest) := goodIn_app (goodIn_of _ (by decide +kernel)) ggX8_choose_X8_freshest
theorem dX8_choose_0 : decode cX8_choose 0 = .ok (.aload_n 0, 1) := by decide +kernel
theorem dX8_choose_1 : decode cX8_choose 1 = .ok (.iload_n 1, 1) := by decide +kernel
theorem dX8_choose_2 : decode cX8_choose 2 = .ok (.iconst 1, 1) := by decide +kernel
theorem dX8_choose_3 : decode cX8_choose 3 = .ok (.invokestatic 66, 3) := by decide +kernel
theorem dX8_choose_6 : decode cX8_choose 6 = .ok (.istore_n 2, 1) := by decide +kernel
theorem dX8_choose_7 : decode cX8_choose 7 = .ok (.aload_n 0, 1) := by decide +kernel
theorem dX8_choose_8 : decode cX8_choose 8 = .ok (.iload_n 1, 1) := by decide +kernel
theorem dX8_choose_9 : decode cX8_choose 9 = .ok (.iconst 0, 1) := by decide +kernel
theorem dX8_choose_10 : decode cX8_choose 10 = .ok (.invokestatic 66, 3) := by decide +kernel
theorem dX8_choose_13 : decode cX8_choose 13 = .ok (.istore_n 3, 1) := by decide +kernel
theorem dX8_choose_14 : decode cX8_choose 14 = .ok (.aload_n 0, 1) := by decide +kernel
theorem dX8_choose_15 : decode cX8_choose 15 = .ok (.iload_n 1, 1) := by decide +kernel
theorem dX8_choose_16 : decode cX8_choose 16 = .ok (.iconst 1, 1) := by decide +kernel
theorem dX8_choose_17 : decode cX8_choose 17 = .ok (.invokestatic 49, 3) := by decide +kernel
theorem dX8_choose_20 : decode cX8_choose 20 = .ok (.istore 4, 2) := by decide +kernel
theorem dX8_choose_22 : decode cX8_choose 22 = .ok (.iconst 0, 1) := by decide +kernel
theorem dX8_choose_23 : decode cX8_choose 23 = .ok (.istore 5, 2) := by decide +kernel
theorem dX8_choose_25 : decode cX8_choose 25 = .ok (.iconst 0, 1) := by decide +kernel
theorem dX8_choose_26 : decode cX8_choose 26 = .ok (.istore 6, 2) := by decide +kernel
theorem dX8_choose_28 : decode cX8_choose 28 = .ok (.iconst 0, 1) := by decide +kernel
theorem dX8_choose_29 : decode cX8_choose 29 = .ok (.istore 7, 2) := by decide +kernel
theorem dX8_choose_31 : decode cX8_choose 31 = .ok (.iload 7, 2) := by decide +kernel
theorem dX8_choose_33 : decode cX8_choose 33 = .ok (.bipush 14, 2) := by decide +kernel
theorem dX8_choose_35 : decode cX8_choose 35 = .ok (.if_icmp .ge 82, 3) := by decide +kernel
theorem dX8_choose_38 : decode cX8_choose 38 = .ok (.iload 6, 2) := by decide +kernel
theorem dX8_choose_40 : decode cX8_choose 40 = .ok (.iload 4, 2) := by decide +kernel
theorem dX8_choose_42 : decode cX8_choose 42 = .ok (.if_icmp .ge 75, 3) := by decide +kernel
theorem dX8_choose_45 : decode cX8_choose 45 = .ok (.iload_n 2, 1) := by decide +kernel
theorem dX8_choose_46 : decode cX8_choose 46 = .ok (.iload 7, 2) := by decide +kernel
theorem dX8_choose_48 : decode cX8_choose 48 = .ok (.invokestatic 41, 3) := by decide +kernel
theorem dX8_choose_51 : decode cX8_choose 51 = .ok (.ifCond .eq 22, 3) := by decide +kernel
theorem dX8_choose_54 : decode cX8_choose 54 = .ok (.iload_n 3, 1) := by decide +kernel
theorem dX8_choose_55 : decode cX8_choose 55 = .ok (.iload 7, 2) := by decide +kernel
theorem dX8_choose_57 : decode cX8_choose 57 = .ok (.invokestatic 41, 3) := by decide +kernel
theorem dX8_choose_60 : decode cX8_choose 60 = .ok (.ifCond .ne 13, 3) := by decide +kernel
theorem dX8_choose_63 : decode cX8_choose 63 = .ok (.aload_n 0, 1) := by decide +kernel
theorem dX8_choose_64 : decode cX8_choose 64 = .ok (.iload_n 1, 1) := by decide +kernel
theorem dX8_choose_65 : decode cX8_choose 65 = .ok (.iload 7, 2) := by decide +kernel
theorem dX8_choose_67 : decode cX8_choose 67 = .ok (.invokestatic 70, 3) := by decide +kernel
theorem dX8_choose_70 : decode cX8_choose 70 = .ok (.goto 4, 3) := by decide +kernel
theorem dX8_choose_73 : decode cX8_choose 73 = .ok (.iconst (-1), 1) := by decide +kernel
theorem dX8_choose_74 : decode cX8_choose 74 = .ok (.istore 8, 2) := by decide +kernel
theorem dX8_choose_76 : decode cX8_choose 76 = .ok (.iload 5, 2) := by decide +kernel
theorem dX8_choose_78 : decode cX8_choose 78 = .ok (.iload 8, 2) := by decide +kernel
theorem dX8_choose_80 : decode cX8_choose 80 = .ok (.iconst (-1), 1) := by decide +kernel
theorem dX8_choose_81 : decode cX8_choose 81 = .ok (.if_icmp .ne 7, 3) := by decide +kernel
theorem dX8_choose_84 : decode cX8_choose 84 = .ok (.iconst 0, 1) := by decide +kernel
theorem dX8_choose_85 : decode cX8_choose 85 = .ok (.goto 7, 3) := by decide +kernel
theorem dX8_choose_88 : decode cX8_choose 88 = .ok (.iconst 1, 1) := by decide +kernel
theorem dX8_choose_89 : decode cX8_choose 89 = .ok (.iload 8, 2) := by decide +kernel
theorem dX8_choose_91 : decode cX8_choose 91 = .ok (.ishl, 1) := by decide +kernel
theorem dX8_choose_92 : decode cX8_choose 92 = .ok (.ior, 1) := by decide +kernel
theorem dX8_choose_93 : decode cX8_choose 93 = .ok (.istore 5, 2) := by decide +kernel
theorem dX8_choose_95 : decode cX8_choose 95 = .ok (.iload 6, 2) := by decide +kernel
theorem dX8_choose_97 : decode cX8_choose 97 = .ok (.iload 8, 2) := by decide +kernel
theorem dX8_choose_99 : decode cX8_choose 99 = .ok (.iconst (-1), 1) := by decide +kernel
theorem dX8_choose_100 : decode cX8_choose 100 = .ok (.if_icmp .ne 7, 3) := by decide +kernel
theorem dX8_choose_103 : decode cX8_choose 103 = .ok (.iconst 0, 1) := by decide +kernel
theorem dX8_choose_104 : decode cX8_choose 104 = .ok (.goto 4, 3) := by decide +kernel
theorem dX8_choose_107 : decode cX8_choose 107 = .ok (.iconst 1, 1) := by decide +kernel
theorem dX8_choose_108 : decode cX8_choose 108 = .ok (.iadd, 1) := by decide +kernel
theorem dX8_choose_109 : decode cX8_choose 109 = .ok (.istore 6, 2) := by decide +kernel
theorem dX8_choose_111 : decode cX8_choose 111 = .ok (.iinc 7 1, 3) := by decide +kernel
theorem dX8_choose_114 : decode cX8_choose 114 = .ok (.goto (-83), 3) := by decide +kernel
theorem dX8_choose_117 : decode cX8_choose 117 = .ok (.iconst 0, 1) := by decide +kernel
theorem dX8_choose_118 : decode cX8_choose 118 = .ok (.istore 7, 2) := by decide +kernel
theorem dX8_choose_120 : decode cX8_choose 120 = .ok (.iload 6, 2) := by decide +kernel
theorem dX8_choose_122 : decode cX8_choose 122 = .ok (.iload 4, 2) := by decide +kernel
theorem dX8_choose_124 : decode cX8_choose 124 = .ok (.if_icmp .ge 64, 3) := by decide +kernel
theorem dX8_choose_127 : decode cX8_choose 127 = .ok (.iload 7, 2) := by decide +kernel
theorem dX8_choose_129 : decode cX8_choose 129 = .ok (.iconst (-1), 1) := by decide +kernel
theorem dX8_choose_130 : decode cX8_choose 130 = .ok (.if_icmp .eq 58, 3) := by decide +kernel
theorem dX8_choose_133 : decode cX8_choose 133 = .ok (.aload_n 0, 1) := by decide +kernel
theorem dX8_choose_134 : decode cX8_choose 134 = .ok (.iload_n 1, 1) := by decide +kernel
theorem dX8_choose_135 : decode cX8_choose 135 = .ok (.iload_n 2, 1) := by decide +kernel
theorem dX8_choose_136 : decode cX8_choose 136 = .ok (.iload_n 3, 1) := by decide +kernel
theorem dX8_choose_137 : decode cX8_choose 137 = .ok (.ior, 1) := by decide +kernel
theorem dX8_choose_138 : decode cX8_choose 138 = .ok (.aload_n 0, 1) := by decide +kernel
theorem dX8_choose_139 : decode cX8_choose 139 = .ok (.iload 5, 2) := by decide +kernel
theorem dX8_choose_141 : decode cX8_choose 141 = .ok (.invokestatic 52, 3) := by decide +kernel
theorem dX8_choose_144 : decode cX8_choose 144 = .ok (.ior, 1) := by decide +kernel
theorem dX8_choose_145 : decode cX8_choose 145 = .ok (.invokestatic 73, 3) := by decide +kernel
theorem dX8_choose_148 : decode cX8_choose 148 = .ok (.istore 7, 2) := by decide +kernel
theorem dX8_choose_150 : decode cX8_choose 150 = .ok (.iload 5, 2) := by decide +kernel
theorem dX8_choose_152 : decode cX8_choose 152 = .ok (.iload 7, 2) := by decide +kernel
theorem dX8_choose_154 : decode cX8_choose 154 = .ok (.iconst (-1), 1) := by decide +kernel
theorem dX8_choose_155 : decode cX8_choose 155 = .ok (.if_icmp .ne 7, 3) := by decide +kernel
theorem dX8_choose_158 : decode cX8_choose 158 = .ok (.iconst 0, 1) := by decide +kernel
theorem dX8_choose_159 : decode cX8_choose 159 = .ok (.goto 7, 3) := by decide +kernel
theorem dX8_choose_162 : decode cX8_choose 162 = .ok (.iconst 1, 1) := by decide +kernel
theorem dX8_choose_163 : decode cX8_choose 163 = .ok (.iload 7, 2) := by decide +kernel
theorem dX8_choose_165 : decode cX8_choose 165 = .ok (.ishl, 1) := by decide +kernel
theorem dX8_choose_166 : decode cX8_choose 166 = .ok (.ior, 1) := by decide +kernel
theorem dX8_choose_167 : decode cX8_choose 167 = .ok (.istore 5, 2) := by decide +kernel
theorem dX8_choose_169 : decode cX8_choose 169 = .ok (.iload 6, 2) := by decide +kernel
theorem dX8_choose_171 : decode cX8_choose 171 = .ok (.iload 7, 2) := by decide +kernel
theorem dX8_choose_173 : decode cX8_choose 173 = .ok (.iconst (-1), 1) := by decide +kernel
theorem dX8_choose_174 : decode cX8_choose 174 = .ok (.if_icmp .ne 7, 3) := by decide +kernel
theorem dX8_choose_177 : decode cX8_choose 177 = .ok (.iconst 0, 1) := by decide +kernel
theorem dX8_choose_178 : decode cX8_choose 178 = .ok (.goto 4, 3) := by decide +kernel
theorem dX8_choose_181 : decode cX8_choose 181 = .ok (.iconst 1, 1) := by decide +kernel
theorem dX8_choose_182 : decode cX8_choose 182 = .ok (.iadd, 1) := by decide +kernel
theorem dX8_choose_183 : decode cX8_choose 183 = .ok (.istore 6, 2) := by decide +kernel
theorem dX8_choose_185 : decode cX8_choose 185 = .ok (.goto (-65), 3) := by decide +kernel
theorem dX8_choose_188 : decode cX8_choose 188 = .ok (.iload 5, 2) := by decide +kernel
theorem dX8_choose_190 : decode cX8_choose 190 = .ok (.ireturn, 1) := by decide +kernel
set_option maxRecDepth 20000 in
theorem ggX8_lacking_X8_told : GoodIn wsX8_lacking wsX8_told := goodIn_r _ [4] (by decide +kernel) (by decide +kernel)
set_option maxRecDepth 20000 in
theorem gX8_lacking_X8_told : GoodIn wsX8_lacking (va_wsS RX8 49 yX8_told wsX8_told) := goodIn_app (goodIn_of _ (by decide +kernel)) ggX8_lacking_X8_told
set_option maxRecDepth 20000 in
theorem ggX8_lacking_X8_choose : GoodIn wsX8_lacking wsX8_choose := goodIn_r _ [7, 8, 9, 3, 10, 1, 2, 4, 11, 12, 13, 14, 15, 16, 17, 18, 19, 20, 21, 22, 23, 24, 25, 26, 27, 28, 29, 30, 31, 32, 33, 34] (by decide +kernel) (by decide +kernel)
set_option maxRecDepth 20000 in
theorem gX8_lacking_X8_choose : GoodIn wsX8_lacking (va_wsS RX8 76 yX8_choose wsX8_choose) := goodIn_app (goodIn_of _ (by decide +kernel)) ggX8_lacking_X8_choose
set_option maxRecDepth 20000 in
theorem ggX8_lacking_X8_bits : GoodIn wsX8_lacking wsX8_bits := goodIn_r _ [37] (by decide +kernel) (by decide +kernel)
set_option maxRecDepth 20000 in
theorem gX8_lacking_X8_bits : GoodIn wsX8_lacking (va_wsS RX8 79 yX8_bits wsX8_bits) := goodIn_app (goodIn_of _ (by decide +kernel)) ggX8_lacking_X8_bits
theorem dX8_lacking_0 : decode cX8_lacking 0 = .ok (.aload_n 0, 1) := by decide +kernel
theorem dX8_lacking_1 : decode cX8_lacking 1 = .ok (.iload_n 1, 1) := by decide +kernel
theorem dX8_lacking_2 : decode cX8_lacking 2 = .ok (.iconst 1, 1) := by decide +kernel
theorem dX8_lacking_3 : decode cX8_lacking 3 = .ok (.invokestatic 49, 3) := by decide +kernel
theorem dX8_lacking_6 : decode cX8_lacking 6 = .ok (.aload_n 0, 1) := by decide +kernel
theorem dX8_lacking_7 : decode cX8_lacking 7 = .ok (.iload_n 1, 1) := by decide +kernel
theorem dX8_lacking_8 : decode cX8_lacking 8 = .ok (.invokestatic 76, 3) := by decide +kernel
theorem dX8_lacking_11 : decode cX8_lacking 11 = .ok (.invokestatic 79, 3) := by decide +kernel
theorem dX8_lacking_14 : decode cX8_lacking 14 = .ok (.isub, 1) := by decide +kernel
theorem dX8_lacking_15 : decode cX8_lacking 15 = .ok (.ireturn, 1) := by decide +kernel
set_option maxRecDepth 20000 in
theorem ggX8_canShoot_X8_isScene : GoodIn wsX8_canShoot wsX8_isScene := goodIn_r _ [4, 5, 6, 3, 7] (by decide +kernel) (by decide +kernel)
set_option maxRecDepth 20000 in
theorem gX8_canShoot_X8_isScene : GoodIn wsX8_canShoot (va_wsS RX8 83 yX8_isScene wsX8_isScene) := goodIn_app (goodIn_of _ (by decide +kernel)) ggX8_canShoot_X8_isScene
set_option maxRecDepth 20000 in
theorem ggX8_canShoot_X8_told : GoodIn wsX8_canShoot wsX8_told := goodIn_r _ [10] (by decide +kernel) (by decide +kernel)
set_option maxRecDepth 20000 in
theorem gX8_canShoot_X8_told : GoodIn wsX8_canShoot (va_wsS RX8 49 yX8_told wsX8_told) := goodIn_app (goodIn_of _ (by decide +kernel)) ggX8_canShoot_X8_told
set_option maxRecDepth 20000 in
theorem ggX8_canShoot_X8_lacking : GoodIn wsX8_canShoot wsX8_lacking := goodIn_r _ [13, 8, 9, 3, 10, 14, 15, 16, 17, 18, 19, 20, 21, 22, 23, 24, 25, 26, 27, 28, 29, 30, 31, 32, 33, 34, 35, 36, 37, 38, 39, 40, 41, 42, 43, 44, 45, 46] (by decide +kernel) (by decide +kernel)
set_option maxRecDepth 20000 in
theorem gX8_canShoot_X8_lacking : GoodIn wsX8_canShoot (va_wsS RX8 87 yX8_lacking wsX8_lacking) := goodIn_app (goodIn_of _ (by decide +kernel)) ggX8_canShoot_X8_lacking
theorem dX8_canShoot_0 : decode cX8_canShoot 0 = .ok (.aload_n 0, 1) := by decide +kernel
theorem dX8_canShoot_1 : decode cX8_canShoot 1 = .ok (.iload_n 1, 1) := by decide +kernel
theorem dX8_canShoot_2 : decode cX8_canShoot 2 = .ok (.invokestatic 83, 3) := by decide +kernel
theorem dX8_canShoot_5 : decode cX8_canShoot 5 = .ok (.ifCond .eq 24, 3) := by decide +kernel
theorem dX8_canShoot_8 : decode cX8_canShoot 8 = .ok (.aload_n 0, 1) := by decide +kernel
theorem dX8_canShoot_9 : decode cX8_canShoot 9 = .ok (.iload_n 1, 1) := by decide +kernel
theorem dX8_canShoot_10 : decode cX8_canShoot 10 = .ok (.iconst 5, 1) := by decide +kernel
theorem dX8_canShoot_11 : decode cX8_canShoot 11 = .ok (.invokestatic 49, 3) := by decide +kernel
theorem dX8_canShoot_14 : decode cX8_canShoot 14 = .ok (.ifCond .ne 15, 3) := by decide +kernel
theorem dX8_canShoot_17 : decode cX8_canShoot 17 = .ok (.aload_n 0, 1) := by decide +kernel
theorem dX8_canShoot_18 : decode cX8_canShoot 18 = .ok (.iload_n 1, 1) := by decide +kernel
theorem dX8_canShoot_19 : decode cX8_canShoot 19 = .ok (.invokestatic 87, 3) := by decide +kernel
theorem dX8_canShoot_22 : decode cX8_canShoot 22 = .ok (.ifCond .ne 7, 3) := by decide +kernel
theorem dX8_canShoot_25 : decode cX8_canShoot 25 = .ok (.iconst 1, 1) := by decide +kernel
theorem dX8_canShoot_26 : decode cX8_canShoot 26 = .ok (.goto 4, 3) := by decide +kernel
theorem dX8_canShoot_29 : decode cX8_canShoot 29 = .ok (.iconst 0, 1) := by decide +kernel
theorem dX8_canShoot_30 : decode cX8_canShoot 30 = .ok (.ireturn, 1) := by decide +kernel
set_option maxRecDepth 20000 in
theorem ggX8_work_X8_of : GoodIn wsX8_work wsX8_of := goodIn_r _ [4] (by decide +kernel) (by decide +kernel)
set_option maxRecDepth 20000 in
theorem gX8_work_X8_of : GoodIn wsX8_work (va_wsS RX8 45 yX8_of wsX8_of) := goodIn_app (goodIn_of _ (by decide +kernel)) ggX8_work_X8_of
set_option maxRecDepth 20000 in
theorem ggX8_work_X8_lay : GoodIn wsX8_work wsX8_lay := goodIn_r _ [7] (by decide +kernel) (by decide +kernel)
set_option maxRecDepth 20000 in
theorem gX8_work_X8_lay : GoodIn wsX8_work (va_wsS RX8 90 yX8_lay wsX8_lay) := goodIn_app (goodIn_of _ (by decide +kernel)) ggX8_work_X8_lay
theorem dX8_work_0 : decode cX8_work 0 = .ok (.aload_n 0, 1) := by decide +kernel
theorem dX8_work_1 : decode cX8_work 1 = .ok (.iload_n 1, 1) := by decide +kernel
theorem dX8_work_2 : decode cX8_work 2 = .ok (.iconst 3, 1) := by decide +kernel
theorem dX8_work_3 : decode cX8_work 3 = .ok (.invokestatic 45, 3) := by decide +kernel
theorem dX8_work_6 : decode cX8_work 6 = .ok (.iload_n 2, 1) := by decide +kernel
theorem dX8_work_7 : decode cX8_work 7 = .ok (.iadd, 1) := by decide +kernel
theorem dX8_work_8 : decode cX8_work 8 = .ok (.istore_n 3, 1) := by decide +kernel
theorem dX8_work_9 : decode cX8_work 9 = .ok (.iload_n 3, 1) := by decide +kernel
theorem dX8_work_10 : decode cX8_work 10 = .ok (.sipush 360, 3) := by decide +kernel
theorem dX8_work_13 : decode cX8_work 13 = .ok (.if_icmp .le 19, 3) := by decide +kernel
theorem dX8_work_16 : decode cX8_work 16 = .ok (.iload_n 3, 1) := by decide +kernel
theorem dX8_work_17 : decode cX8_work 17 = .ok (.sipush 360, 3) := by decide +kernel
theorem dX8_work_20 : decode cX8_work 20 = .ok (.isub, 1) := by decide +kernel
theorem dX8_work_21 : decode cX8_work 21 = .ok (.bipush 30, 2) := by decide +kernel
theorem dX8_work_23 : decode cX8_work 23 = .ok (.iadd, 1) := by decide +kernel
theorem dX8_work_24 : decode cX8_work 24 = .ok (.iconst 1, 1) := by decide +kernel
theorem dX8_work_25 : decode cX8_work 25 = .ok (.isub, 1) := by decide +kernel
theorem dX8_work_26 : decode cX8_work 26 = .ok (.bipush 30, 2) := by decide +kernel
theorem dX8_work_28 : decode cX8_work 28 = .ok (.idiv, 1) := by decide +kernel
theorem dX8_work_29 : decode cX8_work 29 = .ok (.goto 4, 3) := by decide +kernel
theorem dX8_work_32 : decode cX8_work 32 = .ok (.iconst 0, 1) := by decide +kernel
theorem dX8_work_33 : decode cX8_work 33 = .ok (.istore 4, 2) := by decide +kernel
theorem dX8_work_35 : decode cX8_work 35 = .ok (.iload 4, 2) := by decide +kernel
theorem dX8_work_37 : decode cX8_work 37 = .ok (.aload_n 0, 1) := by decide +kernel
theorem dX8_work_38 : decode cX8_work 38 = .ok (.iload_n 1, 1) := by decide +kernel
theorem dX8_work_39 : decode cX8_work 39 = .ok (.iconst 4, 1) := by decide +kernel
theorem dX8_work_40 : decode cX8_work 40 = .ok (.invokestatic 45, 3) := by decide +kernel
theorem dX8_work_43 : decode cX8_work 43 = .ok (.if_icmp .le 15, 3) := by decide +kernel
theorem dX8_work_46 : decode cX8_work 46 = .ok (.iload 4, 2) := by decide +kernel
theorem dX8_work_48 : decode cX8_work 48 = .ok (.aload_n 0, 1) := by decide +kernel
theorem dX8_work_49 : decode cX8_work 49 = .ok (.iload_n 1, 1) := by decide +kernel
theorem dX8_work_50 : decode cX8_work 50 = .ok (.iconst 4, 1) := by decide +kernel
theorem dX8_work_51 : decode cX8_work 51 = .ok (.invokestatic 45, 3) := by decide +kernel
theorem dX8_work_54 : decode cX8_work 54 = .ok (.isub, 1) := by decide +kernel
theorem dX8_work_55 : decode cX8_work 55 = .ok (.goto 4, 3) := by decide +kernel
theorem dX8_work_58 : decode cX8_work 58 = .ok (.iconst 0, 1) := by decide +kernel
theorem dX8_work_59 : decode cX8_work 59 = .ok (.istore 5, 2) := by decide +kernel
theorem dX8_work_61 : decode cX8_work 61 = .ok (.aload_n 0, 1) := by decide +kernel
theorem dX8_work_62 : decode cX8_work 62 = .ok (.bipush 8, 2) := by decide +kernel
theorem dX8_work_64 : decode cX8_work 64 = .ok (.iaload, 1) := by decide +kernel
theorem dX8_work_65 : decode cX8_work 65 = .ok (.iload_n 2, 1) := by decide +kernel
theorem dX8_work_66 : decode cX8_work 66 = .ok (.bipush 60, 2) := by decide +kernel
theorem dX8_work_68 : decode cX8_work 68 = .ok (.iadd, 1) := by decide +kernel
theorem dX8_work_69 : decode cX8_work 69 = .ok (.iconst 1, 1) := by decide +kernel
theorem dX8_work_70 : decode cX8_work 70 = .ok (.isub, 1) := by decide +kernel
theorem dX8_work_71 : decode cX8_work 71 = .ok (.bipush 60, 2) := by decide +kernel
theorem dX8_work_73 : decode cX8_work 73 = .ok (.idiv, 1) := by decide +kernel
theorem dX8_work_74 : decode cX8_work 74 = .ok (.imul, 1) := by decide +kernel
theorem dX8_work_75 : decode cX8_work 75 = .ok (.istore 6, 2) := by decide +kernel
theorem dX8_work_77 : decode cX8_work 77 = .ok (.aload_n 0, 1) := by decide +kernel
theorem dX8_work_78 : decode cX8_work 78 = .ok (.bipush 9, 2) := by decide +kernel
theorem dX8_work_80 : decode cX8_work 80 = .ok (.iaload, 1) := by decide +kernel
theorem dX8_work_81 : decode cX8_work 81 = .ok (.iload 5, 2) := by decide +kernel
theorem dX8_work_83 : decode cX8_work 83 = .ok (.imul, 1) := by decide +kernel
theorem dX8_work_84 : decode cX8_work 84 = .ok (.istore 7, 2) := by decide +kernel
theorem dX8_work_86 : decode cX8_work 86 = .ok (.aload_n 0, 1) := by decide +kernel
theorem dX8_work_87 : decode cX8_work 87 = .ok (.iload_n 1, 1) := by decide +kernel
theorem dX8_work_88 : decode cX8_work 88 = .ok (.iconst 2, 1) := by decide +kernel
theorem dX8_work_89 : decode cX8_work 89 = .ok (.aload_n 0, 1) := by decide +kernel
theorem dX8_work_90 : decode cX8_work 90 = .ok (.iload_n 1, 1) := by decide +kernel
theorem dX8_work_91 : decode cX8_work 91 = .ok (.iconst 2, 1) := by decide +kernel
theorem dX8_work_92 : decode cX8_work 92 = .ok (.invokestatic 45, 3) := by decide +kernel
theorem dX8_work_95 : decode cX8_work 95 = .ok (.iload_n 2, 1) := by decide +kernel
theorem dX8_work_96 : decode cX8_work 96 = .ok (.iadd, 1) := by decide +kernel
theorem dX8_work_97 : decode cX8_work 97 = .ok (.invokestatic 90, 3) := by decide +kernel
theorem dX8_work_100 : decode cX8_work 100 = .ok (.aload_n 0, 1) := by decide +kernel
theorem dX8_work_101 : decode cX8_work 101 = .ok (.iload_n 1, 1) := by decide +kernel
theorem dX8_work_102 : decode cX8_work 102 = .ok (.iconst 3, 1) := by decide +kernel
theorem dX8_work_103 : decode cX8_work 103 = .ok (.iload_n 3, 1) := by decide +kernel
theorem dX8_work_104 : decode cX8_work 104 = .ok (.invokestatic 90, 3) := by decide +kernel
theorem dX8_work_107 : decode cX8_work 107 = .ok (.aload_n 0, 1) := by decide +kernel
theorem dX8_work_108 : decode cX8_work 108 = .ok (.iload_n 1, 1) := by decide +kernel
theorem dX8_work_109 : decode cX8_work 109 = .ok (.iconst 4, 1) := by decide +kernel
theorem dX8_work_110 : decode cX8_work 110 = .ok (.aload_n 0, 1) := by decide +kernel
theorem dX8_work_111 : decode cX8_work 111 = .ok (.iload_n 1, 1) := by decide +kernel
theorem dX8_work_112 : decode cX8_work 112 = .ok (.iconst 4, 1) := by decide +kernel
theorem dX8_work_113 : decode cX8_work 113 = .ok (.invokestatic 45, 3) := by decide +kernel
theorem dX8_work_116 : decode cX8_work 116 = .ok (.iload 5, 2) := by decide +kernel
theorem dX8_work_118 : decode cX8_work 118 = .ok (.iadd, 1) := by decide +kernel
theorem dX8_work_119 : decode cX8_work 119 = .ok (.invokestatic 90, 3) := by decide +kernel
theorem dX8_work_122 : decode cX8_work 122 = .ok (.aload_n 0, 1) := by decide +kernel
theorem dX8_work_123 : decode cX8_work 123 = .ok (.iload_n 1, 1) := by decide +kernel
theorem dX8_work_124 : decode cX8_work 124 = .ok (.iconst 5, 1) := by decide +kernel
theorem dX8_work_125 : decode cX8_work 125 = .ok (.aload_n 0, 1) := by decide +kernel
theorem dX8_work_126 : decode cX8_work 126 = .ok (.iload_n 1, 1) := by decide +kernel
theorem dX8_work_127 : decode cX8_work 127 = .ok (.iconst 5, 1) := by decide +kernel
theorem dX8_work_128 : decode cX8_work 128 = .ok (.invokestatic 45, 3) := by decide +kernel
theorem dX8_work_131 : decode cX8_work 131 = .ok (.iload 6, 2) := by decide +kernel
theorem dX8_work_133 : decode cX8_work 133 = .ok (.iadd, 1) := by decide +kernel
theorem dX8_work_134 : decode cX8_work 134 = .ok (.iload 7, 2) := by decide +kernel
theorem dX8_work_136 : decode cX8_work 136 = .ok (.iadd, 1) := by decide +kernel
theorem dX8_work_137 : decode cX8_work 137 = .ok (.invokestatic 90, 3) := by decide +kernel
theorem dX8_work_140 : decode cX8_work 140 = .ok (.aload_n 0, 1) := by decide +kernel
theorem dX8_work_141 : decode cX8_work 141 = .ok (.iconst 3, 1) := by decide +kernel
theorem dX8_work_142 : decode cX8_work 142 = .ok (.dup2, 1) := by decide +kernel
theorem dX8_work_143 : decode cX8_work 143 = .ok (.iaload, 1) := by decide +kernel
theorem dX8_work_144 : decode cX8_work 144 = .ok (.iload 6, 2) := by decide +kernel
theorem dX8_work_146 : decode cX8_work 146 = .ok (.iadd, 1) := by decide +kernel
theorem dX8_work_147 : decode cX8_work 147 = .ok (.iastore, 1) := by decide +kernel
theorem dX8_work_148 : decode cX8_work 148 = .ok (.aload_n 0, 1) := by decide +kernel
theorem dX8_work_149 : decode cX8_work 149 = .ok (.iconst 4, 1) := by decide +kernel
theorem dX8_work_150 : decode cX8_work 150 = .ok (.dup2, 1) := by decide +kernel
theorem dX8_work_151 : decode cX8_work 151 = .ok (.iaload, 1) := by decide +kernel
theorem dX8_work_152 : decode cX8_work 152 = .ok (.iload 7, 2) := by decide +kernel
theorem dX8_work_154 : decode cX8_work 154 = .ok (.iadd, 1) := by decide +kernel
theorem dX8_work_155 : decode cX8_work 155 = .ok (.iastore, 1) := by decide +kernel
theorem dX8_work_156 : decode cX8_work 156 = .ok (.aload_n 0, 1) := by decide +kernel
theorem dX8_work_157 : decode cX8_work 157 = .ok (.iconst 5, 1) := by decide +kernel
theorem dX8_work_158 : decode cX8_work 158 = .ok (.dup2, 1) := by decide +kernel
theorem dX8_work_159 : decode cX8_work 159 = .ok (.iaload, 1) := by decide +kernel
theorem dX8_work_160 : decode cX8_work 160 = .ok (.iload 5, 2) := by decide +kernel
theorem dX8_work_162 : decode cX8_work 162 = .ok (.iadd, 1) := by decide +kernel
theorem dX8_work_163 : decode cX8_work 163 = .ok (.iastore, 1) := by decide +kernel
theorem dX8_work_164 : decode cX8_work 164 = .ok (.return_, 1) := by decide +kernel
set_option maxRecDepth 20000 in
theorem ggX8_shootOn_X8_choose : GoodIn wsX8_shootOn wsX8_choose := goodIn_r _ [4, 5, 6, 3, 7, 8, 9, 10, 11, 12, 13, 14, 15, 16, 17, 18, 19, 20, 21, 22, 23, 24, 25, 26, 27, 28, 29, 30, 31, 32, 33, 34] (by decide +kernel) (by decide +kernel)
set_option maxRecDepth 20000 in
theorem gX8_shootOn_X8_choose : GoodIn wsX8_shootOn (va_wsS RX8 76 yX8_choose wsX8_choose) := goodIn_app (goodIn_of _ (by decide +kernel)) ggX8_shootOn_X8_choose
set_option maxRecDepth 20000 in
theorem ggX8_shootOn_X8_seen : GoodIn wsX8_shootOn wsX8_seen := goodIn_r _ [7, 8, 9, 3, 10, 11, 12, 13, 14, 15, 16, 17, 18, 19] (by decide +kernel) (by decide +kernel)
set_option maxRecDepth 20000 in
theorem gX8_shootOn_X8_seen : GoodIn wsX8_shootOn (va_wsS RX8 66 yX8_seen wsX8_seen) := goodIn_app (goodIn_of _ (by decide +kernel)) ggX8_shootOn_X8_seen
set_option maxRecDepth 20000 in
theorem ggX8_shootOn_X8_facesOf : GoodIn wsX8_shootOn wsX8_facesOf := goodIn_r _ [13, 14, 15, 3, 16, 17, 18, 19] (by decide +kernel) (by decide +kernel)
set_option maxRecDepth 20000 in
theorem gX8_shootOn_X8_facesOf : GoodIn wsX8_shootOn (va_wsS RX8 52 yX8_facesOf wsX8_facesOf) := goodIn_app (goodIn_of _ (by decide +kernel)) ggX8_shootOn_X8_facesOf
set_option maxRecDepth 20000 in
theorem ggX8_shootOn_X8_bits : GoodIn wsX8_shootOn wsX8_bits := goodIn_r _ [37] (by decide +kernel) (by decide +kernel)
set_option maxRecDepth 20000 in
theorem gX8_shootOn_X8_bits : GoodIn wsX8_shootOn (va_wsS RX8 79 yX8_bits wsX8_bits) := goodIn_app (goodIn_of _ (by decide +kernel)) ggX8_shootOn_X8_bits
set_option maxRecDepth 20000 in
theorem ggX8_shootOn_X8_has : GoodIn wsX8_shootOn wsX8_has := goodIn_r _ [16] (by decide +kernel) (by decide +kernel)
set_option maxRecDepth 20000 in
theorem gX8_shootOn_X8_has : GoodIn wsX8_shootOn (va_wsS RX8 41 yX8_has wsX8_has) := goodIn_app (goodIn_of _ (by decide +kernel)) ggX8_shootOn_X8_has
set_option maxRecDepth 20000 in
theorem ggX8_shootOn_X8_told : GoodIn wsX8_shootOn wsX8_told := goodIn_r _ [10] (by decide +kernel) (by decide +kernel)
set_option maxRecDepth 20000 in
theorem gX8_shootOn_X8_told : GoodIn wsX8_shootOn (va_wsS RX8 49 yX8_told wsX8_told) := goodIn_app (goodIn_of _ (by decide +kernel)) ggX8_shootOn_X8_told
set_option maxRecDepth 20000 in
theorem ggX8_shootOn_X8_work : GoodIn wsX8_shootOn wsX8_work := goodIn_r _ [40, 17, 18, 3, 19, 41, 42, 43] (by decide +kernel) (by decide +kernel)
set_option maxRecDepth 20000 in
theorem gX8_shootOn_X8_work : GoodIn wsX8_shootOn (va_wsS RX8 94 yX8_work wsX8_work) := goodIn_app (goodIn_of _ (by decide +kernel)) ggX8_shootOn_X8_work
theorem dX8_shootOn_0 : decode cX8_shootOn 0 = .ok (.aload_n 0, 1) := by decide +kernel
theorem dX8_shootOn_1 : decode cX8_shootOn 1 = .ok (.iload_n 1, 1) := by decide +kernel
theorem dX8_shootOn_2 : decode cX8_shootOn 2 = .ok (.invokestatic 76, 3) := by decide +kernel
theorem dX8_shootOn_5 : decode cX8_shootOn 5 = .ok (.istore_n 2, 1) := by decide +kernel
theorem dX8_shootOn_6 : decode cX8_shootOn 6 = .ok (.aload_n 0, 1) := by decide +kernel
theorem dX8_shootOn_7 : decode cX8_shootOn 7 = .ok (.bipush 6, 2) := by decide +kernel
theorem dX8_shootOn_9 : decode cX8_shootOn 9 = .ok (.dup2, 1) := by decide +kernel
theorem dX8_shootOn_10 : decode cX8_shootOn 10 = .ok (.iaload, 1) := by decide +kernel
theorem dX8_shootOn_11 : decode cX8_shootOn 11 = .ok (.aload_n 0, 1) := by decide +kernel
theorem dX8_shootOn_12 : decode cX8_shootOn 12 = .ok (.iload_n 1, 1) := by decide +kernel
theorem dX8_shootOn_13 : decode cX8_shootOn 13 = .ok (.iconst 1, 1) := by decide +kernel
theorem dX8_shootOn_14 : decode cX8_shootOn 14 = .ok (.invokestatic 66, 3) := by decide +kernel
theorem dX8_shootOn_17 : decode cX8_shootOn 17 = .ok (.aload_n 0, 1) := by decide +kernel
theorem dX8_shootOn_18 : decode cX8_shootOn 18 = .ok (.iload_n 2, 1) := by decide +kernel
theorem dX8_shootOn_19 : decode cX8_shootOn 19 = .ok (.invokestatic 52, 3) := by decide +kernel
theorem dX8_shootOn_22 : decode cX8_shootOn 22 = .ok (.iconst (-1), 1) := by decide +kernel
theorem dX8_shootOn_23 : decode cX8_shootOn 23 = .ok (.ixor, 1) := by decide +kernel
theorem dX8_shootOn_24 : decode cX8_shootOn 24 = .ok (.iand, 1) := by decide +kernel
theorem dX8_shootOn_25 : decode cX8_shootOn 25 = .ok (.invokestatic 79, 3) := by decide +kernel
theorem dX8_shootOn_28 : decode cX8_shootOn 28 = .ok (.iadd, 1) := by decide +kernel
theorem dX8_shootOn_29 : decode cX8_shootOn 29 = .ok (.iastore, 1) := by decide +kernel
theorem dX8_shootOn_30 : decode cX8_shootOn 30 = .ok (.iconst 0, 1) := by decide +kernel
theorem dX8_shootOn_31 : decode cX8_shootOn 31 = .ok (.istore_n 3, 1) := by decide +kernel
theorem dX8_shootOn_32 : decode cX8_shootOn 32 = .ok (.iload_n 3, 1) := by decide +kernel
theorem dX8_shootOn_33 : decode cX8_shootOn 33 = .ok (.aload_n 0, 1) := by decide +kernel
theorem dX8_shootOn_34 : decode cX8_shootOn 34 = .ok (.iconst 0, 1) := by decide +kernel
theorem dX8_shootOn_35 : decode cX8_shootOn 35 = .ok (.iaload, 1) := by decide +kernel
theorem dX8_shootOn_36 : decode cX8_shootOn 36 = .ok (.if_icmp .ge 28, 3) := by decide +kernel
theorem dX8_shootOn_39 : decode cX8_shootOn 39 = .ok (.iload_n 2, 1) := by decide +kernel
theorem dX8_shootOn_40 : decode cX8_shootOn 40 = .ok (.iload_n 3, 1) := by decide +kernel
theorem dX8_shootOn_41 : decode cX8_shootOn 41 = .ok (.invokestatic 41, 3) := by decide +kernel
theorem dX8_shootOn_44 : decode cX8_shootOn 44 = .ok (.ifCond .eq 14, 3) := by decide +kernel
theorem dX8_shootOn_47 : decode cX8_shootOn 47 = .ok (.aload_n 0, 1) := by decide +kernel
theorem dX8_shootOn_48 : decode cX8_shootOn 48 = .ok (.iload_n 3, 1) := by decide +kernel
theorem dX8_shootOn_49 : decode cX8_shootOn 49 = .ok (.aload_n 0, 1) := by decide +kernel
theorem dX8_shootOn_50 : decode cX8_shootOn 50 = .ok (.iload_n 1, 1) := by decide +kernel
theorem dX8_shootOn_51 : decode cX8_shootOn 51 = .ok (.iconst 4, 1) := by decide +kernel
theorem dX8_shootOn_52 : decode cX8_shootOn 52 = .ok (.invokestatic 49, 3) := by decide +kernel
theorem dX8_shootOn_55 : decode cX8_shootOn 55 = .ok (.invokestatic 94, 3) := by decide +kernel
theorem dX8_shootOn_58 : decode cX8_shootOn 58 = .ok (.iinc 3 1, 3) := by decide +kernel
theorem dX8_shootOn_61 : decode cX8_shootOn 61 = .ok (.goto (-29), 3) := by decide +kernel
theorem dX8_shootOn_64 : decode cX8_shootOn 64 = .ok (.aload_n 0, 1) := by decide +kernel
theorem dX8_shootOn_65 : decode cX8_shootOn 65 = .ok (.bipush 94, 2) := by decide +kernel
theorem dX8_shootOn_67 : decode cX8_shootOn 67 = .ok (.bipush 7, 2) := by decide +kernel
theorem dX8_shootOn_69 : decode cX8_shootOn 69 = .ok (.iload_n 1, 1) := by decide +kernel
theorem dX8_shootOn_70 : decode cX8_shootOn 70 = .ok (.imul, 1) := by decide +kernel
theorem dX8_shootOn_71 : decode cX8_shootOn 71 = .ok (.iadd, 1) := by decide +kernel
theorem dX8_shootOn_72 : decode cX8_shootOn 72 = .ok (.iconst 5, 1) := by decide +kernel
theorem dX8_shootOn_73 : decode cX8_shootOn 73 = .ok (.iadd, 1) := by decide +kernel
theorem dX8_shootOn_74 : decode cX8_shootOn 74 = .ok (.iconst 1, 1) := by decide +kernel
theorem dX8_shootOn_75 : decode cX8_shootOn 75 = .ok (.iastore, 1) := by decide +kernel
theorem dX8_shootOn_76 : decode cX8_shootOn 76 = .ok (.aload_n 0, 1) := by decide +kernel
theorem dX8_shootOn_77 : decode cX8_shootOn 77 = .ok (.bipush 94, 2) := by decide +kernel
theorem dX8_shootOn_79 : decode cX8_shootOn 79 = .ok (.bipush 7, 2) := by decide +kernel
theorem dX8_shootOn_81 : decode cX8_shootOn 81 = .ok (.iload_n 1, 1) := by decide +kernel
theorem dX8_shootOn_82 : decode cX8_shootOn 82 = .ok (.imul, 1) := by decide +kernel
theorem dX8_shootOn_83 : decode cX8_shootOn 83 = .ok (.iadd, 1) := by decide +kernel
theorem dX8_shootOn_84 : decode cX8_shootOn 84 = .ok (.bipush 6, 2) := by decide +kernel
theorem dX8_shootOn_86 : decode cX8_shootOn 86 = .ok (.iadd, 1) := by decide +kernel
theorem dX8_shootOn_87 : decode cX8_shootOn 87 = .ok (.iload_n 2, 1) := by decide +kernel
theorem dX8_shootOn_88 : decode cX8_shootOn 88 = .ok (.iastore, 1) := by decide +kernel
theorem dX8_shootOn_89 : decode cX8_shootOn 89 = .ok (.iload_n 2, 1) := by decide +kernel
theorem dX8_shootOn_90 : decode cX8_shootOn 90 = .ok (.ireturn, 1) := by decide +kernel
theorem dX8_spent_0 : decode cX8_spent 0 = .ok (.aload_n 0, 1) := by decide +kernel
theorem dX8_spent_1 : decode cX8_spent 1 = .ok (.iconst 3, 1) := by decide +kernel
theorem dX8_spent_2 : decode cX8_spent 2 = .ok (.iaload, 1) := by decide +kernel
theorem dX8_spent_3 : decode cX8_spent 3 = .ok (.aload_n 0, 1) := by decide +kernel
theorem dX8_spent_4 : decode cX8_spent 4 = .ok (.iconst 4, 1) := by decide +kernel
theorem dX8_spent_5 : decode cX8_spent 5 = .ok (.iaload, 1) := by decide +kernel
theorem dX8_spent_6 : decode cX8_spent 6 = .ok (.iadd, 1) := by decide +kernel
theorem dX8_spent_7 : decode cX8_spent 7 = .ok (.ireturn, 1) := by decide +kernel
set_option maxRecDepth 20000 in
theorem ggX8_isNewExtra_X8_in : GoodIn wsX8_isNewExtra wsX8_in := goodIn_r _ [6] (by decide +kernel) (by decide +kernel)
set_option maxRecDepth 20000 in
theorem gX8_isNewExtra_X8_in : GoodIn wsX8_isNewExtra (va_wsS RX8 37 yX8_in wsX8_in) := goodIn_app (goodIn_of _ (by decide +kernel)) ggX8_isNewExtra_X8_in
theorem dX8_isNewExtra_0 : decode cX8_isNewExtra 0 = .ok (.iload_n 0, 1) := by decide +kernel
theorem dX8_isNewExtra_1 : decode cX8_isNewExtra 1 = .ok (.i2l, 1) := by decide +kernel
theorem dX8_isNewExtra_2 : decode cX8_isNewExtra 2 = .ok (.lconst 0, 1) := by decide +kernel
theorem dX8_isNewExtra_3 : decode cX8_isNewExtra 3 = .ok (.ldc2_w 98, 3) := by decide +kernel
theorem dX8_isNewExtra_6 : decode cX8_isNewExtra 6 = .ok (.invokestatic 37, 3) := by decide +kernel
theorem dX8_isNewExtra_9 : decode cX8_isNewExtra 9 = .ok (.ifCond .eq 19, 3) := by decide +kernel
theorem dX8_isNewExtra_12 : decode cX8_isNewExtra 12 = .ok (.iload_n 1, 1) := by decide +kernel
theorem dX8_isNewExtra_13 : decode cX8_isNewExtra 13 = .ok (.i2l, 1) := by decide +kernel
theorem dX8_isNewExtra_14 : decode cX8_isNewExtra 14 = .ok (.lconst 0, 1) := by decide +kernel
theorem dX8_isNewExtra_15 : decode cX8_isNewExtra 15 = .ok (.ldc2_w 100, 3) := by decide +kernel
theorem dX8_isNewExtra_18 : decode cX8_isNewExtra 18 = .ok (.invokestatic 37, 3) := by decide +kernel
theorem dX8_isNewExtra_21 : decode cX8_isNewExtra 21 = .ok (.ifCond .eq 7, 3) := by decide +kernel
theorem dX8_isNewExtra_24 : decode cX8_isNewExtra 24 = .ok (.iconst 1, 1) := by decide +kernel
theorem dX8_isNewExtra_25 : decode cX8_isNewExtra 25 = .ok (.goto 4, 3) := by decide +kernel
theorem dX8_isNewExtra_28 : decode cX8_isNewExtra 28 = .ok (.iconst 0, 1) := by decide +kernel
theorem dX8_isNewExtra_29 : decode cX8_isNewExtra 29 = .ok (.ireturn, 1) := by decide +kernel
set_option maxRecDepth 20000 in
theorem ggX8_extraOn_X8_lay : GoodIn wsX8_extraOn wsX8_lay := goodIn_r _ [4] (by decide +kernel) (by decide +kernel)
set_option maxRecDepth 20000 in
theorem gX8_extraOn_X8_lay : GoodIn wsX8_extraOn (va_wsS RX8 90 yX8_lay wsX8_lay) := goodIn_app (goodIn_of _ (by decide +kernel)) ggX8_extraOn_X8_lay
theorem dX8_extraOn_0 : decode cX8_extraOn 0 = .ok (.aload_n 0, 1) := by decide +kernel
theorem dX8_extraOn_1 : decode cX8_extraOn 1 = .ok (.iconst 0, 1) := by decide +kernel
theorem dX8_extraOn_2 : decode cX8_extraOn 2 = .ok (.iaload, 1) := by decide +kernel
theorem dX8_extraOn_3 : decode cX8_extraOn 3 = .ok (.istore_n 3, 1) := by decide +kernel
theorem dX8_extraOn_4 : decode cX8_extraOn 4 = .ok (.iconst 0, 1) := by decide +kernel
theorem dX8_extraOn_5 : decode cX8_extraOn 5 = .ok (.istore 4, 2) := by decide +kernel
theorem dX8_extraOn_7 : decode cX8_extraOn 7 = .ok (.iload 4, 2) := by decide +kernel
theorem dX8_extraOn_9 : decode cX8_extraOn 9 = .ok (.bipush 6, 2) := by decide +kernel
theorem dX8_extraOn_11 : decode cX8_extraOn 11 = .ok (.if_icmp .ge 17, 3) := by decide +kernel
theorem dX8_extraOn_14 : decode cX8_extraOn 14 = .ok (.aload_n 0, 1) := by decide +kernel
theorem dX8_extraOn_15 : decode cX8_extraOn 15 = .ok (.iload_n 3, 1) := by decide +kernel
theorem dX8_extraOn_16 : decode cX8_extraOn 16 = .ok (.iload 4, 2) := by decide +kernel
theorem dX8_extraOn_18 : decode cX8_extraOn 18 = .ok (.iconst 0, 1) := by decide +kernel
theorem dX8_extraOn_19 : decode cX8_extraOn 19 = .ok (.invokestatic 90, 3) := by decide +kernel
theorem dX8_extraOn_22 : decode cX8_extraOn 22 = .ok (.iinc 4 1, 3) := by decide +kernel
theorem dX8_extraOn_25 : decode cX8_extraOn 25 = .ok (.goto (-18), 3) := by decide +kernel
theorem dX8_extraOn_28 : decode cX8_extraOn 28 = .ok (.aload_n 0, 1) := by decide +kernel
theorem dX8_extraOn_29 : decode cX8_extraOn 29 = .ok (.iload_n 3, 1) := by decide +kernel
theorem dX8_extraOn_30 : decode cX8_extraOn 30 = .ok (.iconst 0, 1) := by decide +kernel
theorem dX8_extraOn_31 : decode cX8_extraOn 31 = .ok (.iload_n 1, 1) := by decide +kernel
theorem dX8_extraOn_32 : decode cX8_extraOn 32 = .ok (.invokestatic 90, 3) := by decide +kernel
theorem dX8_extraOn_35 : decode cX8_extraOn 35 = .ok (.aload_n 0, 1) := by decide +kernel
theorem dX8_extraOn_36 : decode cX8_extraOn 36 = .ok (.iload_n 3, 1) := by decide +kernel
theorem dX8_extraOn_37 : decode cX8_extraOn 37 = .ok (.iconst 1, 1) := by decide +kernel
theorem dX8_extraOn_38 : decode cX8_extraOn 38 = .ok (.iload_n 2, 1) := by decide +kernel
theorem dX8_extraOn_39 : decode cX8_extraOn 39 = .ok (.invokestatic 90, 3) := by decide +kernel
theorem dX8_extraOn_42 : decode cX8_extraOn 42 = .ok (.aload_n 0, 1) := by decide +kernel
theorem dX8_extraOn_43 : decode cX8_extraOn 43 = .ok (.iconst 0, 1) := by decide +kernel
theorem dX8_extraOn_44 : decode cX8_extraOn 44 = .ok (.dup2, 1) := by decide +kernel
theorem dX8_extraOn_45 : decode cX8_extraOn 45 = .ok (.iaload, 1) := by decide +kernel
theorem dX8_extraOn_46 : decode cX8_extraOn 46 = .ok (.iconst 1, 1) := by decide +kernel
theorem dX8_extraOn_47 : decode cX8_extraOn 47 = .ok (.iadd, 1) := by decide +kernel
theorem dX8_extraOn_48 : decode cX8_extraOn 48 = .ok (.iastore, 1) := by decide +kernel
theorem dX8_extraOn_49 : decode cX8_extraOn 49 = .ok (.iload_n 3, 1) := by decide +kernel
theorem dX8_extraOn_50 : decode cX8_extraOn 50 = .ok (.ireturn, 1) := by decide +kernel
set_option maxRecDepth 20000 in
theorem ggX8_isNewScene_X8_in : GoodIn wsX8_isNewScene wsX8_in := goodIn_r _ [10] (by decide +kernel) (by decide +kernel)
set_option maxRecDepth 20000 in
theorem gX8_isNewScene_X8_in : GoodIn wsX8_isNewScene (va_wsS RX8 37 yX8_in wsX8_in) := goodIn_app (goodIn_of _ (by decide +kernel)) ggX8_isNewScene_X8_in
theorem dX8_isNewScene_0 : decode cX8_isNewScene 0 = .ok (.iload_n 0, 1) := by decide +kernel
theorem dX8_isNewScene_1 : decode cX8_isNewScene 1 = .ok (.i2l, 1) := by decide +kernel
theorem dX8_isNewScene_2 : decode cX8_isNewScene 2 = .ok (.lconst 0, 1) := by decide +kernel
theorem dX8_isNewScene_3 : decode cX8_isNewScene 3 = .ok (.ldc2_w 98, 3) := by decide +kernel
theorem dX8_isNewScene_6 : decode cX8_isNewScene 6 = .ok (.invokestatic 37, 3) := by decide +kernel
theorem dX8_isNewScene_9 : decode cX8_isNewScene 9 = .ok (.ifCond .eq 58, 3) := by decide +kernel
theorem dX8_isNewScene_12 : decode cX8_isNewScene 12 = .ok (.iload_n 1, 1) := by decide +kernel
theorem dX8_isNewScene_13 : decode cX8_isNewScene 13 = .ok (.i2l, 1) := by decide +kernel
theorem dX8_isNewScene_14 : decode cX8_isNewScene 14 = .ok (.lconst 1, 1) := by decide +kernel
theorem dX8_isNewScene_15 : decode cX8_isNewScene 15 = .ok (.ldc2_w 102, 3) := by decide +kernel
theorem dX8_isNewScene_18 : decode cX8_isNewScene 18 = .ok (.invokestatic 37, 3) := by decide +kernel
theorem dX8_isNewScene_21 : decode cX8_isNewScene 21 = .ok (.ifCond .eq 46, 3) := by decide +kernel
theorem dX8_isNewScene_24 : decode cX8_isNewScene 24 = .ok (.iload_n 2, 1) := by decide +kernel
theorem dX8_isNewScene_25 : decode cX8_isNewScene 25 = .ok (.i2l, 1) := by decide +kernel
theorem dX8_isNewScene_26 : decode cX8_isNewScene 26 = .ok (.lconst 0, 1) := by decide +kernel
theorem dX8_isNewScene_27 : decode cX8_isNewScene 27 = .ok (.ldc2_w 104, 3) := by decide +kernel
theorem dX8_isNewScene_30 : decode cX8_isNewScene 30 = .ok (.invokestatic 37, 3) := by decide +kernel
theorem dX8_isNewScene_33 : decode cX8_isNewScene 33 = .ok (.ifCond .eq 34, 3) := by decide +kernel
theorem dX8_isNewScene_36 : decode cX8_isNewScene 36 = .ok (.iload_n 3, 1) := by decide +kernel
theorem dX8_isNewScene_37 : decode cX8_isNewScene 37 = .ok (.i2l, 1) := by decide +kernel
theorem dX8_isNewScene_38 : decode cX8_isNewScene 38 = .ok (.lconst 0, 1) := by decide +kernel
theorem dX8_isNewScene_39 : decode cX8_isNewScene 39 = .ok (.ldc2_w 106, 3) := by decide +kernel
theorem dX8_isNewScene_42 : decode cX8_isNewScene 42 = .ok (.invokestatic 37, 3) := by decide +kernel
theorem dX8_isNewScene_45 : decode cX8_isNewScene 45 = .ok (.ifCond .eq 22, 3) := by decide +kernel
theorem dX8_isNewScene_48 : decode cX8_isNewScene 48 = .ok (.iload 4, 2) := by decide +kernel
theorem dX8_isNewScene_50 : decode cX8_isNewScene 50 = .ok (.i2l, 1) := by decide +kernel
theorem dX8_isNewScene_51 : decode cX8_isNewScene 51 = .ok (.ldc2_w 108, 3) := by decide +kernel
theorem dX8_isNewScene_54 : decode cX8_isNewScene 54 = .ok (.ldc2_w 110, 3) := by decide +kernel
theorem dX8_isNewScene_57 : decode cX8_isNewScene 57 = .ok (.invokestatic 37, 3) := by decide +kernel
theorem dX8_isNewScene_60 : decode cX8_isNewScene 60 = .ok (.ifCond .eq 7, 3) := by decide +kernel
theorem dX8_isNewScene_63 : decode cX8_isNewScene 63 = .ok (.iconst 1, 1) := by decide +kernel
theorem dX8_isNewScene_64 : decode cX8_isNewScene 64 = .ok (.goto 4, 3) := by decide +kernel
theorem dX8_isNewScene_67 : decode cX8_isNewScene 67 = .ok (.iconst 0, 1) := by decide +kernel
theorem dX8_isNewScene_68 : decode cX8_isNewScene 68 = .ok (.ireturn, 1) := by decide +kernel
theorem dX8_sceneOn_0 : decode cX8_sceneOn 0 = .ok (.bipush 94, 2) := by decide +kernel
theorem dX8_sceneOn_2 : decode cX8_sceneOn 2 = .ok (.bipush 7, 2) := by decide +kernel
theorem dX8_sceneOn_4 : decode cX8_sceneOn 4 = .ok (.aload_n 0, 1) := by decide +kernel
theorem dX8_sceneOn_5 : decode cX8_sceneOn 5 = .ok (.iconst 1, 1) := by decide +kernel
theorem dX8_sceneOn_6 : decode cX8_sceneOn 6 = .ok (.iaload, 1) := by decide +kernel
theorem dX8_sceneOn_7 : decode cX8_sceneOn 7 = .ok (.imul, 1) := by decide +kernel
theorem dX8_sceneOn_8 : decode cX8_sceneOn 8 = .ok (.iadd, 1) := by decide +kernel
theorem dX8_sceneOn_9 : decode cX8_sceneOn 9 = .ok (.istore 6, 2) := by decide +kernel
theorem dX8_sceneOn_11 : decode cX8_sceneOn 11 = .ok (.aload_n 0, 1) := by decide +kernel
theorem dX8_sceneOn_12 : decode cX8_sceneOn 12 = .ok (.iload 6, 2) := by decide +kernel
theorem dX8_sceneOn_14 : decode cX8_sceneOn 14 = .ok (.iload_n 1, 1) := by decide +kernel
theorem dX8_sceneOn_15 : decode cX8_sceneOn 15 = .ok (.iastore, 1) := by decide +kernel
theorem dX8_sceneOn_16 : decode cX8_sceneOn 16 = .ok (.aload_n 0, 1) := by decide +kernel
theorem dX8_sceneOn_17 : decode cX8_sceneOn 17 = .ok (.iload 6, 2) := by decide +kernel
theorem dX8_sceneOn_19 : decode cX8_sceneOn 19 = .ok (.iconst 1, 1) := by decide +kernel
theorem dX8_sceneOn_20 : decode cX8_sceneOn 20 = .ok (.iadd, 1) := by decide +kernel
theorem dX8_sceneOn_21 : decode cX8_sceneOn 21 = .ok (.iload_n 2, 1) := by decide +kernel
theorem dX8_sceneOn_22 : decode cX8_sceneOn 22 = .ok (.iastore, 1) := by decide +kernel
theorem dX8_sceneOn_23 : decode cX8_sceneOn 23 = .ok (.aload_n 0, 1) := by decide +kernel
theorem dX8_sceneOn_24 : decode cX8_sceneOn 24 = .ok (.iload 6, 2) := by decide +kernel
theorem dX8_sceneOn_26 : decode cX8_sceneOn 26 = .ok (.iconst 2, 1) := by decide +kernel
theorem dX8_sceneOn_27 : decode cX8_sceneOn 27 = .ok (.iadd, 1) := by decide +kernel
theorem dX8_sceneOn_28 : decode cX8_sceneOn 28 = .ok (.iload_n 3, 1) := by decide +kernel
theorem dX8_sceneOn_29 : decode cX8_sceneOn 29 = .ok (.iastore, 1) := by decide +kernel
theorem dX8_sceneOn_30 : decode cX8_sceneOn 30 = .ok (.aload_n 0, 1) := by decide +kernel
theorem dX8_sceneOn_31 : decode cX8_sceneOn 31 = .ok (.iload 6, 2) := by decide +kernel
theorem dX8_sceneOn_33 : decode cX8_sceneOn 33 = .ok (.iconst 3, 1) := by decide +kernel
theorem dX8_sceneOn_34 : decode cX8_sceneOn 34 = .ok (.iadd, 1) := by decide +kernel
theorem dX8_sceneOn_35 : decode cX8_sceneOn 35 = .ok (.iload 4, 2) := by decide +kernel
theorem dX8_sceneOn_37 : decode cX8_sceneOn 37 = .ok (.iastore, 1) := by decide +kernel
theorem dX8_sceneOn_38 : decode cX8_sceneOn 38 = .ok (.aload_n 0, 1) := by decide +kernel
theorem dX8_sceneOn_39 : decode cX8_sceneOn 39 = .ok (.iload 6, 2) := by decide +kernel
theorem dX8_sceneOn_41 : decode cX8_sceneOn 41 = .ok (.iconst 4, 1) := by decide +kernel
theorem dX8_sceneOn_42 : decode cX8_sceneOn 42 = .ok (.iadd, 1) := by decide +kernel
theorem dX8_sceneOn_43 : decode cX8_sceneOn 43 = .ok (.iload 5, 2) := by decide +kernel
theorem dX8_sceneOn_45 : decode cX8_sceneOn 45 = .ok (.iastore, 1) := by decide +kernel
theorem dX8_sceneOn_46 : decode cX8_sceneOn 46 = .ok (.aload_n 0, 1) := by decide +kernel
theorem dX8_sceneOn_47 : decode cX8_sceneOn 47 = .ok (.iload 6, 2) := by decide +kernel
theorem dX8_sceneOn_49 : decode cX8_sceneOn 49 = .ok (.iconst 5, 1) := by decide +kernel
theorem dX8_sceneOn_50 : decode cX8_sceneOn 50 = .ok (.iadd, 1) := by decide +kernel
theorem dX8_sceneOn_51 : decode cX8_sceneOn 51 = .ok (.iconst 0, 1) := by decide +kernel
theorem dX8_sceneOn_52 : decode cX8_sceneOn 52 = .ok (.iastore, 1) := by decide +kernel
theorem dX8_sceneOn_53 : decode cX8_sceneOn 53 = .ok (.aload_n 0, 1) := by decide +kernel
theorem dX8_sceneOn_54 : decode cX8_sceneOn 54 = .ok (.iload 6, 2) := by decide +kernel
theorem dX8_sceneOn_56 : decode cX8_sceneOn 56 = .ok (.bipush 6, 2) := by decide +kernel
theorem dX8_sceneOn_58 : decode cX8_sceneOn 58 = .ok (.iadd, 1) := by decide +kernel
theorem dX8_sceneOn_59 : decode cX8_sceneOn 59 = .ok (.iconst 0, 1) := by decide +kernel
theorem dX8_sceneOn_60 : decode cX8_sceneOn 60 = .ok (.iastore, 1) := by decide +kernel
theorem dX8_sceneOn_61 : decode cX8_sceneOn 61 = .ok (.aload_n 0, 1) := by decide +kernel
theorem dX8_sceneOn_62 : decode cX8_sceneOn 62 = .ok (.iconst 1, 1) := by decide +kernel
theorem dX8_sceneOn_63 : decode cX8_sceneOn 63 = .ok (.dup2, 1) := by decide +kernel
theorem dX8_sceneOn_64 : decode cX8_sceneOn 64 = .ok (.iaload, 1) := by decide +kernel
theorem dX8_sceneOn_65 : decode cX8_sceneOn 65 = .ok (.iconst 1, 1) := by decide +kernel
theorem dX8_sceneOn_66 : decode cX8_sceneOn 66 = .ok (.iadd, 1) := by decide +kernel
theorem dX8_sceneOn_67 : decode cX8_sceneOn 67 = .ok (.iastore, 1) := by decide +kernel
theorem dX8_sceneOn_68 : decode cX8_sceneOn 68 = .ok (.aload_n 0, 1) := by decide +kernel
theorem dX8_sceneOn_69 : decode cX8_sceneOn 69 = .ok (.iconst 1, 1) := by decide +kernel
theorem dX8_sceneOn_70 : decode cX8_sceneOn 70 = .ok (.iaload, 1) := by decide +kernel
theorem dX8_sceneOn_71 : decode cX8_sceneOn 71 = .ok (.iconst 1, 1) := by decide +kernel
theorem dX8_sceneOn_72 : decode cX8_sceneOn 72 = .ok (.isub, 1) := by decide +kernel
theorem dX8_sceneOn_73 : decode cX8_sceneOn 73 = .ok (.ireturn, 1) := by decide +kernel
set_option maxRecDepth 20000 in
theorem ggX8_canReplace_X8_told : GoodIn wsX8_canReplace wsX8_told := goodIn_r _ [4] (by decide +kernel) (by decide +kernel)
set_option maxRecDepth 20000 in
theorem gX8_canReplace_X8_told : GoodIn wsX8_canReplace (va_wsS RX8 49 yX8_told wsX8_told) := goodIn_app (goodIn_of _ (by decide +kernel)) ggX8_canReplace_X8_told
set_option maxRecDepth 20000 in
theorem ggX8_canReplace_X8_has : GoodIn wsX8_canReplace wsX8_has := goodIn_r _ [7] (by decide +kernel) (by decide +kernel)
set_option maxRecDepth 20000 in
theorem gX8_canReplace_X8_has : GoodIn wsX8_canReplace (va_wsS RX8 41 yX8_has wsX8_has) := goodIn_app (goodIn_of _ (by decide +kernel)) ggX8_canReplace_X8_has
set_option maxRecDepth 20000 in
theorem ggX8_canReplace_X8_fits : GoodIn wsX8_canReplace wsX8_fits := goodIn_r _ [10, 11, 12, 3, 13, 1, 2, 4] (by decide +kernel) (by decide +kernel)
set_option maxRecDepth 20000 in
theorem gX8_canReplace_X8_fits : GoodIn wsX8_canReplace (va_wsS RX8 56 yX8_fits wsX8_fits) := goodIn_app (goodIn_of _ (by decide +kernel)) ggX8_canReplace_X8_fits
set_option maxRecDepth 20000 in
theorem ggX8_canReplace_X8_of : GoodIn wsX8_canReplace wsX8_of := goodIn_r _ [13] (by decide +kernel) (by decide +kernel)
set_option maxRecDepth 20000 in
theorem gX8_canReplace_X8_of : GoodIn wsX8_canReplace (va_wsS RX8 45 yX8_of wsX8_of) := goodIn_app (goodIn_of _ (by decide +kernel)) ggX8_canReplace_X8_of
set_option maxRecDepth 20000 in
theorem ggX8_canReplace_X8_facesOf : GoodIn wsX8_canReplace wsX8_facesOf := goodIn_r _ [16, 5, 6, 3, 7, 11, 12, 13] (by decide +kernel) (by decide +kernel)
set_option maxRecDepth 20000 in
theorem gX8_canReplace_X8_facesOf : GoodIn wsX8_canReplace (va_wsS RX8 52 yX8_facesOf wsX8_facesOf) := goodIn_app (goodIn_of _ (by decide +kernel)) ggX8_canReplace_X8_facesOf
set_option maxRecDepth 20000 in
theorem ggX8_canReplace_X8_seen : GoodIn wsX8_canReplace wsX8_seen := goodIn_r _ [19, 1, 2, 3, 4, 14, 15, 16, 5, 6, 7, 11, 12, 13] (by decide +kernel) (by decide +kernel)
set_option maxRecDepth 20000 in
theorem gX8_canReplace_X8_seen : GoodIn wsX8_canReplace (va_wsS RX8 66 yX8_seen wsX8_seen) := goodIn_app (goodIn_of _ (by decide +kernel)) ggX8_canReplace_X8_seen
theorem dX8_canReplace_0 : decode cX8_canReplace 0 = .ok (.aload_n 0, 1) := by decide +kernel
theorem dX8_canReplace_1 : decode cX8_canReplace 1 = .ok (.iload_n 1, 1) := by decide +kernel
theorem dX8_canReplace_2 : decode cX8_canReplace 2 = .ok (.bipush 6, 2) := by decide +kernel
theorem dX8_canReplace_4 : decode cX8_canReplace 4 = .ok (.invokestatic 49, 3) := by decide +kernel
theorem dX8_canReplace_7 : decode cX8_canReplace 7 = .ok (.istore 4, 2) := by decide +kernel
theorem dX8_canReplace_9 : decode cX8_canReplace 9 = .ok (.aload_n 0, 1) := by decide +kernel
theorem dX8_canReplace_10 : decode cX8_canReplace 10 = .ok (.iload_n 1, 1) := by decide +kernel
theorem dX8_canReplace_11 : decode cX8_canReplace 11 = .ok (.iconst 5, 1) := by decide +kernel
theorem dX8_canReplace_12 : decode cX8_canReplace 12 = .ok (.invokestatic 49, 3) := by decide +kernel
theorem dX8_canReplace_15 : decode cX8_canReplace 15 = .ok (.ifCond .eq 30, 3) := by decide +kernel
theorem dX8_canReplace_18 : decode cX8_canReplace 18 = .ok (.iload 4, 2) := by decide +kernel
theorem dX8_canReplace_20 : decode cX8_canReplace 20 = .ok (.iload_n 2, 1) := by decide +kernel
theorem dX8_canReplace_21 : decode cX8_canReplace 21 = .ok (.invokestatic 41, 3) := by decide +kernel
theorem dX8_canReplace_24 : decode cX8_canReplace 24 = .ok (.ifCond .eq 21, 3) := by decide +kernel
theorem dX8_canReplace_27 : decode cX8_canReplace 27 = .ok (.iload 4, 2) := by decide +kernel
theorem dX8_canReplace_29 : decode cX8_canReplace 29 = .ok (.iload_n 3, 1) := by decide +kernel
theorem dX8_canReplace_30 : decode cX8_canReplace 30 = .ok (.invokestatic 41, 3) := by decide +kernel
theorem dX8_canReplace_33 : decode cX8_canReplace 33 = .ok (.ifCond .ne 12, 3) := by decide +kernel
theorem dX8_canReplace_36 : decode cX8_canReplace 36 = .ok (.aload_n 0, 1) := by decide +kernel
theorem dX8_canReplace_37 : decode cX8_canReplace 37 = .ok (.iload_n 1, 1) := by decide +kernel
theorem dX8_canReplace_38 : decode cX8_canReplace 38 = .ok (.iload_n 3, 1) := by decide +kernel
theorem dX8_canReplace_39 : decode cX8_canReplace 39 = .ok (.invokestatic 56, 3) := by decide +kernel
theorem dX8_canReplace_42 : decode cX8_canReplace 42 = .ok (.ifCond .ne 5, 3) := by decide +kernel
theorem dX8_canReplace_45 : decode cX8_canReplace 45 = .ok (.iconst 0, 1) := by decide +kernel
theorem dX8_canReplace_46 : decode cX8_canReplace 46 = .ok (.ireturn, 1) := by decide +kernel
theorem dX8_canReplace_47 : decode cX8_canReplace 47 = .ok (.aload_n 0, 1) := by decide +kernel
theorem dX8_canReplace_48 : decode cX8_canReplace 48 = .ok (.iload_n 3, 1) := by decide +kernel
theorem dX8_canReplace_49 : decode cX8_canReplace 49 = .ok (.iconst 1, 1) := by decide +kernel
theorem dX8_canReplace_50 : decode cX8_canReplace 50 = .ok (.invokestatic 45, 3) := by decide +kernel
theorem dX8_canReplace_53 : decode cX8_canReplace 53 = .ok (.istore 5, 2) := by decide +kernel
theorem dX8_canReplace_55 : decode cX8_canReplace 55 = .ok (.aload_n 0, 1) := by decide +kernel
theorem dX8_canReplace_56 : decode cX8_canReplace 56 = .ok (.iload 4, 2) := by decide +kernel
theorem dX8_canReplace_58 : decode cX8_canReplace 58 = .ok (.iconst 1, 1) := by decide +kernel
theorem dX8_canReplace_59 : decode cX8_canReplace 59 = .ok (.iload_n 2, 1) := by decide +kernel
theorem dX8_canReplace_60 : decode cX8_canReplace 60 = .ok (.ishl, 1) := by decide +kernel
theorem dX8_canReplace_61 : decode cX8_canReplace 61 = .ok (.iconst (-1), 1) := by decide +kernel
theorem dX8_canReplace_62 : decode cX8_canReplace 62 = .ok (.ixor, 1) := by decide +kernel
theorem dX8_canReplace_63 : decode cX8_canReplace 63 = .ok (.iand, 1) := by decide +kernel
theorem dX8_canReplace_64 : decode cX8_canReplace 64 = .ok (.invokestatic 52, 3) := by decide +kernel
theorem dX8_canReplace_67 : decode cX8_canReplace 67 = .ok (.iload 5, 2) := by decide +kernel
theorem dX8_canReplace_69 : decode cX8_canReplace 69 = .ok (.invokestatic 41, 3) := by decide +kernel
theorem dX8_canReplace_72 : decode cX8_canReplace 72 = .ok (.ifCond .ne 21, 3) := by decide +kernel
theorem dX8_canReplace_75 : decode cX8_canReplace 75 = .ok (.aload_n 0, 1) := by decide +kernel
theorem dX8_canReplace_76 : decode cX8_canReplace 76 = .ok (.iload_n 1, 1) := by decide +kernel
theorem dX8_canReplace_77 : decode cX8_canReplace 77 = .ok (.iconst 0, 1) := by decide +kernel
theorem dX8_canReplace_78 : decode cX8_canReplace 78 = .ok (.invokestatic 66, 3) := by decide +kernel
theorem dX8_canReplace_81 : decode cX8_canReplace 81 = .ok (.iload 5, 2) := by decide +kernel
theorem dX8_canReplace_83 : decode cX8_canReplace 83 = .ok (.invokestatic 41, 3) := by decide +kernel
theorem dX8_canReplace_86 : decode cX8_canReplace 86 = .ok (.ifCond .ne 7, 3) := by decide +kernel
theorem dX8_canReplace_89 : decode cX8_canReplace 89 = .ok (.iconst 1, 1) := by decide +kernel
theorem dX8_canReplace_90 : decode cX8_canReplace 90 = .ok (.goto 4, 3) := by decide +kernel
theorem dX8_canReplace_93 : decode cX8_canReplace 93 = .ok (.iconst 0, 1) := by decide +kernel
theorem dX8_canReplace_94 : decode cX8_canReplace 94 = .ok (.ireturn, 1) := by decide +kernel
set_option maxRecDepth 20000 in
theorem ggX8_replaceOn_X8_told : GoodIn wsX8_replaceOn wsX8_told := goodIn_r _ [4] (by decide +kernel) (by decide +kernel)
set_option maxRecDepth 20000 in
theorem gX8_replaceOn_X8_told : GoodIn wsX8_replaceOn (va_wsS RX8 49 yX8_told wsX8_told) := goodIn_app (goodIn_of _ (by decide +kernel)) ggX8_replaceOn_X8_told
theorem dX8_replaceOn_0 : decode cX8_replaceOn 0 = .ok (.aload_n 0, 1) := by decide +kernel
theorem dX8_replaceOn_1 : decode cX8_replaceOn 1 = .ok (.iload_n 1, 1) := by decide +kernel
theorem dX8_replaceOn_2 : decode cX8_replaceOn 2 = .ok (.bipush 6, 2) := by decide +kernel
theorem dX8_replaceOn_4 : decode cX8_replaceOn 4 = .ok (.invokestatic 49, 3) := by decide +kernel
theorem dX8_replaceOn_7 : decode cX8_replaceOn 7 = .ok (.iconst 1, 1) := by decide +kernel
theorem dX8_replaceOn_8 : decode cX8_replaceOn 8 = .ok (.iload_n 2, 1) := by decide +kernel
theorem dX8_replaceOn_9 : decode cX8_replaceOn 9 = .ok (.ishl, 1) := by decide +kernel
theorem dX8_replaceOn_10 : decode cX8_replaceOn 10 = .ok (.iconst (-1), 1) := by decide +kernel
theorem dX8_replaceOn_11 : decode cX8_replaceOn 11 = .ok (.ixor, 1) := by decide +kernel
theorem dX8_replaceOn_12 : decode cX8_replaceOn 12 = .ok (.iand, 1) := by decide +kernel
theorem dX8_replaceOn_13 : decode cX8_replaceOn 13 = .ok (.iconst 1, 1) := by decide +kernel
theorem dX8_replaceOn_14 : decode cX8_replaceOn 14 = .ok (.iload_n 3, 1) := by decide +kernel
theorem dX8_replaceOn_15 : decode cX8_replaceOn 15 = .ok (.ishl, 1) := by decide +kernel
theorem dX8_replaceOn_16 : decode cX8_replaceOn 16 = .ok (.ior, 1) := by decide +kernel
theorem dX8_replaceOn_17 : decode cX8_replaceOn 17 = .ok (.istore 4, 2) := by decide +kernel
theorem dX8_replaceOn_19 : decode cX8_replaceOn 19 = .ok (.aload_n 0, 1) := by decide +kernel
theorem dX8_replaceOn_20 : decode cX8_replaceOn 20 = .ok (.bipush 94, 2) := by decide +kernel
theorem dX8_replaceOn_22 : decode cX8_replaceOn 22 = .ok (.bipush 7, 2) := by decide +kernel
theorem dX8_replaceOn_24 : decode cX8_replaceOn 24 = .ok (.iload_n 1, 1) := by decide +kernel
theorem dX8_replaceOn_25 : decode cX8_replaceOn 25 = .ok (.imul, 1) := by decide +kernel
theorem dX8_replaceOn_26 : decode cX8_replaceOn 26 = .ok (.iadd, 1) := by decide +kernel
theorem dX8_replaceOn_27 : decode cX8_replaceOn 27 = .ok (.bipush 6, 2) := by decide +kernel
theorem dX8_replaceOn_29 : decode cX8_replaceOn 29 = .ok (.iadd, 1) := by decide +kernel
theorem dX8_replaceOn_30 : decode cX8_replaceOn 30 = .ok (.iload 4, 2) := by decide +kernel
theorem dX8_replaceOn_32 : decode cX8_replaceOn 32 = .ok (.iastore, 1) := by decide +kernel
theorem dX8_replaceOn_33 : decode cX8_replaceOn 33 = .ok (.iload 4, 2) := by decide +kernel
theorem dX8_replaceOn_35 : decode cX8_replaceOn 35 = .ok (.ireturn, 1) := by decide +kernel
set_option maxRecDepth 20000 in
theorem ggX8_mealOn_X8_of : GoodIn wsX8_mealOn wsX8_of := goodIn_r _ [4] (by decide +kernel) (by decide +kernel)
set_option maxRecDepth 20000 in
theorem gX8_mealOn_X8_of : GoodIn wsX8_mealOn (va_wsS RX8 45 yX8_of wsX8_of) := goodIn_app (goodIn_of _ (by decide +kernel)) ggX8_mealOn_X8_of
set_option maxRecDepth 20000 in
theorem ggX8_mealOn_X8_lay : GoodIn wsX8_mealOn wsX8_lay := goodIn_r _ [7] (by decide +kernel) (by decide +kernel)
set_option maxRecDepth 20000 in
theorem gX8_mealOn_X8_lay : GoodIn wsX8_mealOn (va_wsS RX8 90 yX8_lay wsX8_lay) := goodIn_app (goodIn_of _ (by decide +kernel)) ggX8_mealOn_X8_lay
theorem dX8_mealOn_0 : decode cX8_mealOn 0 = .ok (.iconst 0, 1) := by decide +kernel
theorem dX8_mealOn_1 : decode cX8_mealOn 1 = .ok (.istore_n 1, 1) := by decide +kernel
theorem dX8_mealOn_2 : decode cX8_mealOn 2 = .ok (.iconst 0, 1) := by decide +kernel
theorem dX8_mealOn_3 : decode cX8_mealOn 3 = .ok (.istore_n 2, 1) := by decide +kernel
theorem dX8_mealOn_4 : decode cX8_mealOn 4 = .ok (.iload_n 2, 1) := by decide +kernel
theorem dX8_mealOn_5 : decode cX8_mealOn 5 = .ok (.aload_n 0, 1) := by decide +kernel
theorem dX8_mealOn_6 : decode cX8_mealOn 6 = .ok (.iconst 0, 1) := by decide +kernel
theorem dX8_mealOn_7 : decode cX8_mealOn 7 = .ok (.iaload, 1) := by decide +kernel
theorem dX8_mealOn_8 : decode cX8_mealOn 8 = .ok (.if_icmp .ge 43, 3) := by decide +kernel
theorem dX8_mealOn_11 : decode cX8_mealOn 11 = .ok (.iload_n 1, 1) := by decide +kernel
theorem dX8_mealOn_12 : decode cX8_mealOn 12 = .ok (.aload_n 0, 1) := by decide +kernel
theorem dX8_mealOn_13 : decode cX8_mealOn 13 = .ok (.iload_n 2, 1) := by decide +kernel
theorem dX8_mealOn_14 : decode cX8_mealOn 14 = .ok (.iconst 3, 1) := by decide +kernel
theorem dX8_mealOn_15 : decode cX8_mealOn 15 = .ok (.invokestatic 45, 3) := by decide +kernel
theorem dX8_mealOn_18 : decode cX8_mealOn 18 = .ok (.sipush 360, 3) := by decide +kernel
theorem dX8_mealOn_21 : decode cX8_mealOn 21 = .ok (.if_icmp .le 7, 3) := by decide +kernel
theorem dX8_mealOn_24 : decode cX8_mealOn 24 = .ok (.iconst 1, 1) := by decide +kernel
theorem dX8_mealOn_25 : decode cX8_mealOn 25 = .ok (.goto 4, 3) := by decide +kernel
theorem dX8_mealOn_28 : decode cX8_mealOn 28 = .ok (.iconst 0, 1) := by decide +kernel
theorem dX8_mealOn_29 : decode cX8_mealOn 29 = .ok (.iadd, 1) := by decide +kernel
theorem dX8_mealOn_30 : decode cX8_mealOn 30 = .ok (.istore_n 1, 1) := by decide +kernel
theorem dX8_mealOn_31 : decode cX8_mealOn 31 = .ok (.aload_n 0, 1) := by decide +kernel
theorem dX8_mealOn_32 : decode cX8_mealOn 32 = .ok (.iload_n 2, 1) := by decide +kernel
theorem dX8_mealOn_33 : decode cX8_mealOn 33 = .ok (.iconst 3, 1) := by decide +kernel
theorem dX8_mealOn_34 : decode cX8_mealOn 34 = .ok (.iconst 0, 1) := by decide +kernel
theorem dX8_mealOn_35 : decode cX8_mealOn 35 = .ok (.invokestatic 90, 3) := by decide +kernel
theorem dX8_mealOn_38 : decode cX8_mealOn 38 = .ok (.aload_n 0, 1) := by decide +kernel
theorem dX8_mealOn_39 : decode cX8_mealOn 39 = .ok (.iload_n 2, 1) := by decide +kernel
theorem dX8_mealOn_40 : decode cX8_mealOn 40 = .ok (.iconst 4, 1) := by decide +kernel
theorem dX8_mealOn_41 : decode cX8_mealOn 41 = .ok (.iconst 0, 1) := by decide +kernel
theorem dX8_mealOn_42 : decode cX8_mealOn 42 = .ok (.invokestatic 90, 3) := by decide +kernel
theorem dX8_mealOn_45 : decode cX8_mealOn 45 = .ok (.iinc 2 1, 3) := by decide +kernel
theorem dX8_mealOn_48 : decode cX8_mealOn 48 = .ok (.goto (-44), 3) := by decide +kernel
theorem dX8_mealOn_51 : decode cX8_mealOn 51 = .ok (.iload_n 1, 1) := by decide +kernel
theorem dX8_mealOn_52 : decode cX8_mealOn 52 = .ok (.ireturn, 1) := by decide +kernel
set_option maxRecDepth 20000 in
theorem ggX8_nextOn_X8_mealOn : GoodIn wsX8_nextOn wsX8_mealOn := goodIn_r _ [4, 5, 6, 3, 7, 8, 9, 10] (by decide +kernel) (by decide +kernel)
set_option maxRecDepth 20000 in
theorem gX8_nextOn_X8_mealOn : GoodIn wsX8_nextOn (va_wsS RX8 112 yX8_mealOn wsX8_mealOn) := goodIn_app (goodIn_of _ (by decide +kernel)) ggX8_nextOn_X8_mealOn
set_option maxRecDepth 20000 in
theorem ggX8_nextOn_X8_lay : GoodIn wsX8_nextOn wsX8_lay := goodIn_r _ [10] (by decide +kernel) (by decide +kernel)
set_option maxRecDepth 20000 in
theorem gX8_nextOn_X8_lay : GoodIn wsX8_nextOn (va_wsS RX8 90 yX8_lay wsX8_lay) := goodIn_app (goodIn_of _ (by decide +kernel)) ggX8_nextOn_X8_lay
theorem dX8_nextOn_0 : decode cX8_nextOn 0 = .ok (.aload_n 0, 1) := by decide +kernel
theorem dX8_nextOn_1 : decode cX8_nextOn 1 = .ok (.invokestatic 112, 3) := by decide +kernel
theorem dX8_nextOn_4 : decode cX8_nextOn 4 = .ok (.pop, 1) := by decide +kernel
theorem dX8_nextOn_5 : decode cX8_nextOn 5 = .ok (.iconst 0, 1) := by decide +kernel
theorem dX8_nextOn_6 : decode cX8_nextOn 6 = .ok (.istore_n 1, 1) := by decide +kernel
theorem dX8_nextOn_7 : decode cX8_nextOn 7 = .ok (.iload_n 1, 1) := by decide +kernel
theorem dX8_nextOn_8 : decode cX8_nextOn 8 = .ok (.aload_n 0, 1) := by decide +kernel
theorem dX8_nextOn_9 : decode cX8_nextOn 9 = .ok (.iconst 0, 1) := by decide +kernel
theorem dX8_nextOn_10 : decode cX8_nextOn 10 = .ok (.iaload, 1) := by decide +kernel
theorem dX8_nextOn_11 : decode cX8_nextOn 11 = .ok (.if_icmp .ge 16, 3) := by decide +kernel
theorem dX8_nextOn_14 : decode cX8_nextOn 14 = .ok (.aload_n 0, 1) := by decide +kernel
theorem dX8_nextOn_15 : decode cX8_nextOn 15 = .ok (.iload_n 1, 1) := by decide +kernel
theorem dX8_nextOn_16 : decode cX8_nextOn 16 = .ok (.iconst 2, 1) := by decide +kernel
theorem dX8_nextOn_17 : decode cX8_nextOn 17 = .ok (.iconst 0, 1) := by decide +kernel
theorem dX8_nextOn_18 : decode cX8_nextOn 18 = .ok (.invokestatic 90, 3) := by decide +kernel
theorem dX8_nextOn_21 : decode cX8_nextOn 21 = .ok (.iinc 1 1, 3) := by decide +kernel
theorem dX8_nextOn_24 : decode cX8_nextOn 24 = .ok (.goto (-17), 3) := by decide +kernel
theorem dX8_nextOn_27 : decode cX8_nextOn 27 = .ok (.aload_n 0, 1) := by decide +kernel
theorem dX8_nextOn_28 : decode cX8_nextOn 28 = .ok (.iconst 2, 1) := by decide +kernel
theorem dX8_nextOn_29 : decode cX8_nextOn 29 = .ok (.dup2, 1) := by decide +kernel
theorem dX8_nextOn_30 : decode cX8_nextOn 30 = .ok (.iaload, 1) := by decide +kernel
theorem dX8_nextOn_31 : decode cX8_nextOn 31 = .ok (.iconst 1, 1) := by decide +kernel
theorem dX8_nextOn_32 : decode cX8_nextOn 32 = .ok (.iadd, 1) := by decide +kernel
theorem dX8_nextOn_33 : decode cX8_nextOn 33 = .ok (.iastore, 1) := by decide +kernel
theorem dX8_nextOn_34 : decode cX8_nextOn 34 = .ok (.aload_n 0, 1) := by decide +kernel
theorem dX8_nextOn_35 : decode cX8_nextOn 35 = .ok (.iconst 2, 1) := by decide +kernel
theorem dX8_nextOn_36 : decode cX8_nextOn 36 = .ok (.iaload, 1) := by decide +kernel
theorem dX8_nextOn_37 : decode cX8_nextOn 37 = .ok (.ireturn, 1) := by decide +kernel
set_option maxRecDepth 20000 in
theorem ggX8_isSetting_X8_in : GoodIn wsX8_isSetting wsX8_in := goodIn_r _ [7] (by decide +kernel) (by decide +kernel)
set_option maxRecDepth 20000 in
theorem gX8_isSetting_X8_in : GoodIn wsX8_isSetting (va_wsS RX8 37 yX8_in wsX8_in) := goodIn_app (goodIn_of _ (by decide +kernel)) ggX8_isSetting_X8_in
theorem dX8_isSetting_0 : decode cX8_isSetting 0 = .ok (.iload_n 0, 1) := by decide +kernel
theorem dX8_isSetting_1 : decode cX8_isSetting 1 = .ok (.ifCond .ne 17, 3) := by decide +kernel
theorem dX8_isSetting_4 : decode cX8_isSetting 4 = .ok (.iload_n 1, 1) := by decide +kernel
theorem dX8_isSetting_5 : decode cX8_isSetting 5 = .ok (.i2l, 1) := by decide +kernel
theorem dX8_isSetting_6 : decode cX8_isSetting 6 = .ok (.ldc2_w 110, 3) := by decide +kernel
theorem dX8_isSetting_9 : decode cX8_isSetting 9 = .ok (.ldc2_w 116, 3) := by decide +kernel
theorem dX8_isSetting_12 : decode cX8_isSetting 12 = .ok (.invokestatic 37, 3) := by decide +kernel
theorem dX8_isSetting_15 : decode cX8_isSetting 15 = .ok (.ifCond .ne 37, 3) := by decide +kernel
theorem dX8_isSetting_18 : decode cX8_isSetting 18 = .ok (.iload_n 0, 1) := by decide +kernel
theorem dX8_isSetting_19 : decode cX8_isSetting 19 = .ok (.iconst 1, 1) := by decide +kernel
theorem dX8_isSetting_20 : decode cX8_isSetting 20 = .ok (.if_icmp .ne 15, 3) := by decide +kernel
theorem dX8_isSetting_23 : decode cX8_isSetting 23 = .ok (.iload_n 1, 1) := by decide +kernel
theorem dX8_isSetting_24 : decode cX8_isSetting 24 = .ok (.i2l, 1) := by decide +kernel
theorem dX8_isSetting_25 : decode cX8_isSetting 25 = .ok (.lconst 1, 1) := by decide +kernel
theorem dX8_isSetting_26 : decode cX8_isSetting 26 = .ok (.ldc2_w 118, 3) := by decide +kernel
theorem dX8_isSetting_29 : decode cX8_isSetting 29 = .ok (.invokestatic 37, 3) := by decide +kernel
theorem dX8_isSetting_32 : decode cX8_isSetting 32 = .ok (.ifCond .ne 20, 3) := by decide +kernel
theorem dX8_isSetting_35 : decode cX8_isSetting 35 = .ok (.iload_n 0, 1) := by decide +kernel
theorem dX8_isSetting_36 : decode cX8_isSetting 36 = .ok (.iconst 2, 1) := by decide +kernel
theorem dX8_isSetting_37 : decode cX8_isSetting 37 = .ok (.if_icmp .ne 19, 3) := by decide +kernel
theorem dX8_isSetting_40 : decode cX8_isSetting 40 = .ok (.iload_n 1, 1) := by decide +kernel
theorem dX8_isSetting_41 : decode cX8_isSetting 41 = .ok (.i2l, 1) := by decide +kernel
theorem dX8_isSetting_42 : decode cX8_isSetting 42 = .ok (.lconst 0, 1) := by decide +kernel
theorem dX8_isSetting_43 : decode cX8_isSetting 43 = .ok (.ldc2_w 118, 3) := by decide +kernel
theorem dX8_isSetting_46 : decode cX8_isSetting 46 = .ok (.invokestatic 37, 3) := by decide +kernel
theorem dX8_isSetting_49 : decode cX8_isSetting 49 = .ok (.ifCond .eq 7, 3) := by decide +kernel
theorem dX8_isSetting_52 : decode cX8_isSetting 52 = .ok (.iconst 1, 1) := by decide +kernel
theorem dX8_isSetting_53 : decode cX8_isSetting 53 = .ok (.goto 4, 3) := by decide +kernel
theorem dX8_isSetting_56 : decode cX8_isSetting 56 = .ok (.iconst 0, 1) := by decide +kernel
theorem dX8_isSetting_57 : decode cX8_isSetting 57 = .ok (.ireturn, 1) := by decide +kernel
set_option maxRecDepth 20000 in
theorem ggX8_shots_X8_told : GoodIn wsX8_shots wsX8_told := goodIn_r _ [4] (by decide +kernel) (by decide +kernel)
set_option maxRecDepth 20000 in
theorem gX8_shots_X8_told : GoodIn wsX8_shots (va_wsS RX8 49 yX8_told wsX8_told) := goodIn_app (goodIn_of _ (by decide +kernel)) ggX8_shots_X8_told
theorem dX8_shots_0 : decode cX8_shots 0 = .ok (.iconst 0, 1) := by decide +kernel
theorem dX8_shots_1 : decode cX8_shots 1 = .ok (.istore_n 1, 1) := by decide +kernel
theorem dX8_shots_2 : decode cX8_shots 2 = .ok (.iconst 0, 1) := by decide +kernel
theorem dX8_shots_3 : decode cX8_shots 3 = .ok (.istore_n 2, 1) := by decide +kernel
theorem dX8_shots_4 : decode cX8_shots 4 = .ok (.iload_n 2, 1) := by decide +kernel
theorem dX8_shots_5 : decode cX8_shots 5 = .ok (.aload_n 0, 1) := by decide +kernel
theorem dX8_shots_6 : decode cX8_shots 6 = .ok (.iconst 1, 1) := by decide +kernel
theorem dX8_shots_7 : decode cX8_shots 7 = .ok (.iaload, 1) := by decide +kernel
theorem dX8_shots_8 : decode cX8_shots 8 = .ok (.if_icmp .ge 18, 3) := by decide +kernel
theorem dX8_shots_11 : decode cX8_shots 11 = .ok (.iload_n 1, 1) := by decide +kernel
theorem dX8_shots_12 : decode cX8_shots 12 = .ok (.aload_n 0, 1) := by decide +kernel
theorem dX8_shots_13 : decode cX8_shots 13 = .ok (.iload_n 2, 1) := by decide +kernel
theorem dX8_shots_14 : decode cX8_shots 14 = .ok (.iconst 5, 1) := by decide +kernel
theorem dX8_shots_15 : decode cX8_shots 15 = .ok (.invokestatic 49, 3) := by decide +kernel
theorem dX8_shots_18 : decode cX8_shots 18 = .ok (.iadd, 1) := by decide +kernel
theorem dX8_shots_19 : decode cX8_shots 19 = .ok (.istore_n 1, 1) := by decide +kernel
theorem dX8_shots_20 : decode cX8_shots 20 = .ok (.iinc 2 1, 3) := by decide +kernel
theorem dX8_shots_23 : decode cX8_shots 23 = .ok (.goto (-19), 3) := by decide +kernel
theorem dX8_shots_26 : decode cX8_shots 26 = .ok (.iload_n 1, 1) := by decide +kernel
theorem dX8_shots_27 : decode cX8_shots 27 = .ok (.ireturn, 1) := by decide +kernel
set_option maxRecDepth 20000 in
theorem ggX8_append_X8_in : GoodIn wsX8_append wsX8_in := goodIn_r _ [7] (by decide +kernel) (by decide +kernel)
set_option maxRecDepth 20000 in
theorem gX8_append_X8_in : GoodIn wsX8_append (va_wsS RX8 37 yX8_in wsX8_in) := goodIn_app (goodIn_of _ (by decide +kernel)) ggX8_append_X8_in
set_option maxRecDepth 20000 in
theorem ggX8_append_X8_refused : GoodIn wsX8_append wsX8_refused := goodIn_r _ [11, 12, 13, 14, 15, 16, 17, 18, 19, 20, 21, 22, 23] (by decide +kernel) (by decide +kernel)
set_option maxRecDepth 20000 in
theorem gX8_append_X8_refused : GoodIn wsX8_append (wsV RX8 125 RX8 yX8_refused wsX8_refused) := goodIn_app (goodIn_of _ (by decide +kernel)) ggX8_append_X8_refused
theorem dX8_append_0 : decode cX8_append 0 = .ok (.aload_n 0, 1) := by decide +kernel
theorem dX8_append_1 : decode cX8_append 1 = .ok (.iload_n 1, 1) := by decide +kernel
theorem dX8_append_2 : decode cX8_append 2 = .ok (.i2l, 1) := by decide +kernel
theorem dX8_append_3 : decode cX8_append 3 = .ok (.lconst 0, 1) := by decide +kernel
theorem dX8_append_4 : decode cX8_append 4 = .ok (.ldc2_w 120, 3) := by decide +kernel
theorem dX8_append_7 : decode cX8_append 7 = .ok (.invokestatic 37, 3) := by decide +kernel
theorem dX8_append_10 : decode cX8_append 10 = .ok (.ifCond .ne 7, 3) := by decide +kernel
theorem dX8_append_13 : decode cX8_append 13 = .ok (.iconst 1, 1) := by decide +kernel
theorem dX8_append_14 : decode cX8_append 14 = .ok (.goto 17, 3) := by decide +kernel
theorem dX8_append_17 : decode cX8_append 17 = .ok (.aload_n 0, 1) := by decide +kernel
theorem dX8_append_18 : decode cX8_append 18 = .ok (.getfield 122, 3) := by decide +kernel
theorem dX8_append_21 : decode cX8_append 21 = .ok (.bipush 120, 2) := by decide +kernel
theorem dX8_append_23 : decode cX8_append 23 = .ok (.if_icmp .ne 7, 3) := by decide +kernel
theorem dX8_append_26 : decode cX8_append 26 = .ok (.iconst 2, 1) := by decide +kernel
theorem dX8_append_27 : decode cX8_append 27 = .ok (.goto 4, 3) := by decide +kernel
theorem dX8_append_30 : decode cX8_append 30 = .ok (.iconst 0, 1) := by decide +kernel
theorem dX8_append_31 : decode cX8_append 31 = .ok (.invokevirtual 125, 3) := by decide +kernel
theorem dX8_append_34 : decode cX8_append 34 = .ok (.ifCond .eq 5, 3) := by decide +kernel
theorem dX8_append_37 : decode cX8_append 37 = .ok (.iconst 0, 1) := by decide +kernel
theorem dX8_append_38 : decode cX8_append 38 = .ok (.ireturn, 1) := by decide +kernel
theorem dX8_append_39 : decode cX8_append 39 = .ok (.aload_n 0, 1) := by decide +kernel
theorem dX8_append_40 : decode cX8_append 40 = .ok (.getfield 7, 3) := by decide +kernel
theorem dX8_append_43 : decode cX8_append 43 = .ok (.aload_n 0, 1) := by decide +kernel
theorem dX8_append_44 : decode cX8_append 44 = .ok (.getfield 122, 3) := by decide +kernel
theorem dX8_append_47 : decode cX8_append 47 = .ok (.iload_n 1, 1) := by decide +kernel
theorem dX8_append_48 : decode cX8_append 48 = .ok (.iastore, 1) := by decide +kernel
theorem dX8_append_49 : decode cX8_append 49 = .ok (.aload_n 0, 1) := by decide +kernel
theorem dX8_append_50 : decode cX8_append 50 = .ok (.dup, 1) := by decide +kernel
theorem dX8_append_51 : decode cX8_append 51 = .ok (.getfield 122, 3) := by decide +kernel
theorem dX8_append_54 : decode cX8_append 54 = .ok (.iconst 1, 1) := by decide +kernel
theorem dX8_append_55 : decode cX8_append 55 = .ok (.iadd, 1) := by decide +kernel
theorem dX8_append_56 : decode cX8_append 56 = .ok (.putfield 122, 3) := by decide +kernel
theorem dX8_append_59 : decode cX8_append 59 = .ok (.aload_n 0, 1) := by decide +kernel
theorem dX8_append_60 : decode cX8_append 60 = .ok (.getfield 122, 3) := by decide +kernel
theorem dX8_append_63 : decode cX8_append 63 = .ok (.ireturn, 1) := by decide +kernel
theorem dX8_clearText_0 : decode cX8_clearText 0 = .ok (.aload_n 0, 1) := by decide +kernel
theorem dX8_clearText_1 : decode cX8_clearText 1 = .ok (.iconst 0, 1) := by decide +kernel
theorem dX8_clearText_2 : decode cX8_clearText 2 = .ok (.putfield 33, 3) := by decide +kernel
theorem dX8_clearText_5 : decode cX8_clearText 5 = .ok (.aload_n 0, 1) := by decide +kernel
theorem dX8_clearText_6 : decode cX8_clearText 6 = .ok (.getfield 122, 3) := by decide +kernel
theorem dX8_clearText_9 : decode cX8_clearText 9 = .ok (.istore_n 1, 1) := by decide +kernel
theorem dX8_clearText_10 : decode cX8_clearText 10 = .ok (.aload_n 0, 1) := by decide +kernel
theorem dX8_clearText_11 : decode cX8_clearText 11 = .ok (.iconst 0, 1) := by decide +kernel
theorem dX8_clearText_12 : decode cX8_clearText 12 = .ok (.putfield 122, 3) := by decide +kernel
theorem dX8_clearText_15 : decode cX8_clearText 15 = .ok (.iload_n 1, 1) := by decide +kernel
theorem dX8_clearText_16 : decode cX8_clearText 16 = .ok (.ireturn, 1) := by decide +kernel
set_option maxRecDepth 20000 in
theorem ggX8_figures_X8_in : GoodIn wsX8_figures wsX8_in := goodIn_r _ [8] (by decide +kernel) (by decide +kernel)
set_option maxRecDepth 20000 in
theorem gX8_figures_X8_in : GoodIn wsX8_figures (va_wsS RX8 37 yX8_in wsX8_in) := goodIn_app (goodIn_of _ (by decide +kernel)) ggX8_figures_X8_in
theorem dX8_figures_0 : decode cX8_figures 0 = .ok (.iconst 0, 1) := by decide +kernel
theorem dX8_figures_1 : decode cX8_figures 1 = .ok (.istore 5, 2) := by decide +kernel
theorem dX8_figures_3 : decode cX8_figures 3 = .ok (.iload_n 2, 1) := by decide +kernel
theorem dX8_figures_4 : decode cX8_figures 4 = .ok (.iconst 3, 1) := by decide +kernel
theorem dX8_figures_5 : decode cX8_figures 5 = .ok (.if_icmp .ne 8, 3) := by decide +kernel
theorem dX8_figures_8 : decode cX8_figures 8 = .ok (.bipush 100, 2) := by decide +kernel
theorem dX8_figures_10 : decode cX8_figures 10 = .ok (.goto 14, 3) := by decide +kernel
theorem dX8_figures_13 : decode cX8_figures 13 = .ok (.iload_n 2, 1) := by decide +kernel
theorem dX8_figures_14 : decode cX8_figures 14 = .ok (.iconst 2, 1) := by decide +kernel
theorem dX8_figures_15 : decode cX8_figures 15 = .ok (.if_icmp .ne 8, 3) := by decide +kernel
theorem dX8_figures_18 : decode cX8_figures 18 = .ok (.bipush 10, 2) := by decide +kernel
theorem dX8_figures_20 : decode cX8_figures 20 = .ok (.goto 4, 3) := by decide +kernel
theorem dX8_figures_23 : decode cX8_figures 23 = .ok (.iconst 1, 1) := by decide +kernel
theorem dX8_figures_24 : decode cX8_figures 24 = .ok (.istore 6, 2) := by decide +kernel
theorem dX8_figures_26 : decode cX8_figures 26 = .ok (.iload 6, 2) := by decide +kernel
theorem dX8_figures_28 : decode cX8_figures 28 = .ok (.ifCond .le 104, 3) := by decide +kernel
theorem dX8_figures_31 : decode cX8_figures 31 = .ok (.iload_n 1, 1) := by decide +kernel
theorem dX8_figures_32 : decode cX8_figures 32 = .ok (.iconst (-1), 1) := by decide +kernel
theorem dX8_figures_33 : decode cX8_figures 33 = .ok (.if_icmp .eq 99, 3) := by decide +kernel
theorem dX8_figures_36 : decode cX8_figures 36 = .ok (.aload_n 0, 1) := by decide +kernel
theorem dX8_figures_37 : decode cX8_figures 37 = .ok (.getfield 129, 3) := by decide +kernel
theorem dX8_figures_40 : decode cX8_figures 40 = .ok (.aload_n 0, 1) := by decide +kernel
theorem dX8_figures_41 : decode cX8_figures 41 = .ok (.getfield 122, 3) := by decide +kernel
theorem dX8_figures_44 : decode cX8_figures 44 = .ok (.if_icmp .ge 18, 3) := by decide +kernel
theorem dX8_figures_47 : decode cX8_figures 47 = .ok (.aload_n 0, 1) := by decide +kernel
theorem dX8_figures_48 : decode cX8_figures 48 = .ok (.getfield 7, 3) := by decide +kernel
theorem dX8_figures_51 : decode cX8_figures 51 = .ok (.aload_n 0, 1) := by decide +kernel
theorem dX8_figures_52 : decode cX8_figures 52 = .ok (.getfield 129, 3) := by decide +kernel
theorem dX8_figures_55 : decode cX8_figures 55 = .ok (.iaload, 1) := by decide +kernel
theorem dX8_figures_56 : decode cX8_figures 56 = .ok (.bipush 48, 2) := by decide +kernel
theorem dX8_figures_58 : decode cX8_figures 58 = .ok (.isub, 1) := by decide +kernel
theorem dX8_figures_59 : decode cX8_figures 59 = .ok (.goto 4, 3) := by decide +kernel
theorem dX8_figures_62 : decode cX8_figures 62 = .ok (.iconst (-1), 1) := by decide +kernel
theorem dX8_figures_63 : decode cX8_figures 63 = .ok (.istore 7, 2) := by decide +kernel
theorem dX8_figures_65 : decode cX8_figures 65 = .ok (.iload 5, 2) := by decide +kernel
theorem dX8_figures_67 : decode cX8_figures 67 = .ok (.iload 7, 2) := by decide +kernel
theorem dX8_figures_69 : decode cX8_figures 69 = .ok (.iload 6, 2) := by decide +kernel
theorem dX8_figures_71 : decode cX8_figures 71 = .ok (.imul, 1) := by decide +kernel
theorem dX8_figures_72 : decode cX8_figures 72 = .ok (.iadd, 1) := by decide +kernel
theorem dX8_figures_73 : decode cX8_figures 73 = .ok (.istore 8, 2) := by decide +kernel
theorem dX8_figures_75 : decode cX8_figures 75 = .ok (.iload 7, 2) := by decide +kernel
theorem dX8_figures_77 : decode cX8_figures 77 = .ok (.i2l, 1) := by decide +kernel
theorem dX8_figures_78 : decode cX8_figures 78 = .ok (.lconst 0, 1) := by decide +kernel
theorem dX8_figures_79 : decode cX8_figures 79 = .ok (.ldc2_w 104, 3) := by decide +kernel
theorem dX8_figures_82 : decode cX8_figures 82 = .ok (.invokestatic 37, 3) := by decide +kernel
theorem dX8_figures_85 : decode cX8_figures 85 = .ok (.ifCond .eq 21, 3) := by decide +kernel
theorem dX8_figures_88 : decode cX8_figures 88 = .ok (.iload 8, 2) := by decide +kernel
theorem dX8_figures_90 : decode cX8_figures 90 = .ok (.iload 4, 2) := by decide +kernel
theorem dX8_figures_92 : decode cX8_figures 92 = .ok (.if_icmp .gt 14, 3) := by decide +kernel
theorem dX8_figures_95 : decode cX8_figures 95 = .ok (.iload 8, 2) := by decide +kernel
theorem dX8_figures_97 : decode cX8_figures 97 = .ok (.iload 6, 2) := by decide +kernel
theorem dX8_figures_99 : decode cX8_figures 99 = .ok (.iadd, 1) := by decide +kernel
theorem dX8_figures_100 : decode cX8_figures 100 = .ok (.iconst 1, 1) := by decide +kernel
theorem dX8_figures_101 : decode cX8_figures 101 = .ok (.isub, 1) := by decide +kernel
theorem dX8_figures_102 : decode cX8_figures 102 = .ok (.iload_n 3, 1) := by decide +kernel
theorem dX8_figures_103 : decode cX8_figures 103 = .ok (.if_icmp .ge 5, 3) := by decide +kernel
theorem dX8_figures_106 : decode cX8_figures 106 = .ok (.iconst (-1), 1) := by decide +kernel
theorem dX8_figures_107 : decode cX8_figures 107 = .ok (.ireturn, 1) := by decide +kernel
theorem dX8_figures_108 : decode cX8_figures 108 = .ok (.iload 8, 2) := by decide +kernel
theorem dX8_figures_110 : decode cX8_figures 110 = .ok (.istore 5, 2) := by decide +kernel
theorem dX8_figures_112 : decode cX8_figures 112 = .ok (.aload_n 0, 1) := by decide +kernel
theorem dX8_figures_113 : decode cX8_figures 113 = .ok (.dup, 1) := by decide +kernel
theorem dX8_figures_114 : decode cX8_figures 114 = .ok (.getfield 129, 3) := by decide +kernel
theorem dX8_figures_117 : decode cX8_figures 117 = .ok (.iconst 1, 1) := by decide +kernel
theorem dX8_figures_118 : decode cX8_figures 118 = .ok (.iadd, 1) := by decide +kernel
theorem dX8_figures_119 : decode cX8_figures 119 = .ok (.putfield 129, 3) := by decide +kernel
theorem dX8_figures_122 : decode cX8_figures 122 = .ok (.iload 6, 2) := by decide +kernel
theorem dX8_figures_124 : decode cX8_figures 124 = .ok (.bipush 10, 2) := by decide +kernel
theorem dX8_figures_126 : decode cX8_figures 126 = .ok (.idiv, 1) := by decide +kernel
theorem dX8_figures_127 : decode cX8_figures 127 = .ok (.istore 6, 2) := by decide +kernel
theorem dX8_figures_129 : decode cX8_figures 129 = .ok (.goto (-103), 3) := by decide +kernel
theorem dX8_figures_132 : decode cX8_figures 132 = .ok (.iload_n 1, 1) := by decide +kernel
theorem dX8_figures_133 : decode cX8_figures 133 = .ok (.iconst (-1), 1) := by decide +kernel
theorem dX8_figures_134 : decode cX8_figures 134 = .ok (.if_icmp .ne 7, 3) := by decide +kernel
theorem dX8_figures_137 : decode cX8_figures 137 = .ok (.iconst (-1), 1) := by decide +kernel
theorem dX8_figures_138 : decode cX8_figures 138 = .ok (.goto 5, 3) := by decide +kernel
theorem dX8_figures_141 : decode cX8_figures 141 = .ok (.iload 5, 2) := by decide +kernel
theorem dX8_figures_143 : decode cX8_figures 143 = .ok (.ireturn, 1) := by decide +kernel
theorem dX8_done_0 : decode cX8_done 0 = .ok (.aload_n 0, 1) := by decide +kernel
theorem dX8_done_1 : decode cX8_done 1 = .ok (.dup, 1) := by decide +kernel
theorem dX8_done_2 : decode cX8_done 2 = .ok (.getfield 132, 3) := by decide +kernel
theorem dX8_done_5 : decode cX8_done 5 = .ok (.iload_n 1, 1) := by decide +kernel
theorem dX8_done_6 : decode cX8_done 6 = .ok (.ifCond .eq 7, 3) := by decide +kernel
theorem dX8_done_9 : decode cX8_done 9 = .ok (.iconst 0, 1) := by decide +kernel
theorem dX8_done_10 : decode cX8_done 10 = .ok (.goto 4, 3) := by decide +kernel
theorem dX8_done_13 : decode cX8_done 13 = .ok (.iconst 1, 1) := by decide +kernel
theorem dX8_done_14 : decode cX8_done 14 = .ok (.iadd, 1) := by decide +kernel
theorem dX8_done_15 : decode cX8_done 15 = .ok (.putfield 132, 3) := by decide +kernel
theorem dX8_done_18 : decode cX8_done 18 = .ok (.iconst 1, 1) := by decide +kernel
theorem dX8_done_19 : decode cX8_done 19 = .ok (.ireturn, 1) := by decide +kernel
set_option maxRecDepth 20000 in
theorem ggX8_readScene_X8_figures : GoodIn wsX8_readScene wsX8_figures := goodIn_r _ [5, 6, 7, 8, 9, 10, 11, 4, 12, 21, 22, 23, 24, 25, 26, 27, 28, 29, 30, 31] (by decide +kernel) (by decide +kernel)
set_option maxRecDepth 20000 in
theorem gX8_readScene_X8_figures : GoodIn wsX8_readScene (wsV RX8 135 RX8 yX8_figures wsX8_figures) := goodIn_app (goodIn_of _ (by decide +kernel)) ggX8_readScene_X8_figures
set_option maxRecDepth 20000 in
theorem ggX8_readScene_X8_sceneOn : GoodIn wsX8_readScene wsX8_sceneOn := goodIn_r _ [15] (by decide +kernel) (by decide +kernel)
set_option maxRecDepth 20000 in
theorem gX8_readScene_X8_sceneOn : GoodIn wsX8_readScene (va_wsS RX8 139 yX8_sceneOn wsX8_sceneOn) := goodIn_app (goodIn_of _ (by decide +kernel)) ggX8_readScene_X8_sceneOn
set_option maxRecDepth 20000 in
theorem ggX8_readScene_X8_done : GoodIn wsX8_readScene wsX8_done := goodIn_r _ [19, 20, 21, 22, 23, 24, 25, 26, 27, 28, 29, 30, 31] (by decide +kernel) (by decide +kernel)
set_option maxRecDepth 20000 in
theorem gX8_readScene_X8_done : GoodIn wsX8_readScene (wsV RX8 143 RX8 yX8_done wsX8_done) := goodIn_app (goodIn_of _ (by decide +kernel)) ggX8_readScene_X8_done
theorem dX8_readScene_0 : decode cX8_readScene 0 = .ok (.aload_n 0, 1) := by decide +kernel
theorem dX8_readScene_1 : decode cX8_readScene 1 = .ok (.iconst 0, 1) := by decide +kernel
theorem dX8_readScene_2 : decode cX8_readScene 2 = .ok (.iconst 1, 1) := by decide +kernel
theorem dX8_readScene_3 : decode cX8_readScene 3 = .ok (.iconst 0, 1) := by decide +kernel
theorem dX8_readScene_4 : decode cX8_readScene 4 = .ok (.iconst 4, 1) := by decide +kernel
theorem dX8_readScene_5 : decode cX8_readScene 5 = .ok (.invokevirtual 135, 3) := by decide +kernel
theorem dX8_readScene_8 : decode cX8_readScene 8 = .ok (.istore_n 2, 1) := by decide +kernel
theorem dX8_readScene_9 : decode cX8_readScene 9 = .ok (.aload_n 0, 1) := by decide +kernel
theorem dX8_readScene_10 : decode cX8_readScene 10 = .ok (.iload_n 2, 1) := by decide +kernel
theorem dX8_readScene_11 : decode cX8_readScene 11 = .ok (.iconst 1, 1) := by decide +kernel
theorem dX8_readScene_12 : decode cX8_readScene 12 = .ok (.iconst 1, 1) := by decide +kernel
theorem dX8_readScene_13 : decode cX8_readScene 13 = .ok (.bipush 6, 2) := by decide +kernel
theorem dX8_readScene_15 : decode cX8_readScene 15 = .ok (.invokevirtual 135, 3) := by decide +kernel
theorem dX8_readScene_18 : decode cX8_readScene 18 = .ok (.istore_n 3, 1) := by decide +kernel
theorem dX8_readScene_19 : decode cX8_readScene 19 = .ok (.aload_n 0, 1) := by decide +kernel
theorem dX8_readScene_20 : decode cX8_readScene 20 = .ok (.iload_n 3, 1) := by decide +kernel
theorem dX8_readScene_21 : decode cX8_readScene 21 = .ok (.iconst 1, 1) := by decide +kernel
theorem dX8_readScene_22 : decode cX8_readScene 22 = .ok (.iconst 0, 1) := by decide +kernel
theorem dX8_readScene_23 : decode cX8_readScene 23 = .ok (.bipush 9, 2) := by decide +kernel
theorem dX8_readScene_25 : decode cX8_readScene 25 = .ok (.invokevirtual 135, 3) := by decide +kernel
theorem dX8_readScene_28 : decode cX8_readScene 28 = .ok (.istore 4, 2) := by decide +kernel
theorem dX8_readScene_30 : decode cX8_readScene 30 = .ok (.aload_n 0, 1) := by decide +kernel
theorem dX8_readScene_31 : decode cX8_readScene 31 = .ok (.iload 4, 2) := by decide +kernel
theorem dX8_readScene_33 : decode cX8_readScene 33 = .ok (.iconst 1, 1) := by decide +kernel
theorem dX8_readScene_34 : decode cX8_readScene 34 = .ok (.iconst 0, 1) := by decide +kernel
theorem dX8_readScene_35 : decode cX8_readScene 35 = .ok (.iconst 3, 1) := by decide +kernel
theorem dX8_readScene_36 : decode cX8_readScene 36 = .ok (.invokevirtual 135, 3) := by decide +kernel
theorem dX8_readScene_39 : decode cX8_readScene 39 = .ok (.istore 5, 2) := by decide +kernel
theorem dX8_readScene_41 : decode cX8_readScene 41 = .ok (.aload_n 0, 1) := by decide +kernel
theorem dX8_readScene_42 : decode cX8_readScene 42 = .ok (.iload 5, 2) := by decide +kernel
theorem dX8_readScene_44 : decode cX8_readScene 44 = .ok (.iconst 3, 1) := by decide +kernel
theorem dX8_readScene_45 : decode cX8_readScene 45 = .ok (.bipush 10, 2) := by decide +kernel
theorem dX8_readScene_47 : decode cX8_readScene 47 = .ok (.sipush 240, 3) := by decide +kernel
theorem dX8_readScene_50 : decode cX8_readScene 50 = .ok (.invokevirtual 135, 3) := by decide +kernel
theorem dX8_readScene_53 : decode cX8_readScene 53 = .ok (.istore 6, 2) := by decide +kernel
theorem dX8_readScene_55 : decode cX8_readScene 55 = .ok (.iload 6, 2) := by decide +kernel
theorem dX8_readScene_57 : decode cX8_readScene 57 = .ok (.iconst (-1), 1) := by decide +kernel
theorem dX8_readScene_58 : decode cX8_readScene 58 = .ok (.if_icmp .eq 42, 3) := by decide +kernel
theorem dX8_readScene_61 : decode cX8_readScene 61 = .ok (.aload_n 0, 1) := by decide +kernel
theorem dX8_readScene_62 : decode cX8_readScene 62 = .ok (.aload_n 1, 1) := by decide +kernel
theorem dX8_readScene_63 : decode cX8_readScene 63 = .ok (.iconst 1, 1) := by decide +kernel
theorem dX8_readScene_64 : decode cX8_readScene 64 = .ok (.iaload, 1) := by decide +kernel
theorem dX8_readScene_65 : decode cX8_readScene 65 = .ok (.bipush 10, 2) := by decide +kernel
theorem dX8_readScene_67 : decode cX8_readScene 67 = .ok (.if_icmp .ge 22, 3) := by decide +kernel
theorem dX8_readScene_70 : decode cX8_readScene 70 = .ok (.aload_n 1, 1) := by decide +kernel
theorem dX8_readScene_71 : decode cX8_readScene 71 = .ok (.iload_n 2, 1) := by decide +kernel
theorem dX8_readScene_72 : decode cX8_readScene 72 = .ok (.iload_n 3, 1) := by decide +kernel
theorem dX8_readScene_73 : decode cX8_readScene 73 = .ok (.iload 4, 2) := by decide +kernel
theorem dX8_readScene_75 : decode cX8_readScene 75 = .ok (.iload 5, 2) := by decide +kernel
theorem dX8_readScene_77 : decode cX8_readScene 77 = .ok (.iload 6, 2) := by decide +kernel
theorem dX8_readScene_79 : decode cX8_readScene 79 = .ok (.invokestatic 139, 3) := by decide +kernel
theorem dX8_readScene_82 : decode cX8_readScene 82 = .ok (.ifCond .lt 7, 3) := by decide +kernel
theorem dX8_readScene_85 : decode cX8_readScene 85 = .ok (.iconst 1, 1) := by decide +kernel
theorem dX8_readScene_86 : decode cX8_readScene 86 = .ok (.goto 4, 3) := by decide +kernel
theorem dX8_readScene_89 : decode cX8_readScene 89 = .ok (.iconst 0, 1) := by decide +kernel
theorem dX8_readScene_90 : decode cX8_readScene 90 = .ok (.invokevirtual 143, 3) := by decide +kernel
theorem dX8_readScene_93 : decode cX8_readScene 93 = .ok (.ifCond .eq 7, 3) := by decide +kernel
theorem dX8_readScene_96 : decode cX8_readScene 96 = .ok (.iconst 1, 1) := by decide +kernel
theorem dX8_readScene_97 : decode cX8_readScene 97 = .ok (.goto 4, 3) := by decide +kernel
theorem dX8_readScene_100 : decode cX8_readScene 100 = .ok (.iconst 0, 1) := by decide +kernel
theorem dX8_readScene_101 : decode cX8_readScene 101 = .ok (.ireturn, 1) := by decide +kernel
set_option maxRecDepth 20000 in
theorem ggX8_readCommand_X8_figures : GoodIn wsX8_readCommand wsX8_figures := goodIn_r _ [7, 2, 8, 1, 9, 10, 11, 6, 12, 88, 89, 90, 91, 92, 93, 94, 95, 96, 97, 98] (by decide +kernel) (by decide +kernel)
set_option maxRecDepth 20000 in
theorem gX8_readCommand_X8_figures : GoodIn wsX8_readCommand (wsV RX8 135 RX8 yX8_figures wsX8_figures) := goodIn_app (goodIn_of _ (by decide +kernel)) ggX8_readCommand_X8_figures
set_option maxRecDepth 20000 in
theorem ggX8_readCommand_X8_extraOn : GoodIn wsX8_readCommand wsX8_extraOn := goodIn_r _ [15, 16, 17, 6, 18] (by decide +kernel) (by decide +kernel)
set_option maxRecDepth 20000 in
theorem gX8_readCommand_X8_extraOn : GoodIn wsX8_readCommand (va_wsS RX8 147 yX8_extraOn wsX8_extraOn) := goodIn_app (goodIn_of _ (by decide +kernel)) ggX8_readCommand_X8_extraOn
set_option maxRecDepth 20000 in
theorem ggX8_readCommand_X8_done : GoodIn wsX8_readCommand wsX8_done := goodIn_r _ [22, 23, 88, 89, 90, 91, 92, 93, 94, 95, 96, 97, 98] (by decide +kernel) (by decide +kernel)
set_option maxRecDepth 20000 in
theorem gX8_readCommand_X8_done : GoodIn wsX8_readCommand (wsV RX8 143 RX8 yX8_done wsX8_done) := goodIn_app (goodIn_of _ (by decide +kernel)) ggX8_readCommand_X8_done
set_option maxRecDepth 20000 in
theorem ggX8_readCommand_X8_readScene : GoodIn wsX8_readCommand wsX8_readScene := goodIn_r _ [27, 3, 4, 5, 6, 7, 2, 8, 1, 9, 10, 11, 12, 28, 29, 30, 19, 20, 21, 22, 23, 88, 89, 90, 91, 92, 93, 94, 95, 96, 97, 98] (by decide +kernel) (by decide +kernel)
set_option maxRecDepth 20000 in
theorem gX8_readCommand_X8_readScene : GoodIn wsX8_readCommand (wsV RX8 150 RX8 yX8_readScene wsX8_readScene) := goodIn_app (goodIn_of _ (by decide +kernel)) ggX8_readCommand_X8_readScene
set_option maxRecDepth 20000 in
theorem ggX8_readCommand_X8_canShoot : GoodIn wsX8_readCommand wsX8_canShoot := goodIn_r _ [33, 34, 35, 6, 36, 10, 11, 12, 37, 38, 39, 40, 41, 42, 43, 44, 45, 46, 47, 48, 49, 50, 51, 52, 53, 54, 55, 56, 57, 58, 59, 60, 61, 62, 63, 64, 65, 66, 67, 68, 69, 70, 71, 72, 73, 74, 75] (by decide +kernel) (by decide +kernel)
set_option maxRecDepth 20000 in
theorem gX8_readCommand_X8_canShoot : GoodIn wsX8_readCommand (va_wsS RX8 154 yX8_canShoot wsX8_canShoot) := goodIn_app (goodIn_of _ (by decide +kernel)) ggX8_readCommand_X8_canShoot
set_option maxRecDepth 20000 in
theorem ggX8_readCommand_X8_shootOn : GoodIn wsX8_readCommand wsX8_shootOn := goodIn_r _ [78, 43, 44, 6, 45, 46, 47, 48, 37, 38, 39, 49, 50, 51, 52, 53, 54, 55, 56, 57, 58, 59, 60, 61, 62, 63, 64, 65, 66, 67, 68, 69, 70, 71, 72, 73, 74, 75, 79, 80, 81, 16, 17, 18] (by decide +kernel) (by decide +kernel)
set_option maxRecDepth 20000 in
theorem gX8_readCommand_X8_shootOn : GoodIn wsX8_readCommand (va_wsS RX8 157 yX8_shootOn wsX8_shootOn) := goodIn_app (goodIn_of _ (by decide +kernel)) ggX8_readCommand_X8_shootOn
set_option maxRecDepth 20000 in
theorem ggX8_readCommand_X8_mealOn : GoodIn wsX8_readCommand wsX8_mealOn := goodIn_r _ [84, 55, 56, 6, 57, 16, 17, 18] (by decide +kernel) (by decide +kernel)
set_option maxRecDepth 20000 in
theorem gX8_readCommand_X8_mealOn : GoodIn wsX8_readCommand (va_wsS RX8 112 yX8_mealOn wsX8_mealOn) := goodIn_app (goodIn_of _ (by decide +kernel)) ggX8_readCommand_X8_mealOn
set_option maxRecDepth 20000 in
theorem ggX8_readCommand_X8_nextOn : GoodIn wsX8_readCommand wsX8_nextOn := goodIn_r _ [87, 82, 83, 6, 84, 55, 56, 57, 16, 17, 18] (by decide +kernel) (by decide +kernel)
set_option maxRecDepth 20000 in
theorem gX8_readCommand_X8_nextOn : GoodIn wsX8_readCommand (va_wsS RX8 160 yX8_nextOn wsX8_nextOn) := goodIn_app (goodIn_of _ (by decide +kernel)) ggX8_readCommand_X8_nextOn
theorem dX8_readCommand_0 : decode cX8_readCommand 0 = .ok (.aload_n 0, 1) := by decide +kernel
theorem dX8_readCommand_1 : decode cX8_readCommand 1 = .ok (.getfield 7, 3) := by decide +kernel
theorem dX8_readCommand_4 : decode cX8_readCommand 4 = .ok (.aload_n 0, 1) := by decide +kernel
theorem dX8_readCommand_5 : decode cX8_readCommand 5 = .ok (.getfield 129, 3) := by decide +kernel
theorem dX8_readCommand_8 : decode cX8_readCommand 8 = .ok (.iaload, 1) := by decide +kernel
theorem dX8_readCommand_9 : decode cX8_readCommand 9 = .ok (.istore_n 2, 1) := by decide +kernel
theorem dX8_readCommand_10 : decode cX8_readCommand 10 = .ok (.aload_n 0, 1) := by decide +kernel
theorem dX8_readCommand_11 : decode cX8_readCommand 11 = .ok (.dup, 1) := by decide +kernel
theorem dX8_readCommand_12 : decode cX8_readCommand 12 = .ok (.getfield 129, 3) := by decide +kernel
theorem dX8_readCommand_15 : decode cX8_readCommand 15 = .ok (.iconst 1, 1) := by decide +kernel
theorem dX8_readCommand_16 : decode cX8_readCommand 16 = .ok (.iadd, 1) := by decide +kernel
theorem dX8_readCommand_17 : decode cX8_readCommand 17 = .ok (.putfield 129, 3) := by decide +kernel
theorem dX8_readCommand_20 : decode cX8_readCommand 20 = .ok (.iload_n 2, 1) := by decide +kernel
theorem dX8_readCommand_21 : decode cX8_readCommand 21 = .ok (.tableswitch 226 101 115 #[75, 226, 143, 226, 226, 226, 226, 226, 192, 209, 226, 226, 226, 226, 137], 75) := by decide +kernel
theorem dX8_readCommand_96 : decode cX8_readCommand 96 = .ok (.aload_n 0, 1) := by decide +kernel
theorem dX8_readCommand_97 : decode cX8_readCommand 97 = .ok (.iconst 0, 1) := by decide +kernel
theorem dX8_readCommand_98 : decode cX8_readCommand 98 = .ok (.iconst 1, 1) := by decide +kernel
theorem dX8_readCommand_99 : decode cX8_readCommand 99 = .ok (.iconst 0, 1) := by decide +kernel
theorem dX8_readCommand_100 : decode cX8_readCommand 100 = .ok (.iconst 4, 1) := by decide +kernel
theorem dX8_readCommand_101 : decode cX8_readCommand 101 = .ok (.invokevirtual 135, 3) := by decide +kernel
theorem dX8_readCommand_104 : decode cX8_readCommand 104 = .ok (.istore_n 3, 1) := by decide +kernel
theorem dX8_readCommand_105 : decode cX8_readCommand 105 = .ok (.aload_n 0, 1) := by decide +kernel
theorem dX8_readCommand_106 : decode cX8_readCommand 106 = .ok (.iload_n 3, 1) := by decide +kernel
theorem dX8_readCommand_107 : decode cX8_readCommand 107 = .ok (.iconst 2, 1) := by decide +kernel
theorem dX8_readCommand_108 : decode cX8_readCommand 108 = .ok (.iconst 0, 1) := by decide +kernel
theorem dX8_readCommand_109 : decode cX8_readCommand 109 = .ok (.bipush 13, 2) := by decide +kernel
theorem dX8_readCommand_111 : decode cX8_readCommand 111 = .ok (.invokevirtual 135, 3) := by decide +kernel
theorem dX8_readCommand_114 : decode cX8_readCommand 114 = .ok (.istore 4, 2) := by decide +kernel
theorem dX8_readCommand_116 : decode cX8_readCommand 116 = .ok (.iload 4, 2) := by decide +kernel
theorem dX8_readCommand_118 : decode cX8_readCommand 118 = .ok (.iconst (-1), 1) := by decide +kernel
theorem dX8_readCommand_119 : decode cX8_readCommand 119 = .ok (.if_icmp .eq 37, 3) := by decide +kernel
theorem dX8_readCommand_122 : decode cX8_readCommand 122 = .ok (.aload_n 0, 1) := by decide +kernel
theorem dX8_readCommand_123 : decode cX8_readCommand 123 = .ok (.aload_n 1, 1) := by decide +kernel
theorem dX8_readCommand_124 : decode cX8_readCommand 124 = .ok (.iconst 0, 1) := by decide +kernel
theorem dX8_readCommand_125 : decode cX8_readCommand 125 = .ok (.iaload, 1) := by decide +kernel
theorem dX8_readCommand_126 : decode cX8_readCommand 126 = .ok (.bipush 14, 2) := by decide +kernel
theorem dX8_readCommand_128 : decode cX8_readCommand 128 = .ok (.if_icmp .ge 17, 3) := by decide +kernel
theorem dX8_readCommand_131 : decode cX8_readCommand 131 = .ok (.aload_n 1, 1) := by decide +kernel
theorem dX8_readCommand_132 : decode cX8_readCommand 132 = .ok (.iload_n 3, 1) := by decide +kernel
theorem dX8_readCommand_133 : decode cX8_readCommand 133 = .ok (.iload 4, 2) := by decide +kernel
theorem dX8_readCommand_135 : decode cX8_readCommand 135 = .ok (.invokestatic 147, 3) := by decide +kernel
theorem dX8_readCommand_138 : decode cX8_readCommand 138 = .ok (.ifCond .lt 7, 3) := by decide +kernel
theorem dX8_readCommand_141 : decode cX8_readCommand 141 = .ok (.iconst 1, 1) := by decide +kernel
theorem dX8_readCommand_142 : decode cX8_readCommand 142 = .ok (.goto 4, 3) := by decide +kernel
theorem dX8_readCommand_145 : decode cX8_readCommand 145 = .ok (.iconst 0, 1) := by decide +kernel
theorem dX8_readCommand_146 : decode cX8_readCommand 146 = .ok (.invokevirtual 143, 3) := by decide +kernel
theorem dX8_readCommand_149 : decode cX8_readCommand 149 = .ok (.ifCond .eq 7, 3) := by decide +kernel
theorem dX8_readCommand_152 : decode cX8_readCommand 152 = .ok (.iconst 1, 1) := by decide +kernel
theorem dX8_readCommand_153 : decode cX8_readCommand 153 = .ok (.goto 4, 3) := by decide +kernel
theorem dX8_readCommand_156 : decode cX8_readCommand 156 = .ok (.iconst 0, 1) := by decide +kernel
theorem dX8_readCommand_157 : decode cX8_readCommand 157 = .ok (.ireturn, 1) := by decide +kernel
theorem dX8_readCommand_158 : decode cX8_readCommand 158 = .ok (.aload_n 0, 1) := by decide +kernel
theorem dX8_readCommand_159 : decode cX8_readCommand 159 = .ok (.aload_n 1, 1) := by decide +kernel
theorem dX8_readCommand_160 : decode cX8_readCommand 160 = .ok (.invokevirtual 150, 3) := by decide +kernel
theorem dX8_readCommand_163 : decode cX8_readCommand 163 = .ok (.ireturn, 1) := by decide +kernel
theorem dX8_readCommand_164 : decode cX8_readCommand 164 = .ok (.aload_n 0, 1) := by decide +kernel
theorem dX8_readCommand_165 : decode cX8_readCommand 165 = .ok (.iconst 0, 1) := by decide +kernel
theorem dX8_readCommand_166 : decode cX8_readCommand 166 = .ok (.iconst 1, 1) := by decide +kernel
theorem dX8_readCommand_167 : decode cX8_readCommand 167 = .ok (.iconst 0, 1) := by decide +kernel
theorem dX8_readCommand_168 : decode cX8_readCommand 168 = .ok (.bipush 9, 2) := by decide +kernel
theorem dX8_readCommand_170 : decode cX8_readCommand 170 = .ok (.invokevirtual 135, 3) := by decide +kernel
theorem dX8_readCommand_173 : decode cX8_readCommand 173 = .ok (.istore_n 3, 1) := by decide +kernel
theorem dX8_readCommand_174 : decode cX8_readCommand 174 = .ok (.iload_n 3, 1) := by decide +kernel
theorem dX8_readCommand_175 : decode cX8_readCommand 175 = .ok (.iconst (-1), 1) := by decide +kernel
theorem dX8_readCommand_176 : decode cX8_readCommand 176 = .ok (.if_icmp .eq 35, 3) := by decide +kernel
theorem dX8_readCommand_179 : decode cX8_readCommand 179 = .ok (.aload_n 0, 1) := by decide +kernel
theorem dX8_readCommand_180 : decode cX8_readCommand 180 = .ok (.aload_n 1, 1) := by decide +kernel
theorem dX8_readCommand_181 : decode cX8_readCommand 181 = .ok (.iload_n 3, 1) := by decide +kernel
theorem dX8_readCommand_182 : decode cX8_readCommand 182 = .ok (.invokestatic 154, 3) := by decide +kernel
theorem dX8_readCommand_185 : decode cX8_readCommand 185 = .ok (.ifCond .eq 15, 3) := by decide +kernel
theorem dX8_readCommand_188 : decode cX8_readCommand 188 = .ok (.aload_n 1, 1) := by decide +kernel
theorem dX8_readCommand_189 : decode cX8_readCommand 189 = .ok (.iload_n 3, 1) := by decide +kernel
theorem dX8_readCommand_190 : decode cX8_readCommand 190 = .ok (.invokestatic 157, 3) := by decide +kernel
theorem dX8_readCommand_193 : decode cX8_readCommand 193 = .ok (.ifCond .le 7, 3) := by decide +kernel
theorem dX8_readCommand_196 : decode cX8_readCommand 196 = .ok (.iconst 1, 1) := by decide +kernel
theorem dX8_readCommand_197 : decode cX8_readCommand 197 = .ok (.goto 4, 3) := by decide +kernel
theorem dX8_readCommand_200 : decode cX8_readCommand 200 = .ok (.iconst 0, 1) := by decide +kernel
theorem dX8_readCommand_201 : decode cX8_readCommand 201 = .ok (.invokevirtual 143, 3) := by decide +kernel
theorem dX8_readCommand_204 : decode cX8_readCommand 204 = .ok (.ifCond .eq 7, 3) := by decide +kernel
theorem dX8_readCommand_207 : decode cX8_readCommand 207 = .ok (.iconst 1, 1) := by decide +kernel
theorem dX8_readCommand_208 : decode cX8_readCommand 208 = .ok (.goto 4, 3) := by decide +kernel
theorem dX8_readCommand_211 : decode cX8_readCommand 211 = .ok (.iconst 0, 1) := by decide +kernel
theorem dX8_readCommand_212 : decode cX8_readCommand 212 = .ok (.ireturn, 1) := by decide +kernel
theorem dX8_readCommand_213 : decode cX8_readCommand 213 = .ok (.aload_n 0, 1) := by decide +kernel
theorem dX8_readCommand_214 : decode cX8_readCommand 214 = .ok (.aload_n 1, 1) := by decide +kernel
theorem dX8_readCommand_215 : decode cX8_readCommand 215 = .ok (.invokestatic 112, 3) := by decide +kernel
theorem dX8_readCommand_218 : decode cX8_readCommand 218 = .ok (.ifCond .lt 7, 3) := by decide +kernel
theorem dX8_readCommand_221 : decode cX8_readCommand 221 = .ok (.iconst 1, 1) := by decide +kernel
theorem dX8_readCommand_222 : decode cX8_readCommand 222 = .ok (.goto 4, 3) := by decide +kernel
theorem dX8_readCommand_225 : decode cX8_readCommand 225 = .ok (.iconst 0, 1) := by decide +kernel
theorem dX8_readCommand_226 : decode cX8_readCommand 226 = .ok (.invokevirtual 143, 3) := by decide +kernel
theorem dX8_readCommand_229 : decode cX8_readCommand 229 = .ok (.ireturn, 1) := by decide +kernel
theorem dX8_readCommand_230 : decode cX8_readCommand 230 = .ok (.aload_n 0, 1) := by decide +kernel
theorem dX8_readCommand_231 : decode cX8_readCommand 231 = .ok (.aload_n 1, 1) := by decide +kernel
theorem dX8_readCommand_232 : decode cX8_readCommand 232 = .ok (.invokestatic 160, 3) := by decide +kernel
theorem dX8_readCommand_235 : decode cX8_readCommand 235 = .ok (.ifCond .le 7, 3) := by decide +kernel
theorem dX8_readCommand_238 : decode cX8_readCommand 238 = .ok (.iconst 1, 1) := by decide +kernel
theorem dX8_readCommand_239 : decode cX8_readCommand 239 = .ok (.goto 4, 3) := by decide +kernel
theorem dX8_readCommand_242 : decode cX8_readCommand 242 = .ok (.iconst 0, 1) := by decide +kernel
theorem dX8_readCommand_243 : decode cX8_readCommand 243 = .ok (.invokevirtual 143, 3) := by decide +kernel
theorem dX8_readCommand_246 : decode cX8_readCommand 246 = .ok (.ireturn, 1) := by decide +kernel
theorem dX8_readCommand_247 : decode cX8_readCommand 247 = .ok (.aload_n 0, 1) := by decide +kernel
theorem dX8_readCommand_248 : decode cX8_readCommand 248 = .ok (.dup, 1) := by decide +kernel
theorem dX8_readCommand_249 : decode cX8_readCommand 249 = .ok (.getfield 129, 3) := by decide +kernel
theorem dX8_readCommand_252 : decode cX8_readCommand 252 = .ok (.iconst 1, 1) := by decide +kernel
theorem dX8_readCommand_253 : decode cX8_readCommand 253 = .ok (.isub, 1) := by decide +kernel
theorem dX8_readCommand_254 : decode cX8_readCommand 254 = .ok (.putfield 129, 3) := by decide +kernel
theorem dX8_readCommand_257 : decode cX8_readCommand 257 = .ok (.iconst 0, 1) := by decide +kernel
theorem dX8_readCommand_258 : decode cX8_readCommand 258 = .ok (.ireturn, 1) := by decide +kernel
set_option maxRecDepth 20000 in
theorem ggX8_readText_X8_clear : GoodIn wsX8_readText wsX8_clear := goodIn_r _ [8] (by decide +kernel) (by decide +kernel)
set_option maxRecDepth 20000 in
theorem gX8_readText_X8_clear : GoodIn wsX8_readText (va_wsS RX8 29 yX8_clear wsX8_clear) := goodIn_app (goodIn_of _ (by decide +kernel)) ggX8_readText_X8_clear
set_option maxRecDepth 20000 in
theorem ggX8_readText_X8_readCommand : GoodIn wsX8_readText wsX8_readCommand := goodIn_r _ [12, 4, 2, 13, 14, 15, 7, 16, 3, 17, 18, 19, 20, 21, 22, 23, 24, 25, 26, 27, 28, 29, 30, 1, 31, 32, 33, 34, 35, 36, 37, 38, 39, 40, 41, 42, 43, 44, 45, 46, 47, 48, 49, 50, 51, 52, 53, 54, 55, 56, 57, 58, 59, 60, 61, 62, 63, 64, 65, 66, 67, 68, 69, 70, 71, 72, 73, 74, 75, 76, 77, 78, 79, 80, 81, 82, 83, 84, 85, 86, 87, 88, 89, 90, 91, 92, 93, 94, 95, 96, 97, 98, 99, 100, 101, 102, 103, 104, 105] (by decide +kernel) (by decide +kernel)
set_option maxRecDepth 20000 in
theorem gX8_readText_X8_readCommand : GoodIn wsX8_readText (wsV RX8 163 RX8 yX8_readCommand wsX8_readCommand) := goodIn_app (goodIn_of _ (by decide +kernel)) ggX8_readText_X8_readCommand
theorem dX8_readText_0 : decode cX8_readText 0 = .ok (.aload_n 1, 1) := by decide +kernel
theorem dX8_readText_1 : decode cX8_readText 1 = .ok (.invokestatic 29, 3) := by decide +kernel
theorem dX8_readText_4 : decode cX8_readText 4 = .ok (.aload_n 0, 1) := by decide +kernel
theorem dX8_readText_5 : decode cX8_readText 5 = .ok (.iconst 0, 1) := by decide +kernel
theorem dX8_readText_6 : decode cX8_readText 6 = .ok (.putfield 132, 3) := by decide +kernel
theorem dX8_readText_9 : decode cX8_readText 9 = .ok (.aload_n 0, 1) := by decide +kernel
theorem dX8_readText_10 : decode cX8_readText 10 = .ok (.iconst 0, 1) := by decide +kernel
theorem dX8_readText_11 : decode cX8_readText 11 = .ok (.putfield 129, 3) := by decide +kernel
theorem dX8_readText_14 : decode cX8_readText 14 = .ok (.aload_n 0, 1) := by decide +kernel
theorem dX8_readText_15 : decode cX8_readText 15 = .ok (.getfield 122, 3) := by decide +kernel
theorem dX8_readText_18 : decode cX8_readText 18 = .ok (.ifCond .eq 14, 3) := by decide +kernel
theorem dX8_readText_21 : decode cX8_readText 21 = .ok (.aload_n 0, 1) := by decide +kernel
theorem dX8_readText_22 : decode cX8_readText 22 = .ok (.getfield 7, 3) := by decide +kernel
theorem dX8_readText_25 : decode cX8_readText 25 = .ok (.iconst 0, 1) := by decide +kernel
theorem dX8_readText_26 : decode cX8_readText 26 = .ok (.iaload, 1) := by decide +kernel
theorem dX8_readText_27 : decode cX8_readText 27 = .ok (.bipush 70, 2) := by decide +kernel
theorem dX8_readText_29 : decode cX8_readText 29 = .ok (.if_icmp .eq 5, 3) := by decide +kernel
theorem dX8_readText_32 : decode cX8_readText 32 = .ok (.iconst 0, 1) := by decide +kernel
theorem dX8_readText_33 : decode cX8_readText 33 = .ok (.ireturn, 1) := by decide +kernel
theorem dX8_readText_34 : decode cX8_readText 34 = .ok (.aload_n 0, 1) := by decide +kernel
theorem dX8_readText_35 : decode cX8_readText 35 = .ok (.iconst 1, 1) := by decide +kernel
theorem dX8_readText_36 : decode cX8_readText 36 = .ok (.putfield 129, 3) := by decide +kernel
theorem dX8_readText_39 : decode cX8_readText 39 = .ok (.aload_n 0, 1) := by decide +kernel
theorem dX8_readText_40 : decode cX8_readText 40 = .ok (.getfield 129, 3) := by decide +kernel
theorem dX8_readText_43 : decode cX8_readText 43 = .ok (.aload_n 0, 1) := by decide +kernel
theorem dX8_readText_44 : decode cX8_readText 44 = .ok (.getfield 122, 3) := by decide +kernel
theorem dX8_readText_47 : decode cX8_readText 47 = .ok (.if_icmp .ge 16, 3) := by decide +kernel
theorem dX8_readText_50 : decode cX8_readText 50 = .ok (.aload_n 0, 1) := by decide +kernel
theorem dX8_readText_51 : decode cX8_readText 51 = .ok (.aload_n 1, 1) := by decide +kernel
theorem dX8_readText_52 : decode cX8_readText 52 = .ok (.invokevirtual 163, 3) := by decide +kernel
theorem dX8_readText_55 : decode cX8_readText 55 = .ok (.ifCond .ne (-16), 3) := by decide +kernel
theorem dX8_readText_58 : decode cX8_readText 58 = .ok (.aload_n 0, 1) := by decide +kernel
theorem dX8_readText_59 : decode cX8_readText 59 = .ok (.getfield 129, 3) := by decide +kernel
theorem dX8_readText_62 : decode cX8_readText 62 = .ok (.ireturn, 1) := by decide +kernel
theorem dX8_readText_63 : decode cX8_readText 63 = .ok (.iconst (-1), 1) := by decide +kernel
theorem dX8_readText_64 : decode cX8_readText 64 = .ok (.ireturn, 1) := by decide +kernel
set_option maxRecDepth 20000 in
theorem ggX8_errorPosition_X8_readText : GoodIn wsX8_errorPosition wsX8_readText := goodIn_r _ [7, 8, 9, 10, 11, 12, 13, 6, 14, 15, 16, 17, 18, 19, 20, 21, 22, 23, 24, 25, 26, 27, 28, 29, 30, 31, 32, 33, 34, 35, 36, 37, 38, 39, 40, 41, 42, 43, 44, 45, 46, 47, 48, 49, 50, 51, 52, 53, 54, 55, 56, 57, 58, 59, 60, 61, 62, 63, 64, 65, 66, 67, 68, 69, 70, 71, 72, 73, 74, 75, 76, 77, 78, 79, 80, 81, 82, 83, 84, 85, 86, 87, 88, 89, 90, 91, 92, 93, 94, 95, 96, 97, 98, 99, 100, 101, 102, 103, 104, 105, 106, 107, 108, 109, 110, 111] (by decide +kernel) (by decide +kernel)
set_option maxRecDepth 20000 in
theorem gX8_errorPosition_X8_readText : GoodIn wsX8_errorPosition (wsV RX8 166 RX8 yX8_readText wsX8_readText) := goodIn_app (goodIn_of _ (by decide +kernel)) ggX8_errorPosition_X8_readText
theorem dX8_errorPosition_0 : decode cX8_errorPosition 0 = .ok (.aload_n 0, 1) := by decide +kernel
theorem dX8_errorPosition_1 : decode cX8_errorPosition 1 = .ok (.iconst 0, 1) := by decide +kernel
theorem dX8_errorPosition_2 : decode cX8_errorPosition 2 = .ok (.putfield 33, 3) := by decide +kernel
theorem dX8_errorPosition_5 : decode cX8_errorPosition 5 = .ok (.aload_n 0, 1) := by decide +kernel
theorem dX8_errorPosition_6 : decode cX8_errorPosition 6 = .ok (.aload_n 0, 1) := by decide +kernel
theorem dX8_errorPosition_7 : decode cX8_errorPosition 7 = .ok (.getfield 16, 3) := by decide +kernel
theorem dX8_errorPosition_10 : decode cX8_errorPosition 10 = .ok (.invokevirtual 166, 3) := by decide +kernel
theorem dX8_errorPosition_13 : decode cX8_errorPosition 13 = .ok (.ireturn, 1) := by decide +kernel
