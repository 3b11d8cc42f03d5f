/-! ===== the law: its rows, printed ===== -/
theorem dL_price_39 : decode cL_price 39 = .ok (.aload_n 0, 1) := by decide +kernel
theorem dL_price_40 : decode cL_price 40 = .ok (.invokestatic 202, 3) := by decide +kernel
theorem dL_price_43 : decode cL_price 43 = .ok (.iload_n 3, 1) := by decide +kernel
theorem dL_price_44 : decode cL_price 44 = .ok (.isub, 1) := by decide +kernel
theorem dL_price_45 : decode cL_price 45 = .ok (.istore 6, 2) := by decide +kernel
theorem dL_price_47 : decode cL_price 47 = .ok (.iload 5, 2) := by decide +kernel
theorem dL_price_49 : decode cL_price 49 = .ok (.ldc 18, 2) := by decide +kernel
theorem dL_price_51 : decode cL_price 51 = .ok (.if_icmp .eq 18, 3) := by decide +kernel
theorem dL_price_54 : decode cL_price 54 = .ok (.aload_n 0, 1) := by decide +kernel
theorem dL_price_55 : decode cL_price 55 = .ok (.bipush 10, 2) := by decide +kernel
theorem dL_price_57 : decode cL_price 57 = .ok (.iconst 0, 1) := by decide +kernel
theorem dL_price_58 : decode cL_price 58 = .ok (.iconst 0, 1) := by decide +kernel
theorem dL_price_59 : decode cL_price 59 = .ok (.iconst 0, 1) := by decide +kernel
theorem dL_price_60 : decode cL_price 60 = .ok (.invokestatic 144, 3) := by decide +kernel
theorem dL_price_63 : decode cL_price 63 = .ok (.invokestatic 205, 3) := by decide +kernel
theorem dL_price_66 : decode cL_price 66 = .ok (.ifCond .ne 29, 3) := by decide +kernel
theorem dL_price_69 : decode cL_price 69 = .ok (.iload 4, 2) := by decide +kernel
theorem dL_price_71 : decode cL_price 71 = .ok (.ldc 18, 2) := by decide +kernel
theorem dL_price_73 : decode cL_price 73 = .ok (.if_icmp .eq 18, 3) := by decide +kernel
theorem dL_price_76 : decode cL_price 76 = .ok (.aload_n 0, 1) := by decide +kernel
theorem dL_price_77 : decode cL_price 77 = .ok (.bipush 10, 2) := by decide +kernel
theorem dL_price_79 : decode cL_price 79 = .ok (.iconst 0, 1) := by decide +kernel
theorem dL_price_80 : decode cL_price 80 = .ok (.iconst 0, 1) := by decide +kernel
theorem dL_price_81 : decode cL_price 81 = .ok (.iconst 0, 1) := by decide +kernel
theorem dL_price_82 : decode cL_price 82 = .ok (.invokestatic 144, 3) := by decide +kernel
theorem dL_price_85 : decode cL_price 85 = .ok (.invokestatic 205, 3) := by decide +kernel
theorem dL_price_88 : decode cL_price 88 = .ok (.ifCond .ne 7, 3) := by decide +kernel
theorem dL_price_91 : decode cL_price 91 = .ok (.iconst 1, 1) := by decide +kernel
theorem dL_price_92 : decode cL_price 92 = .ok (.goto 4, 3) := by decide +kernel
theorem dL_price_95 : decode cL_price 95 = .ok (.iconst 0, 1) := by decide +kernel
theorem dL_price_96 : decode cL_price 96 = .ok (.istore 7, 2) := by decide +kernel
theorem dL_price_98 : decode cL_price 98 = .ok (.iload 7, 2) := by decide +kernel
theorem dL_price_100 : decode cL_price 100 = .ok (.ifCond .ne 8, 3) := by decide +kernel
theorem dL_price_103 : decode cL_price 103 = .ok (.bipush (-9), 2) := by decide +kernel
theorem dL_price_105 : decode cL_price 105 = .ok (.goto 23, 3) := by decide +kernel
theorem dL_price_108 : decode cL_price 108 = .ok (.iload 4, 2) := by decide +kernel
theorem dL_price_110 : decode cL_price 110 = .ok (.ldc 18, 2) := by decide +kernel
theorem dL_price_112 : decode cL_price 112 = .ok (.if_icmp .eq 10, 3) := by decide +kernel
theorem dL_price_115 : decode cL_price 115 = .ok (.iload 5, 2) := by decide +kernel
theorem dL_price_117 : decode cL_price 117 = .ok (.ldc 18, 2) := by decide +kernel
theorem dL_price_119 : decode cL_price 119 = .ok (.if_icmp .ne 7, 3) := by decide +kernel
theorem dL_price_122 : decode cL_price 122 = .ok (.iconst (-1), 1) := by decide +kernel
theorem dL_price_123 : decode cL_price 123 = .ok (.goto 5, 3) := by decide +kernel
theorem dL_price_126 : decode cL_price 126 = .ok (.iload 6, 2) := by decide +kernel
theorem dL_price_128 : decode cL_price 128 = .ok (.ireturn, 1) := by decide +kernel
theorem dL_both_0 : decode cL_both 0 = .ok (.aload_n 0, 1) := by decide +kernel
theorem dL_both_1 : decode cL_both 1 = .ok (.iconst 2, 1) := by decide +kernel
theorem dL_both_2 : decode cL_both 2 = .ok (.iconst 1, 1) := by decide +kernel
theorem dL_both_3 : decode cL_both 3 = .ok (.iconst 0, 1) := by decide +kernel
theorem dL_both_4 : decode cL_both 4 = .ok (.iconst 0, 1) := by decide +kernel
theorem dL_both_5 : decode cL_both 5 = .ok (.invokestatic 144, 3) := by decide +kernel
theorem dL_both_8 : decode cL_both 8 = .ok (.istore_n 3, 1) := by decide +kernel
theorem dL_both_9 : decode cL_both 9 = .ok (.iload_n 2, 1) := by decide +kernel
theorem dL_both_10 : decode cL_both 10 = .ok (.iload_n 3, 1) := by decide +kernel
theorem dL_both_11 : decode cL_both 11 = .ok (.irem, 1) := by decide +kernel
theorem dL_both_12 : decode cL_both 12 = .ok (.istore 4, 2) := by decide +kernel
theorem dL_both_14 : decode cL_both 14 = .ok (.iload 4, 2) := by decide +kernel
theorem dL_both_16 : decode cL_both 16 = .ok (.iconst 1, 1) := by decide +kernel
theorem dL_both_17 : decode cL_both 17 = .ok (.iadd, 1) := by decide +kernel
theorem dL_both_18 : decode cL_both 18 = .ok (.iload_n 2, 1) := by decide +kernel
theorem dL_both_19 : decode cL_both 19 = .ok (.bipush 16, 2) := by decide +kernel
theorem dL_both_21 : decode cL_both 21 = .ok (.idiv, 1) := by decide +kernel
theorem dL_both_22 : decode cL_both 22 = .ok (.iload_n 3, 1) := by decide +kernel
theorem dL_both_23 : decode cL_both 23 = .ok (.iconst 1, 1) := by decide +kernel
theorem dL_both_24 : decode cL_both 24 = .ok (.isub, 1) := by decide +kernel
theorem dL_both_25 : decode cL_both 25 = .ok (.irem, 1) := by decide +kernel
theorem dL_both_26 : decode cL_both 26 = .ok (.iadd, 1) := by decide +kernel
theorem dL_both_27 : decode cL_both 27 = .ok (.iload_n 3, 1) := by decide +kernel
theorem dL_both_28 : decode cL_both 28 = .ok (.irem, 1) := by decide +kernel
theorem dL_both_29 : decode cL_both 29 = .ok (.istore 5, 2) := by decide +kernel
theorem dL_both_31 : decode cL_both 31 = .ok (.aload_n 0, 1) := by decide +kernel
theorem dL_both_32 : decode cL_both 32 = .ok (.bipush 14, 2) := by decide +kernel
theorem dL_both_34 : decode cL_both 34 = .ok (.iload 4, 2) := by decide +kernel
theorem dL_both_36 : decode cL_both 36 = .ok (.iload 5, 2) := by decide +kernel
theorem dL_both_38 : decode cL_both 38 = .ok (.iconst 0, 1) := by decide +kernel
theorem dL_both_39 : decode cL_both 39 = .ok (.invokestatic 144, 3) := by decide +kernel
theorem dL_both_42 : decode cL_both 42 = .ok (.istore 6, 2) := by decide +kernel
theorem dL_both_44 : decode cL_both 44 = .ok (.aload_n 0, 1) := by decide +kernel
theorem dL_both_45 : decode cL_both 45 = .ok (.iload 4, 2) := by decide +kernel
theorem dL_both_47 : decode cL_both 47 = .ok (.iload 5, 2) := by decide +kernel
theorem dL_both_49 : decode cL_both 49 = .ok (.invokestatic 209, 3) := by decide +kernel
theorem dL_both_52 : decode cL_both 52 = .ok (.istore 7, 2) := by decide +kernel
theorem dL_both_54 : decode cL_both 54 = .ok (.aload_n 0, 1) := by decide +kernel
theorem dL_both_55 : decode cL_both 55 = .ok (.iload 5, 2) := by decide +kernel
theorem dL_both_57 : decode cL_both 57 = .ok (.iload 4, 2) := by decide +kernel
theorem dL_both_59 : decode cL_both 59 = .ok (.invokestatic 209, 3) := by decide +kernel
theorem dL_both_62 : decode cL_both 62 = .ok (.istore 8, 2) := by decide +kernel
theorem dL_both_64 : decode cL_both 64 = .ok (.aload_n 1, 1) := by decide +kernel
theorem dL_both_65 : decode cL_both 65 = .ok (.iload 4, 2) := by decide +kernel
theorem dL_both_67 : decode cL_both 67 = .ok (.iload 5, 2) := by decide +kernel
theorem dL_both_69 : decode cL_both 69 = .ok (.invokestatic 209, 3) := by decide +kernel
theorem dL_both_72 : decode cL_both 72 = .ok (.iload 7, 2) := by decide +kernel
theorem dL_both_74 : decode cL_both 74 = .ok (.if_icmp .ne 111, 3) := by decide +kernel
theorem dL_both_77 : decode cL_both 77 = .ok (.aload_n 1, 1) := by decide +kernel
theorem dL_both_78 : decode cL_both 78 = .ok (.iload 5, 2) := by decide +kernel
theorem dL_both_80 : decode cL_both 80 = .ok (.iload 4, 2) := by decide +kernel
theorem dL_both_82 : decode cL_both 82 = .ok (.invokestatic 209, 3) := by decide +kernel
theorem dL_both_85 : decode cL_both 85 = .ok (.iload 8, 2) := by decide +kernel
theorem dL_both_87 : decode cL_both 87 = .ok (.if_icmp .ne 98, 3) := by decide +kernel
theorem dL_both_90 : decode cL_both 90 = .ok (.iload 7, 2) := by decide +kernel
theorem dL_both_92 : decode cL_both 92 = .ok (.iconst (-1), 1) := by decide +kernel
theorem dL_both_93 : decode cL_both 93 = .ok (.if_icmp .lt 92, 3) := by decide +kernel
theorem dL_both_96 : decode cL_both 96 = .ok (.iload 8, 2) := by decide +kernel
theorem dL_both_98 : decode cL_both 98 = .ok (.iconst (-1), 1) := by decide +kernel
theorem dL_both_99 : decode cL_both 99 = .ok (.if_icmp .lt 86, 3) := by decide +kernel
theorem dL_both_102 : decode cL_both 102 = .ok (.iload 6, 2) := by decide +kernel
theorem dL_both_104 : decode cL_both 104 = .ok (.iload 7, 2) := by decide +kernel
theorem dL_both_106 : decode cL_both 106 = .ok (.iconst (-1), 1) := by decide +kernel
theorem dL_both_107 : decode cL_both 107 = .ok (.if_icmp .eq 9, 3) := by decide +kernel
theorem dL_both_110 : decode cL_both 110 = .ok (.iload 8, 2) := by decide +kernel
