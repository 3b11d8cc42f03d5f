/-! ===== the law: its rows, printed ===== -/
theorem dL_alike_191 : decode cL_alike 191 = .ok (.iconst 0, 1) := by decide +kernel
theorem dL_alike_192 : decode cL_alike 192 = .ok (.invokestatic 144, 3) := by decide +kernel
theorem dL_alike_195 : decode cL_alike 195 = .ok (.if_icmp .ne 7, 3) := by decide +kernel
theorem dL_alike_198 : decode cL_alike 198 = .ok (.iconst 1, 1) := by decide +kernel
theorem dL_alike_199 : decode cL_alike 199 = .ok (.goto 4, 3) := by decide +kernel
theorem dL_alike_202 : decode cL_alike 202 = .ok (.iconst 0, 1) := by decide +kernel
theorem dL_alike_203 : decode cL_alike 203 = .ok (.istore_n 3, 1) := by decide +kernel
theorem dL_alike_204 : decode cL_alike 204 = .ok (.iinc 4 1, 3) := by decide +kernel
theorem dL_alike_207 : decode cL_alike 207 = .ok (.goto (-160), 3) := by decide +kernel
theorem dL_alike_210 : decode cL_alike 210 = .ok (.iload_n 3, 1) := by decide +kernel
theorem dL_alike_211 : decode cL_alike 211 = .ok (.ireturn, 1) := by decide +kernel
theorem dL_spent_0 : decode cL_spent 0 = .ok (.aload_n 0, 1) := by decide +kernel
theorem dL_spent_1 : decode cL_spent 1 = .ok (.iconst 2, 1) := by decide +kernel
theorem dL_spent_2 : decode cL_spent 2 = .ok (.iconst 4, 1) := by decide +kernel
theorem dL_spent_3 : decode cL_spent 3 = .ok (.iconst 0, 1) := by decide +kernel
theorem dL_spent_4 : decode cL_spent 4 = .ok (.iconst 0, 1) := by decide +kernel
theorem dL_spent_5 : decode cL_spent 5 = .ok (.invokestatic 144, 3) := by decide +kernel
theorem dL_spent_8 : decode cL_spent 8 = .ok (.aload_n 0, 1) := by decide +kernel
theorem dL_spent_9 : decode cL_spent 9 = .ok (.iconst 2, 1) := by decide +kernel
theorem dL_spent_10 : decode cL_spent 10 = .ok (.iconst 5, 1) := by decide +kernel
theorem dL_spent_11 : decode cL_spent 11 = .ok (.iconst 0, 1) := by decide +kernel
theorem dL_spent_12 : decode cL_spent 12 = .ok (.iconst 0, 1) := by decide +kernel
theorem dL_spent_13 : decode cL_spent 13 = .ok (.invokestatic 144, 3) := by decide +kernel
theorem dL_spent_16 : decode cL_spent 16 = .ok (.iadd, 1) := by decide +kernel
theorem dL_spent_17 : decode cL_spent 17 = .ok (.ireturn, 1) := by decide +kernel
theorem dL_scene_0 : decode cL_scene 0 = .ok (.iload_n 2, 1) := by decide +kernel
theorem dL_scene_1 : decode cL_scene 1 = .ok (.aload_n 0, 1) := by decide +kernel
theorem dL_scene_2 : decode cL_scene 2 = .ok (.iconst 2, 1) := by decide +kernel
theorem dL_scene_3 : decode cL_scene 3 = .ok (.iconst 1, 1) := by decide +kernel
theorem dL_scene_4 : decode cL_scene 4 = .ok (.iconst 0, 1) := by decide +kernel
theorem dL_scene_5 : decode cL_scene 5 = .ok (.iconst 0, 1) := by decide +kernel
theorem dL_scene_6 : decode cL_scene 6 = .ok (.invokestatic 144, 3) := by decide +kernel
theorem dL_scene_9 : decode cL_scene 9 = .ok (.irem, 1) := by decide +kernel
theorem dL_scene_10 : decode cL_scene 10 = .ok (.istore_n 3, 1) := by decide +kernel
theorem dL_scene_11 : decode cL_scene 11 = .ok (.aload_n 0, 1) := by decide +kernel
theorem dL_scene_12 : decode cL_scene 12 = .ok (.bipush 11, 2) := by decide +kernel
theorem dL_scene_14 : decode cL_scene 14 = .ok (.iload_n 3, 1) := by decide +kernel
theorem dL_scene_15 : decode cL_scene 15 = .ok (.iconst 0, 1) := by decide +kernel
theorem dL_scene_16 : decode cL_scene 16 = .ok (.iconst 0, 1) := by decide +kernel
theorem dL_scene_17 : decode cL_scene 17 = .ok (.invokestatic 144, 3) := by decide +kernel
theorem dL_scene_20 : decode cL_scene 20 = .ok (.istore 4, 2) := by decide +kernel
theorem dL_scene_22 : decode cL_scene 22 = .ok (.iload 4, 2) := by decide +kernel
theorem dL_scene_24 : decode cL_scene 24 = .ok (.iconst (-1), 1) := by decide +kernel
theorem dL_scene_25 : decode cL_scene 25 = .ok (.if_icmp .ne 37, 3) := by decide +kernel
theorem dL_scene_28 : decode cL_scene 28 = .ok (.aload_n 0, 1) := by decide +kernel
theorem dL_scene_29 : decode cL_scene 29 = .ok (.bipush 7, 2) := by decide +kernel
theorem dL_scene_31 : decode cL_scene 31 = .ok (.iload_n 3, 1) := by decide +kernel
theorem dL_scene_32 : decode cL_scene 32 = .ok (.iconst 0, 1) := by decide +kernel
theorem dL_scene_33 : decode cL_scene 33 = .ok (.iconst 0, 1) := by decide +kernel
theorem dL_scene_34 : decode cL_scene 34 = .ok (.invokestatic 144, 3) := by decide +kernel
theorem dL_scene_37 : decode cL_scene 37 = .ok (.ldc 18, 2) := by decide +kernel
theorem dL_scene_39 : decode cL_scene 39 = .ok (.if_icmp .ne 21, 3) := by decide +kernel
theorem dL_scene_42 : decode cL_scene 42 = .ok (.aload_n 1, 1) := by decide +kernel
theorem dL_scene_43 : decode cL_scene 43 = .ok (.bipush 7, 2) := by decide +kernel
theorem dL_scene_45 : decode cL_scene 45 = .ok (.iload_n 3, 1) := by decide +kernel
theorem dL_scene_46 : decode cL_scene 46 = .ok (.iconst 0, 1) := by decide +kernel
theorem dL_scene_47 : decode cL_scene 47 = .ok (.iconst 0, 1) := by decide +kernel
theorem dL_scene_48 : decode cL_scene 48 = .ok (.invokestatic 144, 3) := by decide +kernel
theorem dL_scene_51 : decode cL_scene 51 = .ok (.ldc 18, 2) := by decide +kernel
theorem dL_scene_53 : decode cL_scene 53 = .ok (.if_icmp .ne 7, 3) := by decide +kernel
theorem dL_scene_56 : decode cL_scene 56 = .ok (.iconst 1, 1) := by decide +kernel
theorem dL_scene_57 : decode cL_scene 57 = .ok (.goto 4, 3) := by decide +kernel
theorem dL_scene_60 : decode cL_scene 60 = .ok (.iconst 0, 1) := by decide +kernel
theorem dL_scene_61 : decode cL_scene 61 = .ok (.ireturn, 1) := by decide +kernel
theorem dL_scene_62 : decode cL_scene 62 = .ok (.aload_n 0, 1) := by decide +kernel
theorem dL_scene_63 : decode cL_scene 63 = .ok (.bipush 11, 2) := by decide +kernel
theorem dL_scene_65 : decode cL_scene 65 = .ok (.iload_n 3, 1) := by decide +kernel
theorem dL_scene_66 : decode cL_scene 66 = .ok (.iconst 1, 1) := by decide +kernel
theorem dL_scene_67 : decode cL_scene 67 = .ok (.iconst 0, 1) := by decide +kernel
theorem dL_scene_68 : decode cL_scene 68 = .ok (.invokestatic 144, 3) := by decide +kernel
theorem dL_scene_71 : decode cL_scene 71 = .ok (.aload_n 0, 1) := by decide +kernel
theorem dL_scene_72 : decode cL_scene 72 = .ok (.bipush 11, 2) := by decide +kernel
theorem dL_scene_74 : decode cL_scene 74 = .ok (.iload_n 3, 1) := by decide +kernel
theorem dL_scene_75 : decode cL_scene 75 = .ok (.iconst 2, 1) := by decide +kernel
theorem dL_scene_76 : decode cL_scene 76 = .ok (.iconst 0, 1) := by decide +kernel
theorem dL_scene_77 : decode cL_scene 77 = .ok (.invokestatic 144, 3) := by decide +kernel
theorem dL_scene_80 : decode cL_scene 80 = .ok (.iadd, 1) := by decide +kernel
theorem dL_scene_81 : decode cL_scene 81 = .ok (.istore 5, 2) := by decide +kernel
theorem dL_scene_83 : decode cL_scene 83 = .ok (.aload_n 0, 1) := by decide +kernel
theorem dL_scene_84 : decode cL_scene 84 = .ok (.bipush 11, 2) := by decide +kernel
theorem dL_scene_86 : decode cL_scene 86 = .ok (.iload_n 3, 1) := by decide +kernel
theorem dL_scene_87 : decode cL_scene 87 = .ok (.iconst 3, 1) := by decide +kernel
theorem dL_scene_88 : decode cL_scene 88 = .ok (.iconst 0, 1) := by decide +kernel
theorem dL_scene_89 : decode cL_scene 89 = .ok (.invokestatic 144, 3) := by decide +kernel
theorem dL_scene_92 : decode cL_scene 92 = .ok (.istore 6, 2) := by decide +kernel
theorem dL_scene_94 : decode cL_scene 94 = .ok (.aload_n 0, 1) := by decide +kernel
theorem dL_scene_95 : decode cL_scene 95 = .ok (.invokestatic 202, 3) := by decide +kernel
theorem dL_scene_98 : decode cL_scene 98 = .ok (.istore 7, 2) := by decide +kernel
theorem dL_scene_100 : decode cL_scene 100 = .ok (.aload_n 0, 1) := by decide +kernel
theorem dL_scene_101 : decode cL_scene 101 = .ok (.iconst 2, 1) := by decide +kernel
theorem dL_scene_102 : decode cL_scene 102 = .ok (.bipush 7, 2) := by decide +kernel
theorem dL_scene_104 : decode cL_scene 104 = .ok (.iconst 0, 1) := by decide +kernel
theorem dL_scene_105 : decode cL_scene 105 = .ok (.iconst 0, 1) := by decide +kernel
theorem dL_scene_106 : decode cL_scene 106 = .ok (.invokestatic 144, 3) := by decide +kernel
theorem dL_scene_109 : decode cL_scene 109 = .ok (.istore 8, 2) := by decide +kernel
theorem dL_scene_111 : decode cL_scene 111 = .ok (.aload_n 0, 1) := by decide +kernel
theorem dL_scene_112 : decode cL_scene 112 = .ok (.iconst 2, 1) := by decide +kernel
theorem dL_scene_113 : decode cL_scene 113 = .ok (.iconst 2, 1) := by decide +kernel
theorem dL_scene_114 : decode cL_scene 114 = .ok (.iconst 0, 1) := by decide +kernel
theorem dL_scene_115 : decode cL_scene 115 = .ok (.iconst 0, 1) := by decide +kernel
theorem dL_scene_116 : decode cL_scene 116 = .ok (.invokestatic 144, 3) := by decide +kernel
theorem dL_scene_119 : decode cL_scene 119 = .ok (.istore 9, 2) := by decide +kernel
theorem dL_scene_121 : decode cL_scene 121 = .ok (.aload_n 0, 1) := by decide +kernel
theorem dL_scene_122 : decode cL_scene 122 = .ok (.bipush 7, 2) := by decide +kernel
theorem dL_scene_124 : decode cL_scene 124 = .ok (.iload_n 3, 1) := by decide +kernel
theorem dL_scene_125 : decode cL_scene 125 = .ok (.iconst 0, 1) := by decide +kernel
theorem dL_scene_126 : decode cL_scene 126 = .ok (.iconst 0, 1) := by decide +kernel
theorem dL_scene_127 : decode cL_scene 127 = .ok (.invokestatic 144, 3) := by decide +kernel
theorem dL_scene_130 : decode cL_scene 130 = .ok (.iload 4, 2) := by decide +kernel
theorem dL_scene_132 : decode cL_scene 132 = .ok (.if_icmp .ne 93, 3) := by decide +kernel
