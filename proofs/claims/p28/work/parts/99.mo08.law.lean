/-! ===== the law: its rows, printed ===== -/
theorem dL_holds_641 : decode cL_holds 641 = .ok (.iload 9, 2) := by decide +kernel
theorem dL_holds_643 : decode cL_holds 643 = .ok (.iload 7, 2) := by decide +kernel
theorem dL_holds_645 : decode cL_holds 645 = .ok (.if_icmp .gt 71, 3) := by decide +kernel
theorem dL_holds_648 : decode cL_holds 648 = .ok (.iload 8, 2) := by decide +kernel
theorem dL_holds_650 : decode cL_holds 650 = .ok (.invokestatic 165, 3) := by decide +kernel
theorem dL_holds_653 : decode cL_holds 653 = .ok (.aload_n 0, 1) := by decide +kernel
theorem dL_holds_654 : decode cL_holds 654 = .ok (.iconst 4, 1) := by decide +kernel
theorem dL_holds_655 : decode cL_holds 655 = .ok (.iload 7, 2) := by decide +kernel
theorem dL_holds_657 : decode cL_holds 657 = .ok (.iconst 1, 1) := by decide +kernel
theorem dL_holds_658 : decode cL_holds 658 = .ok (.iconst 0, 1) := by decide +kernel
theorem dL_holds_659 : decode cL_holds 659 = .ok (.invokestatic 144, 3) := by decide +kernel
theorem dL_holds_662 : decode cL_holds 662 = .ok (.if_icmp .ne 54, 3) := by decide +kernel
theorem dL_holds_665 : decode cL_holds 665 = .ok (.aload_n 0, 1) := by decide +kernel
theorem dL_holds_666 : decode cL_holds 666 = .ok (.iload 8, 2) := by decide +kernel
theorem dL_holds_668 : decode cL_holds 668 = .ok (.invokestatic 162, 3) := by decide +kernel
theorem dL_holds_671 : decode cL_holds 671 = .ok (.aload_n 0, 1) := by decide +kernel
theorem dL_holds_672 : decode cL_holds 672 = .ok (.iconst 4, 1) := by decide +kernel
theorem dL_holds_673 : decode cL_holds 673 = .ok (.iload 7, 2) := by decide +kernel
theorem dL_holds_675 : decode cL_holds 675 = .ok (.bipush 8, 2) := by decide +kernel
theorem dL_holds_677 : decode cL_holds 677 = .ok (.iconst 0, 1) := by decide +kernel
theorem dL_holds_678 : decode cL_holds 678 = .ok (.invokestatic 144, 3) := by decide +kernel
theorem dL_holds_681 : decode cL_holds 681 = .ok (.iand, 1) := by decide +kernel
theorem dL_holds_682 : decode cL_holds 682 = .ok (.ifCond .ne 34, 3) := by decide +kernel
theorem dL_holds_685 : decode cL_holds 685 = .ok (.aload_n 0, 1) := by decide +kernel
theorem dL_holds_686 : decode cL_holds 686 = .ok (.bipush 11, 2) := by decide +kernel
theorem dL_holds_688 : decode cL_holds 688 = .ok (.iload 7, 2) := by decide +kernel
theorem dL_holds_690 : decode cL_holds 690 = .ok (.iconst 3, 1) := by decide +kernel
theorem dL_holds_691 : decode cL_holds 691 = .ok (.iconst 0, 1) := by decide +kernel
theorem dL_holds_692 : decode cL_holds 692 = .ok (.invokestatic 144, 3) := by decide +kernel
theorem dL_holds_695 : decode cL_holds 695 = .ok (.iload 12, 2) := by decide +kernel
theorem dL_holds_697 : decode cL_holds 697 = .ok (.aload_n 0, 1) := by decide +kernel
theorem dL_holds_698 : decode cL_holds 698 = .ok (.iload 8, 2) := by decide +kernel
theorem dL_holds_700 : decode cL_holds 700 = .ok (.invokestatic 162, 3) := by decide +kernel
theorem dL_holds_703 : decode cL_holds 703 = .ok (.iconst (-1), 1) := by decide +kernel
theorem dL_holds_704 : decode cL_holds 704 = .ok (.ixor, 1) := by decide +kernel
theorem dL_holds_705 : decode cL_holds 705 = .ok (.iand, 1) := by decide +kernel
theorem dL_holds_706 : decode cL_holds 706 = .ok (.invokestatic 165, 3) := by decide +kernel
theorem dL_holds_709 : decode cL_holds 709 = .ok (.if_icmp .ne 7, 3) := by decide +kernel
theorem dL_holds_712 : decode cL_holds 712 = .ok (.iconst 1, 1) := by decide +kernel
theorem dL_holds_713 : decode cL_holds 713 = .ok (.goto 4, 3) := by decide +kernel
theorem dL_holds_716 : decode cL_holds 716 = .ok (.iconst 0, 1) := by decide +kernel
theorem dL_holds_717 : decode cL_holds 717 = .ok (.ireturn, 1) := by decide +kernel
theorem dL_act_0 : decode cL_act 0 = .ok (.aload_n 0, 1) := by decide +kernel
theorem dL_act_1 : decode cL_act 1 = .ok (.iconst 2, 1) := by decide +kernel
theorem dL_act_2 : decode cL_act 2 = .ok (.iconst 0, 1) := by decide +kernel
theorem dL_act_3 : decode cL_act 3 = .ok (.iconst 0, 1) := by decide +kernel
theorem dL_act_4 : decode cL_act 4 = .ok (.iconst 0, 1) := by decide +kernel
theorem dL_act_5 : decode cL_act 5 = .ok (.invokestatic 144, 3) := by decide +kernel
theorem dL_act_8 : decode cL_act 8 = .ok (.istore_n 2, 1) := by decide +kernel
theorem dL_act_9 : decode cL_act 9 = .ok (.aload_n 0, 1) := by decide +kernel
theorem dL_act_10 : decode cL_act 10 = .ok (.iconst 2, 1) := by decide +kernel
theorem dL_act_11 : decode cL_act 11 = .ok (.iconst 1, 1) := by decide +kernel
theorem dL_act_12 : decode cL_act 12 = .ok (.iconst 0, 1) := by decide +kernel
theorem dL_act_13 : decode cL_act 13 = .ok (.iconst 0, 1) := by decide +kernel
theorem dL_act_14 : decode cL_act 14 = .ok (.invokestatic 144, 3) := by decide +kernel
theorem dL_act_17 : decode cL_act 17 = .ok (.istore_n 3, 1) := by decide +kernel
theorem dL_act_18 : decode cL_act 18 = .ok (.iload_n 1, 1) := by decide +kernel
theorem dL_act_19 : decode cL_act 19 = .ok (.bipush 16, 2) := by decide +kernel
theorem dL_act_21 : decode cL_act 21 = .ok (.idiv, 1) := by decide +kernel
theorem dL_act_22 : decode cL_act 22 = .ok (.iload_n 3, 1) := by decide +kernel
theorem dL_act_23 : decode cL_act 23 = .ok (.irem, 1) := by decide +kernel
theorem dL_act_24 : decode cL_act 24 = .ok (.istore 4, 2) := by decide +kernel
theorem dL_act_26 : decode cL_act 26 = .ok (.iload_n 1, 1) := by decide +kernel
theorem dL_act_27 : decode cL_act 27 = .ok (.bipush 16, 2) := by decide +kernel
theorem dL_act_29 : decode cL_act 29 = .ok (.irem, 1) := by decide +kernel
theorem dL_act_30 : decode cL_act 30 = .ok (.tableswitch 277 0 13 #[70, 70, 70, 91, 91, 135, 135, 135, 135, 146, 169, 174, 212, 236], 70) := by decide +kernel
theorem dL_act_100 : decode cL_act 100 = .ok (.aload_n 0, 1) := by decide +kernel
theorem dL_act_101 : decode cL_act 101 = .ok (.bipush 6, 2) := by decide +kernel
theorem dL_act_103 : decode cL_act 103 = .ok (.iload_n 1, 1) := by decide +kernel
theorem dL_act_104 : decode cL_act 104 = .ok (.bipush 16, 2) := by decide +kernel
theorem dL_act_106 : decode cL_act 106 = .ok (.idiv, 1) := by decide +kernel
theorem dL_act_107 : decode cL_act 107 = .ok (.iconst 2, 1) := by decide +kernel
theorem dL_act_108 : decode cL_act 108 = .ok (.irem, 1) := by decide +kernel
theorem dL_act_109 : decode cL_act 109 = .ok (.iload_n 1, 1) := by decide +kernel
theorem dL_act_110 : decode cL_act 110 = .ok (.bipush 32, 2) := by decide +kernel
theorem dL_act_112 : decode cL_act 112 = .ok (.idiv, 1) := by decide +kernel
theorem dL_act_113 : decode cL_act 113 = .ok (.bipush 8, 2) := by decide +kernel
theorem dL_act_115 : decode cL_act 115 = .ok (.irem, 1) := by decide +kernel
theorem dL_act_116 : decode cL_act 116 = .ok (.iconst 0, 1) := by decide +kernel
theorem dL_act_117 : decode cL_act 117 = .ok (.invokestatic 144, 3) := by decide +kernel
theorem dL_act_120 : decode cL_act 120 = .ok (.ireturn, 1) := by decide +kernel
theorem dL_act_121 : decode cL_act 121 = .ok (.aload_n 0, 1) := by decide +kernel
theorem dL_act_122 : decode cL_act 122 = .ok (.iload_n 1, 1) := by decide +kernel
theorem dL_act_123 : decode cL_act 123 = .ok (.bipush 16, 2) := by decide +kernel
theorem dL_act_125 : decode cL_act 125 = .ok (.idiv, 1) := by decide +kernel
theorem dL_act_126 : decode cL_act 126 = .ok (.iconst 2, 1) := by decide +kernel
theorem dL_act_127 : decode cL_act 127 = .ok (.irem, 1) := by decide +kernel
theorem dL_act_128 : decode cL_act 128 = .ok (.iconst 1, 1) := by decide +kernel
theorem dL_act_129 : decode cL_act 129 = .ok (.iload_n 1, 1) := by decide +kernel
theorem dL_act_130 : decode cL_act 130 = .ok (.bipush 32, 2) := by decide +kernel
theorem dL_act_132 : decode cL_act 132 = .ok (.idiv, 1) := by decide +kernel
theorem dL_act_133 : decode cL_act 133 = .ok (.iconst 3, 1) := by decide +kernel
theorem dL_act_134 : decode cL_act 134 = .ok (.irem, 1) := by decide +kernel
theorem dL_act_135 : decode cL_act 135 = .ok (.iadd, 1) := by decide +kernel
theorem dL_act_136 : decode cL_act 136 = .ok (.iload_n 1, 1) := by decide +kernel
theorem dL_act_137 : decode cL_act 137 = .ok (.bipush 96, 2) := by decide +kernel
theorem dL_act_139 : decode cL_act 139 = .ok (.idiv, 1) := by decide +kernel
theorem dL_act_140 : decode cL_act 140 = .ok (.iconst 2, 1) := by decide +kernel
theorem dL_act_141 : decode cL_act 141 = .ok (.irem, 1) := by decide +kernel
theorem dL_act_142 : decode cL_act 142 = .ok (.iload_n 1, 1) := by decide +kernel
theorem dL_act_143 : decode cL_act 143 = .ok (.sipush 192, 3) := by decide +kernel
theorem dL_act_146 : decode cL_act 146 = .ok (.idiv, 1) := by decide +kernel
theorem dL_act_147 : decode cL_act 147 = .ok (.iconst 2, 1) := by decide +kernel
theorem dL_act_148 : decode cL_act 148 = .ok (.irem, 1) := by decide +kernel
theorem dL_act_149 : decode cL_act 149 = .ok (.bipush 10, 2) := by decide +kernel
theorem dL_act_151 : decode cL_act 151 = .ok (.iload_n 1, 1) := by decide +kernel
theorem dL_act_152 : decode cL_act 152 = .ok (.sipush 384, 3) := by decide +kernel
theorem dL_act_155 : decode cL_act 155 = .ok (.idiv, 1) := by decide +kernel
theorem dL_act_156 : decode cL_act 156 = .ok (.sipush 231, 3) := by decide +kernel
theorem dL_act_159 : decode cL_act 159 = .ok (.irem, 1) := by decide +kernel
