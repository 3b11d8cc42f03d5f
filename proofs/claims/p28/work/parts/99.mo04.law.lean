/-! ===== the law: its rows, printed ===== -/
theorem dL_refuses_628 : decode cL_refuses 628 = .ok (.if_icmp .ne 52, 3) := by decide +kernel
theorem dL_refuses_631 : decode cL_refuses 631 = .ok (.aload_n 0, 1) := by decide +kernel
theorem dL_refuses_632 : decode cL_refuses 632 = .ok (.iconst 0, 1) := by decide +kernel
theorem dL_refuses_633 : decode cL_refuses 633 = .ok (.lconst 0, 1) := by decide +kernel
theorem dL_refuses_634 : decode cL_refuses 634 = .ok (.invokestatic 152, 3) := by decide +kernel
theorem dL_refuses_637 : decode cL_refuses 637 = .ok (.ldc 15, 2) := by decide +kernel
theorem dL_refuses_639 : decode cL_refuses 639 = .ok (.if_icmp .ne 41, 3) := by decide +kernel
theorem dL_refuses_642 : decode cL_refuses 642 = .ok (.aload_n 0, 1) := by decide +kernel
theorem dL_refuses_643 : decode cL_refuses 643 = .ok (.iconst 1, 1) := by decide +kernel
theorem dL_refuses_644 : decode cL_refuses 644 = .ok (.ldc2_w 156, 3) := by decide +kernel
theorem dL_refuses_647 : decode cL_refuses 647 = .ok (.iload_n 1, 1) := by decide +kernel
theorem dL_refuses_648 : decode cL_refuses 648 = .ok (.i2l, 1) := by decide +kernel
theorem dL_refuses_649 : decode cL_refuses 649 = .ok (.ladd, 1) := by decide +kernel
theorem dL_refuses_650 : decode cL_refuses 650 = .ok (.invokestatic 152, 3) := by decide +kernel
theorem dL_refuses_653 : decode cL_refuses 653 = .ok (.ldc 15, 2) := by decide +kernel
theorem dL_refuses_655 : decode cL_refuses 655 = .ok (.if_icmp .ne 25, 3) := by decide +kernel
theorem dL_refuses_658 : decode cL_refuses 658 = .ok (.aload_n 0, 1) := by decide +kernel
theorem dL_refuses_659 : decode cL_refuses 659 = .ok (.iload_n 1, 1) := by decide +kernel
theorem dL_refuses_660 : decode cL_refuses 660 = .ok (.i2l, 1) := by decide +kernel
theorem dL_refuses_661 : decode cL_refuses 661 = .ok (.bipush 61, 2) := by decide +kernel
theorem dL_refuses_663 : decode cL_refuses 663 = .ok (.iload_n 1, 1) := by decide +kernel
theorem dL_refuses_664 : decode cL_refuses 664 = .ok (.bipush 9, 2) := by decide +kernel
theorem dL_refuses_666 : decode cL_refuses 666 = .ok (.irem, 1) := by decide +kernel
theorem dL_refuses_667 : decode cL_refuses 667 = .ok (.iadd, 1) := by decide +kernel
theorem dL_refuses_668 : decode cL_refuses 668 = .ok (.invokestatic 158, 3) := by decide +kernel
theorem dL_refuses_671 : decode cL_refuses 671 = .ok (.ldc 15, 2) := by decide +kernel
theorem dL_refuses_673 : decode cL_refuses 673 = .ok (.if_icmp .ne 7, 3) := by decide +kernel
theorem dL_refuses_676 : decode cL_refuses 676 = .ok (.iconst 1, 1) := by decide +kernel
theorem dL_refuses_677 : decode cL_refuses 677 = .ok (.goto 4, 3) := by decide +kernel
theorem dL_refuses_680 : decode cL_refuses 680 = .ok (.iconst 0, 1) := by decide +kernel
theorem dL_refuses_681 : decode cL_refuses 681 = .ok (.ireturn, 1) := by decide +kernel
theorem dL_facesOf_0 : decode cL_facesOf 0 = .ok (.iconst 0, 1) := by decide +kernel
theorem dL_facesOf_1 : decode cL_facesOf 1 = .ok (.istore_n 2, 1) := by decide +kernel
theorem dL_facesOf_2 : decode cL_facesOf 2 = .ok (.iconst 0, 1) := by decide +kernel
theorem dL_facesOf_3 : decode cL_facesOf 3 = .ok (.istore_n 3, 1) := by decide +kernel
theorem dL_facesOf_4 : decode cL_facesOf 4 = .ok (.iload_n 3, 1) := by decide +kernel
theorem dL_facesOf_5 : decode cL_facesOf 5 = .ok (.aload_n 0, 1) := by decide +kernel
theorem dL_facesOf_6 : decode cL_facesOf 6 = .ok (.iconst 2, 1) := by decide +kernel
theorem dL_facesOf_7 : decode cL_facesOf 7 = .ok (.iconst 0, 1) := by decide +kernel
theorem dL_facesOf_8 : decode cL_facesOf 8 = .ok (.iconst 0, 1) := by decide +kernel
theorem dL_facesOf_9 : decode cL_facesOf 9 = .ok (.iconst 0, 1) := by decide +kernel
theorem dL_facesOf_10 : decode cL_facesOf 10 = .ok (.invokestatic 144, 3) := by decide +kernel
theorem dL_facesOf_13 : decode cL_facesOf 13 = .ok (.if_icmp .ge 35, 3) := by decide +kernel
theorem dL_facesOf_16 : decode cL_facesOf 16 = .ok (.iload_n 2, 1) := by decide +kernel
theorem dL_facesOf_17 : decode cL_facesOf 17 = .ok (.iload_n 1, 1) := by decide +kernel
theorem dL_facesOf_18 : decode cL_facesOf 18 = .ok (.iload_n 3, 1) := by decide +kernel
theorem dL_facesOf_19 : decode cL_facesOf 19 = .ok (.ishr, 1) := by decide +kernel
theorem dL_facesOf_20 : decode cL_facesOf 20 = .ok (.iconst 1, 1) := by decide +kernel
theorem dL_facesOf_21 : decode cL_facesOf 21 = .ok (.iand, 1) := by decide +kernel
theorem dL_facesOf_22 : decode cL_facesOf 22 = .ok (.iconst 1, 1) := by decide +kernel
theorem dL_facesOf_23 : decode cL_facesOf 23 = .ok (.if_icmp .ne 16, 3) := by decide +kernel
theorem dL_facesOf_26 : decode cL_facesOf 26 = .ok (.iconst 1, 1) := by decide +kernel
theorem dL_facesOf_27 : decode cL_facesOf 27 = .ok (.aload_n 0, 1) := by decide +kernel
theorem dL_facesOf_28 : decode cL_facesOf 28 = .ok (.iconst 3, 1) := by decide +kernel
theorem dL_facesOf_29 : decode cL_facesOf 29 = .ok (.iload_n 3, 1) := by decide +kernel
theorem dL_facesOf_30 : decode cL_facesOf 30 = .ok (.iconst 1, 1) := by decide +kernel
theorem dL_facesOf_31 : decode cL_facesOf 31 = .ok (.iconst 0, 1) := by decide +kernel
theorem dL_facesOf_32 : decode cL_facesOf 32 = .ok (.invokestatic 144, 3) := by decide +kernel
theorem dL_facesOf_35 : decode cL_facesOf 35 = .ok (.ishl, 1) := by decide +kernel
theorem dL_facesOf_36 : decode cL_facesOf 36 = .ok (.goto 4, 3) := by decide +kernel
theorem dL_facesOf_39 : decode cL_facesOf 39 = .ok (.iconst 0, 1) := by decide +kernel
theorem dL_facesOf_40 : decode cL_facesOf 40 = .ok (.ior, 1) := by decide +kernel
theorem dL_facesOf_41 : decode cL_facesOf 41 = .ok (.istore_n 2, 1) := by decide +kernel
theorem dL_facesOf_42 : decode cL_facesOf 42 = .ok (.iinc 3 1, 3) := by decide +kernel
theorem dL_facesOf_45 : decode cL_facesOf 45 = .ok (.goto (-41), 3) := by decide +kernel
theorem dL_facesOf_48 : decode cL_facesOf 48 = .ok (.iload_n 2, 1) := by decide +kernel
theorem dL_facesOf_49 : decode cL_facesOf 49 = .ok (.ireturn, 1) := by decide +kernel
theorem dL_bits_0 : decode cL_bits 0 = .ok (.iconst 0, 1) := by decide +kernel
theorem dL_bits_1 : decode cL_bits 1 = .ok (.istore_n 1, 1) := by decide +kernel
theorem dL_bits_2 : decode cL_bits 2 = .ok (.iconst 0, 1) := by decide +kernel
theorem dL_bits_3 : decode cL_bits 3 = .ok (.istore_n 2, 1) := by decide +kernel
theorem dL_bits_4 : decode cL_bits 4 = .ok (.iload_n 2, 1) := by decide +kernel
theorem dL_bits_5 : decode cL_bits 5 = .ok (.bipush 14, 2) := by decide +kernel
theorem dL_bits_7 : decode cL_bits 7 = .ok (.if_icmp .ge 17, 3) := by decide +kernel
theorem dL_bits_10 : decode cL_bits 10 = .ok (.iload_n 1, 1) := by decide +kernel
theorem dL_bits_11 : decode cL_bits 11 = .ok (.iload_n 0, 1) := by decide +kernel
theorem dL_bits_12 : decode cL_bits 12 = .ok (.iload_n 2, 1) := by decide +kernel
theorem dL_bits_13 : decode cL_bits 13 = .ok (.ishr, 1) := by decide +kernel
theorem dL_bits_14 : decode cL_bits 14 = .ok (.iconst 1, 1) := by decide +kernel
theorem dL_bits_15 : decode cL_bits 15 = .ok (.iand, 1) := by decide +kernel
theorem dL_bits_16 : decode cL_bits 16 = .ok (.iadd, 1) := by decide +kernel
theorem dL_bits_17 : decode cL_bits 17 = .ok (.istore_n 1, 1) := by decide +kernel
theorem dL_bits_18 : decode cL_bits 18 = .ok (.iinc 2 1, 3) := by decide +kernel
theorem dL_bits_21 : decode cL_bits 21 = .ok (.goto (-17), 3) := by decide +kernel
theorem dL_bits_24 : decode cL_bits 24 = .ok (.iload_n 1, 1) := by decide +kernel
theorem dL_bits_25 : decode cL_bits 25 = .ok (.ireturn, 1) := by decide +kernel
theorem dL_holds_0 : decode cL_holds 0 = .ok (.aload_n 0, 1) := by decide +kernel
theorem dL_holds_1 : decode cL_holds 1 = .ok (.iconst 2, 1) := by decide +kernel
theorem dL_holds_2 : decode cL_holds 2 = .ok (.iconst 0, 1) := by decide +kernel
theorem dL_holds_3 : decode cL_holds 3 = .ok (.iconst 0, 1) := by decide +kernel
theorem dL_holds_4 : decode cL_holds 4 = .ok (.iconst 0, 1) := by decide +kernel
theorem dL_holds_5 : decode cL_holds 5 = .ok (.invokestatic 144, 3) := by decide +kernel
theorem dL_holds_8 : decode cL_holds 8 = .ok (.istore_n 2, 1) := by decide +kernel
theorem dL_holds_9 : decode cL_holds 9 = .ok (.aload_n 0, 1) := by decide +kernel
theorem dL_holds_10 : decode cL_holds 10 = .ok (.iconst 2, 1) := by decide +kernel
theorem dL_holds_11 : decode cL_holds 11 = .ok (.iconst 1, 1) := by decide +kernel
theorem dL_holds_12 : decode cL_holds 12 = .ok (.iconst 0, 1) := by decide +kernel
theorem dL_holds_13 : decode cL_holds 13 = .ok (.iconst 0, 1) := by decide +kernel
theorem dL_holds_14 : decode cL_holds 14 = .ok (.invokestatic 144, 3) := by decide +kernel
theorem dL_holds_17 : decode cL_holds 17 = .ok (.istore_n 3, 1) := by decide +kernel
theorem dL_holds_18 : decode cL_holds 18 = .ok (.iconst 0, 1) := by decide +kernel
theorem dL_holds_19 : decode cL_holds 19 = .ok (.istore 4, 2) := by decide +kernel
theorem dL_holds_21 : decode cL_holds 21 = .ok (.iconst 0, 1) := by decide +kernel
theorem dL_holds_22 : decode cL_holds 22 = .ok (.istore 5, 2) := by decide +kernel
theorem dL_holds_24 : decode cL_holds 24 = .ok (.iload_n 2, 1) := by decide +kernel
theorem dL_holds_25 : decode cL_holds 25 = .ok (.bipush 14, 2) := by decide +kernel
theorem dL_holds_27 : decode cL_holds 27 = .ok (.if_icmp .gt 13, 3) := by decide +kernel
theorem dL_holds_30 : decode cL_holds 30 = .ok (.iload_n 3, 1) := by decide +kernel
theorem dL_holds_31 : decode cL_holds 31 = .ok (.bipush 10, 2) := by decide +kernel
theorem dL_holds_33 : decode cL_holds 33 = .ok (.if_icmp .gt 7, 3) := by decide +kernel
