/-! by program (wip/whole/gen.py): pure functions and contracts -/
theorem dX6_isDigit_0 : decode cX6_isDigit 0 = .ok (.iload_n 0, 1) := by decide +kernel
theorem dX6_isDigit_1 : decode cX6_isDigit 1 = .ok (.bipush 48, 2) := by decide +kernel
theorem dX6_isDigit_3 : decode cX6_isDigit 3 = .ok (.if_icmp .lt 13, 3) := by decide +kernel
theorem dX6_isDigit_6 : decode cX6_isDigit 6 = .ok (.iload_n 0, 1) := by decide +kernel
theorem dX6_isDigit_7 : decode cX6_isDigit 7 = .ok (.bipush 57, 2) := by decide +kernel
theorem dX6_isDigit_9 : decode cX6_isDigit 9 = .ok (.if_icmp .gt 7, 3) := by decide +kernel
theorem dX6_isDigit_12 : decode cX6_isDigit 12 = .ok (.iconst 1, 1) := by decide +kernel
theorem dX6_isDigit_13 : decode cX6_isDigit 13 = .ok (.goto 4, 3) := by decide +kernel
theorem dX6_isDigit_16 : decode cX6_isDigit 16 = .ok (.iconst 0, 1) := by decide +kernel
theorem dX6_isDigit_17 : decode cX6_isDigit 17 = .ok (.ireturn, 1) := by decide +kernel
theorem dX6_addStep_0 : decode cX6_addStep 0 = .ok (.aload_n 0, 1) := by decide +kernel
theorem dX6_addStep_1 : decode cX6_addStep 1 = .ok (.getfield 24, 3) := by decide +kernel
theorem dX6_addStep_4 : decode cX6_addStep 4 = .ok (.aload_n 0, 1) := by decide +kernel
theorem dX6_addStep_5 : decode cX6_addStep 5 = .ok (.getfield 9, 3) := by decide +kernel
theorem dX6_addStep_8 : decode cX6_addStep 8 = .ok (.arraylength, 1) := by decide +kernel
theorem dX6_addStep_9 : decode cX6_addStep 9 = .ok (.if_icmp .ge 23, 3) := by decide +kernel
theorem dX6_addStep_12 : decode cX6_addStep 12 = .ok (.aload_n 0, 1) := by decide +kernel
theorem dX6_addStep_13 : decode cX6_addStep 13 = .ok (.getfield 9, 3) := by decide +kernel
theorem dX6_addStep_16 : decode cX6_addStep 16 = .ok (.aload_n 0, 1) := by decide +kernel
theorem dX6_addStep_17 : decode cX6_addStep 17 = .ok (.getfield 24, 3) := by decide +kernel
theorem dX6_addStep_20 : decode cX6_addStep 20 = .ok (.iload_n 1, 1) := by decide +kernel
theorem dX6_addStep_21 : decode cX6_addStep 21 = .ok (.iastore, 1) := by decide +kernel
theorem dX6_addStep_22 : decode cX6_addStep 22 = .ok (.aload_n 0, 1) := by decide +kernel
theorem dX6_addStep_23 : decode cX6_addStep 23 = .ok (.dup, 1) := by decide +kernel
theorem dX6_addStep_24 : decode cX6_addStep 24 = .ok (.getfield 24, 3) := by decide +kernel
theorem dX6_addStep_27 : decode cX6_addStep 27 = .ok (.iconst 1, 1) := by decide +kernel
theorem dX6_addStep_28 : decode cX6_addStep 28 = .ok (.iadd, 1) := by decide +kernel
theorem dX6_addStep_29 : decode cX6_addStep 29 = .ok (.putfield 24, 3) := by decide +kernel
theorem dX6_addStep_32 : decode cX6_addStep 32 = .ok (.return_, 1) := by decide +kernel
theorem dX6_readNumber_0 : decode cX6_readNumber 0 = .ok (.iconst 0, 1) := by decide +kernel
theorem dX6_readNumber_1 : decode cX6_readNumber 1 = .ok (.istore 4, 2) := by decide +kernel
theorem dX6_readNumber_3 : decode cX6_readNumber 3 = .ok (.iconst 0, 1) := by decide +kernel
theorem dX6_readNumber_4 : decode cX6_readNumber 4 = .ok (.istore 5, 2) := by decide +kernel
theorem dX6_readNumber_6 : decode cX6_readNumber 6 = .ok (.iload 5, 2) := by decide +kernel
theorem dX6_readNumber_8 : decode cX6_readNumber 8 = .ok (.iconst 4, 1) := by decide +kernel
theorem dX6_readNumber_9 : decode cX6_readNumber 9 = .ok (.if_icmp .ge 46, 3) := by decide +kernel
theorem dX6_readNumber_12 : decode cX6_readNumber 12 = .ok (.iload_n 2, 1) := by decide +kernel
theorem dX6_readNumber_13 : decode cX6_readNumber 13 = .ok (.iload 5, 2) := by decide +kernel
theorem dX6_readNumber_15 : decode cX6_readNumber 15 = .ok (.iadd, 1) := by decide +kernel
theorem dX6_readNumber_16 : decode cX6_readNumber 16 = .ok (.iload_n 3, 1) := by decide +kernel
theorem dX6_readNumber_17 : decode cX6_readNumber 17 = .ok (.if_icmp .ge 38, 3) := by decide +kernel
theorem dX6_readNumber_20 : decode cX6_readNumber 20 = .ok (.aload_n 1, 1) := by decide +kernel
theorem dX6_readNumber_21 : decode cX6_readNumber 21 = .ok (.iload_n 2, 1) := by decide +kernel
theorem dX6_readNumber_22 : decode cX6_readNumber 22 = .ok (.iload 5, 2) := by decide +kernel
theorem dX6_readNumber_24 : decode cX6_readNumber 24 = .ok (.iadd, 1) := by decide +kernel
theorem dX6_readNumber_25 : decode cX6_readNumber 25 = .ok (.iaload, 1) := by decide +kernel
theorem dX6_readNumber_26 : decode cX6_readNumber 26 = .ok (.invokestatic 41, 3) := by decide +kernel
theorem dX6_readNumber_29 : decode cX6_readNumber 29 = .ok (.ifCond .eq 26, 3) := by decide +kernel
theorem dX6_readNumber_32 : decode cX6_readNumber 32 = .ok (.iload 4, 2) := by decide +kernel
theorem dX6_readNumber_34 : decode cX6_readNumber 34 = .ok (.bipush 10, 2) := by decide +kernel
theorem dX6_readNumber_36 : decode cX6_readNumber 36 = .ok (.imul, 1) := by decide +kernel
theorem dX6_readNumber_37 : decode cX6_readNumber 37 = .ok (.aload_n 1, 1) := by decide +kernel
theorem dX6_readNumber_38 : decode cX6_readNumber 38 = .ok (.iload_n 2, 1) := by decide +kernel
theorem dX6_readNumber_39 : decode cX6_readNumber 39 = .ok (.iload 5, 2) := by decide +kernel
theorem dX6_readNumber_41 : decode cX6_readNumber 41 = .ok (.iadd, 1) := by decide +kernel
theorem dX6_readNumber_42 : decode cX6_readNumber 42 = .ok (.iaload, 1) := by decide +kernel
theorem dX6_readNumber_43 : decode cX6_readNumber 43 = .ok (.iadd, 1) := by decide +kernel
theorem dX6_readNumber_44 : decode cX6_readNumber 44 = .ok (.bipush 48, 2) := by decide +kernel
theorem dX6_readNumber_46 : decode cX6_readNumber 46 = .ok (.isub, 1) := by decide +kernel
theorem dX6_readNumber_47 : decode cX6_readNumber 47 = .ok (.istore 4, 2) := by decide +kernel
theorem dX6_readNumber_49 : decode cX6_readNumber 49 = .ok (.iinc 5 1, 3) := by decide +kernel
theorem dX6_readNumber_52 : decode cX6_readNumber 52 = .ok (.goto (-46), 3) := by decide +kernel
theorem dX6_readNumber_55 : decode cX6_readNumber 55 = .ok (.aload_n 0, 1) := by decide +kernel
theorem dX6_readNumber_56 : decode cX6_readNumber 56 = .ok (.iload 4, 2) := by decide +kernel
theorem dX6_readNumber_58 : decode cX6_readNumber 58 = .ok (.invokevirtual 62, 3) := by decide +kernel
theorem dX6_readNumber_61 : decode cX6_readNumber 61 = .ok (.aload_n 0, 1) := by decide +kernel
theorem dX6_readNumber_62 : decode cX6_readNumber 62 = .ok (.iconst 0, 1) := by decide +kernel
theorem dX6_readNumber_63 : decode cX6_readNumber 63 = .ok (.putfield 34, 3) := by decide +kernel
theorem dX6_readNumber_66 : decode cX6_readNumber 66 = .ok (.iload 5, 2) := by decide +kernel
theorem dX6_readNumber_68 : decode cX6_readNumber 68 = .ok (.ireturn, 1) := by decide +kernel
theorem dX6_putOff_0 : decode cX6_putOff 0 = .ok (.aload_n 0, 1) := by decide +kernel
theorem dX6_putOff_1 : decode cX6_putOff 1 = .ok (.getfield 28, 3) := by decide +kernel
theorem dX6_putOff_4 : decode cX6_putOff 4 = .ok (.aload_n 0, 1) := by decide +kernel
theorem dX6_putOff_5 : decode cX6_putOff 5 = .ok (.getfield 15, 3) := by decide +kernel
theorem dX6_putOff_8 : decode cX6_putOff 8 = .ok (.arraylength, 1) := by decide +kernel
theorem dX6_putOff_9 : decode cX6_putOff 9 = .ok (.if_icmp .ge 23, 3) := by decide +kernel
theorem dX6_putOff_12 : decode cX6_putOff 12 = .ok (.aload_n 0, 1) := by decide +kernel
theorem dX6_putOff_13 : decode cX6_putOff 13 = .ok (.getfield 15, 3) := by decide +kernel
theorem dX6_putOff_16 : decode cX6_putOff 16 = .ok (.aload_n 0, 1) := by decide +kernel
theorem dX6_putOff_17 : decode cX6_putOff 17 = .ok (.getfield 28, 3) := by decide +kernel
theorem dX6_putOff_20 : decode cX6_putOff 20 = .ok (.iload_n 1, 1) := by decide +kernel
theorem dX6_putOff_21 : decode cX6_putOff 21 = .ok (.iastore, 1) := by decide +kernel
theorem dX6_putOff_22 : decode cX6_putOff 22 = .ok (.aload_n 0, 1) := by decide +kernel
theorem dX6_putOff_23 : decode cX6_putOff 23 = .ok (.dup, 1) := by decide +kernel
theorem dX6_putOff_24 : decode cX6_putOff 24 = .ok (.getfield 28, 3) := by decide +kernel
theorem dX6_putOff_27 : decode cX6_putOff 27 = .ok (.iconst 1, 1) := by decide +kernel
theorem dX6_putOff_28 : decode cX6_putOff 28 = .ok (.iadd, 1) := by decide +kernel
theorem dX6_putOff_29 : decode cX6_putOff 29 = .ok (.putfield 28, 3) := by decide +kernel
theorem dX6_putOff_32 : decode cX6_putOff 32 = .ok (.return_, 1) := by decide +kernel
theorem dX6_takesOpening_0 : decode cX6_takesOpening 0 = .ok (.aload_n 0, 1) := by decide +kernel
theorem dX6_takesOpening_1 : decode cX6_takesOpening 1 = .ok (.getfield 31, 3) := by decide +kernel
theorem dX6_takesOpening_4 : decode cX6_takesOpening 4 = .ok (.bipush 6, 2) := by decide +kernel
theorem dX6_takesOpening_6 : decode cX6_takesOpening 6 = .ok (.if_icmp .lt 5, 3) := by decide +kernel
theorem dX6_takesOpening_9 : decode cX6_takesOpening 9 = .ok (.iconst 0, 1) := by decide +kernel
theorem dX6_takesOpening_10 : decode cX6_takesOpening 10 = .ok (.ireturn, 1) := by decide +kernel
theorem dX6_takesOpening_11 : decode cX6_takesOpening 11 = .ok (.aload_n 0, 1) := by decide +kernel
theorem dX6_takesOpening_12 : decode cX6_takesOpening 12 = .ok (.dup, 1) := by decide +kernel
theorem dX6_takesOpening_13 : decode cX6_takesOpening 13 = .ok (.getfield 31, 3) := by decide +kernel
theorem dX6_takesOpening_16 : decode cX6_takesOpening 16 = .ok (.iconst 1, 1) := by decide +kernel
theorem dX6_takesOpening_17 : decode cX6_takesOpening 17 = .ok (.iadd, 1) := by decide +kernel
theorem dX6_takesOpening_18 : decode cX6_takesOpening 18 = .ok (.putfield 31, 3) := by decide +kernel
theorem dX6_takesOpening_21 : decode cX6_takesOpening 21 = .ok (.aload_n 0, 1) := by decide +kernel
theorem dX6_takesOpening_22 : decode cX6_takesOpening 22 = .ok (.iload_n 1, 1) := by decide +kernel
theorem dX6_takesOpening_23 : decode cX6_takesOpening 23 = .ok (.invokevirtual 75, 3) := by decide +kernel
theorem dX6_takesOpening_26 : decode cX6_takesOpening 26 = .ok (.iconst 1, 1) := by decide +kernel
theorem dX6_takesOpening_27 : decode cX6_takesOpening 27 = .ok (.ireturn, 1) := by decide +kernel
theorem dX6_takesOperand_0 : decode cX6_takesOperand 0 = .ok (.iload_n 1, 1) := by decide +kernel
theorem dX6_takesOperand_1 : decode cX6_takesOperand 1 = .ok (.lookupswitch 101 #[(33, 88), (40, 88), (45, 94), (97, 75), (98, 75), (103, 75), (112, 75), (113, 75)], 75) := by decide +kernel
theorem dX6_takesOperand_76 : decode cX6_takesOperand 76 = .ok (.aload_n 0, 1) := by decide +kernel
theorem dX6_takesOperand_77 : decode cX6_takesOperand 77 = .ok (.iload_n 1, 1) := by decide +kernel
theorem dX6_takesOperand_78 : decode cX6_takesOperand 78 = .ok (.ineg, 1) := by decide +kernel
theorem dX6_takesOperand_79 : decode cX6_takesOperand 79 = .ok (.invokevirtual 62, 3) := by decide +kernel
theorem dX6_takesOperand_82 : decode cX6_takesOperand 82 = .ok (.aload_n 0, 1) := by decide +kernel
theorem dX6_takesOperand_83 : decode cX6_takesOperand 83 = .ok (.iconst 0, 1) := by decide +kernel
theorem dX6_takesOperand_84 : decode cX6_takesOperand 84 = .ok (.putfield 34, 3) := by decide +kernel
theorem dX6_takesOperand_87 : decode cX6_takesOperand 87 = .ok (.iconst 1, 1) := by decide +kernel
theorem dX6_takesOperand_88 : decode cX6_takesOperand 88 = .ok (.ireturn, 1) := by decide +kernel
theorem dX6_takesOperand_89 : decode cX6_takesOperand 89 = .ok (.aload_n 0, 1) := by decide +kernel
theorem dX6_takesOperand_90 : decode cX6_takesOperand 90 = .ok (.iload_n 1, 1) := by decide +kernel
theorem dX6_takesOperand_91 : decode cX6_takesOperand 91 = .ok (.invokevirtual 72, 3) := by decide +kernel
theorem dX6_takesOperand_94 : decode cX6_takesOperand 94 = .ok (.ireturn, 1) := by decide +kernel
theorem dX6_takesOperand_95 : decode cX6_takesOperand 95 = .ok (.aload_n 0, 1) := by decide +kernel
theorem dX6_takesOperand_96 : decode cX6_takesOperand 96 = .ok (.bipush 126, 2) := by decide +kernel
theorem dX6_takesOperand_98 : decode cX6_takesOperand 98 = .ok (.invokevirtual 72, 3) := by decide +kernel
theorem dX6_takesOperand_101 : decode cX6_takesOperand 101 = .ok (.ireturn, 1) := by decide +kernel
theorem dX6_takesOperand_102 : decode cX6_takesOperand 102 = .ok (.iconst 0, 1) := by decide +kernel
theorem dX6_takesOperand_103 : decode cX6_takesOperand 103 = .ok (.ireturn, 1) := by decide +kernel
theorem dX6_rankOf_0 : decode cX6_rankOf 0 = .ok (.iload_n 0, 1) := by decide +kernel
theorem dX6_rankOf_1 : decode cX6_rankOf 1 = .ok (.lookupswitch 120 #[(33, 117), (37, 115), (38, 109), (42, 115), (43, 113), (45, 113), (47, 115), (60, 111), (61, 111), (62, 111), (124, 107), (126, 117)], 107) := by decide +kernel
theorem dX6_rankOf_108 : decode cX6_rankOf 108 = .ok (.iconst 1, 1) := by decide +kernel
theorem dX6_rankOf_109 : decode cX6_rankOf 109 = .ok (.ireturn, 1) := by decide +kernel
theorem dX6_rankOf_110 : decode cX6_rankOf 110 = .ok (.iconst 2, 1) := by decide +kernel
theorem dX6_rankOf_111 : decode cX6_rankOf 111 = .ok (.ireturn, 1) := by decide +kernel
theorem dX6_rankOf_112 : decode cX6_rankOf 112 = .ok (.iconst 3, 1) := by decide +kernel
theorem dX6_rankOf_113 : decode cX6_rankOf 113 = .ok (.ireturn, 1) := by decide +kernel
theorem dX6_rankOf_114 : decode cX6_rankOf 114 = .ok (.iconst 4, 1) := by decide +kernel
theorem dX6_rankOf_115 : decode cX6_rankOf 115 = .ok (.ireturn, 1) := by decide +kernel
theorem dX6_rankOf_116 : decode cX6_rankOf 116 = .ok (.iconst 5, 1) := by decide +kernel
theorem dX6_rankOf_117 : decode cX6_rankOf 117 = .ok (.ireturn, 1) := by decide +kernel
theorem dX6_rankOf_118 : decode cX6_rankOf 118 = .ok (.bipush 6, 2) := by decide +kernel
theorem dX6_rankOf_120 : decode cX6_rankOf 120 = .ok (.ireturn, 1) := by decide +kernel
theorem dX6_rankOf_121 : decode cX6_rankOf 121 = .ok (.iconst 0, 1) := by decide +kernel
theorem dX6_rankOf_122 : decode cX6_rankOf 122 = .ok (.ireturn, 1) := by decide +kernel
theorem dX6_releaseDownTo_0 : decode cX6_releaseDownTo 0 = .ok (.iconst 0, 1) := by decide +kernel
theorem dX6_releaseDownTo_1 : decode cX6_releaseDownTo 1 = .ok (.istore_n 2, 1) := by decide +kernel
theorem dX6_releaseDownTo_2 : decode cX6_releaseDownTo 2 = .ok (.aload_n 0, 1) := by decide +kernel
theorem dX6_releaseDownTo_3 : decode cX6_releaseDownTo 3 = .ok (.getfield 28, 3) := by decide +kernel
theorem dX6_releaseDownTo_6 : decode cX6_releaseDownTo 6 = .ok (.ifCond .le 51, 3) := by decide +kernel
theorem dX6_releaseDownTo_9 : decode cX6_releaseDownTo 9 = .ok (.aload_n 0, 1) := by decide +kernel
theorem dX6_releaseDownTo_10 : decode cX6_releaseDownTo 10 = .ok (.getfield 15, 3) := by decide +kernel
theorem dX6_releaseDownTo_13 : decode cX6_releaseDownTo 13 = .ok (.aload_n 0, 1) := by decide +kernel
theorem dX6_releaseDownTo_14 : decode cX6_releaseDownTo 14 = .ok (.getfield 28, 3) := by decide +kernel
theorem dX6_releaseDownTo_17 : decode cX6_releaseDownTo 17 = .ok (.iconst 1, 1) := by decide +kernel
theorem dX6_releaseDownTo_18 : decode cX6_releaseDownTo 18 = .ok (.isub, 1) := by decide +kernel
theorem dX6_releaseDownTo_19 : decode cX6_releaseDownTo 19 = .ok (.iaload, 1) := by decide +kernel
theorem dX6_releaseDownTo_20 : decode cX6_releaseDownTo 20 = .ok (.invokestatic 88, 3) := by decide +kernel
theorem dX6_releaseDownTo_23 : decode cX6_releaseDownTo 23 = .ok (.iload_n 1, 1) := by decide +kernel
theorem dX6_releaseDownTo_24 : decode cX6_releaseDownTo 24 = .ok (.if_icmp .lt 33, 3) := by decide +kernel
theorem dX6_releaseDownTo_27 : decode cX6_releaseDownTo 27 = .ok (.aload_n 0, 1) := by decide +kernel
theorem dX6_releaseDownTo_28 : decode cX6_releaseDownTo 28 = .ok (.dup, 1) := by decide +kernel
theorem dX6_releaseDownTo_29 : decode cX6_releaseDownTo 29 = .ok (.getfield 28, 3) := by decide +kernel
theorem dX6_releaseDownTo_32 : decode cX6_releaseDownTo 32 = .ok (.iconst 1, 1) := by decide +kernel
theorem dX6_releaseDownTo_33 : decode cX6_releaseDownTo 33 = .ok (.isub, 1) := by decide +kernel
theorem dX6_releaseDownTo_34 : decode cX6_releaseDownTo 34 = .ok (.putfield 28, 3) := by decide +kernel
theorem dX6_releaseDownTo_37 : decode cX6_releaseDownTo 37 = .ok (.aload_n 0, 1) := by decide +kernel
theorem dX6_releaseDownTo_38 : decode cX6_releaseDownTo 38 = .ok (.aload_n 0, 1) := by decide +kernel
theorem dX6_releaseDownTo_39 : decode cX6_releaseDownTo 39 = .ok (.getfield 15, 3) := by decide +kernel
theorem dX6_releaseDownTo_42 : decode cX6_releaseDownTo 42 = .ok (.aload_n 0, 1) := by decide +kernel
theorem dX6_releaseDownTo_43 : decode cX6_releaseDownTo 43 = .ok (.getfield 28, 3) := by decide +kernel
theorem dX6_releaseDownTo_46 : decode cX6_releaseDownTo 46 = .ok (.iaload, 1) := by decide +kernel
theorem dX6_releaseDownTo_47 : decode cX6_releaseDownTo 47 = .ok (.ineg, 1) := by decide +kernel
theorem dX6_releaseDownTo_48 : decode cX6_releaseDownTo 48 = .ok (.invokevirtual 62, 3) := by decide +kernel
theorem dX6_releaseDownTo_51 : decode cX6_releaseDownTo 51 = .ok (.iinc 2 1, 3) := by decide +kernel
theorem dX6_releaseDownTo_54 : decode cX6_releaseDownTo 54 = .ok (.goto (-52), 3) := by decide +kernel
theorem dX6_releaseDownTo_57 : decode cX6_releaseDownTo 57 = .ok (.iload_n 2, 1) := by decide +kernel
theorem dX6_releaseDownTo_58 : decode cX6_releaseDownTo 58 = .ok (.ireturn, 1) := by decide +kernel
theorem dX6_takesClosing_0 : decode cX6_takesClosing 0 = .ok (.aload_n 0, 1) := by decide +kernel
theorem dX6_takesClosing_1 : decode cX6_takesClosing 1 = .ok (.getfield 31, 3) := by decide +kernel
theorem dX6_takesClosing_4 : decode cX6_takesClosing 4 = .ok (.ifCond .ne 5, 3) := by decide +kernel
theorem dX6_takesClosing_7 : decode cX6_takesClosing 7 = .ok (.iconst 0, 1) := by decide +kernel
theorem dX6_takesClosing_8 : decode cX6_takesClosing 8 = .ok (.ireturn, 1) := by decide +kernel
theorem dX6_takesClosing_9 : decode cX6_takesClosing 9 = .ok (.aload_n 0, 1) := by decide +kernel
theorem dX6_takesClosing_10 : decode cX6_takesClosing 10 = .ok (.iconst 1, 1) := by decide +kernel
theorem dX6_takesClosing_11 : decode cX6_takesClosing 11 = .ok (.invokevirtual 58, 3) := by decide +kernel
theorem dX6_takesClosing_14 : decode cX6_takesClosing 14 = .ok (.pop, 1) := by decide +kernel
theorem dX6_takesClosing_15 : decode cX6_takesClosing 15 = .ok (.aload_n 0, 1) := by decide +kernel
theorem dX6_takesClosing_16 : decode cX6_takesClosing 16 = .ok (.getfield 28, 3) := by decide +kernel
theorem dX6_takesClosing_19 : decode cX6_takesClosing 19 = .ok (.ifCond .le 13, 3) := by decide +kernel
theorem dX6_takesClosing_22 : decode cX6_takesClosing 22 = .ok (.aload_n 0, 1) := by decide +kernel
theorem dX6_takesClosing_23 : decode cX6_takesClosing 23 = .ok (.dup, 1) := by decide +kernel
theorem dX6_takesClosing_24 : decode cX6_takesClosing 24 = .ok (.getfield 28, 3) := by decide +kernel
theorem dX6_takesClosing_27 : decode cX6_takesClosing 27 = .ok (.iconst 1, 1) := by decide +kernel
theorem dX6_takesClosing_28 : decode cX6_takesClosing 28 = .ok (.isub, 1) := by decide +kernel
theorem dX6_takesClosing_29 : decode cX6_takesClosing 29 = .ok (.putfield 28, 3) := by decide +kernel
theorem dX6_takesClosing_32 : decode cX6_takesClosing 32 = .ok (.aload_n 0, 1) := by decide +kernel
theorem dX6_takesClosing_33 : decode cX6_takesClosing 33 = .ok (.dup, 1) := by decide +kernel
theorem dX6_takesClosing_34 : decode cX6_takesClosing 34 = .ok (.getfield 31, 3) := by decide +kernel
theorem dX6_takesClosing_37 : decode cX6_takesClosing 37 = .ok (.iconst 1, 1) := by decide +kernel
theorem dX6_takesClosing_38 : decode cX6_takesClosing 38 = .ok (.isub, 1) := by decide +kernel
theorem dX6_takesClosing_39 : decode cX6_takesClosing 39 = .ok (.putfield 31, 3) := by decide +kernel
theorem dX6_takesClosing_42 : decode cX6_takesClosing 42 = .ok (.iconst 1, 1) := by decide +kernel
theorem dX6_takesClosing_43 : decode cX6_takesClosing 43 = .ok (.ireturn, 1) := by decide +kernel
theorem dX6_takesPart_0 : decode cX6_takesPart 0 = .ok (.aload_n 0, 1) := by decide +kernel
theorem dX6_takesPart_1 : decode cX6_takesPart 1 = .ok (.getfield 31, 3) := by decide +kernel
theorem dX6_takesPart_4 : decode cX6_takesPart 4 = .ok (.ifCond .gt 16, 3) := by decide +kernel
theorem dX6_takesPart_7 : decode cX6_takesPart 7 = .ok (.iload_n 1, 1) := by decide +kernel
theorem dX6_takesPart_8 : decode cX6_takesPart 8 = .ok (.bipush 63, 2) := by decide +kernel
theorem dX6_takesPart_10 : decode cX6_takesPart 10 = .ok (.if_icmp .ne 12, 3) := by decide +kernel
theorem dX6_takesPart_13 : decode cX6_takesPart 13 = .ok (.aload_n 0, 1) := by decide +kernel
theorem dX6_takesPart_14 : decode cX6_takesPart 14 = .ok (.getfield 38, 3) := by decide +kernel
theorem dX6_takesPart_17 : decode cX6_takesPart 17 = .ok (.ifCond .eq 5, 3) := by decide +kernel
theorem dX6_takesPart_20 : decode cX6_takesPart 20 = .ok (.iconst 0, 1) := by decide +kernel
theorem dX6_takesPart_21 : decode cX6_takesPart 21 = .ok (.ireturn, 1) := by decide +kernel
theorem dX6_takesPart_22 : decode cX6_takesPart 22 = .ok (.aload_n 0, 1) := by decide +kernel
theorem dX6_takesPart_23 : decode cX6_takesPart 23 = .ok (.iconst 1, 1) := by decide +kernel
theorem dX6_takesPart_24 : decode cX6_takesPart 24 = .ok (.invokevirtual 58, 3) := by decide +kernel
theorem dX6_takesPart_27 : decode cX6_takesPart 27 = .ok (.pop, 1) := by decide +kernel
theorem dX6_takesPart_28 : decode cX6_takesPart 28 = .ok (.aload_n 0, 1) := by decide +kernel
theorem dX6_takesPart_29 : decode cX6_takesPart 29 = .ok (.iload_n 1, 1) := by decide +kernel
theorem dX6_takesPart_30 : decode cX6_takesPart 30 = .ok (.ineg, 1) := by decide +kernel
theorem dX6_takesPart_31 : decode cX6_takesPart 31 = .ok (.invokevirtual 62, 3) := by decide +kernel
theorem dX6_takesPart_34 : decode cX6_takesPart 34 = .ok (.aload_n 0, 1) := by decide +kernel
theorem dX6_takesPart_35 : decode cX6_takesPart 35 = .ok (.iload_n 1, 1) := by decide +kernel
theorem dX6_takesPart_36 : decode cX6_takesPart 36 = .ok (.bipush 63, 2) := by decide +kernel
theorem dX6_takesPart_38 : decode cX6_takesPart 38 = .ok (.if_icmp .ne 7, 3) := by decide +kernel
theorem dX6_takesPart_41 : decode cX6_takesPart 41 = .ok (.iconst 1, 1) := by decide +kernel
theorem dX6_takesPart_42 : decode cX6_takesPart 42 = .ok (.goto 4, 3) := by decide +kernel
theorem dX6_takesPart_45 : decode cX6_takesPart 45 = .ok (.iconst 0, 1) := by decide +kernel
theorem dX6_takesPart_46 : decode cX6_takesPart 46 = .ok (.putfield 38, 3) := by decide +kernel
theorem dX6_takesPart_49 : decode cX6_takesPart 49 = .ok (.aload_n 0, 1) := by decide +kernel
theorem dX6_takesPart_50 : decode cX6_takesPart 50 = .ok (.iconst 1, 1) := by decide +kernel
theorem dX6_takesPart_51 : decode cX6_takesPart 51 = .ok (.putfield 34, 3) := by decide +kernel
theorem dX6_takesPart_54 : decode cX6_takesPart 54 = .ok (.iconst 1, 1) := by decide +kernel
theorem dX6_takesPart_55 : decode cX6_takesPart 55 = .ok (.ireturn, 1) := by decide +kernel
theorem dX6_takesJoining_0 : decode cX6_takesJoining 0 = .ok (.iload_n 1, 1) := by decide +kernel
theorem dX6_takesJoining_1 : decode cX6_takesJoining 1 = .ok (.invokestatic 88, 3) := by decide +kernel
theorem dX6_takesJoining_4 : decode cX6_takesJoining 4 = .ok (.istore_n 2, 1) := by decide +kernel
theorem dX6_takesJoining_5 : decode cX6_takesJoining 5 = .ok (.iload_n 2, 1) := by decide +kernel
theorem dX6_takesJoining_6 : decode cX6_takesJoining 6 = .ok (.ifCond .eq 9, 3) := by decide +kernel
theorem dX6_takesJoining_9 : decode cX6_takesJoining 9 = .ok (.iload_n 2, 1) := by decide +kernel
theorem dX6_takesJoining_10 : decode cX6_takesJoining 10 = .ok (.bipush 6, 2) := by decide +kernel
theorem dX6_takesJoining_12 : decode cX6_takesJoining 12 = .ok (.if_icmp .ne 5, 3) := by decide +kernel
theorem dX6_takesJoining_15 : decode cX6_takesJoining 15 = .ok (.iconst 0, 1) := by decide +kernel
theorem dX6_takesJoining_16 : decode cX6_takesJoining 16 = .ok (.ireturn, 1) := by decide +kernel
theorem dX6_takesJoining_17 : decode cX6_takesJoining 17 = .ok (.aload_n 0, 1) := by decide +kernel
theorem dX6_takesJoining_18 : decode cX6_takesJoining 18 = .ok (.iload_n 2, 1) := by decide +kernel
theorem dX6_takesJoining_19 : decode cX6_takesJoining 19 = .ok (.iconst 3, 1) := by decide +kernel
theorem dX6_takesJoining_20 : decode cX6_takesJoining 20 = .ok (.if_icmp .ne 9, 3) := by decide +kernel
theorem dX6_takesJoining_23 : decode cX6_takesJoining 23 = .ok (.iload_n 2, 1) := by decide +kernel
theorem dX6_takesJoining_24 : decode cX6_takesJoining 24 = .ok (.iconst 1, 1) := by decide +kernel
theorem dX6_takesJoining_25 : decode cX6_takesJoining 25 = .ok (.iadd, 1) := by decide +kernel
theorem dX6_takesJoining_26 : decode cX6_takesJoining 26 = .ok (.goto 4, 3) := by decide +kernel
theorem dX6_takesJoining_29 : decode cX6_takesJoining 29 = .ok (.iload_n 2, 1) := by decide +kernel
theorem dX6_takesJoining_30 : decode cX6_takesJoining 30 = .ok (.invokevirtual 58, 3) := by decide +kernel
theorem dX6_takesJoining_33 : decode cX6_takesJoining 33 = .ok (.pop, 1) := by decide +kernel
theorem dX6_takesJoining_34 : decode cX6_takesJoining 34 = .ok (.iload_n 2, 1) := by decide +kernel
theorem dX6_takesJoining_35 : decode cX6_takesJoining 35 = .ok (.iconst 3, 1) := by decide +kernel
theorem dX6_takesJoining_36 : decode cX6_takesJoining 36 = .ok (.if_icmp .ne 30, 3) := by decide +kernel
theorem dX6_takesJoining_39 : decode cX6_takesJoining 39 = .ok (.aload_n 0, 1) := by decide +kernel
theorem dX6_takesJoining_40 : decode cX6_takesJoining 40 = .ok (.getfield 28, 3) := by decide +kernel
theorem dX6_takesJoining_43 : decode cX6_takesJoining 43 = .ok (.ifCond .le 23, 3) := by decide +kernel
theorem dX6_takesJoining_46 : decode cX6_takesJoining 46 = .ok (.aload_n 0, 1) := by decide +kernel
theorem dX6_takesJoining_47 : decode cX6_takesJoining 47 = .ok (.getfield 15, 3) := by decide +kernel
theorem dX6_takesJoining_50 : decode cX6_takesJoining 50 = .ok (.aload_n 0, 1) := by decide +kernel
theorem dX6_takesJoining_51 : decode cX6_takesJoining 51 = .ok (.getfield 28, 3) := by decide +kernel
theorem dX6_takesJoining_54 : decode cX6_takesJoining 54 = .ok (.iconst 1, 1) := by decide +kernel
theorem dX6_takesJoining_55 : decode cX6_takesJoining 55 = .ok (.isub, 1) := by decide +kernel
theorem dX6_takesJoining_56 : decode cX6_takesJoining 56 = .ok (.iaload, 1) := by decide +kernel
theorem dX6_takesJoining_57 : decode cX6_takesJoining 57 = .ok (.invokestatic 88, 3) := by decide +kernel
theorem dX6_takesJoining_60 : decode cX6_takesJoining 60 = .ok (.iconst 3, 1) := by decide +kernel
theorem dX6_takesJoining_61 : decode cX6_takesJoining 61 = .ok (.if_icmp .ne 5, 3) := by decide +kernel
theorem dX6_takesJoining_64 : decode cX6_takesJoining 64 = .ok (.iconst 0, 1) := by decide +kernel
theorem dX6_takesJoining_65 : decode cX6_takesJoining 65 = .ok (.ireturn, 1) := by decide +kernel
theorem dX6_takesJoining_66 : decode cX6_takesJoining 66 = .ok (.aload_n 0, 1) := by decide +kernel
theorem dX6_takesJoining_67 : decode cX6_takesJoining 67 = .ok (.iload_n 1, 1) := by decide +kernel
theorem dX6_takesJoining_68 : decode cX6_takesJoining 68 = .ok (.invokevirtual 75, 3) := by decide +kernel
theorem dX6_takesJoining_71 : decode cX6_takesJoining 71 = .ok (.aload_n 0, 1) := by decide +kernel
theorem dX6_takesJoining_72 : decode cX6_takesJoining 72 = .ok (.iconst 1, 1) := by decide +kernel
theorem dX6_takesJoining_73 : decode cX6_takesJoining 73 = .ok (.putfield 34, 3) := by decide +kernel
theorem dX6_takesJoining_76 : decode cX6_takesJoining 76 = .ok (.iconst 1, 1) := by decide +kernel
theorem dX6_takesJoining_77 : decode cX6_takesJoining 77 = .ok (.ireturn, 1) := by decide +kernel
theorem dX6_takesSign_0 : decode cX6_takesSign 0 = .ok (.iload_n 1, 1) := by decide +kernel
theorem dX6_takesSign_1 : decode cX6_takesSign 1 = .ok (.lookupswitch 46 #[(41, 35), (59, 40), (63, 40)], 35) := by decide +kernel
theorem dX6_takesSign_36 : decode cX6_takesSign 36 = .ok (.aload_n 0, 1) := by decide +kernel
theorem dX6_takesSign_37 : decode cX6_takesSign 37 = .ok (.invokevirtual 78, 3) := by decide +kernel
theorem dX6_takesSign_40 : decode cX6_takesSign 40 = .ok (.ireturn, 1) := by decide +kernel
theorem dX6_takesSign_41 : decode cX6_takesSign 41 = .ok (.aload_n 0, 1) := by decide +kernel
theorem dX6_takesSign_42 : decode cX6_takesSign 42 = .ok (.iload_n 1, 1) := by decide +kernel
theorem dX6_takesSign_43 : decode cX6_takesSign 43 = .ok (.invokevirtual 82, 3) := by decide +kernel
theorem dX6_takesSign_46 : decode cX6_takesSign 46 = .ok (.ireturn, 1) := by decide +kernel
theorem dX6_takesSign_47 : decode cX6_takesSign 47 = .ok (.aload_n 0, 1) := by decide +kernel
theorem dX6_takesSign_48 : decode cX6_takesSign 48 = .ok (.iload_n 1, 1) := by decide +kernel
theorem dX6_takesSign_49 : decode cX6_takesSign 49 = .ok (.invokevirtual 85, 3) := by decide +kernel
theorem dX6_takesSign_52 : decode cX6_takesSign 52 = .ok (.ireturn, 1) := by decide +kernel
theorem dX6_read_0 : decode cX6_read 0 = .ok (.iload_n 2, 1) := by decide +kernel
theorem dX6_read_1 : decode cX6_read 1 = .ok (.aload_n 1, 1) := by decide +kernel
theorem dX6_read_2 : decode cX6_read 2 = .ok (.arraylength, 1) := by decide +kernel
theorem dX6_read_3 : decode cX6_read 3 = .ok (.invokestatic 18, 3) := by decide +kernel
theorem dX6_read_6 : decode cX6_read 6 = .ok (.istore_n 3, 1) := by decide +kernel
theorem dX6_read_7 : decode cX6_read 7 = .ok (.aload_n 0, 1) := by decide +kernel
theorem dX6_read_8 : decode cX6_read 8 = .ok (.iconst 0, 1) := by decide +kernel
theorem dX6_read_9 : decode cX6_read 9 = .ok (.putfield 24, 3) := by decide +kernel
theorem dX6_read_12 : decode cX6_read 12 = .ok (.aload_n 0, 1) := by decide +kernel
theorem dX6_read_13 : decode cX6_read 13 = .ok (.iconst 0, 1) := by decide +kernel
theorem dX6_read_14 : decode cX6_read 14 = .ok (.putfield 28, 3) := by decide +kernel
theorem dX6_read_17 : decode cX6_read 17 = .ok (.aload_n 0, 1) := by decide +kernel
theorem dX6_read_18 : decode cX6_read 18 = .ok (.iconst 0, 1) := by decide +kernel
theorem dX6_read_19 : decode cX6_read 19 = .ok (.putfield 31, 3) := by decide +kernel
theorem dX6_read_22 : decode cX6_read 22 = .ok (.aload_n 0, 1) := by decide +kernel
theorem dX6_read_23 : decode cX6_read 23 = .ok (.iconst 1, 1) := by decide +kernel
theorem dX6_read_24 : decode cX6_read 24 = .ok (.putfield 34, 3) := by decide +kernel
theorem dX6_read_27 : decode cX6_read 27 = .ok (.aload_n 0, 1) := by decide +kernel
theorem dX6_read_28 : decode cX6_read 28 = .ok (.iconst 0, 1) := by decide +kernel
theorem dX6_read_29 : decode cX6_read 29 = .ok (.putfield 38, 3) := by decide +kernel
theorem dX6_read_32 : decode cX6_read 32 = .ok (.iconst 0, 1) := by decide +kernel
theorem dX6_read_33 : decode cX6_read 33 = .ok (.istore 4, 2) := by decide +kernel
theorem dX6_read_35 : decode cX6_read 35 = .ok (.iload 4, 2) := by decide +kernel
theorem dX6_read_37 : decode cX6_read 37 = .ok (.iload_n 3, 1) := by decide +kernel
theorem dX6_read_38 : decode cX6_read 38 = .ok (.if_icmp .ge 106, 3) := by decide +kernel
theorem dX6_read_41 : decode cX6_read 41 = .ok (.aload_n 1, 1) := by decide +kernel
theorem dX6_read_42 : decode cX6_read 42 = .ok (.iload 4, 2) := by decide +kernel
theorem dX6_read_44 : decode cX6_read 44 = .ok (.iaload, 1) := by decide +kernel
theorem dX6_read_45 : decode cX6_read 45 = .ok (.istore 5, 2) := by decide +kernel
theorem dX6_read_47 : decode cX6_read 47 = .ok (.aload_n 0, 1) := by decide +kernel
theorem dX6_read_48 : decode cX6_read 48 = .ok (.getfield 34, 3) := by decide +kernel
theorem dX6_read_51 : decode cX6_read 51 = .ok (.ifCond .eq 31, 3) := by decide +kernel
theorem dX6_read_54 : decode cX6_read 54 = .ok (.iload 5, 2) := by decide +kernel
theorem dX6_read_56 : decode cX6_read 56 = .ok (.invokestatic 41, 3) := by decide +kernel
theorem dX6_read_59 : decode cX6_read 59 = .ok (.ifCond .eq 23, 3) := by decide +kernel
theorem dX6_read_62 : decode cX6_read 62 = .ok (.iload 4, 2) := by decide +kernel
theorem dX6_read_64 : decode cX6_read 64 = .ok (.aload_n 0, 1) := by decide +kernel
theorem dX6_read_65 : decode cX6_read 65 = .ok (.aload_n 1, 1) := by decide +kernel
theorem dX6_read_66 : decode cX6_read 66 = .ok (.iload 4, 2) := by decide +kernel
theorem dX6_read_68 : decode cX6_read 68 = .ok (.iload_n 3, 1) := by decide +kernel
theorem dX6_read_69 : decode cX6_read 69 = .ok (.invokevirtual 45, 3) := by decide +kernel
theorem dX6_read_72 : decode cX6_read 72 = .ok (.iconst 1, 1) := by decide +kernel
theorem dX6_read_73 : decode cX6_read 73 = .ok (.invokestatic 49, 3) := by decide +kernel
theorem dX6_read_76 : decode cX6_read 76 = .ok (.iadd, 1) := by decide +kernel
theorem dX6_read_77 : decode cX6_read 77 = .ok (.istore 4, 2) := by decide +kernel
theorem dX6_read_79 : decode cX6_read 79 = .ok (.goto 40, 3) := by decide +kernel
theorem dX6_read_82 : decode cX6_read 82 = .ok (.aload_n 0, 1) := by decide +kernel
theorem dX6_read_83 : decode cX6_read 83 = .ok (.getfield 34, 3) := by decide +kernel
theorem dX6_read_86 : decode cX6_read 86 = .ok (.ifCond .eq 15, 3) := by decide +kernel
theorem dX6_read_89 : decode cX6_read 89 = .ok (.aload_n 0, 1) := by decide +kernel
theorem dX6_read_90 : decode cX6_read 90 = .ok (.iload 5, 2) := by decide +kernel
theorem dX6_read_92 : decode cX6_read 92 = .ok (.invokevirtual 52, 3) := by decide +kernel
theorem dX6_read_95 : decode cX6_read 95 = .ok (.ifCond .eq 21, 3) := by decide +kernel
theorem dX6_read_98 : decode cX6_read 98 = .ok (.goto 12, 3) := by decide +kernel
theorem dX6_read_101 : decode cX6_read 101 = .ok (.aload_n 0, 1) := by decide +kernel
theorem dX6_read_102 : decode cX6_read 102 = .ok (.iload 5, 2) := by decide +kernel
theorem dX6_read_104 : decode cX6_read 104 = .ok (.invokevirtual 55, 3) := by decide +kernel
theorem dX6_read_107 : decode cX6_read 107 = .ok (.ifCond .eq 9, 3) := by decide +kernel
theorem dX6_read_110 : decode cX6_read 110 = .ok (.iinc 4 1, 3) := by decide +kernel
theorem dX6_read_113 : decode cX6_read 113 = .ok (.goto 6, 3) := by decide +kernel
theorem dX6_read_116 : decode cX6_read 116 = .ok (.iload 4, 2) := by decide +kernel
theorem dX6_read_118 : decode cX6_read 118 = .ok (.ireturn, 1) := by decide +kernel
theorem dX6_read_119 : decode cX6_read 119 = .ok (.aload_n 0, 1) := by decide +kernel
theorem dX6_read_120 : decode cX6_read 120 = .ok (.getfield 34, 3) := by decide +kernel
theorem dX6_read_123 : decode cX6_read 123 = .ok (.ifCond .ne 18, 3) := by decide +kernel
theorem dX6_read_126 : decode cX6_read 126 = .ok (.aload_n 0, 1) := by decide +kernel
theorem dX6_read_127 : decode cX6_read 127 = .ok (.dup, 1) := by decide +kernel
theorem dX6_read_128 : decode cX6_read 128 = .ok (.getfield 31, 3) := by decide +kernel
theorem dX6_read_131 : decode cX6_read 131 = .ok (.aload_n 0, 1) := by decide +kernel
theorem dX6_read_132 : decode cX6_read 132 = .ok (.bipush 6, 2) := by decide +kernel
theorem dX6_read_134 : decode cX6_read 134 = .ok (.invokevirtual 58, 3) := by decide +kernel
theorem dX6_read_137 : decode cX6_read 137 = .ok (.isub, 1) := by decide +kernel
theorem dX6_read_138 : decode cX6_read 138 = .ok (.putfield 31, 3) := by decide +kernel
theorem dX6_read_141 : decode cX6_read 141 = .ok (.goto (-106), 3) := by decide +kernel
theorem dX6_read_144 : decode cX6_read 144 = .ok (.aload_n 0, 1) := by decide +kernel
theorem dX6_read_145 : decode cX6_read 145 = .ok (.getfield 34, 3) := by decide +kernel
theorem dX6_read_148 : decode cX6_read 148 = .ok (.ifCond .ne 10, 3) := by decide +kernel
theorem dX6_read_151 : decode cX6_read 151 = .ok (.aload_n 0, 1) := by decide +kernel
theorem dX6_read_152 : decode cX6_read 152 = .ok (.getfield 31, 3) := by decide +kernel
theorem dX6_read_155 : decode cX6_read 155 = .ok (.ifCond .le 5, 3) := by decide +kernel
theorem dX6_read_158 : decode cX6_read 158 = .ok (.iload_n 3, 1) := by decide +kernel
theorem dX6_read_159 : decode cX6_read 159 = .ok (.ireturn, 1) := by decide +kernel
theorem dX6_read_160 : decode cX6_read 160 = .ok (.aload_n 0, 1) := by decide +kernel
theorem dX6_read_161 : decode cX6_read 161 = .ok (.iconst 1, 1) := by decide +kernel
theorem dX6_read_162 : decode cX6_read 162 = .ok (.invokevirtual 58, 3) := by decide +kernel
theorem dX6_read_165 : decode cX6_read 165 = .ok (.pop, 1) := by decide +kernel
theorem dX6_read_166 : decode cX6_read 166 = .ok (.aload_n 0, 1) := by decide +kernel
theorem dX6_read_167 : decode cX6_read 167 = .ok (.bipush (-59), 2) := by decide +kernel
theorem dX6_read_169 : decode cX6_read 169 = .ok (.invokevirtual 62, 3) := by decide +kernel
theorem dX6_read_172 : decode cX6_read 172 = .ok (.bipush (-2), 2) := by decide +kernel
theorem dX6_read_174 : decode cX6_read 174 = .ok (.ireturn, 1) := by decide +kernel
theorem dX6_copySteps_0 : decode cX6_copySteps 0 = .ok (.aload_n 0, 1) := by decide +kernel
theorem dX6_copySteps_1 : decode cX6_copySteps 1 = .ok (.getfield 24, 3) := by decide +kernel
theorem dX6_copySteps_4 : decode cX6_copySteps 4 = .ok (.aload_n 1, 1) := by decide +kernel
theorem dX6_copySteps_5 : decode cX6_copySteps 5 = .ok (.arraylength, 1) := by decide +kernel
theorem dX6_copySteps_6 : decode cX6_copySteps 6 = .ok (.invokestatic 18, 3) := by decide +kernel
theorem dX6_copySteps_9 : decode cX6_copySteps 9 = .ok (.istore_n 2, 1) := by decide +kernel
theorem dX6_copySteps_10 : decode cX6_copySteps 10 = .ok (.aload_n 0, 1) := by decide +kernel
theorem dX6_copySteps_11 : decode cX6_copySteps 11 = .ok (.getfield 9, 3) := by decide +kernel
theorem dX6_copySteps_14 : decode cX6_copySteps 14 = .ok (.iconst 0, 1) := by decide +kernel
theorem dX6_copySteps_15 : decode cX6_copySteps 15 = .ok (.aload_n 1, 1) := by decide +kernel
theorem dX6_copySteps_16 : decode cX6_copySteps 16 = .ok (.iconst 0, 1) := by decide +kernel
theorem dX6_copySteps_17 : decode cX6_copySteps 17 = .ok (.iload_n 2, 1) := by decide +kernel
theorem dX6_copySteps_18 : decode cX6_copySteps 18 = .ok (.invokestatic 66, 3) := by decide +kernel
theorem dX6_copySteps_21 : decode cX6_copySteps 21 = .ok (.iload_n 2, 1) := by decide +kernel
theorem dX6_copySteps_22 : decode cX6_copySteps 22 = .ok (.ireturn, 1) := by decide +kernel
theorem fl_X6_15 : Cond.fieldLink RX6 15 (TX6 2).1 (TX6 2).2.1 (TX6 2).2.2.1 ∈ wsL_law := (uw4 _ (List.mem_of_getElem? (i := 9) rfl))
theorem fl_X6_24 : Cond.fieldLink RX6 24 (TX6 1).1 (TX6 1).2.1 (TX6 1).2.2.1 ∈ wsL_law := (uw23 _ (List.mem_of_getElem? (i := 5) rfl))
theorem fl_X6_28 : Cond.fieldLink RX6 28 (TX6 3).1 (TX6 3).2.1 (TX6 3).2.2.1 ∈ wsL_law := (uw23 _ (List.mem_of_getElem? (i := 6) rfl))
theorem fl_X6_31 : Cond.fieldLink RX6 31 (TX6 4).1 (TX6 4).2.1 (TX6 4).2.2.1 ∈ wsL_law := (uw23 _ (List.mem_of_getElem? (i := 7) rfl))
theorem fl_X6_34 : Cond.fieldLink RX6 34 (TX6 5).1 (TX6 5).2.1 (TX6 5).2.2.1 ∈ wsL_law := (uw23 _ (List.mem_of_getElem? (i := 8) rfl))
theorem fl_X6_38 : Cond.fieldLink RX6 38 (TX6 6).1 (TX6 6).2.1 (TX6 6).2.2.1 ∈ wsL_law := (uw23 _ (List.mem_of_getElem? (i := 9) rfl))
theorem fl_X6_9 : Cond.fieldLink RX6 9 (TX6 0).1 (TX6 0).2.1 (TX6 0).2.2.1 ∈ wsL_law := (uw4 _ (List.mem_of_getElem? (i := 8) rfl))
theorem hy_X6_addStep : Cond.code yX6_addStep cX6_addStep 2 none ∈ wsL_law ∧ Cond.initialized yX6_addStep.cls ∈ wsL_law ∧ Cond.instanceMethod yX6_addStep ∈ wsL_law ∧ Cond.selects yX6_addStep.cls yX6_addStep yX6_addStep ∈ wsL_law := ⟨(uw23 _ (List.mem_of_getElem? (i := 23) rfl)), (uw4 _ (List.mem_of_getElem? (i := 0) rfl)), (uw23 _ (List.mem_of_getElem? (i := 21) rfl)), (uw23 _ (List.mem_of_getElem? (i := 22) rfl))⟩
theorem hd_X6_addStep : yX6_addStep.cls ≠ "java/lang/invoke/MethodHandle" ∧ yX6_addStep.cls ≠ "java/lang/invoke/VarHandle" ∧ (parseMethodDescriptor yX6_addStep.desc).map (fun d => d.parameters.length) = some 1 := ⟨by decide +kernel, by decide +kernel, by decide +kernel⟩
theorem hy_X6_isDigit : Cond.code yX6_isDigit cX6_isDigit 1 (some .boolean) ∈ wsL_law ∧ Cond.initialized yX6_isDigit.cls ∈ wsL_law ∧ Cond.static yX6_isDigit ∈ wsL_law := ⟨(uw23 _ (List.mem_of_getElem? (i := 15) rfl)), (uw4 _ (List.mem_of_getElem? (i := 0) rfl)), (uw23 _ (List.mem_of_getElem? (i := 14) rfl))⟩
theorem hd_X6_isDigit : yX6_isDigit.cls ≠ "java/lang/invoke/MethodHandle" ∧ yX6_isDigit.cls ≠ "java/lang/invoke/VarHandle" ∧ (parseMethodDescriptor yX6_isDigit.desc).map (fun d => d.parameters.length) = some 1 := ⟨by decide +kernel, by decide +kernel, by decide +kernel⟩
theorem hy_X6_putOff : Cond.code yX6_putOff cX6_putOff 2 none ∈ wsL_law ∧ Cond.initialized yX6_putOff.cls ∈ wsL_law ∧ Cond.instanceMethod yX6_putOff ∈ wsL_law ∧ Cond.selects yX6_putOff.cls yX6_putOff yX6_putOff ∈ wsL_law := ⟨(uw24 _ (List.mem_of_getElem? (i := 11) rfl)), (uw4 _ (List.mem_of_getElem? (i := 0) rfl)), (uw24 _ (List.mem_of_getElem? (i := 9) rfl)), (uw24 _ (List.mem_of_getElem? (i := 10) rfl))⟩
theorem hd_X6_putOff : yX6_putOff.cls ≠ "java/lang/invoke/MethodHandle" ∧ yX6_putOff.cls ≠ "java/lang/invoke/VarHandle" ∧ (parseMethodDescriptor yX6_putOff.desc).map (fun d => d.parameters.length) = some 1 := ⟨by decide +kernel, by decide +kernel, by decide +kernel⟩
theorem hy_X6_rankOf : Cond.code yX6_rankOf cX6_rankOf 1 (some .int) ∈ wsL_law ∧ Cond.initialized yX6_rankOf.cls ∈ wsL_law ∧ Cond.static yX6_rankOf ∈ wsL_law := ⟨(uw25 _ (List.mem_of_getElem? (i := 2) rfl)), (uw4 _ (List.mem_of_getElem? (i := 0) rfl)), (uw25 _ (List.mem_of_getElem? (i := 1) rfl))⟩
theorem hd_X6_rankOf : yX6_rankOf.cls ≠ "java/lang/invoke/MethodHandle" ∧ yX6_rankOf.cls ≠ "java/lang/invoke/VarHandle" ∧ (parseMethodDescriptor yX6_rankOf.desc).map (fun d => d.parameters.length) = some 1 := ⟨by decide +kernel, by decide +kernel, by decide +kernel⟩
theorem hy_X6_readNumber : Cond.code yX6_readNumber cX6_readNumber 6 (some .int) ∈ wsL_law ∧ Cond.initialized yX6_readNumber.cls ∈ wsL_law ∧ Cond.instanceMethod yX6_readNumber ∈ wsL_law ∧ Cond.selects yX6_readNumber.cls yX6_readNumber yX6_readNumber ∈ wsL_law := ⟨(uw23 _ (List.mem_of_getElem? (i := 19) rfl)), (uw4 _ (List.mem_of_getElem? (i := 0) rfl)), (uw23 _ (List.mem_of_getElem? (i := 17) rfl)), (uw23 _ (List.mem_of_getElem? (i := 18) rfl))⟩
theorem hd_X6_readNumber : yX6_readNumber.cls ≠ "java/lang/invoke/MethodHandle" ∧ yX6_readNumber.cls ≠ "java/lang/invoke/VarHandle" ∧ (parseMethodDescriptor yX6_readNumber.desc).map (fun d => d.parameters.length) = some 3 := ⟨by decide +kernel, by decide +kernel, by decide +kernel⟩
theorem hy_X6_releaseDownTo : Cond.code yX6_releaseDownTo cX6_releaseDownTo 3 (some .int) ∈ wsL_law ∧ Cond.initialized yX6_releaseDownTo.cls ∈ wsL_law ∧ Cond.instanceMethod yX6_releaseDownTo ∈ wsL_law ∧ Cond.selects yX6_releaseDownTo.cls yX6_releaseDownTo yX6_releaseDownTo ∈ wsL_law := ⟨(uw24 _ (List.mem_of_getElem? (i := 23) rfl)), (uw4 _ (List.mem_of_getElem? (i := 0) rfl)), (uw24 _ (List.mem_of_getElem? (i := 21) rfl)), (uw24 _ (List.mem_of_getElem? (i := 22) rfl))⟩
theorem hd_X6_releaseDownTo : yX6_releaseDownTo.cls ≠ "java/lang/invoke/MethodHandle" ∧ yX6_releaseDownTo.cls ≠ "java/lang/invoke/VarHandle" ∧ (parseMethodDescriptor yX6_releaseDownTo.desc).map (fun d => d.parameters.length) = some 1 := ⟨by decide +kernel, by decide +kernel, by decide +kernel⟩
theorem hy_X6_takesClosing : Cond.code yX6_takesClosing cX6_takesClosing 1 (some .boolean) ∈ wsL_law ∧ Cond.initialized yX6_takesClosing.cls ∈ wsL_law ∧ Cond.instanceMethod yX6_takesClosing ∈ wsL_law ∧ Cond.selects yX6_takesClosing.cls yX6_takesClosing yX6_takesClosing ∈ wsL_law := ⟨(uw24 _ (List.mem_of_getElem? (i := 19) rfl)), (uw4 _ (List.mem_of_getElem? (i := 0) rfl)), (uw24 _ (List.mem_of_getElem? (i := 17) rfl)), (uw24 _ (List.mem_of_getElem? (i := 18) rfl))⟩
theorem hd_X6_takesClosing : yX6_takesClosing.cls ≠ "java/lang/invoke/MethodHandle" ∧ yX6_takesClosing.cls ≠ "java/lang/invoke/VarHandle" ∧ (parseMethodDescriptor yX6_takesClosing.desc).map (fun d => d.parameters.length) = some 0 := ⟨by decide +kernel, by decide +kernel, by decide +kernel⟩
theorem hy_X6_takesJoining : Cond.code yX6_takesJoining cX6_takesJoining 3 (some .boolean) ∈ wsL_law ∧ Cond.initialized yX6_takesJoining.cls ∈ wsL_law ∧ Cond.instanceMethod yX6_takesJoining ∈ wsL_law ∧ Cond.selects yX6_takesJoining.cls yX6_takesJoining yX6_takesJoining ∈ wsL_law := ⟨(uw25 _ (List.mem_of_getElem? (i := 10) rfl)), (uw4 _ (List.mem_of_getElem? (i := 0) rfl)), (uw25 _ (List.mem_of_getElem? (i := 8) rfl)), (uw25 _ (List.mem_of_getElem? (i := 9) rfl))⟩
theorem hd_X6_takesJoining : yX6_takesJoining.cls ≠ "java/lang/invoke/MethodHandle" ∧ yX6_takesJoining.cls ≠ "java/lang/invoke/VarHandle" ∧ (parseMethodDescriptor yX6_takesJoining.desc).map (fun d => d.parameters.length) = some 1 := ⟨by decide +kernel, by decide +kernel, by decide +kernel⟩
theorem hy_X6_takesOpening : Cond.code yX6_takesOpening cX6_takesOpening 2 (some .boolean) ∈ wsL_law ∧ Cond.initialized yX6_takesOpening.cls ∈ wsL_law ∧ Cond.instanceMethod yX6_takesOpening ∈ wsL_law ∧ Cond.selects yX6_takesOpening.cls yX6_takesOpening yX6_takesOpening ∈ wsL_law := ⟨(uw24 _ (List.mem_of_getElem? (i := 7) rfl)), (uw4 _ (List.mem_of_getElem? (i := 0) rfl)), (uw24 _ (List.mem_of_getElem? (i := 5) rfl)), (uw24 _ (List.mem_of_getElem? (i := 6) rfl))⟩
theorem hd_X6_takesOpening : yX6_takesOpening.cls ≠ "java/lang/invoke/MethodHandle" ∧ yX6_takesOpening.cls ≠ "java/lang/invoke/VarHandle" ∧ (parseMethodDescriptor yX6_takesOpening.desc).map (fun d => d.parameters.length) = some 1 := ⟨by decide +kernel, by decide +kernel, by decide +kernel⟩
theorem hy_X6_takesOperand : Cond.code yX6_takesOperand cX6_takesOperand 2 (some .boolean) ∈ wsL_law ∧ Cond.initialized yX6_takesOperand.cls ∈ wsL_law ∧ Cond.instanceMethod yX6_takesOperand ∈ wsL_law ∧ Cond.selects yX6_takesOperand.cls yX6_takesOperand yX6_takesOperand ∈ wsL_law := ⟨(uw24 _ (List.mem_of_getElem? (i := 3) rfl)), (uw4 _ (List.mem_of_getElem? (i := 0) rfl)), (uw24 _ (List.mem_of_getElem? (i := 1) rfl)), (uw24 _ (List.mem_of_getElem? (i := 2) rfl))⟩
theorem hd_X6_takesOperand : yX6_takesOperand.cls ≠ "java/lang/invoke/MethodHandle" ∧ yX6_takesOperand.cls ≠ "java/lang/invoke/VarHandle" ∧ (parseMethodDescriptor yX6_takesOperand.desc).map (fun d => d.parameters.length) = some 1 := ⟨by decide +kernel, by decide +kernel, by decide +kernel⟩
theorem hy_X6_takesPart : Cond.code yX6_takesPart cX6_takesPart 2 (some .boolean) ∈ wsL_law ∧ Cond.initialized yX6_takesPart.cls ∈ wsL_law ∧ Cond.instanceMethod yX6_takesPart ∈ wsL_law ∧ Cond.selects yX6_takesPart.cls yX6_takesPart yX6_takesPart ∈ wsL_law := ⟨(uw25 _ (List.mem_of_getElem? (i := 6) rfl)), (uw4 _ (List.mem_of_getElem? (i := 0) rfl)), (uw25 _ (List.mem_of_getElem? (i := 4) rfl)), (uw25 _ (List.mem_of_getElem? (i := 5) rfl))⟩
theorem hd_X6_takesPart : yX6_takesPart.cls ≠ "java/lang/invoke/MethodHandle" ∧ yX6_takesPart.cls ≠ "java/lang/invoke/VarHandle" ∧ (parseMethodDescriptor yX6_takesPart.desc).map (fun d => d.parameters.length) = some 1 := ⟨by decide +kernel, by decide +kernel, by decide +kernel⟩
theorem hy_X6_takesSign : Cond.code yX6_takesSign cX6_takesSign 2 (some .boolean) ∈ wsL_law ∧ Cond.initialized yX6_takesSign.cls ∈ wsL_law ∧ Cond.instanceMethod yX6_takesSign ∈ wsL_law ∧ Cond.selects yX6_takesSign.cls yX6_takesSign yX6_takesSign ∈ wsL_law := ⟨(uw24 _ (List.mem_of_getElem? (i := 15) rfl)), (uw4 _ (List.mem_of_getElem? (i := 0) rfl)), (uw24 _ (List.mem_of_getElem? (i := 13) rfl)), (uw24 _ (List.mem_of_getElem? (i := 14) rfl))⟩
theorem hd_X6_takesSign : yX6_takesSign.cls ≠ "java/lang/invoke/MethodHandle" ∧ yX6_takesSign.cls ≠ "java/lang/invoke/VarHandle" ∧ (parseMethodDescriptor yX6_takesSign.desc).map (fun d => d.parameters.length) = some 1 := ⟨by decide +kernel, by decide +kernel, by decide +kernel⟩
theorem ml_X6_41 : Cond.methodLink RX6 41 yX6_isDigit ∈ wsL_law := (uw23 _ (List.mem_of_getElem? (i := 13) rfl))
theorem ml_X6_45 : Cond.methodLink RX6 45 yX6_readNumber ∈ wsL_law := (uw23 _ (List.mem_of_getElem? (i := 16) rfl))
theorem ml_X6_52 : Cond.methodLink RX6 52 yX6_takesOperand ∈ wsL_law := (uw24 _ (List.mem_of_getElem? (i := 0) rfl))
theorem ml_X6_55 : Cond.methodLink RX6 55 yX6_takesSign ∈ wsL_law := (uw24 _ (List.mem_of_getElem? (i := 12) rfl))
theorem ml_X6_58 : Cond.methodLink RX6 58 yX6_releaseDownTo ∈ wsL_law := (uw24 _ (List.mem_of_getElem? (i := 20) rfl))
theorem ml_X6_62 : Cond.methodLink RX6 62 yX6_addStep ∈ wsL_law := (uw23 _ (List.mem_of_getElem? (i := 20) rfl))
theorem ml_X6_72 : Cond.methodLink RX6 72 yX6_takesOpening ∈ wsL_law := (uw24 _ (List.mem_of_getElem? (i := 4) rfl))
theorem ml_X6_75 : Cond.methodLink RX6 75 yX6_putOff ∈ wsL_law := (uw24 _ (List.mem_of_getElem? (i := 8) rfl))
theorem ml_X6_78 : Cond.methodLink RX6 78 yX6_takesClosing ∈ wsL_law := (uw24 _ (List.mem_of_getElem? (i := 16) rfl))
theorem ml_X6_82 : Cond.methodLink RX6 82 yX6_takesPart ∈ wsL_law := (uw25 _ (List.mem_of_getElem? (i := 3) rfl))
theorem ml_X6_85 : Cond.methodLink RX6 85 yX6_takesJoining ∈ wsL_law := (uw25 _ (List.mem_of_getElem? (i := 7) rfl))
theorem ml_X6_88 : Cond.methodLink RX6 88 yX6_rankOf ∈ wsL_law := (uw25 _ (List.mem_of_getElem? (i := 0) rfl))
abbrev w_LawReader_isDigit (G : zG) : va_W := []
def f_LawReader_isDigit (x0 : Int32) : Int32 := (if x0 < 48 then 0 else (if (57 : Int32) < x0 then 0 else 1))
set_option maxRecDepth 100000 in
set_option maxHeartbeats 4000000 in
theorem c_LawReader_isDigit (l : Launch) (G : zG) (x0 : Int32) (r_ : Int32) (hf : f_LawReader_isDigit x0 = r_) : zM l yX6_isDigit cX6_isDigit 1 (some .boolean) 0 0 G [.int x0] (w_LawReader_isDigit G) (some (.int r_)) (w_LawReader_isDigit G) := by
  refine zM.of [(0, .int x0)] (own := RX6) rfl (by decide +kernel) (Nat.le_of_ble_eq_true rfl) rfl rfl fun X hX F => ?_
  subst hX
  replace hf := (f_LawReader_isDigit.eq_1 ..).symm.trans hf
  refine z_iload_n F 0 dX6_isDigit_0 rfl rfl ?_
  refine z_bipush F (48) dX6_isDigit_1 rfl ?_
  refine z_icmp_lt F 16 dX6_isDigit_3 (by decide) hf (fun hf _ => ?_) (fun hf _ => ?_)
  · refine z_iconst F (0) dX6_isDigit_16 rfl ?_
    subst hf
    exact z_iret F rfl rfl rfl rfl dX6_isDigit_17
  · refine z_iload_n F 0 dX6_isDigit_6 rfl rfl ?_
    refine z_bipush F (57) dX6_isDigit_7 rfl ?_
    refine z_icmp_gt F 16 dX6_isDigit_9 (by decide) hf (fun hf _ => ?_) (fun hf _ => ?_)
    · refine z_iconst F (0) dX6_isDigit_16 rfl ?_
      subst hf
      exact z_iret F rfl rfl rfl rfl dX6_isDigit_17
    · refine z_iconst F (1) dX6_isDigit_12 rfl ?_
      refine z_goto F 17 dX6_isDigit_13 (by decide) ?_
      subst hf
      exact z_iret F rfl rfl rfl rfl dX6_isDigit_17

abbrev w_LawReader_addStep (G : zG) (a_this : Nat) (a_steps : Nat) (a_waiting : Nat) (length_ : Int32) (waits : Int32) (open_ : Int32) (wantsOperand : Int32) (isAsked : Int32) (steps : Nat → Int32) : va_W := [(a_this, cO 6 [.ref a_steps, .int length_, .ref a_waiting, .int waits, .int open_, .int wantsOperand, .int isAsked]), (a_steps, cI G 121 steps)]
def f_LawReader_addStep (length_ : Int32) (steps : Nat → Int32) (x1 : Int32) : Option (Int32 × (Nat → Int32)) := (if (121 : Int32) ≤ length_ then (some (length_, steps)) else (zs steps 121 length_ x1 fun steps_1 => (some ((length_ + (1 : Int32)), steps_1))))
set_option maxRecDepth 100000 in
set_option maxHeartbeats 4000000 in
theorem c_LawReader_addStep (l : Launch) (G : zG) (a_this : Nat) (a_steps : Nat) (a_waiting : Nat) (length_ : Int32) (waits : Int32) (open_ : Int32) (wantsOperand : Int32) (isAsked : Int32) (steps : Nat → Int32) (x1 : Int32) (o_length_ : Int32) (o_steps : Nat → Int32) (hf : f_LawReader_addStep length_ steps x1 = some (o_length_, o_steps)) : zM l yX6_addStep cX6_addStep 2 none 0 0 G [.ref a_this, .int x1] (w_LawReader_addStep G a_this a_steps a_waiting length_ waits open_ wantsOperand isAsked steps) (none) (w_LawReader_addStep G a_this a_steps a_waiting o_length_ waits open_ wantsOperand isAsked o_steps) := by
  refine zM.of [(0, .ref a_this), (1, .int x1)] (own := RX6) rfl (by decide +kernel) (Nat.le_of_ble_eq_true rfl) rfl rfl fun X hX F => ?_
  subst hX
  replace hf := (f_LawReader_addStep.eq_1 ..).symm.trans hf
  refine z_aload_n F 0 dX6_addStep_0 rfl rfl ?_
  refine z_get F 0 6 1 inlX6 rfl rfl (by decide) fl_X6_24 rfl dX6_addStep_1 ?_
  refine z_aload_n F 0 dX6_addStep_4 rfl rfl ?_
  refine z_get F 0 6 0 inlX6 rfl rfl (by decide) fl_X6_9 rfl dX6_addStep_5 ?_
  refine z_alen F 1 0 121 rfl rfl rfl dX6_addStep_8 ?_
  refine z_icmp_ge F 32 dX6_addStep_9 (by decide) hf (fun hf _ => ?_) (fun hf _ => ?_)
  · have eq1 := Option.some.inj hf
    obtain ⟨ee1, ee2⟩ := Prod.mk.inj eq1
    subst ee1
    subst ee2
    exact z_vret F rfl rfl rfl dX6_addStep_32
  · refine z_aload_n F 0 dX6_addStep_12 rfl rfl ?_
    refine z_get F 0 6 0 inlX6 rfl rfl (by decide) fl_X6_9 rfl dX6_addStep_13 ?_
    refine z_aload_n F 0 dX6_addStep_16 rfl rfl ?_
    refine z_get F 0 6 1 inlX6 rfl rfl (by decide) fl_X6_24 rfl dX6_addStep_17 ?_
    refine z_iload_n F 1 dX6_addStep_20 rfl rfl ?_
    refine z_iast F 1 (fun steps_1 => (w_LawReader_addStep G a_this a_steps a_waiting length_ waits open_ wantsOperand isAsked steps_1)) rfl hf (fun _ => rfl) dX6_addStep_21 (fun steps_1 hf => ?_)
    refine z_aload_n F 0 dX6_addStep_22 rfl rfl ?_
    refine z_dup F rfl dX6_addStep_23 ?_
    refine z_get F 0 6 1 inlX6 rfl rfl (by decide) fl_X6_24 rfl dX6_addStep_24 ?_
    refine z_iconst F (1) dX6_addStep_27 rfl ?_
    refine z_iadd F dX6_addStep_28 ?_
    refine z_put F 0 6 1 (w_LawReader_addStep G a_this a_steps a_waiting (length_ + (1 : Int32)) waits open_ wantsOperand isAsked steps_1) inlX6 tyX6 tyX6_ok nmX6 rfl rfl (by decide) fl_X6_24 rfl rfl rfl (Nat.le_of_ble_eq_true rfl) rfl dX6_addStep_29 ?_
    have eq1 := Option.some.inj hf
    obtain ⟨ee1, ee2⟩ := Prod.mk.inj eq1
    subst ee1
    subst ee2
    exact z_vret F rfl rfl rfl dX6_addStep_32

abbrev w_LawReader_readNumber (G : zG) (a_this : Nat) (a_steps : Nat) (a_waiting : Nat) (a_p1 : Nat) (length_ : Int32) (waits : Int32) (open_ : Int32) (wantsOperand : Int32) (isAsked : Int32) (steps : Nat → Int32) (p1 : Nat → Int32) : va_W := [(a_this, cO 6 [.ref a_steps, .int length_, .ref a_waiting, .int waits, .int open_, .int wantsOperand, .int isAsked]), (a_steps, cI G 121 steps), (a_p1, cI G 120 p1)]
def f_LawReader_readNumber_L6 (p1 : Nat → Int32) (v2 : Int32) (v3 : Int32) : Nat → Int32 → Int32 → Option (Int32 × Int32)
  | 0, _, _ => none
  | fuel + 1, v4, v5 => (if (4 : Int32) ≤ v5 then (some (v4, v5)) else (if v3 ≤ (v2 + v5) then (some (v4, v5)) else (zg p1 120 (v2 + v5) fun v_1 => (if (f_LawReader_isDigit v_1) = 0 then (some (v4, v5)) else (zg p1 120 (v2 + v5) fun v_3 => (f_LawReader_readNumber_L6 p1 v2 v3 fuel (((v4 * (10 : Int32)) + v_3) - (48 : Int32)) (v5 + 1)))))))
def f_LawReader_readNumber (length_ : Int32) (wantsOperand : Int32) (steps : Nat → Int32) (p1 : Nat → Int32) (x2 : Int32) (x3 : Int32) : Option (Int32 × Int32 × Int32 × (Nat → Int32)) := (zb2 (f_LawReader_readNumber_L6 p1 x2 x3 FU 0 0) fun v4_4 v5_5 => (zb2 (f_LawReader_addStep length_ steps v4_4) fun length__6 steps_7 => (some (v5_5, length__6, 0, steps_7))))
set_option maxRecDepth 100000 in
set_option maxHeartbeats 4000000 in
theorem l_LawReader_readNumber_6 {X : zX} (G : zG) (a_this : Nat) (a_steps : Nat) (a_waiting : Nat) (a_p1 : Nat) (length_ : Int32) (waits : Int32) (open_ : Int32) (wantsOperand : Int32) (isAsked : Int32) (steps : Nat → Int32) (p1 : Nat → Int32) (v2 : Int32) (v3 : Int32) {v0 : Option Value} {w0 : va_W} (F : zF X G cX6_readNumber RX6 6 (some .int) 1 21 v0 w0) (e_v4 : Int32) (e_v5 : Int32) (hk : Z X G 6 (w_LawReader_readNumber G a_this a_steps a_waiting a_p1 length_ waits open_ wantsOperand isAsked steps p1) [(0, .ref a_this), (4, .int e_v4), (5, .int e_v5)] 55 []) :
    ∀ (fuel : Nat) (v4 : Int32) (v5 : Int32), f_LawReader_readNumber_L6 p1 v2 v3 fuel v4 v5 = some (e_v4, e_v5) → Z X G 6 (w_LawReader_readNumber G a_this a_steps a_waiting a_p1 length_ waits open_ wantsOperand isAsked steps p1) [(0, .ref a_this), (1, .ref a_p1), (2, .int v2), (3, .int v3), (4, .int v4), (5, .int v5)] 6 [] := by
  intro fuel
  induction fuel with
  | zero => intro v4 v5 hf; exact absurd ((f_LawReader_readNumber_L6.eq_1 ..).symm.trans hf) (fun h => by cases h)
  | succ fuel ih =>
    intro v4 v5 hf
    replace hf := (f_LawReader_readNumber_L6.eq_2 ..).symm.trans hf
    refine z_iload F 5 dX6_readNumber_6 rfl ?_
    refine z_iconst F (4) dX6_readNumber_8 rfl ?_
    refine z_icmp_ge F 55 dX6_readNumber_9 (by decide) hf (fun hf _ => ?_) (fun hf _ => ?_)
    · have eq1 := Option.some.inj hf
      obtain ⟨ee1, ee2⟩ := Prod.mk.inj eq1
      subst ee1
      subst ee2
      exact z_sub [0, 4, 5] rfl hk
    · refine z_iload_n F 2 dX6_readNumber_12 rfl rfl ?_
      refine z_iload F 5 dX6_readNumber_13 rfl ?_
      refine z_iadd F dX6_readNumber_15 ?_
      refine z_iload_n F 3 dX6_readNumber_16 rfl rfl ?_
      refine z_icmp_ge F 55 dX6_readNumber_17 (by decide) hf (fun hf _ => ?_) (fun hf _ => ?_)
      · have eq1 := Option.some.inj hf
        obtain ⟨ee1, ee2⟩ := Prod.mk.inj eq1
        subst ee1
        subst ee2
        exact z_sub [0, 4, 5] rfl hk
      · refine z_aload_n F 1 dX6_readNumber_20 rfl rfl ?_
        refine z_iload_n F 2 dX6_readNumber_21 rfl rfl ?_
        refine z_iload F 5 dX6_readNumber_22 rfl ?_
        refine z_iadd F dX6_readNumber_24 ?_
        refine z_iald F 2 rfl hf dX6_readNumber_25 (fun v_1 hf => ?_)
        refine z_callSm (rest := []) F (c_LawReader_isDigit (xL X) G v_1 _ rfl) hy_X6_isDigit ml_X6_41 hd_X6_isDigit ⟨by omega, by omega⟩ rfl [] rfl rfl (w_LawReader_readNumber G a_this a_steps a_waiting a_p1 length_ waits open_ wantsOperand isAsked steps p1) [none, none, none] rfl (by decide +kernel) rfl rfl (Nat.le_of_ble_eq_true rfl) dX6_readNumber_26 (fun hz_2 => ?_)
        refine z_if_eq F 55 dX6_readNumber_29 (by decide) hf (fun hf _ => ?_) (fun hf _ => ?_)
        · have eq1 := Option.some.inj hf
          obtain ⟨ee1, ee2⟩ := Prod.mk.inj eq1
          subst ee1
          subst ee2
          exact z_sub [0, 4, 5] rfl hk
        · refine z_iload F 4 dX6_readNumber_32 rfl ?_
          refine z_bipush F (10) dX6_readNumber_34 rfl ?_
          refine z_imul F dX6_readNumber_36 ?_
          refine z_aload_n F 1 dX6_readNumber_37 rfl rfl ?_
          refine z_iload_n F 2 dX6_readNumber_38 rfl rfl ?_
          refine z_iload F 5 dX6_readNumber_39 rfl ?_
          refine z_iadd F dX6_readNumber_41 ?_
          refine z_iald F 2 rfl hf dX6_readNumber_42 (fun v_3 hf => ?_)
          refine z_iadd F dX6_readNumber_43 ?_
          refine z_bipush F (48) dX6_readNumber_44 rfl ?_
          refine z_isub F dX6_readNumber_46 ?_
          refine z_istore F [(4, .int (((v4 * (10 : Int32)) + v_3) - (48 : Int32))), (0, .ref a_this), (1, .ref a_p1), (2, .int v2), (3, .int v3), (5, .int v5)] dX6_readNumber_47 (by decide) rfl ?_
          refine z_iinc F [(5, .int (v5 + 1)), (4, .int (((v4 * (10 : Int32)) + v_3) - (48 : Int32))), (0, .ref a_this), (1, .ref a_p1), (2, .int v2), (3, .int v3)] dX6_readNumber_49 5 rfl rfl (by decide) rfl ?_
          refine z_goto F 6 dX6_readNumber_52 (by decide) ?_
          exact z_sub [2, 3, 4, 5, 1, 0] rfl (ih (((v4 * (10 : Int32)) + v_3) - (48 : Int32)) (v5 + 1) hf)

set_option maxRecDepth 100000 in
set_option maxHeartbeats 4000000 in
theorem c_LawReader_readNumber (l : Launch) (G : zG) (a_this : Nat) (a_steps : Nat) (a_waiting : Nat) (a_p1 : Nat) (length_ : Int32) (waits : Int32) (open_ : Int32) (wantsOperand : Int32) (isAsked : Int32) (steps : Nat → Int32) (p1 : Nat → Int32) (x2 : Int32) (x3 : Int32) (r_ : Int32) (o_length_ : Int32) (o_wantsOperand : Int32) (o_steps : Nat → Int32) (hf : f_LawReader_readNumber length_ wantsOperand steps p1 x2 x3 = some (r_, o_length_, o_wantsOperand, o_steps)) : zM l yX6_readNumber cX6_readNumber 6 (some .int) 1 21 G [.ref a_this, .ref a_p1, .int x2, .int x3] (w_LawReader_readNumber G a_this a_steps a_waiting a_p1 length_ waits open_ wantsOperand isAsked steps p1) (some (.int r_)) (w_LawReader_readNumber G a_this a_steps a_waiting a_p1 o_length_ waits open_ o_wantsOperand isAsked o_steps p1) := by
  refine zM.of [(0, .ref a_this), (1, .ref a_p1), (2, .int x2), (3, .int x3)] (own := RX6) rfl (by decide +kernel) (Nat.le_of_ble_eq_true rfl) rfl rfl fun X hX F => ?_
  subst hX
  replace hf := (f_LawReader_readNumber.eq_1 ..).symm.trans hf
  refine z_iconst F (0) dX6_readNumber_0 rfl ?_
  refine z_istore F [(4, .int 0), (0, .ref a_this), (1, .ref a_p1), (2, .int x2), (3, .int x3)] dX6_readNumber_1 (by decide) rfl ?_
  refine z_iconst F (0) dX6_readNumber_3 rfl ?_
  refine z_istore F [(5, .int 0), (4, .int 0), (0, .ref a_this), (1, .ref a_p1), (2, .int x2), (3, .int x3)] dX6_readNumber_4 (by decide) rfl ?_
  obtain ⟨v4_4, v5_5, hg, hf⟩ := zb2_some hf
  refine z_sub [2, 3, 4, 5, 1, 0] rfl ?_
  refine l_LawReader_readNumber_6 G a_this a_steps a_waiting a_p1 length_ waits open_ wantsOperand isAsked steps p1 x2 x3 F v4_4 v5_5 ?_ FU 0 0 hg
  refine z_aload_n F 0 dX6_readNumber_55 rfl rfl ?_
  refine z_iload F 1 dX6_readNumber_56 rfl ?_
  obtain ⟨length__6, steps_7, hg, hf⟩ := zb2_some hf
  refine z_callVm (rest := []) F 6 (c_LawReader_addStep (xL X) G a_this a_steps a_waiting length_ waits open_ wantsOperand isAsked steps v4_4 length__6 steps_7 hg) hy_X6_addStep ml_X6_62 hd_X6_addStep ⟨by omega, by omega⟩ rfl [0, 1] rfl rfl 0 rfl rfl (w_LawReader_readNumber G a_this a_steps a_waiting a_p1 length__6 waits open_ wantsOperand isAsked steps_7 p1) [some 0, some 1, none] rfl (by decide +kernel) rfl rfl (Nat.le_of_ble_eq_true rfl) dX6_readNumber_58 (fun hz_8 => ?_)
  refine z_aload_n F 0 dX6_readNumber_61 rfl rfl ?_
  refine z_iconst F (0) dX6_readNumber_62 rfl ?_
  refine z_put F 0 6 5 (w_LawReader_readNumber G a_this a_steps a_waiting a_p1 length__6 waits open_ 0 isAsked steps_7 p1) inlX6 tyX6 tyX6_ok nmX6 rfl rfl (by decide) fl_X6_34 rfl rfl rfl (Nat.le_of_ble_eq_true rfl) rfl dX6_readNumber_63 ?_
  refine z_iload F 2 dX6_readNumber_66 rfl ?_
  have eq1 := Option.some.inj hf
  obtain ⟨ee1, eq2⟩ := Prod.mk.inj eq1
  obtain ⟨ee2, eq3⟩ := Prod.mk.inj eq2
  obtain ⟨ee3, ee4⟩ := Prod.mk.inj eq3
  subst ee1
  subst ee2
  subst ee3
  subst ee4
  exact z_iret F rfl rfl rfl rfl dX6_readNumber_68

abbrev w_LawReader_putOff (G : zG) (a_this : Nat) (a_steps : Nat) (a_waiting : Nat) (length_ : Int32) (waits : Int32) (open_ : Int32) (wantsOperand : Int32) (isAsked : Int32) (waiting : Nat → Int32) : va_W := [(a_this, cO 6 [.ref a_steps, .int length_, .ref a_waiting, .int waits, .int open_, .int wantsOperand, .int isAsked]), (a_waiting, cI G 120 waiting)]
def f_LawReader_putOff (waits : Int32) (waiting : Nat → Int32) (x1 : Int32) : Option (Int32 × (Nat → Int32)) := (if (120 : Int32) ≤ waits then (some (waits, waiting)) else (zs waiting 120 waits x1 fun waiting_1 => (some ((waits + (1 : Int32)), waiting_1))))
set_option maxRecDepth 100000 in
set_option maxHeartbeats 4000000 in
theorem c_LawReader_putOff (l : Launch) (G : zG) (a_this : Nat) (a_steps : Nat) (a_waiting : Nat) (length_ : Int32) (waits : Int32) (open_ : Int32) (wantsOperand : Int32) (isAsked : Int32) (waiting : Nat → Int32) (x1 : Int32) (o_waits : Int32) (o_waiting : Nat → Int32) (hf : f_LawReader_putOff waits waiting x1 = some (o_waits, o_waiting)) : zM l yX6_putOff cX6_putOff 2 none 0 0 G [.ref a_this, .int x1] (w_LawReader_putOff G a_this a_steps a_waiting length_ waits open_ wantsOperand isAsked waiting) (none) (w_LawReader_putOff G a_this a_steps a_waiting length_ o_waits open_ wantsOperand isAsked o_waiting) := by
  refine zM.of [(0, .ref a_this), (1, .int x1)] (own := RX6) rfl (by decide +kernel) (Nat.le_of_ble_eq_true rfl) rfl rfl fun X hX F => ?_
  subst hX
  replace hf := (f_LawReader_putOff.eq_1 ..).symm.trans hf
  refine z_aload_n F 0 dX6_putOff_0 rfl rfl ?_
  refine z_get F 0 6 3 inlX6 rfl rfl (by decide) fl_X6_28 rfl dX6_putOff_1 ?_
  refine z_aload_n F 0 dX6_putOff_4 rfl rfl ?_
  refine z_get F 0 6 2 inlX6 rfl rfl (by decide) fl_X6_15 rfl dX6_putOff_5 ?_
  refine z_alen F 1 0 120 rfl rfl rfl dX6_putOff_8 ?_
  refine z_icmp_ge F 32 dX6_putOff_9 (by decide) hf (fun hf _ => ?_) (fun hf _ => ?_)
  · have eq1 := Option.some.inj hf
    obtain ⟨ee1, ee2⟩ := Prod.mk.inj eq1
    subst ee1
    subst ee2
    exact z_vret F rfl rfl rfl dX6_putOff_32
  · refine z_aload_n F 0 dX6_putOff_12 rfl rfl ?_
    refine z_get F 0 6 2 inlX6 rfl rfl (by decide) fl_X6_15 rfl dX6_putOff_13 ?_
    refine z_aload_n F 0 dX6_putOff_16 rfl rfl ?_
    refine z_get F 0 6 3 inlX6 rfl rfl (by decide) fl_X6_28 rfl dX6_putOff_17 ?_
    refine z_iload_n F 1 dX6_putOff_20 rfl rfl ?_
    refine z_iast F 1 (fun waiting_1 => (w_LawReader_putOff G a_this a_steps a_waiting length_ waits open_ wantsOperand isAsked waiting_1)) rfl hf (fun _ => rfl) dX6_putOff_21 (fun waiting_1 hf => ?_)
    refine z_aload_n F 0 dX6_putOff_22 rfl rfl ?_
    refine z_dup F rfl dX6_putOff_23 ?_
    refine z_get F 0 6 3 inlX6 rfl rfl (by decide) fl_X6_28 rfl dX6_putOff_24 ?_
    refine z_iconst F (1) dX6_putOff_27 rfl ?_
    refine z_iadd F dX6_putOff_28 ?_
    refine z_put F 0 6 3 (w_LawReader_putOff G a_this a_steps a_waiting length_ (waits + (1 : Int32)) open_ wantsOperand isAsked waiting_1) inlX6 tyX6 tyX6_ok nmX6 rfl rfl (by decide) fl_X6_28 rfl rfl rfl (Nat.le_of_ble_eq_true rfl) rfl dX6_putOff_29 ?_
    have eq1 := Option.some.inj hf
    obtain ⟨ee1, ee2⟩ := Prod.mk.inj eq1
    subst ee1
    subst ee2
    exact z_vret F rfl rfl rfl dX6_putOff_32

abbrev w_LawReader_takesOpening (G : zG) (a_this : Nat) (a_steps : Nat) (a_waiting : Nat) (length_ : Int32) (waits : Int32) (open_ : Int32) (wantsOperand : Int32) (isAsked : Int32) (waiting : Nat → Int32) : va_W := [(a_this, cO 6 [.ref a_steps, .int length_, .ref a_waiting, .int waits, .int open_, .int wantsOperand, .int isAsked]), (a_waiting, cI G 120 waiting)]
def f_LawReader_takesOpening (waits : Int32) (open_ : Int32) (waiting : Nat → Int32) (x1 : Int32) : Option (Int32 × Int32 × Int32 × (Nat → Int32)) := (if open_ < 6 then (zb2 (f_LawReader_putOff waits waiting x1) fun waits_1 waiting_2 => (some (1, waits_1, (open_ + (1 : Int32)), waiting_2))) else (some (0, waits, open_, waiting)))
set_option maxRecDepth 100000 in
set_option maxHeartbeats 4000000 in
theorem c_LawReader_takesOpening (l : Launch) (G : zG) (a_this : Nat) (a_steps : Nat) (a_waiting : Nat) (length_ : Int32) (waits : Int32) (open_ : Int32) (wantsOperand : Int32) (isAsked : Int32) (waiting : Nat → Int32) (x1 : Int32) (r_ : Int32) (o_waits : Int32) (o_open_ : Int32) (o_waiting : Nat → Int32) (hf : f_LawReader_takesOpening waits open_ waiting x1 = some (r_, o_waits, o_open_, o_waiting)) : zM l yX6_takesOpening cX6_takesOpening 2 (some .boolean) 1 21 G [.ref a_this, .int x1] (w_LawReader_takesOpening G a_this a_steps a_waiting length_ waits open_ wantsOperand isAsked waiting) (some (.int r_)) (w_LawReader_takesOpening G a_this a_steps a_waiting length_ o_waits o_open_ wantsOperand isAsked o_waiting) := by
  refine zM.of [(0, .ref a_this), (1, .int x1)] (own := RX6) rfl (by decide +kernel) (Nat.le_of_ble_eq_true rfl) rfl rfl fun X hX F => ?_
  subst hX
  replace hf := (f_LawReader_takesOpening.eq_1 ..).symm.trans hf
  refine z_aload_n F 0 dX6_takesOpening_0 rfl rfl ?_
  refine z_get F 0 6 4 inlX6 rfl rfl (by decide) fl_X6_31 rfl dX6_takesOpening_1 ?_
  refine z_bipush F (6) dX6_takesOpening_4 rfl ?_
  refine z_icmp_lt F 11 dX6_takesOpening_6 (by decide) hf (fun hf _ => ?_) (fun hf _ => ?_)
  · refine z_aload_n F 0 dX6_takesOpening_11 rfl rfl ?_
    refine z_dup F rfl dX6_takesOpening_12 ?_
    refine z_get F 0 6 4 inlX6 rfl rfl (by decide) fl_X6_31 rfl dX6_takesOpening_13 ?_
    refine z_iconst F (1) dX6_takesOpening_16 rfl ?_
    refine z_iadd F dX6_takesOpening_17 ?_
    refine z_put F 0 6 4 (w_LawReader_takesOpening G a_this a_steps a_waiting length_ waits (open_ + (1 : Int32)) wantsOperand isAsked waiting) inlX6 tyX6 tyX6_ok nmX6 rfl rfl (by decide) fl_X6_31 rfl rfl rfl (Nat.le_of_ble_eq_true rfl) rfl dX6_takesOpening_18 ?_
    refine z_aload_n F 0 dX6_takesOpening_21 rfl rfl ?_
    refine z_iload_n F 1 dX6_takesOpening_22 rfl rfl ?_
    obtain ⟨waits_1, waiting_2, hg, hf⟩ := zb2_some hf
    refine z_callVm (rest := []) F 6 (c_LawReader_putOff (xL X) G a_this a_steps a_waiting length_ waits (open_ + (1 : Int32)) wantsOperand isAsked waiting x1 waits_1 waiting_2 hg) hy_X6_putOff ml_X6_75 hd_X6_putOff ⟨by omega, by omega⟩ rfl [0, 1] rfl rfl 0 rfl rfl (w_LawReader_takesOpening G a_this a_steps a_waiting length_ waits_1 (open_ + (1 : Int32)) wantsOperand isAsked waiting_2) [some 0, some 1] rfl (by decide +kernel) rfl rfl (Nat.le_of_ble_eq_true rfl) dX6_takesOpening_23 (fun hz_3 => ?_)
    refine z_iconst F (1) dX6_takesOpening_26 rfl ?_
    have eq1 := Option.some.inj hf
    obtain ⟨ee1, eq2⟩ := Prod.mk.inj eq1
    obtain ⟨ee2, eq3⟩ := Prod.mk.inj eq2
    obtain ⟨ee3, ee4⟩ := Prod.mk.inj eq3
    subst ee1
    subst ee2
    subst ee3
    subst ee4
    exact z_iret F rfl rfl rfl rfl dX6_takesOpening_27
  · refine z_iconst F (0) dX6_takesOpening_9 rfl ?_
    have eq1 := Option.some.inj hf
    obtain ⟨ee1, eq2⟩ := Prod.mk.inj eq1
    obtain ⟨ee2, eq3⟩ := Prod.mk.inj eq2
    obtain ⟨ee3, ee4⟩ := Prod.mk.inj eq3
    subst ee1
    subst ee2
    subst ee3
    subst ee4
    exact z_iret F rfl rfl rfl rfl dX6_takesOpening_10

abbrev w_LawReader_takesOperand (G : zG) (a_this : Nat) (a_steps : Nat) (a_waiting : Nat) (length_ : Int32) (waits : Int32) (open_ : Int32) (wantsOperand : Int32) (isAsked : Int32) (steps : Nat → Int32) (waiting : Nat → Int32) : va_W := [(a_this, cO 6 [.ref a_steps, .int length_, .ref a_waiting, .int waits, .int open_, .int wantsOperand, .int isAsked]), (a_steps, cI G 121 steps), (a_waiting, cI G 120 waiting)]
def f_LawReader_takesOperand (length_ : Int32) (waits : Int32) (open_ : Int32) (wantsOperand : Int32) (steps : Nat → Int32) (waiting : Nat → Int32) (x1 : Int32) : Option (Int32 × Int32 × Int32 × Int32 × Int32 × (Nat → Int32) × (Nat → Int32)) := (if x1 = 33 then (zb4 (f_LawReader_takesOpening waits open_ waiting x1) fun r_2 waits_3 open__4 waiting_5 => (some (r_2, length_, waits_3, open__4, wantsOperand, steps, waiting_5))) else (if x1 = 40 then (zb4 (f_LawReader_takesOpening waits open_ waiting x1) fun r_8 waits_9 open__10 waiting_11 => (some (r_8, length_, waits_9, open__10, wantsOperand, steps, waiting_11))) else (if x1 = 45 then (zb4 (f_LawReader_takesOpening waits open_ waiting 126) fun r_14 waits_15 open__16 waiting_17 => (some (r_14, length_, waits_15, open__16, wantsOperand, steps, waiting_17))) else (if x1 = 97 then (zb2 (f_LawReader_addStep length_ steps (-x1)) fun length__20 steps_21 => (some (1, length__20, waits, open_, 0, steps_21, waiting))) else (if x1 = 98 then (zb2 (f_LawReader_addStep length_ steps (-x1)) fun length__24 steps_25 => (some (1, length__24, waits, open_, 0, steps_25, waiting))) else (if x1 = 103 then (zb2 (f_LawReader_addStep length_ steps (-x1)) fun length__28 steps_29 => (some (1, length__28, waits, open_, 0, steps_29, waiting))) else (if x1 = 112 then (zb2 (f_LawReader_addStep length_ steps (-x1)) fun length__32 steps_33 => (some (1, length__32, waits, open_, 0, steps_33, waiting))) else (if x1 = 113 then (zb2 (f_LawReader_addStep length_ steps (-x1)) fun length__36 steps_37 => (some (1, length__36, waits, open_, 0, steps_37, waiting))) else (some (0, length_, waits, open_, wantsOperand, steps, waiting))))))))))
set_option maxRecDepth 100000 in
set_option maxHeartbeats 4000000 in
theorem c_LawReader_takesOperand (l : Launch) (G : zG) (a_this : Nat) (a_steps : Nat) (a_waiting : Nat) (length_ : Int32) (waits : Int32) (open_ : Int32) (wantsOperand : Int32) (isAsked : Int32) (steps : Nat → Int32) (waiting : Nat → Int32) (x1 : Int32) (r_ : Int32) (o_length_ : Int32) (o_waits : Int32) (o_open_ : Int32) (o_wantsOperand : Int32) (o_steps : Nat → Int32) (o_waiting : Nat → Int32) (hf : f_LawReader_takesOperand length_ waits open_ wantsOperand steps waiting x1 = some (r_, o_length_, o_waits, o_open_, o_wantsOperand, o_steps, o_waiting)) : zM l yX6_takesOperand cX6_takesOperand 2 (some .boolean) 2 42 G [.ref a_this, .int x1] (w_LawReader_takesOperand G a_this a_steps a_waiting length_ waits open_ wantsOperand isAsked steps waiting) (some (.int r_)) (w_LawReader_takesOperand G a_this a_steps a_waiting o_length_ o_waits o_open_ o_wantsOperand isAsked o_steps o_waiting) := by
  refine zM.of [(0, .ref a_this), (1, .int x1)] (own := RX6) rfl (by decide +kernel) (Nat.le_of_ble_eq_true rfl) rfl rfl fun X hX F => ?_
  subst hX
  replace hf := (f_LawReader_takesOperand.eq_1 ..).symm.trans hf
  refine z_iload_n F 1 dX6_takesOperand_0 rfl rfl ?_
  by_cases hc_1 : x1 = 33
  · replace hf := zif_t hf hc_1
    refine z_lookup (off := 88) F 89 dX6_takesOperand_1 (by decide +kernel) (by rw [hc_1]; decide +kernel) (by decide) ?_
    refine z_aload_n F 0 dX6_takesOperand_89 rfl rfl ?_
    refine z_iload_n F 1 dX6_takesOperand_90 rfl rfl ?_
    obtain ⟨r_2, waits_3, open__4, waiting_5, hg, hf⟩ := zb4_some hf
    refine z_callVm (rest := []) F 6 (c_LawReader_takesOpening (xL X) G a_this a_steps a_waiting length_ waits open_ wantsOperand isAsked waiting x1 r_2 waits_3 open__4 waiting_5 hg) hy_X6_takesOpening ml_X6_72 hd_X6_takesOpening ⟨by omega, by omega⟩ rfl [0, 2] rfl rfl 0 rfl rfl (w_LawReader_takesOperand G a_this a_steps a_waiting length_ waits_3 open__4 wantsOperand isAsked steps waiting_5) [some 0, none, some 1] rfl (by decide +kernel) rfl rfl (Nat.le_of_ble_eq_true rfl) dX6_takesOperand_91 (fun hz_6 => ?_)
    have eq1 := Option.some.inj hf
    obtain ⟨ee1, eq2⟩ := Prod.mk.inj eq1
    obtain ⟨ee2, eq3⟩ := Prod.mk.inj eq2
    obtain ⟨ee3, eq4⟩ := Prod.mk.inj eq3
    obtain ⟨ee4, eq5⟩ := Prod.mk.inj eq4
    obtain ⟨ee5, eq6⟩ := Prod.mk.inj eq5
    obtain ⟨ee6, ee7⟩ := Prod.mk.inj eq6
    subst ee1
    subst ee2
    subst ee3
    subst ee4
    subst ee5
    subst ee6
    subst ee7
    exact z_iret F rfl (hz_6 _ _ rfl rfl) rfl rfl dX6_takesOperand_94
  · replace hf := zif_f hf hc_1
    by_cases hc_7 : x1 = 40
    · replace hf := zif_t hf hc_7
      refine z_lookup (off := 88) F 89 dX6_takesOperand_1 (by decide +kernel) (by rw [hc_7]; decide +kernel) (by decide) ?_
      refine z_aload_n F 0 dX6_takesOperand_89 rfl rfl ?_
      refine z_iload_n F 1 dX6_takesOperand_90 rfl rfl ?_
      obtain ⟨r_8, waits_9, open__10, waiting_11, hg, hf⟩ := zb4_some hf
      refine z_callVm (rest := []) F 6 (c_LawReader_takesOpening (xL X) G a_this a_steps a_waiting length_ waits open_ wantsOperand isAsked waiting x1 r_8 waits_9 open__10 waiting_11 hg) hy_X6_takesOpening ml_X6_72 hd_X6_takesOpening ⟨by omega, by omega⟩ rfl [0, 2] rfl rfl 0 rfl rfl (w_LawReader_takesOperand G a_this a_steps a_waiting length_ waits_9 open__10 wantsOperand isAsked steps waiting_11) [some 0, none, some 1] rfl (by decide +kernel) rfl rfl (Nat.le_of_ble_eq_true rfl) dX6_takesOperand_91 (fun hz_12 => ?_)
      have eq1 := Option.some.inj hf
      obtain ⟨ee1, eq2⟩ := Prod.mk.inj eq1
      obtain ⟨ee2, eq3⟩ := Prod.mk.inj eq2
      obtain ⟨ee3, eq4⟩ := Prod.mk.inj eq3
      obtain ⟨ee4, eq5⟩ := Prod.mk.inj eq4
      obtain ⟨ee5, eq6⟩ := Prod.mk.inj eq5
      obtain ⟨ee6, ee7⟩ := Prod.mk.inj eq6
      subst ee1
      subst ee2
      subst ee3
      subst ee4
      subst ee5
      subst ee6
      subst ee7
      exact z_iret F rfl (hz_12 _ _ rfl rfl) rfl rfl dX6_takesOperand_94
    · replace hf := zif_f hf hc_7
      by_cases hc_13 : x1 = 45
      · replace hf := zif_t hf hc_13
        refine z_lookup (off := 94) F 95 dX6_takesOperand_1 (by decide +kernel) (by rw [hc_13]; decide +kernel) (by decide) ?_
        refine z_aload_n F 0 dX6_takesOperand_95 rfl rfl ?_
        refine z_bipush F (126) dX6_takesOperand_96 rfl ?_
        obtain ⟨r_14, waits_15, open__16, waiting_17, hg, hf⟩ := zb4_some hf
        refine z_callVm (rest := []) F 6 (c_LawReader_takesOpening (xL X) G a_this a_steps a_waiting length_ waits open_ wantsOperand isAsked waiting 126 r_14 waits_15 open__16 waiting_17 hg) hy_X6_takesOpening ml_X6_72 hd_X6_takesOpening ⟨by omega, by omega⟩ rfl [0, 2] rfl rfl 0 rfl rfl (w_LawReader_takesOperand G a_this a_steps a_waiting length_ waits_15 open__16 wantsOperand isAsked steps waiting_17) [some 0, none, some 1] rfl (by decide +kernel) rfl rfl (Nat.le_of_ble_eq_true rfl) dX6_takesOperand_98 (fun hz_18 => ?_)
        have eq1 := Option.some.inj hf
        obtain ⟨ee1, eq2⟩ := Prod.mk.inj eq1
        obtain ⟨ee2, eq3⟩ := Prod.mk.inj eq2
        obtain ⟨ee3, eq4⟩ := Prod.mk.inj eq3
        obtain ⟨ee4, eq5⟩ := Prod.mk.inj eq4
        obtain ⟨ee5, eq6⟩ := Prod.mk.inj eq5
        obtain ⟨ee6, ee7⟩ := Prod.mk.inj eq6
        subst ee1
        subst ee2
        subst ee3
        subst ee4
        subst ee5
        subst ee6
        subst ee7
        exact z_iret F rfl (hz_18 _ _ rfl rfl) rfl rfl dX6_takesOperand_101
      · replace hf := zif_f hf hc_13
        by_cases hc_19 : x1 = 97
        · replace hf := zif_t hf hc_19
          refine z_lookup (off := 75) F 76 dX6_takesOperand_1 (by decide +kernel) (by rw [hc_19]; decide +kernel) (by decide) ?_
          refine z_aload_n F 0 dX6_takesOperand_76 rfl rfl ?_
          refine z_iload_n F 1 dX6_takesOperand_77 rfl rfl ?_
          refine z_ineg F dX6_takesOperand_78 ?_
          obtain ⟨length__20, steps_21, hg, hf⟩ := zb2_some hf
          refine z_callVm (rest := []) F 6 (c_LawReader_addStep (xL X) G a_this a_steps a_waiting length_ waits open_ wantsOperand isAsked steps (-x1) length__20 steps_21 hg) hy_X6_addStep ml_X6_62 hd_X6_addStep ⟨by omega, by omega⟩ rfl [0, 1] rfl rfl 0 rfl rfl (w_LawReader_takesOperand G a_this a_steps a_waiting length__20 waits open_ wantsOperand isAsked steps_21 waiting) [some 0, some 1, none] rfl (by decide +kernel) rfl rfl (Nat.le_of_ble_eq_true rfl) dX6_takesOperand_79 (fun hz_22 => ?_)
          refine z_aload_n F 0 dX6_takesOperand_82 rfl rfl ?_
          refine z_iconst F (0) dX6_takesOperand_83 rfl ?_
          refine z_put F 0 6 5 (w_LawReader_takesOperand G a_this a_steps a_waiting length__20 waits open_ 0 isAsked steps_21 waiting) inlX6 tyX6 tyX6_ok nmX6 rfl rfl (by decide) fl_X6_34 rfl rfl rfl (Nat.le_of_ble_eq_true rfl) rfl dX6_takesOperand_84 ?_
          refine z_iconst F (1) dX6_takesOperand_87 rfl ?_
          have eq1 := Option.some.inj hf
          obtain ⟨ee1, eq2⟩ := Prod.mk.inj eq1
          obtain ⟨ee2, eq3⟩ := Prod.mk.inj eq2
          obtain ⟨ee3, eq4⟩ := Prod.mk.inj eq3
          obtain ⟨ee4, eq5⟩ := Prod.mk.inj eq4
          obtain ⟨ee5, eq6⟩ := Prod.mk.inj eq5
          obtain ⟨ee6, ee7⟩ := Prod.mk.inj eq6
          subst ee1
          subst ee2
          subst ee3
          subst ee4
          subst ee5
          subst ee6
          subst ee7
          exact z_iret F rfl rfl rfl rfl dX6_takesOperand_88
        · replace hf := zif_f hf hc_19
          by_cases hc_23 : x1 = 98
          · replace hf := zif_t hf hc_23
            refine z_lookup (off := 75) F 76 dX6_takesOperand_1 (by decide +kernel) (by rw [hc_23]; decide +kernel) (by decide) ?_
            refine z_aload_n F 0 dX6_takesOperand_76 rfl rfl ?_
            refine z_iload_n F 1 dX6_takesOperand_77 rfl rfl ?_
            refine z_ineg F dX6_takesOperand_78 ?_
            obtain ⟨length__24, steps_25, hg, hf⟩ := zb2_some hf
            refine z_callVm (rest := []) F 6 (c_LawReader_addStep (xL X) G a_this a_steps a_waiting length_ waits open_ wantsOperand isAsked steps (-x1) length__24 steps_25 hg) hy_X6_addStep ml_X6_62 hd_X6_addStep ⟨by omega, by omega⟩ rfl [0, 1] rfl rfl 0 rfl rfl (w_LawReader_takesOperand G a_this a_steps a_waiting length__24 waits open_ wantsOperand isAsked steps_25 waiting) [some 0, some 1, none] rfl (by decide +kernel) rfl rfl (Nat.le_of_ble_eq_true rfl) dX6_takesOperand_79 (fun hz_26 => ?_)
            refine z_aload_n F 0 dX6_takesOperand_82 rfl rfl ?_
            refine z_iconst F (0) dX6_takesOperand_83 rfl ?_
            refine z_put F 0 6 5 (w_LawReader_takesOperand G a_this a_steps a_waiting length__24 waits open_ 0 isAsked steps_25 waiting) inlX6 tyX6 tyX6_ok nmX6 rfl rfl (by decide) fl_X6_34 rfl rfl rfl (Nat.le_of_ble_eq_true rfl) rfl dX6_takesOperand_84 ?_
            refine z_iconst F (1) dX6_takesOperand_87 rfl ?_
            have eq1 := Option.some.inj hf
            obtain ⟨ee1, eq2⟩ := Prod.mk.inj eq1
            obtain ⟨ee2, eq3⟩ := Prod.mk.inj eq2
            obtain ⟨ee3, eq4⟩ := Prod.mk.inj eq3
            obtain ⟨ee4, eq5⟩ := Prod.mk.inj eq4
            obtain ⟨ee5, eq6⟩ := Prod.mk.inj eq5
            obtain ⟨ee6, ee7⟩ := Prod.mk.inj eq6
            subst ee1
            subst ee2
            subst ee3
            subst ee4
            subst ee5
            subst ee6
            subst ee7
            exact z_iret F rfl rfl rfl rfl dX6_takesOperand_88
          · replace hf := zif_f hf hc_23
            by_cases hc_27 : x1 = 103
            · replace hf := zif_t hf hc_27
              refine z_lookup (off := 75) F 76 dX6_takesOperand_1 (by decide +kernel) (by rw [hc_27]; decide +kernel) (by decide) ?_
              refine z_aload_n F 0 dX6_takesOperand_76 rfl rfl ?_
              refine z_iload_n F 1 dX6_takesOperand_77 rfl rfl ?_
              refine z_ineg F dX6_takesOperand_78 ?_
              obtain ⟨length__28, steps_29, hg, hf⟩ := zb2_some hf
              refine z_callVm (rest := []) F 6 (c_LawReader_addStep (xL X) G a_this a_steps a_waiting length_ waits open_ wantsOperand isAsked steps (-x1) length__28 steps_29 hg) hy_X6_addStep ml_X6_62 hd_X6_addStep ⟨by omega, by omega⟩ rfl [0, 1] rfl rfl 0 rfl rfl (w_LawReader_takesOperand G a_this a_steps a_waiting length__28 waits open_ wantsOperand isAsked steps_29 waiting) [some 0, some 1, none] rfl (by decide +kernel) rfl rfl (Nat.le_of_ble_eq_true rfl) dX6_takesOperand_79 (fun hz_30 => ?_)
              refine z_aload_n F 0 dX6_takesOperand_82 rfl rfl ?_
              refine z_iconst F (0) dX6_takesOperand_83 rfl ?_
              refine z_put F 0 6 5 (w_LawReader_takesOperand G a_this a_steps a_waiting length__28 waits open_ 0 isAsked steps_29 waiting) inlX6 tyX6 tyX6_ok nmX6 rfl rfl (by decide) fl_X6_34 rfl rfl rfl (Nat.le_of_ble_eq_true rfl) rfl dX6_takesOperand_84 ?_
              refine z_iconst F (1) dX6_takesOperand_87 rfl ?_
              have eq1 := Option.some.inj hf
              obtain ⟨ee1, eq2⟩ := Prod.mk.inj eq1
              obtain ⟨ee2, eq3⟩ := Prod.mk.inj eq2
              obtain ⟨ee3, eq4⟩ := Prod.mk.inj eq3
              obtain ⟨ee4, eq5⟩ := Prod.mk.inj eq4
              obtain ⟨ee5, eq6⟩ := Prod.mk.inj eq5
              obtain ⟨ee6, ee7⟩ := Prod.mk.inj eq6
              subst ee1
              subst ee2
              subst ee3
              subst ee4
              subst ee5
              subst ee6
              subst ee7
              exact z_iret F rfl rfl rfl rfl dX6_takesOperand_88
            · replace hf := zif_f hf hc_27
              by_cases hc_31 : x1 = 112
              · replace hf := zif_t hf hc_31
                refine z_lookup (off := 75) F 76 dX6_takesOperand_1 (by decide +kernel) (by rw [hc_31]; decide +kernel) (by decide) ?_
                refine z_aload_n F 0 dX6_takesOperand_76 rfl rfl ?_
                refine z_iload_n F 1 dX6_takesOperand_77 rfl rfl ?_
                refine z_ineg F dX6_takesOperand_78 ?_
                obtain ⟨length__32, steps_33, hg, hf⟩ := zb2_some hf
                refine z_callVm (rest := []) F 6 (c_LawReader_addStep (xL X) G a_this a_steps a_waiting length_ waits open_ wantsOperand isAsked steps (-x1) length__32 steps_33 hg) hy_X6_addStep ml_X6_62 hd_X6_addStep ⟨by omega, by omega⟩ rfl [0, 1] rfl rfl 0 rfl rfl (w_LawReader_takesOperand G a_this a_steps a_waiting length__32 waits open_ wantsOperand isAsked steps_33 waiting) [some 0, some 1, none] rfl (by decide +kernel) rfl rfl (Nat.le_of_ble_eq_true rfl) dX6_takesOperand_79 (fun hz_34 => ?_)
                refine z_aload_n F 0 dX6_takesOperand_82 rfl rfl ?_
                refine z_iconst F (0) dX6_takesOperand_83 rfl ?_
                refine z_put F 0 6 5 (w_LawReader_takesOperand G a_this a_steps a_waiting length__32 waits open_ 0 isAsked steps_33 waiting) inlX6 tyX6 tyX6_ok nmX6 rfl rfl (by decide) fl_X6_34 rfl rfl rfl (Nat.le_of_ble_eq_true rfl) rfl dX6_takesOperand_84 ?_
                refine z_iconst F (1) dX6_takesOperand_87 rfl ?_
                have eq1 := Option.some.inj hf
                obtain ⟨ee1, eq2⟩ := Prod.mk.inj eq1
                obtain ⟨ee2, eq3⟩ := Prod.mk.inj eq2
                obtain ⟨ee3, eq4⟩ := Prod.mk.inj eq3
                obtain ⟨ee4, eq5⟩ := Prod.mk.inj eq4
                obtain ⟨ee5, eq6⟩ := Prod.mk.inj eq5
                obtain ⟨ee6, ee7⟩ := Prod.mk.inj eq6
                subst ee1
                subst ee2
                subst ee3
                subst ee4
                subst ee5
                subst ee6
                subst ee7
                exact z_iret F rfl rfl rfl rfl dX6_takesOperand_88
              · replace hf := zif_f hf hc_31
                by_cases hc_35 : x1 = 113
                · replace hf := zif_t hf hc_35
                  refine z_lookup (off := 75) F 76 dX6_takesOperand_1 (by decide +kernel) (by rw [hc_35]; decide +kernel) (by decide) ?_
                  refine z_aload_n F 0 dX6_takesOperand_76 rfl rfl ?_
                  refine z_iload_n F 1 dX6_takesOperand_77 rfl rfl ?_
                  refine z_ineg F dX6_takesOperand_78 ?_
                  obtain ⟨length__36, steps_37, hg, hf⟩ := zb2_some hf
                  refine z_callVm (rest := []) F 6 (c_LawReader_addStep (xL X) G a_this a_steps a_waiting length_ waits open_ wantsOperand isAsked steps (-x1) length__36 steps_37 hg) hy_X6_addStep ml_X6_62 hd_X6_addStep ⟨by omega, by omega⟩ rfl [0, 1] rfl rfl 0 rfl rfl (w_LawReader_takesOperand G a_this a_steps a_waiting length__36 waits open_ wantsOperand isAsked steps_37 waiting) [some 0, some 1, none] rfl (by decide +kernel) rfl rfl (Nat.le_of_ble_eq_true rfl) dX6_takesOperand_79 (fun hz_38 => ?_)
                  refine z_aload_n F 0 dX6_takesOperand_82 rfl rfl ?_
                  refine z_iconst F (0) dX6_takesOperand_83 rfl ?_
                  refine z_put F 0 6 5 (w_LawReader_takesOperand G a_this a_steps a_waiting length__36 waits open_ 0 isAsked steps_37 waiting) inlX6 tyX6 tyX6_ok nmX6 rfl rfl (by decide) fl_X6_34 rfl rfl rfl (Nat.le_of_ble_eq_true rfl) rfl dX6_takesOperand_84 ?_
                  refine z_iconst F (1) dX6_takesOperand_87 rfl ?_
                  have eq1 := Option.some.inj hf
                  obtain ⟨ee1, eq2⟩ := Prod.mk.inj eq1
                  obtain ⟨ee2, eq3⟩ := Prod.mk.inj eq2
                  obtain ⟨ee3, eq4⟩ := Prod.mk.inj eq3
                  obtain ⟨ee4, eq5⟩ := Prod.mk.inj eq4
                  obtain ⟨ee5, eq6⟩ := Prod.mk.inj eq5
                  obtain ⟨ee6, ee7⟩ := Prod.mk.inj eq6
                  subst ee1
                  subst ee2
                  subst ee3
                  subst ee4
                  subst ee5
                  subst ee6
                  subst ee7
                  exact z_iret F rfl rfl rfl rfl dX6_takesOperand_88
                · replace hf := zif_f hf hc_35
                  refine z_lookup (off := 101) F 102 dX6_takesOperand_1 (by decide +kernel) (zlk x1 [(33, 88), (40, 88), (45, 94), (97, 75), (98, 75), (103, 75), (112, 75), (113, 75)] (101) (List.forall_mem_cons.mpr ⟨zne hc_1 (c := 33) (k := 33) rfl, List.forall_mem_cons.mpr ⟨zne hc_7 (c := 40) (k := 40) rfl, List.forall_mem_cons.mpr ⟨zne hc_13 (c := 45) (k := 45) rfl, List.forall_mem_cons.mpr ⟨zne hc_19 (c := 97) (k := 97) rfl, List.forall_mem_cons.mpr ⟨zne hc_23 (c := 98) (k := 98) rfl, List.forall_mem_cons.mpr ⟨zne hc_27 (c := 103) (k := 103) rfl, List.forall_mem_cons.mpr ⟨zne hc_31 (c := 112) (k := 112) rfl, List.forall_mem_cons.mpr ⟨zne hc_35 (c := 113) (k := 113) rfl, fun _ h => absurd h List.not_mem_nil⟩⟩⟩⟩⟩⟩⟩⟩)) (by decide) ?_
                  refine z_iconst F (0) dX6_takesOperand_102 rfl ?_
                  have eq1 := Option.some.inj hf
                  obtain ⟨ee1, eq2⟩ := Prod.mk.inj eq1
                  obtain ⟨ee2, eq3⟩ := Prod.mk.inj eq2
                  obtain ⟨ee3, eq4⟩ := Prod.mk.inj eq3
                  obtain ⟨ee4, eq5⟩ := Prod.mk.inj eq4
                  obtain ⟨ee5, eq6⟩ := Prod.mk.inj eq5
                  obtain ⟨ee6, ee7⟩ := Prod.mk.inj eq6
                  subst ee1
                  subst ee2
                  subst ee3
                  subst ee4
                  subst ee5
                  subst ee6
                  subst ee7
                  exact z_iret F rfl rfl rfl rfl dX6_takesOperand_103

abbrev w_LawReader_rankOf (G : zG) : va_W := []
def f_LawReader_rankOf (x0 : Int32) : Int32 := (if x0 = 33 then 6 else (if x0 = 37 then 5 else (if x0 = 38 then 2 else (if x0 = 42 then 5 else (if x0 = 43 then 4 else (if x0 = 45 then 4 else (if x0 = 47 then 5 else (if x0 = 60 then 3 else (if x0 = 61 then 3 else (if x0 = 62 then 3 else (if x0 = 124 then 1 else (if x0 = 126 then 6 else 0))))))))))))
set_option maxRecDepth 100000 in
set_option maxHeartbeats 4000000 in
theorem c_LawReader_rankOf (l : Launch) (G : zG) (x0 : Int32) (r_ : Int32) (hf : f_LawReader_rankOf x0 = r_) : zM l yX6_rankOf cX6_rankOf 1 (some .int) 0 0 G [.int x0] (w_LawReader_rankOf G) (some (.int r_)) (w_LawReader_rankOf G) := by
  refine zM.of [(0, .int x0)] (own := RX6) rfl (by decide +kernel) (Nat.le_of_ble_eq_true rfl) rfl rfl fun X hX F => ?_
  subst hX
  replace hf := (f_LawReader_rankOf.eq_1 ..).symm.trans hf
  refine z_iload_n F 0 dX6_rankOf_0 rfl rfl ?_
  by_cases hc_1 : x0 = 33
  · replace hf := zif_t hf hc_1
    refine z_lookup (off := 117) F 118 dX6_rankOf_1 (by decide +kernel) (by rw [hc_1]; decide +kernel) (by decide) ?_
    refine z_bipush F (6) dX6_rankOf_118 rfl ?_
    subst hf
    exact z_iret F rfl rfl rfl rfl dX6_rankOf_120
  · replace hf := zif_f hf hc_1
    by_cases hc_2 : x0 = 37
    · replace hf := zif_t hf hc_2
      refine z_lookup (off := 115) F 116 dX6_rankOf_1 (by decide +kernel) (by rw [hc_2]; decide +kernel) (by decide) ?_
      refine z_iconst F (5) dX6_rankOf_116 rfl ?_
      subst hf
      exact z_iret F rfl rfl rfl rfl dX6_rankOf_117
    · replace hf := zif_f hf hc_2
      by_cases hc_3 : x0 = 38
      · replace hf := zif_t hf hc_3
        refine z_lookup (off := 109) F 110 dX6_rankOf_1 (by decide +kernel) (by rw [hc_3]; decide +kernel) (by decide) ?_
        refine z_iconst F (2) dX6_rankOf_110 rfl ?_
        subst hf
        exact z_iret F rfl rfl rfl rfl dX6_rankOf_111
      · replace hf := zif_f hf hc_3
        by_cases hc_4 : x0 = 42
        · replace hf := zif_t hf hc_4
          refine z_lookup (off := 115) F 116 dX6_rankOf_1 (by decide +kernel) (by rw [hc_4]; decide +kernel) (by decide) ?_
          refine z_iconst F (5) dX6_rankOf_116 rfl ?_
          subst hf
          exact z_iret F rfl rfl rfl rfl dX6_rankOf_117
        · replace hf := zif_f hf hc_4
          by_cases hc_5 : x0 = 43
          · replace hf := zif_t hf hc_5
            refine z_lookup (off := 113) F 114 dX6_rankOf_1 (by decide +kernel) (by rw [hc_5]; decide +kernel) (by decide) ?_
            refine z_iconst F (4) dX6_rankOf_114 rfl ?_
            subst hf
            exact z_iret F rfl rfl rfl rfl dX6_rankOf_115
          · replace hf := zif_f hf hc_5
            by_cases hc_6 : x0 = 45
            · replace hf := zif_t hf hc_6
              refine z_lookup (off := 113) F 114 dX6_rankOf_1 (by decide +kernel) (by rw [hc_6]; decide +kernel) (by decide) ?_
              refine z_iconst F (4) dX6_rankOf_114 rfl ?_
              subst hf
              exact z_iret F rfl rfl rfl rfl dX6_rankOf_115
            · replace hf := zif_f hf hc_6
              by_cases hc_7 : x0 = 47
              · replace hf := zif_t hf hc_7
                refine z_lookup (off := 115) F 116 dX6_rankOf_1 (by decide +kernel) (by rw [hc_7]; decide +kernel) (by decide) ?_
                refine z_iconst F (5) dX6_rankOf_116 rfl ?_
                subst hf
                exact z_iret F rfl rfl rfl rfl dX6_rankOf_117
              · replace hf := zif_f hf hc_7
                by_cases hc_8 : x0 = 60
                · replace hf := zif_t hf hc_8
                  refine z_lookup (off := 111) F 112 dX6_rankOf_1 (by decide +kernel) (by rw [hc_8]; decide +kernel) (by decide) ?_
                  refine z_iconst F (3) dX6_rankOf_112 rfl ?_
                  subst hf
                  exact z_iret F rfl rfl rfl rfl dX6_rankOf_113
                · replace hf := zif_f hf hc_8
                  by_cases hc_9 : x0 = 61
                  · replace hf := zif_t hf hc_9
                    refine z_lookup (off := 111) F 112 dX6_rankOf_1 (by decide +kernel) (by rw [hc_9]; decide +kernel) (by decide) ?_
                    refine z_iconst F (3) dX6_rankOf_112 rfl ?_
                    subst hf
                    exact z_iret F rfl rfl rfl rfl dX6_rankOf_113
                  · replace hf := zif_f hf hc_9
                    by_cases hc_10 : x0 = 62
                    · replace hf := zif_t hf hc_10
                      refine z_lookup (off := 111) F 112 dX6_rankOf_1 (by decide +kernel) (by rw [hc_10]; decide +kernel) (by decide) ?_
                      refine z_iconst F (3) dX6_rankOf_112 rfl ?_
                      subst hf
                      exact z_iret F rfl rfl rfl rfl dX6_rankOf_113
                    · replace hf := zif_f hf hc_10
                      by_cases hc_11 : x0 = 124
                      · replace hf := zif_t hf hc_11
                        refine z_lookup (off := 107) F 108 dX6_rankOf_1 (by decide +kernel) (by rw [hc_11]; decide +kernel) (by decide) ?_
                        refine z_iconst F (1) dX6_rankOf_108 rfl ?_
                        subst hf
                        exact z_iret F rfl rfl rfl rfl dX6_rankOf_109
                      · replace hf := zif_f hf hc_11
                        by_cases hc_12 : x0 = 126
                        · replace hf := zif_t hf hc_12
                          refine z_lookup (off := 117) F 118 dX6_rankOf_1 (by decide +kernel) (by rw [hc_12]; decide +kernel) (by decide) ?_
                          refine z_bipush F (6) dX6_rankOf_118 rfl ?_
                          subst hf
                          exact z_iret F rfl rfl rfl rfl dX6_rankOf_120
                        · replace hf := zif_f hf hc_12
                          refine z_lookup (off := 120) F 121 dX6_rankOf_1 (by decide +kernel) (zlk x0 [(33, 117), (37, 115), (38, 109), (42, 115), (43, 113), (45, 113), (47, 115), (60, 111), (61, 111), (62, 111), (124, 107), (126, 117)] (120) (List.forall_mem_cons.mpr ⟨zne hc_1 (c := 33) (k := 33) rfl, List.forall_mem_cons.mpr ⟨zne hc_2 (c := 37) (k := 37) rfl, List.forall_mem_cons.mpr ⟨zne hc_3 (c := 38) (k := 38) rfl, List.forall_mem_cons.mpr ⟨zne hc_4 (c := 42) (k := 42) rfl, List.forall_mem_cons.mpr ⟨zne hc_5 (c := 43) (k := 43) rfl, List.forall_mem_cons.mpr ⟨zne hc_6 (c := 45) (k := 45) rfl, List.forall_mem_cons.mpr ⟨zne hc_7 (c := 47) (k := 47) rfl, List.forall_mem_cons.mpr ⟨zne hc_8 (c := 60) (k := 60) rfl, List.forall_mem_cons.mpr ⟨zne hc_9 (c := 61) (k := 61) rfl, List.forall_mem_cons.mpr ⟨zne hc_10 (c := 62) (k := 62) rfl, List.forall_mem_cons.mpr ⟨zne hc_11 (c := 124) (k := 124) rfl, List.forall_mem_cons.mpr ⟨zne hc_12 (c := 126) (k := 126) rfl, fun _ h => absurd h List.not_mem_nil⟩⟩⟩⟩⟩⟩⟩⟩⟩⟩⟩⟩)) (by decide) ?_
                          refine z_iconst F (0) dX6_rankOf_121 rfl ?_
                          subst hf
                          exact z_iret F rfl rfl rfl rfl dX6_rankOf_122

abbrev w_LawReader_releaseDownTo (G : zG) (a_this : Nat) (a_steps : Nat) (a_waiting : Nat) (length_ : Int32) (waits : Int32) (open_ : Int32) (wantsOperand : Int32) (isAsked : Int32) (steps : Nat → Int32) (waiting : Nat → Int32) : va_W := [(a_this, cO 6 [.ref a_steps, .int length_, .ref a_waiting, .int waits, .int open_, .int wantsOperand, .int isAsked]), (a_steps, cI G 121 steps), (a_waiting, cI G 120 waiting)]
def f_LawReader_releaseDownTo_L2 (waiting : Nat → Int32) (v1 : Int32) : Nat → Int32 → Int32 → (Nat → Int32) → Int32 → Option (Int32 × Int32 × (Nat → Int32) × Int32)
  | 0, _, _, _, _ => none
  | fuel + 1, length_, waits, steps, v2 => (if waits ≤ 0 then (some (length_, waits, steps, v2)) else (zg waiting 120 (waits - (1 : Int32)) fun v_1 => (if (f_LawReader_rankOf v_1) < v1 then (some (length_, waits, steps, v2)) else (zg waiting 120 (waits - (1 : Int32)) fun v_3 => (zb2 (f_LawReader_addStep length_ steps (-v_3)) fun length__4 steps_5 => (f_LawReader_releaseDownTo_L2 waiting v1 fuel length__4 (waits - (1 : Int32)) steps_5 (v2 + 1)))))))
def f_LawReader_releaseDownTo (length_ : Int32) (waits : Int32) (steps : Nat → Int32) (waiting : Nat → Int32) (x1 : Int32) : Option (Int32 × Int32 × Int32 × (Nat → Int32)) := (zb4 (f_LawReader_releaseDownTo_L2 waiting x1 FU length_ waits steps 0) fun length__7 waits_8 steps_9 v2_10 => (some (v2_10, length__7, waits_8, steps_9)))
set_option maxRecDepth 100000 in
set_option maxHeartbeats 4000000 in
theorem l_LawReader_releaseDownTo_2 {X : zX} (G : zG) (a_this : Nat) (a_steps : Nat) (a_waiting : Nat) (open_ : Int32) (wantsOperand : Int32) (isAsked : Int32) (waiting : Nat → Int32) (v1 : Int32) {v0 : Option Value} {w0 : va_W} (F : zF X G cX6_releaseDownTo RX6 3 (some .int) 1 21 v0 w0) (e_length_ : Int32) (e_waits : Int32) (e_steps : Nat → Int32) (e_v2 : Int32) (hk : Z X G 3 (w_LawReader_releaseDownTo G a_this a_steps a_waiting e_length_ e_waits open_ wantsOperand isAsked e_steps waiting) [(2, .int e_v2)] 57 []) :
    ∀ (fuel : Nat) (length_ : Int32) (waits : Int32) (steps : Nat → Int32) (v2 : Int32), f_LawReader_releaseDownTo_L2 waiting v1 fuel length_ waits steps v2 = some (e_length_, e_waits, e_steps, e_v2) → Z X G 3 (w_LawReader_releaseDownTo G a_this a_steps a_waiting length_ waits open_ wantsOperand isAsked steps waiting) [(0, .ref a_this), (1, .int v1), (2, .int v2)] 2 [] := by
  intro fuel
  induction fuel with
  | zero => intro length_ waits steps v2 hf; exact absurd ((f_LawReader_releaseDownTo_L2.eq_1 ..).symm.trans hf) (fun h => by cases h)
  | succ fuel ih =>
    intro length_ waits steps v2 hf
    replace hf := (f_LawReader_releaseDownTo_L2.eq_2 ..).symm.trans hf
    refine z_aload_n F 0 dX6_releaseDownTo_2 rfl rfl ?_
    refine z_get F 0 6 3 inlX6 rfl rfl (by decide) fl_X6_28 rfl dX6_releaseDownTo_3 ?_
    refine z_if_le F 57 dX6_releaseDownTo_6 (by decide) hf (fun hf _ => ?_) (fun hf _ => ?_)
    · have eq1 := Option.some.inj hf
      obtain ⟨ee1, eq2⟩ := Prod.mk.inj eq1
      obtain ⟨ee2, eq3⟩ := Prod.mk.inj eq2
      obtain ⟨ee3, ee4⟩ := Prod.mk.inj eq3
      subst ee1
      subst ee2
      subst ee3
      subst ee4
      exact z_sub [2] rfl hk
    · refine z_aload_n F 0 dX6_releaseDownTo_9 rfl rfl ?_
      refine z_get F 0 6 2 inlX6 rfl rfl (by decide) fl_X6_15 rfl dX6_releaseDownTo_10 ?_
      refine z_aload_n F 0 dX6_releaseDownTo_13 rfl rfl ?_
      refine z_get F 0 6 3 inlX6 rfl rfl (by decide) fl_X6_28 rfl dX6_releaseDownTo_14 ?_
      refine z_iconst F (1) dX6_releaseDownTo_17 rfl ?_
      refine z_isub F dX6_releaseDownTo_18 ?_
      refine z_iald F 2 rfl hf dX6_releaseDownTo_19 (fun v_1 hf => ?_)
      refine z_callSm (rest := []) F (c_LawReader_rankOf (xL X) G v_1 _ rfl) hy_X6_rankOf ml_X6_88 hd_X6_rankOf ⟨by omega, by omega⟩ rfl [] rfl rfl (w_LawReader_releaseDownTo G a_this a_steps a_waiting length_ waits open_ wantsOperand isAsked steps waiting) [none, none, none] rfl (by decide +kernel) rfl rfl (Nat.le_of_ble_eq_true rfl) dX6_releaseDownTo_20 (fun hz_2 => ?_)
      refine z_iload_n F 1 dX6_releaseDownTo_23 rfl rfl ?_
      refine z_icmp_lt F 57 dX6_releaseDownTo_24 (by decide) hf (fun hf _ => ?_) (fun hf _ => ?_)
      · have eq1 := Option.some.inj hf
        obtain ⟨ee1, eq2⟩ := Prod.mk.inj eq1
        obtain ⟨ee2, eq3⟩ := Prod.mk.inj eq2
        obtain ⟨ee3, ee4⟩ := Prod.mk.inj eq3
        subst ee1
        subst ee2
        subst ee3
        subst ee4
        exact z_sub [2] rfl hk
      · refine z_aload_n F 0 dX6_releaseDownTo_27 rfl rfl ?_
        refine z_dup F rfl dX6_releaseDownTo_28 ?_
        refine z_get F 0 6 3 inlX6 rfl rfl (by decide) fl_X6_28 rfl dX6_releaseDownTo_29 ?_
        refine z_iconst F (1) dX6_releaseDownTo_32 rfl ?_
        refine z_isub F dX6_releaseDownTo_33 ?_
        refine z_put F 0 6 3 (w_LawReader_releaseDownTo G a_this a_steps a_waiting length_ (waits - (1 : Int32)) open_ wantsOperand isAsked steps waiting) inlX6 tyX6 tyX6_ok nmX6 rfl rfl (by decide) fl_X6_28 rfl rfl rfl (Nat.le_of_ble_eq_true rfl) rfl dX6_releaseDownTo_34 ?_
        refine z_aload_n F 0 dX6_releaseDownTo_37 rfl rfl ?_
        refine z_aload_n F 0 dX6_releaseDownTo_38 rfl rfl ?_
        refine z_get F 0 6 2 inlX6 rfl rfl (by decide) fl_X6_15 rfl dX6_releaseDownTo_39 ?_
        refine z_aload_n F 0 dX6_releaseDownTo_42 rfl rfl ?_
        refine z_get F 0 6 3 inlX6 rfl rfl (by decide) fl_X6_28 rfl dX6_releaseDownTo_43 ?_
        refine z_iald F 2 rfl hf dX6_releaseDownTo_46 (fun v_3 hf => ?_)
        refine z_ineg F dX6_releaseDownTo_47 ?_
        obtain ⟨length__4, steps_5, hg, hf⟩ := zb2_some hf
        refine z_callVm (rest := []) F 6 (c_LawReader_addStep (xL X) G a_this a_steps a_waiting length_ (waits - (1 : Int32)) open_ wantsOperand isAsked steps (-v_3) length__4 steps_5 hg) hy_X6_addStep ml_X6_62 hd_X6_addStep ⟨by omega, by omega⟩ rfl [0, 1] rfl rfl 0 rfl rfl (w_LawReader_releaseDownTo G a_this a_steps a_waiting length__4 (waits - (1 : Int32)) open_ wantsOperand isAsked steps_5 waiting) [some 0, some 1, none] rfl (by decide +kernel) rfl rfl (Nat.le_of_ble_eq_true rfl) dX6_releaseDownTo_48 (fun hz_6 => ?_)
        refine z_iinc F [(2, .int (v2 + 1)), (0, .ref a_this), (1, .int v1)] dX6_releaseDownTo_51 2 rfl rfl (by decide) rfl ?_
        refine z_goto F 2 dX6_releaseDownTo_54 (by decide) ?_
        exact z_sub [1, 2, 0] rfl (ih length__4 (waits - (1 : Int32)) steps_5 (v2 + 1) hf)

set_option maxRecDepth 100000 in
set_option maxHeartbeats 4000000 in
theorem c_LawReader_releaseDownTo (l : Launch) (G : zG) (a_this : Nat) (a_steps : Nat) (a_waiting : Nat) (length_ : Int32) (waits : Int32) (open_ : Int32) (wantsOperand : Int32) (isAsked : Int32) (steps : Nat → Int32) (waiting : Nat → Int32) (x1 : Int32) (r_ : Int32) (o_length_ : Int32) (o_waits : Int32) (o_steps : Nat → Int32) (hf : f_LawReader_releaseDownTo length_ waits steps waiting x1 = some (r_, o_length_, o_waits, o_steps)) : zM l yX6_releaseDownTo cX6_releaseDownTo 3 (some .int) 1 21 G [.ref a_this, .int x1] (w_LawReader_releaseDownTo G a_this a_steps a_waiting length_ waits open_ wantsOperand isAsked steps waiting) (some (.int r_)) (w_LawReader_releaseDownTo G a_this a_steps a_waiting o_length_ o_waits open_ wantsOperand isAsked o_steps waiting) := by
  refine zM.of [(0, .ref a_this), (1, .int x1)] (own := RX6) rfl (by decide +kernel) (Nat.le_of_ble_eq_true rfl) rfl rfl fun X hX F => ?_
  subst hX
  replace hf := (f_LawReader_releaseDownTo.eq_1 ..).symm.trans hf
  refine z_iconst F (0) dX6_releaseDownTo_0 rfl ?_
  refine z_istore_n F [(2, .int 0), (0, .ref a_this), (1, .int x1)] dX6_releaseDownTo_1 rfl (by decide) rfl ?_
  obtain ⟨length__7, waits_8, steps_9, v2_10, hg, hf⟩ := zb4_some hf
  refine z_sub [1, 2, 0] rfl ?_
  refine l_LawReader_releaseDownTo_2 G a_this a_steps a_waiting open_ wantsOperand isAsked waiting x1 F length__7 waits_8 steps_9 v2_10 ?_ FU length_ waits steps 0 hg
  refine z_iload_n F 0 dX6_releaseDownTo_57 rfl rfl ?_
  have eq1 := Option.some.inj hf
  obtain ⟨ee1, eq2⟩ := Prod.mk.inj eq1
  obtain ⟨ee2, eq3⟩ := Prod.mk.inj eq2
  obtain ⟨ee3, ee4⟩ := Prod.mk.inj eq3
  subst ee1
  subst ee2
  subst ee3
  subst ee4
  exact z_iret F rfl rfl rfl rfl dX6_releaseDownTo_58

abbrev w_LawReader_takesClosing (G : zG) (a_this : Nat) (a_steps : Nat) (a_waiting : Nat) (length_ : Int32) (waits : Int32) (open_ : Int32) (wantsOperand : Int32) (isAsked : Int32) (steps : Nat → Int32) (waiting : Nat → Int32) : va_W := [(a_this, cO 6 [.ref a_steps, .int length_, .ref a_waiting, .int waits, .int open_, .int wantsOperand, .int isAsked]), (a_steps, cI G 121 steps), (a_waiting, cI G 120 waiting)]
def f_LawReader_takesClosing (length_ : Int32) (waits : Int32) (open_ : Int32) (steps : Nat → Int32) (waiting : Nat → Int32) : Option (Int32 × Int32 × Int32 × Int32 × (Nat → Int32)) := (if open_ = 0 then (some (0, length_, waits, open_, steps)) else (zb4 (f_LawReader_releaseDownTo length_ waits steps waiting 1) fun r_1 length__2 waits_3 steps_4 => (if waits_3 ≤ 0 then (some (1, length__2, waits_3, (open_ - (1 : Int32)), steps_4)) else (some (1, length__2, (waits_3 - (1 : Int32)), (open_ - (1 : Int32)), steps_4)))))
set_option maxRecDepth 100000 in
set_option maxHeartbeats 4000000 in
theorem c_LawReader_takesClosing (l : Launch) (G : zG) (a_this : Nat) (a_steps : Nat) (a_waiting : Nat) (length_ : Int32) (waits : Int32) (open_ : Int32) (wantsOperand : Int32) (isAsked : Int32) (steps : Nat → Int32) (waiting : Nat → Int32) (r_ : Int32) (o_length_ : Int32) (o_waits : Int32) (o_open_ : Int32) (o_steps : Nat → Int32) (hf : f_LawReader_takesClosing length_ waits open_ steps waiting = some (r_, o_length_, o_waits, o_open_, o_steps)) : zM l yX6_takesClosing cX6_takesClosing 1 (some .boolean) 2 43 G [.ref a_this] (w_LawReader_takesClosing G a_this a_steps a_waiting length_ waits open_ wantsOperand isAsked steps waiting) (some (.int r_)) (w_LawReader_takesClosing G a_this a_steps a_waiting o_length_ o_waits o_open_ wantsOperand isAsked o_steps waiting) := by
  refine zM.of [(0, .ref a_this)] (own := RX6) rfl (by decide +kernel) (Nat.le_of_ble_eq_true rfl) rfl rfl fun X hX F => ?_
  subst hX
  replace hf := (f_LawReader_takesClosing.eq_1 ..).symm.trans hf
  refine z_aload_n F 0 dX6_takesClosing_0 rfl rfl ?_
  refine z_get F 0 6 4 inlX6 rfl rfl (by decide) fl_X6_31 rfl dX6_takesClosing_1 ?_
  refine z_if_ne F 9 dX6_takesClosing_4 (by decide) hf (fun hf _ => ?_) (fun hf _ => ?_)
  · refine z_aload_n F 0 dX6_takesClosing_9 rfl rfl ?_
    refine z_iconst F (1) dX6_takesClosing_10 rfl ?_
    obtain ⟨r_1, length__2, waits_3, steps_4, hg, hf⟩ := zb4_some hf
    refine z_callVm (rest := []) F 6 (c_LawReader_releaseDownTo (xL X) G a_this a_steps a_waiting length_ waits open_ wantsOperand isAsked steps waiting 1 r_1 length__2 waits_3 steps_4 hg) hy_X6_releaseDownTo ml_X6_58 hd_X6_releaseDownTo ⟨by omega, by omega⟩ rfl [0, 1, 2] rfl rfl 0 rfl rfl (w_LawReader_takesClosing G a_this a_steps a_waiting length__2 waits_3 open_ wantsOperand isAsked steps_4 waiting) [some 0, some 1, some 2] rfl (by decide +kernel) rfl rfl (Nat.le_of_ble_eq_true rfl) dX6_takesClosing_11 (fun hz_5 => ?_)
    refine z_pop F rfl dX6_takesClosing_14 ?_
    refine z_aload_n F 0 dX6_takesClosing_15 rfl rfl ?_
    refine z_get F 0 6 3 inlX6 rfl rfl (by decide) fl_X6_28 rfl dX6_takesClosing_16 ?_
    refine z_if_le F 32 dX6_takesClosing_19 (by decide) hf (fun hf _ => ?_) (fun hf _ => ?_)
    · refine z_aload_n F 0 dX6_takesClosing_32 rfl rfl ?_
      refine z_dup F rfl dX6_takesClosing_33 ?_
      refine z_get F 0 6 4 inlX6 rfl rfl (by decide) fl_X6_31 rfl dX6_takesClosing_34 ?_
      refine z_iconst F (1) dX6_takesClosing_37 rfl ?_
      refine z_isub F dX6_takesClosing_38 ?_
      refine z_put F 0 6 4 (w_LawReader_takesClosing G a_this a_steps a_waiting length__2 waits_3 (open_ - (1 : Int32)) wantsOperand isAsked steps_4 waiting) inlX6 tyX6 tyX6_ok nmX6 rfl rfl (by decide) fl_X6_31 rfl rfl rfl (Nat.le_of_ble_eq_true rfl) rfl dX6_takesClosing_39 ?_
      refine z_iconst F (1) dX6_takesClosing_42 rfl ?_
      have eq1 := Option.some.inj hf
      obtain ⟨ee1, eq2⟩ := Prod.mk.inj eq1
      obtain ⟨ee2, eq3⟩ := Prod.mk.inj eq2
      obtain ⟨ee3, eq4⟩ := Prod.mk.inj eq3
      obtain ⟨ee4, ee5⟩ := Prod.mk.inj eq4
      subst ee1
      subst ee2
      subst ee3
      subst ee4
      subst ee5
      exact z_iret F rfl rfl rfl rfl dX6_takesClosing_43
    · refine z_aload_n F 0 dX6_takesClosing_22 rfl rfl ?_
      refine z_dup F rfl dX6_takesClosing_23 ?_
      refine z_get F 0 6 3 inlX6 rfl rfl (by decide) fl_X6_28 rfl dX6_takesClosing_24 ?_
      refine z_iconst F (1) dX6_takesClosing_27 rfl ?_
      refine z_isub F dX6_takesClosing_28 ?_
      refine z_put F 0 6 3 (w_LawReader_takesClosing G a_this a_steps a_waiting length__2 (waits_3 - (1 : Int32)) open_ wantsOperand isAsked steps_4 waiting) inlX6 tyX6 tyX6_ok nmX6 rfl rfl (by decide) fl_X6_28 rfl rfl rfl (Nat.le_of_ble_eq_true rfl) rfl dX6_takesClosing_29 ?_
      refine z_aload_n F 0 dX6_takesClosing_32 rfl rfl ?_
      refine z_dup F rfl dX6_takesClosing_33 ?_
      refine z_get F 0 6 4 inlX6 rfl rfl (by decide) fl_X6_31 rfl dX6_takesClosing_34 ?_
      refine z_iconst F (1) dX6_takesClosing_37 rfl ?_
      refine z_isub F dX6_takesClosing_38 ?_
      refine z_put F 0 6 4 (w_LawReader_takesClosing G a_this a_steps a_waiting length__2 (waits_3 - (1 : Int32)) (open_ - (1 : Int32)) wantsOperand isAsked steps_4 waiting) inlX6 tyX6 tyX6_ok nmX6 rfl rfl (by decide) fl_X6_31 rfl rfl rfl (Nat.le_of_ble_eq_true rfl) rfl dX6_takesClosing_39 ?_
      refine z_iconst F (1) dX6_takesClosing_42 rfl ?_
      have eq1 := Option.some.inj hf
      obtain ⟨ee1, eq2⟩ := Prod.mk.inj eq1
      obtain ⟨ee2, eq3⟩ := Prod.mk.inj eq2
      obtain ⟨ee3, eq4⟩ := Prod.mk.inj eq3
      obtain ⟨ee4, ee5⟩ := Prod.mk.inj eq4
      subst ee1
      subst ee2
      subst ee3
      subst ee4
      subst ee5
      exact z_iret F rfl rfl rfl rfl dX6_takesClosing_43
  · refine z_iconst F (0) dX6_takesClosing_7 rfl ?_
    have eq1 := Option.some.inj hf
    obtain ⟨ee1, eq2⟩ := Prod.mk.inj eq1
    obtain ⟨ee2, eq3⟩ := Prod.mk.inj eq2
    obtain ⟨ee3, eq4⟩ := Prod.mk.inj eq3
    obtain ⟨ee4, ee5⟩ := Prod.mk.inj eq4
    subst ee1
    subst ee2
    subst ee3
    subst ee4
    subst ee5
    exact z_iret F rfl rfl rfl rfl dX6_takesClosing_8

abbrev w_LawReader_takesPart (G : zG) (a_this : Nat) (a_steps : Nat) (a_waiting : Nat) (length_ : Int32) (waits : Int32) (open_ : Int32) (wantsOperand : Int32) (isAsked : Int32) (steps : Nat → Int32) (waiting : Nat → Int32) : va_W := [(a_this, cO 6 [.ref a_steps, .int length_, .ref a_waiting, .int waits, .int open_, .int wantsOperand, .int isAsked]), (a_steps, cI G 121 steps), (a_waiting, cI G 120 waiting)]
def f_LawReader_takesPart (length_ : Int32) (waits : Int32) (open_ : Int32) (wantsOperand : Int32) (isAsked : Int32) (steps : Nat → Int32) (waiting : Nat → Int32) (x1 : Int32) : Option (Int32 × Int32 × Int32 × Int32 × Int32 × (Nat → Int32)) := (if (0 : Int32) < open_ then (some (0, length_, waits, wantsOperand, isAsked, steps)) else (if x1 = 63 then (if isAsked = 0 then (zb4 (f_LawReader_releaseDownTo length_ waits steps waiting 1) fun r_9 length__10 waits_11 steps_12 => (zb2 (f_LawReader_addStep length__10 steps_12 (-x1)) fun length__14 steps_15 => (if x1 = 63 then (some (1, length__14, waits_11, 1, 1, steps_15)) else (some (1, length__14, waits_11, 1, 0, steps_15))))) else (some (0, length_, waits, wantsOperand, isAsked, steps))) else (zb4 (f_LawReader_releaseDownTo length_ waits steps waiting 1) fun r_1 length__2 waits_3 steps_4 => (zb2 (f_LawReader_addStep length__2 steps_4 (-x1)) fun length__6 steps_7 => (if x1 = 63 then (some (1, length__6, waits_3, 1, 1, steps_7)) else (some (1, length__6, waits_3, 1, 0, steps_7)))))))
set_option maxRecDepth 100000 in
set_option maxHeartbeats 4000000 in
theorem c_LawReader_takesPart (l : Launch) (G : zG) (a_this : Nat) (a_steps : Nat) (a_waiting : Nat) (length_ : Int32) (waits : Int32) (open_ : Int32) (wantsOperand : Int32) (isAsked : Int32) (steps : Nat → Int32) (waiting : Nat → Int32) (x1 : Int32) (r_ : Int32) (o_length_ : Int32) (o_waits : Int32) (o_wantsOperand : Int32) (o_isAsked : Int32) (o_steps : Nat → Int32) (hf : f_LawReader_takesPart length_ waits open_ wantsOperand isAsked steps waiting x1 = some (r_, o_length_, o_waits, o_wantsOperand, o_isAsked, o_steps)) : zM l yX6_takesPart cX6_takesPart 2 (some .boolean) 2 43 G [.ref a_this, .int x1] (w_LawReader_takesPart G a_this a_steps a_waiting length_ waits open_ wantsOperand isAsked steps waiting) (some (.int r_)) (w_LawReader_takesPart G a_this a_steps a_waiting o_length_ o_waits open_ o_wantsOperand o_isAsked o_steps waiting) := by
  refine zM.of [(0, .ref a_this), (1, .int x1)] (own := RX6) rfl (by decide +kernel) (Nat.le_of_ble_eq_true rfl) rfl rfl fun X hX F => ?_
  subst hX
  replace hf := (f_LawReader_takesPart.eq_1 ..).symm.trans hf
  refine z_aload_n F 0 dX6_takesPart_0 rfl rfl ?_
  refine z_get F 0 6 4 inlX6 rfl rfl (by decide) fl_X6_31 rfl dX6_takesPart_1 ?_
  refine z_if_gt F 20 dX6_takesPart_4 (by decide) hf (fun hf _ => ?_) (fun hf _ => ?_)
  · refine z_iconst F (0) dX6_takesPart_20 rfl ?_
    have eq1 := Option.some.inj hf
    obtain ⟨ee1, eq2⟩ := Prod.mk.inj eq1
    obtain ⟨ee2, eq3⟩ := Prod.mk.inj eq2
    obtain ⟨ee3, eq4⟩ := Prod.mk.inj eq3
    obtain ⟨ee4, eq5⟩ := Prod.mk.inj eq4
    obtain ⟨ee5, ee6⟩ := Prod.mk.inj eq5
    subst ee1
    subst ee2
    subst ee3
    subst ee4
    subst ee5
    subst ee6
    exact z_iret F rfl rfl rfl rfl dX6_takesPart_21
  · refine z_iload_n F 1 dX6_takesPart_7 rfl rfl ?_
    refine z_bipush F (63) dX6_takesPart_8 rfl ?_
    refine z_icmp_ne F 22 dX6_takesPart_10 (by decide) hf (fun hf _ => ?_) (fun hf _ => ?_)
    · refine z_aload_n F 0 dX6_takesPart_22 rfl rfl ?_
      refine z_iconst F (1) dX6_takesPart_23 rfl ?_
      obtain ⟨r_1, length__2, waits_3, steps_4, hg, hf⟩ := zb4_some hf
      refine z_callVm (rest := []) F 6 (c_LawReader_releaseDownTo (xL X) G a_this a_steps a_waiting length_ waits open_ wantsOperand isAsked steps waiting 1 r_1 length__2 waits_3 steps_4 hg) hy_X6_releaseDownTo ml_X6_58 hd_X6_releaseDownTo ⟨by omega, by omega⟩ rfl [0, 1, 2] rfl rfl 0 rfl rfl (w_LawReader_takesPart G a_this a_steps a_waiting length__2 waits_3 open_ wantsOperand isAsked steps_4 waiting) [some 0, some 1, some 2] rfl (by decide +kernel) rfl rfl (Nat.le_of_ble_eq_true rfl) dX6_takesPart_24 (fun hz_5 => ?_)
      refine z_pop F rfl dX6_takesPart_27 ?_
      refine z_aload_n F 0 dX6_takesPart_28 rfl rfl ?_
      refine z_iload_n F 1 dX6_takesPart_29 rfl rfl ?_
      refine z_ineg F dX6_takesPart_30 ?_
      obtain ⟨length__6, steps_7, hg, hf⟩ := zb2_some hf
      refine z_callVm (rest := []) F 6 (c_LawReader_addStep (xL X) G a_this a_steps a_waiting length__2 waits_3 open_ wantsOperand isAsked steps_4 (-x1) length__6 steps_7 hg) hy_X6_addStep ml_X6_62 hd_X6_addStep ⟨by omega, by omega⟩ rfl [0, 1] rfl rfl 0 rfl rfl (w_LawReader_takesPart G a_this a_steps a_waiting length__6 waits_3 open_ wantsOperand isAsked steps_7 waiting) [some 0, some 1, none] rfl (by decide +kernel) rfl rfl (Nat.le_of_ble_eq_true rfl) dX6_takesPart_31 (fun hz_8 => ?_)
      refine z_aload_n F 0 dX6_takesPart_34 rfl rfl ?_
      refine z_iload_n F 1 dX6_takesPart_35 rfl rfl ?_
      refine z_bipush F (63) dX6_takesPart_36 rfl ?_
      refine z_icmp_ne F 45 dX6_takesPart_38 (by decide) hf (fun hf _ => ?_) (fun hf _ => ?_)
      · refine z_iconst F (0) dX6_takesPart_45 rfl ?_
        refine z_put F 0 6 6 (w_LawReader_takesPart G a_this a_steps a_waiting length__6 waits_3 open_ wantsOperand 0 steps_7 waiting) inlX6 tyX6 tyX6_ok nmX6 rfl rfl (by decide) fl_X6_38 rfl rfl rfl (Nat.le_of_ble_eq_true rfl) rfl dX6_takesPart_46 ?_
        refine z_aload_n F 0 dX6_takesPart_49 rfl rfl ?_
        refine z_iconst F (1) dX6_takesPart_50 rfl ?_
        refine z_put F 0 6 5 (w_LawReader_takesPart G a_this a_steps a_waiting length__6 waits_3 open_ 1 0 steps_7 waiting) inlX6 tyX6 tyX6_ok nmX6 rfl rfl (by decide) fl_X6_34 rfl rfl rfl (Nat.le_of_ble_eq_true rfl) rfl dX6_takesPart_51 ?_
        refine z_iconst F (1) dX6_takesPart_54 rfl ?_
        have eq1 := Option.some.inj hf
        obtain ⟨ee1, eq2⟩ := Prod.mk.inj eq1
        obtain ⟨ee2, eq3⟩ := Prod.mk.inj eq2
        obtain ⟨ee3, eq4⟩ := Prod.mk.inj eq3
        obtain ⟨ee4, eq5⟩ := Prod.mk.inj eq4
        obtain ⟨ee5, ee6⟩ := Prod.mk.inj eq5
        subst ee1
        subst ee2
        subst ee3
        subst ee4
        subst ee5
        subst ee6
        exact z_iret F rfl rfl rfl rfl dX6_takesPart_55
      · refine z_iconst F (1) dX6_takesPart_41 rfl ?_
        refine z_goto F 46 dX6_takesPart_42 (by decide) ?_
        refine z_put F 0 6 6 (w_LawReader_takesPart G a_this a_steps a_waiting length__6 waits_3 open_ wantsOperand 1 steps_7 waiting) inlX6 tyX6 tyX6_ok nmX6 rfl rfl (by decide) fl_X6_38 rfl rfl rfl (Nat.le_of_ble_eq_true rfl) rfl dX6_takesPart_46 ?_
        refine z_aload_n F 0 dX6_takesPart_49 rfl rfl ?_
        refine z_iconst F (1) dX6_takesPart_50 rfl ?_
        refine z_put F 0 6 5 (w_LawReader_takesPart G a_this a_steps a_waiting length__6 waits_3 open_ 1 1 steps_7 waiting) inlX6 tyX6 tyX6_ok nmX6 rfl rfl (by decide) fl_X6_34 rfl rfl rfl (Nat.le_of_ble_eq_true rfl) rfl dX6_takesPart_51 ?_
        refine z_iconst F (1) dX6_takesPart_54 rfl ?_
        have eq1 := Option.some.inj hf
        obtain ⟨ee1, eq2⟩ := Prod.mk.inj eq1
        obtain ⟨ee2, eq3⟩ := Prod.mk.inj eq2
        obtain ⟨ee3, eq4⟩ := Prod.mk.inj eq3
        obtain ⟨ee4, eq5⟩ := Prod.mk.inj eq4
        obtain ⟨ee5, ee6⟩ := Prod.mk.inj eq5
        subst ee1
        subst ee2
        subst ee3
        subst ee4
        subst ee5
        subst ee6
        exact z_iret F rfl rfl rfl rfl dX6_takesPart_55
    · refine z_aload_n F 0 dX6_takesPart_13 rfl rfl ?_
      refine z_get F 0 6 6 inlX6 rfl rfl (by decide) fl_X6_38 rfl dX6_takesPart_14 ?_
      refine z_if_eq F 22 dX6_takesPart_17 (by decide) hf (fun hf _ => ?_) (fun hf _ => ?_)
      · refine z_aload_n F 0 dX6_takesPart_22 rfl rfl ?_
        refine z_iconst F (1) dX6_takesPart_23 rfl ?_
        obtain ⟨r_9, length__10, waits_11, steps_12, hg, hf⟩ := zb4_some hf
        refine z_callVm (rest := []) F 6 (c_LawReader_releaseDownTo (xL X) G a_this a_steps a_waiting length_ waits open_ wantsOperand isAsked steps waiting 1 r_9 length__10 waits_11 steps_12 hg) hy_X6_releaseDownTo ml_X6_58 hd_X6_releaseDownTo ⟨by omega, by omega⟩ rfl [0, 1, 2] rfl rfl 0 rfl rfl (w_LawReader_takesPart G a_this a_steps a_waiting length__10 waits_11 open_ wantsOperand isAsked steps_12 waiting) [some 0, some 1, some 2] rfl (by decide +kernel) rfl rfl (Nat.le_of_ble_eq_true rfl) dX6_takesPart_24 (fun hz_13 => ?_)
        refine z_pop F rfl dX6_takesPart_27 ?_
        refine z_aload_n F 0 dX6_takesPart_28 rfl rfl ?_
        refine z_iload_n F 1 dX6_takesPart_29 rfl rfl ?_
        refine z_ineg F dX6_takesPart_30 ?_
        obtain ⟨length__14, steps_15, hg, hf⟩ := zb2_some hf
        refine z_callVm (rest := []) F 6 (c_LawReader_addStep (xL X) G a_this a_steps a_waiting length__10 waits_11 open_ wantsOperand isAsked steps_12 (-x1) length__14 steps_15 hg) hy_X6_addStep ml_X6_62 hd_X6_addStep ⟨by omega, by omega⟩ rfl [0, 1] rfl rfl 0 rfl rfl (w_LawReader_takesPart G a_this a_steps a_waiting length__14 waits_11 open_ wantsOperand isAsked steps_15 waiting) [some 0, some 1, none] rfl (by decide +kernel) rfl rfl (Nat.le_of_ble_eq_true rfl) dX6_takesPart_31 (fun hz_16 => ?_)
        refine z_aload_n F 0 dX6_takesPart_34 rfl rfl ?_
        refine z_iload_n F 1 dX6_takesPart_35 rfl rfl ?_
        refine z_bipush F (63) dX6_takesPart_36 rfl ?_
        refine z_icmp_ne F 45 dX6_takesPart_38 (by decide) hf (fun hf _ => ?_) (fun hf _ => ?_)
        · refine z_iconst F (0) dX6_takesPart_45 rfl ?_
          refine z_put F 0 6 6 (w_LawReader_takesPart G a_this a_steps a_waiting length__14 waits_11 open_ wantsOperand 0 steps_15 waiting) inlX6 tyX6 tyX6_ok nmX6 rfl rfl (by decide) fl_X6_38 rfl rfl rfl (Nat.le_of_ble_eq_true rfl) rfl dX6_takesPart_46 ?_
          refine z_aload_n F 0 dX6_takesPart_49 rfl rfl ?_
          refine z_iconst F (1) dX6_takesPart_50 rfl ?_
          refine z_put F 0 6 5 (w_LawReader_takesPart G a_this a_steps a_waiting length__14 waits_11 open_ 1 0 steps_15 waiting) inlX6 tyX6 tyX6_ok nmX6 rfl rfl (by decide) fl_X6_34 rfl rfl rfl (Nat.le_of_ble_eq_true rfl) rfl dX6_takesPart_51 ?_
          refine z_iconst F (1) dX6_takesPart_54 rfl ?_
          have eq1 := Option.some.inj hf
          obtain ⟨ee1, eq2⟩ := Prod.mk.inj eq1
          obtain ⟨ee2, eq3⟩ := Prod.mk.inj eq2
          obtain ⟨ee3, eq4⟩ := Prod.mk.inj eq3
          obtain ⟨ee4, eq5⟩ := Prod.mk.inj eq4
          obtain ⟨ee5, ee6⟩ := Prod.mk.inj eq5
          subst ee1
          subst ee2
          subst ee3
          subst ee4
          subst ee5
          subst ee6
          exact z_iret F rfl rfl rfl rfl dX6_takesPart_55
        · refine z_iconst F (1) dX6_takesPart_41 rfl ?_
          refine z_goto F 46 dX6_takesPart_42 (by decide) ?_
          refine z_put F 0 6 6 (w_LawReader_takesPart G a_this a_steps a_waiting length__14 waits_11 open_ wantsOperand 1 steps_15 waiting) inlX6 tyX6 tyX6_ok nmX6 rfl rfl (by decide) fl_X6_38 rfl rfl rfl (Nat.le_of_ble_eq_true rfl) rfl dX6_takesPart_46 ?_
          refine z_aload_n F 0 dX6_takesPart_49 rfl rfl ?_
          refine z_iconst F (1) dX6_takesPart_50 rfl ?_
          refine z_put F 0 6 5 (w_LawReader_takesPart G a_this a_steps a_waiting length__14 waits_11 open_ 1 1 steps_15 waiting) inlX6 tyX6 tyX6_ok nmX6 rfl rfl (by decide) fl_X6_34 rfl rfl rfl (Nat.le_of_ble_eq_true rfl) rfl dX6_takesPart_51 ?_
          refine z_iconst F (1) dX6_takesPart_54 rfl ?_
          have eq1 := Option.some.inj hf
          obtain ⟨ee1, eq2⟩ := Prod.mk.inj eq1
          obtain ⟨ee2, eq3⟩ := Prod.mk.inj eq2
          obtain ⟨ee3, eq4⟩ := Prod.mk.inj eq3
          obtain ⟨ee4, eq5⟩ := Prod.mk.inj eq4
          obtain ⟨ee5, ee6⟩ := Prod.mk.inj eq5
          subst ee1
          subst ee2
          subst ee3
          subst ee4
          subst ee5
          subst ee6
          exact z_iret F rfl rfl rfl rfl dX6_takesPart_55
      · refine z_iconst F (0) dX6_takesPart_20 rfl ?_
        have eq1 := Option.some.inj hf
        obtain ⟨ee1, eq2⟩ := Prod.mk.inj eq1
        obtain ⟨ee2, eq3⟩ := Prod.mk.inj eq2
        obtain ⟨ee3, eq4⟩ := Prod.mk.inj eq3
        obtain ⟨ee4, eq5⟩ := Prod.mk.inj eq4
        obtain ⟨ee5, ee6⟩ := Prod.mk.inj eq5
        subst ee1
        subst ee2
        subst ee3
        subst ee4
        subst ee5
        subst ee6
        exact z_iret F rfl rfl rfl rfl dX6_takesPart_21

abbrev w_LawReader_takesJoining (G : zG) (a_this : Nat) (a_steps : Nat) (a_waiting : Nat) (length_ : Int32) (waits : Int32) (open_ : Int32) (wantsOperand : Int32) (isAsked : Int32) (steps : Nat → Int32) (waiting : Nat → Int32) : va_W := [(a_this, cO 6 [.ref a_steps, .int length_, .ref a_waiting, .int waits, .int open_, .int wantsOperand, .int isAsked]), (a_steps, cI G 121 steps), (a_waiting, cI G 120 waiting)]
def f_LawReader_takesJoining (length_ : Int32) (waits : Int32) (wantsOperand : Int32) (steps : Nat → Int32) (waiting : Nat → Int32) (x1 : Int32) : Option (Int32 × Int32 × Int32 × Int32 × (Nat → Int32) × (Nat → Int32)) := (if (f_LawReader_rankOf x1) = 0 then (some (0, length_, waits, wantsOperand, steps, waiting)) else (if (f_LawReader_rankOf x1) = 6 then (some (0, length_, waits, wantsOperand, steps, waiting)) else (if (f_LawReader_rankOf x1) = 3 then (zb4 (f_LawReader_releaseDownTo length_ waits steps waiting ((f_LawReader_rankOf x1) + (1 : Int32))) fun r_18 length__19 waits_20 steps_21 => (if (f_LawReader_rankOf x1) = 3 then (if waits_20 ≤ 0 then (zb2 (f_LawReader_putOff waits_20 waiting x1) fun waits_26 waiting_27 => (some (1, length__19, waits_26, 1, steps_21, waiting_27))) else (zg waiting 120 (waits_20 - (1 : Int32)) fun v_29 => (if (f_LawReader_rankOf v_29) = 3 then (some (0, length__19, waits_20, wantsOperand, steps_21, waiting)) else (zb2 (f_LawReader_putOff waits_20 waiting x1) fun waits_31 waiting_32 => (some (1, length__19, waits_31, 1, steps_21, waiting_32)))))) else (zb2 (f_LawReader_putOff waits_20 waiting x1) fun waits_23 waiting_24 => (some (1, length__19, waits_23, 1, steps_21, waiting_24))))) else (zb4 (f_LawReader_releaseDownTo length_ waits steps waiting (f_LawReader_rankOf x1)) fun r_2 length__3 waits_4 steps_5 => (if (f_LawReader_rankOf x1) = 3 then (if waits_4 ≤ 0 then (zb2 (f_LawReader_putOff waits_4 waiting x1) fun waits_10 waiting_11 => (some (1, length__3, waits_10, 1, steps_5, waiting_11))) else (zg waiting 120 (waits_4 - (1 : Int32)) fun v_13 => (if (f_LawReader_rankOf v_13) = 3 then (some (0, length__3, waits_4, wantsOperand, steps_5, waiting)) else (zb2 (f_LawReader_putOff waits_4 waiting x1) fun waits_15 waiting_16 => (some (1, length__3, waits_15, 1, steps_5, waiting_16)))))) else (zb2 (f_LawReader_putOff waits_4 waiting x1) fun waits_7 waiting_8 => (some (1, length__3, waits_7, 1, steps_5, waiting_8))))))))
set_option maxRecDepth 100000 in
set_option maxHeartbeats 4000000 in
theorem c_LawReader_takesJoining (l : Launch) (G : zG) (a_this : Nat) (a_steps : Nat) (a_waiting : Nat) (length_ : Int32) (waits : Int32) (open_ : Int32) (wantsOperand : Int32) (isAsked : Int32) (steps : Nat → Int32) (waiting : Nat → Int32) (x1 : Int32) (r_ : Int32) (o_length_ : Int32) (o_waits : Int32) (o_wantsOperand : Int32) (o_steps : Nat → Int32) (o_waiting : Nat → Int32) (hf : f_LawReader_takesJoining length_ waits wantsOperand steps waiting x1 = some (r_, o_length_, o_waits, o_wantsOperand, o_steps, o_waiting)) : zM l yX6_takesJoining cX6_takesJoining 3 (some .boolean) 2 43 G [.ref a_this, .int x1] (w_LawReader_takesJoining G a_this a_steps a_waiting length_ waits open_ wantsOperand isAsked steps waiting) (some (.int r_)) (w_LawReader_takesJoining G a_this a_steps a_waiting o_length_ o_waits open_ o_wantsOperand isAsked o_steps o_waiting) := by
  refine zM.of [(0, .ref a_this), (1, .int x1)] (own := RX6) rfl (by decide +kernel) (Nat.le_of_ble_eq_true rfl) rfl rfl fun X hX F => ?_
  subst hX
  replace hf := (f_LawReader_takesJoining.eq_1 ..).symm.trans hf
  refine z_iload_n F 1 dX6_takesJoining_0 rfl rfl ?_
  refine z_callSm (rest := []) F (c_LawReader_rankOf (xL X) G x1 _ rfl) hy_X6_rankOf ml_X6_88 hd_X6_rankOf ⟨by omega, by omega⟩ rfl [] rfl rfl (w_LawReader_takesJoining G a_this a_steps a_waiting length_ waits open_ wantsOperand isAsked steps waiting) [none, none, none] rfl (by decide +kernel) rfl rfl (Nat.le_of_ble_eq_true rfl) dX6_takesJoining_1 (fun hz_1 => ?_)
  refine z_istore_n F [(2, .int (f_LawReader_rankOf x1)), (0, .ref a_this), (1, .int x1)] dX6_takesJoining_4 rfl (by decide) rfl ?_
  refine z_iload_n F 0 dX6_takesJoining_5 rfl rfl ?_
  refine z_if_eq F 15 dX6_takesJoining_6 (by decide) hf (fun hf _ => ?_) (fun hf _ => ?_)
  · refine z_iconst F (0) dX6_takesJoining_15 rfl ?_
    have eq1 := Option.some.inj hf
    obtain ⟨ee1, eq2⟩ := Prod.mk.inj eq1
    obtain ⟨ee2, eq3⟩ := Prod.mk.inj eq2
    obtain ⟨ee3, eq4⟩ := Prod.mk.inj eq3
    obtain ⟨ee4, eq5⟩ := Prod.mk.inj eq4
    obtain ⟨ee5, ee6⟩ := Prod.mk.inj eq5
    subst ee1
    subst ee2
    subst ee3
    subst ee4
    subst ee5
    subst ee6
    exact z_iret F rfl rfl rfl rfl dX6_takesJoining_16
  · refine z_iload_n F 0 dX6_takesJoining_9 rfl rfl ?_
    refine z_bipush F (6) dX6_takesJoining_10 rfl ?_
    refine z_icmp_ne F 17 dX6_takesJoining_12 (by decide) hf (fun hf _ => ?_) (fun hf _ => ?_)
    · refine z_aload_n F 1 dX6_takesJoining_17 rfl rfl ?_
      refine z_iload_n F 0 dX6_takesJoining_18 rfl rfl ?_
      refine z_iconst F (3) dX6_takesJoining_19 rfl ?_
      refine z_icmp_ne F 29 dX6_takesJoining_20 (by decide) hf (fun hf _ => ?_) (fun hf _ => ?_)
      · refine z_iload_n F 0 dX6_takesJoining_29 rfl rfl ?_
        obtain ⟨r_2, length__3, waits_4, steps_5, hg, hf⟩ := zb4_some hf
        refine z_callVm (rest := []) F 6 (c_LawReader_releaseDownTo (xL X) G a_this a_steps a_waiting length_ waits open_ wantsOperand isAsked steps waiting (f_LawReader_rankOf x1) r_2 length__3 waits_4 steps_5 hg) hy_X6_releaseDownTo ml_X6_58 hd_X6_releaseDownTo ⟨by omega, by omega⟩ rfl [0, 1, 2] rfl rfl 0 rfl rfl (w_LawReader_takesJoining G a_this a_steps a_waiting length__3 waits_4 open_ wantsOperand isAsked steps_5 waiting) [some 0, some 1, some 2] rfl (by decide +kernel) rfl rfl (Nat.le_of_ble_eq_true rfl) dX6_takesJoining_30 (fun hz_6 => ?_)
        refine z_pop F rfl dX6_takesJoining_33 ?_
        refine z_iload_n F 0 dX6_takesJoining_34 rfl rfl ?_
        refine z_iconst F (3) dX6_takesJoining_35 rfl ?_
        refine z_icmp_ne F 66 dX6_takesJoining_36 (by decide) hf (fun hf _ => ?_) (fun hf _ => ?_)
        · refine z_aload_n F 1 dX6_takesJoining_66 rfl rfl ?_
          refine z_iload_n F 2 dX6_takesJoining_67 rfl rfl ?_
          obtain ⟨waits_7, waiting_8, hg, hf⟩ := zb2_some hf
          refine z_callVm (rest := []) F 6 (c_LawReader_putOff (xL X) G a_this a_steps a_waiting length__3 waits_4 open_ wantsOperand isAsked waiting x1 waits_7 waiting_8 hg) hy_X6_putOff ml_X6_75 hd_X6_putOff ⟨by omega, by omega⟩ rfl [0, 2] rfl rfl 0 rfl rfl (w_LawReader_takesJoining G a_this a_steps a_waiting length__3 waits_7 open_ wantsOperand isAsked steps_5 waiting_8) [some 0, none, some 1] rfl (by decide +kernel) rfl rfl (Nat.le_of_ble_eq_true rfl) dX6_takesJoining_68 (fun hz_9 => ?_)
          refine z_aload_n F 1 dX6_takesJoining_71 rfl rfl ?_
          refine z_iconst F (1) dX6_takesJoining_72 rfl ?_
          refine z_put F 0 6 5 (w_LawReader_takesJoining G a_this a_steps a_waiting length__3 waits_7 open_ 1 isAsked steps_5 waiting_8) inlX6 tyX6 tyX6_ok nmX6 rfl rfl (by decide) fl_X6_34 rfl rfl rfl (Nat.le_of_ble_eq_true rfl) rfl dX6_takesJoining_73 ?_
          refine z_iconst F (1) dX6_takesJoining_76 rfl ?_
          have eq1 := Option.some.inj hf
          obtain ⟨ee1, eq2⟩ := Prod.mk.inj eq1
          obtain ⟨ee2, eq3⟩ := Prod.mk.inj eq2
          obtain ⟨ee3, eq4⟩ := Prod.mk.inj eq3
          obtain ⟨ee4, eq5⟩ := Prod.mk.inj eq4
          obtain ⟨ee5, ee6⟩ := Prod.mk.inj eq5
          subst ee1
          subst ee2
          subst ee3
          subst ee4
          subst ee5
          subst ee6
          exact z_iret F rfl rfl rfl rfl dX6_takesJoining_77
        · refine z_aload_n F 1 dX6_takesJoining_39 rfl rfl ?_
          refine z_get F 0 6 3 inlX6 rfl rfl (by decide) fl_X6_28 rfl dX6_takesJoining_40 ?_
          refine z_if_le F 66 dX6_takesJoining_43 (by decide) hf (fun hf _ => ?_) (fun hf _ => ?_)
          · refine z_aload_n F 1 dX6_takesJoining_66 rfl rfl ?_
            refine z_iload_n F 2 dX6_takesJoining_67 rfl rfl ?_
            obtain ⟨waits_10, waiting_11, hg, hf⟩ := zb2_some hf
            refine z_callVm (rest := []) F 6 (c_LawReader_putOff (xL X) G a_this a_steps a_waiting length__3 waits_4 open_ wantsOperand isAsked waiting x1 waits_10 waiting_11 hg) hy_X6_putOff ml_X6_75 hd_X6_putOff ⟨by omega, by omega⟩ rfl [0, 2] rfl rfl 0 rfl rfl (w_LawReader_takesJoining G a_this a_steps a_waiting length__3 waits_10 open_ wantsOperand isAsked steps_5 waiting_11) [some 0, none, some 1] rfl (by decide +kernel) rfl rfl (Nat.le_of_ble_eq_true rfl) dX6_takesJoining_68 (fun hz_12 => ?_)
            refine z_aload_n F 1 dX6_takesJoining_71 rfl rfl ?_
            refine z_iconst F (1) dX6_takesJoining_72 rfl ?_
            refine z_put F 0 6 5 (w_LawReader_takesJoining G a_this a_steps a_waiting length__3 waits_10 open_ 1 isAsked steps_5 waiting_11) inlX6 tyX6 tyX6_ok nmX6 rfl rfl (by decide) fl_X6_34 rfl rfl rfl (Nat.le_of_ble_eq_true rfl) rfl dX6_takesJoining_73 ?_
            refine z_iconst F (1) dX6_takesJoining_76 rfl ?_
            have eq1 := Option.some.inj hf
            obtain ⟨ee1, eq2⟩ := Prod.mk.inj eq1
            obtain ⟨ee2, eq3⟩ := Prod.mk.inj eq2
            obtain ⟨ee3, eq4⟩ := Prod.mk.inj eq3
            obtain ⟨ee4, eq5⟩ := Prod.mk.inj eq4
            obtain ⟨ee5, ee6⟩ := Prod.mk.inj eq5
            subst ee1
            subst ee2
            subst ee3
            subst ee4
            subst ee5
            subst ee6
            exact z_iret F rfl rfl rfl rfl dX6_takesJoining_77
          · refine z_aload_n F 1 dX6_takesJoining_46 rfl rfl ?_
            refine z_get F 0 6 2 inlX6 rfl rfl (by decide) fl_X6_15 rfl dX6_takesJoining_47 ?_
            refine z_aload_n F 1 dX6_takesJoining_50 rfl rfl ?_
            refine z_get F 0 6 3 inlX6 rfl rfl (by decide) fl_X6_28 rfl dX6_takesJoining_51 ?_
            refine z_iconst F (1) dX6_takesJoining_54 rfl ?_
            refine z_isub F dX6_takesJoining_55 ?_
            refine z_iald F 2 rfl hf dX6_takesJoining_56 (fun v_13 hf => ?_)
            refine z_callSm (rest := []) F (c_LawReader_rankOf (xL X) G v_13 _ rfl) hy_X6_rankOf ml_X6_88 hd_X6_rankOf ⟨by omega, by omega⟩ rfl [] rfl rfl (w_LawReader_takesJoining G a_this a_steps a_waiting length__3 waits_4 open_ wantsOperand isAsked steps_5 waiting) [none, none, none] rfl (by decide +kernel) rfl rfl (Nat.le_of_ble_eq_true rfl) dX6_takesJoining_57 (fun hz_14 => ?_)
            refine z_iconst F (3) dX6_takesJoining_60 rfl ?_
            refine z_icmp_ne F 66 dX6_takesJoining_61 (by decide) hf (fun hf _ => ?_) (fun hf _ => ?_)
            · refine z_aload_n F 1 dX6_takesJoining_66 rfl rfl ?_
              refine z_iload_n F 2 dX6_takesJoining_67 rfl rfl ?_
              obtain ⟨waits_15, waiting_16, hg, hf⟩ := zb2_some hf
              refine z_callVm (rest := []) F 6 (c_LawReader_putOff (xL X) G a_this a_steps a_waiting length__3 waits_4 open_ wantsOperand isAsked waiting x1 waits_15 waiting_16 hg) hy_X6_putOff ml_X6_75 hd_X6_putOff ⟨by omega, by omega⟩ rfl [0, 2] rfl rfl 0 rfl rfl (w_LawReader_takesJoining G a_this a_steps a_waiting length__3 waits_15 open_ wantsOperand isAsked steps_5 waiting_16) [some 0, none, some 1] rfl (by decide +kernel) rfl rfl (Nat.le_of_ble_eq_true rfl) dX6_takesJoining_68 (fun hz_17 => ?_)
              refine z_aload_n F 1 dX6_takesJoining_71 rfl rfl ?_
              refine z_iconst F (1) dX6_takesJoining_72 rfl ?_
              refine z_put F 0 6 5 (w_LawReader_takesJoining G a_this a_steps a_waiting length__3 waits_15 open_ 1 isAsked steps_5 waiting_16) inlX6 tyX6 tyX6_ok nmX6 rfl rfl (by decide) fl_X6_34 rfl rfl rfl (Nat.le_of_ble_eq_true rfl) rfl dX6_takesJoining_73 ?_
              refine z_iconst F (1) dX6_takesJoining_76 rfl ?_
              have eq1 := Option.some.inj hf
              obtain ⟨ee1, eq2⟩ := Prod.mk.inj eq1
              obtain ⟨ee2, eq3⟩ := Prod.mk.inj eq2
              obtain ⟨ee3, eq4⟩ := Prod.mk.inj eq3
              obtain ⟨ee4, eq5⟩ := Prod.mk.inj eq4
              obtain ⟨ee5, ee6⟩ := Prod.mk.inj eq5
              subst ee1
              subst ee2
              subst ee3
              subst ee4
              subst ee5
              subst ee6
              exact z_iret F rfl rfl rfl rfl dX6_takesJoining_77
            · refine z_iconst F (0) dX6_takesJoining_64 rfl ?_
              have eq1 := Option.some.inj hf
              obtain ⟨ee1, eq2⟩ := Prod.mk.inj eq1
              obtain ⟨ee2, eq3⟩ := Prod.mk.inj eq2
              obtain ⟨ee3, eq4⟩ := Prod.mk.inj eq3
              obtain ⟨ee4, eq5⟩ := Prod.mk.inj eq4
              obtain ⟨ee5, ee6⟩ := Prod.mk.inj eq5
              subst ee1
              subst ee2
              subst ee3
              subst ee4
              subst ee5
              subst ee6
              exact z_iret F rfl rfl rfl rfl dX6_takesJoining_65
      · refine z_iload_n F 0 dX6_takesJoining_23 rfl rfl ?_
        refine z_iconst F (1) dX6_takesJoining_24 rfl ?_
        refine z_iadd F dX6_takesJoining_25 ?_
        refine z_goto F 30 dX6_takesJoining_26 (by decide) ?_
        obtain ⟨r_18, length__19, waits_20, steps_21, hg, hf⟩ := zb4_some hf
        refine z_callVm (rest := []) F 6 (c_LawReader_releaseDownTo (xL X) G a_this a_steps a_waiting length_ waits open_ wantsOperand isAsked steps waiting ((f_LawReader_rankOf x1) + (1 : Int32)) r_18 length__19 waits_20 steps_21 hg) hy_X6_releaseDownTo ml_X6_58 hd_X6_releaseDownTo ⟨by omega, by omega⟩ rfl [0, 1, 2] rfl rfl 0 rfl rfl (w_LawReader_takesJoining G a_this a_steps a_waiting length__19 waits_20 open_ wantsOperand isAsked steps_21 waiting) [some 0, some 1, some 2] rfl (by decide +kernel) rfl rfl (Nat.le_of_ble_eq_true rfl) dX6_takesJoining_30 (fun hz_22 => ?_)
        refine z_pop F rfl dX6_takesJoining_33 ?_
        refine z_iload_n F 0 dX6_takesJoining_34 rfl rfl ?_
        refine z_iconst F (3) dX6_takesJoining_35 rfl ?_
        refine z_icmp_ne F 66 dX6_takesJoining_36 (by decide) hf (fun hf _ => ?_) (fun hf _ => ?_)
        · refine z_aload_n F 1 dX6_takesJoining_66 rfl rfl ?_
          refine z_iload_n F 2 dX6_takesJoining_67 rfl rfl ?_
          obtain ⟨waits_23, waiting_24, hg, hf⟩ := zb2_some hf
          refine z_callVm (rest := []) F 6 (c_LawReader_putOff (xL X) G a_this a_steps a_waiting length__19 waits_20 open_ wantsOperand isAsked waiting x1 waits_23 waiting_24 hg) hy_X6_putOff ml_X6_75 hd_X6_putOff ⟨by omega, by omega⟩ rfl [0, 2] rfl rfl 0 rfl rfl (w_LawReader_takesJoining G a_this a_steps a_waiting length__19 waits_23 open_ wantsOperand isAsked steps_21 waiting_24) [some 0, none, some 1] rfl (by decide +kernel) rfl rfl (Nat.le_of_ble_eq_true rfl) dX6_takesJoining_68 (fun hz_25 => ?_)
          refine z_aload_n F 1 dX6_takesJoining_71 rfl rfl ?_
          refine z_iconst F (1) dX6_takesJoining_72 rfl ?_
          refine z_put F 0 6 5 (w_LawReader_takesJoining G a_this a_steps a_waiting length__19 waits_23 open_ 1 isAsked steps_21 waiting_24) inlX6 tyX6 tyX6_ok nmX6 rfl rfl (by decide) fl_X6_34 rfl rfl rfl (Nat.le_of_ble_eq_true rfl) rfl dX6_takesJoining_73 ?_
          refine z_iconst F (1) dX6_takesJoining_76 rfl ?_
          have eq1 := Option.some.inj hf
          obtain ⟨ee1, eq2⟩ := Prod.mk.inj eq1
          obtain ⟨ee2, eq3⟩ := Prod.mk.inj eq2
          obtain ⟨ee3, eq4⟩ := Prod.mk.inj eq3
          obtain ⟨ee4, eq5⟩ := Prod.mk.inj eq4
          obtain ⟨ee5, ee6⟩ := Prod.mk.inj eq5
          subst ee1
          subst ee2
          subst ee3
          subst ee4
          subst ee5
          subst ee6
          exact z_iret F rfl rfl rfl rfl dX6_takesJoining_77
        · refine z_aload_n F 1 dX6_takesJoining_39 rfl rfl ?_
          refine z_get F 0 6 3 inlX6 rfl rfl (by decide) fl_X6_28 rfl dX6_takesJoining_40 ?_
          refine z_if_le F 66 dX6_takesJoining_43 (by decide) hf (fun hf _ => ?_) (fun hf _ => ?_)
          · refine z_aload_n F 1 dX6_takesJoining_66 rfl rfl ?_
            refine z_iload_n F 2 dX6_takesJoining_67 rfl rfl ?_
            obtain ⟨waits_26, waiting_27, hg, hf⟩ := zb2_some hf
            refine z_callVm (rest := []) F 6 (c_LawReader_putOff (xL X) G a_this a_steps a_waiting length__19 waits_20 open_ wantsOperand isAsked waiting x1 waits_26 waiting_27 hg) hy_X6_putOff ml_X6_75 hd_X6_putOff ⟨by omega, by omega⟩ rfl [0, 2] rfl rfl 0 rfl rfl (w_LawReader_takesJoining G a_this a_steps a_waiting length__19 waits_26 open_ wantsOperand isAsked steps_21 waiting_27) [some 0, none, some 1] rfl (by decide +kernel) rfl rfl (Nat.le_of_ble_eq_true rfl) dX6_takesJoining_68 (fun hz_28 => ?_)
            refine z_aload_n F 1 dX6_takesJoining_71 rfl rfl ?_
            refine z_iconst F (1) dX6_takesJoining_72 rfl ?_
            refine z_put F 0 6 5 (w_LawReader_takesJoining G a_this a_steps a_waiting length__19 waits_26 open_ 1 isAsked steps_21 waiting_27) inlX6 tyX6 tyX6_ok nmX6 rfl rfl (by decide) fl_X6_34 rfl rfl rfl (Nat.le_of_ble_eq_true rfl) rfl dX6_takesJoining_73 ?_
            refine z_iconst F (1) dX6_takesJoining_76 rfl ?_
            have eq1 := Option.some.inj hf
            obtain ⟨ee1, eq2⟩ := Prod.mk.inj eq1
            obtain ⟨ee2, eq3⟩ := Prod.mk.inj eq2
            obtain ⟨ee3, eq4⟩ := Prod.mk.inj eq3
            obtain ⟨ee4, eq5⟩ := Prod.mk.inj eq4
            obtain ⟨ee5, ee6⟩ := Prod.mk.inj eq5
            subst ee1
            subst ee2
            subst ee3
            subst ee4
            subst ee5
            subst ee6
            exact z_iret F rfl rfl rfl rfl dX6_takesJoining_77
          · refine z_aload_n F 1 dX6_takesJoining_46 rfl rfl ?_
            refine z_get F 0 6 2 inlX6 rfl rfl (by decide) fl_X6_15 rfl dX6_takesJoining_47 ?_
            refine z_aload_n F 1 dX6_takesJoining_50 rfl rfl ?_
            refine z_get F 0 6 3 inlX6 rfl rfl (by decide) fl_X6_28 rfl dX6_takesJoining_51 ?_
            refine z_iconst F (1) dX6_takesJoining_54 rfl ?_
            refine z_isub F dX6_takesJoining_55 ?_
            refine z_iald F 2 rfl hf dX6_takesJoining_56 (fun v_29 hf => ?_)
            refine z_callSm (rest := []) F (c_LawReader_rankOf (xL X) G v_29 _ rfl) hy_X6_rankOf ml_X6_88 hd_X6_rankOf ⟨by omega, by omega⟩ rfl [] rfl rfl (w_LawReader_takesJoining G a_this a_steps a_waiting length__19 waits_20 open_ wantsOperand isAsked steps_21 waiting) [none, none, none] rfl (by decide +kernel) rfl rfl (Nat.le_of_ble_eq_true rfl) dX6_takesJoining_57 (fun hz_30 => ?_)
            refine z_iconst F (3) dX6_takesJoining_60 rfl ?_
            refine z_icmp_ne F 66 dX6_takesJoining_61 (by decide) hf (fun hf _ => ?_) (fun hf _ => ?_)
            · refine z_aload_n F 1 dX6_takesJoining_66 rfl rfl ?_
              refine z_iload_n F 2 dX6_takesJoining_67 rfl rfl ?_
              obtain ⟨waits_31, waiting_32, hg, hf⟩ := zb2_some hf
              refine z_callVm (rest := []) F 6 (c_LawReader_putOff (xL X) G a_this a_steps a_waiting length__19 waits_20 open_ wantsOperand isAsked waiting x1 waits_31 waiting_32 hg) hy_X6_putOff ml_X6_75 hd_X6_putOff ⟨by omega, by omega⟩ rfl [0, 2] rfl rfl 0 rfl rfl (w_LawReader_takesJoining G a_this a_steps a_waiting length__19 waits_31 open_ wantsOperand isAsked steps_21 waiting_32) [some 0, none, some 1] rfl (by decide +kernel) rfl rfl (Nat.le_of_ble_eq_true rfl) dX6_takesJoining_68 (fun hz_33 => ?_)
              refine z_aload_n F 1 dX6_takesJoining_71 rfl rfl ?_
              refine z_iconst F (1) dX6_takesJoining_72 rfl ?_
              refine z_put F 0 6 5 (w_LawReader_takesJoining G a_this a_steps a_waiting length__19 waits_31 open_ 1 isAsked steps_21 waiting_32) inlX6 tyX6 tyX6_ok nmX6 rfl rfl (by decide) fl_X6_34 rfl rfl rfl (Nat.le_of_ble_eq_true rfl) rfl dX6_takesJoining_73 ?_
              refine z_iconst F (1) dX6_takesJoining_76 rfl ?_
              have eq1 := Option.some.inj hf
              obtain ⟨ee1, eq2⟩ := Prod.mk.inj eq1
              obtain ⟨ee2, eq3⟩ := Prod.mk.inj eq2
              obtain ⟨ee3, eq4⟩ := Prod.mk.inj eq3
              obtain ⟨ee4, eq5⟩ := Prod.mk.inj eq4
              obtain ⟨ee5, ee6⟩ := Prod.mk.inj eq5
              subst ee1
              subst ee2
              subst ee3
              subst ee4
              subst ee5
              subst ee6
              exact z_iret F rfl rfl rfl rfl dX6_takesJoining_77
            · refine z_iconst F (0) dX6_takesJoining_64 rfl ?_
              have eq1 := Option.some.inj hf
              obtain ⟨ee1, eq2⟩ := Prod.mk.inj eq1
              obtain ⟨ee2, eq3⟩ := Prod.mk.inj eq2
              obtain ⟨ee3, eq4⟩ := Prod.mk.inj eq3
              obtain ⟨ee4, eq5⟩ := Prod.mk.inj eq4
              obtain ⟨ee5, ee6⟩ := Prod.mk.inj eq5
              subst ee1
              subst ee2
              subst ee3
              subst ee4
              subst ee5
              subst ee6
              exact z_iret F rfl rfl rfl rfl dX6_takesJoining_65
    · refine z_iconst F (0) dX6_takesJoining_15 rfl ?_
      have eq1 := Option.some.inj hf
      obtain ⟨ee1, eq2⟩ := Prod.mk.inj eq1
      obtain ⟨ee2, eq3⟩ := Prod.mk.inj eq2
      obtain ⟨ee3, eq4⟩ := Prod.mk.inj eq3
      obtain ⟨ee4, eq5⟩ := Prod.mk.inj eq4
      obtain ⟨ee5, ee6⟩ := Prod.mk.inj eq5
      subst ee1
      subst ee2
      subst ee3
      subst ee4
      subst ee5
      subst ee6
      exact z_iret F rfl rfl rfl rfl dX6_takesJoining_16

abbrev w_LawReader_takesSign (G : zG) (a_this : Nat) (a_steps : Nat) (a_waiting : Nat) (length_ : Int32) (waits : Int32) (open_ : Int32) (wantsOperand : Int32) (isAsked : Int32) (steps : Nat → Int32) (waiting : Nat → Int32) : va_W := [(a_this, cO 6 [.ref a_steps, .int length_, .ref a_waiting, .int waits, .int open_, .int wantsOperand, .int isAsked]), (a_steps, cI G 121 steps), (a_waiting, cI G 120 waiting)]
def f_LawReader_takesSign (length_ : Int32) (waits : Int32) (open_ : Int32) (wantsOperand : Int32) (isAsked : Int32) (steps : Nat → Int32) (waiting : Nat → Int32) (x1 : Int32) : Option (Int32 × Int32 × Int32 × Int32 × Int32 × Int32 × (Nat → Int32) × (Nat → Int32)) := (if x1 = 41 then (zb5 (f_LawReader_takesClosing length_ waits open_ steps waiting) fun r_2 length__3 waits_4 open__5 steps_6 => (some (r_2, length__3, waits_4, open__5, wantsOperand, isAsked, steps_6, waiting))) else (if x1 = 59 then (zb6 (f_LawReader_takesPart length_ waits open_ wantsOperand isAsked steps waiting x1) fun r_9 length__10 waits_11 wantsOperand_12 isAsked_13 steps_14 => (some (r_9, length__10, waits_11, open_, wantsOperand_12, isAsked_13, steps_14, waiting))) else (if x1 = 63 then (zb6 (f_LawReader_takesPart length_ waits open_ wantsOperand isAsked steps waiting x1) fun r_17 length__18 waits_19 wantsOperand_20 isAsked_21 steps_22 => (some (r_17, length__18, waits_19, open_, wantsOperand_20, isAsked_21, steps_22, waiting))) else (zb6 (f_LawReader_takesJoining length_ waits wantsOperand steps waiting x1) fun r_24 length__25 waits_26 wantsOperand_27 steps_28 waiting_29 => (some (r_24, length__25, waits_26, open_, wantsOperand_27, isAsked, steps_28, waiting_29))))))
set_option maxRecDepth 100000 in
set_option maxHeartbeats 4000000 in
theorem c_LawReader_takesSign (l : Launch) (G : zG) (a_this : Nat) (a_steps : Nat) (a_waiting : Nat) (length_ : Int32) (waits : Int32) (open_ : Int32) (wantsOperand : Int32) (isAsked : Int32) (steps : Nat → Int32) (waiting : Nat → Int32) (x1 : Int32) (r_ : Int32) (o_length_ : Int32) (o_waits : Int32) (o_open_ : Int32) (o_wantsOperand : Int32) (o_isAsked : Int32) (o_steps : Nat → Int32) (o_waiting : Nat → Int32) (hf : f_LawReader_takesSign length_ waits open_ wantsOperand isAsked steps waiting x1 = some (r_, o_length_, o_waits, o_open_, o_wantsOperand, o_isAsked, o_steps, o_waiting)) : zM l yX6_takesSign cX6_takesSign 2 (some .boolean) 3 65 G [.ref a_this, .int x1] (w_LawReader_takesSign G a_this a_steps a_waiting length_ waits open_ wantsOperand isAsked steps waiting) (some (.int r_)) (w_LawReader_takesSign G a_this a_steps a_waiting o_length_ o_waits o_open_ o_wantsOperand o_isAsked o_steps o_waiting) := by
  refine zM.of [(0, .ref a_this), (1, .int x1)] (own := RX6) rfl (by decide +kernel) (Nat.le_of_ble_eq_true rfl) rfl rfl fun X hX F => ?_
  subst hX
  replace hf := (f_LawReader_takesSign.eq_1 ..).symm.trans hf
  refine z_iload_n F 1 dX6_takesSign_0 rfl rfl ?_
  by_cases hc_1 : x1 = 41
  · replace hf := zif_t hf hc_1
    refine z_lookup (off := 35) F 36 dX6_takesSign_1 (by decide +kernel) (by rw [hc_1]; decide +kernel) (by decide) ?_
    refine z_aload_n F 0 dX6_takesSign_36 rfl rfl ?_
    obtain ⟨r_2, length__3, waits_4, open__5, steps_6, hg, hf⟩ := zb5_some hf
    refine z_callVm (rest := []) F 6 (c_LawReader_takesClosing (xL X) G a_this a_steps a_waiting length_ waits open_ wantsOperand isAsked steps waiting r_2 length__3 waits_4 open__5 steps_6 hg) hy_X6_takesClosing ml_X6_78 hd_X6_takesClosing ⟨by omega, by omega⟩ rfl [0, 1, 2] rfl rfl 0 rfl rfl (w_LawReader_takesSign G a_this a_steps a_waiting length__3 waits_4 open__5 wantsOperand isAsked steps_6 waiting) [some 0, some 1, some 2] rfl (by decide +kernel) rfl rfl (Nat.le_of_ble_eq_true rfl) dX6_takesSign_37 (fun hz_7 => ?_)
    have eq1 := Option.some.inj hf
    obtain ⟨ee1, eq2⟩ := Prod.mk.inj eq1
    obtain ⟨ee2, eq3⟩ := Prod.mk.inj eq2
    obtain ⟨ee3, eq4⟩ := Prod.mk.inj eq3
    obtain ⟨ee4, eq5⟩ := Prod.mk.inj eq4
    obtain ⟨ee5, eq6⟩ := Prod.mk.inj eq5
    obtain ⟨ee6, eq7⟩ := Prod.mk.inj eq6
    obtain ⟨ee7, ee8⟩ := Prod.mk.inj eq7
    subst ee1
    subst ee2
    subst ee3
    subst ee4
    subst ee5
    subst ee6
    subst ee7
    subst ee8
    exact z_iret F rfl (hz_7 _ _ rfl rfl) rfl rfl dX6_takesSign_40
  · replace hf := zif_f hf hc_1
    by_cases hc_8 : x1 = 59
    · replace hf := zif_t hf hc_8
      refine z_lookup (off := 40) F 41 dX6_takesSign_1 (by decide +kernel) (by rw [hc_8]; decide +kernel) (by decide) ?_
      refine z_aload_n F 0 dX6_takesSign_41 rfl rfl ?_
      refine z_iload_n F 1 dX6_takesSign_42 rfl rfl ?_
      obtain ⟨r_9, length__10, waits_11, wantsOperand_12, isAsked_13, steps_14, hg, hf⟩ := zb6_some hf
      refine z_callVm (rest := []) F 6 (c_LawReader_takesPart (xL X) G a_this a_steps a_waiting length_ waits open_ wantsOperand isAsked steps waiting x1 r_9 length__10 waits_11 wantsOperand_12 isAsked_13 steps_14 hg) hy_X6_takesPart ml_X6_82 hd_X6_takesPart ⟨by omega, by omega⟩ rfl [0, 1, 2] rfl rfl 0 rfl rfl (w_LawReader_takesSign G a_this a_steps a_waiting length__10 waits_11 open_ wantsOperand_12 isAsked_13 steps_14 waiting) [some 0, some 1, some 2] rfl (by decide +kernel) rfl rfl (Nat.le_of_ble_eq_true rfl) dX6_takesSign_43 (fun hz_15 => ?_)
      have eq1 := Option.some.inj hf
      obtain ⟨ee1, eq2⟩ := Prod.mk.inj eq1
      obtain ⟨ee2, eq3⟩ := Prod.mk.inj eq2
      obtain ⟨ee3, eq4⟩ := Prod.mk.inj eq3
      obtain ⟨ee4, eq5⟩ := Prod.mk.inj eq4
      obtain ⟨ee5, eq6⟩ := Prod.mk.inj eq5
      obtain ⟨ee6, eq7⟩ := Prod.mk.inj eq6
      obtain ⟨ee7, ee8⟩ := Prod.mk.inj eq7
      subst ee1
      subst ee2
      subst ee3
      subst ee4
      subst ee5
      subst ee6
      subst ee7
      subst ee8
      exact z_iret F rfl (hz_15 _ _ rfl rfl) rfl rfl dX6_takesSign_46
    · replace hf := zif_f hf hc_8
      by_cases hc_16 : x1 = 63
      · replace hf := zif_t hf hc_16
        refine z_lookup (off := 40) F 41 dX6_takesSign_1 (by decide +kernel) (by rw [hc_16]; decide +kernel) (by decide) ?_
        refine z_aload_n F 0 dX6_takesSign_41 rfl rfl ?_
        refine z_iload_n F 1 dX6_takesSign_42 rfl rfl ?_
        obtain ⟨r_17, length__18, waits_19, wantsOperand_20, isAsked_21, steps_22, hg, hf⟩ := zb6_some hf
        refine z_callVm (rest := []) F 6 (c_LawReader_takesPart (xL X) G a_this a_steps a_waiting length_ waits open_ wantsOperand isAsked steps waiting x1 r_17 length__18 waits_19 wantsOperand_20 isAsked_21 steps_22 hg) hy_X6_takesPart ml_X6_82 hd_X6_takesPart ⟨by omega, by omega⟩ rfl [0, 1, 2] rfl rfl 0 rfl rfl (w_LawReader_takesSign G a_this a_steps a_waiting length__18 waits_19 open_ wantsOperand_20 isAsked_21 steps_22 waiting) [some 0, some 1, some 2] rfl (by decide +kernel) rfl rfl (Nat.le_of_ble_eq_true rfl) dX6_takesSign_43 (fun hz_23 => ?_)
        have eq1 := Option.some.inj hf
        obtain ⟨ee1, eq2⟩ := Prod.mk.inj eq1
        obtain ⟨ee2, eq3⟩ := Prod.mk.inj eq2
        obtain ⟨ee3, eq4⟩ := Prod.mk.inj eq3
        obtain ⟨ee4, eq5⟩ := Prod.mk.inj eq4
        obtain ⟨ee5, eq6⟩ := Prod.mk.inj eq5
        obtain ⟨ee6, eq7⟩ := Prod.mk.inj eq6
        obtain ⟨ee7, ee8⟩ := Prod.mk.inj eq7
        subst ee1
        subst ee2
        subst ee3
        subst ee4
        subst ee5
        subst ee6
        subst ee7
        subst ee8
        exact z_iret F rfl (hz_23 _ _ rfl rfl) rfl rfl dX6_takesSign_46
      · replace hf := zif_f hf hc_16
        refine z_lookup (off := 46) F 47 dX6_takesSign_1 (by decide +kernel) (zlk x1 [(41, 35), (59, 40), (63, 40)] (46) (List.forall_mem_cons.mpr ⟨zne hc_1 (c := 41) (k := 41) rfl, List.forall_mem_cons.mpr ⟨zne hc_8 (c := 59) (k := 59) rfl, List.forall_mem_cons.mpr ⟨zne hc_16 (c := 63) (k := 63) rfl, fun _ h => absurd h List.not_mem_nil⟩⟩⟩)) (by decide) ?_
        refine z_aload_n F 0 dX6_takesSign_47 rfl rfl ?_
        refine z_iload_n F 1 dX6_takesSign_48 rfl rfl ?_
        obtain ⟨r_24, length__25, waits_26, wantsOperand_27, steps_28, waiting_29, hg, hf⟩ := zb6_some hf
        refine z_callVm (rest := []) F 6 (c_LawReader_takesJoining (xL X) G a_this a_steps a_waiting length_ waits open_ wantsOperand isAsked steps waiting x1 r_24 length__25 waits_26 wantsOperand_27 steps_28 waiting_29 hg) hy_X6_takesJoining ml_X6_85 hd_X6_takesJoining ⟨by omega, by omega⟩ rfl [0, 1, 2] rfl rfl 0 rfl rfl (w_LawReader_takesSign G a_this a_steps a_waiting length__25 waits_26 open_ wantsOperand_27 isAsked steps_28 waiting_29) [some 0, some 1, some 2] rfl (by decide +kernel) rfl rfl (Nat.le_of_ble_eq_true rfl) dX6_takesSign_49 (fun hz_30 => ?_)
        have eq1 := Option.some.inj hf
        obtain ⟨ee1, eq2⟩ := Prod.mk.inj eq1
        obtain ⟨ee2, eq3⟩ := Prod.mk.inj eq2
        obtain ⟨ee3, eq4⟩ := Prod.mk.inj eq3
        obtain ⟨ee4, eq5⟩ := Prod.mk.inj eq4
        obtain ⟨ee5, eq6⟩ := Prod.mk.inj eq5
        obtain ⟨ee6, eq7⟩ := Prod.mk.inj eq6
        obtain ⟨ee7, ee8⟩ := Prod.mk.inj eq7
        subst ee1
        subst ee2
        subst ee3
        subst ee4
        subst ee5
        subst ee6
        subst ee7
        subst ee8
        exact z_iret F rfl (hz_30 _ _ rfl rfl) rfl rfl dX6_takesSign_52

abbrev w_LawReader_read (G : zG) (a_this : Nat) (a_steps : Nat) (a_waiting : Nat) (a_p1 : Nat) (length_ : Int32) (waits : Int32) (open_ : Int32) (wantsOperand : Int32) (isAsked : Int32) (steps : Nat → Int32) (waiting : Nat → Int32) (p1 : Nat → Int32) : va_W := [(a_this, cO 6 [.ref a_steps, .int length_, .ref a_waiting, .int waits, .int open_, .int wantsOperand, .int isAsked]), (a_steps, cI G 121 steps), (a_waiting, cI G 120 waiting), (a_p1, cI G 120 p1)]
def f_LawReader_read_L35 (p1 : Nat → Int32) (v3 : Int32) : Nat → Int32 → Int32 → Int32 → Int32 → Int32 → (Nat → Int32) → (Nat → Int32) → Int32 → Option (((Int32 × Int32 × Int32 × Int32 × Int32 × (Nat → Int32) × (Nat → Int32)) ⊕ (Int32 × Int32 × Int32 × Int32 × Int32 × Int32 × (Nat → Int32) × (Nat → Int32))))
  | 0, _, _, _, _, _, _, _, _ => none
  | fuel + 1, length_, waits, open_, wantsOperand, isAsked, steps, waiting, v4 => (if v3 ≤ v4 then (some (.inl (length_, waits, open_, wantsOperand, isAsked, steps, waiting))) else (zg p1 120 v4 fun v_1 => (if wantsOperand = 0 then (if wantsOperand = 0 then (zb8 (f_LawReader_takesSign length_ waits open_ wantsOperand isAsked steps waiting v_1) fun r_2 length__3 waits_4 open__5 wantsOperand_6 isAsked_7 steps_8 waiting_9 => (if r_2 = 0 then (some (.inr (v4, length__3, waits_4, open__5, wantsOperand_6, isAsked_7, steps_8, waiting_9))) else (if wantsOperand_6 = 0 then (zb4 (f_LawReader_releaseDownTo length__3 waits_4 steps_8 waiting_9 6) fun r_11 length__12 waits_13 steps_14 => (f_LawReader_read_L35 p1 v3 fuel length__12 waits_13 (open__5 - r_11) wantsOperand_6 isAsked_7 steps_14 waiting_9 (v4 + 1))) else (f_LawReader_read_L35 p1 v3 fuel length__3 waits_4 open__5 wantsOperand_6 isAsked_7 steps_8 waiting_9 (v4 + 1))))) else (zb7 (f_LawReader_takesOperand length_ waits open_ wantsOperand steps waiting v_1) fun r_16 length__17 waits_18 open__19 wantsOperand_20 steps_21 waiting_22 => (if r_16 = 0 then (some (.inr (v4, length__17, waits_18, open__19, wantsOperand_20, isAsked, steps_21, waiting_22))) else (if wantsOperand_20 = 0 then (zb4 (f_LawReader_releaseDownTo length__17 waits_18 steps_21 waiting_22 6) fun r_24 length__25 waits_26 steps_27 => (f_LawReader_read_L35 p1 v3 fuel length__25 waits_26 (open__19 - r_24) wantsOperand_20 isAsked steps_27 waiting_22 (v4 + 1))) else (f_LawReader_read_L35 p1 v3 fuel length__17 waits_18 open__19 wantsOperand_20 isAsked steps_21 waiting_22 (v4 + 1)))))) else (if (f_LawReader_isDigit v_1) = 0 then (if wantsOperand = 0 then (zb8 (f_LawReader_takesSign length_ waits open_ wantsOperand isAsked steps waiting v_1) fun r_30 length__31 waits_32 open__33 wantsOperand_34 isAsked_35 steps_36 waiting_37 => (if r_30 = 0 then (some (.inr (v4, length__31, waits_32, open__33, wantsOperand_34, isAsked_35, steps_36, waiting_37))) else (if wantsOperand_34 = 0 then (zb4 (f_LawReader_releaseDownTo length__31 waits_32 steps_36 waiting_37 6) fun r_39 length__40 waits_41 steps_42 => (f_LawReader_read_L35 p1 v3 fuel length__40 waits_41 (open__33 - r_39) wantsOperand_34 isAsked_35 steps_42 waiting_37 (v4 + 1))) else (f_LawReader_read_L35 p1 v3 fuel length__31 waits_32 open__33 wantsOperand_34 isAsked_35 steps_36 waiting_37 (v4 + 1))))) else (zb7 (f_LawReader_takesOperand length_ waits open_ wantsOperand steps waiting v_1) fun r_44 length__45 waits_46 open__47 wantsOperand_48 steps_49 waiting_50 => (if r_44 = 0 then (some (.inr (v4, length__45, waits_46, open__47, wantsOperand_48, isAsked, steps_49, waiting_50))) else (if wantsOperand_48 = 0 then (zb4 (f_LawReader_releaseDownTo length__45 waits_46 steps_49 waiting_50 6) fun r_52 length__53 waits_54 steps_55 => (f_LawReader_read_L35 p1 v3 fuel length__53 waits_54 (open__47 - r_52) wantsOperand_48 isAsked steps_55 waiting_50 (v4 + 1))) else (f_LawReader_read_L35 p1 v3 fuel length__45 waits_46 open__47 wantsOperand_48 isAsked steps_49 waiting_50 (v4 + 1)))))) else (zb4 (f_LawReader_readNumber length_ wantsOperand steps p1 v4 v3) fun r_57 length__58 wantsOperand_59 steps_60 => (if wantsOperand_59 = 0 then (zb4 (f_LawReader_releaseDownTo length__58 waits steps_60 waiting 6) fun r_62 length__63 waits_64 steps_65 => (f_LawReader_read_L35 p1 v3 fuel length__63 waits_64 (open_ - r_62) wantsOperand_59 isAsked steps_65 waiting (v4 + (if r_57 < 1 then 1 else r_57)))) else (f_LawReader_read_L35 p1 v3 fuel length__58 waits open_ wantsOperand_59 isAsked steps_60 waiting (v4 + (if r_57 < 1 then 1 else r_57)))))))))
def f_LawReader_read (length_ : Int32) (waits : Int32) (open_ : Int32) (wantsOperand : Int32) (isAsked : Int32) (steps : Nat → Int32) (waiting : Nat → Int32) (p1 : Nat → Int32) (x2 : Int32) : Option (Int32 × Int32 × Int32 × Int32 × Int32 × Int32 × (Nat → Int32) × (Nat → Int32)) := (zbs7 (f_LawReader_read_L35 p1 (if (120 : Int32) < x2 then 120 else x2) FU 0 0 0 1 0 steps waiting 0) (fun length__67 waits_68 open__69 wantsOperand_70 isAsked_71 steps_72 waiting_73 => (if wantsOperand_70 = 0 then (if open__69 ≤ 0 then (zb4 (f_LawReader_releaseDownTo length__67 waits_68 steps_72 waiting_73 1) fun r_77 length__78 waits_79 steps_80 => (zb2 (f_LawReader_addStep length__78 steps_80 ((-59) : Int32)) fun length__82 steps_83 => (some ((-2), length__82, waits_79, open__69, wantsOperand_70, isAsked_71, steps_83, waiting_73)))) else (some ((if (120 : Int32) < x2 then 120 else x2), length__67, waits_68, open__69, wantsOperand_70, isAsked_71, steps_72, waiting_73))) else (some ((if (120 : Int32) < x2 then 120 else x2), length__67, waits_68, open__69, wantsOperand_70, isAsked_71, steps_72, waiting_73)))) some)
set_option maxRecDepth 100000 in
set_option maxHeartbeats 4000000 in
theorem l_LawReader_read_35 {X : zX} (G : zG) (a_this : Nat) (a_steps : Nat) (a_waiting : Nat) (a_p1 : Nat) (p1 : Nat → Int32) (v3 : Int32) {v0 : Option Value} {w0 : va_W} (F : zF X G cX6_read RX6 6 (some .int) 4 86 v0 w0) (out : ((Int32 × Int32 × Int32 × Int32 × Int32 × (Nat → Int32) × (Nat → Int32)) ⊕ (Int32 × Int32 × Int32 × Int32 × Int32 × Int32 × (Nat → Int32) × (Nat → Int32)))) (hk : ∀ (e_length_ : Int32) (e_waits : Int32) (e_open_ : Int32) (e_wantsOperand : Int32) (e_isAsked : Int32) (e_steps : Nat → Int32) (e_waiting : Nat → Int32), out = .inl (e_length_, e_waits, e_open_, e_wantsOperand, e_isAsked, e_steps, e_waiting) → Z X G 6 (w_LawReader_read G a_this a_steps a_waiting a_p1 e_length_ e_waits e_open_ e_wantsOperand e_isAsked e_steps e_waiting p1) [(0, .ref a_this), (3, .int v3)] 144 []) (hr : ∀ q : Int32 × Int32 × Int32 × Int32 × Int32 × Int32 × (Nat → Int32) × (Nat → Int32), out = .inr q → v0 = some (.int q.1) ∧ w0 = (w_LawReader_read G a_this a_steps a_waiting a_p1 (q.2.1) (q.2.2.1) (q.2.2.2.1) (q.2.2.2.2.1) (q.2.2.2.2.2.1) (q.2.2.2.2.2.2.1) (q.2.2.2.2.2.2.2) p1)) :
    ∀ (fuel : Nat) (length_ : Int32) (waits : Int32) (open_ : Int32) (wantsOperand : Int32) (isAsked : Int32) (steps : Nat → Int32) (waiting : Nat → Int32) (v4 : Int32), f_LawReader_read_L35 p1 v3 fuel length_ waits open_ wantsOperand isAsked steps waiting v4 = some out → Z X G 6 (w_LawReader_read G a_this a_steps a_waiting a_p1 length_ waits open_ wantsOperand isAsked steps waiting p1) [(0, .ref a_this), (1, .ref a_p1), (3, .int v3), (4, .int v4)] 35 [] := by
  intro fuel
  induction fuel with
  | zero => intro length_ waits open_ wantsOperand isAsked steps waiting v4 hf; exact absurd ((f_LawReader_read_L35.eq_1 ..).symm.trans hf) (fun h => by cases h)
  | succ fuel ih =>
    intro length_ waits open_ wantsOperand isAsked steps waiting v4 hf
    replace hf := (f_LawReader_read_L35.eq_2 ..).symm.trans hf
    refine z_iload F 3 dX6_read_35 rfl ?_
    refine z_iload_n F 2 dX6_read_37 rfl rfl ?_
    refine z_icmp_ge F 144 dX6_read_38 (by decide) hf (fun hf _ => ?_) (fun hf _ => ?_)
    · exact z_sub [0, 2] rfl (hk _ _ _ _ _ _ _ (Option.some.inj hf).symm)
    · refine z_aload_n F 1 dX6_read_41 rfl rfl ?_
      refine z_iload F 3 dX6_read_42 rfl ?_
      refine z_iald F 3 rfl hf dX6_read_44 (fun v_1 hf => ?_)
      refine z_istore F [(5, .int v_1), (0, .ref a_this), (1, .ref a_p1), (3, .int v3), (4, .int v4)] dX6_read_45 (by decide) rfl ?_
      refine z_aload_n F 1 dX6_read_47 rfl rfl ?_
      refine z_get F 0 6 5 inlX6 rfl rfl (by decide) fl_X6_34 rfl dX6_read_48 ?_
      refine z_if_eq F 82 dX6_read_51 (by decide) hf (fun hf _ => ?_) (fun hf _ => ?_)
      · refine z_aload_n F 1 dX6_read_82 rfl rfl ?_
        refine z_get F 0 6 5 inlX6 rfl rfl (by decide) fl_X6_34 rfl dX6_read_83 ?_
        refine z_if_eq F 101 dX6_read_86 (by decide) hf (fun hf _ => ?_) (fun hf _ => ?_)
        · refine z_aload_n F 1 dX6_read_101 rfl rfl ?_
          refine z_iload F 0 dX6_read_102 rfl ?_
          obtain ⟨r_2, length__3, waits_4, open__5, wantsOperand_6, isAsked_7, steps_8, waiting_9, hg, hf⟩ := zb8_some hf
          refine z_callVm (rest := []) F 6 (c_LawReader_takesSign (xL X) G a_this a_steps a_waiting length_ waits open_ wantsOperand isAsked steps waiting v_1 r_2 length__3 waits_4 open__5 wantsOperand_6 isAsked_7 steps_8 waiting_9 hg) hy_X6_takesSign ml_X6_55 hd_X6_takesSign ⟨by omega, by omega⟩ rfl [0, 1, 2] rfl rfl 0 rfl rfl (w_LawReader_read G a_this a_steps a_waiting a_p1 length__3 waits_4 open__5 wantsOperand_6 isAsked_7 steps_8 waiting_9 p1) [some 0, some 1, some 2, none] rfl (by decide +kernel) rfl rfl (Nat.le_of_ble_eq_true rfl) dX6_read_104 (fun hz_10 => ?_)
          refine z_if_eq F 116 dX6_read_107 (by decide) hf (fun hf _ => ?_) (fun hf _ => ?_)
          · refine z_iload F 4 dX6_read_116 rfl ?_
            obtain ⟨e1, e2⟩ := hr _ (Option.some.inj hf).symm
            exact z_iret F rfl rfl e1.symm e2.symm dX6_read_118
          · refine z_iinc F [(4, .int (v4 + 1)), (5, .int v_1), (0, .ref a_this), (1, .ref a_p1), (3, .int v3)] dX6_read_110 4 rfl rfl (by decide) rfl ?_
            refine z_goto F 119 dX6_read_113 (by decide) ?_
            refine z_aload_n F 2 dX6_read_119 rfl rfl ?_
            refine z_get F 0 6 5 inlX6 rfl rfl (by decide) fl_X6_34 rfl dX6_read_120 ?_
            refine z_if_ne F 141 dX6_read_123 (by decide) hf (fun hf _ => ?_) (fun hf _ => ?_)
            · refine z_goto F 35 dX6_read_141 (by decide) ?_
              exact z_sub [2, 3, 4, 0] rfl (ih length__3 waits_4 open__5 wantsOperand_6 isAsked_7 steps_8 waiting_9 (v4 + 1) hf)
            · refine z_aload_n F 2 dX6_read_126 rfl rfl ?_
              refine z_dup F rfl dX6_read_127 ?_
              refine z_get F 0 6 4 inlX6 rfl rfl (by decide) fl_X6_31 rfl dX6_read_128 ?_
              refine z_aload_n F 2 dX6_read_131 rfl rfl ?_
              refine z_bipush F (6) dX6_read_132 rfl ?_
              obtain ⟨r_11, length__12, waits_13, steps_14, hg, hf⟩ := zb4_some hf
              refine z_callVm (rest := [.int open__5, .ref a_this]) F 6 (c_LawReader_releaseDownTo (xL X) G a_this a_steps a_waiting length__3 waits_4 open__5 wantsOperand_6 isAsked_7 steps_8 waiting_9 6 r_11 length__12 waits_13 steps_14 hg) hy_X6_releaseDownTo ml_X6_58 hd_X6_releaseDownTo ⟨by omega, by omega⟩ rfl [0, 1, 2] rfl rfl 0 rfl rfl (w_LawReader_read G a_this a_steps a_waiting a_p1 length__12 waits_13 open__5 wantsOperand_6 isAsked_7 steps_14 waiting_9 p1) [some 0, some 1, some 2, none] rfl (by decide +kernel) rfl rfl (Nat.le_of_ble_eq_true rfl) dX6_read_134 (fun hz_15 => ?_)
              refine z_isub F dX6_read_137 ?_
              refine z_put F 0 6 4 (w_LawReader_read G a_this a_steps a_waiting a_p1 length__12 waits_13 (open__5 - r_11) wantsOperand_6 isAsked_7 steps_14 waiting_9 p1) inlX6 tyX6 tyX6_ok nmX6 rfl rfl (by decide) fl_X6_31 rfl rfl rfl (Nat.le_of_ble_eq_true rfl) rfl dX6_read_138 ?_
              refine z_goto F 35 dX6_read_141 (by decide) ?_
              exact z_sub [2, 3, 4, 0] rfl (ih length__12 waits_13 (open__5 - r_11) wantsOperand_6 isAsked_7 steps_14 waiting_9 (v4 + 1) hf)
        · refine z_aload_n F 1 dX6_read_89 rfl rfl ?_
          refine z_iload F 0 dX6_read_90 rfl ?_
          obtain ⟨r_16, length__17, waits_18, open__19, wantsOperand_20, steps_21, waiting_22, hg, hf⟩ := zb7_some hf
          refine z_callVm (rest := []) F 6 (c_LawReader_takesOperand (xL X) G a_this a_steps a_waiting length_ waits open_ wantsOperand isAsked steps waiting v_1 r_16 length__17 waits_18 open__19 wantsOperand_20 steps_21 waiting_22 hg) hy_X6_takesOperand ml_X6_52 hd_X6_takesOperand ⟨by omega, by omega⟩ rfl [0, 1, 2] rfl rfl 0 rfl rfl (w_LawReader_read G a_this a_steps a_waiting a_p1 length__17 waits_18 open__19 wantsOperand_20 isAsked steps_21 waiting_22 p1) [some 0, some 1, some 2, none] rfl (by decide +kernel) rfl rfl (Nat.le_of_ble_eq_true rfl) dX6_read_92 (fun hz_23 => ?_)
          refine z_if_eq F 116 dX6_read_95 (by decide) hf (fun hf _ => ?_) (fun hf _ => ?_)
          · refine z_iload F 4 dX6_read_116 rfl ?_
            obtain ⟨e1, e2⟩ := hr _ (Option.some.inj hf).symm
            exact z_iret F rfl rfl e1.symm e2.symm dX6_read_118
          · refine z_goto F 110 dX6_read_98 (by decide) ?_
            refine z_iinc F [(4, .int (v4 + 1)), (5, .int v_1), (0, .ref a_this), (1, .ref a_p1), (3, .int v3)] dX6_read_110 4 rfl rfl (by decide) rfl ?_
            refine z_goto F 119 dX6_read_113 (by decide) ?_
            refine z_aload_n F 2 dX6_read_119 rfl rfl ?_
            refine z_get F 0 6 5 inlX6 rfl rfl (by decide) fl_X6_34 rfl dX6_read_120 ?_
            refine z_if_ne F 141 dX6_read_123 (by decide) hf (fun hf _ => ?_) (fun hf _ => ?_)
            · refine z_goto F 35 dX6_read_141 (by decide) ?_
              exact z_sub [2, 3, 4, 0] rfl (ih length__17 waits_18 open__19 wantsOperand_20 isAsked steps_21 waiting_22 (v4 + 1) hf)
            · refine z_aload_n F 2 dX6_read_126 rfl rfl ?_
              refine z_dup F rfl dX6_read_127 ?_
              refine z_get F 0 6 4 inlX6 rfl rfl (by decide) fl_X6_31 rfl dX6_read_128 ?_
              refine z_aload_n F 2 dX6_read_131 rfl rfl ?_
              refine z_bipush F (6) dX6_read_132 rfl ?_
              obtain ⟨r_24, length__25, waits_26, steps_27, hg, hf⟩ := zb4_some hf
              refine z_callVm (rest := [.int open__19, .ref a_this]) F 6 (c_LawReader_releaseDownTo (xL X) G a_this a_steps a_waiting length__17 waits_18 open__19 wantsOperand_20 isAsked steps_21 waiting_22 6 r_24 length__25 waits_26 steps_27 hg) hy_X6_releaseDownTo ml_X6_58 hd_X6_releaseDownTo ⟨by omega, by omega⟩ rfl [0, 1, 2] rfl rfl 0 rfl rfl (w_LawReader_read G a_this a_steps a_waiting a_p1 length__25 waits_26 open__19 wantsOperand_20 isAsked steps_27 waiting_22 p1) [some 0, some 1, some 2, none] rfl (by decide +kernel) rfl rfl (Nat.le_of_ble_eq_true rfl) dX6_read_134 (fun hz_28 => ?_)
              refine z_isub F dX6_read_137 ?_
              refine z_put F 0 6 4 (w_LawReader_read G a_this a_steps a_waiting a_p1 length__25 waits_26 (open__19 - r_24) wantsOperand_20 isAsked steps_27 waiting_22 p1) inlX6 tyX6 tyX6_ok nmX6 rfl rfl (by decide) fl_X6_31 rfl rfl rfl (Nat.le_of_ble_eq_true rfl) rfl dX6_read_138 ?_
              refine z_goto F 35 dX6_read_141 (by decide) ?_
              exact z_sub [2, 3, 4, 0] rfl (ih length__25 waits_26 (open__19 - r_24) wantsOperand_20 isAsked steps_27 waiting_22 (v4 + 1) hf)
      · refine z_iload F 0 dX6_read_54 rfl ?_
        refine z_callSm (rest := []) F (c_LawReader_isDigit (xL X) G v_1 _ rfl) hy_X6_isDigit ml_X6_41 hd_X6_isDigit ⟨by omega, by omega⟩ rfl [] rfl rfl (w_LawReader_read G a_this a_steps a_waiting a_p1 length_ waits open_ wantsOperand isAsked steps waiting p1) [none, none, none, none] rfl (by decide +kernel) rfl rfl (Nat.le_of_ble_eq_true rfl) dX6_read_56 (fun hz_29 => ?_)
        refine z_if_eq F 82 dX6_read_59 (by decide) hf (fun hf _ => ?_) (fun hf _ => ?_)
        · refine z_aload_n F 1 dX6_read_82 rfl rfl ?_
          refine z_get F 0 6 5 inlX6 rfl rfl (by decide) fl_X6_34 rfl dX6_read_83 ?_
          refine z_if_eq F 101 dX6_read_86 (by decide) hf (fun hf _ => ?_) (fun hf _ => ?_)
          · refine z_aload_n F 1 dX6_read_101 rfl rfl ?_
            refine z_iload F 0 dX6_read_102 rfl ?_
            obtain ⟨r_30, length__31, waits_32, open__33, wantsOperand_34, isAsked_35, steps_36, waiting_37, hg, hf⟩ := zb8_some hf
            refine z_callVm (rest := []) F 6 (c_LawReader_takesSign (xL X) G a_this a_steps a_waiting length_ waits open_ wantsOperand isAsked steps waiting v_1 r_30 length__31 waits_32 open__33 wantsOperand_34 isAsked_35 steps_36 waiting_37 hg) hy_X6_takesSign ml_X6_55 hd_X6_takesSign ⟨by omega, by omega⟩ rfl [0, 1, 2] rfl rfl 0 rfl rfl (w_LawReader_read G a_this a_steps a_waiting a_p1 length__31 waits_32 open__33 wantsOperand_34 isAsked_35 steps_36 waiting_37 p1) [some 0, some 1, some 2, none] rfl (by decide +kernel) rfl rfl (Nat.le_of_ble_eq_true rfl) dX6_read_104 (fun hz_38 => ?_)
            refine z_if_eq F 116 dX6_read_107 (by decide) hf (fun hf _ => ?_) (fun hf _ => ?_)
            · refine z_iload F 4 dX6_read_116 rfl ?_
              obtain ⟨e1, e2⟩ := hr _ (Option.some.inj hf).symm
              exact z_iret F rfl rfl e1.symm e2.symm dX6_read_118
            · refine z_iinc F [(4, .int (v4 + 1)), (5, .int v_1), (0, .ref a_this), (1, .ref a_p1), (3, .int v3)] dX6_read_110 4 rfl rfl (by decide) rfl ?_
              refine z_goto F 119 dX6_read_113 (by decide) ?_
              refine z_aload_n F 2 dX6_read_119 rfl rfl ?_
              refine z_get F 0 6 5 inlX6 rfl rfl (by decide) fl_X6_34 rfl dX6_read_120 ?_
              refine z_if_ne F 141 dX6_read_123 (by decide) hf (fun hf _ => ?_) (fun hf _ => ?_)
              · refine z_goto F 35 dX6_read_141 (by decide) ?_
                exact z_sub [2, 3, 4, 0] rfl (ih length__31 waits_32 open__33 wantsOperand_34 isAsked_35 steps_36 waiting_37 (v4 + 1) hf)
              · refine z_aload_n F 2 dX6_read_126 rfl rfl ?_
                refine z_dup F rfl dX6_read_127 ?_
                refine z_get F 0 6 4 inlX6 rfl rfl (by decide) fl_X6_31 rfl dX6_read_128 ?_
                refine z_aload_n F 2 dX6_read_131 rfl rfl ?_
                refine z_bipush F (6) dX6_read_132 rfl ?_
                obtain ⟨r_39, length__40, waits_41, steps_42, hg, hf⟩ := zb4_some hf
                refine z_callVm (rest := [.int open__33, .ref a_this]) F 6 (c_LawReader_releaseDownTo (xL X) G a_this a_steps a_waiting length__31 waits_32 open__33 wantsOperand_34 isAsked_35 steps_36 waiting_37 6 r_39 length__40 waits_41 steps_42 hg) hy_X6_releaseDownTo ml_X6_58 hd_X6_releaseDownTo ⟨by omega, by omega⟩ rfl [0, 1, 2] rfl rfl 0 rfl rfl (w_LawReader_read G a_this a_steps a_waiting a_p1 length__40 waits_41 open__33 wantsOperand_34 isAsked_35 steps_42 waiting_37 p1) [some 0, some 1, some 2, none] rfl (by decide +kernel) rfl rfl (Nat.le_of_ble_eq_true rfl) dX6_read_134 (fun hz_43 => ?_)
                refine z_isub F dX6_read_137 ?_
                refine z_put F 0 6 4 (w_LawReader_read G a_this a_steps a_waiting a_p1 length__40 waits_41 (open__33 - r_39) wantsOperand_34 isAsked_35 steps_42 waiting_37 p1) inlX6 tyX6 tyX6_ok nmX6 rfl rfl (by decide) fl_X6_31 rfl rfl rfl (Nat.le_of_ble_eq_true rfl) rfl dX6_read_138 ?_
                refine z_goto F 35 dX6_read_141 (by decide) ?_
                exact z_sub [2, 3, 4, 0] rfl (ih length__40 waits_41 (open__33 - r_39) wantsOperand_34 isAsked_35 steps_42 waiting_37 (v4 + 1) hf)
          · refine z_aload_n F 1 dX6_read_89 rfl rfl ?_
            refine z_iload F 0 dX6_read_90 rfl ?_
            obtain ⟨r_44, length__45, waits_46, open__47, wantsOperand_48, steps_49, waiting_50, hg, hf⟩ := zb7_some hf
            refine z_callVm (rest := []) F 6 (c_LawReader_takesOperand (xL X) G a_this a_steps a_waiting length_ waits open_ wantsOperand isAsked steps waiting v_1 r_44 length__45 waits_46 open__47 wantsOperand_48 steps_49 waiting_50 hg) hy_X6_takesOperand ml_X6_52 hd_X6_takesOperand ⟨by omega, by omega⟩ rfl [0, 1, 2] rfl rfl 0 rfl rfl (w_LawReader_read G a_this a_steps a_waiting a_p1 length__45 waits_46 open__47 wantsOperand_48 isAsked steps_49 waiting_50 p1) [some 0, some 1, some 2, none] rfl (by decide +kernel) rfl rfl (Nat.le_of_ble_eq_true rfl) dX6_read_92 (fun hz_51 => ?_)
            refine z_if_eq F 116 dX6_read_95 (by decide) hf (fun hf _ => ?_) (fun hf _ => ?_)
            · refine z_iload F 4 dX6_read_116 rfl ?_
              obtain ⟨e1, e2⟩ := hr _ (Option.some.inj hf).symm
              exact z_iret F rfl rfl e1.symm e2.symm dX6_read_118
            · refine z_goto F 110 dX6_read_98 (by decide) ?_
              refine z_iinc F [(4, .int (v4 + 1)), (5, .int v_1), (0, .ref a_this), (1, .ref a_p1), (3, .int v3)] dX6_read_110 4 rfl rfl (by decide) rfl ?_
              refine z_goto F 119 dX6_read_113 (by decide) ?_
              refine z_aload_n F 2 dX6_read_119 rfl rfl ?_
              refine z_get F 0 6 5 inlX6 rfl rfl (by decide) fl_X6_34 rfl dX6_read_120 ?_
              refine z_if_ne F 141 dX6_read_123 (by decide) hf (fun hf _ => ?_) (fun hf _ => ?_)
              · refine z_goto F 35 dX6_read_141 (by decide) ?_
                exact z_sub [2, 3, 4, 0] rfl (ih length__45 waits_46 open__47 wantsOperand_48 isAsked steps_49 waiting_50 (v4 + 1) hf)
              · refine z_aload_n F 2 dX6_read_126 rfl rfl ?_
                refine z_dup F rfl dX6_read_127 ?_
                refine z_get F 0 6 4 inlX6 rfl rfl (by decide) fl_X6_31 rfl dX6_read_128 ?_
                refine z_aload_n F 2 dX6_read_131 rfl rfl ?_
                refine z_bipush F (6) dX6_read_132 rfl ?_
                obtain ⟨r_52, length__53, waits_54, steps_55, hg, hf⟩ := zb4_some hf
                refine z_callVm (rest := [.int open__47, .ref a_this]) F 6 (c_LawReader_releaseDownTo (xL X) G a_this a_steps a_waiting length__45 waits_46 open__47 wantsOperand_48 isAsked steps_49 waiting_50 6 r_52 length__53 waits_54 steps_55 hg) hy_X6_releaseDownTo ml_X6_58 hd_X6_releaseDownTo ⟨by omega, by omega⟩ rfl [0, 1, 2] rfl rfl 0 rfl rfl (w_LawReader_read G a_this a_steps a_waiting a_p1 length__53 waits_54 open__47 wantsOperand_48 isAsked steps_55 waiting_50 p1) [some 0, some 1, some 2, none] rfl (by decide +kernel) rfl rfl (Nat.le_of_ble_eq_true rfl) dX6_read_134 (fun hz_56 => ?_)
                refine z_isub F dX6_read_137 ?_
                refine z_put F 0 6 4 (w_LawReader_read G a_this a_steps a_waiting a_p1 length__53 waits_54 (open__47 - r_52) wantsOperand_48 isAsked steps_55 waiting_50 p1) inlX6 tyX6 tyX6_ok nmX6 rfl rfl (by decide) fl_X6_31 rfl rfl rfl (Nat.le_of_ble_eq_true rfl) rfl dX6_read_138 ?_
                refine z_goto F 35 dX6_read_141 (by decide) ?_
                exact z_sub [2, 3, 4, 0] rfl (ih length__53 waits_54 (open__47 - r_52) wantsOperand_48 isAsked steps_55 waiting_50 (v4 + 1) hf)
        · refine z_iload F 4 dX6_read_62 rfl ?_
          refine z_aload_n F 1 dX6_read_64 rfl rfl ?_
          refine z_aload_n F 2 dX6_read_65 rfl rfl ?_
          refine z_iload F 4 dX6_read_66 rfl ?_
          refine z_iload_n F 3 dX6_read_68 rfl rfl ?_
          obtain ⟨r_57, length__58, wantsOperand_59, steps_60, hg, hf⟩ := zb4_some hf
          refine z_callVm (rest := [.int v4]) F 6 (c_LawReader_readNumber (xL X) G a_this a_steps a_waiting a_p1 length_ waits open_ wantsOperand isAsked steps p1 v4 v3 r_57 length__58 wantsOperand_59 steps_60 hg) hy_X6_readNumber ml_X6_45 hd_X6_readNumber ⟨by omega, by omega⟩ rfl [0, 1, 3] rfl rfl 0 rfl rfl (w_LawReader_read G a_this a_steps a_waiting a_p1 length__58 waits open_ wantsOperand_59 isAsked steps_60 waiting p1) [some 0, some 1, none, some 2] rfl (by decide +kernel) rfl rfl (Nat.le_of_ble_eq_true rfl) dX6_read_69 (fun hz_61 => ?_)
          refine z_iconst F (1) dX6_read_72 rfl ?_
          refine z_max F ⟨(uw23 _ (List.mem_of_getElem? (i := 10) rfl)), (uw23 _ (List.mem_of_getElem? (i := 11) rfl)), (uw23 _ (List.mem_of_getElem? (i := 3) rfl)), (uw23 _ (List.mem_of_getElem? (i := 12) rfl))⟩ (by omega) (Nat.le_of_ble_eq_true rfl) dX6_read_73 ?_
          refine z_iadd F dX6_read_76 ?_
          refine z_istore F [(4, .int (v4 + (if r_57 < 1 then 1 else r_57))), (5, .int v_1), (0, .ref a_this), (1, .ref a_p1), (3, .int v3)] dX6_read_77 (by decide) rfl ?_
          refine z_goto F 119 dX6_read_79 (by decide) ?_
          refine z_aload_n F 2 dX6_read_119 rfl rfl ?_
          refine z_get F 0 6 5 inlX6 rfl rfl (by decide) fl_X6_34 rfl dX6_read_120 ?_
          refine z_if_ne F 141 dX6_read_123 (by decide) hf (fun hf _ => ?_) (fun hf _ => ?_)
          · refine z_goto F 35 dX6_read_141 (by decide) ?_
            exact z_sub [2, 3, 4, 0] rfl (ih length__58 waits open_ wantsOperand_59 isAsked steps_60 waiting (v4 + (if r_57 < 1 then 1 else r_57)) hf)
          · refine z_aload_n F 2 dX6_read_126 rfl rfl ?_
            refine z_dup F rfl dX6_read_127 ?_
            refine z_get F 0 6 4 inlX6 rfl rfl (by decide) fl_X6_31 rfl dX6_read_128 ?_
            refine z_aload_n F 2 dX6_read_131 rfl rfl ?_
            refine z_bipush F (6) dX6_read_132 rfl ?_
            obtain ⟨r_62, length__63, waits_64, steps_65, hg, hf⟩ := zb4_some hf
            refine z_callVm (rest := [.int open_, .ref a_this]) F 6 (c_LawReader_releaseDownTo (xL X) G a_this a_steps a_waiting length__58 waits open_ wantsOperand_59 isAsked steps_60 waiting 6 r_62 length__63 waits_64 steps_65 hg) hy_X6_releaseDownTo ml_X6_58 hd_X6_releaseDownTo ⟨by omega, by omega⟩ rfl [0, 1, 2] rfl rfl 0 rfl rfl (w_LawReader_read G a_this a_steps a_waiting a_p1 length__63 waits_64 open_ wantsOperand_59 isAsked steps_65 waiting p1) [some 0, some 1, some 2, none] rfl (by decide +kernel) rfl rfl (Nat.le_of_ble_eq_true rfl) dX6_read_134 (fun hz_66 => ?_)
            refine z_isub F dX6_read_137 ?_
            refine z_put F 0 6 4 (w_LawReader_read G a_this a_steps a_waiting a_p1 length__63 waits_64 (open_ - r_62) wantsOperand_59 isAsked steps_65 waiting p1) inlX6 tyX6 tyX6_ok nmX6 rfl rfl (by decide) fl_X6_31 rfl rfl rfl (Nat.le_of_ble_eq_true rfl) rfl dX6_read_138 ?_
            refine z_goto F 35 dX6_read_141 (by decide) ?_
            exact z_sub [2, 3, 4, 0] rfl (ih length__63 waits_64 (open_ - r_62) wantsOperand_59 isAsked steps_65 waiting (v4 + (if r_57 < 1 then 1 else r_57)) hf)

set_option maxRecDepth 100000 in
set_option maxHeartbeats 4000000 in
theorem c_LawReader_read (l : Launch) (G : zG) (a_this : Nat) (a_steps : Nat) (a_waiting : Nat) (a_p1 : Nat) (length_ : Int32) (waits : Int32) (open_ : Int32) (wantsOperand : Int32) (isAsked : Int32) (steps : Nat → Int32) (waiting : Nat → Int32) (p1 : Nat → Int32) (x2 : Int32) (r_ : Int32) (o_length_ : Int32) (o_waits : Int32) (o_open_ : Int32) (o_wantsOperand : Int32) (o_isAsked : Int32) (o_steps : Nat → Int32) (o_waiting : Nat → Int32) (hf : f_LawReader_read length_ waits open_ wantsOperand isAsked steps waiting p1 x2 = some (r_, o_length_, o_waits, o_open_, o_wantsOperand, o_isAsked, o_steps, o_waiting)) : zM l yX6_read cX6_read 6 (some .int) 4 86 G [.ref a_this, .ref a_p1, .int x2] (w_LawReader_read G a_this a_steps a_waiting a_p1 length_ waits open_ wantsOperand isAsked steps waiting p1) (some (.int r_)) (w_LawReader_read G a_this a_steps a_waiting a_p1 o_length_ o_waits o_open_ o_wantsOperand o_isAsked o_steps o_waiting p1) := by
  refine zM.of [(0, .ref a_this), (1, .ref a_p1), (2, .int x2)] (own := RX6) rfl (by decide +kernel) (Nat.le_of_ble_eq_true rfl) rfl rfl fun X hX F => ?_
  subst hX
  replace hf := (f_LawReader_read.eq_1 ..).symm.trans hf
  refine z_iload_n F 2 dX6_read_0 rfl rfl ?_
  refine z_aload_n F 1 dX6_read_1 rfl rfl ?_
  refine z_alen F 3 0 120 rfl rfl rfl dX6_read_2 ?_
  refine z_min F ⟨(uw23 _ (List.mem_of_getElem? (i := 1) rfl)), (uw23 _ (List.mem_of_getElem? (i := 2) rfl)), (uw23 _ (List.mem_of_getElem? (i := 3) rfl)), (uw23 _ (List.mem_of_getElem? (i := 4) rfl))⟩ (by omega) (Nat.le_of_ble_eq_true rfl) dX6_read_3 ?_
  refine z_istore_n F [(3, .int (if (120 : Int32) < x2 then 120 else x2)), (0, .ref a_this), (1, .ref a_p1), (2, .int x2)] dX6_read_6 rfl (by decide) rfl ?_
  refine z_aload_n F 1 dX6_read_7 rfl rfl ?_
  refine z_iconst F (0) dX6_read_8 rfl ?_
  refine z_put F 0 6 1 (w_LawReader_read G a_this a_steps a_waiting a_p1 0 waits open_ wantsOperand isAsked steps waiting p1) inlX6 tyX6 tyX6_ok nmX6 rfl rfl (by decide) fl_X6_24 rfl rfl rfl (Nat.le_of_ble_eq_true rfl) rfl dX6_read_9 ?_
  refine z_aload_n F 1 dX6_read_12 rfl rfl ?_
  refine z_iconst F (0) dX6_read_13 rfl ?_
  refine z_put F 0 6 3 (w_LawReader_read G a_this a_steps a_waiting a_p1 0 0 open_ wantsOperand isAsked steps waiting p1) inlX6 tyX6 tyX6_ok nmX6 rfl rfl (by decide) fl_X6_28 rfl rfl rfl (Nat.le_of_ble_eq_true rfl) rfl dX6_read_14 ?_
  refine z_aload_n F 1 dX6_read_17 rfl rfl ?_
  refine z_iconst F (0) dX6_read_18 rfl ?_
  refine z_put F 0 6 4 (w_LawReader_read G a_this a_steps a_waiting a_p1 0 0 0 wantsOperand isAsked steps waiting p1) inlX6 tyX6 tyX6_ok nmX6 rfl rfl (by decide) fl_X6_31 rfl rfl rfl (Nat.le_of_ble_eq_true rfl) rfl dX6_read_19 ?_
  refine z_aload_n F 1 dX6_read_22 rfl rfl ?_
  refine z_iconst F (1) dX6_read_23 rfl ?_
  refine z_put F 0 6 5 (w_LawReader_read G a_this a_steps a_waiting a_p1 0 0 0 1 isAsked steps waiting p1) inlX6 tyX6 tyX6_ok nmX6 rfl rfl (by decide) fl_X6_34 rfl rfl rfl (Nat.le_of_ble_eq_true rfl) rfl dX6_read_24 ?_
  refine z_aload_n F 1 dX6_read_27 rfl rfl ?_
  refine z_iconst F (0) dX6_read_28 rfl ?_
  refine z_put F 0 6 6 (w_LawReader_read G a_this a_steps a_waiting a_p1 0 0 0 1 0 steps waiting p1) inlX6 tyX6 tyX6_ok nmX6 rfl rfl (by decide) fl_X6_38 rfl rfl rfl (Nat.le_of_ble_eq_true rfl) rfl dX6_read_29 ?_
  refine z_iconst F (0) dX6_read_32 rfl ?_
  refine z_istore F [(4, .int 0), (3, .int (if (120 : Int32) < x2 then 120 else x2)), (0, .ref a_this), (1, .ref a_p1), (2, .int x2)] dX6_read_33 (by decide) rfl ?_
  obtain ⟨z_74, hg, hf1_75, hf2_76⟩ := zbs7_some hf
  refine z_sub [2, 3, 1, 0] rfl ?_
  refine l_LawReader_read_35 G a_this a_steps a_waiting a_p1 p1 (if (120 : Int32) < x2 then 120 else x2) F z_74 (fun length__67 waits_68 open__69 wantsOperand_70 isAsked_71 steps_72 waiting_73 e => ?_) (fun q e => ?_) FU 0 0 0 1 0 steps waiting 0 hg
  · have hf := hf1_75 _ _ _ _ _ _ _ e
    refine z_aload_n F 0 dX6_read_144 rfl rfl ?_
    refine z_get F 0 6 5 inlX6 rfl rfl (by decide) fl_X6_34 rfl dX6_read_145 ?_
    refine z_if_ne F 158 dX6_read_148 (by decide) hf (fun hf _ => ?_) (fun hf _ => ?_)
    · refine z_iload_n F 1 dX6_read_158 rfl rfl ?_
      have eq1 := Option.some.inj hf
      obtain ⟨ee1, eq2⟩ := Prod.mk.inj eq1
      obtain ⟨ee2, eq3⟩ := Prod.mk.inj eq2
      obtain ⟨ee3, eq4⟩ := Prod.mk.inj eq3
      obtain ⟨ee4, eq5⟩ := Prod.mk.inj eq4
      obtain ⟨ee5, eq6⟩ := Prod.mk.inj eq5
      obtain ⟨ee6, eq7⟩ := Prod.mk.inj eq6
      obtain ⟨ee7, ee8⟩ := Prod.mk.inj eq7
      subst ee1
      subst ee2
      subst ee3
      subst ee4
      subst ee5
      subst ee6
      subst ee7
      subst ee8
      exact z_iret F rfl rfl rfl rfl dX6_read_159
    · refine z_aload_n F 0 dX6_read_151 rfl rfl ?_
      refine z_get F 0 6 4 inlX6 rfl rfl (by decide) fl_X6_31 rfl dX6_read_152 ?_
      refine z_if_le F 160 dX6_read_155 (by decide) hf (fun hf _ => ?_) (fun hf _ => ?_)
      · refine z_aload_n F 0 dX6_read_160 rfl rfl ?_
        refine z_iconst F (1) dX6_read_161 rfl ?_
        obtain ⟨r_77, length__78, waits_79, steps_80, hg, hf⟩ := zb4_some hf
        refine z_callVm (rest := []) F 6 (c_LawReader_releaseDownTo (xL X) G a_this a_steps a_waiting length__67 waits_68 open__69 wantsOperand_70 isAsked_71 steps_72 waiting_73 1 r_77 length__78 waits_79 steps_80 hg) hy_X6_releaseDownTo ml_X6_58 hd_X6_releaseDownTo ⟨by omega, by omega⟩ rfl [0, 1, 2] rfl rfl 0 rfl rfl (w_LawReader_read G a_this a_steps a_waiting a_p1 length__78 waits_79 open__69 wantsOperand_70 isAsked_71 steps_80 waiting_73 p1) [some 0, some 1, some 2, none] rfl (by decide +kernel) rfl rfl (Nat.le_of_ble_eq_true rfl) dX6_read_162 (fun hz_81 => ?_)
        refine z_pop F rfl dX6_read_165 ?_
        refine z_aload_n F 0 dX6_read_166 rfl rfl ?_
        refine z_bipush F (-59) dX6_read_167 rfl ?_
        obtain ⟨length__82, steps_83, hg, hf⟩ := zb2_some hf
        refine z_callVm (rest := []) F 6 (c_LawReader_addStep (xL X) G a_this a_steps a_waiting length__78 waits_79 open__69 wantsOperand_70 isAsked_71 steps_80 (-59) length__82 steps_83 hg) hy_X6_addStep ml_X6_62 hd_X6_addStep ⟨by omega, by omega⟩ rfl [0, 1] rfl rfl 0 rfl rfl (w_LawReader_read G a_this a_steps a_waiting a_p1 length__82 waits_79 open__69 wantsOperand_70 isAsked_71 steps_83 waiting_73 p1) [some 0, some 1, none, none] rfl (by decide +kernel) rfl rfl (Nat.le_of_ble_eq_true rfl) dX6_read_169 (fun hz_84 => ?_)
        refine z_bipush F (-2) dX6_read_172 rfl ?_
        have eq1 := Option.some.inj hf
        obtain ⟨ee1, eq2⟩ := Prod.mk.inj eq1
        obtain ⟨ee2, eq3⟩ := Prod.mk.inj eq2
        obtain ⟨ee3, eq4⟩ := Prod.mk.inj eq3
        obtain ⟨ee4, eq5⟩ := Prod.mk.inj eq4
        obtain ⟨ee5, eq6⟩ := Prod.mk.inj eq5
        obtain ⟨ee6, eq7⟩ := Prod.mk.inj eq6
        obtain ⟨ee7, ee8⟩ := Prod.mk.inj eq7
        subst ee1
        subst ee2
        subst ee3
        subst ee4
        subst ee5
        subst ee6
        subst ee7
        subst ee8
        exact z_iret F rfl rfl rfl rfl dX6_read_174
      · refine z_iload_n F 1 dX6_read_158 rfl rfl ?_
        have eq1 := Option.some.inj hf
        obtain ⟨ee1, eq2⟩ := Prod.mk.inj eq1
        obtain ⟨ee2, eq3⟩ := Prod.mk.inj eq2
        obtain ⟨ee3, eq4⟩ := Prod.mk.inj eq3
        obtain ⟨ee4, eq5⟩ := Prod.mk.inj eq4
        obtain ⟨ee5, eq6⟩ := Prod.mk.inj eq5
        obtain ⟨ee6, eq7⟩ := Prod.mk.inj eq6
        obtain ⟨ee7, ee8⟩ := Prod.mk.inj eq7
        subst ee1
        subst ee2
        subst ee3
        subst ee4
        subst ee5
        subst ee6
        subst ee7
        subst ee8
        exact z_iret F rfl rfl rfl rfl dX6_read_159
  · have hf := hf2_76 _ e
    cases hf
    exact ⟨rfl, rfl⟩

abbrev w_LawReader_copySteps (G : zG) (a_this : Nat) (a_steps : Nat) (a_waiting : Nat) (a_p1 : Nat) (length_ : Int32) (waits : Int32) (open_ : Int32) (wantsOperand : Int32) (isAsked : Int32) (steps : Nat → Int32) (p1 : Nat → Int32) : va_W := [(a_this, cO 6 [.ref a_steps, .int length_, .ref a_waiting, .int waits, .int open_, .int wantsOperand, .int isAsked]), (a_steps, cI G 121 steps), (a_p1, cI G 121 p1)]
def f_LawReader_copySteps (length_ : Int32) (steps : Nat → Int32) (p1 : Nat → Int32) : Option (Int32 × (Nat → Int32)) := (zcp steps p1 121 121 0 0 (if (121 : Int32) < length_ then 121 else length_) fun p1_1 => (some ((if (121 : Int32) < length_ then 121 else length_), p1_1)))
set_option maxRecDepth 100000 in
set_option maxHeartbeats 4000000 in
theorem c_LawReader_copySteps (l : Launch) (G : zG) (a_this : Nat) (a_steps : Nat) (a_waiting : Nat) (a_p1 : Nat) (length_ : Int32) (waits : Int32) (open_ : Int32) (wantsOperand : Int32) (isAsked : Int32) (steps : Nat → Int32) (p1 : Nat → Int32) (r_ : Int32) (o_p1 : Nat → Int32) (hf : f_LawReader_copySteps length_ steps p1 = some (r_, o_p1)) : zM l yX6_copySteps cX6_copySteps 3 (some .int) 1 120 G [.ref a_this, .ref a_p1] (w_LawReader_copySteps G a_this a_steps a_waiting a_p1 length_ waits open_ wantsOperand isAsked steps p1) (some (.int r_)) (w_LawReader_copySteps G a_this a_steps a_waiting a_p1 length_ waits open_ wantsOperand isAsked steps o_p1) := by
  refine zM.of [(0, .ref a_this), (1, .ref a_p1)] (own := RX6) rfl (by decide +kernel) (Nat.le_of_ble_eq_true rfl) rfl rfl fun X hX F => ?_
  subst hX
  replace hf := (f_LawReader_copySteps.eq_1 ..).symm.trans hf
  refine z_aload_n F 0 dX6_copySteps_0 rfl rfl ?_
  refine z_get F 0 6 1 inlX6 rfl rfl (by decide) fl_X6_24 rfl dX6_copySteps_1 ?_
  refine z_aload_n F 1 dX6_copySteps_4 rfl rfl ?_
  refine z_alen F 2 0 121 rfl rfl rfl dX6_copySteps_5 ?_
  refine z_min F ⟨(uw23 _ (List.mem_of_getElem? (i := 1) rfl)), (uw23 _ (List.mem_of_getElem? (i := 2) rfl)), (uw23 _ (List.mem_of_getElem? (i := 3) rfl)), (uw23 _ (List.mem_of_getElem? (i := 4) rfl))⟩ (by omega) (Nat.le_of_ble_eq_true rfl) dX6_copySteps_6 ?_
  refine z_istore_n F [(2, .int (if (121 : Int32) < length_ then 121 else length_)), (0, .ref a_this), (1, .ref a_p1)] dX6_copySteps_9 rfl (by decide) rfl ?_
  refine z_aload_n F 1 dX6_copySteps_10 rfl rfl ?_
  refine z_get F 0 6 0 inlX6 rfl rfl (by decide) fl_X6_9 rfl dX6_copySteps_11 ?_
  refine z_iconst F (0) dX6_copySteps_14 rfl ?_
  refine z_aload_n F 2 dX6_copySteps_15 rfl rfl ?_
  refine z_iconst F (0) dX6_copySteps_16 rfl ?_
  refine z_iload_n F 0 dX6_copySteps_17 rfl rfl ?_
  refine z_cpi F 1 2 (fun p1_1 => (w_LawReader_copySteps G a_this a_steps a_waiting a_p1 length_ waits open_ wantsOperand isAsked steps p1_1)) ⟨(uw25 _ (List.mem_of_getElem? (i := 15) rfl)), (uw13 _ (List.mem_of_getElem? (i := 14) rfl)), (uw13 _ (List.mem_of_getElem? (i := 15) rfl)), (uw13 _ (List.mem_of_getElem? (i := 16) rfl))⟩ rfl rfl hf (fun _ => rfl) (by omega) (Nat.le_of_ble_eq_true rfl) dX6_copySteps_18 (fun p1_1 hf => ?_)
  refine z_iload_n F 0 dX6_copySteps_21 rfl rfl ?_
  have eq1 := Option.some.inj hf
  obtain ⟨ee1, ee2⟩ := Prod.mk.inj eq1
  subst ee1
  subst ee2
  exact z_iret F rfl rfl rfl rfl dX6_copySteps_22

