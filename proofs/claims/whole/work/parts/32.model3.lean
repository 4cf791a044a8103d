/-! by program (wip/whole/gen.py): pure functions and contracts -/
theorem dX12_workOut_0 : decode cX12_workOut 0 = .ok (.aload_n 0, 1) := by decide +kernel
theorem dX12_workOut_1 : decode cX12_workOut 1 = .ok (.iload_n 1, 1) := by decide +kernel
theorem dX12_workOut_2 : decode cX12_workOut 2 = .ok (.putfield 139, 3) := by decide +kernel
theorem dX12_workOut_5 : decode cX12_workOut 5 = .ok (.aload_n 0, 1) := by decide +kernel
theorem dX12_workOut_6 : decode cX12_workOut 6 = .ok (.iconst 0, 1) := by decide +kernel
theorem dX12_workOut_7 : decode cX12_workOut 7 = .ok (.putfield 133, 3) := by decide +kernel
theorem dX12_workOut_10 : decode cX12_workOut 10 = .ok (.aload_n 0, 1) := by decide +kernel
theorem dX12_workOut_11 : decode cX12_workOut 11 = .ok (.iload_n 2, 1) := by decide +kernel
theorem dX12_workOut_12 : decode cX12_workOut 12 = .ok (.putfield 136, 3) := by decide +kernel
theorem dX12_workOut_15 : decode cX12_workOut 15 = .ok (.aload_n 0, 1) := by decide +kernel
theorem dX12_workOut_16 : decode cX12_workOut 16 = .ok (.iconst (-1), 1) := by decide +kernel
theorem dX12_workOut_17 : decode cX12_workOut 17 = .ok (.putfield 142, 3) := by decide +kernel
theorem dX12_workOut_20 : decode cX12_workOut 20 = .ok (.aload_n 0, 1) := by decide +kernel
theorem dX12_workOut_21 : decode cX12_workOut 21 = .ok (.iconst 0, 1) := by decide +kernel
theorem dX12_workOut_22 : decode cX12_workOut 22 = .ok (.putfield 167, 3) := by decide +kernel
theorem dX12_workOut_25 : decode cX12_workOut 25 = .ok (.iconst 0, 1) := by decide +kernel
theorem dX12_workOut_26 : decode cX12_workOut 26 = .ok (.istore_n 3, 1) := by decide +kernel
theorem dX12_workOut_27 : decode cX12_workOut 27 = .ok (.iconst 0, 1) := by decide +kernel
theorem dX12_workOut_28 : decode cX12_workOut 28 = .ok (.istore 4, 2) := by decide +kernel
theorem dX12_workOut_30 : decode cX12_workOut 30 = .ok (.iconst 1, 1) := by decide +kernel
theorem dX12_workOut_31 : decode cX12_workOut 31 = .ok (.istore 5, 2) := by decide +kernel
theorem dX12_workOut_33 : decode cX12_workOut 33 = .ok (.iload 5, 2) := by decide +kernel
theorem dX12_workOut_35 : decode cX12_workOut 35 = .ok (.ifCond .eq 72, 3) := by decide +kernel
theorem dX12_workOut_38 : decode cX12_workOut 38 = .ok (.aload_n 0, 1) := by decide +kernel
theorem dX12_workOut_39 : decode cX12_workOut 39 = .ok (.invokevirtual 173, 3) := by decide +kernel
theorem dX12_workOut_42 : decode cX12_workOut 42 = .ok (.istore 6, 2) := by decide +kernel
theorem dX12_workOut_44 : decode cX12_workOut 44 = .ok (.iconst 1, 1) := by decide +kernel
theorem dX12_workOut_45 : decode cX12_workOut 45 = .ok (.istore 7, 2) := by decide +kernel
theorem dX12_workOut_47 : decode cX12_workOut 47 = .ok (.aload_n 0, 1) := by decide +kernel
theorem dX12_workOut_48 : decode cX12_workOut 48 = .ok (.bipush 63, 2) := by decide +kernel
theorem dX12_workOut_50 : decode cX12_workOut 50 = .ok (.invokevirtual 152, 3) := by decide +kernel
theorem dX12_workOut_53 : decode cX12_workOut 53 = .ok (.ifCond .eq 21, 3) := by decide +kernel
theorem dX12_workOut_56 : decode cX12_workOut 56 = .ok (.iload 6, 2) := by decide +kernel
theorem dX12_workOut_58 : decode cX12_workOut 58 = .ok (.ifCond .eq 7, 3) := by decide +kernel
theorem dX12_workOut_61 : decode cX12_workOut 61 = .ok (.iconst 1, 1) := by decide +kernel
theorem dX12_workOut_62 : decode cX12_workOut 62 = .ok (.goto 4, 3) := by decide +kernel
theorem dX12_workOut_65 : decode cX12_workOut 65 = .ok (.iconst 0, 1) := by decide +kernel
theorem dX12_workOut_66 : decode cX12_workOut 66 = .ok (.istore 7, 2) := by decide +kernel
theorem dX12_workOut_68 : decode cX12_workOut 68 = .ok (.aload_n 0, 1) := by decide +kernel
theorem dX12_workOut_69 : decode cX12_workOut 69 = .ok (.invokevirtual 173, 3) := by decide +kernel
theorem dX12_workOut_72 : decode cX12_workOut 72 = .ok (.istore 6, 2) := by decide +kernel
theorem dX12_workOut_74 : decode cX12_workOut 74 = .ok (.aload_n 0, 1) := by decide +kernel
theorem dX12_workOut_75 : decode cX12_workOut 75 = .ok (.getfield 142, 3) := by decide +kernel
theorem dX12_workOut_78 : decode cX12_workOut 78 = .ok (.ifCond .ge 18, 3) := by decide +kernel
theorem dX12_workOut_81 : decode cX12_workOut 81 = .ok (.iload 7, 2) := by decide +kernel
theorem dX12_workOut_83 : decode cX12_workOut 83 = .ok (.ifCond .eq 13, 3) := by decide +kernel
theorem dX12_workOut_86 : decode cX12_workOut 86 = .ok (.iload_n 3, 1) := by decide +kernel
theorem dX12_workOut_87 : decode cX12_workOut 87 = .ok (.ifCond .ne 9, 3) := by decide +kernel
theorem dX12_workOut_90 : decode cX12_workOut 90 = .ok (.iconst 1, 1) := by decide +kernel
theorem dX12_workOut_91 : decode cX12_workOut 91 = .ok (.istore_n 3, 1) := by decide +kernel
theorem dX12_workOut_92 : decode cX12_workOut 92 = .ok (.iload 6, 2) := by decide +kernel
theorem dX12_workOut_94 : decode cX12_workOut 94 = .ok (.istore 4, 2) := by decide +kernel
theorem dX12_workOut_96 : decode cX12_workOut 96 = .ok (.aload_n 0, 1) := by decide +kernel
theorem dX12_workOut_97 : decode cX12_workOut 97 = .ok (.bipush 59, 2) := by decide +kernel
theorem dX12_workOut_99 : decode cX12_workOut 99 = .ok (.invokevirtual 152, 3) := by decide +kernel
theorem dX12_workOut_102 : decode cX12_workOut 102 = .ok (.istore 5, 2) := by decide +kernel
theorem dX12_workOut_104 : decode cX12_workOut 104 = .ok (.goto (-71), 3) := by decide +kernel
theorem dX12_workOut_107 : decode cX12_workOut 107 = .ok (.aload_n 0, 1) := by decide +kernel
theorem dX12_workOut_108 : decode cX12_workOut 108 = .ok (.getfield 142, 3) := by decide +kernel
theorem dX12_workOut_111 : decode cX12_workOut 111 = .ok (.ifCond .ge 19, 3) := by decide +kernel
theorem dX12_workOut_114 : decode cX12_workOut 114 = .ok (.aload_n 0, 1) := by decide +kernel
theorem dX12_workOut_115 : decode cX12_workOut 115 = .ok (.getfield 133, 3) := by decide +kernel
theorem dX12_workOut_118 : decode cX12_workOut 118 = .ok (.aload_n 0, 1) := by decide +kernel
theorem dX12_workOut_119 : decode cX12_workOut 119 = .ok (.getfield 136, 3) := by decide +kernel
theorem dX12_workOut_122 : decode cX12_workOut 122 = .ok (.if_icmp .ge 8, 3) := by decide +kernel
theorem dX12_workOut_125 : decode cX12_workOut 125 = .ok (.aload_n 0, 1) := by decide +kernel
theorem dX12_workOut_126 : decode cX12_workOut 126 = .ok (.invokevirtual 170, 3) := by decide +kernel
theorem dX12_workOut_129 : decode cX12_workOut 129 = .ok (.ireturn, 1) := by decide +kernel
theorem dX12_workOut_130 : decode cX12_workOut 130 = .ok (.iload 4, 2) := by decide +kernel
theorem dX12_workOut_132 : decode cX12_workOut 132 = .ok (.ireturn, 1) := by decide +kernel
theorem dX12_law_0 : decode cX12_law 0 = .ok (.aload_n 0, 1) := by decide +kernel
theorem dX12_law_1 : decode cX12_law 1 = .ok (.iconst (-1), 1) := by decide +kernel
theorem dX12_law_2 : decode cX12_law 2 = .ok (.aload_n 0, 1) := by decide +kernel
theorem dX12_law_3 : decode cX12_law 3 = .ok (.getfield 130, 3) := by decide +kernel
theorem dX12_law_6 : decode cX12_law 6 = .ok (.invokevirtual 180, 3) := by decide +kernel
theorem dX12_law_9 : decode cX12_law 9 = .ok (.istore_n 1, 1) := by decide +kernel
theorem dX12_law_10 : decode cX12_law 10 = .ok (.aload_n 0, 1) := by decide +kernel
theorem dX12_law_11 : decode cX12_law 11 = .ok (.getfield 130, 3) := by decide +kernel
theorem dX12_law_14 : decode cX12_law 14 = .ok (.istore_n 2, 1) := by decide +kernel
theorem dX12_law_15 : decode cX12_law 15 = .ok (.aload_n 0, 1) := by decide +kernel
theorem dX12_law_16 : decode cX12_law 16 = .ok (.iconst 0, 1) := by decide +kernel
theorem dX12_law_17 : decode cX12_law 17 = .ok (.putfield 130, 3) := by decide +kernel
theorem dX12_law_20 : decode cX12_law 20 = .ok (.aload_n 0, 1) := by decide +kernel
theorem dX12_law_21 : decode cX12_law 21 = .ok (.getfield 142, 3) := by decide +kernel
theorem dX12_law_24 : decode cX12_law 24 = .ok (.ifCond .lt 11, 3) := by decide +kernel
theorem dX12_law_27 : decode cX12_law 27 = .ok (.bipush (-100), 2) := by decide +kernel
theorem dX12_law_29 : decode cX12_law 29 = .ok (.aload_n 0, 1) := by decide +kernel
theorem dX12_law_30 : decode cX12_law 30 = .ok (.getfield 142, 3) := by decide +kernel
theorem dX12_law_33 : decode cX12_law 33 = .ok (.isub, 1) := by decide +kernel
theorem dX12_law_34 : decode cX12_law 34 = .ok (.ireturn, 1) := by decide +kernel
theorem dX12_law_35 : decode cX12_law 35 = .ok (.iconst 0, 1) := by decide +kernel
theorem dX12_law_36 : decode cX12_law 36 = .ok (.istore_n 3, 1) := by decide +kernel
theorem dX12_law_37 : decode cX12_law 37 = .ok (.iload_n 3, 1) := by decide +kernel
theorem dX12_law_38 : decode cX12_law 38 = .ok (.iload_n 2, 1) := by decide +kernel
theorem dX12_law_39 : decode cX12_law 39 = .ok (.if_icmp .ge 21, 3) := by decide +kernel
theorem dX12_law_42 : decode cX12_law 42 = .ok (.aload_n 0, 1) := by decide +kernel
theorem dX12_law_43 : decode cX12_law 43 = .ok (.getfield 25, 3) := by decide +kernel
theorem dX12_law_46 : decode cX12_law 46 = .ok (.iload_n 3, 1) := by decide +kernel
theorem dX12_law_47 : decode cX12_law 47 = .ok (.aload_n 0, 1) := by decide +kernel
theorem dX12_law_48 : decode cX12_law 48 = .ok (.getfield 22, 3) := by decide +kernel
theorem dX12_law_51 : decode cX12_law 51 = .ok (.iload_n 3, 1) := by decide +kernel
theorem dX12_law_52 : decode cX12_law 52 = .ok (.iaload, 1) := by decide +kernel
theorem dX12_law_53 : decode cX12_law 53 = .ok (.iastore, 1) := by decide +kernel
theorem dX12_law_54 : decode cX12_law 54 = .ok (.iinc 3 1, 3) := by decide +kernel
theorem dX12_law_57 : decode cX12_law 57 = .ok (.goto (-20), 3) := by decide +kernel
theorem dX12_law_60 : decode cX12_law 60 = .ok (.aload_n 0, 1) := by decide +kernel
theorem dX12_law_61 : decode cX12_law 61 = .ok (.iload_n 2, 1) := by decide +kernel
theorem dX12_law_62 : decode cX12_law 62 = .ok (.putfield 89, 3) := by decide +kernel
theorem dX12_law_65 : decode cX12_law 65 = .ok (.iconst 1, 1) := by decide +kernel
theorem dX12_law_66 : decode cX12_law 66 = .ok (.ireturn, 1) := by decide +kernel
theorem dX12_laysOut_0 : decode cX12_laysOut 0 = .ok (.aload_n 0, 1) := by decide +kernel
theorem dX12_laysOut_1 : decode cX12_laysOut 1 = .ok (.aload_n 0, 1) := by decide +kernel
theorem dX12_laysOut_2 : decode cX12_laysOut 2 = .ok (.getfield 100, 3) := by decide +kernel
theorem dX12_laysOut_5 : decode cX12_laysOut 5 = .ok (.putfield 184, 3) := by decide +kernel
theorem dX12_laysOut_8 : decode cX12_laysOut 8 = .ok (.iconst 0, 1) := by decide +kernel
theorem dX12_laysOut_9 : decode cX12_laysOut 9 = .ok (.istore_n 1, 1) := by decide +kernel
theorem dX12_laysOut_10 : decode cX12_laysOut 10 = .ok (.iload_n 1, 1) := by decide +kernel
theorem dX12_laysOut_11 : decode cX12_laysOut 11 = .ok (.aload_n 0, 1) := by decide +kernel
theorem dX12_laysOut_12 : decode cX12_laysOut 12 = .ok (.getfield 100, 3) := by decide +kernel
theorem dX12_laysOut_15 : decode cX12_laysOut 15 = .ok (.if_icmp .ge 21, 3) := by decide +kernel
theorem dX12_laysOut_18 : decode cX12_laysOut 18 = .ok (.aload_n 0, 1) := by decide +kernel
theorem dX12_laysOut_19 : decode cX12_laysOut 19 = .ok (.getfield 34, 3) := by decide +kernel
theorem dX12_laysOut_22 : decode cX12_laysOut 22 = .ok (.iload_n 1, 1) := by decide +kernel
theorem dX12_laysOut_23 : decode cX12_laysOut 23 = .ok (.aload_n 0, 1) := by decide +kernel
theorem dX12_laysOut_24 : decode cX12_laysOut 24 = .ok (.getfield 31, 3) := by decide +kernel
theorem dX12_laysOut_27 : decode cX12_laysOut 27 = .ok (.iload_n 1, 1) := by decide +kernel
theorem dX12_laysOut_28 : decode cX12_laysOut 28 = .ok (.iaload, 1) := by decide +kernel
theorem dX12_laysOut_29 : decode cX12_laysOut 29 = .ok (.iastore, 1) := by decide +kernel
theorem dX12_laysOut_30 : decode cX12_laysOut 30 = .ok (.iinc 1 1, 3) := by decide +kernel
theorem dX12_laysOut_33 : decode cX12_laysOut 33 = .ok (.goto (-23), 3) := by decide +kernel
theorem dX12_laysOut_36 : decode cX12_laysOut 36 = .ok (.aload_n 0, 1) := by decide +kernel
theorem dX12_laysOut_37 : decode cX12_laysOut 37 = .ok (.iconst (-1), 1) := by decide +kernel
theorem dX12_laysOut_38 : decode cX12_laysOut 38 = .ok (.putfield 187, 3) := by decide +kernel
theorem dX12_laysOut_41 : decode cX12_laysOut 41 = .ok (.return_, 1) := by decide +kernel
theorem dX12_heightOf_0 : decode cX12_heightOf 0 = .ok (.aload_n 0, 1) := by decide +kernel
theorem dX12_heightOf_1 : decode cX12_heightOf 1 = .ok (.getfield 9, 3) := by decide +kernel
theorem dX12_heightOf_4 : decode cX12_heightOf 4 = .ok (.iload_n 1, 1) := by decide +kernel
theorem dX12_heightOf_5 : decode cX12_heightOf 5 = .ok (.iaload, 1) := by decide +kernel
theorem dX12_heightOf_6 : decode cX12_heightOf 6 = .ok (.iload_n 1, 1) := by decide +kernel
theorem dX12_heightOf_7 : decode cX12_heightOf 7 = .ok (.aload_n 0, 1) := by decide +kernel
theorem dX12_heightOf_8 : decode cX12_heightOf 8 = .ok (.getfield 187, 3) := by decide +kernel
theorem dX12_heightOf_11 : decode cX12_heightOf 11 = .ok (.if_icmp .ne 10, 3) := by decide +kernel
theorem dX12_heightOf_14 : decode cX12_heightOf 14 = .ok (.aload_n 0, 1) := by decide +kernel
theorem dX12_heightOf_15 : decode cX12_heightOf 15 = .ok (.getfield 190, 3) := by decide +kernel
theorem dX12_heightOf_18 : decode cX12_heightOf 18 = .ok (.goto 4, 3) := by decide +kernel
theorem dX12_heightOf_21 : decode cX12_heightOf 21 = .ok (.iconst 0, 1) := by decide +kernel
theorem dX12_heightOf_22 : decode cX12_heightOf 22 = .ok (.iadd, 1) := by decide +kernel
theorem dX12_heightOf_23 : decode cX12_heightOf 23 = .ok (.ireturn, 1) := by decide +kernel
theorem dX12_counts_0 : decode cX12_counts 0 = .ok (.aload_n 0, 1) := by decide +kernel
theorem dX12_counts_1 : decode cX12_counts 1 = .ok (.iload_n 1, 1) := by decide +kernel
theorem dX12_counts_2 : decode cX12_counts 2 = .ok (.invokevirtual 193, 3) := by decide +kernel
theorem dX12_counts_5 : decode cX12_counts 5 = .ok (.istore 4, 2) := by decide +kernel
theorem dX12_counts_7 : decode cX12_counts 7 = .ok (.aload_n 0, 1) := by decide +kernel
theorem dX12_counts_8 : decode cX12_counts 8 = .ok (.iload_n 2, 1) := by decide +kernel
theorem dX12_counts_9 : decode cX12_counts 9 = .ok (.invokevirtual 193, 3) := by decide +kernel
theorem dX12_counts_12 : decode cX12_counts 12 = .ok (.istore 5, 2) := by decide +kernel
theorem dX12_counts_14 : decode cX12_counts 14 = .ok (.aload_n 0, 1) := by decide +kernel
theorem dX12_counts_15 : decode cX12_counts 15 = .ok (.getfield 89, 3) := by decide +kernel
theorem dX12_counts_18 : decode cX12_counts 18 = .ok (.ifCond .ge 16, 3) := by decide +kernel
theorem dX12_counts_21 : decode cX12_counts 21 = .ok (.iload 4, 2) := by decide +kernel
theorem dX12_counts_23 : decode cX12_counts 23 = .ok (.iload 5, 2) := by decide +kernel
theorem dX12_counts_25 : decode cX12_counts 25 = .ok (.if_icmp .le 7, 3) := by decide +kernel
theorem dX12_counts_28 : decode cX12_counts 28 = .ok (.iconst 1, 1) := by decide +kernel
theorem dX12_counts_29 : decode cX12_counts 29 = .ok (.goto 4, 3) := by decide +kernel
theorem dX12_counts_32 : decode cX12_counts 32 = .ok (.iconst 0, 1) := by decide +kernel
theorem dX12_counts_33 : decode cX12_counts 33 = .ok (.ireturn, 1) := by decide +kernel
theorem dX12_counts_34 : decode cX12_counts 34 = .ok (.aload_n 0, 1) := by decide +kernel
theorem dX12_counts_35 : decode cX12_counts 35 = .ok (.getfield 28, 3) := by decide +kernel
theorem dX12_counts_38 : decode cX12_counts 38 = .ok (.iconst 0, 1) := by decide +kernel
theorem dX12_counts_39 : decode cX12_counts 39 = .ok (.iload 4, 2) := by decide +kernel
theorem dX12_counts_41 : decode cX12_counts 41 = .ok (.iastore, 1) := by decide +kernel
theorem dX12_counts_42 : decode cX12_counts 42 = .ok (.aload_n 0, 1) := by decide +kernel
theorem dX12_counts_43 : decode cX12_counts 43 = .ok (.getfield 28, 3) := by decide +kernel
theorem dX12_counts_46 : decode cX12_counts 46 = .ok (.iconst 1, 1) := by decide +kernel
theorem dX12_counts_47 : decode cX12_counts 47 = .ok (.iload 5, 2) := by decide +kernel
theorem dX12_counts_49 : decode cX12_counts 49 = .ok (.iastore, 1) := by decide +kernel
theorem dX12_counts_50 : decode cX12_counts 50 = .ok (.aload_n 0, 1) := by decide +kernel
theorem dX12_counts_51 : decode cX12_counts 51 = .ok (.getfield 28, 3) := by decide +kernel
theorem dX12_counts_54 : decode cX12_counts 54 = .ok (.iconst 2, 1) := by decide +kernel
theorem dX12_counts_55 : decode cX12_counts 55 = .ok (.iload_n 3, 1) := by decide +kernel
theorem dX12_counts_56 : decode cX12_counts 56 = .ok (.iastore, 1) := by decide +kernel
theorem dX12_counts_57 : decode cX12_counts 57 = .ok (.aload_n 0, 1) := by decide +kernel
theorem dX12_counts_58 : decode cX12_counts 58 = .ok (.getfield 28, 3) := by decide +kernel
theorem dX12_counts_61 : decode cX12_counts 61 = .ok (.iconst 3, 1) := by decide +kernel
theorem dX12_counts_62 : decode cX12_counts 62 = .ok (.iload_n 1, 1) := by decide +kernel
theorem dX12_counts_63 : decode cX12_counts 63 = .ok (.iastore, 1) := by decide +kernel
theorem dX12_counts_64 : decode cX12_counts 64 = .ok (.aload_n 0, 1) := by decide +kernel
theorem dX12_counts_65 : decode cX12_counts 65 = .ok (.getfield 28, 3) := by decide +kernel
theorem dX12_counts_68 : decode cX12_counts 68 = .ok (.iconst 4, 1) := by decide +kernel
theorem dX12_counts_69 : decode cX12_counts 69 = .ok (.iload_n 2, 1) := by decide +kernel
theorem dX12_counts_70 : decode cX12_counts 70 = .ok (.iastore, 1) := by decide +kernel
theorem dX12_counts_71 : decode cX12_counts 71 = .ok (.aload_n 0, 1) := by decide +kernel
theorem dX12_counts_72 : decode cX12_counts 72 = .ok (.iconst 0, 1) := by decide +kernel
theorem dX12_counts_73 : decode cX12_counts 73 = .ok (.aload_n 0, 1) := by decide +kernel
theorem dX12_counts_74 : decode cX12_counts 74 = .ok (.getfield 89, 3) := by decide +kernel
theorem dX12_counts_77 : decode cX12_counts 77 = .ok (.invokevirtual 180, 3) := by decide +kernel
theorem dX12_counts_80 : decode cX12_counts 80 = .ok (.ifCond .eq 7, 3) := by decide +kernel
theorem dX12_counts_83 : decode cX12_counts 83 = .ok (.iconst 1, 1) := by decide +kernel
theorem dX12_counts_84 : decode cX12_counts 84 = .ok (.goto 4, 3) := by decide +kernel
theorem dX12_counts_87 : decode cX12_counts 87 = .ok (.iconst 0, 1) := by decide +kernel
theorem dX12_counts_88 : decode cX12_counts 88 = .ok (.ireturn, 1) := by decide +kernel
theorem dX12_numberAt_0 : decode cX12_numberAt 0 = .ok (.iconst 0, 1) := by decide +kernel
theorem dX12_numberAt_1 : decode cX12_numberAt 1 = .ok (.istore_n 2, 1) := by decide +kernel
theorem dX12_numberAt_2 : decode cX12_numberAt 2 = .ok (.iconst 0, 1) := by decide +kernel
theorem dX12_numberAt_3 : decode cX12_numberAt 3 = .ok (.istore_n 3, 1) := by decide +kernel
theorem dX12_numberAt_4 : decode cX12_numberAt 4 = .ok (.iload_n 3, 1) := by decide +kernel
theorem dX12_numberAt_5 : decode cX12_numberAt 5 = .ok (.iload_n 1, 1) := by decide +kernel
theorem dX12_numberAt_6 : decode cX12_numberAt 6 = .ok (.if_icmp .ge 39, 3) := by decide +kernel
theorem dX12_numberAt_9 : decode cX12_numberAt 9 = .ok (.iload_n 2, 1) := by decide +kernel
theorem dX12_numberAt_10 : decode cX12_numberAt 10 = .ok (.aload_n 0, 1) := by decide +kernel
theorem dX12_numberAt_11 : decode cX12_numberAt 11 = .ok (.aload_n 0, 1) := by decide +kernel
theorem dX12_numberAt_12 : decode cX12_numberAt 12 = .ok (.getfield 34, 3) := by decide +kernel
theorem dX12_numberAt_15 : decode cX12_numberAt 15 = .ok (.iload_n 3, 1) := by decide +kernel
theorem dX12_numberAt_16 : decode cX12_numberAt 16 = .ok (.iaload, 1) := by decide +kernel
theorem dX12_numberAt_17 : decode cX12_numberAt 17 = .ok (.aload_n 0, 1) := by decide +kernel
theorem dX12_numberAt_18 : decode cX12_numberAt 18 = .ok (.getfield 34, 3) := by decide +kernel
theorem dX12_numberAt_21 : decode cX12_numberAt 21 = .ok (.iload_n 1, 1) := by decide +kernel
theorem dX12_numberAt_22 : decode cX12_numberAt 22 = .ok (.iaload, 1) := by decide +kernel
theorem dX12_numberAt_23 : decode cX12_numberAt 23 = .ok (.iload_n 1, 1) := by decide +kernel
theorem dX12_numberAt_24 : decode cX12_numberAt 24 = .ok (.iload_n 3, 1) := by decide +kernel
theorem dX12_numberAt_25 : decode cX12_numberAt 25 = .ok (.isub, 1) := by decide +kernel
theorem dX12_numberAt_26 : decode cX12_numberAt 26 = .ok (.invokevirtual 196, 3) := by decide +kernel
theorem dX12_numberAt_29 : decode cX12_numberAt 29 = .ok (.ifCond .eq 7, 3) := by decide +kernel
theorem dX12_numberAt_32 : decode cX12_numberAt 32 = .ok (.iconst 1, 1) := by decide +kernel
theorem dX12_numberAt_33 : decode cX12_numberAt 33 = .ok (.goto 4, 3) := by decide +kernel
theorem dX12_numberAt_36 : decode cX12_numberAt 36 = .ok (.iconst 0, 1) := by decide +kernel
theorem dX12_numberAt_37 : decode cX12_numberAt 37 = .ok (.iadd, 1) := by decide +kernel
theorem dX12_numberAt_38 : decode cX12_numberAt 38 = .ok (.istore_n 2, 1) := by decide +kernel
theorem dX12_numberAt_39 : decode cX12_numberAt 39 = .ok (.iinc 3 1, 3) := by decide +kernel
theorem dX12_numberAt_42 : decode cX12_numberAt 42 = .ok (.goto (-38), 3) := by decide +kernel
theorem dX12_numberAt_45 : decode cX12_numberAt 45 = .ok (.iload_n 2, 1) := by decide +kernel
theorem dX12_numberAt_46 : decode cX12_numberAt 46 = .ok (.ireturn, 1) := by decide +kernel
theorem dX12_plainAt_0 : decode cX12_plainAt 0 = .ok (.iconst 0, 1) := by decide +kernel
theorem dX12_plainAt_1 : decode cX12_plainAt 1 = .ok (.istore_n 2, 1) := by decide +kernel
theorem dX12_plainAt_2 : decode cX12_plainAt 2 = .ok (.iconst 0, 1) := by decide +kernel
theorem dX12_plainAt_3 : decode cX12_plainAt 3 = .ok (.istore_n 3, 1) := by decide +kernel
theorem dX12_plainAt_4 : decode cX12_plainAt 4 = .ok (.iload_n 3, 1) := by decide +kernel
theorem dX12_plainAt_5 : decode cX12_plainAt 5 = .ok (.iload_n 1, 1) := by decide +kernel
theorem dX12_plainAt_6 : decode cX12_plainAt 6 = .ok (.if_icmp .ge 42, 3) := by decide +kernel
theorem dX12_plainAt_9 : decode cX12_plainAt 9 = .ok (.iload_n 2, 1) := by decide +kernel
theorem dX12_plainAt_10 : decode cX12_plainAt 10 = .ok (.aload_n 0, 1) := by decide +kernel
theorem dX12_plainAt_11 : decode cX12_plainAt 11 = .ok (.getfield 9, 3) := by decide +kernel
theorem dX12_plainAt_14 : decode cX12_plainAt 14 = .ok (.aload_n 0, 1) := by decide +kernel
theorem dX12_plainAt_15 : decode cX12_plainAt 15 = .ok (.getfield 34, 3) := by decide +kernel
theorem dX12_plainAt_18 : decode cX12_plainAt 18 = .ok (.iload_n 3, 1) := by decide +kernel
theorem dX12_plainAt_19 : decode cX12_plainAt 19 = .ok (.iaload, 1) := by decide +kernel
theorem dX12_plainAt_20 : decode cX12_plainAt 20 = .ok (.iaload, 1) := by decide +kernel
theorem dX12_plainAt_21 : decode cX12_plainAt 21 = .ok (.aload_n 0, 1) := by decide +kernel
theorem dX12_plainAt_22 : decode cX12_plainAt 22 = .ok (.getfield 9, 3) := by decide +kernel
theorem dX12_plainAt_25 : decode cX12_plainAt 25 = .ok (.aload_n 0, 1) := by decide +kernel
theorem dX12_plainAt_26 : decode cX12_plainAt 26 = .ok (.getfield 34, 3) := by decide +kernel
theorem dX12_plainAt_29 : decode cX12_plainAt 29 = .ok (.iload_n 1, 1) := by decide +kernel
theorem dX12_plainAt_30 : decode cX12_plainAt 30 = .ok (.iaload, 1) := by decide +kernel
theorem dX12_plainAt_31 : decode cX12_plainAt 31 = .ok (.iaload, 1) := by decide +kernel
theorem dX12_plainAt_32 : decode cX12_plainAt 32 = .ok (.if_icmp .le 7, 3) := by decide +kernel
theorem dX12_plainAt_35 : decode cX12_plainAt 35 = .ok (.iconst 1, 1) := by decide +kernel
theorem dX12_plainAt_36 : decode cX12_plainAt 36 = .ok (.goto 4, 3) := by decide +kernel
theorem dX12_plainAt_39 : decode cX12_plainAt 39 = .ok (.iconst 0, 1) := by decide +kernel
theorem dX12_plainAt_40 : decode cX12_plainAt 40 = .ok (.iadd, 1) := by decide +kernel
theorem dX12_plainAt_41 : decode cX12_plainAt 41 = .ok (.istore_n 2, 1) := by decide +kernel
theorem dX12_plainAt_42 : decode cX12_plainAt 42 = .ok (.iinc 3 1, 3) := by decide +kernel
theorem dX12_plainAt_45 : decode cX12_plainAt 45 = .ok (.goto (-41), 3) := by decide +kernel
theorem dX12_plainAt_48 : decode cX12_plainAt 48 = .ok (.iload_n 2, 1) := by decide +kernel
theorem dX12_plainAt_49 : decode cX12_plainAt 49 = .ok (.ireturn, 1) := by decide +kernel
theorem dX12_disquietOf_0 : decode cX12_disquietOf 0 = .ok (.iconst 0, 1) := by decide +kernel
theorem dX12_disquietOf_1 : decode cX12_disquietOf 1 = .ok (.istore_n 1, 1) := by decide +kernel
theorem dX12_disquietOf_2 : decode cX12_disquietOf 2 = .ok (.iconst 0, 1) := by decide +kernel
theorem dX12_disquietOf_3 : decode cX12_disquietOf 3 = .ok (.istore_n 2, 1) := by decide +kernel
theorem dX12_disquietOf_4 : decode cX12_disquietOf 4 = .ok (.iload_n 2, 1) := by decide +kernel
theorem dX12_disquietOf_5 : decode cX12_disquietOf 5 = .ok (.aload_n 0, 1) := by decide +kernel
theorem dX12_disquietOf_6 : decode cX12_disquietOf 6 = .ok (.getfield 184, 3) := by decide +kernel
theorem dX12_disquietOf_9 : decode cX12_disquietOf 9 = .ok (.if_icmp .ge 17, 3) := by decide +kernel
theorem dX12_disquietOf_12 : decode cX12_disquietOf 12 = .ok (.iload_n 1, 1) := by decide +kernel
theorem dX12_disquietOf_13 : decode cX12_disquietOf 13 = .ok (.aload_n 0, 1) := by decide +kernel
theorem dX12_disquietOf_14 : decode cX12_disquietOf 14 = .ok (.iload_n 2, 1) := by decide +kernel
theorem dX12_disquietOf_15 : decode cX12_disquietOf 15 = .ok (.invokevirtual 200, 3) := by decide +kernel
theorem dX12_disquietOf_18 : decode cX12_disquietOf 18 = .ok (.iadd, 1) := by decide +kernel
theorem dX12_disquietOf_19 : decode cX12_disquietOf 19 = .ok (.istore_n 1, 1) := by decide +kernel
theorem dX12_disquietOf_20 : decode cX12_disquietOf 20 = .ok (.iinc 2 1, 3) := by decide +kernel
theorem dX12_disquietOf_23 : decode cX12_disquietOf 23 = .ok (.goto (-19), 3) := by decide +kernel
theorem dX12_disquietOf_26 : decode cX12_disquietOf 26 = .ok (.iload_n 1, 1) := by decide +kernel
theorem dX12_disquietOf_27 : decode cX12_disquietOf 27 = .ok (.ireturn, 1) := by decide +kernel
theorem dX12_disquietNow_0 : decode cX12_disquietNow 0 = .ok (.aload_n 0, 1) := by decide +kernel
theorem dX12_disquietNow_1 : decode cX12_disquietNow 1 = .ok (.invokevirtual 203, 3) := by decide +kernel
theorem dX12_disquietNow_4 : decode cX12_disquietNow 4 = .ok (.aload_n 0, 1) := by decide +kernel
theorem dX12_disquietNow_5 : decode cX12_disquietNow 5 = .ok (.invokevirtual 206, 3) := by decide +kernel
theorem dX12_disquietNow_8 : decode cX12_disquietNow 8 = .ok (.ireturn, 1) := by decide +kernel
theorem dX12_plainNow_0 : decode cX12_plainNow 0 = .ok (.aload_n 0, 1) := by decide +kernel
theorem dX12_plainNow_1 : decode cX12_plainNow 1 = .ok (.invokevirtual 203, 3) := by decide +kernel
theorem dX12_plainNow_4 : decode cX12_plainNow 4 = .ok (.iconst 0, 1) := by decide +kernel
theorem dX12_plainNow_5 : decode cX12_plainNow 5 = .ok (.istore_n 1, 1) := by decide +kernel
theorem dX12_plainNow_6 : decode cX12_plainNow 6 = .ok (.iconst 0, 1) := by decide +kernel
theorem dX12_plainNow_7 : decode cX12_plainNow 7 = .ok (.istore_n 2, 1) := by decide +kernel
theorem dX12_plainNow_8 : decode cX12_plainNow 8 = .ok (.iload_n 2, 1) := by decide +kernel
theorem dX12_plainNow_9 : decode cX12_plainNow 9 = .ok (.aload_n 0, 1) := by decide +kernel
theorem dX12_plainNow_10 : decode cX12_plainNow 10 = .ok (.getfield 184, 3) := by decide +kernel
theorem dX12_plainNow_13 : decode cX12_plainNow 13 = .ok (.if_icmp .ge 17, 3) := by decide +kernel
theorem dX12_plainNow_16 : decode cX12_plainNow 16 = .ok (.iload_n 1, 1) := by decide +kernel
theorem dX12_plainNow_17 : decode cX12_plainNow 17 = .ok (.aload_n 0, 1) := by decide +kernel
theorem dX12_plainNow_18 : decode cX12_plainNow 18 = .ok (.iload_n 2, 1) := by decide +kernel
theorem dX12_plainNow_19 : decode cX12_plainNow 19 = .ok (.invokevirtual 209, 3) := by decide +kernel
theorem dX12_plainNow_22 : decode cX12_plainNow 22 = .ok (.iadd, 1) := by decide +kernel
theorem dX12_plainNow_23 : decode cX12_plainNow 23 = .ok (.istore_n 1, 1) := by decide +kernel
theorem dX12_plainNow_24 : decode cX12_plainNow 24 = .ok (.iinc 2 1, 3) := by decide +kernel
theorem dX12_plainNow_27 : decode cX12_plainNow 27 = .ok (.goto (-19), 3) := by decide +kernel
theorem dX12_plainNow_30 : decode cX12_plainNow 30 = .ok (.iload_n 1, 1) := by decide +kernel
theorem dX12_plainNow_31 : decode cX12_plainNow 31 = .ok (.ireturn, 1) := by decide +kernel
theorem dX12_takesOut_0 : decode cX12_takesOut 0 = .ok (.aload_n 0, 1) := by decide +kernel
theorem dX12_takesOut_1 : decode cX12_takesOut 1 = .ok (.dup, 1) := by decide +kernel
theorem dX12_takesOut_2 : decode cX12_takesOut 2 = .ok (.getfield 184, 3) := by decide +kernel
theorem dX12_takesOut_5 : decode cX12_takesOut 5 = .ok (.iconst 1, 1) := by decide +kernel
theorem dX12_takesOut_6 : decode cX12_takesOut 6 = .ok (.isub, 1) := by decide +kernel
theorem dX12_takesOut_7 : decode cX12_takesOut 7 = .ok (.putfield 184, 3) := by decide +kernel
theorem dX12_takesOut_10 : decode cX12_takesOut 10 = .ok (.iload_n 1, 1) := by decide +kernel
theorem dX12_takesOut_11 : decode cX12_takesOut 11 = .ok (.istore_n 2, 1) := by decide +kernel
theorem dX12_takesOut_12 : decode cX12_takesOut 12 = .ok (.iload_n 2, 1) := by decide +kernel
theorem dX12_takesOut_13 : decode cX12_takesOut 13 = .ok (.aload_n 0, 1) := by decide +kernel
theorem dX12_takesOut_14 : decode cX12_takesOut 14 = .ok (.getfield 184, 3) := by decide +kernel
theorem dX12_takesOut_17 : decode cX12_takesOut 17 = .ok (.if_icmp .ge 23, 3) := by decide +kernel
theorem dX12_takesOut_20 : decode cX12_takesOut 20 = .ok (.aload_n 0, 1) := by decide +kernel
theorem dX12_takesOut_21 : decode cX12_takesOut 21 = .ok (.getfield 34, 3) := by decide +kernel
theorem dX12_takesOut_24 : decode cX12_takesOut 24 = .ok (.iload_n 2, 1) := by decide +kernel
theorem dX12_takesOut_25 : decode cX12_takesOut 25 = .ok (.aload_n 0, 1) := by decide +kernel
theorem dX12_takesOut_26 : decode cX12_takesOut 26 = .ok (.getfield 34, 3) := by decide +kernel
theorem dX12_takesOut_29 : decode cX12_takesOut 29 = .ok (.iload_n 2, 1) := by decide +kernel
theorem dX12_takesOut_30 : decode cX12_takesOut 30 = .ok (.iconst 1, 1) := by decide +kernel
theorem dX12_takesOut_31 : decode cX12_takesOut 31 = .ok (.iadd, 1) := by decide +kernel
theorem dX12_takesOut_32 : decode cX12_takesOut 32 = .ok (.iaload, 1) := by decide +kernel
theorem dX12_takesOut_33 : decode cX12_takesOut 33 = .ok (.iastore, 1) := by decide +kernel
theorem dX12_takesOut_34 : decode cX12_takesOut 34 = .ok (.iinc 2 1, 3) := by decide +kernel
theorem dX12_takesOut_37 : decode cX12_takesOut 37 = .ok (.goto (-25), 3) := by decide +kernel
theorem dX12_takesOut_40 : decode cX12_takesOut 40 = .ok (.return_, 1) := by decide +kernel
theorem dX12_putsIn_0 : decode cX12_putsIn 0 = .ok (.aload_n 0, 1) := by decide +kernel
theorem dX12_putsIn_1 : decode cX12_putsIn 1 = .ok (.getfield 184, 3) := by decide +kernel
theorem dX12_putsIn_4 : decode cX12_putsIn 4 = .ok (.istore_n 3, 1) := by decide +kernel
theorem dX12_putsIn_5 : decode cX12_putsIn 5 = .ok (.iload_n 3, 1) := by decide +kernel
theorem dX12_putsIn_6 : decode cX12_putsIn 6 = .ok (.iload_n 2, 1) := by decide +kernel
theorem dX12_putsIn_7 : decode cX12_putsIn 7 = .ok (.if_icmp .le 23, 3) := by decide +kernel
theorem dX12_putsIn_10 : decode cX12_putsIn 10 = .ok (.aload_n 0, 1) := by decide +kernel
theorem dX12_putsIn_11 : decode cX12_putsIn 11 = .ok (.getfield 34, 3) := by decide +kernel
theorem dX12_putsIn_14 : decode cX12_putsIn 14 = .ok (.iload_n 3, 1) := by decide +kernel
theorem dX12_putsIn_15 : decode cX12_putsIn 15 = .ok (.aload_n 0, 1) := by decide +kernel
theorem dX12_putsIn_16 : decode cX12_putsIn 16 = .ok (.getfield 34, 3) := by decide +kernel
theorem dX12_putsIn_19 : decode cX12_putsIn 19 = .ok (.iload_n 3, 1) := by decide +kernel
theorem dX12_putsIn_20 : decode cX12_putsIn 20 = .ok (.iconst 1, 1) := by decide +kernel
theorem dX12_putsIn_21 : decode cX12_putsIn 21 = .ok (.isub, 1) := by decide +kernel
theorem dX12_putsIn_22 : decode cX12_putsIn 22 = .ok (.iaload, 1) := by decide +kernel
theorem dX12_putsIn_23 : decode cX12_putsIn 23 = .ok (.iastore, 1) := by decide +kernel
theorem dX12_putsIn_24 : decode cX12_putsIn 24 = .ok (.iinc 3 (-1), 3) := by decide +kernel
theorem dX12_putsIn_27 : decode cX12_putsIn 27 = .ok (.goto (-22), 3) := by decide +kernel
theorem dX12_putsIn_30 : decode cX12_putsIn 30 = .ok (.aload_n 0, 1) := by decide +kernel
theorem dX12_putsIn_31 : decode cX12_putsIn 31 = .ok (.getfield 34, 3) := by decide +kernel
theorem dX12_putsIn_34 : decode cX12_putsIn 34 = .ok (.iload_n 2, 1) := by decide +kernel
theorem dX12_putsIn_35 : decode cX12_putsIn 35 = .ok (.iload_n 1, 1) := by decide +kernel
theorem dX12_putsIn_36 : decode cX12_putsIn 36 = .ok (.iastore, 1) := by decide +kernel
theorem dX12_putsIn_37 : decode cX12_putsIn 37 = .ok (.aload_n 0, 1) := by decide +kernel
theorem dX12_putsIn_38 : decode cX12_putsIn 38 = .ok (.dup, 1) := by decide +kernel
theorem dX12_putsIn_39 : decode cX12_putsIn 39 = .ok (.getfield 184, 3) := by decide +kernel
theorem dX12_putsIn_42 : decode cX12_putsIn 42 = .ok (.iconst 1, 1) := by decide +kernel
theorem dX12_putsIn_43 : decode cX12_putsIn 43 = .ok (.iadd, 1) := by decide +kernel
theorem dX12_putsIn_44 : decode cX12_putsIn 44 = .ok (.putfield 184, 3) := by decide +kernel
theorem dX12_putsIn_47 : decode cX12_putsIn 47 = .ok (.return_, 1) := by decide +kernel
theorem dX12_changesIn_0 : decode cX12_changesIn 0 = .ok (.aload_n 0, 1) := by decide +kernel
theorem dX12_changesIn_1 : decode cX12_changesIn 1 = .ok (.getfield 34, 3) := by decide +kernel
theorem dX12_changesIn_4 : decode cX12_changesIn 4 = .ok (.iload_n 1, 1) := by decide +kernel
theorem dX12_changesIn_5 : decode cX12_changesIn 5 = .ok (.iaload, 1) := by decide +kernel
theorem dX12_changesIn_6 : decode cX12_changesIn 6 = .ok (.istore_n 3, 1) := by decide +kernel
theorem dX12_changesIn_7 : decode cX12_changesIn 7 = .ok (.aload_n 0, 1) := by decide +kernel
theorem dX12_changesIn_8 : decode cX12_changesIn 8 = .ok (.getfield 34, 3) := by decide +kernel
theorem dX12_changesIn_11 : decode cX12_changesIn 11 = .ok (.iload_n 1, 1) := by decide +kernel
theorem dX12_changesIn_12 : decode cX12_changesIn 12 = .ok (.aload_n 0, 1) := by decide +kernel
theorem dX12_changesIn_13 : decode cX12_changesIn 13 = .ok (.getfield 34, 3) := by decide +kernel
theorem dX12_changesIn_16 : decode cX12_changesIn 16 = .ok (.iload_n 2, 1) := by decide +kernel
theorem dX12_changesIn_17 : decode cX12_changesIn 17 = .ok (.iaload, 1) := by decide +kernel
theorem dX12_changesIn_18 : decode cX12_changesIn 18 = .ok (.iastore, 1) := by decide +kernel
theorem dX12_changesIn_19 : decode cX12_changesIn 19 = .ok (.aload_n 0, 1) := by decide +kernel
theorem dX12_changesIn_20 : decode cX12_changesIn 20 = .ok (.getfield 34, 3) := by decide +kernel
theorem dX12_changesIn_23 : decode cX12_changesIn 23 = .ok (.iload_n 2, 1) := by decide +kernel
theorem dX12_changesIn_24 : decode cX12_changesIn 24 = .ok (.iload_n 3, 1) := by decide +kernel
theorem dX12_changesIn_25 : decode cX12_changesIn 25 = .ok (.iastore, 1) := by decide +kernel
theorem dX12_changesIn_26 : decode cX12_changesIn 26 = .ok (.return_, 1) := by decide +kernel
theorem dX12_costNow_0 : decode cX12_costNow 0 = .ok (.aload_n 0, 1) := by decide +kernel
theorem dX12_costNow_1 : decode cX12_costNow 1 = .ok (.invokevirtual 203, 3) := by decide +kernel
theorem dX12_costNow_4 : decode cX12_costNow 4 = .ok (.iconst 0, 1) := by decide +kernel
theorem dX12_costNow_5 : decode cX12_costNow 5 = .ok (.istore_n 1, 1) := by decide +kernel
theorem dX12_costNow_6 : decode cX12_costNow 6 = .ok (.aload_n 0, 1) := by decide +kernel
theorem dX12_costNow_7 : decode cX12_costNow 7 = .ok (.getfield 184, 3) := by decide +kernel
theorem dX12_costNow_10 : decode cX12_costNow 10 = .ok (.ifCond .le 18, 3) := by decide +kernel
theorem dX12_costNow_13 : decode cX12_costNow 13 = .ok (.iload_n 1, 1) := by decide +kernel
theorem dX12_costNow_14 : decode cX12_costNow 14 = .ok (.aload_n 0, 1) := by decide +kernel
theorem dX12_costNow_15 : decode cX12_costNow 15 = .ok (.invokevirtual 206, 3) := by decide +kernel
theorem dX12_costNow_18 : decode cX12_costNow 18 = .ok (.iadd, 1) := by decide +kernel
theorem dX12_costNow_19 : decode cX12_costNow 19 = .ok (.istore_n 1, 1) := by decide +kernel
theorem dX12_costNow_20 : decode cX12_costNow 20 = .ok (.aload_n 0, 1) := by decide +kernel
theorem dX12_costNow_21 : decode cX12_costNow 21 = .ok (.iconst 0, 1) := by decide +kernel
theorem dX12_costNow_22 : decode cX12_costNow 22 = .ok (.invokevirtual 212, 3) := by decide +kernel
theorem dX12_costNow_25 : decode cX12_costNow 25 = .ok (.goto (-19), 3) := by decide +kernel
theorem dX12_costNow_28 : decode cX12_costNow 28 = .ok (.iload_n 1, 1) := by decide +kernel
theorem dX12_costNow_29 : decode cX12_costNow 29 = .ok (.ireturn, 1) := by decide +kernel
theorem dX12_disquiet_0 : decode cX12_disquiet 0 = .ok (.iload_n 1, 1) := by decide +kernel
theorem dX12_disquiet_1 : decode cX12_disquiet 1 = .ok (.tableswitch 42 0 2 #[27, 32, 37], 27) := by decide +kernel
theorem dX12_disquiet_28 : decode cX12_disquiet 28 = .ok (.aload_n 0, 1) := by decide +kernel
theorem dX12_disquiet_29 : decode cX12_disquiet 29 = .ok (.invokevirtual 215, 3) := by decide +kernel
theorem dX12_disquiet_32 : decode cX12_disquiet 32 = .ok (.ireturn, 1) := by decide +kernel
theorem dX12_disquiet_33 : decode cX12_disquiet 33 = .ok (.aload_n 0, 1) := by decide +kernel
theorem dX12_disquiet_34 : decode cX12_disquiet 34 = .ok (.invokevirtual 218, 3) := by decide +kernel
theorem dX12_disquiet_37 : decode cX12_disquiet 37 = .ok (.ireturn, 1) := by decide +kernel
theorem dX12_disquiet_38 : decode cX12_disquiet 38 = .ok (.aload_n 0, 1) := by decide +kernel
theorem dX12_disquiet_39 : decode cX12_disquiet 39 = .ok (.invokevirtual 221, 3) := by decide +kernel
theorem dX12_disquiet_42 : decode cX12_disquiet 42 = .ok (.ireturn, 1) := by decide +kernel
theorem dX12_disquiet_43 : decode cX12_disquiet 43 = .ok (.iconst (-1), 1) := by decide +kernel
theorem dX12_disquiet_44 : decode cX12_disquiet 44 = .ok (.ireturn, 1) := by decide +kernel
theorem dX12_isPlace_0 : decode cX12_isPlace 0 = .ok (.iload_n 1, 1) := by decide +kernel
theorem dX12_isPlace_1 : decode cX12_isPlace 1 = .ok (.i2l, 1) := by decide +kernel
theorem dX12_isPlace_2 : decode cX12_isPlace 2 = .ok (.lconst 0, 1) := by decide +kernel
theorem dX12_isPlace_3 : decode cX12_isPlace 3 = .ok (.aload_n 0, 1) := by decide +kernel
theorem dX12_isPlace_4 : decode cX12_isPlace 4 = .ok (.getfield 100, 3) := by decide +kernel
theorem dX12_isPlace_7 : decode cX12_isPlace 7 = .ok (.iconst 1, 1) := by decide +kernel
theorem dX12_isPlace_8 : decode cX12_isPlace 8 = .ok (.isub, 1) := by decide +kernel
theorem dX12_isPlace_9 : decode cX12_isPlace 9 = .ok (.i2l, 1) := by decide +kernel
theorem dX12_isPlace_10 : decode cX12_isPlace 10 = .ok (.invokestatic 96, 3) := by decide +kernel
theorem dX12_isPlace_13 : decode cX12_isPlace 13 = .ok (.ireturn, 1) := by decide +kernel
theorem dX12_placeOf_0 : decode cX12_placeOf 0 = .ok (.iconst 0, 1) := by decide +kernel
theorem dX12_placeOf_1 : decode cX12_placeOf 1 = .ok (.istore_n 2, 1) := by decide +kernel
theorem dX12_placeOf_2 : decode cX12_placeOf 2 = .ok (.iload_n 2, 1) := by decide +kernel
theorem dX12_placeOf_3 : decode cX12_placeOf 3 = .ok (.aload_n 0, 1) := by decide +kernel
theorem dX12_placeOf_4 : decode cX12_placeOf 4 = .ok (.getfield 100, 3) := by decide +kernel
theorem dX12_placeOf_7 : decode cX12_placeOf 7 = .ok (.if_icmp .ge 21, 3) := by decide +kernel
theorem dX12_placeOf_10 : decode cX12_placeOf 10 = .ok (.aload_n 0, 1) := by decide +kernel
theorem dX12_placeOf_11 : decode cX12_placeOf 11 = .ok (.getfield 31, 3) := by decide +kernel
theorem dX12_placeOf_14 : decode cX12_placeOf 14 = .ok (.iload_n 2, 1) := by decide +kernel
theorem dX12_placeOf_15 : decode cX12_placeOf 15 = .ok (.iaload, 1) := by decide +kernel
theorem dX12_placeOf_16 : decode cX12_placeOf 16 = .ok (.iload_n 1, 1) := by decide +kernel
theorem dX12_placeOf_17 : decode cX12_placeOf 17 = .ok (.if_icmp .ne 5, 3) := by decide +kernel
theorem dX12_placeOf_20 : decode cX12_placeOf 20 = .ok (.iload_n 2, 1) := by decide +kernel
theorem dX12_placeOf_21 : decode cX12_placeOf 21 = .ok (.ireturn, 1) := by decide +kernel
theorem dX12_placeOf_22 : decode cX12_placeOf 22 = .ok (.iinc 2 1, 3) := by decide +kernel
theorem dX12_placeOf_25 : decode cX12_placeOf 25 = .ok (.goto (-23), 3) := by decide +kernel
theorem dX12_placeOf_28 : decode cX12_placeOf 28 = .ok (.bipush (-2), 2) := by decide +kernel
theorem dX12_placeOf_30 : decode cX12_placeOf 30 = .ok (.ireturn, 1) := by decide +kernel
theorem dX12_numberNow_0 : decode cX12_numberNow 0 = .ok (.aload_n 0, 1) := by decide +kernel
theorem dX12_numberNow_1 : decode cX12_numberNow 1 = .ok (.invokevirtual 203, 3) := by decide +kernel
theorem dX12_numberNow_4 : decode cX12_numberNow 4 = .ok (.aload_n 0, 1) := by decide +kernel
theorem dX12_numberNow_5 : decode cX12_numberNow 5 = .ok (.iload_n 1, 1) := by decide +kernel
theorem dX12_numberNow_6 : decode cX12_numberNow 6 = .ok (.invokevirtual 200, 3) := by decide +kernel
theorem dX12_numberNow_9 : decode cX12_numberNow 9 = .ok (.ireturn, 1) := by decide +kernel
theorem dX12_ofPerson_0 : decode cX12_ofPerson 0 = .ok (.iload_n 2, 1) := by decide +kernel
theorem dX12_ofPerson_1 : decode cX12_ofPerson 1 = .ok (.tableswitch 74 0 3 #[31, 38, 44, 67], 31) := by decide +kernel
theorem dX12_ofPerson_32 : decode cX12_ofPerson 32 = .ok (.aload_n 0, 1) := by decide +kernel
theorem dX12_ofPerson_33 : decode cX12_ofPerson 33 = .ok (.getfield 9, 3) := by decide +kernel
theorem dX12_ofPerson_36 : decode cX12_ofPerson 36 = .ok (.iload_n 1, 1) := by decide +kernel
theorem dX12_ofPerson_37 : decode cX12_ofPerson 37 = .ok (.iaload, 1) := by decide +kernel
theorem dX12_ofPerson_38 : decode cX12_ofPerson 38 = .ok (.ireturn, 1) := by decide +kernel
theorem dX12_ofPerson_39 : decode cX12_ofPerson 39 = .ok (.aload_n 0, 1) := by decide +kernel
theorem dX12_ofPerson_40 : decode cX12_ofPerson 40 = .ok (.iload_n 1, 1) := by decide +kernel
theorem dX12_ofPerson_41 : decode cX12_ofPerson 41 = .ok (.invokevirtual 224, 3) := by decide +kernel
theorem dX12_ofPerson_44 : decode cX12_ofPerson 44 = .ok (.ireturn, 1) := by decide +kernel
theorem dX12_ofPerson_45 : decode cX12_ofPerson 45 = .ok (.aload_n 0, 1) := by decide +kernel
theorem dX12_ofPerson_46 : decode cX12_ofPerson 46 = .ok (.iload_n 1, 1) := by decide +kernel
theorem dX12_ofPerson_47 : decode cX12_ofPerson 47 = .ok (.invokevirtual 224, 3) := by decide +kernel
theorem dX12_ofPerson_50 : decode cX12_ofPerson 50 = .ok (.ifCond .ge 8, 3) := by decide +kernel
theorem dX12_ofPerson_53 : decode cX12_ofPerson 53 = .ok (.bipush (-2), 2) := by decide +kernel
theorem dX12_ofPerson_55 : decode cX12_ofPerson 55 = .ok (.goto 12, 3) := by decide +kernel
theorem dX12_ofPerson_58 : decode cX12_ofPerson 58 = .ok (.aload_n 0, 1) := by decide +kernel
theorem dX12_ofPerson_59 : decode cX12_ofPerson 59 = .ok (.aload_n 0, 1) := by decide +kernel
theorem dX12_ofPerson_60 : decode cX12_ofPerson 60 = .ok (.iload_n 1, 1) := by decide +kernel
theorem dX12_ofPerson_61 : decode cX12_ofPerson 61 = .ok (.invokevirtual 224, 3) := by decide +kernel
theorem dX12_ofPerson_64 : decode cX12_ofPerson 64 = .ok (.invokevirtual 227, 3) := by decide +kernel
theorem dX12_ofPerson_67 : decode cX12_ofPerson 67 = .ok (.ireturn, 1) := by decide +kernel
theorem dX12_ofPerson_68 : decode cX12_ofPerson 68 = .ok (.aload_n 0, 1) := by decide +kernel
theorem dX12_ofPerson_69 : decode cX12_ofPerson 69 = .ok (.getfield 43, 3) := by decide +kernel
theorem dX12_ofPerson_72 : decode cX12_ofPerson 72 = .ok (.iload_n 1, 1) := by decide +kernel
theorem dX12_ofPerson_73 : decode cX12_ofPerson 73 = .ok (.iaload, 1) := by decide +kernel
theorem dX12_ofPerson_74 : decode cX12_ofPerson 74 = .ok (.ireturn, 1) := by decide +kernel
theorem dX12_ofPerson_75 : decode cX12_ofPerson 75 = .ok (.aload_n 0, 1) := by decide +kernel
theorem dX12_ofPerson_76 : decode cX12_ofPerson 76 = .ok (.getfield 46, 3) := by decide +kernel
theorem dX12_ofPerson_79 : decode cX12_ofPerson 79 = .ok (.iload_n 1, 1) := by decide +kernel
theorem dX12_ofPerson_80 : decode cX12_ofPerson 80 = .ok (.iaload, 1) := by decide +kernel
theorem dX12_ofPerson_81 : decode cX12_ofPerson 81 = .ok (.ireturn, 1) := by decide +kernel
theorem dX12_of_0 : decode cX12_of 0 = .ok (.iload_n 2, 1) := by decide +kernel
theorem dX12_of_1 : decode cX12_of 1 = .ok (.i2l, 1) := by decide +kernel
theorem dX12_of_2 : decode cX12_of 2 = .ok (.lconst 0, 1) := by decide +kernel
theorem dX12_of_3 : decode cX12_of 3 = .ok (.ldc2_w 230, 3) := by decide +kernel
theorem dX12_of_6 : decode cX12_of 6 = .ok (.invokestatic 96, 3) := by decide +kernel
theorem dX12_of_9 : decode cX12_of 9 = .ok (.ifCond .eq 22, 3) := by decide +kernel
theorem dX12_of_12 : decode cX12_of 12 = .ok (.aload_n 0, 1) := by decide +kernel
theorem dX12_of_13 : decode cX12_of 13 = .ok (.iload_n 1, 1) := by decide +kernel
theorem dX12_of_14 : decode cX12_of 14 = .ok (.invokevirtual 119, 3) := by decide +kernel
theorem dX12_of_17 : decode cX12_of 17 = .ok (.ifCond .eq 12, 3) := by decide +kernel
theorem dX12_of_20 : decode cX12_of 20 = .ok (.aload_n 0, 1) := by decide +kernel
theorem dX12_of_21 : decode cX12_of 21 = .ok (.iload_n 1, 1) := by decide +kernel
theorem dX12_of_22 : decode cX12_of 22 = .ok (.iload_n 2, 1) := by decide +kernel
theorem dX12_of_23 : decode cX12_of 23 = .ok (.invokevirtual 232, 3) := by decide +kernel
theorem dX12_of_26 : decode cX12_of 26 = .ok (.goto 4, 3) := by decide +kernel
theorem dX12_of_29 : decode cX12_of 29 = .ok (.iconst (-1), 1) := by decide +kernel
theorem dX12_of_30 : decode cX12_of 30 = .ok (.ireturn, 1) := by decide +kernel
theorem dX12_of_31 : decode cX12_of 31 = .ok (.iload_n 2, 1) := by decide +kernel
theorem dX12_of_32 : decode cX12_of 32 = .ok (.i2l, 1) := by decide +kernel
theorem dX12_of_33 : decode cX12_of 33 = .ok (.ldc2_w 235, 3) := by decide +kernel
theorem dX12_of_36 : decode cX12_of 36 = .ok (.ldc2_w 237, 3) := by decide +kernel
theorem dX12_of_39 : decode cX12_of 39 = .ok (.invokestatic 96, 3) := by decide +kernel
theorem dX12_of_42 : decode cX12_of 42 = .ok (.ifCond .eq 11, 3) := by decide +kernel
theorem dX12_of_45 : decode cX12_of 45 = .ok (.aload_n 0, 1) := by decide +kernel
theorem dX12_of_46 : decode cX12_of 46 = .ok (.iload_n 1, 1) := by decide +kernel
theorem dX12_of_47 : decode cX12_of 47 = .ok (.invokevirtual 239, 3) := by decide +kernel
theorem dX12_of_50 : decode cX12_of 50 = .ok (.ifCond .ne 5, 3) := by decide +kernel
theorem dX12_of_53 : decode cX12_of 53 = .ok (.iconst (-1), 1) := by decide +kernel
theorem dX12_of_54 : decode cX12_of 54 = .ok (.ireturn, 1) := by decide +kernel
theorem dX12_of_55 : decode cX12_of 55 = .ok (.aload_n 0, 1) := by decide +kernel
theorem dX12_of_56 : decode cX12_of 56 = .ok (.invokevirtual 203, 3) := by decide +kernel
theorem dX12_of_59 : decode cX12_of 59 = .ok (.iload_n 2, 1) := by decide +kernel
theorem dX12_of_60 : decode cX12_of 60 = .ok (.bipush 10, 2) := by decide +kernel
theorem dX12_of_62 : decode cX12_of 62 = .ok (.if_icmp .ne 12, 3) := by decide +kernel
theorem dX12_of_65 : decode cX12_of 65 = .ok (.aload_n 0, 1) := by decide +kernel
theorem dX12_of_66 : decode cX12_of 66 = .ok (.getfield 31, 3) := by decide +kernel
theorem dX12_of_69 : decode cX12_of 69 = .ok (.iload_n 1, 1) := by decide +kernel
theorem dX12_of_70 : decode cX12_of 70 = .ok (.iaload, 1) := by decide +kernel
theorem dX12_of_71 : decode cX12_of 71 = .ok (.goto 22, 3) := by decide +kernel
theorem dX12_of_74 : decode cX12_of 74 = .ok (.iload_n 2, 1) := by decide +kernel
theorem dX12_of_75 : decode cX12_of 75 = .ok (.bipush 11, 2) := by decide +kernel
theorem dX12_of_77 : decode cX12_of 77 = .ok (.if_icmp .ne 11, 3) := by decide +kernel
theorem dX12_of_80 : decode cX12_of 80 = .ok (.aload_n 0, 1) := by decide +kernel
theorem dX12_of_81 : decode cX12_of 81 = .ok (.iload_n 1, 1) := by decide +kernel
theorem dX12_of_82 : decode cX12_of 82 = .ok (.invokevirtual 200, 3) := by decide +kernel
theorem dX12_of_85 : decode cX12_of 85 = .ok (.goto 8, 3) := by decide +kernel
theorem dX12_of_88 : decode cX12_of 88 = .ok (.aload_n 0, 1) := by decide +kernel
theorem dX12_of_89 : decode cX12_of 89 = .ok (.iload_n 1, 1) := by decide +kernel
theorem dX12_of_90 : decode cX12_of 90 = .ok (.invokevirtual 209, 3) := by decide +kernel
theorem dX12_of_93 : decode cX12_of 93 = .ok (.ireturn, 1) := by decide +kernel
theorem dX12_begins1_0 : decode cX12_begins1 0 = .ok (.aload_n 0, 1) := by decide +kernel
theorem dX12_begins1_1 : decode cX12_begins1 1 = .ok (.getfield 242, 3) := by decide +kernel
theorem dX12_begins1_4 : decode cX12_begins1 4 = .ok (.bipush 12, 2) := by decide +kernel
theorem dX12_begins1_6 : decode cX12_begins1 6 = .ok (.if_icmp .ne 79, 3) := by decide +kernel
theorem dX12_begins1_9 : decode cX12_begins1 9 = .ok (.iconst 1, 1) := by decide +kernel
theorem dX12_begins1_10 : decode cX12_begins1 10 = .ok (.istore_n 1, 1) := by decide +kernel
theorem dX12_begins1_11 : decode cX12_begins1 11 = .ok (.iload_n 1, 1) := by decide +kernel
theorem dX12_begins1_12 : decode cX12_begins1 12 = .ok (.bipush 12, 2) := by decide +kernel
theorem dX12_begins1_14 : decode cX12_begins1 14 = .ok (.if_icmp .ge 61, 3) := by decide +kernel
theorem dX12_begins1_17 : decode cX12_begins1 17 = .ok (.aload_n 0, 1) := by decide +kernel
theorem dX12_begins1_18 : decode cX12_begins1 18 = .ok (.getfield 37, 3) := by decide +kernel
theorem dX12_begins1_21 : decode cX12_begins1 21 = .ok (.iload_n 1, 1) := by decide +kernel
theorem dX12_begins1_22 : decode cX12_begins1 22 = .ok (.iconst 1, 1) := by decide +kernel
theorem dX12_begins1_23 : decode cX12_begins1 23 = .ok (.isub, 1) := by decide +kernel
theorem dX12_begins1_24 : decode cX12_begins1 24 = .ok (.aload_n 0, 1) := by decide +kernel
theorem dX12_begins1_25 : decode cX12_begins1 25 = .ok (.getfield 37, 3) := by decide +kernel
theorem dX12_begins1_28 : decode cX12_begins1 28 = .ok (.iload_n 1, 1) := by decide +kernel
theorem dX12_begins1_29 : decode cX12_begins1 29 = .ok (.iaload, 1) := by decide +kernel
theorem dX12_begins1_30 : decode cX12_begins1 30 = .ok (.iastore, 1) := by decide +kernel
theorem dX12_begins1_31 : decode cX12_begins1 31 = .ok (.iconst 0, 1) := by decide +kernel
theorem dX12_begins1_32 : decode cX12_begins1 32 = .ok (.istore_n 2, 1) := by decide +kernel
theorem dX12_begins1_33 : decode cX12_begins1 33 = .ok (.iload_n 2, 1) := by decide +kernel
theorem dX12_begins1_34 : decode cX12_begins1 34 = .ok (.bipush 9, 2) := by decide +kernel
theorem dX12_begins1_36 : decode cX12_begins1 36 = .ok (.if_icmp .ge 33, 3) := by decide +kernel
theorem dX12_begins1_39 : decode cX12_begins1 39 = .ok (.aload_n 0, 1) := by decide +kernel
theorem dX12_begins1_40 : decode cX12_begins1 40 = .ok (.getfield 40, 3) := by decide +kernel
theorem dX12_begins1_43 : decode cX12_begins1 43 = .ok (.bipush 9, 2) := by decide +kernel
theorem dX12_begins1_45 : decode cX12_begins1 45 = .ok (.iload_n 1, 1) := by decide +kernel
theorem dX12_begins1_46 : decode cX12_begins1 46 = .ok (.iconst 1, 1) := by decide +kernel
theorem dX12_begins1_47 : decode cX12_begins1 47 = .ok (.isub, 1) := by decide +kernel
theorem dX12_begins1_48 : decode cX12_begins1 48 = .ok (.imul, 1) := by decide +kernel
theorem dX12_begins1_49 : decode cX12_begins1 49 = .ok (.iload_n 2, 1) := by decide +kernel
theorem dX12_begins1_50 : decode cX12_begins1 50 = .ok (.iadd, 1) := by decide +kernel
theorem dX12_begins1_51 : decode cX12_begins1 51 = .ok (.aload_n 0, 1) := by decide +kernel
theorem dX12_begins1_52 : decode cX12_begins1 52 = .ok (.getfield 40, 3) := by decide +kernel
theorem dX12_begins1_55 : decode cX12_begins1 55 = .ok (.bipush 9, 2) := by decide +kernel
theorem dX12_begins1_57 : decode cX12_begins1 57 = .ok (.iload_n 1, 1) := by decide +kernel
theorem dX12_begins1_58 : decode cX12_begins1 58 = .ok (.imul, 1) := by decide +kernel
theorem dX12_begins1_59 : decode cX12_begins1 59 = .ok (.iload_n 2, 1) := by decide +kernel
theorem dX12_begins1_60 : decode cX12_begins1 60 = .ok (.iadd, 1) := by decide +kernel
theorem dX12_begins1_61 : decode cX12_begins1 61 = .ok (.iaload, 1) := by decide +kernel
theorem dX12_begins1_62 : decode cX12_begins1 62 = .ok (.iastore, 1) := by decide +kernel
theorem dX12_begins1_63 : decode cX12_begins1 63 = .ok (.iinc 2 1, 3) := by decide +kernel
theorem dX12_begins1_66 : decode cX12_begins1 66 = .ok (.goto (-33), 3) := by decide +kernel
theorem dX12_begins1_69 : decode cX12_begins1 69 = .ok (.iinc 1 1, 3) := by decide +kernel
theorem dX12_begins1_72 : decode cX12_begins1 72 = .ok (.goto (-61), 3) := by decide +kernel
theorem dX12_begins1_75 : decode cX12_begins1 75 = .ok (.aload_n 0, 1) := by decide +kernel
theorem dX12_begins1_76 : decode cX12_begins1 76 = .ok (.dup, 1) := by decide +kernel
theorem dX12_begins1_77 : decode cX12_begins1 77 = .ok (.getfield 242, 3) := by decide +kernel
theorem dX12_begins1_80 : decode cX12_begins1 80 = .ok (.iconst 1, 1) := by decide +kernel
theorem dX12_begins1_81 : decode cX12_begins1 81 = .ok (.isub, 1) := by decide +kernel
theorem dX12_begins1_82 : decode cX12_begins1 82 = .ok (.putfield 242, 3) := by decide +kernel
theorem dX12_begins1_85 : decode cX12_begins1 85 = .ok (.aload_n 0, 1) := by decide +kernel
theorem dX12_begins1_86 : decode cX12_begins1 86 = .ok (.getfield 37, 3) := by decide +kernel
theorem dX12_begins1_89 : decode cX12_begins1 89 = .ok (.aload_n 0, 1) := by decide +kernel
theorem dX12_begins1_90 : decode cX12_begins1 90 = .ok (.getfield 242, 3) := by decide +kernel
theorem dX12_begins1_93 : decode cX12_begins1 93 = .ok (.aload_n 0, 1) := by decide +kernel
theorem dX12_begins1_94 : decode cX12_begins1 94 = .ok (.getfield 100, 3) := by decide +kernel
theorem dX12_begins1_97 : decode cX12_begins1 97 = .ok (.iastore, 1) := by decide +kernel
theorem dX12_begins1_98 : decode cX12_begins1 98 = .ok (.iconst 0, 1) := by decide +kernel
theorem dX12_begins1_99 : decode cX12_begins1 99 = .ok (.istore_n 1, 1) := by decide +kernel
theorem dX12_begins1_100 : decode cX12_begins1 100 = .ok (.iload_n 1, 1) := by decide +kernel
theorem dX12_begins1_101 : decode cX12_begins1 101 = .ok (.aload_n 0, 1) := by decide +kernel
theorem dX12_begins1_102 : decode cX12_begins1 102 = .ok (.getfield 100, 3) := by decide +kernel
theorem dX12_begins1_105 : decode cX12_begins1 105 = .ok (.if_icmp .ge 29, 3) := by decide +kernel
theorem dX12_begins1_108 : decode cX12_begins1 108 = .ok (.aload_n 0, 1) := by decide +kernel
theorem dX12_begins1_109 : decode cX12_begins1 109 = .ok (.getfield 40, 3) := by decide +kernel
theorem dX12_begins1_112 : decode cX12_begins1 112 = .ok (.bipush 9, 2) := by decide +kernel
theorem dX12_begins1_114 : decode cX12_begins1 114 = .ok (.aload_n 0, 1) := by decide +kernel
theorem dX12_begins1_115 : decode cX12_begins1 115 = .ok (.getfield 242, 3) := by decide +kernel
theorem dX12_begins1_118 : decode cX12_begins1 118 = .ok (.imul, 1) := by decide +kernel
theorem dX12_begins1_119 : decode cX12_begins1 119 = .ok (.iload_n 1, 1) := by decide +kernel
theorem dX12_begins1_120 : decode cX12_begins1 120 = .ok (.iadd, 1) := by decide +kernel
theorem dX12_begins1_121 : decode cX12_begins1 121 = .ok (.aload_n 0, 1) := by decide +kernel
theorem dX12_begins1_122 : decode cX12_begins1 122 = .ok (.getfield 31, 3) := by decide +kernel
theorem dX12_begins1_125 : decode cX12_begins1 125 = .ok (.iload_n 1, 1) := by decide +kernel
theorem dX12_begins1_126 : decode cX12_begins1 126 = .ok (.iaload, 1) := by decide +kernel
theorem dX12_begins1_127 : decode cX12_begins1 127 = .ok (.iastore, 1) := by decide +kernel
theorem dX12_begins1_128 : decode cX12_begins1 128 = .ok (.iinc 1 1, 3) := by decide +kernel
theorem dX12_begins1_131 : decode cX12_begins1 131 = .ok (.goto (-31), 3) := by decide +kernel
theorem dX12_begins1_134 : decode cX12_begins1 134 = .ok (.aload_n 0, 1) := by decide +kernel
theorem dX12_begins1_135 : decode cX12_begins1 135 = .ok (.dup, 1) := by decide +kernel
theorem dX12_begins1_136 : decode cX12_begins1 136 = .ok (.getfield 242, 3) := by decide +kernel
theorem dX12_begins1_139 : decode cX12_begins1 139 = .ok (.iconst 1, 1) := by decide +kernel
theorem dX12_begins1_140 : decode cX12_begins1 140 = .ok (.iadd, 1) := by decide +kernel
theorem dX12_begins1_141 : decode cX12_begins1 141 = .ok (.putfield 242, 3) := by decide +kernel
theorem dX12_begins1_144 : decode cX12_begins1 144 = .ok (.iconst 0, 1) := by decide +kernel
theorem dX12_begins1_145 : decode cX12_begins1 145 = .ok (.istore_n 1, 1) := by decide +kernel
theorem dX12_begins1_146 : decode cX12_begins1 146 = .ok (.iload_n 1, 1) := by decide +kernel
theorem dX12_begins1_147 : decode cX12_begins1 147 = .ok (.aload_n 0, 1) := by decide +kernel
theorem dX12_begins1_148 : decode cX12_begins1 148 = .ok (.getfield 93, 3) := by decide +kernel
theorem dX12_begins1_151 : decode cX12_begins1 151 = .ok (.if_icmp .ge 37, 3) := by decide +kernel
theorem dX12_begins1_154 : decode cX12_begins1 154 = .ok (.aload_n 0, 1) := by decide +kernel
theorem dX12_begins1_155 : decode cX12_begins1 155 = .ok (.getfield 49, 3) := by decide +kernel
theorem dX12_begins1_158 : decode cX12_begins1 158 = .ok (.iload_n 1, 1) := by decide +kernel
theorem dX12_begins1_159 : decode cX12_begins1 159 = .ok (.aload_n 0, 1) := by decide +kernel
theorem dX12_begins1_160 : decode cX12_begins1 160 = .ok (.iload_n 1, 1) := by decide +kernel
theorem dX12_begins1_161 : decode cX12_begins1 161 = .ok (.invokevirtual 224, 3) := by decide +kernel
theorem dX12_begins1_164 : decode cX12_begins1 164 = .ok (.ifCond .ge 8, 3) := by decide +kernel
theorem dX12_begins1_167 : decode cX12_begins1 167 = .ok (.bipush (-2), 2) := by decide +kernel
theorem dX12_begins1_169 : decode cX12_begins1 169 = .ok (.goto 12, 3) := by decide +kernel
theorem dX12_begins1_172 : decode cX12_begins1 172 = .ok (.aload_n 0, 1) := by decide +kernel
theorem dX12_begins1_173 : decode cX12_begins1 173 = .ok (.aload_n 0, 1) := by decide +kernel
theorem dX12_begins1_174 : decode cX12_begins1 174 = .ok (.iload_n 1, 1) := by decide +kernel
theorem dX12_begins1_175 : decode cX12_begins1 175 = .ok (.invokevirtual 224, 3) := by decide +kernel
theorem dX12_begins1_178 : decode cX12_begins1 178 = .ok (.invokevirtual 227, 3) := by decide +kernel
theorem dX12_begins1_181 : decode cX12_begins1 181 = .ok (.iastore, 1) := by decide +kernel
theorem dX12_begins1_182 : decode cX12_begins1 182 = .ok (.iinc 1 1, 3) := by decide +kernel
theorem dX12_begins1_185 : decode cX12_begins1 185 = .ok (.goto (-39), 3) := by decide +kernel
theorem dX12_begins1_188 : decode cX12_begins1 188 = .ok (.aload_n 0, 1) := by decide +kernel
theorem dX12_begins1_189 : decode cX12_begins1 189 = .ok (.invokevirtual 203, 3) := by decide +kernel
theorem dX12_begins1_192 : decode cX12_begins1 192 = .ok (.return_, 1) := by decide +kernel
theorem fl_X12_184 : Cond.fieldLink RX12 184 (TX12 20).1 (TX12 20).2.1 (TX12 20).2.2.1 ∈ wsL_law := (uw18 _ (List.mem_of_getElem? (i := 23) rfl))
theorem fl_X12_187 : Cond.fieldLink RX12 187 (TX12 21).1 (TX12 21).2.1 (TX12 21).2.2.1 ∈ wsL_law := (uw19 _ (List.mem_of_getElem? (i := 0) rfl))
theorem fl_X12_190 : Cond.fieldLink RX12 190 (TX12 22).1 (TX12 22).2.1 (TX12 22).2.2.1 ∈ wsL_law := (uw19 _ (List.mem_of_getElem? (i := 13) rfl))
theorem fl_X12_242 : Cond.fieldLink RX12 242 (TX12 25).1 (TX12 25).2.1 (TX12 25).2.2.1 ∈ wsL_law := (uw29 _ (List.mem_of_getElem? (i := 11) rfl))
theorem fl_X12_34 : Cond.fieldLink RX12 34 (TX12 19).1 (TX12 19).2.1 (TX12 19).2.2.1 ∈ wsL_law := (uw8 _ (List.mem_of_getElem? (i := 6) rfl))
theorem fl_X12_37 : Cond.fieldLink RX12 37 (TX12 23).1 (TX12 23).2.1 (TX12 23).2.2.1 ∈ wsL_law := (uw8 _ (List.mem_of_getElem? (i := 7) rfl))
theorem fl_X12_40 : Cond.fieldLink RX12 40 (TX12 24).1 (TX12 24).2.1 (TX12 24).2.2.1 ∈ wsL_law := (uw8 _ (List.mem_of_getElem? (i := 8) rfl))
theorem fl_X12_43 : Cond.fieldLink RX12 43 (TX12 26).1 (TX12 26).2.1 (TX12 26).2.2.1 ∈ wsL_law := (uw8 _ (List.mem_of_getElem? (i := 9) rfl))
theorem fl_X12_46 : Cond.fieldLink RX12 46 (TX12 27).1 (TX12 27).2.1 (TX12 27).2.2.1 ∈ wsL_law := (uw8 _ (List.mem_of_getElem? (i := 10) rfl))
theorem fl_X12_49 : Cond.fieldLink RX12 49 (TX12 28).1 (TX12 28).2.1 (TX12 28).2.2.1 ∈ wsL_law := (uw8 _ (List.mem_of_getElem? (i := 11) rfl))
theorem fl_X12_89 : Cond.fieldLink RX12 89 (TX12 10).1 (TX12 10).2.1 (TX12 10).2.2.1 ∈ wsL_law := (uw9 _ (List.mem_of_getElem? (i := 0) rfl))
theorem hy_X12_costNow : Cond.code yX12_costNow cX12_costNow 2 (some .int) ∈ wsL_law ∧ Cond.initialized yX12_costNow.cls ∈ wsL_law ∧ Cond.instanceMethod yX12_costNow ∈ wsL_law ∧ Cond.selects yX12_costNow.cls yX12_costNow yX12_costNow ∈ wsL_law := ⟨(uw27 _ (List.mem_of_getElem? (i := 10) rfl)), (uw1 _ (List.mem_of_getElem? (i := 5) rfl)), (uw27 _ (List.mem_of_getElem? (i := 8) rfl)), (uw27 _ (List.mem_of_getElem? (i := 9) rfl))⟩
theorem hd_X12_costNow : yX12_costNow.cls ≠ "java/lang/invoke/MethodHandle" ∧ yX12_costNow.cls ≠ "java/lang/invoke/VarHandle" ∧ (parseMethodDescriptor yX12_costNow.desc).map (fun d => d.parameters.length) = some 0 := ⟨by decide +kernel, by decide +kernel, by decide +kernel⟩
theorem hy_X12_counts : Cond.code yX12_counts cX12_counts 6 (some .boolean) ∈ wsL_law ∧ Cond.initialized yX12_counts.cls ∈ wsL_law ∧ Cond.instanceMethod yX12_counts ∈ wsL_law ∧ Cond.selects yX12_counts.cls yX12_counts yX12_counts ∈ wsL_law := ⟨(uw19 _ (List.mem_of_getElem? (i := 8) rfl)), (uw1 _ (List.mem_of_getElem? (i := 5) rfl)), (uw19 _ (List.mem_of_getElem? (i := 6) rfl)), (uw19 _ (List.mem_of_getElem? (i := 7) rfl))⟩
theorem hd_X12_counts : yX12_counts.cls ≠ "java/lang/invoke/MethodHandle" ∧ yX12_counts.cls ≠ "java/lang/invoke/VarHandle" ∧ (parseMethodDescriptor yX12_counts.desc).map (fun d => d.parameters.length) = some 3 := ⟨by decide +kernel, by decide +kernel, by decide +kernel⟩
theorem hy_X12_disquietNow : Cond.code yX12_disquietNow cX12_disquietNow 1 (some .int) ∈ wsL_law ∧ Cond.initialized yX12_disquietNow.cls ∈ wsL_law ∧ Cond.instanceMethod yX12_disquietNow ∈ wsL_law ∧ Cond.selects yX12_disquietNow.cls yX12_disquietNow yX12_disquietNow ∈ wsL_law := ⟨(uw26 _ (List.mem_of_getElem? (i := 22) rfl)), (uw1 _ (List.mem_of_getElem? (i := 5) rfl)), (uw26 _ (List.mem_of_getElem? (i := 20) rfl)), (uw26 _ (List.mem_of_getElem? (i := 21) rfl))⟩
theorem hd_X12_disquietNow : yX12_disquietNow.cls ≠ "java/lang/invoke/MethodHandle" ∧ yX12_disquietNow.cls ≠ "java/lang/invoke/VarHandle" ∧ (parseMethodDescriptor yX12_disquietNow.desc).map (fun d => d.parameters.length) = some 0 := ⟨by decide +kernel, by decide +kernel, by decide +kernel⟩
theorem hy_X12_disquietOf : Cond.code yX12_disquietOf cX12_disquietOf 3 (some .int) ∈ wsL_law ∧ Cond.initialized yX12_disquietOf.cls ∈ wsL_law ∧ Cond.instanceMethod yX12_disquietOf ∈ wsL_law ∧ Cond.selects yX12_disquietOf.cls yX12_disquietOf yX12_disquietOf ∈ wsL_law := ⟨(uw27 _ (List.mem_of_getElem? (i := 2) rfl)), (uw1 _ (List.mem_of_getElem? (i := 5) rfl)), (uw27 _ (List.mem_of_getElem? (i := 0) rfl)), (uw27 _ (List.mem_of_getElem? (i := 1) rfl))⟩
theorem hd_X12_disquietOf : yX12_disquietOf.cls ≠ "java/lang/invoke/MethodHandle" ∧ yX12_disquietOf.cls ≠ "java/lang/invoke/VarHandle" ∧ (parseMethodDescriptor yX12_disquietOf.desc).map (fun d => d.parameters.length) = some 0 := ⟨by decide +kernel, by decide +kernel, by decide +kernel⟩
theorem hy_X12_heightOf : Cond.code yX12_heightOf cX12_heightOf 2 (some .int) ∈ wsL_law ∧ Cond.initialized yX12_heightOf.cls ∈ wsL_law ∧ Cond.instanceMethod yX12_heightOf ∈ wsL_law ∧ Cond.selects yX12_heightOf.cls yX12_heightOf yX12_heightOf ∈ wsL_law := ⟨(uw19 _ (List.mem_of_getElem? (i := 12) rfl)), (uw1 _ (List.mem_of_getElem? (i := 5) rfl)), (uw19 _ (List.mem_of_getElem? (i := 10) rfl)), (uw19 _ (List.mem_of_getElem? (i := 11) rfl))⟩
theorem hd_X12_heightOf : yX12_heightOf.cls ≠ "java/lang/invoke/MethodHandle" ∧ yX12_heightOf.cls ≠ "java/lang/invoke/VarHandle" ∧ (parseMethodDescriptor yX12_heightOf.desc).map (fun d => d.parameters.length) = some 1 := ⟨by decide +kernel, by decide +kernel, by decide +kernel⟩
theorem hy_X12_isPlace : Cond.code yX12_isPlace cX12_isPlace 2 (some .boolean) ∈ wsL_law ∧ Cond.initialized yX12_isPlace.cls ∈ wsL_law ∧ Cond.instanceMethod yX12_isPlace ∈ wsL_law ∧ Cond.selects yX12_isPlace.cls yX12_isPlace yX12_isPlace ∈ wsL_law := ⟨(uw21 _ (List.mem_of_getElem? (i := 17) rfl)), (uw1 _ (List.mem_of_getElem? (i := 5) rfl)), (uw21 _ (List.mem_of_getElem? (i := 15) rfl)), (uw21 _ (List.mem_of_getElem? (i := 16) rfl))⟩
theorem hd_X12_isPlace : yX12_isPlace.cls ≠ "java/lang/invoke/MethodHandle" ∧ yX12_isPlace.cls ≠ "java/lang/invoke/VarHandle" ∧ (parseMethodDescriptor yX12_isPlace.desc).map (fun d => d.parameters.length) = some 1 := ⟨by decide +kernel, by decide +kernel, by decide +kernel⟩
theorem hy_X12_laysOut : Cond.code yX12_laysOut cX12_laysOut 2 none ∈ wsL_law ∧ Cond.initialized yX12_laysOut.cls ∈ wsL_law ∧ Cond.instanceMethod yX12_laysOut ∈ wsL_law ∧ Cond.selects yX12_laysOut.cls yX12_laysOut yX12_laysOut ∈ wsL_law := ⟨(uw18 _ (List.mem_of_getElem? (i := 22) rfl)), (uw1 _ (List.mem_of_getElem? (i := 5) rfl)), (uw18 _ (List.mem_of_getElem? (i := 20) rfl)), (uw18 _ (List.mem_of_getElem? (i := 21) rfl))⟩
theorem hd_X12_laysOut : yX12_laysOut.cls ≠ "java/lang/invoke/MethodHandle" ∧ yX12_laysOut.cls ≠ "java/lang/invoke/VarHandle" ∧ (parseMethodDescriptor yX12_laysOut.desc).map (fun d => d.parameters.length) = some 0 := ⟨by decide +kernel, by decide +kernel, by decide +kernel⟩
theorem hy_X12_numberAt : Cond.code yX12_numberAt cX12_numberAt 4 (some .int) ∈ wsL_law ∧ Cond.initialized yX12_numberAt.cls ∈ wsL_law ∧ Cond.instanceMethod yX12_numberAt ∈ wsL_law ∧ Cond.selects yX12_numberAt.cls yX12_numberAt yX12_numberAt ∈ wsL_law := ⟨(uw19 _ (List.mem_of_getElem? (i := 4) rfl)), (uw1 _ (List.mem_of_getElem? (i := 5) rfl)), (uw19 _ (List.mem_of_getElem? (i := 2) rfl)), (uw19 _ (List.mem_of_getElem? (i := 3) rfl))⟩
theorem hd_X12_numberAt : yX12_numberAt.cls ≠ "java/lang/invoke/MethodHandle" ∧ yX12_numberAt.cls ≠ "java/lang/invoke/VarHandle" ∧ (parseMethodDescriptor yX12_numberAt.desc).map (fun d => d.parameters.length) = some 1 := ⟨by decide +kernel, by decide +kernel, by decide +kernel⟩
theorem hy_X12_numberNow : Cond.code yX12_numberNow cX12_numberNow 2 (some .int) ∈ wsL_law ∧ Cond.initialized yX12_numberNow.cls ∈ wsL_law ∧ Cond.instanceMethod yX12_numberNow ∈ wsL_law ∧ Cond.selects yX12_numberNow.cls yX12_numberNow yX12_numberNow ∈ wsL_law := ⟨(uw18 _ (List.mem_of_getElem? (i := 18) rfl)), (uw1 _ (List.mem_of_getElem? (i := 5) rfl)), (uw18 _ (List.mem_of_getElem? (i := 16) rfl)), (uw18 _ (List.mem_of_getElem? (i := 17) rfl))⟩
theorem hd_X12_numberNow : yX12_numberNow.cls ≠ "java/lang/invoke/MethodHandle" ∧ yX12_numberNow.cls ≠ "java/lang/invoke/VarHandle" ∧ (parseMethodDescriptor yX12_numberNow.desc).map (fun d => d.parameters.length) = some 1 := ⟨by decide +kernel, by decide +kernel, by decide +kernel⟩
theorem hy_X12_ofPerson : Cond.code yX12_ofPerson cX12_ofPerson 3 (some .int) ∈ wsL_law ∧ Cond.initialized yX12_ofPerson.cls ∈ wsL_law ∧ Cond.instanceMethod yX12_ofPerson ∈ wsL_law ∧ Cond.selects yX12_ofPerson.cls yX12_ofPerson yX12_ofPerson ∈ wsL_law := ⟨(uw18 _ (List.mem_of_getElem? (i := 10) rfl)), (uw1 _ (List.mem_of_getElem? (i := 5) rfl)), (uw18 _ (List.mem_of_getElem? (i := 8) rfl)), (uw18 _ (List.mem_of_getElem? (i := 9) rfl))⟩
theorem hd_X12_ofPerson : yX12_ofPerson.cls ≠ "java/lang/invoke/MethodHandle" ∧ yX12_ofPerson.cls ≠ "java/lang/invoke/VarHandle" ∧ (parseMethodDescriptor yX12_ofPerson.desc).map (fun d => d.parameters.length) = some 2 := ⟨by decide +kernel, by decide +kernel, by decide +kernel⟩
theorem hy_X12_placeOf : Cond.code yX12_placeOf cX12_placeOf 3 (some .int) ∈ wsL_law ∧ Cond.initialized yX12_placeOf.cls ∈ wsL_law ∧ Cond.instanceMethod yX12_placeOf ∈ wsL_law ∧ Cond.selects yX12_placeOf.cls yX12_placeOf yX12_placeOf ∈ wsL_law := ⟨(uw18 _ (List.mem_of_getElem? (i := 14) rfl)), (uw1 _ (List.mem_of_getElem? (i := 5) rfl)), (uw18 _ (List.mem_of_getElem? (i := 12) rfl)), (uw18 _ (List.mem_of_getElem? (i := 13) rfl))⟩
theorem hd_X12_placeOf : yX12_placeOf.cls ≠ "java/lang/invoke/MethodHandle" ∧ yX12_placeOf.cls ≠ "java/lang/invoke/VarHandle" ∧ (parseMethodDescriptor yX12_placeOf.desc).map (fun d => d.parameters.length) = some 1 := ⟨by decide +kernel, by decide +kernel, by decide +kernel⟩
theorem hy_X12_plainAt : Cond.code yX12_plainAt cX12_plainAt 4 (some .int) ∈ wsL_law ∧ Cond.initialized yX12_plainAt.cls ∈ wsL_law ∧ Cond.instanceMethod yX12_plainAt ∈ wsL_law ∧ Cond.selects yX12_plainAt.cls yX12_plainAt yX12_plainAt ∈ wsL_law := ⟨(uw21 _ (List.mem_of_getElem? (i := 21) rfl)), (uw1 _ (List.mem_of_getElem? (i := 5) rfl)), (uw21 _ (List.mem_of_getElem? (i := 19) rfl)), (uw21 _ (List.mem_of_getElem? (i := 20) rfl))⟩
theorem hd_X12_plainAt : yX12_plainAt.cls ≠ "java/lang/invoke/MethodHandle" ∧ yX12_plainAt.cls ≠ "java/lang/invoke/VarHandle" ∧ (parseMethodDescriptor yX12_plainAt.desc).map (fun d => d.parameters.length) = some 1 := ⟨by decide +kernel, by decide +kernel, by decide +kernel⟩
theorem hy_X12_plainNow : Cond.code yX12_plainNow cX12_plainNow 3 (some .int) ∈ wsL_law ∧ Cond.initialized yX12_plainNow.cls ∈ wsL_law ∧ Cond.instanceMethod yX12_plainNow ∈ wsL_law ∧ Cond.selects yX12_plainNow.cls yX12_plainNow yX12_plainNow ∈ wsL_law := ⟨(uw27 _ (List.mem_of_getElem? (i := 6) rfl)), (uw1 _ (List.mem_of_getElem? (i := 5) rfl)), (uw27 _ (List.mem_of_getElem? (i := 4) rfl)), (uw27 _ (List.mem_of_getElem? (i := 5) rfl))⟩
theorem hd_X12_plainNow : yX12_plainNow.cls ≠ "java/lang/invoke/MethodHandle" ∧ yX12_plainNow.cls ≠ "java/lang/invoke/VarHandle" ∧ (parseMethodDescriptor yX12_plainNow.desc).map (fun d => d.parameters.length) = some 0 := ⟨by decide +kernel, by decide +kernel, by decide +kernel⟩
theorem hy_X12_takesOut : Cond.code yX12_takesOut cX12_takesOut 3 none ∈ wsL_law ∧ Cond.initialized yX12_takesOut.cls ∈ wsL_law ∧ Cond.instanceMethod yX12_takesOut ∈ wsL_law ∧ Cond.selects yX12_takesOut.cls yX12_takesOut yX12_takesOut ∈ wsL_law := ⟨(uw27 _ (List.mem_of_getElem? (i := 14) rfl)), (uw1 _ (List.mem_of_getElem? (i := 5) rfl)), (uw27 _ (List.mem_of_getElem? (i := 12) rfl)), (uw27 _ (List.mem_of_getElem? (i := 13) rfl))⟩
theorem hd_X12_takesOut : yX12_takesOut.cls ≠ "java/lang/invoke/MethodHandle" ∧ yX12_takesOut.cls ≠ "java/lang/invoke/VarHandle" ∧ (parseMethodDescriptor yX12_takesOut.desc).map (fun d => d.parameters.length) = some 1 := ⟨by decide +kernel, by decide +kernel, by decide +kernel⟩
theorem hy_X12_workOut : Cond.code yX12_workOut cX12_workOut 8 (some .int) ∈ wsL_law ∧ Cond.initialized yX12_workOut.cls ∈ wsL_law ∧ Cond.instanceMethod yX12_workOut ∈ wsL_law ∧ Cond.selects yX12_workOut.cls yX12_workOut yX12_workOut ∈ wsL_law := ⟨(uw19 _ (List.mem_of_getElem? (i := 17) rfl)), (uw1 _ (List.mem_of_getElem? (i := 5) rfl)), (uw19 _ (List.mem_of_getElem? (i := 15) rfl)), (uw19 _ (List.mem_of_getElem? (i := 16) rfl))⟩
theorem hd_X12_workOut : yX12_workOut.cls ≠ "java/lang/invoke/MethodHandle" ∧ yX12_workOut.cls ≠ "java/lang/invoke/VarHandle" ∧ (parseMethodDescriptor yX12_workOut.desc).map (fun d => d.parameters.length) = some 2 := ⟨by decide +kernel, by decide +kernel, by decide +kernel⟩
theorem ml_X12_180 : Cond.methodLink RX12 180 yX12_workOut ∈ wsL_law := (uw19 _ (List.mem_of_getElem? (i := 14) rfl))
theorem ml_X12_193 : Cond.methodLink RX12 193 yX12_heightOf ∈ wsL_law := (uw19 _ (List.mem_of_getElem? (i := 9) rfl))
theorem ml_X12_196 : Cond.methodLink RX12 196 yX12_counts ∈ wsL_law := (uw19 _ (List.mem_of_getElem? (i := 5) rfl))
theorem ml_X12_200 : Cond.methodLink RX12 200 yX12_numberAt ∈ wsL_law := (uw19 _ (List.mem_of_getElem? (i := 1) rfl))
theorem ml_X12_203 : Cond.methodLink RX12 203 yX12_laysOut ∈ wsL_law := (uw18 _ (List.mem_of_getElem? (i := 19) rfl))
theorem ml_X12_206 : Cond.methodLink RX12 206 yX12_disquietOf ∈ wsL_law := (uw26 _ (List.mem_of_getElem? (i := 23) rfl))
theorem ml_X12_209 : Cond.methodLink RX12 209 yX12_plainAt ∈ wsL_law := (uw21 _ (List.mem_of_getElem? (i := 18) rfl))
theorem ml_X12_212 : Cond.methodLink RX12 212 yX12_takesOut ∈ wsL_law := (uw27 _ (List.mem_of_getElem? (i := 11) rfl))
theorem ml_X12_215 : Cond.methodLink RX12 215 yX12_disquietNow ∈ wsL_law := (uw26 _ (List.mem_of_getElem? (i := 19) rfl))
theorem ml_X12_218 : Cond.methodLink RX12 218 yX12_plainNow ∈ wsL_law := (uw27 _ (List.mem_of_getElem? (i := 3) rfl))
theorem ml_X12_221 : Cond.methodLink RX12 221 yX12_costNow ∈ wsL_law := (uw27 _ (List.mem_of_getElem? (i := 7) rfl))
theorem ml_X12_224 : Cond.methodLink RX12 224 yX12_placeOf ∈ wsL_law := (uw18 _ (List.mem_of_getElem? (i := 11) rfl))
theorem ml_X12_227 : Cond.methodLink RX12 227 yX12_numberNow ∈ wsL_law := (uw18 _ (List.mem_of_getElem? (i := 15) rfl))
theorem ml_X12_232 : Cond.methodLink RX12 232 yX12_ofPerson ∈ wsL_law := (uw18 _ (List.mem_of_getElem? (i := 7) rfl))
theorem ml_X12_239 : Cond.methodLink RX12 239 yX12_isPlace ∈ wsL_law := (uw21 _ (List.mem_of_getElem? (i := 14) rfl))
abbrev w_M_workOut (G : zG) (a_this : Nat) (a_height : Nat) (a_changeAt : Nat) (a_changeWas : Nat) (a_changeIs : Nat) (a_tape : Nat) (a_text : Nat) (a_names : Nat) (a_line : Nat) (a_row : Nat) (a_pastMany : Nat) (a_past : Nat) (a_changed : Nat) (a_greatest : Nat) (a_numbersWere : Nat) (a_told : Nat) (a_waysOf : Nat) (a_waysWere : Nat) (a_blocks : Nat) (a_ordersOf : Nat) (a_imageLine : Nat) (a_bodyKind : Nat) (a_trace : Nat) (a_shelf : Nat) (a_many : Nat) (a_items : Nat) (a_carried : Nat) (people : Int32) (keptMany : Int32) (done : Int32) (tapeMany : Int32) (textMany : Int32) (base : Int32) (at_ : Int32) (ends : Int32) (fault : Int32) (opened : Int32) (lineMany : Int32) (rowMany : Int32) (taller : Int32) (tallerBy : Int32) (pasts : Int32) (isKept : Int32) (imageMany : Int32) (bodies : Int32) (ran : Int32) (ownKind : Int32) (ownNumber : Int32) (tape : Nat → Int32) (text : Nat → Int32) (names : Nat → Int32) : va_W := [(a_this, cO 12 [.int people, .ref a_height, .ref a_changeAt, .ref a_changeWas, .ref a_changeIs, .int keptMany, .int done, .ref a_tape, .int tapeMany, .ref a_text, .int textMany, .int base, .int at_, .int ends, .int fault, .int opened, .ref a_names, .ref a_line, .int lineMany, .ref a_row, .int rowMany, .int taller, .int tallerBy, .ref a_pastMany, .ref a_past, .int pasts, .ref a_changed, .ref a_greatest, .ref a_numbersWere, .ref a_told, .ref a_waysOf, .ref a_waysWere, .ref a_blocks, .ref a_ordersOf, .int isKept, .int imageMany, .ref a_imageLine, .int bodies, .ref a_bodyKind, .ref a_trace, .int ran, .int ownKind, .int ownNumber, .ref a_shelf, .ref a_many, .ref a_items, .ref a_carried]), (a_tape, cI G 120 tape), (a_text, cI G 120 text), (a_names, cI G 5 names)]
def f_M_workOut_L33 (base : Int32) (ends : Int32) (tape : Nat → Int32) (text : Nat → Int32) (names : Nat → Int32) : Nat → Int32 → Int32 → Int32 → Int32 → Int32 → Int32 → Option (Int32 × Int32 × Int32 × Int32)
  | 0, _, _, _, _, _, _ => none
  | fuel + 1, at_, fault, opened, v3, v4, v5 => (if v5 = 0 then (some (at_, fault, opened, v4)) else (zb4 (f_M_either (f_M_one 20) base at_ ends fault opened tape text names) fun r_1 at__2 fault_3 opened_4 => (zb2 (f_M_takes base at__2 ends fault_3 tape text 63) fun r_6 at__7 => (if r_6 = 0 then (if (0 : Int32) ≤ fault_3 then (zb2 (f_M_takes base at__7 ends fault_3 tape text 59) fun r_9 at__10 => (f_M_workOut_L33 base ends tape text names fuel at__10 fault_3 opened_4 v3 v4 r_9)) else (if v3 = 0 then (zb2 (f_M_takes base at__7 ends fault_3 tape text 59) fun r_15 at__16 => (f_M_workOut_L33 base ends tape text names fuel at__16 fault_3 opened_4 1 r_1 r_15)) else (zb2 (f_M_takes base at__7 ends fault_3 tape text 59) fun r_12 at__13 => (f_M_workOut_L33 base ends tape text names fuel at__13 fault_3 opened_4 v3 v4 r_12)))) else (if r_1 = 0 then (zb4 (f_M_either (f_M_one 20) base at__7 ends fault_3 opened_4 tape text names) fun r_18 at__19 fault_20 opened_21 => (if (0 : Int32) ≤ fault_20 then (zb2 (f_M_takes base at__19 ends fault_20 tape text 59) fun r_23 at__24 => (f_M_workOut_L33 base ends tape text names fuel at__24 fault_20 opened_21 v3 v4 r_23)) else (zb2 (f_M_takes base at__19 ends fault_20 tape text 59) fun r_26 at__27 => (f_M_workOut_L33 base ends tape text names fuel at__27 fault_20 opened_21 v3 v4 r_26)))) else (zb4 (f_M_either (f_M_one 20) base at__7 ends fault_3 opened_4 tape text names) fun r_29 at__30 fault_31 opened_32 => (if (0 : Int32) ≤ fault_31 then (zb2 (f_M_takes base at__30 ends fault_31 tape text 59) fun r_34 at__35 => (f_M_workOut_L33 base ends tape text names fuel at__35 fault_31 opened_32 v3 v4 r_34)) else (if v3 = 0 then (zb2 (f_M_takes base at__30 ends fault_31 tape text 59) fun r_40 at__41 => (f_M_workOut_L33 base ends tape text names fuel at__41 fault_31 opened_32 1 r_29 r_40)) else (zb2 (f_M_takes base at__30 ends fault_31 tape text 59) fun r_37 at__38 => (f_M_workOut_L33 base ends tape text names fuel at__38 fault_31 opened_32 v3 v4 r_37))))))))))
def f_M_workOut (base : Int32) (at_ : Int32) (ends : Int32) (fault : Int32) (opened : Int32) (tape : Nat → Int32) (text : Nat → Int32) (names : Nat → Int32) (x1 : Int32) (x2 : Int32) : Option (Int32 × Int32 × Int32 × Int32 × Int32 × Int32) := (zb4 (f_M_workOut_L33 x1 x2 tape text names FU 0 ((-1) : Int32) 0 0 0 1) fun at__43 fault_44 opened_45 v4_46 => (if (0 : Int32) ≤ fault_44 then (some (v4_46, x1, at__43, x2, fault_44, opened_45)) else (if x2 ≤ at__43 then (some (v4_46, x1, at__43, x2, fault_44, opened_45)) else (zb2 (f_M_wrong at__43 fault_44) fun r_47 fault_48 => (some (r_47, x1, at__43, x2, fault_48, opened_45))))))
set_option maxRecDepth 100000 in
set_option maxHeartbeats 4000000 in
theorem l_M_workOut_33 {X : zX} (G : zG) (a_this : Nat) (a_height : Nat) (a_changeAt : Nat) (a_changeWas : Nat) (a_changeIs : Nat) (a_tape : Nat) (a_text : Nat) (a_names : Nat) (a_line : Nat) (a_row : Nat) (a_pastMany : Nat) (a_past : Nat) (a_changed : Nat) (a_greatest : Nat) (a_numbersWere : Nat) (a_told : Nat) (a_waysOf : Nat) (a_waysWere : Nat) (a_blocks : Nat) (a_ordersOf : Nat) (a_imageLine : Nat) (a_bodyKind : Nat) (a_trace : Nat) (a_shelf : Nat) (a_many : Nat) (a_items : Nat) (a_carried : Nat) (people : Int32) (keptMany : Int32) (done : Int32) (tapeMany : Int32) (textMany : Int32) (base : Int32) (ends : Int32) (lineMany : Int32) (rowMany : Int32) (taller : Int32) (tallerBy : Int32) (pasts : Int32) (isKept : Int32) (imageMany : Int32) (bodies : Int32) (ran : Int32) (ownKind : Int32) (ownNumber : Int32) (tape : Nat → Int32) (text : Nat → Int32) (names : Nat → Int32) {v0 : Option Value} {w0 : va_W} (F : zF X G cX12_workOut RX12 8 (some .int) 149 3458 v0 w0) (e_at_ : Int32) (e_fault : Int32) (e_opened : Int32) (e_v4 : Int32) (hk : Z X G 8 (w_M_workOut G a_this a_height a_changeAt a_changeWas a_changeIs a_tape a_text a_names a_line a_row a_pastMany a_past a_changed a_greatest a_numbersWere a_told a_waysOf a_waysWere a_blocks a_ordersOf a_imageLine a_bodyKind a_trace a_shelf a_many a_items a_carried people keptMany done tapeMany textMany base e_at_ ends e_fault e_opened lineMany rowMany taller tallerBy pasts isKept imageMany bodies ran ownKind ownNumber tape text names) [(0, .ref a_this), (4, .int e_v4)] 107 []) :
    ∀ (fuel : Nat) (at_ : Int32) (fault : Int32) (opened : Int32) (v3 : Int32) (v4 : Int32) (v5 : Int32), f_M_workOut_L33 base ends tape text names fuel at_ fault opened v3 v4 v5 = some (e_at_, e_fault, e_opened, e_v4) → Z X G 8 (w_M_workOut G a_this a_height a_changeAt a_changeWas a_changeIs a_tape a_text a_names a_line a_row a_pastMany a_past a_changed a_greatest a_numbersWere a_told a_waysOf a_waysWere a_blocks a_ordersOf a_imageLine a_bodyKind a_trace a_shelf a_many a_items a_carried people keptMany done tapeMany textMany base at_ ends fault opened lineMany rowMany taller tallerBy pasts isKept imageMany bodies ran ownKind ownNumber tape text names) [(0, .ref a_this), (3, .int v3), (4, .int v4), (5, .int v5)] 33 [] := by
  intro fuel
  induction fuel with
  | zero => intro at_ fault opened v3 v4 v5 hf; exact absurd ((f_M_workOut_L33.eq_1 ..).symm.trans hf) (fun h => by cases h)
  | succ fuel ih =>
    intro at_ fault opened v3 v4 v5 hf
    replace hf := (f_M_workOut_L33.eq_2 ..).symm.trans hf
    refine z_iload F 3 dX12_workOut_33 rfl ?_
    refine z_if_eq F 107 dX12_workOut_35 (by decide) hf (fun hf _ => ?_) (fun hf _ => ?_)
    · have eq1 := Option.some.inj hf
      obtain ⟨ee1, eq2⟩ := Prod.mk.inj eq1
      obtain ⟨ee2, eq3⟩ := Prod.mk.inj eq2
      obtain ⟨ee3, ee4⟩ := Prod.mk.inj eq3
      subst ee1
      subst ee2
      subst ee3
      subst ee4
      exact z_sub [0, 2] rfl hk
    · refine z_aload_n F 0 dX12_workOut_38 rfl rfl ?_
      obtain ⟨r_1, at__2, fault_3, opened_4, hg, hf⟩ := zb4_some hf
      refine z_callVm (rest := []) F 12 (c_M_either (xL X) G a_this a_height a_changeAt a_changeWas a_changeIs a_tape a_text a_names a_line a_row a_pastMany a_past a_changed a_greatest a_numbersWere a_told a_waysOf a_waysWere a_blocks a_ordersOf a_imageLine a_bodyKind a_trace a_shelf a_many a_items a_carried people keptMany done tapeMany textMany base at_ ends fault opened lineMany rowMany taller tallerBy pasts isKept imageMany bodies ran ownKind ownNumber tape text names (f_M_one 20) (kn_M_one (xL X) G a_this a_height a_changeAt a_changeWas a_changeIs a_tape a_text a_names a_line a_row a_pastMany a_past a_changed a_greatest a_numbersWere a_told a_waysOf a_waysWere a_blocks a_ordersOf a_imageLine a_bodyKind a_trace a_shelf a_many a_items a_carried 20) r_1 at__2 fault_3 opened_4 hg) hy_X12_either ml_X12_173 hd_X12_either ⟨by omega, by omega⟩ rfl [0, 1, 2, 3] rfl rfl 0 rfl rfl (w_M_workOut G a_this a_height a_changeAt a_changeWas a_changeIs a_tape a_text a_names a_line a_row a_pastMany a_past a_changed a_greatest a_numbersWere a_told a_waysOf a_waysWere a_blocks a_ordersOf a_imageLine a_bodyKind a_trace a_shelf a_many a_items a_carried people keptMany done tapeMany textMany base at__2 ends fault_3 opened_4 lineMany rowMany taller tallerBy pasts isKept imageMany bodies ran ownKind ownNumber tape text names) [some 0, some 1, some 2, some 3] rfl (by decide +kernel) rfl rfl (Nat.le_of_ble_eq_true rfl) dX12_workOut_39 (fun hz_5 => ?_)
      refine z_istore F [(6, .int r_1), (0, .ref a_this), (3, .int v3), (4, .int v4), (5, .int v5)] dX12_workOut_42 (by decide) rfl ?_
      refine z_iconst F (1) dX12_workOut_44 rfl ?_
      refine z_istore F [(7, .int 1), (6, .int r_1), (0, .ref a_this), (3, .int v3), (4, .int v4), (5, .int v5)] dX12_workOut_45 (by decide) rfl ?_
      refine z_aload_n F 2 dX12_workOut_47 rfl rfl ?_
      refine z_bipush F (63) dX12_workOut_48 rfl ?_
      obtain ⟨r_6, at__7, hg, hf⟩ := zb2_some hf
      refine z_callVm (rest := []) F 12 (c_M_takes (xL X) G a_this a_height a_changeAt a_changeWas a_changeIs a_tape a_text a_names a_line a_row a_pastMany a_past a_changed a_greatest a_numbersWere a_told a_waysOf a_waysWere a_blocks a_ordersOf a_imageLine a_bodyKind a_trace a_shelf a_many a_items a_carried people keptMany done tapeMany textMany base at__2 ends fault_3 opened_4 lineMany rowMany taller tallerBy pasts isKept imageMany bodies ran ownKind ownNumber tape text 63 r_6 at__7 hg) hy_X12_takes ml_X12_152 hd_X12_takes ⟨by omega, by omega⟩ rfl [0, 1, 2] rfl rfl 0 rfl rfl (w_M_workOut G a_this a_height a_changeAt a_changeWas a_changeIs a_tape a_text a_names a_line a_row a_pastMany a_past a_changed a_greatest a_numbersWere a_told a_waysOf a_waysWere a_blocks a_ordersOf a_imageLine a_bodyKind a_trace a_shelf a_many a_items a_carried people keptMany done tapeMany textMany base at__7 ends fault_3 opened_4 lineMany rowMany taller tallerBy pasts isKept imageMany bodies ran ownKind ownNumber tape text names) [some 0, some 1, some 2, none] rfl (by decide +kernel) rfl rfl (Nat.le_of_ble_eq_true rfl) dX12_workOut_50 (fun hz_8 => ?_)
      refine z_if_eq F 74 dX12_workOut_53 (by decide) hf (fun hf _ => ?_) (fun hf _ => ?_)
      · refine z_aload_n F 2 dX12_workOut_74 rfl rfl ?_
        refine z_get F 0 12 14 inlX12 rfl rfl (by decide) fl_X12_142 rfl dX12_workOut_75 ?_
        refine z_if_ge F 96 dX12_workOut_78 (by decide) hf (fun hf _ => ?_) (fun hf _ => ?_)
        · refine z_aload_n F 2 dX12_workOut_96 rfl rfl ?_
          refine z_bipush F (59) dX12_workOut_97 rfl ?_
          obtain ⟨r_9, at__10, hg, hf⟩ := zb2_some hf
          refine z_callVm (rest := []) F 12 (c_M_takes (xL X) G a_this a_height a_changeAt a_changeWas a_changeIs a_tape a_text a_names a_line a_row a_pastMany a_past a_changed a_greatest a_numbersWere a_told a_waysOf a_waysWere a_blocks a_ordersOf a_imageLine a_bodyKind a_trace a_shelf a_many a_items a_carried people keptMany done tapeMany textMany base at__7 ends fault_3 opened_4 lineMany rowMany taller tallerBy pasts isKept imageMany bodies ran ownKind ownNumber tape text 59 r_9 at__10 hg) hy_X12_takes ml_X12_152 hd_X12_takes ⟨by omega, by omega⟩ rfl [0, 1, 2] rfl rfl 0 rfl rfl (w_M_workOut G a_this a_height a_changeAt a_changeWas a_changeIs a_tape a_text a_names a_line a_row a_pastMany a_past a_changed a_greatest a_numbersWere a_told a_waysOf a_waysWere a_blocks a_ordersOf a_imageLine a_bodyKind a_trace a_shelf a_many a_items a_carried people keptMany done tapeMany textMany base at__10 ends fault_3 opened_4 lineMany rowMany taller tallerBy pasts isKept imageMany bodies ran ownKind ownNumber tape text names) [some 0, some 1, some 2, none] rfl (by decide +kernel) rfl rfl (Nat.le_of_ble_eq_true rfl) dX12_workOut_99 (fun hz_11 => ?_)
          refine z_istore F [(5, .int r_9), (7, .int 1), (6, .int r_1), (0, .ref a_this), (3, .int v3), (4, .int v4)] dX12_workOut_102 (by decide) rfl ?_
          refine z_goto F 33 dX12_workOut_104 (by decide) ?_
          exact z_sub [3, 4, 5, 0] rfl (ih at__10 fault_3 opened_4 v3 v4 r_9 hf)
        · refine z_iload F 0 dX12_workOut_81 rfl ?_
          refine z_if_eq_f F 96 dX12_workOut_83 (by decide) (by decide) ?_
          refine z_iload_n F 3 dX12_workOut_86 rfl rfl ?_
          refine z_if_ne F 96 dX12_workOut_87 (by decide) hf (fun hf _ => ?_) (fun hf _ => ?_)
          · refine z_aload_n F 2 dX12_workOut_96 rfl rfl ?_
            refine z_bipush F (59) dX12_workOut_97 rfl ?_
            obtain ⟨r_12, at__13, hg, hf⟩ := zb2_some hf
            refine z_callVm (rest := []) F 12 (c_M_takes (xL X) G a_this a_height a_changeAt a_changeWas a_changeIs a_tape a_text a_names a_line a_row a_pastMany a_past a_changed a_greatest a_numbersWere a_told a_waysOf a_waysWere a_blocks a_ordersOf a_imageLine a_bodyKind a_trace a_shelf a_many a_items a_carried people keptMany done tapeMany textMany base at__7 ends fault_3 opened_4 lineMany rowMany taller tallerBy pasts isKept imageMany bodies ran ownKind ownNumber tape text 59 r_12 at__13 hg) hy_X12_takes ml_X12_152 hd_X12_takes ⟨by omega, by omega⟩ rfl [0, 1, 2] rfl rfl 0 rfl rfl (w_M_workOut G a_this a_height a_changeAt a_changeWas a_changeIs a_tape a_text a_names a_line a_row a_pastMany a_past a_changed a_greatest a_numbersWere a_told a_waysOf a_waysWere a_blocks a_ordersOf a_imageLine a_bodyKind a_trace a_shelf a_many a_items a_carried people keptMany done tapeMany textMany base at__13 ends fault_3 opened_4 lineMany rowMany taller tallerBy pasts isKept imageMany bodies ran ownKind ownNumber tape text names) [some 0, some 1, some 2, none] rfl (by decide +kernel) rfl rfl (Nat.le_of_ble_eq_true rfl) dX12_workOut_99 (fun hz_14 => ?_)
            refine z_istore F [(5, .int r_12), (7, .int 1), (6, .int r_1), (0, .ref a_this), (3, .int v3), (4, .int v4)] dX12_workOut_102 (by decide) rfl ?_
            refine z_goto F 33 dX12_workOut_104 (by decide) ?_
            exact z_sub [3, 4, 5, 0] rfl (ih at__13 fault_3 opened_4 v3 v4 r_12 hf)
          · refine z_iconst F (1) dX12_workOut_90 rfl ?_
            refine z_istore_n F [(3, .int 1), (7, .int 1), (6, .int r_1), (0, .ref a_this), (4, .int v4), (5, .int v5)] dX12_workOut_91 rfl (by decide) rfl ?_
            refine z_iload F 2 dX12_workOut_92 rfl ?_
            refine z_istore F [(4, .int r_1), (3, .int 1), (7, .int 1), (6, .int r_1), (0, .ref a_this), (5, .int v5)] dX12_workOut_94 (by decide) rfl ?_
            refine z_aload_n F 4 dX12_workOut_96 rfl rfl ?_
            refine z_bipush F (59) dX12_workOut_97 rfl ?_
            obtain ⟨r_15, at__16, hg, hf⟩ := zb2_some hf
            refine z_callVm (rest := []) F 12 (c_M_takes (xL X) G a_this a_height a_changeAt a_changeWas a_changeIs a_tape a_text a_names a_line a_row a_pastMany a_past a_changed a_greatest a_numbersWere a_told a_waysOf a_waysWere a_blocks a_ordersOf a_imageLine a_bodyKind a_trace a_shelf a_many a_items a_carried people keptMany done tapeMany textMany base at__7 ends fault_3 opened_4 lineMany rowMany taller tallerBy pasts isKept imageMany bodies ran ownKind ownNumber tape text 59 r_15 at__16 hg) hy_X12_takes ml_X12_152 hd_X12_takes ⟨by omega, by omega⟩ rfl [0, 1, 2] rfl rfl 0 rfl rfl (w_M_workOut G a_this a_height a_changeAt a_changeWas a_changeIs a_tape a_text a_names a_line a_row a_pastMany a_past a_changed a_greatest a_numbersWere a_told a_waysOf a_waysWere a_blocks a_ordersOf a_imageLine a_bodyKind a_trace a_shelf a_many a_items a_carried people keptMany done tapeMany textMany base at__16 ends fault_3 opened_4 lineMany rowMany taller tallerBy pasts isKept imageMany bodies ran ownKind ownNumber tape text names) [some 0, some 1, some 2, none] rfl (by decide +kernel) rfl rfl (Nat.le_of_ble_eq_true rfl) dX12_workOut_99 (fun hz_17 => ?_)
            refine z_istore F [(5, .int r_15), (4, .int r_1), (3, .int 1), (7, .int 1), (6, .int r_1), (0, .ref a_this)] dX12_workOut_102 (by decide) rfl ?_
            refine z_goto F 33 dX12_workOut_104 (by decide) ?_
            exact z_sub [5, 2, 1, 0] rfl (ih at__16 fault_3 opened_4 1 r_1 r_15 hf)
      · refine z_iload F 1 dX12_workOut_56 rfl ?_
        refine z_if_eq F 65 dX12_workOut_58 (by decide) hf (fun hf _ => ?_) (fun hf _ => ?_)
        · refine z_iconst F (0) dX12_workOut_65 rfl ?_
          refine z_istore F [(7, .int 0), (6, .int r_1), (0, .ref a_this), (3, .int v3), (4, .int v4), (5, .int v5)] dX12_workOut_66 (by decide) rfl ?_
          refine z_aload_n F 2 dX12_workOut_68 rfl rfl ?_
          obtain ⟨r_18, at__19, fault_20, opened_21, hg, hf⟩ := zb4_some hf
          refine z_callVm (rest := []) F 12 (c_M_either (xL X) G a_this a_height a_changeAt a_changeWas a_changeIs a_tape a_text a_names a_line a_row a_pastMany a_past a_changed a_greatest a_numbersWere a_told a_waysOf a_waysWere a_blocks a_ordersOf a_imageLine a_bodyKind a_trace a_shelf a_many a_items a_carried people keptMany done tapeMany textMany base at__7 ends fault_3 opened_4 lineMany rowMany taller tallerBy pasts isKept imageMany bodies ran ownKind ownNumber tape text names (f_M_one 20) (kn_M_one (xL X) G a_this a_height a_changeAt a_changeWas a_changeIs a_tape a_text a_names a_line a_row a_pastMany a_past a_changed a_greatest a_numbersWere a_told a_waysOf a_waysWere a_blocks a_ordersOf a_imageLine a_bodyKind a_trace a_shelf a_many a_items a_carried 20) r_18 at__19 fault_20 opened_21 hg) hy_X12_either ml_X12_173 hd_X12_either ⟨by omega, by omega⟩ rfl [0, 1, 2, 3] rfl rfl 0 rfl rfl (w_M_workOut G a_this a_height a_changeAt a_changeWas a_changeIs a_tape a_text a_names a_line a_row a_pastMany a_past a_changed a_greatest a_numbersWere a_told a_waysOf a_waysWere a_blocks a_ordersOf a_imageLine a_bodyKind a_trace a_shelf a_many a_items a_carried people keptMany done tapeMany textMany base at__19 ends fault_20 opened_21 lineMany rowMany taller tallerBy pasts isKept imageMany bodies ran ownKind ownNumber tape text names) [some 0, some 1, some 2, some 3] rfl (by decide +kernel) rfl rfl (Nat.le_of_ble_eq_true rfl) dX12_workOut_69 (fun hz_22 => ?_)
          refine z_istore F [(6, .int r_18), (7, .int 0), (0, .ref a_this), (3, .int v3), (4, .int v4), (5, .int v5)] dX12_workOut_72 (by decide) rfl ?_
          refine z_aload_n F 2 dX12_workOut_74 rfl rfl ?_
          refine z_get F 0 12 14 inlX12 rfl rfl (by decide) fl_X12_142 rfl dX12_workOut_75 ?_
          refine z_if_ge F 96 dX12_workOut_78 (by decide) hf (fun hf _ => ?_) (fun hf _ => ?_)
          · refine z_aload_n F 2 dX12_workOut_96 rfl rfl ?_
            refine z_bipush F (59) dX12_workOut_97 rfl ?_
            obtain ⟨r_23, at__24, hg, hf⟩ := zb2_some hf
            refine z_callVm (rest := []) F 12 (c_M_takes (xL X) G a_this a_height a_changeAt a_changeWas a_changeIs a_tape a_text a_names a_line a_row a_pastMany a_past a_changed a_greatest a_numbersWere a_told a_waysOf a_waysWere a_blocks a_ordersOf a_imageLine a_bodyKind a_trace a_shelf a_many a_items a_carried people keptMany done tapeMany textMany base at__19 ends fault_20 opened_21 lineMany rowMany taller tallerBy pasts isKept imageMany bodies ran ownKind ownNumber tape text 59 r_23 at__24 hg) hy_X12_takes ml_X12_152 hd_X12_takes ⟨by omega, by omega⟩ rfl [0, 1, 2] rfl rfl 0 rfl rfl (w_M_workOut G a_this a_height a_changeAt a_changeWas a_changeIs a_tape a_text a_names a_line a_row a_pastMany a_past a_changed a_greatest a_numbersWere a_told a_waysOf a_waysWere a_blocks a_ordersOf a_imageLine a_bodyKind a_trace a_shelf a_many a_items a_carried people keptMany done tapeMany textMany base at__24 ends fault_20 opened_21 lineMany rowMany taller tallerBy pasts isKept imageMany bodies ran ownKind ownNumber tape text names) [some 0, some 1, some 2, none] rfl (by decide +kernel) rfl rfl (Nat.le_of_ble_eq_true rfl) dX12_workOut_99 (fun hz_25 => ?_)
            refine z_istore F [(5, .int r_23), (6, .int r_18), (7, .int 0), (0, .ref a_this), (3, .int v3), (4, .int v4)] dX12_workOut_102 (by decide) rfl ?_
            refine z_goto F 33 dX12_workOut_104 (by decide) ?_
            exact z_sub [3, 4, 5, 0] rfl (ih at__24 fault_20 opened_21 v3 v4 r_23 hf)
          · refine z_iload F 1 dX12_workOut_81 rfl ?_
            refine z_if_eq_t F 96 dX12_workOut_83 (by decide) (by decide) ?_
            refine z_aload_n F 2 dX12_workOut_96 rfl rfl ?_
            refine z_bipush F (59) dX12_workOut_97 rfl ?_
            obtain ⟨r_26, at__27, hg, hf⟩ := zb2_some hf
            refine z_callVm (rest := []) F 12 (c_M_takes (xL X) G a_this a_height a_changeAt a_changeWas a_changeIs a_tape a_text a_names a_line a_row a_pastMany a_past a_changed a_greatest a_numbersWere a_told a_waysOf a_waysWere a_blocks a_ordersOf a_imageLine a_bodyKind a_trace a_shelf a_many a_items a_carried people keptMany done tapeMany textMany base at__19 ends fault_20 opened_21 lineMany rowMany taller tallerBy pasts isKept imageMany bodies ran ownKind ownNumber tape text 59 r_26 at__27 hg) hy_X12_takes ml_X12_152 hd_X12_takes ⟨by omega, by omega⟩ rfl [0, 1, 2] rfl rfl 0 rfl rfl (w_M_workOut G a_this a_height a_changeAt a_changeWas a_changeIs a_tape a_text a_names a_line a_row a_pastMany a_past a_changed a_greatest a_numbersWere a_told a_waysOf a_waysWere a_blocks a_ordersOf a_imageLine a_bodyKind a_trace a_shelf a_many a_items a_carried people keptMany done tapeMany textMany base at__27 ends fault_20 opened_21 lineMany rowMany taller tallerBy pasts isKept imageMany bodies ran ownKind ownNumber tape text names) [some 0, some 1, some 2, none] rfl (by decide +kernel) rfl rfl (Nat.le_of_ble_eq_true rfl) dX12_workOut_99 (fun hz_28 => ?_)
            refine z_istore F [(5, .int r_26), (6, .int r_18), (7, .int 0), (0, .ref a_this), (3, .int v3), (4, .int v4)] dX12_workOut_102 (by decide) rfl ?_
            refine z_goto F 33 dX12_workOut_104 (by decide) ?_
            exact z_sub [3, 4, 5, 0] rfl (ih at__27 fault_20 opened_21 v3 v4 r_26 hf)
        · refine z_iconst F (1) dX12_workOut_61 rfl ?_
          refine z_goto F 66 dX12_workOut_62 (by decide) ?_
          refine z_istore F [(7, .int 1), (6, .int r_1), (0, .ref a_this), (3, .int v3), (4, .int v4), (5, .int v5)] dX12_workOut_66 (by decide) rfl ?_
          refine z_aload_n F 2 dX12_workOut_68 rfl rfl ?_
          obtain ⟨r_29, at__30, fault_31, opened_32, hg, hf⟩ := zb4_some hf
          refine z_callVm (rest := []) F 12 (c_M_either (xL X) G a_this a_height a_changeAt a_changeWas a_changeIs a_tape a_text a_names a_line a_row a_pastMany a_past a_changed a_greatest a_numbersWere a_told a_waysOf a_waysWere a_blocks a_ordersOf a_imageLine a_bodyKind a_trace a_shelf a_many a_items a_carried people keptMany done tapeMany textMany base at__7 ends fault_3 opened_4 lineMany rowMany taller tallerBy pasts isKept imageMany bodies ran ownKind ownNumber tape text names (f_M_one 20) (kn_M_one (xL X) G a_this a_height a_changeAt a_changeWas a_changeIs a_tape a_text a_names a_line a_row a_pastMany a_past a_changed a_greatest a_numbersWere a_told a_waysOf a_waysWere a_blocks a_ordersOf a_imageLine a_bodyKind a_trace a_shelf a_many a_items a_carried 20) r_29 at__30 fault_31 opened_32 hg) hy_X12_either ml_X12_173 hd_X12_either ⟨by omega, by omega⟩ rfl [0, 1, 2, 3] rfl rfl 0 rfl rfl (w_M_workOut G a_this a_height a_changeAt a_changeWas a_changeIs a_tape a_text a_names a_line a_row a_pastMany a_past a_changed a_greatest a_numbersWere a_told a_waysOf a_waysWere a_blocks a_ordersOf a_imageLine a_bodyKind a_trace a_shelf a_many a_items a_carried people keptMany done tapeMany textMany base at__30 ends fault_31 opened_32 lineMany rowMany taller tallerBy pasts isKept imageMany bodies ran ownKind ownNumber tape text names) [some 0, some 1, some 2, some 3] rfl (by decide +kernel) rfl rfl (Nat.le_of_ble_eq_true rfl) dX12_workOut_69 (fun hz_33 => ?_)
          refine z_istore F [(6, .int r_29), (7, .int 1), (0, .ref a_this), (3, .int v3), (4, .int v4), (5, .int v5)] dX12_workOut_72 (by decide) rfl ?_
          refine z_aload_n F 2 dX12_workOut_74 rfl rfl ?_
          refine z_get F 0 12 14 inlX12 rfl rfl (by decide) fl_X12_142 rfl dX12_workOut_75 ?_
          refine z_if_ge F 96 dX12_workOut_78 (by decide) hf (fun hf _ => ?_) (fun hf _ => ?_)
          · refine z_aload_n F 2 dX12_workOut_96 rfl rfl ?_
            refine z_bipush F (59) dX12_workOut_97 rfl ?_
            obtain ⟨r_34, at__35, hg, hf⟩ := zb2_some hf
            refine z_callVm (rest := []) F 12 (c_M_takes (xL X) G a_this a_height a_changeAt a_changeWas a_changeIs a_tape a_text a_names a_line a_row a_pastMany a_past a_changed a_greatest a_numbersWere a_told a_waysOf a_waysWere a_blocks a_ordersOf a_imageLine a_bodyKind a_trace a_shelf a_many a_items a_carried people keptMany done tapeMany textMany base at__30 ends fault_31 opened_32 lineMany rowMany taller tallerBy pasts isKept imageMany bodies ran ownKind ownNumber tape text 59 r_34 at__35 hg) hy_X12_takes ml_X12_152 hd_X12_takes ⟨by omega, by omega⟩ rfl [0, 1, 2] rfl rfl 0 rfl rfl (w_M_workOut G a_this a_height a_changeAt a_changeWas a_changeIs a_tape a_text a_names a_line a_row a_pastMany a_past a_changed a_greatest a_numbersWere a_told a_waysOf a_waysWere a_blocks a_ordersOf a_imageLine a_bodyKind a_trace a_shelf a_many a_items a_carried people keptMany done tapeMany textMany base at__35 ends fault_31 opened_32 lineMany rowMany taller tallerBy pasts isKept imageMany bodies ran ownKind ownNumber tape text names) [some 0, some 1, some 2, none] rfl (by decide +kernel) rfl rfl (Nat.le_of_ble_eq_true rfl) dX12_workOut_99 (fun hz_36 => ?_)
            refine z_istore F [(5, .int r_34), (6, .int r_29), (7, .int 1), (0, .ref a_this), (3, .int v3), (4, .int v4)] dX12_workOut_102 (by decide) rfl ?_
            refine z_goto F 33 dX12_workOut_104 (by decide) ?_
            exact z_sub [3, 4, 5, 0] rfl (ih at__35 fault_31 opened_32 v3 v4 r_34 hf)
          · refine z_iload F 1 dX12_workOut_81 rfl ?_
            refine z_if_eq_f F 96 dX12_workOut_83 (by decide) (by decide) ?_
            refine z_iload_n F 3 dX12_workOut_86 rfl rfl ?_
            refine z_if_ne F 96 dX12_workOut_87 (by decide) hf (fun hf _ => ?_) (fun hf _ => ?_)
            · refine z_aload_n F 2 dX12_workOut_96 rfl rfl ?_
              refine z_bipush F (59) dX12_workOut_97 rfl ?_
              obtain ⟨r_37, at__38, hg, hf⟩ := zb2_some hf
              refine z_callVm (rest := []) F 12 (c_M_takes (xL X) G a_this a_height a_changeAt a_changeWas a_changeIs a_tape a_text a_names a_line a_row a_pastMany a_past a_changed a_greatest a_numbersWere a_told a_waysOf a_waysWere a_blocks a_ordersOf a_imageLine a_bodyKind a_trace a_shelf a_many a_items a_carried people keptMany done tapeMany textMany base at__30 ends fault_31 opened_32 lineMany rowMany taller tallerBy pasts isKept imageMany bodies ran ownKind ownNumber tape text 59 r_37 at__38 hg) hy_X12_takes ml_X12_152 hd_X12_takes ⟨by omega, by omega⟩ rfl [0, 1, 2] rfl rfl 0 rfl rfl (w_M_workOut G a_this a_height a_changeAt a_changeWas a_changeIs a_tape a_text a_names a_line a_row a_pastMany a_past a_changed a_greatest a_numbersWere a_told a_waysOf a_waysWere a_blocks a_ordersOf a_imageLine a_bodyKind a_trace a_shelf a_many a_items a_carried people keptMany done tapeMany textMany base at__38 ends fault_31 opened_32 lineMany rowMany taller tallerBy pasts isKept imageMany bodies ran ownKind ownNumber tape text names) [some 0, some 1, some 2, none] rfl (by decide +kernel) rfl rfl (Nat.le_of_ble_eq_true rfl) dX12_workOut_99 (fun hz_39 => ?_)
              refine z_istore F [(5, .int r_37), (6, .int r_29), (7, .int 1), (0, .ref a_this), (3, .int v3), (4, .int v4)] dX12_workOut_102 (by decide) rfl ?_
              refine z_goto F 33 dX12_workOut_104 (by decide) ?_
              exact z_sub [3, 4, 5, 0] rfl (ih at__38 fault_31 opened_32 v3 v4 r_37 hf)
            · refine z_iconst F (1) dX12_workOut_90 rfl ?_
              refine z_istore_n F [(3, .int 1), (6, .int r_29), (7, .int 1), (0, .ref a_this), (4, .int v4), (5, .int v5)] dX12_workOut_91 rfl (by decide) rfl ?_
              refine z_iload F 1 dX12_workOut_92 rfl ?_
              refine z_istore F [(4, .int r_29), (3, .int 1), (6, .int r_29), (7, .int 1), (0, .ref a_this), (5, .int v5)] dX12_workOut_94 (by decide) rfl ?_
              refine z_aload_n F 4 dX12_workOut_96 rfl rfl ?_
              refine z_bipush F (59) dX12_workOut_97 rfl ?_
              obtain ⟨r_40, at__41, hg, hf⟩ := zb2_some hf
              refine z_callVm (rest := []) F 12 (c_M_takes (xL X) G a_this a_height a_changeAt a_changeWas a_changeIs a_tape a_text a_names a_line a_row a_pastMany a_past a_changed a_greatest a_numbersWere a_told a_waysOf a_waysWere a_blocks a_ordersOf a_imageLine a_bodyKind a_trace a_shelf a_many a_items a_carried people keptMany done tapeMany textMany base at__30 ends fault_31 opened_32 lineMany rowMany taller tallerBy pasts isKept imageMany bodies ran ownKind ownNumber tape text 59 r_40 at__41 hg) hy_X12_takes ml_X12_152 hd_X12_takes ⟨by omega, by omega⟩ rfl [0, 1, 2] rfl rfl 0 rfl rfl (w_M_workOut G a_this a_height a_changeAt a_changeWas a_changeIs a_tape a_text a_names a_line a_row a_pastMany a_past a_changed a_greatest a_numbersWere a_told a_waysOf a_waysWere a_blocks a_ordersOf a_imageLine a_bodyKind a_trace a_shelf a_many a_items a_carried people keptMany done tapeMany textMany base at__41 ends fault_31 opened_32 lineMany rowMany taller tallerBy pasts isKept imageMany bodies ran ownKind ownNumber tape text names) [some 0, some 1, some 2, none] rfl (by decide +kernel) rfl rfl (Nat.le_of_ble_eq_true rfl) dX12_workOut_99 (fun hz_42 => ?_)
              refine z_istore F [(5, .int r_40), (4, .int r_29), (3, .int 1), (6, .int r_29), (7, .int 1), (0, .ref a_this)] dX12_workOut_102 (by decide) rfl ?_
              refine z_goto F 33 dX12_workOut_104 (by decide) ?_
              exact z_sub [5, 2, 1, 0] rfl (ih at__41 fault_31 opened_32 1 r_29 r_40 hf)

set_option maxRecDepth 100000 in
set_option maxHeartbeats 4000000 in
theorem c_M_workOut (l : Launch) (G : zG) (a_this : Nat) (a_height : Nat) (a_changeAt : Nat) (a_changeWas : Nat) (a_changeIs : Nat) (a_tape : Nat) (a_text : Nat) (a_names : Nat) (a_line : Nat) (a_row : Nat) (a_pastMany : Nat) (a_past : Nat) (a_changed : Nat) (a_greatest : Nat) (a_numbersWere : Nat) (a_told : Nat) (a_waysOf : Nat) (a_waysWere : Nat) (a_blocks : Nat) (a_ordersOf : Nat) (a_imageLine : Nat) (a_bodyKind : Nat) (a_trace : Nat) (a_shelf : Nat) (a_many : Nat) (a_items : Nat) (a_carried : Nat) (people : Int32) (keptMany : Int32) (done : Int32) (tapeMany : Int32) (textMany : Int32) (base : Int32) (at_ : Int32) (ends : Int32) (fault : Int32) (opened : Int32) (lineMany : Int32) (rowMany : Int32) (taller : Int32) (tallerBy : Int32) (pasts : Int32) (isKept : Int32) (imageMany : Int32) (bodies : Int32) (ran : Int32) (ownKind : Int32) (ownNumber : Int32) (tape : Nat → Int32) (text : Nat → Int32) (names : Nat → Int32) (x1 : Int32) (x2 : Int32) (r_ : Int32) (o_base : Int32) (o_at_ : Int32) (o_ends : Int32) (o_fault : Int32) (o_opened : Int32) (hf : f_M_workOut base at_ ends fault opened tape text names x1 x2 = some (r_, o_base, o_at_, o_ends, o_fault, o_opened)) : zM l yX12_workOut cX12_workOut 8 (some .int) 149 3458 G [.ref a_this, .int x1, .int x2] (w_M_workOut G a_this a_height a_changeAt a_changeWas a_changeIs a_tape a_text a_names a_line a_row a_pastMany a_past a_changed a_greatest a_numbersWere a_told a_waysOf a_waysWere a_blocks a_ordersOf a_imageLine a_bodyKind a_trace a_shelf a_many a_items a_carried people keptMany done tapeMany textMany base at_ ends fault opened lineMany rowMany taller tallerBy pasts isKept imageMany bodies ran ownKind ownNumber tape text names) (some (.int r_)) (w_M_workOut G a_this a_height a_changeAt a_changeWas a_changeIs a_tape a_text a_names a_line a_row a_pastMany a_past a_changed a_greatest a_numbersWere a_told a_waysOf a_waysWere a_blocks a_ordersOf a_imageLine a_bodyKind a_trace a_shelf a_many a_items a_carried people keptMany done tapeMany textMany o_base o_at_ o_ends o_fault o_opened lineMany rowMany taller tallerBy pasts isKept imageMany bodies ran ownKind ownNumber tape text names) := by
  refine zM.of [(0, .ref a_this), (1, .int x1), (2, .int x2)] (own := RX12) rfl (by decide +kernel) (Nat.le_of_ble_eq_true rfl) rfl rfl fun X hX F => ?_
  subst hX
  replace hf := (f_M_workOut.eq_1 ..).symm.trans hf
  refine z_aload_n F 0 dX12_workOut_0 rfl rfl ?_
  refine z_iload_n F 1 dX12_workOut_1 rfl rfl ?_
  refine z_put F 0 12 11 (w_M_workOut G a_this a_height a_changeAt a_changeWas a_changeIs a_tape a_text a_names a_line a_row a_pastMany a_past a_changed a_greatest a_numbersWere a_told a_waysOf a_waysWere a_blocks a_ordersOf a_imageLine a_bodyKind a_trace a_shelf a_many a_items a_carried people keptMany done tapeMany textMany x1 at_ ends fault opened lineMany rowMany taller tallerBy pasts isKept imageMany bodies ran ownKind ownNumber tape text names) inlX12 tyX12 tyX12_ok nmX12 rfl rfl (by decide) fl_X12_139 rfl rfl rfl (Nat.le_of_ble_eq_true rfl) rfl dX12_workOut_2 ?_
  refine z_aload_n F 0 dX12_workOut_5 rfl rfl ?_
  refine z_iconst F (0) dX12_workOut_6 rfl ?_
  refine z_put F 0 12 12 (w_M_workOut G a_this a_height a_changeAt a_changeWas a_changeIs a_tape a_text a_names a_line a_row a_pastMany a_past a_changed a_greatest a_numbersWere a_told a_waysOf a_waysWere a_blocks a_ordersOf a_imageLine a_bodyKind a_trace a_shelf a_many a_items a_carried people keptMany done tapeMany textMany x1 0 ends fault opened lineMany rowMany taller tallerBy pasts isKept imageMany bodies ran ownKind ownNumber tape text names) inlX12 tyX12 tyX12_ok nmX12 rfl rfl (by decide) fl_X12_133 rfl rfl rfl (Nat.le_of_ble_eq_true rfl) rfl dX12_workOut_7 ?_
  refine z_aload_n F 0 dX12_workOut_10 rfl rfl ?_
  refine z_iload_n F 2 dX12_workOut_11 rfl rfl ?_
  refine z_put F 0 12 13 (w_M_workOut G a_this a_height a_changeAt a_changeWas a_changeIs a_tape a_text a_names a_line a_row a_pastMany a_past a_changed a_greatest a_numbersWere a_told a_waysOf a_waysWere a_blocks a_ordersOf a_imageLine a_bodyKind a_trace a_shelf a_many a_items a_carried people keptMany done tapeMany textMany x1 0 x2 fault opened lineMany rowMany taller tallerBy pasts isKept imageMany bodies ran ownKind ownNumber tape text names) inlX12 tyX12 tyX12_ok nmX12 rfl rfl (by decide) fl_X12_136 rfl rfl rfl (Nat.le_of_ble_eq_true rfl) rfl dX12_workOut_12 ?_
  refine z_aload_n F 0 dX12_workOut_15 rfl rfl ?_
  refine z_iconst F (-1) dX12_workOut_16 rfl ?_
  refine z_put F 0 12 14 (w_M_workOut G a_this a_height a_changeAt a_changeWas a_changeIs a_tape a_text a_names a_line a_row a_pastMany a_past a_changed a_greatest a_numbersWere a_told a_waysOf a_waysWere a_blocks a_ordersOf a_imageLine a_bodyKind a_trace a_shelf a_many a_items a_carried people keptMany done tapeMany textMany x1 0 x2 ((-1) : Int32) opened lineMany rowMany taller tallerBy pasts isKept imageMany bodies ran ownKind ownNumber tape text names) inlX12 tyX12 tyX12_ok nmX12 rfl rfl (by decide) fl_X12_142 rfl rfl rfl (Nat.le_of_ble_eq_true rfl) rfl dX12_workOut_17 ?_
  refine z_aload_n F 0 dX12_workOut_20 rfl rfl ?_
  refine z_iconst F (0) dX12_workOut_21 rfl ?_
  refine z_put F 0 12 15 (w_M_workOut G a_this a_height a_changeAt a_changeWas a_changeIs a_tape a_text a_names a_line a_row a_pastMany a_past a_changed a_greatest a_numbersWere a_told a_waysOf a_waysWere a_blocks a_ordersOf a_imageLine a_bodyKind a_trace a_shelf a_many a_items a_carried people keptMany done tapeMany textMany x1 0 x2 ((-1) : Int32) 0 lineMany rowMany taller tallerBy pasts isKept imageMany bodies ran ownKind ownNumber tape text names) inlX12 tyX12 tyX12_ok nmX12 rfl rfl (by decide) fl_X12_167 rfl rfl rfl (Nat.le_of_ble_eq_true rfl) rfl dX12_workOut_22 ?_
  refine z_iconst F (0) dX12_workOut_25 rfl ?_
  refine z_istore_n F [(3, .int 0), (0, .ref a_this), (1, .int x1), (2, .int x2)] dX12_workOut_26 rfl (by decide) rfl ?_
  refine z_iconst F (0) dX12_workOut_27 rfl ?_
  refine z_istore F [(4, .int 0), (3, .int 0), (0, .ref a_this), (1, .int x1), (2, .int x2)] dX12_workOut_28 (by decide) rfl ?_
  refine z_iconst F (1) dX12_workOut_30 rfl ?_
  refine z_istore F [(5, .int 1), (4, .int 0), (3, .int 0), (0, .ref a_this), (1, .int x1), (2, .int x2)] dX12_workOut_31 (by decide) rfl ?_
  obtain ⟨at__43, fault_44, opened_45, v4_46, hg, hf⟩ := zb4_some hf
  refine z_sub [3, 2, 1, 0] rfl ?_
  refine l_M_workOut_33 G a_this a_height a_changeAt a_changeWas a_changeIs a_tape a_text a_names a_line a_row a_pastMany a_past a_changed a_greatest a_numbersWere a_told a_waysOf a_waysWere a_blocks a_ordersOf a_imageLine a_bodyKind a_trace a_shelf a_many a_items a_carried people keptMany done tapeMany textMany x1 x2 lineMany rowMany taller tallerBy pasts isKept imageMany bodies ran ownKind ownNumber tape text names F at__43 fault_44 opened_45 v4_46 ?_ FU 0 ((-1) : Int32) 0 0 0 1 hg
  refine z_aload_n F 0 dX12_workOut_107 rfl rfl ?_
  refine z_get F 0 12 14 inlX12 rfl rfl (by decide) fl_X12_142 rfl dX12_workOut_108 ?_
  refine z_if_ge F 130 dX12_workOut_111 (by decide) hf (fun hf _ => ?_) (fun hf _ => ?_)
  · refine z_iload F 1 dX12_workOut_130 rfl ?_
    have eq1 := Option.some.inj hf
    obtain ⟨ee1, eq2⟩ := Prod.mk.inj eq1
    obtain ⟨ee2, eq3⟩ := Prod.mk.inj eq2
    obtain ⟨ee3, eq4⟩ := Prod.mk.inj eq3
    obtain ⟨ee4, eq5⟩ := Prod.mk.inj eq4
    obtain ⟨ee5, ee6⟩ := Prod.mk.inj eq5
    subst ee1
    subst ee2
    subst ee3
    subst ee4
    subst ee5
    subst ee6
    exact z_iret F rfl rfl rfl rfl dX12_workOut_132
  · refine z_aload_n F 0 dX12_workOut_114 rfl rfl ?_
    refine z_get F 0 12 12 inlX12 rfl rfl (by decide) fl_X12_133 rfl dX12_workOut_115 ?_
    refine z_aload_n F 0 dX12_workOut_118 rfl rfl ?_
    refine z_get F 0 12 13 inlX12 rfl rfl (by decide) fl_X12_136 rfl dX12_workOut_119 ?_
    refine z_icmp_ge F 130 dX12_workOut_122 (by decide) hf (fun hf _ => ?_) (fun hf _ => ?_)
    · refine z_iload F 1 dX12_workOut_130 rfl ?_
      have eq1 := Option.some.inj hf
      obtain ⟨ee1, eq2⟩ := Prod.mk.inj eq1
      obtain ⟨ee2, eq3⟩ := Prod.mk.inj eq2
      obtain ⟨ee3, eq4⟩ := Prod.mk.inj eq3
      obtain ⟨ee4, eq5⟩ := Prod.mk.inj eq4
      obtain ⟨ee5, ee6⟩ := Prod.mk.inj eq5
      subst ee1
      subst ee2
      subst ee3
      subst ee4
      subst ee5
      subst ee6
      exact z_iret F rfl rfl rfl rfl dX12_workOut_132
    · refine z_aload_n F 0 dX12_workOut_125 rfl rfl ?_
      obtain ⟨r_47, fault_48, hg, hf⟩ := zb2_some hf
      refine z_callVm (rest := []) F 12 (c_M_wrong (xL X) G a_this a_height a_changeAt a_changeWas a_changeIs a_tape a_text a_names a_line a_row a_pastMany a_past a_changed a_greatest a_numbersWere a_told a_waysOf a_waysWere a_blocks a_ordersOf a_imageLine a_bodyKind a_trace a_shelf a_many a_items a_carried people keptMany done tapeMany textMany x1 at__43 x2 fault_44 opened_45 lineMany rowMany taller tallerBy pasts isKept imageMany bodies ran ownKind ownNumber r_47 fault_48 hg) hy_X12_wrong ml_X12_170 hd_X12_wrong ⟨by omega, by omega⟩ rfl [0] rfl rfl 0 rfl rfl (w_M_workOut G a_this a_height a_changeAt a_changeWas a_changeIs a_tape a_text a_names a_line a_row a_pastMany a_past a_changed a_greatest a_numbersWere a_told a_waysOf a_waysWere a_blocks a_ordersOf a_imageLine a_bodyKind a_trace a_shelf a_many a_items a_carried people keptMany done tapeMany textMany x1 at__43 x2 fault_48 opened_45 lineMany rowMany taller tallerBy pasts isKept imageMany bodies ran ownKind ownNumber tape text names) [some 0, none, none, none] rfl (by decide +kernel) rfl rfl (Nat.le_of_ble_eq_true rfl) dX12_workOut_126 (fun hz_49 => ?_)
      have eq1 := Option.some.inj hf
      obtain ⟨ee1, eq2⟩ := Prod.mk.inj eq1
      obtain ⟨ee2, eq3⟩ := Prod.mk.inj eq2
      obtain ⟨ee3, eq4⟩ := Prod.mk.inj eq3
      obtain ⟨ee4, eq5⟩ := Prod.mk.inj eq4
      obtain ⟨ee5, ee6⟩ := Prod.mk.inj eq5
      subst ee1
      subst ee2
      subst ee3
      subst ee4
      subst ee5
      subst ee6
      exact z_iret F rfl rfl rfl rfl dX12_workOut_129

abbrev w_M_law (G : zG) (a_this : Nat) (a_height : Nat) (a_changeAt : Nat) (a_changeWas : Nat) (a_changeIs : Nat) (a_tape : Nat) (a_text : Nat) (a_names : Nat) (a_line : Nat) (a_row : Nat) (a_pastMany : Nat) (a_past : Nat) (a_changed : Nat) (a_greatest : Nat) (a_numbersWere : Nat) (a_told : Nat) (a_waysOf : Nat) (a_waysWere : Nat) (a_blocks : Nat) (a_ordersOf : Nat) (a_imageLine : Nat) (a_bodyKind : Nat) (a_trace : Nat) (a_shelf : Nat) (a_many : Nat) (a_items : Nat) (a_carried : Nat) (people : Int32) (keptMany : Int32) (done : Int32) (tapeMany : Int32) (textMany : Int32) (base : Int32) (at_ : Int32) (ends : Int32) (fault : Int32) (opened : Int32) (lineMany : Int32) (rowMany : Int32) (taller : Int32) (tallerBy : Int32) (pasts : Int32) (isKept : Int32) (imageMany : Int32) (bodies : Int32) (ran : Int32) (ownKind : Int32) (ownNumber : Int32) (tape : Nat → Int32) (text : Nat → Int32) (names : Nat → Int32) : va_W := [(a_this, cO 12 [.int people, .ref a_height, .ref a_changeAt, .ref a_changeWas, .ref a_changeIs, .int keptMany, .int done, .ref a_tape, .int tapeMany, .ref a_text, .int textMany, .int base, .int at_, .int ends, .int fault, .int opened, .ref a_names, .ref a_line, .int lineMany, .ref a_row, .int rowMany, .int taller, .int tallerBy, .ref a_pastMany, .ref a_past, .int pasts, .ref a_changed, .ref a_greatest, .ref a_numbersWere, .ref a_told, .ref a_waysOf, .ref a_waysWere, .ref a_blocks, .ref a_ordersOf, .int isKept, .int imageMany, .ref a_imageLine, .int bodies, .ref a_bodyKind, .ref a_trace, .int ran, .int ownKind, .int ownNumber, .ref a_shelf, .ref a_many, .ref a_items, .ref a_carried]), (a_tape, cI G 120 tape), (a_text, cI G 120 text), (a_names, cI G 5 names)]
def f_M_law_L37 (tape : Nat → Int32) (v2 : Int32) : Nat → (Nat → Int32) → Int32 → Option ((Nat → Int32))
  | 0, _, _ => none
  | fuel + 1, text, v3 => (if v2 ≤ v3 then (some text) else (zg tape 120 v3 fun v_8 => (zs text 120 v3 v_8 fun text_9 => (f_M_law_L37 tape v2 fuel text_9 (v3 + 1)))))
def f_M_law (tapeMany : Int32) (textMany : Int32) (base : Int32) (at_ : Int32) (ends : Int32) (fault : Int32) (opened : Int32) (tape : Nat → Int32) (text : Nat → Int32) (names : Nat → Int32) : Option (Int32 × Int32 × Int32 × Int32 × Int32 × Int32 × Int32 × Int32 × (Nat → Int32)) := (zb6 (f_M_workOut base at_ ends fault opened tape text names ((-1) : Int32) tapeMany) fun r_1 base_2 at__3 ends_4 fault_5 opened_6 => (if fault_5 < 0 then (zb1 (f_M_law_L37 tape tapeMany FU text 0) fun text_10 => (some (1, 0, tapeMany, base_2, at__3, ends_4, fault_5, opened_6, text_10))) else (some ((((-100) : Int32) - fault_5), 0, textMany, base_2, at__3, ends_4, fault_5, opened_6, text))))
set_option maxRecDepth 100000 in
set_option maxHeartbeats 4000000 in
theorem l_M_law_37 {X : zX} (G : zG) (a_this : Nat) (a_height : Nat) (a_changeAt : Nat) (a_changeWas : Nat) (a_changeIs : Nat) (a_tape : Nat) (a_text : Nat) (a_names : Nat) (a_line : Nat) (a_row : Nat) (a_pastMany : Nat) (a_past : Nat) (a_changed : Nat) (a_greatest : Nat) (a_numbersWere : Nat) (a_told : Nat) (a_waysOf : Nat) (a_waysWere : Nat) (a_blocks : Nat) (a_ordersOf : Nat) (a_imageLine : Nat) (a_bodyKind : Nat) (a_trace : Nat) (a_shelf : Nat) (a_many : Nat) (a_items : Nat) (a_carried : Nat) (people : Int32) (keptMany : Int32) (done : Int32) (tapeMany : Int32) (textMany : Int32) (base : Int32) (at_ : Int32) (ends : Int32) (fault : Int32) (opened : Int32) (lineMany : Int32) (rowMany : Int32) (taller : Int32) (tallerBy : Int32) (pasts : Int32) (isKept : Int32) (imageMany : Int32) (bodies : Int32) (ran : Int32) (ownKind : Int32) (ownNumber : Int32) (tape : Nat → Int32) (names : Nat → Int32) (v2 : Int32) {v0 : Option Value} {w0 : va_W} (F : zF X G cX12_law RX12 4 (some .int) 150 3485 v0 w0) (e_text : Nat → Int32) (hk : Z X G 4 (w_M_law G a_this a_height a_changeAt a_changeWas a_changeIs a_tape a_text a_names a_line a_row a_pastMany a_past a_changed a_greatest a_numbersWere a_told a_waysOf a_waysWere a_blocks a_ordersOf a_imageLine a_bodyKind a_trace a_shelf a_many a_items a_carried people keptMany done tapeMany textMany base at_ ends fault opened lineMany rowMany taller tallerBy pasts isKept imageMany bodies ran ownKind ownNumber tape e_text names) [(0, .ref a_this), (2, .int v2)] 60 []) :
    ∀ (fuel : Nat) (text : Nat → Int32) (v3 : Int32), f_M_law_L37 tape v2 fuel text v3 = some e_text → Z X G 4 (w_M_law G a_this a_height a_changeAt a_changeWas a_changeIs a_tape a_text a_names a_line a_row a_pastMany a_past a_changed a_greatest a_numbersWere a_told a_waysOf a_waysWere a_blocks a_ordersOf a_imageLine a_bodyKind a_trace a_shelf a_many a_items a_carried people keptMany done tapeMany textMany base at_ ends fault opened lineMany rowMany taller tallerBy pasts isKept imageMany bodies ran ownKind ownNumber tape text names) [(0, .ref a_this), (2, .int v2), (3, .int v3)] 37 [] := by
  intro fuel
  induction fuel with
  | zero => intro text v3 hf; exact absurd ((f_M_law_L37.eq_1 ..).symm.trans hf) (fun h => by cases h)
  | succ fuel ih =>
    intro text v3 hf
    replace hf := (f_M_law_L37.eq_2 ..).symm.trans hf
    refine z_iload_n F 2 dX12_law_37 rfl rfl ?_
    refine z_iload_n F 1 dX12_law_38 rfl rfl ?_
    refine z_icmp_ge F 60 dX12_law_39 (by decide) hf (fun hf _ => ?_) (fun hf _ => ?_)
    · have ee1 := Option.some.inj hf
      subst ee1
      exact z_sub [0, 1] rfl hk
    · refine z_aload_n F 0 dX12_law_42 rfl rfl ?_
      refine z_get F 0 12 9 inlX12 rfl rfl (by decide) fl_X12_25 rfl dX12_law_43 ?_
      refine z_iload_n F 2 dX12_law_46 rfl rfl ?_
      refine z_aload_n F 0 dX12_law_47 rfl rfl ?_
      refine z_get F 0 12 7 inlX12 rfl rfl (by decide) fl_X12_22 rfl dX12_law_48 ?_
      refine z_iload_n F 2 dX12_law_51 rfl rfl ?_
      refine z_iald F 1 rfl hf dX12_law_52 (fun v_8 hf => ?_)
      refine z_iast F 2 (fun text_9 => (w_M_law G a_this a_height a_changeAt a_changeWas a_changeIs a_tape a_text a_names a_line a_row a_pastMany a_past a_changed a_greatest a_numbersWere a_told a_waysOf a_waysWere a_blocks a_ordersOf a_imageLine a_bodyKind a_trace a_shelf a_many a_items a_carried people keptMany done tapeMany textMany base at_ ends fault opened lineMany rowMany taller tallerBy pasts isKept imageMany bodies ran ownKind ownNumber tape text_9 names)) rfl hf (fun _ => rfl) dX12_law_53 (fun text_9 hf => ?_)
      refine z_iinc F [(3, .int (v3 + 1)), (0, .ref a_this), (2, .int v2)] dX12_law_54 2 rfl rfl (by decide) rfl ?_
      refine z_goto F 37 dX12_law_57 (by decide) ?_
      exact z_sub [1, 2, 0] rfl (ih text_9 (v3 + 1) hf)

set_option maxRecDepth 100000 in
set_option maxHeartbeats 4000000 in
theorem c_M_law (l : Launch) (G : zG) (a_this : Nat) (a_height : Nat) (a_changeAt : Nat) (a_changeWas : Nat) (a_changeIs : Nat) (a_tape : Nat) (a_text : Nat) (a_names : Nat) (a_line : Nat) (a_row : Nat) (a_pastMany : Nat) (a_past : Nat) (a_changed : Nat) (a_greatest : Nat) (a_numbersWere : Nat) (a_told : Nat) (a_waysOf : Nat) (a_waysWere : Nat) (a_blocks : Nat) (a_ordersOf : Nat) (a_imageLine : Nat) (a_bodyKind : Nat) (a_trace : Nat) (a_shelf : Nat) (a_many : Nat) (a_items : Nat) (a_carried : Nat) (people : Int32) (keptMany : Int32) (done : Int32) (tapeMany : Int32) (textMany : Int32) (base : Int32) (at_ : Int32) (ends : Int32) (fault : Int32) (opened : Int32) (lineMany : Int32) (rowMany : Int32) (taller : Int32) (tallerBy : Int32) (pasts : Int32) (isKept : Int32) (imageMany : Int32) (bodies : Int32) (ran : Int32) (ownKind : Int32) (ownNumber : Int32) (tape : Nat → Int32) (text : Nat → Int32) (names : Nat → Int32) (r_ : Int32) (o_tapeMany : Int32) (o_textMany : Int32) (o_base : Int32) (o_at_ : Int32) (o_ends : Int32) (o_fault : Int32) (o_opened : Int32) (o_text : Nat → Int32) (hf : f_M_law tapeMany textMany base at_ ends fault opened tape text names = some (r_, o_tapeMany, o_textMany, o_base, o_at_, o_ends, o_fault, o_opened, o_text)) : zM l yX12_law cX12_law 4 (some .int) 150 3485 G [.ref a_this] (w_M_law G a_this a_height a_changeAt a_changeWas a_changeIs a_tape a_text a_names a_line a_row a_pastMany a_past a_changed a_greatest a_numbersWere a_told a_waysOf a_waysWere a_blocks a_ordersOf a_imageLine a_bodyKind a_trace a_shelf a_many a_items a_carried people keptMany done tapeMany textMany base at_ ends fault opened lineMany rowMany taller tallerBy pasts isKept imageMany bodies ran ownKind ownNumber tape text names) (some (.int r_)) (w_M_law G a_this a_height a_changeAt a_changeWas a_changeIs a_tape a_text a_names a_line a_row a_pastMany a_past a_changed a_greatest a_numbersWere a_told a_waysOf a_waysWere a_blocks a_ordersOf a_imageLine a_bodyKind a_trace a_shelf a_many a_items a_carried people keptMany done o_tapeMany o_textMany o_base o_at_ o_ends o_fault o_opened lineMany rowMany taller tallerBy pasts isKept imageMany bodies ran ownKind ownNumber tape o_text names) := by
  refine zM.of [(0, .ref a_this)] (own := RX12) rfl (by decide +kernel) (Nat.le_of_ble_eq_true rfl) rfl rfl fun X hX F => ?_
  subst hX
  replace hf := (f_M_law.eq_1 ..).symm.trans hf
  refine z_aload_n F 0 dX12_law_0 rfl rfl ?_
  refine z_iconst F (-1) dX12_law_1 rfl ?_
  refine z_aload_n F 0 dX12_law_2 rfl rfl ?_
  refine z_get F 0 12 8 inlX12 rfl rfl (by decide) fl_X12_130 rfl dX12_law_3 ?_
  obtain ⟨r_1, base_2, at__3, ends_4, fault_5, opened_6, hg, hf⟩ := zb6_some hf
  refine z_callVm (rest := []) F 12 (c_M_workOut (xL X) G a_this a_height a_changeAt a_changeWas a_changeIs a_tape a_text a_names a_line a_row a_pastMany a_past a_changed a_greatest a_numbersWere a_told a_waysOf a_waysWere a_blocks a_ordersOf a_imageLine a_bodyKind a_trace a_shelf a_many a_items a_carried people keptMany done tapeMany textMany base at_ ends fault opened lineMany rowMany taller tallerBy pasts isKept imageMany bodies ran ownKind ownNumber tape text names (-1) tapeMany r_1 base_2 at__3 ends_4 fault_5 opened_6 hg) hy_X12_workOut ml_X12_180 hd_X12_workOut ⟨by omega, by omega⟩ rfl [0, 1, 2, 3] rfl rfl 0 rfl rfl (w_M_law G a_this a_height a_changeAt a_changeWas a_changeIs a_tape a_text a_names a_line a_row a_pastMany a_past a_changed a_greatest a_numbersWere a_told a_waysOf a_waysWere a_blocks a_ordersOf a_imageLine a_bodyKind a_trace a_shelf a_many a_items a_carried people keptMany done tapeMany textMany base_2 at__3 ends_4 fault_5 opened_6 lineMany rowMany taller tallerBy pasts isKept imageMany bodies ran ownKind ownNumber tape text names) [some 0, some 1, some 2, some 3] rfl (by decide +kernel) rfl rfl (Nat.le_of_ble_eq_true rfl) dX12_law_6 (fun hz_7 => ?_)
  refine z_istore_n F [(1, .int r_1), (0, .ref a_this)] dX12_law_9 rfl (by decide) rfl ?_
  refine z_aload_n F 1 dX12_law_10 rfl rfl ?_
  refine z_get F 0 12 8 inlX12 rfl rfl (by decide) fl_X12_130 rfl dX12_law_11 ?_
  refine z_istore_n F [(2, .int tapeMany), (1, .int r_1), (0, .ref a_this)] dX12_law_14 rfl (by decide) rfl ?_
  refine z_aload_n F 2 dX12_law_15 rfl rfl ?_
  refine z_iconst F (0) dX12_law_16 rfl ?_
  refine z_put F 0 12 8 (w_M_law G a_this a_height a_changeAt a_changeWas a_changeIs a_tape a_text a_names a_line a_row a_pastMany a_past a_changed a_greatest a_numbersWere a_told a_waysOf a_waysWere a_blocks a_ordersOf a_imageLine a_bodyKind a_trace a_shelf a_many a_items a_carried people keptMany done 0 textMany base_2 at__3 ends_4 fault_5 opened_6 lineMany rowMany taller tallerBy pasts isKept imageMany bodies ran ownKind ownNumber tape text names) inlX12 tyX12 tyX12_ok nmX12 rfl rfl (by decide) fl_X12_130 rfl rfl rfl (Nat.le_of_ble_eq_true rfl) rfl dX12_law_17 ?_
  refine z_aload_n F 2 dX12_law_20 rfl rfl ?_
  refine z_get F 0 12 14 inlX12 rfl rfl (by decide) fl_X12_142 rfl dX12_law_21 ?_
  refine z_if_lt F 35 dX12_law_24 (by decide) hf (fun hf _ => ?_) (fun hf _ => ?_)
  · refine z_iconst F (0) dX12_law_35 rfl ?_
    refine z_istore_n F [(3, .int 0), (2, .int tapeMany), (1, .int r_1), (0, .ref a_this)] dX12_law_36 rfl (by decide) rfl ?_
    obtain ⟨text_10, hg, hf⟩ := zb1_some hf
    refine z_sub [3, 1, 0] rfl ?_
    refine l_M_law_37 G a_this a_height a_changeAt a_changeWas a_changeIs a_tape a_text a_names a_line a_row a_pastMany a_past a_changed a_greatest a_numbersWere a_told a_waysOf a_waysWere a_blocks a_ordersOf a_imageLine a_bodyKind a_trace a_shelf a_many a_items a_carried people keptMany done 0 textMany base_2 at__3 ends_4 fault_5 opened_6 lineMany rowMany taller tallerBy pasts isKept imageMany bodies ran ownKind ownNumber tape names tapeMany F text_10 ?_ FU text 0 hg
    refine z_aload_n F 0 dX12_law_60 rfl rfl ?_
    refine z_iload_n F 1 dX12_law_61 rfl rfl ?_
    refine z_put F 0 12 10 (w_M_law G a_this a_height a_changeAt a_changeWas a_changeIs a_tape a_text a_names a_line a_row a_pastMany a_past a_changed a_greatest a_numbersWere a_told a_waysOf a_waysWere a_blocks a_ordersOf a_imageLine a_bodyKind a_trace a_shelf a_many a_items a_carried people keptMany done 0 tapeMany base_2 at__3 ends_4 fault_5 opened_6 lineMany rowMany taller tallerBy pasts isKept imageMany bodies ran ownKind ownNumber tape text_10 names) inlX12 tyX12 tyX12_ok nmX12 rfl rfl (by decide) fl_X12_89 rfl rfl rfl (Nat.le_of_ble_eq_true rfl) rfl dX12_law_62 ?_
    refine z_iconst F (1) dX12_law_65 rfl ?_
    have eq1 := Option.some.inj hf
    obtain ⟨ee1, eq2⟩ := Prod.mk.inj eq1
    obtain ⟨ee2, eq3⟩ := Prod.mk.inj eq2
    obtain ⟨ee3, eq4⟩ := Prod.mk.inj eq3
    obtain ⟨ee4, eq5⟩ := Prod.mk.inj eq4
    obtain ⟨ee5, eq6⟩ := Prod.mk.inj eq5
    obtain ⟨ee6, eq7⟩ := Prod.mk.inj eq6
    obtain ⟨ee7, eq8⟩ := Prod.mk.inj eq7
    obtain ⟨ee8, ee9⟩ := Prod.mk.inj eq8
    subst ee1
    subst ee2
    subst ee3
    subst ee4
    subst ee5
    subst ee6
    subst ee7
    subst ee8
    subst ee9
    exact z_iret F rfl rfl rfl rfl dX12_law_66
  · refine z_bipush F (-100) dX12_law_27 rfl ?_
    refine z_aload_n F 2 dX12_law_29 rfl rfl ?_
    refine z_get F 0 12 14 inlX12 rfl rfl (by decide) fl_X12_142 rfl dX12_law_30 ?_
    refine z_isub F dX12_law_33 ?_
    have eq1 := Option.some.inj hf
    obtain ⟨ee1, eq2⟩ := Prod.mk.inj eq1
    obtain ⟨ee2, eq3⟩ := Prod.mk.inj eq2
    obtain ⟨ee3, eq4⟩ := Prod.mk.inj eq3
    obtain ⟨ee4, eq5⟩ := Prod.mk.inj eq4
    obtain ⟨ee5, eq6⟩ := Prod.mk.inj eq5
    obtain ⟨ee6, eq7⟩ := Prod.mk.inj eq6
    obtain ⟨ee7, eq8⟩ := Prod.mk.inj eq7
    obtain ⟨ee8, ee9⟩ := Prod.mk.inj eq8
    subst ee1
    subst ee2
    subst ee3
    subst ee4
    subst ee5
    subst ee6
    subst ee7
    subst ee8
    subst ee9
    exact z_iret F rfl rfl rfl rfl dX12_law_34

abbrev w_M_laysOut (G : zG) (a_this : Nat) (a_height : Nat) (a_changeAt : Nat) (a_changeWas : Nat) (a_changeIs : Nat) (a_tape : Nat) (a_text : Nat) (a_names : Nat) (a_line : Nat) (a_row : Nat) (a_pastMany : Nat) (a_past : Nat) (a_changed : Nat) (a_greatest : Nat) (a_numbersWere : Nat) (a_told : Nat) (a_waysOf : Nat) (a_waysWere : Nat) (a_blocks : Nat) (a_ordersOf : Nat) (a_imageLine : Nat) (a_bodyKind : Nat) (a_trace : Nat) (a_shelf : Nat) (a_many : Nat) (a_items : Nat) (a_carried : Nat) (people : Int32) (keptMany : Int32) (done : Int32) (tapeMany : Int32) (textMany : Int32) (base : Int32) (at_ : Int32) (ends : Int32) (fault : Int32) (opened : Int32) (lineMany : Int32) (rowMany : Int32) (taller : Int32) (tallerBy : Int32) (pasts : Int32) (isKept : Int32) (imageMany : Int32) (bodies : Int32) (ran : Int32) (ownKind : Int32) (ownNumber : Int32) (line : Nat → Int32) (row : Nat → Int32) : va_W := [(a_this, cO 12 [.int people, .ref a_height, .ref a_changeAt, .ref a_changeWas, .ref a_changeIs, .int keptMany, .int done, .ref a_tape, .int tapeMany, .ref a_text, .int textMany, .int base, .int at_, .int ends, .int fault, .int opened, .ref a_names, .ref a_line, .int lineMany, .ref a_row, .int rowMany, .int taller, .int tallerBy, .ref a_pastMany, .ref a_past, .int pasts, .ref a_changed, .ref a_greatest, .ref a_numbersWere, .ref a_told, .ref a_waysOf, .ref a_waysWere, .ref a_blocks, .ref a_ordersOf, .int isKept, .int imageMany, .ref a_imageLine, .int bodies, .ref a_bodyKind, .ref a_trace, .int ran, .int ownKind, .int ownNumber, .ref a_shelf, .ref a_many, .ref a_items, .ref a_carried]), (a_line, cI G 9 line), (a_row, cI G 9 row)]
def f_M_laysOut_L10 (lineMany : Int32) (line : Nat → Int32) : Nat → (Nat → Int32) → Int32 → Option ((Nat → Int32))
  | 0, _, _ => none
  | fuel + 1, row, v1 => (if lineMany ≤ v1 then (some row) else (zg line 9 v1 fun v_1 => (zs row 9 v1 v_1 fun row_2 => (f_M_laysOut_L10 lineMany line fuel row_2 (v1 + 1)))))
def f_M_laysOut (lineMany : Int32) (rowMany : Int32) (taller : Int32) (line : Nat → Int32) (row : Nat → Int32) : Option (Int32 × Int32 × (Nat → Int32)) := (zb1 (f_M_laysOut_L10 lineMany line FU row 0) fun row_3 => (some (lineMany, ((-1) : Int32), row_3)))
set_option maxRecDepth 100000 in
set_option maxHeartbeats 4000000 in
theorem l_M_laysOut_10 {X : zX} (G : zG) (a_this : Nat) (a_height : Nat) (a_changeAt : Nat) (a_changeWas : Nat) (a_changeIs : Nat) (a_tape : Nat) (a_text : Nat) (a_names : Nat) (a_line : Nat) (a_row : Nat) (a_pastMany : Nat) (a_past : Nat) (a_changed : Nat) (a_greatest : Nat) (a_numbersWere : Nat) (a_told : Nat) (a_waysOf : Nat) (a_waysWere : Nat) (a_blocks : Nat) (a_ordersOf : Nat) (a_imageLine : Nat) (a_bodyKind : Nat) (a_trace : Nat) (a_shelf : Nat) (a_many : Nat) (a_items : Nat) (a_carried : Nat) (people : Int32) (keptMany : Int32) (done : Int32) (tapeMany : Int32) (textMany : Int32) (base : Int32) (at_ : Int32) (ends : Int32) (fault : Int32) (opened : Int32) (lineMany : Int32) (rowMany : Int32) (taller : Int32) (tallerBy : Int32) (pasts : Int32) (isKept : Int32) (imageMany : Int32) (bodies : Int32) (ran : Int32) (ownKind : Int32) (ownNumber : Int32) (line : Nat → Int32) {v0 : Option Value} {w0 : va_W} (F : zF X G cX12_laysOut RX12 2 none 0 0 v0 w0) (e_row : Nat → Int32) (hk : Z X G 2 (w_M_laysOut G a_this a_height a_changeAt a_changeWas a_changeIs a_tape a_text a_names a_line a_row a_pastMany a_past a_changed a_greatest a_numbersWere a_told a_waysOf a_waysWere a_blocks a_ordersOf a_imageLine a_bodyKind a_trace a_shelf a_many a_items a_carried people keptMany done tapeMany textMany base at_ ends fault opened lineMany rowMany taller tallerBy pasts isKept imageMany bodies ran ownKind ownNumber line e_row) [(0, .ref a_this)] 36 []) :
    ∀ (fuel : Nat) (row : Nat → Int32) (v1 : Int32), f_M_laysOut_L10 lineMany line fuel row v1 = some e_row → Z X G 2 (w_M_laysOut G a_this a_height a_changeAt a_changeWas a_changeIs a_tape a_text a_names a_line a_row a_pastMany a_past a_changed a_greatest a_numbersWere a_told a_waysOf a_waysWere a_blocks a_ordersOf a_imageLine a_bodyKind a_trace a_shelf a_many a_items a_carried people keptMany done tapeMany textMany base at_ ends fault opened lineMany rowMany taller tallerBy pasts isKept imageMany bodies ran ownKind ownNumber line row) [(0, .ref a_this), (1, .int v1)] 10 [] := by
  intro fuel
  induction fuel with
  | zero => intro row v1 hf; exact absurd ((f_M_laysOut_L10.eq_1 ..).symm.trans hf) (fun h => by cases h)
  | succ fuel ih =>
    intro row v1 hf
    replace hf := (f_M_laysOut_L10.eq_2 ..).symm.trans hf
    refine z_iload_n F 1 dX12_laysOut_10 rfl rfl ?_
    refine z_aload_n F 0 dX12_laysOut_11 rfl rfl ?_
    refine z_get F 0 12 18 inlX12 rfl rfl (by decide) fl_X12_100 rfl dX12_laysOut_12 ?_
    refine z_icmp_ge F 36 dX12_laysOut_15 (by decide) hf (fun hf _ => ?_) (fun hf _ => ?_)
    · have ee1 := Option.some.inj hf
      subst ee1
      exact z_sub [0] rfl hk
    · refine z_aload_n F 0 dX12_laysOut_18 rfl rfl ?_
      refine z_get F 0 12 19 inlX12 rfl rfl (by decide) fl_X12_34 rfl dX12_laysOut_19 ?_
      refine z_iload_n F 1 dX12_laysOut_22 rfl rfl ?_
      refine z_aload_n F 0 dX12_laysOut_23 rfl rfl ?_
      refine z_get F 0 12 17 inlX12 rfl rfl (by decide) fl_X12_31 rfl dX12_laysOut_24 ?_
      refine z_iload_n F 1 dX12_laysOut_27 rfl rfl ?_
      refine z_iald F 1 rfl hf dX12_laysOut_28 (fun v_1 hf => ?_)
      refine z_iast F 2 (fun row_2 => (w_M_laysOut G a_this a_height a_changeAt a_changeWas a_changeIs a_tape a_text a_names a_line a_row a_pastMany a_past a_changed a_greatest a_numbersWere a_told a_waysOf a_waysWere a_blocks a_ordersOf a_imageLine a_bodyKind a_trace a_shelf a_many a_items a_carried people keptMany done tapeMany textMany base at_ ends fault opened lineMany rowMany taller tallerBy pasts isKept imageMany bodies ran ownKind ownNumber line row_2)) rfl hf (fun _ => rfl) dX12_laysOut_29 (fun row_2 hf => ?_)
      refine z_iinc F [(1, .int (v1 + 1)), (0, .ref a_this)] dX12_laysOut_30 1 rfl rfl (by decide) rfl ?_
      refine z_goto F 10 dX12_laysOut_33 (by decide) ?_
      exact z_sub [1, 0] rfl (ih row_2 (v1 + 1) hf)

set_option maxRecDepth 100000 in
set_option maxHeartbeats 4000000 in
theorem c_M_laysOut (l : Launch) (G : zG) (a_this : Nat) (a_height : Nat) (a_changeAt : Nat) (a_changeWas : Nat) (a_changeIs : Nat) (a_tape : Nat) (a_text : Nat) (a_names : Nat) (a_line : Nat) (a_row : Nat) (a_pastMany : Nat) (a_past : Nat) (a_changed : Nat) (a_greatest : Nat) (a_numbersWere : Nat) (a_told : Nat) (a_waysOf : Nat) (a_waysWere : Nat) (a_blocks : Nat) (a_ordersOf : Nat) (a_imageLine : Nat) (a_bodyKind : Nat) (a_trace : Nat) (a_shelf : Nat) (a_many : Nat) (a_items : Nat) (a_carried : Nat) (people : Int32) (keptMany : Int32) (done : Int32) (tapeMany : Int32) (textMany : Int32) (base : Int32) (at_ : Int32) (ends : Int32) (fault : Int32) (opened : Int32) (lineMany : Int32) (rowMany : Int32) (taller : Int32) (tallerBy : Int32) (pasts : Int32) (isKept : Int32) (imageMany : Int32) (bodies : Int32) (ran : Int32) (ownKind : Int32) (ownNumber : Int32) (line : Nat → Int32) (row : Nat → Int32) (o_rowMany : Int32) (o_taller : Int32) (o_row : Nat → Int32) (hf : f_M_laysOut lineMany rowMany taller line row = some (o_rowMany, o_taller, o_row)) : zM l yX12_laysOut cX12_laysOut 2 none 0 0 G [.ref a_this] (w_M_laysOut G a_this a_height a_changeAt a_changeWas a_changeIs a_tape a_text a_names a_line a_row a_pastMany a_past a_changed a_greatest a_numbersWere a_told a_waysOf a_waysWere a_blocks a_ordersOf a_imageLine a_bodyKind a_trace a_shelf a_many a_items a_carried people keptMany done tapeMany textMany base at_ ends fault opened lineMany rowMany taller tallerBy pasts isKept imageMany bodies ran ownKind ownNumber line row) (none) (w_M_laysOut G a_this a_height a_changeAt a_changeWas a_changeIs a_tape a_text a_names a_line a_row a_pastMany a_past a_changed a_greatest a_numbersWere a_told a_waysOf a_waysWere a_blocks a_ordersOf a_imageLine a_bodyKind a_trace a_shelf a_many a_items a_carried people keptMany done tapeMany textMany base at_ ends fault opened lineMany o_rowMany o_taller tallerBy pasts isKept imageMany bodies ran ownKind ownNumber line o_row) := by
  refine zM.of [(0, .ref a_this)] (own := RX12) rfl (by decide +kernel) (Nat.le_of_ble_eq_true rfl) rfl rfl fun X hX F => ?_
  subst hX
  replace hf := (f_M_laysOut.eq_1 ..).symm.trans hf
  refine z_aload_n F 0 dX12_laysOut_0 rfl rfl ?_
  refine z_aload_n F 0 dX12_laysOut_1 rfl rfl ?_
  refine z_get F 0 12 18 inlX12 rfl rfl (by decide) fl_X12_100 rfl dX12_laysOut_2 ?_
  refine z_put F 0 12 20 (w_M_laysOut G a_this a_height a_changeAt a_changeWas a_changeIs a_tape a_text a_names a_line a_row a_pastMany a_past a_changed a_greatest a_numbersWere a_told a_waysOf a_waysWere a_blocks a_ordersOf a_imageLine a_bodyKind a_trace a_shelf a_many a_items a_carried people keptMany done tapeMany textMany base at_ ends fault opened lineMany lineMany taller tallerBy pasts isKept imageMany bodies ran ownKind ownNumber line row) inlX12 tyX12 tyX12_ok nmX12 rfl rfl (by decide) fl_X12_184 rfl rfl rfl (Nat.le_of_ble_eq_true rfl) rfl dX12_laysOut_5 ?_
  refine z_iconst F (0) dX12_laysOut_8 rfl ?_
  refine z_istore_n F [(1, .int 0), (0, .ref a_this)] dX12_laysOut_9 rfl (by decide) rfl ?_
  obtain ⟨row_3, hg, hf⟩ := zb1_some hf
  refine z_sub [1, 0] rfl ?_
  refine l_M_laysOut_10 G a_this a_height a_changeAt a_changeWas a_changeIs a_tape a_text a_names a_line a_row a_pastMany a_past a_changed a_greatest a_numbersWere a_told a_waysOf a_waysWere a_blocks a_ordersOf a_imageLine a_bodyKind a_trace a_shelf a_many a_items a_carried people keptMany done tapeMany textMany base at_ ends fault opened lineMany lineMany taller tallerBy pasts isKept imageMany bodies ran ownKind ownNumber line F row_3 ?_ FU row 0 hg
  refine z_aload_n F 0 dX12_laysOut_36 rfl rfl ?_
  refine z_iconst F (-1) dX12_laysOut_37 rfl ?_
  refine z_put F 0 12 21 (w_M_laysOut G a_this a_height a_changeAt a_changeWas a_changeIs a_tape a_text a_names a_line a_row a_pastMany a_past a_changed a_greatest a_numbersWere a_told a_waysOf a_waysWere a_blocks a_ordersOf a_imageLine a_bodyKind a_trace a_shelf a_many a_items a_carried people keptMany done tapeMany textMany base at_ ends fault opened lineMany lineMany ((-1) : Int32) tallerBy pasts isKept imageMany bodies ran ownKind ownNumber line row_3) inlX12 tyX12 tyX12_ok nmX12 rfl rfl (by decide) fl_X12_187 rfl rfl rfl (Nat.le_of_ble_eq_true rfl) rfl dX12_laysOut_38 ?_
  have eq1 := Option.some.inj hf
  obtain ⟨ee1, eq2⟩ := Prod.mk.inj eq1
  obtain ⟨ee2, ee3⟩ := Prod.mk.inj eq2
  subst ee1
  subst ee2
  subst ee3
  exact z_vret F rfl rfl rfl dX12_laysOut_41

abbrev w_M_heightOf (G : zG) (a_this : Nat) (a_height : Nat) (a_changeAt : Nat) (a_changeWas : Nat) (a_changeIs : Nat) (a_tape : Nat) (a_text : Nat) (a_names : Nat) (a_line : Nat) (a_row : Nat) (a_pastMany : Nat) (a_past : Nat) (a_changed : Nat) (a_greatest : Nat) (a_numbersWere : Nat) (a_told : Nat) (a_waysOf : Nat) (a_waysWere : Nat) (a_blocks : Nat) (a_ordersOf : Nat) (a_imageLine : Nat) (a_bodyKind : Nat) (a_trace : Nat) (a_shelf : Nat) (a_many : Nat) (a_items : Nat) (a_carried : Nat) (people : Int32) (keptMany : Int32) (done : Int32) (tapeMany : Int32) (textMany : Int32) (base : Int32) (at_ : Int32) (ends : Int32) (fault : Int32) (opened : Int32) (lineMany : Int32) (rowMany : Int32) (taller : Int32) (tallerBy : Int32) (pasts : Int32) (isKept : Int32) (imageMany : Int32) (bodies : Int32) (ran : Int32) (ownKind : Int32) (ownNumber : Int32) (height : Nat → Int32) : va_W := [(a_this, cO 12 [.int people, .ref a_height, .ref a_changeAt, .ref a_changeWas, .ref a_changeIs, .int keptMany, .int done, .ref a_tape, .int tapeMany, .ref a_text, .int textMany, .int base, .int at_, .int ends, .int fault, .int opened, .ref a_names, .ref a_line, .int lineMany, .ref a_row, .int rowMany, .int taller, .int tallerBy, .ref a_pastMany, .ref a_past, .int pasts, .ref a_changed, .ref a_greatest, .ref a_numbersWere, .ref a_told, .ref a_waysOf, .ref a_waysWere, .ref a_blocks, .ref a_ordersOf, .int isKept, .int imageMany, .ref a_imageLine, .int bodies, .ref a_bodyKind, .ref a_trace, .int ran, .int ownKind, .int ownNumber, .ref a_shelf, .ref a_many, .ref a_items, .ref a_carried]), (a_height, cI G 9 height)]
def f_M_heightOf (taller : Int32) (tallerBy : Int32) (height : Nat → Int32) (x1 : Int32) : Option Int32 := (zg height 9 x1 fun v_1 => (if x1 = taller then (some (v_1 + tallerBy)) else (some (v_1 + (0 : Int32)))))
set_option maxRecDepth 100000 in
set_option maxHeartbeats 4000000 in
theorem c_M_heightOf (l : Launch) (G : zG) (a_this : Nat) (a_height : Nat) (a_changeAt : Nat) (a_changeWas : Nat) (a_changeIs : Nat) (a_tape : Nat) (a_text : Nat) (a_names : Nat) (a_line : Nat) (a_row : Nat) (a_pastMany : Nat) (a_past : Nat) (a_changed : Nat) (a_greatest : Nat) (a_numbersWere : Nat) (a_told : Nat) (a_waysOf : Nat) (a_waysWere : Nat) (a_blocks : Nat) (a_ordersOf : Nat) (a_imageLine : Nat) (a_bodyKind : Nat) (a_trace : Nat) (a_shelf : Nat) (a_many : Nat) (a_items : Nat) (a_carried : Nat) (people : Int32) (keptMany : Int32) (done : Int32) (tapeMany : Int32) (textMany : Int32) (base : Int32) (at_ : Int32) (ends : Int32) (fault : Int32) (opened : Int32) (lineMany : Int32) (rowMany : Int32) (taller : Int32) (tallerBy : Int32) (pasts : Int32) (isKept : Int32) (imageMany : Int32) (bodies : Int32) (ran : Int32) (ownKind : Int32) (ownNumber : Int32) (height : Nat → Int32) (x1 : Int32) (r_ : Int32) (hf : f_M_heightOf taller tallerBy height x1 = some r_) : zM l yX12_heightOf cX12_heightOf 2 (some .int) 0 0 G [.ref a_this, .int x1] (w_M_heightOf G a_this a_height a_changeAt a_changeWas a_changeIs a_tape a_text a_names a_line a_row a_pastMany a_past a_changed a_greatest a_numbersWere a_told a_waysOf a_waysWere a_blocks a_ordersOf a_imageLine a_bodyKind a_trace a_shelf a_many a_items a_carried people keptMany done tapeMany textMany base at_ ends fault opened lineMany rowMany taller tallerBy pasts isKept imageMany bodies ran ownKind ownNumber height) (some (.int r_)) (w_M_heightOf G a_this a_height a_changeAt a_changeWas a_changeIs a_tape a_text a_names a_line a_row a_pastMany a_past a_changed a_greatest a_numbersWere a_told a_waysOf a_waysWere a_blocks a_ordersOf a_imageLine a_bodyKind a_trace a_shelf a_many a_items a_carried people keptMany done tapeMany textMany base at_ ends fault opened lineMany rowMany taller tallerBy pasts isKept imageMany bodies ran ownKind ownNumber height) := by
  refine zM.of [(0, .ref a_this), (1, .int x1)] (own := RX12) rfl (by decide +kernel) (Nat.le_of_ble_eq_true rfl) rfl rfl fun X hX F => ?_
  subst hX
  replace hf := (f_M_heightOf.eq_1 ..).symm.trans hf
  refine z_aload_n F 0 dX12_heightOf_0 rfl rfl ?_
  refine z_get F 0 12 1 inlX12 rfl rfl (by decide) fl_X12_9 rfl dX12_heightOf_1 ?_
  refine z_iload_n F 1 dX12_heightOf_4 rfl rfl ?_
  refine z_iald F 1 rfl hf dX12_heightOf_5 (fun v_1 hf => ?_)
  refine z_iload_n F 1 dX12_heightOf_6 rfl rfl ?_
  refine z_aload_n F 0 dX12_heightOf_7 rfl rfl ?_
  refine z_get F 0 12 21 inlX12 rfl rfl (by decide) fl_X12_187 rfl dX12_heightOf_8 ?_
  refine z_icmp_ne F 21 dX12_heightOf_11 (by decide) hf (fun hf _ => ?_) (fun hf _ => ?_)
  · refine z_iconst F (0) dX12_heightOf_21 rfl ?_
    refine z_iadd F dX12_heightOf_22 ?_
    have ee1 := Option.some.inj hf
    subst ee1
    exact z_iret F rfl rfl rfl rfl dX12_heightOf_23
  · refine z_aload_n F 0 dX12_heightOf_14 rfl rfl ?_
    refine z_get F 0 12 22 inlX12 rfl rfl (by decide) fl_X12_190 rfl dX12_heightOf_15 ?_
    refine z_goto F 22 dX12_heightOf_18 (by decide) ?_
    refine z_iadd F dX12_heightOf_22 ?_
    have ee1 := Option.some.inj hf
    subst ee1
    exact z_iret F rfl rfl rfl rfl dX12_heightOf_23

abbrev w_M_counts (G : zG) (a_this : Nat) (a_height : Nat) (a_changeAt : Nat) (a_changeWas : Nat) (a_changeIs : Nat) (a_tape : Nat) (a_text : Nat) (a_names : Nat) (a_line : Nat) (a_row : Nat) (a_pastMany : Nat) (a_past : Nat) (a_changed : Nat) (a_greatest : Nat) (a_numbersWere : Nat) (a_told : Nat) (a_waysOf : Nat) (a_waysWere : Nat) (a_blocks : Nat) (a_ordersOf : Nat) (a_imageLine : Nat) (a_bodyKind : Nat) (a_trace : Nat) (a_shelf : Nat) (a_many : Nat) (a_items : Nat) (a_carried : Nat) (people : Int32) (keptMany : Int32) (done : Int32) (tapeMany : Int32) (textMany : Int32) (base : Int32) (at_ : Int32) (ends : Int32) (fault : Int32) (opened : Int32) (lineMany : Int32) (rowMany : Int32) (taller : Int32) (tallerBy : Int32) (pasts : Int32) (isKept : Int32) (imageMany : Int32) (bodies : Int32) (ran : Int32) (ownKind : Int32) (ownNumber : Int32) (height : Nat → Int32) (tape : Nat → Int32) (text : Nat → Int32) (names : Nat → Int32) : va_W := [(a_this, cO 12 [.int people, .ref a_height, .ref a_changeAt, .ref a_changeWas, .ref a_changeIs, .int keptMany, .int done, .ref a_tape, .int tapeMany, .ref a_text, .int textMany, .int base, .int at_, .int ends, .int fault, .int opened, .ref a_names, .ref a_line, .int lineMany, .ref a_row, .int rowMany, .int taller, .int tallerBy, .ref a_pastMany, .ref a_past, .int pasts, .ref a_changed, .ref a_greatest, .ref a_numbersWere, .ref a_told, .ref a_waysOf, .ref a_waysWere, .ref a_blocks, .ref a_ordersOf, .int isKept, .int imageMany, .ref a_imageLine, .int bodies, .ref a_bodyKind, .ref a_trace, .int ran, .int ownKind, .int ownNumber, .ref a_shelf, .ref a_many, .ref a_items, .ref a_carried]), (a_height, cI G 9 height), (a_tape, cI G 120 tape), (a_text, cI G 120 text), (a_names, cI G 5 names)]
def f_M_counts (textMany : Int32) (base : Int32) (at_ : Int32) (ends : Int32) (fault : Int32) (opened : Int32) (taller : Int32) (tallerBy : Int32) (height : Nat → Int32) (tape : Nat → Int32) (text : Nat → Int32) (names : Nat → Int32) (x1 : Int32) (x2 : Int32) (x3 : Int32) : Option (Int32 × Int32 × Int32 × Int32 × Int32 × Int32 × (Nat → Int32)) := (zb1 (f_M_heightOf taller tallerBy height x1) fun r_1 => (zb1 (f_M_heightOf taller tallerBy height x2) fun r_3 => (if (0 : Int32) ≤ textMany then (zs names 5 0 r_1 fun names_5 => (zs names_5 5 1 r_3 fun names_6 => (zs names_6 5 2 x3 fun names_7 => (zs names_7 5 3 x1 fun names_8 => (zs names_8 5 4 x2 fun names_9 => (zb6 (f_M_workOut base at_ ends fault opened tape text names_9 0 textMany) fun r_10 base_11 at__12 ends_13 fault_14 opened_15 => (if r_10 = 0 then (some (0, base_11, at__12, ends_13, fault_14, opened_15, names_9)) else (some (1, base_11, at__12, ends_13, fault_14, opened_15, names_9))))))))) else (if r_1 ≤ r_3 then (some (0, base, at_, ends, fault, opened, names)) else (some (1, base, at_, ends, fault, opened, names))))))
set_option maxRecDepth 100000 in
set_option maxHeartbeats 4000000 in
theorem c_M_counts (l : Launch) (G : zG) (a_this : Nat) (a_height : Nat) (a_changeAt : Nat) (a_changeWas : Nat) (a_changeIs : Nat) (a_tape : Nat) (a_text : Nat) (a_names : Nat) (a_line : Nat) (a_row : Nat) (a_pastMany : Nat) (a_past : Nat) (a_changed : Nat) (a_greatest : Nat) (a_numbersWere : Nat) (a_told : Nat) (a_waysOf : Nat) (a_waysWere : Nat) (a_blocks : Nat) (a_ordersOf : Nat) (a_imageLine : Nat) (a_bodyKind : Nat) (a_trace : Nat) (a_shelf : Nat) (a_many : Nat) (a_items : Nat) (a_carried : Nat) (people : Int32) (keptMany : Int32) (done : Int32) (tapeMany : Int32) (textMany : Int32) (base : Int32) (at_ : Int32) (ends : Int32) (fault : Int32) (opened : Int32) (lineMany : Int32) (rowMany : Int32) (taller : Int32) (tallerBy : Int32) (pasts : Int32) (isKept : Int32) (imageMany : Int32) (bodies : Int32) (ran : Int32) (ownKind : Int32) (ownNumber : Int32) (height : Nat → Int32) (tape : Nat → Int32) (text : Nat → Int32) (names : Nat → Int32) (x1 : Int32) (x2 : Int32) (x3 : Int32) (r_ : Int32) (o_base : Int32) (o_at_ : Int32) (o_ends : Int32) (o_fault : Int32) (o_opened : Int32) (o_names : Nat → Int32) (hf : f_M_counts textMany base at_ ends fault opened taller tallerBy height tape text names x1 x2 x3 = some (r_, o_base, o_at_, o_ends, o_fault, o_opened, o_names)) : zM l yX12_counts cX12_counts 6 (some .boolean) 150 3485 G [.ref a_this, .int x1, .int x2, .int x3] (w_M_counts G a_this a_height a_changeAt a_changeWas a_changeIs a_tape a_text a_names a_line a_row a_pastMany a_past a_changed a_greatest a_numbersWere a_told a_waysOf a_waysWere a_blocks a_ordersOf a_imageLine a_bodyKind a_trace a_shelf a_many a_items a_carried people keptMany done tapeMany textMany base at_ ends fault opened lineMany rowMany taller tallerBy pasts isKept imageMany bodies ran ownKind ownNumber height tape text names) (some (.int r_)) (w_M_counts G a_this a_height a_changeAt a_changeWas a_changeIs a_tape a_text a_names a_line a_row a_pastMany a_past a_changed a_greatest a_numbersWere a_told a_waysOf a_waysWere a_blocks a_ordersOf a_imageLine a_bodyKind a_trace a_shelf a_many a_items a_carried people keptMany done tapeMany textMany o_base o_at_ o_ends o_fault o_opened lineMany rowMany taller tallerBy pasts isKept imageMany bodies ran ownKind ownNumber height tape text o_names) := by
  refine zM.of [(0, .ref a_this), (1, .int x1), (2, .int x2), (3, .int x3)] (own := RX12) rfl (by decide +kernel) (Nat.le_of_ble_eq_true rfl) rfl rfl fun X hX F => ?_
  subst hX
  replace hf := (f_M_counts.eq_1 ..).symm.trans hf
  refine z_aload_n F 0 dX12_counts_0 rfl rfl ?_
  refine z_iload_n F 1 dX12_counts_1 rfl rfl ?_
  obtain ⟨r_1, hg, hf⟩ := zb1_some hf
  refine z_callVm (rest := []) F 12 (c_M_heightOf (xL X) G a_this a_height a_changeAt a_changeWas a_changeIs a_tape a_text a_names a_line a_row a_pastMany a_past a_changed a_greatest a_numbersWere a_told a_waysOf a_waysWere a_blocks a_ordersOf a_imageLine a_bodyKind a_trace a_shelf a_many a_items a_carried people keptMany done tapeMany textMany base at_ ends fault opened lineMany rowMany taller tallerBy pasts isKept imageMany bodies ran ownKind ownNumber height x1 r_1 hg) hy_X12_heightOf ml_X12_193 hd_X12_heightOf ⟨by omega, by omega⟩ rfl [0, 1] rfl rfl 0 rfl rfl (w_M_counts G a_this a_height a_changeAt a_changeWas a_changeIs a_tape a_text a_names a_line a_row a_pastMany a_past a_changed a_greatest a_numbersWere a_told a_waysOf a_waysWere a_blocks a_ordersOf a_imageLine a_bodyKind a_trace a_shelf a_many a_items a_carried people keptMany done tapeMany textMany base at_ ends fault opened lineMany rowMany taller tallerBy pasts isKept imageMany bodies ran ownKind ownNumber height tape text names) [some 0, some 1, none, none, none] rfl (by decide +kernel) rfl rfl (Nat.le_of_ble_eq_true rfl) dX12_counts_2 (fun hz_2 => ?_)
  refine z_istore F [(4, .int r_1), (0, .ref a_this), (1, .int x1), (2, .int x2), (3, .int x3)] dX12_counts_5 (by decide) rfl ?_
  refine z_aload_n F 1 dX12_counts_7 rfl rfl ?_
  refine z_iload_n F 3 dX12_counts_8 rfl rfl ?_
  obtain ⟨r_3, hg, hf⟩ := zb1_some hf
  refine z_callVm (rest := []) F 12 (c_M_heightOf (xL X) G a_this a_height a_changeAt a_changeWas a_changeIs a_tape a_text a_names a_line a_row a_pastMany a_past a_changed a_greatest a_numbersWere a_told a_waysOf a_waysWere a_blocks a_ordersOf a_imageLine a_bodyKind a_trace a_shelf a_many a_items a_carried people keptMany done tapeMany textMany base at_ ends fault opened lineMany rowMany taller tallerBy pasts isKept imageMany bodies ran ownKind ownNumber height x2 r_3 hg) hy_X12_heightOf ml_X12_193 hd_X12_heightOf ⟨by omega, by omega⟩ rfl [0, 1] rfl rfl 0 rfl rfl (w_M_counts G a_this a_height a_changeAt a_changeWas a_changeIs a_tape a_text a_names a_line a_row a_pastMany a_past a_changed a_greatest a_numbersWere a_told a_waysOf a_waysWere a_blocks a_ordersOf a_imageLine a_bodyKind a_trace a_shelf a_many a_items a_carried people keptMany done tapeMany textMany base at_ ends fault opened lineMany rowMany taller tallerBy pasts isKept imageMany bodies ran ownKind ownNumber height tape text names) [some 0, some 1, none, none, none] rfl (by decide +kernel) rfl rfl (Nat.le_of_ble_eq_true rfl) dX12_counts_9 (fun hz_4 => ?_)
  refine z_istore F [(5, .int r_3), (4, .int r_1), (0, .ref a_this), (1, .int x1), (2, .int x2), (3, .int x3)] dX12_counts_12 (by decide) rfl ?_
  refine z_aload_n F 2 dX12_counts_14 rfl rfl ?_
  refine z_get F 0 12 10 inlX12 rfl rfl (by decide) fl_X12_89 rfl dX12_counts_15 ?_
  refine z_if_ge F 34 dX12_counts_18 (by decide) hf (fun hf _ => ?_) (fun hf _ => ?_)
  · refine z_aload_n F 2 dX12_counts_34 rfl rfl ?_
    refine z_get F 0 12 16 inlX12 rfl rfl (by decide) fl_X12_28 rfl dX12_counts_35 ?_
    refine z_iconst F (0) dX12_counts_38 rfl ?_
    refine z_iload F 1 dX12_counts_39 rfl ?_
    refine z_iast F 4 (fun names_5 => (w_M_counts G a_this a_height a_changeAt a_changeWas a_changeIs a_tape a_text a_names a_line a_row a_pastMany a_past a_changed a_greatest a_numbersWere a_told a_waysOf a_waysWere a_blocks a_ordersOf a_imageLine a_bodyKind a_trace a_shelf a_many a_items a_carried people keptMany done tapeMany textMany base at_ ends fault opened lineMany rowMany taller tallerBy pasts isKept imageMany bodies ran ownKind ownNumber height tape text names_5)) rfl hf (fun _ => rfl) dX12_counts_41 (fun names_5 hf => ?_)
    refine z_aload_n F 2 dX12_counts_42 rfl rfl ?_
    refine z_get F 0 12 16 inlX12 rfl rfl (by decide) fl_X12_28 rfl dX12_counts_43 ?_
    refine z_iconst F (1) dX12_counts_46 rfl ?_
    refine z_iload F 0 dX12_counts_47 rfl ?_
    refine z_iast F 4 (fun names_6 => (w_M_counts G a_this a_height a_changeAt a_changeWas a_changeIs a_tape a_text a_names a_line a_row a_pastMany a_past a_changed a_greatest a_numbersWere a_told a_waysOf a_waysWere a_blocks a_ordersOf a_imageLine a_bodyKind a_trace a_shelf a_many a_items a_carried people keptMany done tapeMany textMany base at_ ends fault opened lineMany rowMany taller tallerBy pasts isKept imageMany bodies ran ownKind ownNumber height tape text names_6)) rfl hf (fun _ => rfl) dX12_counts_49 (fun names_6 hf => ?_)
    refine z_aload_n F 2 dX12_counts_50 rfl rfl ?_
    refine z_get F 0 12 16 inlX12 rfl rfl (by decide) fl_X12_28 rfl dX12_counts_51 ?_
    refine z_iconst F (2) dX12_counts_54 rfl ?_
    refine z_iload_n F 5 dX12_counts_55 rfl rfl ?_
    refine z_iast F 4 (fun names_7 => (w_M_counts G a_this a_height a_changeAt a_changeWas a_changeIs a_tape a_text a_names a_line a_row a_pastMany a_past a_changed a_greatest a_numbersWere a_told a_waysOf a_waysWere a_blocks a_ordersOf a_imageLine a_bodyKind a_trace a_shelf a_many a_items a_carried people keptMany done tapeMany textMany base at_ ends fault opened lineMany rowMany taller tallerBy pasts isKept imageMany bodies ran ownKind ownNumber height tape text names_7)) rfl hf (fun _ => rfl) dX12_counts_56 (fun names_7 hf => ?_)
    refine z_aload_n F 2 dX12_counts_57 rfl rfl ?_
    refine z_get F 0 12 16 inlX12 rfl rfl (by decide) fl_X12_28 rfl dX12_counts_58 ?_
    refine z_iconst F (3) dX12_counts_61 rfl ?_
    refine z_iload_n F 3 dX12_counts_62 rfl rfl ?_
    refine z_iast F 4 (fun names_8 => (w_M_counts G a_this a_height a_changeAt a_changeWas a_changeIs a_tape a_text a_names a_line a_row a_pastMany a_past a_changed a_greatest a_numbersWere a_told a_waysOf a_waysWere a_blocks a_ordersOf a_imageLine a_bodyKind a_trace a_shelf a_many a_items a_carried people keptMany done tapeMany textMany base at_ ends fault opened lineMany rowMany taller tallerBy pasts isKept imageMany bodies ran ownKind ownNumber height tape text names_8)) rfl hf (fun _ => rfl) dX12_counts_63 (fun names_8 hf => ?_)
    refine z_aload_n F 2 dX12_counts_64 rfl rfl ?_
    refine z_get F 0 12 16 inlX12 rfl rfl (by decide) fl_X12_28 rfl dX12_counts_65 ?_
    refine z_iconst F (4) dX12_counts_68 rfl ?_
    refine z_iload_n F 4 dX12_counts_69 rfl rfl ?_
    refine z_iast F 4 (fun names_9 => (w_M_counts G a_this a_height a_changeAt a_changeWas a_changeIs a_tape a_text a_names a_line a_row a_pastMany a_past a_changed a_greatest a_numbersWere a_told a_waysOf a_waysWere a_blocks a_ordersOf a_imageLine a_bodyKind a_trace a_shelf a_many a_items a_carried people keptMany done tapeMany textMany base at_ ends fault opened lineMany rowMany taller tallerBy pasts isKept imageMany bodies ran ownKind ownNumber height tape text names_9)) rfl hf (fun _ => rfl) dX12_counts_70 (fun names_9 hf => ?_)
    refine z_aload_n F 2 dX12_counts_71 rfl rfl ?_
    refine z_iconst F (0) dX12_counts_72 rfl ?_
    refine z_aload_n F 2 dX12_counts_73 rfl rfl ?_
    refine z_get F 0 12 10 inlX12 rfl rfl (by decide) fl_X12_89 rfl dX12_counts_74 ?_
    obtain ⟨r_10, base_11, at__12, ends_13, fault_14, opened_15, hg, hf⟩ := zb6_some hf
    refine z_callVm (rest := []) F 12 (c_M_workOut (xL X) G a_this a_height a_changeAt a_changeWas a_changeIs a_tape a_text a_names a_line a_row a_pastMany a_past a_changed a_greatest a_numbersWere a_told a_waysOf a_waysWere a_blocks a_ordersOf a_imageLine a_bodyKind a_trace a_shelf a_many a_items a_carried people keptMany done tapeMany textMany base at_ ends fault opened lineMany rowMany taller tallerBy pasts isKept imageMany bodies ran ownKind ownNumber tape text names_9 0 textMany r_10 base_11 at__12 ends_13 fault_14 opened_15 hg) hy_X12_workOut ml_X12_180 hd_X12_workOut ⟨by omega, by omega⟩ rfl [0, 2, 3, 4] rfl rfl 0 rfl rfl (w_M_counts G a_this a_height a_changeAt a_changeWas a_changeIs a_tape a_text a_names a_line a_row a_pastMany a_past a_changed a_greatest a_numbersWere a_told a_waysOf a_waysWere a_blocks a_ordersOf a_imageLine a_bodyKind a_trace a_shelf a_many a_items a_carried people keptMany done tapeMany textMany base_11 at__12 ends_13 fault_14 opened_15 lineMany rowMany taller tallerBy pasts isKept imageMany bodies ran ownKind ownNumber height tape text names_9) [some 0, none, some 1, some 2, some 3] rfl (by decide +kernel) rfl rfl (Nat.le_of_ble_eq_true rfl) dX12_counts_77 (fun hz_16 => ?_)
    refine z_if_eq F 87 dX12_counts_80 (by decide) hf (fun hf _ => ?_) (fun hf _ => ?_)
    · refine z_iconst F (0) dX12_counts_87 rfl ?_
      have eq1 := Option.some.inj hf
      obtain ⟨ee1, eq2⟩ := Prod.mk.inj eq1
      obtain ⟨ee2, eq3⟩ := Prod.mk.inj eq2
      obtain ⟨ee3, eq4⟩ := Prod.mk.inj eq3
      obtain ⟨ee4, eq5⟩ := Prod.mk.inj eq4
      obtain ⟨ee5, eq6⟩ := Prod.mk.inj eq5
      obtain ⟨ee6, ee7⟩ := Prod.mk.inj eq6
      subst ee1
      subst ee2
      subst ee3
      subst ee4
      subst ee5
      subst ee6
      subst ee7
      exact z_iret F rfl rfl rfl rfl dX12_counts_88
    · refine z_iconst F (1) dX12_counts_83 rfl ?_
      refine z_goto F 88 dX12_counts_84 (by decide) ?_
      have eq1 := Option.some.inj hf
      obtain ⟨ee1, eq2⟩ := Prod.mk.inj eq1
      obtain ⟨ee2, eq3⟩ := Prod.mk.inj eq2
      obtain ⟨ee3, eq4⟩ := Prod.mk.inj eq3
      obtain ⟨ee4, eq5⟩ := Prod.mk.inj eq4
      obtain ⟨ee5, eq6⟩ := Prod.mk.inj eq5
      obtain ⟨ee6, ee7⟩ := Prod.mk.inj eq6
      subst ee1
      subst ee2
      subst ee3
      subst ee4
      subst ee5
      subst ee6
      subst ee7
      exact z_iret F rfl rfl rfl rfl dX12_counts_88
  · refine z_iload F 1 dX12_counts_21 rfl ?_
    refine z_iload F 0 dX12_counts_23 rfl ?_
    refine z_icmp_le F 32 dX12_counts_25 (by decide) hf (fun hf _ => ?_) (fun hf _ => ?_)
    · refine z_iconst F (0) dX12_counts_32 rfl ?_
      have eq1 := Option.some.inj hf
      obtain ⟨ee1, eq2⟩ := Prod.mk.inj eq1
      obtain ⟨ee2, eq3⟩ := Prod.mk.inj eq2
      obtain ⟨ee3, eq4⟩ := Prod.mk.inj eq3
      obtain ⟨ee4, eq5⟩ := Prod.mk.inj eq4
      obtain ⟨ee5, eq6⟩ := Prod.mk.inj eq5
      obtain ⟨ee6, ee7⟩ := Prod.mk.inj eq6
      subst ee1
      subst ee2
      subst ee3
      subst ee4
      subst ee5
      subst ee6
      subst ee7
      exact z_iret F rfl rfl rfl rfl dX12_counts_33
    · refine z_iconst F (1) dX12_counts_28 rfl ?_
      refine z_goto F 33 dX12_counts_29 (by decide) ?_
      have eq1 := Option.some.inj hf
      obtain ⟨ee1, eq2⟩ := Prod.mk.inj eq1
      obtain ⟨ee2, eq3⟩ := Prod.mk.inj eq2
      obtain ⟨ee3, eq4⟩ := Prod.mk.inj eq3
      obtain ⟨ee4, eq5⟩ := Prod.mk.inj eq4
      obtain ⟨ee5, eq6⟩ := Prod.mk.inj eq5
      obtain ⟨ee6, ee7⟩ := Prod.mk.inj eq6
      subst ee1
      subst ee2
      subst ee3
      subst ee4
      subst ee5
      subst ee6
      subst ee7
      exact z_iret F rfl rfl rfl rfl dX12_counts_33

abbrev w_M_numberAt (G : zG) (a_this : Nat) (a_height : Nat) (a_changeAt : Nat) (a_changeWas : Nat) (a_changeIs : Nat) (a_tape : Nat) (a_text : Nat) (a_names : Nat) (a_line : Nat) (a_row : Nat) (a_pastMany : Nat) (a_past : Nat) (a_changed : Nat) (a_greatest : Nat) (a_numbersWere : Nat) (a_told : Nat) (a_waysOf : Nat) (a_waysWere : Nat) (a_blocks : Nat) (a_ordersOf : Nat) (a_imageLine : Nat) (a_bodyKind : Nat) (a_trace : Nat) (a_shelf : Nat) (a_many : Nat) (a_items : Nat) (a_carried : Nat) (people : Int32) (keptMany : Int32) (done : Int32) (tapeMany : Int32) (textMany : Int32) (base : Int32) (at_ : Int32) (ends : Int32) (fault : Int32) (opened : Int32) (lineMany : Int32) (rowMany : Int32) (taller : Int32) (tallerBy : Int32) (pasts : Int32) (isKept : Int32) (imageMany : Int32) (bodies : Int32) (ran : Int32) (ownKind : Int32) (ownNumber : Int32) (height : Nat → Int32) (tape : Nat → Int32) (text : Nat → Int32) (names : Nat → Int32) (row : Nat → Int32) : va_W := [(a_this, cO 12 [.int people, .ref a_height, .ref a_changeAt, .ref a_changeWas, .ref a_changeIs, .int keptMany, .int done, .ref a_tape, .int tapeMany, .ref a_text, .int textMany, .int base, .int at_, .int ends, .int fault, .int opened, .ref a_names, .ref a_line, .int lineMany, .ref a_row, .int rowMany, .int taller, .int tallerBy, .ref a_pastMany, .ref a_past, .int pasts, .ref a_changed, .ref a_greatest, .ref a_numbersWere, .ref a_told, .ref a_waysOf, .ref a_waysWere, .ref a_blocks, .ref a_ordersOf, .int isKept, .int imageMany, .ref a_imageLine, .int bodies, .ref a_bodyKind, .ref a_trace, .int ran, .int ownKind, .int ownNumber, .ref a_shelf, .ref a_many, .ref a_items, .ref a_carried]), (a_height, cI G 9 height), (a_tape, cI G 120 tape), (a_text, cI G 120 text), (a_names, cI G 5 names), (a_row, cI G 9 row)]
def f_M_numberAt_L4 (textMany : Int32) (taller : Int32) (tallerBy : Int32) (height : Nat → Int32) (tape : Nat → Int32) (text : Nat → Int32) (row : Nat → Int32) (v1 : Int32) : Nat → Int32 → Int32 → Int32 → Int32 → Int32 → (Nat → Int32) → Int32 → Int32 → Option (Int32 × Int32 × Int32 × Int32 × Int32 × (Nat → Int32) × Int32)
  | 0, _, _, _, _, _, _, _, _ => none
  | fuel + 1, base, at_, ends, fault, opened, names, v2, v3 => (if v1 ≤ v3 then (some (base, at_, ends, fault, opened, names, v2)) else (zg row 9 v3 fun v_1 => (zg row 9 v1 fun v_2 => (zb7 (f_M_counts textMany base at_ ends fault opened taller tallerBy height tape text names v_1 v_2 (v1 - v3)) fun r_3 base_4 at__5 ends_6 fault_7 opened_8 names_9 => (if r_3 = 0 then (f_M_numberAt_L4 textMany taller tallerBy height tape text row v1 fuel base_4 at__5 ends_6 fault_7 opened_8 names_9 (v2 + (0 : Int32)) (v3 + 1)) else (f_M_numberAt_L4 textMany taller tallerBy height tape text row v1 fuel base_4 at__5 ends_6 fault_7 opened_8 names_9 (v2 + (1 : Int32)) (v3 + 1)))))))
def f_M_numberAt (textMany : Int32) (base : Int32) (at_ : Int32) (ends : Int32) (fault : Int32) (opened : Int32) (taller : Int32) (tallerBy : Int32) (height : Nat → Int32) (tape : Nat → Int32) (text : Nat → Int32) (names : Nat → Int32) (row : Nat → Int32) (x1 : Int32) : Option (Int32 × Int32 × Int32 × Int32 × Int32 × Int32 × (Nat → Int32)) := (zb7 (f_M_numberAt_L4 textMany taller tallerBy height tape text row x1 FU base at_ ends fault opened names 0 0) fun base_11 at__12 ends_13 fault_14 opened_15 names_16 v2_17 => (some (v2_17, base_11, at__12, ends_13, fault_14, opened_15, names_16)))
set_option maxRecDepth 100000 in
set_option maxHeartbeats 4000000 in
theorem l_M_numberAt_4 {X : zX} (G : zG) (a_this : Nat) (a_height : Nat) (a_changeAt : Nat) (a_changeWas : Nat) (a_changeIs : Nat) (a_tape : Nat) (a_text : Nat) (a_names : Nat) (a_line : Nat) (a_row : Nat) (a_pastMany : Nat) (a_past : Nat) (a_changed : Nat) (a_greatest : Nat) (a_numbersWere : Nat) (a_told : Nat) (a_waysOf : Nat) (a_waysWere : Nat) (a_blocks : Nat) (a_ordersOf : Nat) (a_imageLine : Nat) (a_bodyKind : Nat) (a_trace : Nat) (a_shelf : Nat) (a_many : Nat) (a_items : Nat) (a_carried : Nat) (people : Int32) (keptMany : Int32) (done : Int32) (tapeMany : Int32) (textMany : Int32) (lineMany : Int32) (rowMany : Int32) (taller : Int32) (tallerBy : Int32) (pasts : Int32) (isKept : Int32) (imageMany : Int32) (bodies : Int32) (ran : Int32) (ownKind : Int32) (ownNumber : Int32) (height : Nat → Int32) (tape : Nat → Int32) (text : Nat → Int32) (row : Nat → Int32) (v1 : Int32) {v0 : Option Value} {w0 : va_W} (F : zF X G cX12_numberAt RX12 4 (some .int) 151 3510 v0 w0) (e_base : Int32) (e_at_ : Int32) (e_ends : Int32) (e_fault : Int32) (e_opened : Int32) (e_names : Nat → Int32) (e_v2 : Int32) (hk : Z X G 4 (w_M_numberAt G a_this a_height a_changeAt a_changeWas a_changeIs a_tape a_text a_names a_line a_row a_pastMany a_past a_changed a_greatest a_numbersWere a_told a_waysOf a_waysWere a_blocks a_ordersOf a_imageLine a_bodyKind a_trace a_shelf a_many a_items a_carried people keptMany done tapeMany textMany e_base e_at_ e_ends e_fault e_opened lineMany rowMany taller tallerBy pasts isKept imageMany bodies ran ownKind ownNumber height tape text e_names row) [(2, .int e_v2)] 45 []) :
    ∀ (fuel : Nat) (base : Int32) (at_ : Int32) (ends : Int32) (fault : Int32) (opened : Int32) (names : Nat → Int32) (v2 : Int32) (v3 : Int32), f_M_numberAt_L4 textMany taller tallerBy height tape text row v1 fuel base at_ ends fault opened names v2 v3 = some (e_base, e_at_, e_ends, e_fault, e_opened, e_names, e_v2) → Z X G 4 (w_M_numberAt G a_this a_height a_changeAt a_changeWas a_changeIs a_tape a_text a_names a_line a_row a_pastMany a_past a_changed a_greatest a_numbersWere a_told a_waysOf a_waysWere a_blocks a_ordersOf a_imageLine a_bodyKind a_trace a_shelf a_many a_items a_carried people keptMany done tapeMany textMany base at_ ends fault opened lineMany rowMany taller tallerBy pasts isKept imageMany bodies ran ownKind ownNumber height tape text names row) [(0, .ref a_this), (1, .int v1), (2, .int v2), (3, .int v3)] 4 [] := by
  intro fuel
  induction fuel with
  | zero => intro base at_ ends fault opened names v2 v3 hf; exact absurd ((f_M_numberAt_L4.eq_1 ..).symm.trans hf) (fun h => by cases h)
  | succ fuel ih =>
    intro base at_ ends fault opened names v2 v3 hf
    replace hf := (f_M_numberAt_L4.eq_2 ..).symm.trans hf
    refine z_iload_n F 3 dX12_numberAt_4 rfl rfl ?_
    refine z_iload_n F 1 dX12_numberAt_5 rfl rfl ?_
    refine z_icmp_ge F 45 dX12_numberAt_6 (by decide) hf (fun hf _ => ?_) (fun hf _ => ?_)
    · have eq1 := Option.some.inj hf
      obtain ⟨ee1, eq2⟩ := Prod.mk.inj eq1
      obtain ⟨ee2, eq3⟩ := Prod.mk.inj eq2
      obtain ⟨ee3, eq4⟩ := Prod.mk.inj eq3
      obtain ⟨ee4, eq5⟩ := Prod.mk.inj eq4
      obtain ⟨ee5, eq6⟩ := Prod.mk.inj eq5
      obtain ⟨ee6, ee7⟩ := Prod.mk.inj eq6
      subst ee1
      subst ee2
      subst ee3
      subst ee4
      subst ee5
      subst ee6
      subst ee7
      exact z_sub [2] rfl hk
    · refine z_iload_n F 2 dX12_numberAt_9 rfl rfl ?_
      refine z_aload_n F 0 dX12_numberAt_10 rfl rfl ?_
      refine z_aload_n F 0 dX12_numberAt_11 rfl rfl ?_
      refine z_get F 0 12 19 inlX12 rfl rfl (by decide) fl_X12_34 rfl dX12_numberAt_12 ?_
      refine z_iload_n F 3 dX12_numberAt_15 rfl rfl ?_
      refine z_iald F 5 rfl hf dX12_numberAt_16 (fun v_1 hf => ?_)
      refine z_aload_n F 0 dX12_numberAt_17 rfl rfl ?_
      refine z_get F 0 12 19 inlX12 rfl rfl (by decide) fl_X12_34 rfl dX12_numberAt_18 ?_
      refine z_iload_n F 1 dX12_numberAt_21 rfl rfl ?_
      refine z_iald F 5 rfl hf dX12_numberAt_22 (fun v_2 hf => ?_)
      refine z_iload_n F 1 dX12_numberAt_23 rfl rfl ?_
      refine z_iload_n F 3 dX12_numberAt_24 rfl rfl ?_
      refine z_isub F dX12_numberAt_25 ?_
      obtain ⟨r_3, base_4, at__5, ends_6, fault_7, opened_8, names_9, hg, hf⟩ := zb7_some hf
      refine z_callVm (rest := [.int v2]) F 12 (c_M_counts (xL X) G a_this a_height a_changeAt a_changeWas a_changeIs a_tape a_text a_names a_line a_row a_pastMany a_past a_changed a_greatest a_numbersWere a_told a_waysOf a_waysWere a_blocks a_ordersOf a_imageLine a_bodyKind a_trace a_shelf a_many a_items a_carried people keptMany done tapeMany textMany base at_ ends fault opened lineMany rowMany taller tallerBy pasts isKept imageMany bodies ran ownKind ownNumber height tape text names v_1 v_2 (v1 - v3) r_3 base_4 at__5 ends_6 fault_7 opened_8 names_9 hg) hy_X12_counts ml_X12_196 hd_X12_counts ⟨by omega, by omega⟩ rfl [0, 1, 2, 3, 4] rfl rfl 0 rfl rfl (w_M_numberAt G a_this a_height a_changeAt a_changeWas a_changeIs a_tape a_text a_names a_line a_row a_pastMany a_past a_changed a_greatest a_numbersWere a_told a_waysOf a_waysWere a_blocks a_ordersOf a_imageLine a_bodyKind a_trace a_shelf a_many a_items a_carried people keptMany done tapeMany textMany base_4 at__5 ends_6 fault_7 opened_8 lineMany rowMany taller tallerBy pasts isKept imageMany bodies ran ownKind ownNumber height tape text names_9 row) [some 0, some 1, some 2, some 3, some 4, none] rfl (by decide +kernel) rfl rfl (Nat.le_of_ble_eq_true rfl) dX12_numberAt_26 (fun hz_10 => ?_)
      refine z_if_eq F 36 dX12_numberAt_29 (by decide) hf (fun hf _ => ?_) (fun hf _ => ?_)
      · refine z_iconst F (0) dX12_numberAt_36 rfl ?_
        refine z_iadd F dX12_numberAt_37 ?_
        refine z_istore_n F [(2, .int (v2 + (0 : Int32))), (0, .ref a_this), (1, .int v1), (3, .int v3)] dX12_numberAt_38 rfl (by decide) rfl ?_
        refine z_iinc F [(3, .int (v3 + 1)), (2, .int (v2 + (0 : Int32))), (0, .ref a_this), (1, .int v1)] dX12_numberAt_39 3 rfl rfl (by decide) rfl ?_
        refine z_goto F 4 dX12_numberAt_42 (by decide) ?_
        exact z_sub [2, 3, 1, 0] rfl (ih base_4 at__5 ends_6 fault_7 opened_8 names_9 (v2 + (0 : Int32)) (v3 + 1) hf)
      · refine z_iconst F (1) dX12_numberAt_32 rfl ?_
        refine z_goto F 37 dX12_numberAt_33 (by decide) ?_
        refine z_iadd F dX12_numberAt_37 ?_
        refine z_istore_n F [(2, .int (v2 + (1 : Int32))), (0, .ref a_this), (1, .int v1), (3, .int v3)] dX12_numberAt_38 rfl (by decide) rfl ?_
        refine z_iinc F [(3, .int (v3 + 1)), (2, .int (v2 + (1 : Int32))), (0, .ref a_this), (1, .int v1)] dX12_numberAt_39 3 rfl rfl (by decide) rfl ?_
        refine z_goto F 4 dX12_numberAt_42 (by decide) ?_
        exact z_sub [2, 3, 1, 0] rfl (ih base_4 at__5 ends_6 fault_7 opened_8 names_9 (v2 + (1 : Int32)) (v3 + 1) hf)

set_option maxRecDepth 100000 in
set_option maxHeartbeats 4000000 in
theorem c_M_numberAt (l : Launch) (G : zG) (a_this : Nat) (a_height : Nat) (a_changeAt : Nat) (a_changeWas : Nat) (a_changeIs : Nat) (a_tape : Nat) (a_text : Nat) (a_names : Nat) (a_line : Nat) (a_row : Nat) (a_pastMany : Nat) (a_past : Nat) (a_changed : Nat) (a_greatest : Nat) (a_numbersWere : Nat) (a_told : Nat) (a_waysOf : Nat) (a_waysWere : Nat) (a_blocks : Nat) (a_ordersOf : Nat) (a_imageLine : Nat) (a_bodyKind : Nat) (a_trace : Nat) (a_shelf : Nat) (a_many : Nat) (a_items : Nat) (a_carried : Nat) (people : Int32) (keptMany : Int32) (done : Int32) (tapeMany : Int32) (textMany : Int32) (base : Int32) (at_ : Int32) (ends : Int32) (fault : Int32) (opened : Int32) (lineMany : Int32) (rowMany : Int32) (taller : Int32) (tallerBy : Int32) (pasts : Int32) (isKept : Int32) (imageMany : Int32) (bodies : Int32) (ran : Int32) (ownKind : Int32) (ownNumber : Int32) (height : Nat → Int32) (tape : Nat → Int32) (text : Nat → Int32) (names : Nat → Int32) (row : Nat → Int32) (x1 : Int32) (r_ : Int32) (o_base : Int32) (o_at_ : Int32) (o_ends : Int32) (o_fault : Int32) (o_opened : Int32) (o_names : Nat → Int32) (hf : f_M_numberAt textMany base at_ ends fault opened taller tallerBy height tape text names row x1 = some (r_, o_base, o_at_, o_ends, o_fault, o_opened, o_names)) : zM l yX12_numberAt cX12_numberAt 4 (some .int) 151 3510 G [.ref a_this, .int x1] (w_M_numberAt G a_this a_height a_changeAt a_changeWas a_changeIs a_tape a_text a_names a_line a_row a_pastMany a_past a_changed a_greatest a_numbersWere a_told a_waysOf a_waysWere a_blocks a_ordersOf a_imageLine a_bodyKind a_trace a_shelf a_many a_items a_carried people keptMany done tapeMany textMany base at_ ends fault opened lineMany rowMany taller tallerBy pasts isKept imageMany bodies ran ownKind ownNumber height tape text names row) (some (.int r_)) (w_M_numberAt G a_this a_height a_changeAt a_changeWas a_changeIs a_tape a_text a_names a_line a_row a_pastMany a_past a_changed a_greatest a_numbersWere a_told a_waysOf a_waysWere a_blocks a_ordersOf a_imageLine a_bodyKind a_trace a_shelf a_many a_items a_carried people keptMany done tapeMany textMany o_base o_at_ o_ends o_fault o_opened lineMany rowMany taller tallerBy pasts isKept imageMany bodies ran ownKind ownNumber height tape text o_names row) := by
  refine zM.of [(0, .ref a_this), (1, .int x1)] (own := RX12) rfl (by decide +kernel) (Nat.le_of_ble_eq_true rfl) rfl rfl fun X hX F => ?_
  subst hX
  replace hf := (f_M_numberAt.eq_1 ..).symm.trans hf
  refine z_iconst F (0) dX12_numberAt_0 rfl ?_
  refine z_istore_n F [(2, .int 0), (0, .ref a_this), (1, .int x1)] dX12_numberAt_1 rfl (by decide) rfl ?_
  refine z_iconst F (0) dX12_numberAt_2 rfl ?_
  refine z_istore_n F [(3, .int 0), (2, .int 0), (0, .ref a_this), (1, .int x1)] dX12_numberAt_3 rfl (by decide) rfl ?_
  obtain ⟨base_11, at__12, ends_13, fault_14, opened_15, names_16, v2_17, hg, hf⟩ := zb7_some hf
  refine z_sub [2, 3, 1, 0] rfl ?_
  refine l_M_numberAt_4 G a_this a_height a_changeAt a_changeWas a_changeIs a_tape a_text a_names a_line a_row a_pastMany a_past a_changed a_greatest a_numbersWere a_told a_waysOf a_waysWere a_blocks a_ordersOf a_imageLine a_bodyKind a_trace a_shelf a_many a_items a_carried people keptMany done tapeMany textMany lineMany rowMany taller tallerBy pasts isKept imageMany bodies ran ownKind ownNumber height tape text row x1 F base_11 at__12 ends_13 fault_14 opened_15 names_16 v2_17 ?_ FU base at_ ends fault opened names 0 0 hg
  refine z_iload_n F 0 dX12_numberAt_45 rfl rfl ?_
  have eq1 := Option.some.inj hf
  obtain ⟨ee1, eq2⟩ := Prod.mk.inj eq1
  obtain ⟨ee2, eq3⟩ := Prod.mk.inj eq2
  obtain ⟨ee3, eq4⟩ := Prod.mk.inj eq3
  obtain ⟨ee4, eq5⟩ := Prod.mk.inj eq4
  obtain ⟨ee5, eq6⟩ := Prod.mk.inj eq5
  obtain ⟨ee6, ee7⟩ := Prod.mk.inj eq6
  subst ee1
  subst ee2
  subst ee3
  subst ee4
  subst ee5
  subst ee6
  subst ee7
  exact z_iret F rfl rfl rfl rfl dX12_numberAt_46

abbrev w_M_plainAt (G : zG) (a_this : Nat) (a_height : Nat) (a_changeAt : Nat) (a_changeWas : Nat) (a_changeIs : Nat) (a_tape : Nat) (a_text : Nat) (a_names : Nat) (a_line : Nat) (a_row : Nat) (a_pastMany : Nat) (a_past : Nat) (a_changed : Nat) (a_greatest : Nat) (a_numbersWere : Nat) (a_told : Nat) (a_waysOf : Nat) (a_waysWere : Nat) (a_blocks : Nat) (a_ordersOf : Nat) (a_imageLine : Nat) (a_bodyKind : Nat) (a_trace : Nat) (a_shelf : Nat) (a_many : Nat) (a_items : Nat) (a_carried : Nat) (people : Int32) (keptMany : Int32) (done : Int32) (tapeMany : Int32) (textMany : Int32) (base : Int32) (at_ : Int32) (ends : Int32) (fault : Int32) (opened : Int32) (lineMany : Int32) (rowMany : Int32) (taller : Int32) (tallerBy : Int32) (pasts : Int32) (isKept : Int32) (imageMany : Int32) (bodies : Int32) (ran : Int32) (ownKind : Int32) (ownNumber : Int32) (height : Nat → Int32) (row : Nat → Int32) : va_W := [(a_this, cO 12 [.int people, .ref a_height, .ref a_changeAt, .ref a_changeWas, .ref a_changeIs, .int keptMany, .int done, .ref a_tape, .int tapeMany, .ref a_text, .int textMany, .int base, .int at_, .int ends, .int fault, .int opened, .ref a_names, .ref a_line, .int lineMany, .ref a_row, .int rowMany, .int taller, .int tallerBy, .ref a_pastMany, .ref a_past, .int pasts, .ref a_changed, .ref a_greatest, .ref a_numbersWere, .ref a_told, .ref a_waysOf, .ref a_waysWere, .ref a_blocks, .ref a_ordersOf, .int isKept, .int imageMany, .ref a_imageLine, .int bodies, .ref a_bodyKind, .ref a_trace, .int ran, .int ownKind, .int ownNumber, .ref a_shelf, .ref a_many, .ref a_items, .ref a_carried]), (a_height, cI G 9 height), (a_row, cI G 9 row)]
def f_M_plainAt_L4 (height : Nat → Int32) (row : Nat → Int32) (v1 : Int32) : Nat → Int32 → Int32 → Option Int32
  | 0, _, _ => none
  | fuel + 1, v2, v3 => (if v1 ≤ v3 then (some v2) else (zg row 9 v3 fun v_1 => (zg height 9 v_1 fun v_2 => (zg row 9 v1 fun v_3 => (zg height 9 v_3 fun v_4 => (if v_2 ≤ v_4 then (f_M_plainAt_L4 height row v1 fuel (v2 + (0 : Int32)) (v3 + 1)) else (f_M_plainAt_L4 height row v1 fuel (v2 + (1 : Int32)) (v3 + 1))))))))
def f_M_plainAt (height : Nat → Int32) (row : Nat → Int32) (x1 : Int32) : Option Int32 := (zb1 (f_M_plainAt_L4 height row x1 FU 0 0) fun v2_5 => (some v2_5))
set_option maxRecDepth 100000 in
set_option maxHeartbeats 4000000 in
theorem l_M_plainAt_4 {X : zX} (G : zG) (a_this : Nat) (a_height : Nat) (a_changeAt : Nat) (a_changeWas : Nat) (a_changeIs : Nat) (a_tape : Nat) (a_text : Nat) (a_names : Nat) (a_line : Nat) (a_row : Nat) (a_pastMany : Nat) (a_past : Nat) (a_changed : Nat) (a_greatest : Nat) (a_numbersWere : Nat) (a_told : Nat) (a_waysOf : Nat) (a_waysWere : Nat) (a_blocks : Nat) (a_ordersOf : Nat) (a_imageLine : Nat) (a_bodyKind : Nat) (a_trace : Nat) (a_shelf : Nat) (a_many : Nat) (a_items : Nat) (a_carried : Nat) (people : Int32) (keptMany : Int32) (done : Int32) (tapeMany : Int32) (textMany : Int32) (base : Int32) (at_ : Int32) (ends : Int32) (fault : Int32) (opened : Int32) (lineMany : Int32) (rowMany : Int32) (taller : Int32) (tallerBy : Int32) (pasts : Int32) (isKept : Int32) (imageMany : Int32) (bodies : Int32) (ran : Int32) (ownKind : Int32) (ownNumber : Int32) (height : Nat → Int32) (row : Nat → Int32) (v1 : Int32) {v0 : Option Value} {w0 : va_W} (F : zF X G cX12_plainAt RX12 4 (some .int) 0 0 v0 w0) (e_v2 : Int32) (hk : Z X G 4 (w_M_plainAt G a_this a_height a_changeAt a_changeWas a_changeIs a_tape a_text a_names a_line a_row a_pastMany a_past a_changed a_greatest a_numbersWere a_told a_waysOf a_waysWere a_blocks a_ordersOf a_imageLine a_bodyKind a_trace a_shelf a_many a_items a_carried people keptMany done tapeMany textMany base at_ ends fault opened lineMany rowMany taller tallerBy pasts isKept imageMany bodies ran ownKind ownNumber height row) [(2, .int e_v2)] 48 []) :
    ∀ (fuel : Nat) (v2 : Int32) (v3 : Int32), f_M_plainAt_L4 height row v1 fuel v2 v3 = some e_v2 → Z X G 4 (w_M_plainAt G a_this a_height a_changeAt a_changeWas a_changeIs a_tape a_text a_names a_line a_row a_pastMany a_past a_changed a_greatest a_numbersWere a_told a_waysOf a_waysWere a_blocks a_ordersOf a_imageLine a_bodyKind a_trace a_shelf a_many a_items a_carried people keptMany done tapeMany textMany base at_ ends fault opened lineMany rowMany taller tallerBy pasts isKept imageMany bodies ran ownKind ownNumber height row) [(0, .ref a_this), (1, .int v1), (2, .int v2), (3, .int v3)] 4 [] := by
  intro fuel
  induction fuel with
  | zero => intro v2 v3 hf; exact absurd ((f_M_plainAt_L4.eq_1 ..).symm.trans hf) (fun h => by cases h)
  | succ fuel ih =>
    intro v2 v3 hf
    replace hf := (f_M_plainAt_L4.eq_2 ..).symm.trans hf
    refine z_iload_n F 3 dX12_plainAt_4 rfl rfl ?_
    refine z_iload_n F 1 dX12_plainAt_5 rfl rfl ?_
    refine z_icmp_ge F 48 dX12_plainAt_6 (by decide) hf (fun hf _ => ?_) (fun hf _ => ?_)
    · have ee1 := Option.some.inj hf
      subst ee1
      exact z_sub [2] rfl hk
    · refine z_iload_n F 2 dX12_plainAt_9 rfl rfl ?_
      refine z_aload_n F 0 dX12_plainAt_10 rfl rfl ?_
      refine z_get F 0 12 1 inlX12 rfl rfl (by decide) fl_X12_9 rfl dX12_plainAt_11 ?_
      refine z_aload_n F 0 dX12_plainAt_14 rfl rfl ?_
      refine z_get F 0 12 19 inlX12 rfl rfl (by decide) fl_X12_34 rfl dX12_plainAt_15 ?_
      refine z_iload_n F 3 dX12_plainAt_18 rfl rfl ?_
      refine z_iald F 2 rfl hf dX12_plainAt_19 (fun v_1 hf => ?_)
      refine z_iald F 1 rfl hf dX12_plainAt_20 (fun v_2 hf => ?_)
      refine z_aload_n F 0 dX12_plainAt_21 rfl rfl ?_
      refine z_get F 0 12 1 inlX12 rfl rfl (by decide) fl_X12_9 rfl dX12_plainAt_22 ?_
      refine z_aload_n F 0 dX12_plainAt_25 rfl rfl ?_
      refine z_get F 0 12 19 inlX12 rfl rfl (by decide) fl_X12_34 rfl dX12_plainAt_26 ?_
      refine z_iload_n F 1 dX12_plainAt_29 rfl rfl ?_
      refine z_iald F 2 rfl hf dX12_plainAt_30 (fun v_3 hf => ?_)
      refine z_iald F 1 rfl hf dX12_plainAt_31 (fun v_4 hf => ?_)
      refine z_icmp_le F 39 dX12_plainAt_32 (by decide) hf (fun hf _ => ?_) (fun hf _ => ?_)
      · refine z_iconst F (0) dX12_plainAt_39 rfl ?_
        refine z_iadd F dX12_plainAt_40 ?_
        refine z_istore_n F [(2, .int (v2 + (0 : Int32))), (0, .ref a_this), (1, .int v1), (3, .int v3)] dX12_plainAt_41 rfl (by decide) rfl ?_
        refine z_iinc F [(3, .int (v3 + 1)), (2, .int (v2 + (0 : Int32))), (0, .ref a_this), (1, .int v1)] dX12_plainAt_42 3 rfl rfl (by decide) rfl ?_
        refine z_goto F 4 dX12_plainAt_45 (by decide) ?_
        exact z_sub [2, 3, 1, 0] rfl (ih (v2 + (0 : Int32)) (v3 + 1) hf)
      · refine z_iconst F (1) dX12_plainAt_35 rfl ?_
        refine z_goto F 40 dX12_plainAt_36 (by decide) ?_
        refine z_iadd F dX12_plainAt_40 ?_
        refine z_istore_n F [(2, .int (v2 + (1 : Int32))), (0, .ref a_this), (1, .int v1), (3, .int v3)] dX12_plainAt_41 rfl (by decide) rfl ?_
        refine z_iinc F [(3, .int (v3 + 1)), (2, .int (v2 + (1 : Int32))), (0, .ref a_this), (1, .int v1)] dX12_plainAt_42 3 rfl rfl (by decide) rfl ?_
        refine z_goto F 4 dX12_plainAt_45 (by decide) ?_
        exact z_sub [2, 3, 1, 0] rfl (ih (v2 + (1 : Int32)) (v3 + 1) hf)

set_option maxRecDepth 100000 in
set_option maxHeartbeats 4000000 in
theorem c_M_plainAt (l : Launch) (G : zG) (a_this : Nat) (a_height : Nat) (a_changeAt : Nat) (a_changeWas : Nat) (a_changeIs : Nat) (a_tape : Nat) (a_text : Nat) (a_names : Nat) (a_line : Nat) (a_row : Nat) (a_pastMany : Nat) (a_past : Nat) (a_changed : Nat) (a_greatest : Nat) (a_numbersWere : Nat) (a_told : Nat) (a_waysOf : Nat) (a_waysWere : Nat) (a_blocks : Nat) (a_ordersOf : Nat) (a_imageLine : Nat) (a_bodyKind : Nat) (a_trace : Nat) (a_shelf : Nat) (a_many : Nat) (a_items : Nat) (a_carried : Nat) (people : Int32) (keptMany : Int32) (done : Int32) (tapeMany : Int32) (textMany : Int32) (base : Int32) (at_ : Int32) (ends : Int32) (fault : Int32) (opened : Int32) (lineMany : Int32) (rowMany : Int32) (taller : Int32) (tallerBy : Int32) (pasts : Int32) (isKept : Int32) (imageMany : Int32) (bodies : Int32) (ran : Int32) (ownKind : Int32) (ownNumber : Int32) (height : Nat → Int32) (row : Nat → Int32) (x1 : Int32) (r_ : Int32) (hf : f_M_plainAt height row x1 = some r_) : zM l yX12_plainAt cX12_plainAt 4 (some .int) 0 0 G [.ref a_this, .int x1] (w_M_plainAt G a_this a_height a_changeAt a_changeWas a_changeIs a_tape a_text a_names a_line a_row a_pastMany a_past a_changed a_greatest a_numbersWere a_told a_waysOf a_waysWere a_blocks a_ordersOf a_imageLine a_bodyKind a_trace a_shelf a_many a_items a_carried people keptMany done tapeMany textMany base at_ ends fault opened lineMany rowMany taller tallerBy pasts isKept imageMany bodies ran ownKind ownNumber height row) (some (.int r_)) (w_M_plainAt G a_this a_height a_changeAt a_changeWas a_changeIs a_tape a_text a_names a_line a_row a_pastMany a_past a_changed a_greatest a_numbersWere a_told a_waysOf a_waysWere a_blocks a_ordersOf a_imageLine a_bodyKind a_trace a_shelf a_many a_items a_carried people keptMany done tapeMany textMany base at_ ends fault opened lineMany rowMany taller tallerBy pasts isKept imageMany bodies ran ownKind ownNumber height row) := by
  refine zM.of [(0, .ref a_this), (1, .int x1)] (own := RX12) rfl (by decide +kernel) (Nat.le_of_ble_eq_true rfl) rfl rfl fun X hX F => ?_
  subst hX
  replace hf := (f_M_plainAt.eq_1 ..).symm.trans hf
  refine z_iconst F (0) dX12_plainAt_0 rfl ?_
  refine z_istore_n F [(2, .int 0), (0, .ref a_this), (1, .int x1)] dX12_plainAt_1 rfl (by decide) rfl ?_
  refine z_iconst F (0) dX12_plainAt_2 rfl ?_
  refine z_istore_n F [(3, .int 0), (2, .int 0), (0, .ref a_this), (1, .int x1)] dX12_plainAt_3 rfl (by decide) rfl ?_
  obtain ⟨v2_5, hg, hf⟩ := zb1_some hf
  refine z_sub [2, 3, 1, 0] rfl ?_
  refine l_M_plainAt_4 G a_this a_height a_changeAt a_changeWas a_changeIs a_tape a_text a_names a_line a_row a_pastMany a_past a_changed a_greatest a_numbersWere a_told a_waysOf a_waysWere a_blocks a_ordersOf a_imageLine a_bodyKind a_trace a_shelf a_many a_items a_carried people keptMany done tapeMany textMany base at_ ends fault opened lineMany rowMany taller tallerBy pasts isKept imageMany bodies ran ownKind ownNumber height row x1 F v2_5 ?_ FU 0 0 hg
  refine z_iload_n F 0 dX12_plainAt_48 rfl rfl ?_
  have ee1 := Option.some.inj hf
  subst ee1
  exact z_iret F rfl rfl rfl rfl dX12_plainAt_49

abbrev w_M_disquietOf (G : zG) (a_this : Nat) (a_height : Nat) (a_changeAt : Nat) (a_changeWas : Nat) (a_changeIs : Nat) (a_tape : Nat) (a_text : Nat) (a_names : Nat) (a_line : Nat) (a_row : Nat) (a_pastMany : Nat) (a_past : Nat) (a_changed : Nat) (a_greatest : Nat) (a_numbersWere : Nat) (a_told : Nat) (a_waysOf : Nat) (a_waysWere : Nat) (a_blocks : Nat) (a_ordersOf : Nat) (a_imageLine : Nat) (a_bodyKind : Nat) (a_trace : Nat) (a_shelf : Nat) (a_many : Nat) (a_items : Nat) (a_carried : Nat) (people : Int32) (keptMany : Int32) (done : Int32) (tapeMany : Int32) (textMany : Int32) (base : Int32) (at_ : Int32) (ends : Int32) (fault : Int32) (opened : Int32) (lineMany : Int32) (rowMany : Int32) (taller : Int32) (tallerBy : Int32) (pasts : Int32) (isKept : Int32) (imageMany : Int32) (bodies : Int32) (ran : Int32) (ownKind : Int32) (ownNumber : Int32) (height : Nat → Int32) (tape : Nat → Int32) (text : Nat → Int32) (names : Nat → Int32) (row : Nat → Int32) : va_W := [(a_this, cO 12 [.int people, .ref a_height, .ref a_changeAt, .ref a_changeWas, .ref a_changeIs, .int keptMany, .int done, .ref a_tape, .int tapeMany, .ref a_text, .int textMany, .int base, .int at_, .int ends, .int fault, .int opened, .ref a_names, .ref a_line, .int lineMany, .ref a_row, .int rowMany, .int taller, .int tallerBy, .ref a_pastMany, .ref a_past, .int pasts, .ref a_changed, .ref a_greatest, .ref a_numbersWere, .ref a_told, .ref a_waysOf, .ref a_waysWere, .ref a_blocks, .ref a_ordersOf, .int isKept, .int imageMany, .ref a_imageLine, .int bodies, .ref a_bodyKind, .ref a_trace, .int ran, .int ownKind, .int ownNumber, .ref a_shelf, .ref a_many, .ref a_items, .ref a_carried]), (a_height, cI G 9 height), (a_tape, cI G 120 tape), (a_text, cI G 120 text), (a_names, cI G 5 names), (a_row, cI G 9 row)]
def f_M_disquietOf_L4 (textMany : Int32) (rowMany : Int32) (taller : Int32) (tallerBy : Int32) (height : Nat → Int32) (tape : Nat → Int32) (text : Nat → Int32) (row : Nat → Int32) : Nat → Int32 → Int32 → Int32 → Int32 → Int32 → (Nat → Int32) → Int32 → Int32 → Option (Int32 × Int32 × Int32 × Int32 × Int32 × (Nat → Int32) × Int32)
  | 0, _, _, _, _, _, _, _, _ => none
  | fuel + 1, base, at_, ends, fault, opened, names, v1, v2 => (if rowMany ≤ v2 then (some (base, at_, ends, fault, opened, names, v1)) else (zb7 (f_M_numberAt textMany base at_ ends fault opened taller tallerBy height tape text names row v2) fun r_1 base_2 at__3 ends_4 fault_5 opened_6 names_7 => (f_M_disquietOf_L4 textMany rowMany taller tallerBy height tape text row fuel base_2 at__3 ends_4 fault_5 opened_6 names_7 (v1 + r_1) (v2 + 1))))
def f_M_disquietOf (textMany : Int32) (base : Int32) (at_ : Int32) (ends : Int32) (fault : Int32) (opened : Int32) (rowMany : Int32) (taller : Int32) (tallerBy : Int32) (height : Nat → Int32) (tape : Nat → Int32) (text : Nat → Int32) (names : Nat → Int32) (row : Nat → Int32) : Option (Int32 × Int32 × Int32 × Int32 × Int32 × Int32 × (Nat → Int32)) := (zb7 (f_M_disquietOf_L4 textMany rowMany taller tallerBy height tape text row FU base at_ ends fault opened names 0 0) fun base_9 at__10 ends_11 fault_12 opened_13 names_14 v1_15 => (some (v1_15, base_9, at__10, ends_11, fault_12, opened_13, names_14)))
set_option maxRecDepth 100000 in
set_option maxHeartbeats 4000000 in
theorem l_M_disquietOf_4 {X : zX} (G : zG) (a_this : Nat) (a_height : Nat) (a_changeAt : Nat) (a_changeWas : Nat) (a_changeIs : Nat) (a_tape : Nat) (a_text : Nat) (a_names : Nat) (a_line : Nat) (a_row : Nat) (a_pastMany : Nat) (a_past : Nat) (a_changed : Nat) (a_greatest : Nat) (a_numbersWere : Nat) (a_told : Nat) (a_waysOf : Nat) (a_waysWere : Nat) (a_blocks : Nat) (a_ordersOf : Nat) (a_imageLine : Nat) (a_bodyKind : Nat) (a_trace : Nat) (a_shelf : Nat) (a_many : Nat) (a_items : Nat) (a_carried : Nat) (people : Int32) (keptMany : Int32) (done : Int32) (tapeMany : Int32) (textMany : Int32) (lineMany : Int32) (rowMany : Int32) (taller : Int32) (tallerBy : Int32) (pasts : Int32) (isKept : Int32) (imageMany : Int32) (bodies : Int32) (ran : Int32) (ownKind : Int32) (ownNumber : Int32) (height : Nat → Int32) (tape : Nat → Int32) (text : Nat → Int32) (row : Nat → Int32) {v0 : Option Value} {w0 : va_W} (F : zF X G cX12_disquietOf RX12 3 (some .int) 152 3533 v0 w0) (e_base : Int32) (e_at_ : Int32) (e_ends : Int32) (e_fault : Int32) (e_opened : Int32) (e_names : Nat → Int32) (e_v1 : Int32) (hk : Z X G 3 (w_M_disquietOf G a_this a_height a_changeAt a_changeWas a_changeIs a_tape a_text a_names a_line a_row a_pastMany a_past a_changed a_greatest a_numbersWere a_told a_waysOf a_waysWere a_blocks a_ordersOf a_imageLine a_bodyKind a_trace a_shelf a_many a_items a_carried people keptMany done tapeMany textMany e_base e_at_ e_ends e_fault e_opened lineMany rowMany taller tallerBy pasts isKept imageMany bodies ran ownKind ownNumber height tape text e_names row) [(1, .int e_v1)] 26 []) :
    ∀ (fuel : Nat) (base : Int32) (at_ : Int32) (ends : Int32) (fault : Int32) (opened : Int32) (names : Nat → Int32) (v1 : Int32) (v2 : Int32), f_M_disquietOf_L4 textMany rowMany taller tallerBy height tape text row fuel base at_ ends fault opened names v1 v2 = some (e_base, e_at_, e_ends, e_fault, e_opened, e_names, e_v1) → Z X G 3 (w_M_disquietOf G a_this a_height a_changeAt a_changeWas a_changeIs a_tape a_text a_names a_line a_row a_pastMany a_past a_changed a_greatest a_numbersWere a_told a_waysOf a_waysWere a_blocks a_ordersOf a_imageLine a_bodyKind a_trace a_shelf a_many a_items a_carried people keptMany done tapeMany textMany base at_ ends fault opened lineMany rowMany taller tallerBy pasts isKept imageMany bodies ran ownKind ownNumber height tape text names row) [(0, .ref a_this), (1, .int v1), (2, .int v2)] 4 [] := by
  intro fuel
  induction fuel with
  | zero => intro base at_ ends fault opened names v1 v2 hf; exact absurd ((f_M_disquietOf_L4.eq_1 ..).symm.trans hf) (fun h => by cases h)
  | succ fuel ih =>
    intro base at_ ends fault opened names v1 v2 hf
    replace hf := (f_M_disquietOf_L4.eq_2 ..).symm.trans hf
    refine z_iload_n F 2 dX12_disquietOf_4 rfl rfl ?_
    refine z_aload_n F 0 dX12_disquietOf_5 rfl rfl ?_
    refine z_get F 0 12 20 inlX12 rfl rfl (by decide) fl_X12_184 rfl dX12_disquietOf_6 ?_
    refine z_icmp_ge F 26 dX12_disquietOf_9 (by decide) hf (fun hf _ => ?_) (fun hf _ => ?_)
    · have eq1 := Option.some.inj hf
      obtain ⟨ee1, eq2⟩ := Prod.mk.inj eq1
      obtain ⟨ee2, eq3⟩ := Prod.mk.inj eq2
      obtain ⟨ee3, eq4⟩ := Prod.mk.inj eq3
      obtain ⟨ee4, eq5⟩ := Prod.mk.inj eq4
      obtain ⟨ee5, eq6⟩ := Prod.mk.inj eq5
      obtain ⟨ee6, ee7⟩ := Prod.mk.inj eq6
      subst ee1
      subst ee2
      subst ee3
      subst ee4
      subst ee5
      subst ee6
      subst ee7
      exact z_sub [1] rfl hk
    · refine z_iload_n F 1 dX12_disquietOf_12 rfl rfl ?_
      refine z_aload_n F 0 dX12_disquietOf_13 rfl rfl ?_
      refine z_iload_n F 2 dX12_disquietOf_14 rfl rfl ?_
      obtain ⟨r_1, base_2, at__3, ends_4, fault_5, opened_6, names_7, hg, hf⟩ := zb7_some hf
      refine z_callVm (rest := [.int v1]) F 12 (c_M_numberAt (xL X) G a_this a_height a_changeAt a_changeWas a_changeIs a_tape a_text a_names a_line a_row a_pastMany a_past a_changed a_greatest a_numbersWere a_told a_waysOf a_waysWere a_blocks a_ordersOf a_imageLine a_bodyKind a_trace a_shelf a_many a_items a_carried people keptMany done tapeMany textMany base at_ ends fault opened lineMany rowMany taller tallerBy pasts isKept imageMany bodies ran ownKind ownNumber height tape text names row v2 r_1 base_2 at__3 ends_4 fault_5 opened_6 names_7 hg) hy_X12_numberAt ml_X12_200 hd_X12_numberAt ⟨by omega, by omega⟩ rfl [0, 1, 2, 3, 4, 5] rfl rfl 0 rfl rfl (w_M_disquietOf G a_this a_height a_changeAt a_changeWas a_changeIs a_tape a_text a_names a_line a_row a_pastMany a_past a_changed a_greatest a_numbersWere a_told a_waysOf a_waysWere a_blocks a_ordersOf a_imageLine a_bodyKind a_trace a_shelf a_many a_items a_carried people keptMany done tapeMany textMany base_2 at__3 ends_4 fault_5 opened_6 lineMany rowMany taller tallerBy pasts isKept imageMany bodies ran ownKind ownNumber height tape text names_7 row) [some 0, some 1, some 2, some 3, some 4, some 5] rfl (by decide +kernel) rfl rfl (Nat.le_of_ble_eq_true rfl) dX12_disquietOf_15 (fun hz_8 => ?_)
      refine z_iadd F dX12_disquietOf_18 ?_
      refine z_istore_n F [(1, .int (v1 + r_1)), (0, .ref a_this), (2, .int v2)] dX12_disquietOf_19 rfl (by decide) rfl ?_
      refine z_iinc F [(2, .int (v2 + 1)), (1, .int (v1 + r_1)), (0, .ref a_this)] dX12_disquietOf_20 2 rfl rfl (by decide) rfl ?_
      refine z_goto F 4 dX12_disquietOf_23 (by decide) ?_
      exact z_sub [2, 1, 0] rfl (ih base_2 at__3 ends_4 fault_5 opened_6 names_7 (v1 + r_1) (v2 + 1) hf)

set_option maxRecDepth 100000 in
set_option maxHeartbeats 4000000 in
theorem c_M_disquietOf (l : Launch) (G : zG) (a_this : Nat) (a_height : Nat) (a_changeAt : Nat) (a_changeWas : Nat) (a_changeIs : Nat) (a_tape : Nat) (a_text : Nat) (a_names : Nat) (a_line : Nat) (a_row : Nat) (a_pastMany : Nat) (a_past : Nat) (a_changed : Nat) (a_greatest : Nat) (a_numbersWere : Nat) (a_told : Nat) (a_waysOf : Nat) (a_waysWere : Nat) (a_blocks : Nat) (a_ordersOf : Nat) (a_imageLine : Nat) (a_bodyKind : Nat) (a_trace : Nat) (a_shelf : Nat) (a_many : Nat) (a_items : Nat) (a_carried : Nat) (people : Int32) (keptMany : Int32) (done : Int32) (tapeMany : Int32) (textMany : Int32) (base : Int32) (at_ : Int32) (ends : Int32) (fault : Int32) (opened : Int32) (lineMany : Int32) (rowMany : Int32) (taller : Int32) (tallerBy : Int32) (pasts : Int32) (isKept : Int32) (imageMany : Int32) (bodies : Int32) (ran : Int32) (ownKind : Int32) (ownNumber : Int32) (height : Nat → Int32) (tape : Nat → Int32) (text : Nat → Int32) (names : Nat → Int32) (row : Nat → Int32) (r_ : Int32) (o_base : Int32) (o_at_ : Int32) (o_ends : Int32) (o_fault : Int32) (o_opened : Int32) (o_names : Nat → Int32) (hf : f_M_disquietOf textMany base at_ ends fault opened rowMany taller tallerBy height tape text names row = some (r_, o_base, o_at_, o_ends, o_fault, o_opened, o_names)) : zM l yX12_disquietOf cX12_disquietOf 3 (some .int) 152 3533 G [.ref a_this] (w_M_disquietOf G a_this a_height a_changeAt a_changeWas a_changeIs a_tape a_text a_names a_line a_row a_pastMany a_past a_changed a_greatest a_numbersWere a_told a_waysOf a_waysWere a_blocks a_ordersOf a_imageLine a_bodyKind a_trace a_shelf a_many a_items a_carried people keptMany done tapeMany textMany base at_ ends fault opened lineMany rowMany taller tallerBy pasts isKept imageMany bodies ran ownKind ownNumber height tape text names row) (some (.int r_)) (w_M_disquietOf G a_this a_height a_changeAt a_changeWas a_changeIs a_tape a_text a_names a_line a_row a_pastMany a_past a_changed a_greatest a_numbersWere a_told a_waysOf a_waysWere a_blocks a_ordersOf a_imageLine a_bodyKind a_trace a_shelf a_many a_items a_carried people keptMany done tapeMany textMany o_base o_at_ o_ends o_fault o_opened lineMany rowMany taller tallerBy pasts isKept imageMany bodies ran ownKind ownNumber height tape text o_names row) := by
  refine zM.of [(0, .ref a_this)] (own := RX12) rfl (by decide +kernel) (Nat.le_of_ble_eq_true rfl) rfl rfl fun X hX F => ?_
  subst hX
  replace hf := (f_M_disquietOf.eq_1 ..).symm.trans hf
  refine z_iconst F (0) dX12_disquietOf_0 rfl ?_
  refine z_istore_n F [(1, .int 0), (0, .ref a_this)] dX12_disquietOf_1 rfl (by decide) rfl ?_
  refine z_iconst F (0) dX12_disquietOf_2 rfl ?_
  refine z_istore_n F [(2, .int 0), (1, .int 0), (0, .ref a_this)] dX12_disquietOf_3 rfl (by decide) rfl ?_
  obtain ⟨base_9, at__10, ends_11, fault_12, opened_13, names_14, v1_15, hg, hf⟩ := zb7_some hf
  refine z_sub [2, 1, 0] rfl ?_
  refine l_M_disquietOf_4 G a_this a_height a_changeAt a_changeWas a_changeIs a_tape a_text a_names a_line a_row a_pastMany a_past a_changed a_greatest a_numbersWere a_told a_waysOf a_waysWere a_blocks a_ordersOf a_imageLine a_bodyKind a_trace a_shelf a_many a_items a_carried people keptMany done tapeMany textMany lineMany rowMany taller tallerBy pasts isKept imageMany bodies ran ownKind ownNumber height tape text row F base_9 at__10 ends_11 fault_12 opened_13 names_14 v1_15 ?_ FU base at_ ends fault opened names 0 0 hg
  refine z_iload_n F 0 dX12_disquietOf_26 rfl rfl ?_
  have eq1 := Option.some.inj hf
  obtain ⟨ee1, eq2⟩ := Prod.mk.inj eq1
  obtain ⟨ee2, eq3⟩ := Prod.mk.inj eq2
  obtain ⟨ee3, eq4⟩ := Prod.mk.inj eq3
  obtain ⟨ee4, eq5⟩ := Prod.mk.inj eq4
  obtain ⟨ee5, eq6⟩ := Prod.mk.inj eq5
  obtain ⟨ee6, ee7⟩ := Prod.mk.inj eq6
  subst ee1
  subst ee2
  subst ee3
  subst ee4
  subst ee5
  subst ee6
  subst ee7
  exact z_iret F rfl rfl rfl rfl dX12_disquietOf_27

abbrev w_M_disquietNow (G : zG) (a_this : Nat) (a_height : Nat) (a_changeAt : Nat) (a_changeWas : Nat) (a_changeIs : Nat) (a_tape : Nat) (a_text : Nat) (a_names : Nat) (a_line : Nat) (a_row : Nat) (a_pastMany : Nat) (a_past : Nat) (a_changed : Nat) (a_greatest : Nat) (a_numbersWere : Nat) (a_told : Nat) (a_waysOf : Nat) (a_waysWere : Nat) (a_blocks : Nat) (a_ordersOf : Nat) (a_imageLine : Nat) (a_bodyKind : Nat) (a_trace : Nat) (a_shelf : Nat) (a_many : Nat) (a_items : Nat) (a_carried : Nat) (people : Int32) (keptMany : Int32) (done : Int32) (tapeMany : Int32) (textMany : Int32) (base : Int32) (at_ : Int32) (ends : Int32) (fault : Int32) (opened : Int32) (lineMany : Int32) (rowMany : Int32) (taller : Int32) (tallerBy : Int32) (pasts : Int32) (isKept : Int32) (imageMany : Int32) (bodies : Int32) (ran : Int32) (ownKind : Int32) (ownNumber : Int32) (height : Nat → Int32) (tape : Nat → Int32) (text : Nat → Int32) (names : Nat → Int32) (line : Nat → Int32) (row : Nat → Int32) : va_W := [(a_this, cO 12 [.int people, .ref a_height, .ref a_changeAt, .ref a_changeWas, .ref a_changeIs, .int keptMany, .int done, .ref a_tape, .int tapeMany, .ref a_text, .int textMany, .int base, .int at_, .int ends, .int fault, .int opened, .ref a_names, .ref a_line, .int lineMany, .ref a_row, .int rowMany, .int taller, .int tallerBy, .ref a_pastMany, .ref a_past, .int pasts, .ref a_changed, .ref a_greatest, .ref a_numbersWere, .ref a_told, .ref a_waysOf, .ref a_waysWere, .ref a_blocks, .ref a_ordersOf, .int isKept, .int imageMany, .ref a_imageLine, .int bodies, .ref a_bodyKind, .ref a_trace, .int ran, .int ownKind, .int ownNumber, .ref a_shelf, .ref a_many, .ref a_items, .ref a_carried]), (a_height, cI G 9 height), (a_tape, cI G 120 tape), (a_text, cI G 120 text), (a_names, cI G 5 names), (a_line, cI G 9 line), (a_row, cI G 9 row)]
def f_M_disquietNow (textMany : Int32) (base : Int32) (at_ : Int32) (ends : Int32) (fault : Int32) (opened : Int32) (lineMany : Int32) (rowMany : Int32) (taller : Int32) (tallerBy : Int32) (height : Nat → Int32) (tape : Nat → Int32) (text : Nat → Int32) (names : Nat → Int32) (line : Nat → Int32) (row : Nat → Int32) : Option (Int32 × Int32 × Int32 × Int32 × Int32 × Int32 × Int32 × Int32 × (Nat → Int32) × (Nat → Int32)) := (zb3 (f_M_laysOut lineMany rowMany taller line row) fun rowMany_1 taller_2 row_3 => (zb7 (f_M_disquietOf textMany base at_ ends fault opened rowMany_1 taller_2 tallerBy height tape text names row_3) fun r_5 base_6 at__7 ends_8 fault_9 opened_10 names_11 => (some (r_5, base_6, at__7, ends_8, fault_9, opened_10, rowMany_1, taller_2, names_11, row_3))))
set_option maxRecDepth 100000 in
set_option maxHeartbeats 4000000 in
theorem c_M_disquietNow (l : Launch) (G : zG) (a_this : Nat) (a_height : Nat) (a_changeAt : Nat) (a_changeWas : Nat) (a_changeIs : Nat) (a_tape : Nat) (a_text : Nat) (a_names : Nat) (a_line : Nat) (a_row : Nat) (a_pastMany : Nat) (a_past : Nat) (a_changed : Nat) (a_greatest : Nat) (a_numbersWere : Nat) (a_told : Nat) (a_waysOf : Nat) (a_waysWere : Nat) (a_blocks : Nat) (a_ordersOf : Nat) (a_imageLine : Nat) (a_bodyKind : Nat) (a_trace : Nat) (a_shelf : Nat) (a_many : Nat) (a_items : Nat) (a_carried : Nat) (people : Int32) (keptMany : Int32) (done : Int32) (tapeMany : Int32) (textMany : Int32) (base : Int32) (at_ : Int32) (ends : Int32) (fault : Int32) (opened : Int32) (lineMany : Int32) (rowMany : Int32) (taller : Int32) (tallerBy : Int32) (pasts : Int32) (isKept : Int32) (imageMany : Int32) (bodies : Int32) (ran : Int32) (ownKind : Int32) (ownNumber : Int32) (height : Nat → Int32) (tape : Nat → Int32) (text : Nat → Int32) (names : Nat → Int32) (line : Nat → Int32) (row : Nat → Int32) (r_ : Int32) (o_base : Int32) (o_at_ : Int32) (o_ends : Int32) (o_fault : Int32) (o_opened : Int32) (o_rowMany : Int32) (o_taller : Int32) (o_names : Nat → Int32) (o_row : Nat → Int32) (hf : f_M_disquietNow textMany base at_ ends fault opened lineMany rowMany taller tallerBy height tape text names line row = some (r_, o_base, o_at_, o_ends, o_fault, o_opened, o_rowMany, o_taller, o_names, o_row)) : zM l yX12_disquietNow cX12_disquietNow 1 (some .int) 153 3555 G [.ref a_this] (w_M_disquietNow G a_this a_height a_changeAt a_changeWas a_changeIs a_tape a_text a_names a_line a_row a_pastMany a_past a_changed a_greatest a_numbersWere a_told a_waysOf a_waysWere a_blocks a_ordersOf a_imageLine a_bodyKind a_trace a_shelf a_many a_items a_carried people keptMany done tapeMany textMany base at_ ends fault opened lineMany rowMany taller tallerBy pasts isKept imageMany bodies ran ownKind ownNumber height tape text names line row) (some (.int r_)) (w_M_disquietNow G a_this a_height a_changeAt a_changeWas a_changeIs a_tape a_text a_names a_line a_row a_pastMany a_past a_changed a_greatest a_numbersWere a_told a_waysOf a_waysWere a_blocks a_ordersOf a_imageLine a_bodyKind a_trace a_shelf a_many a_items a_carried people keptMany done tapeMany textMany o_base o_at_ o_ends o_fault o_opened lineMany o_rowMany o_taller tallerBy pasts isKept imageMany bodies ran ownKind ownNumber height tape text o_names line o_row) := by
  refine zM.of [(0, .ref a_this)] (own := RX12) rfl (by decide +kernel) (Nat.le_of_ble_eq_true rfl) rfl rfl fun X hX F => ?_
  subst hX
  replace hf := (f_M_disquietNow.eq_1 ..).symm.trans hf
  refine z_aload_n F 0 dX12_disquietNow_0 rfl rfl ?_
  obtain ⟨rowMany_1, taller_2, row_3, hg, hf⟩ := zb3_some hf
  refine z_callVm (rest := []) F 12 (c_M_laysOut (xL X) G a_this a_height a_changeAt a_changeWas a_changeIs a_tape a_text a_names a_line a_row a_pastMany a_past a_changed a_greatest a_numbersWere a_told a_waysOf a_waysWere a_blocks a_ordersOf a_imageLine a_bodyKind a_trace a_shelf a_many a_items a_carried people keptMany done tapeMany textMany base at_ ends fault opened lineMany rowMany taller tallerBy pasts isKept imageMany bodies ran ownKind ownNumber line row rowMany_1 taller_2 row_3 hg) hy_X12_laysOut ml_X12_203 hd_X12_laysOut ⟨by omega, by omega⟩ rfl [0, 5, 6] rfl rfl 0 rfl rfl (w_M_disquietNow G a_this a_height a_changeAt a_changeWas a_changeIs a_tape a_text a_names a_line a_row a_pastMany a_past a_changed a_greatest a_numbersWere a_told a_waysOf a_waysWere a_blocks a_ordersOf a_imageLine a_bodyKind a_trace a_shelf a_many a_items a_carried people keptMany done tapeMany textMany base at_ ends fault opened lineMany rowMany_1 taller_2 tallerBy pasts isKept imageMany bodies ran ownKind ownNumber height tape text names line row_3) [some 0, none, none, none, none, some 1, some 2] rfl (by decide +kernel) rfl rfl (Nat.le_of_ble_eq_true rfl) dX12_disquietNow_1 (fun hz_4 => ?_)
  refine z_aload_n F 0 dX12_disquietNow_4 rfl rfl ?_
  obtain ⟨r_5, base_6, at__7, ends_8, fault_9, opened_10, names_11, hg, hf⟩ := zb7_some hf
  refine z_callVm (rest := []) F 12 (c_M_disquietOf (xL X) G a_this a_height a_changeAt a_changeWas a_changeIs a_tape a_text a_names a_line a_row a_pastMany a_past a_changed a_greatest a_numbersWere a_told a_waysOf a_waysWere a_blocks a_ordersOf a_imageLine a_bodyKind a_trace a_shelf a_many a_items a_carried people keptMany done tapeMany textMany base at_ ends fault opened lineMany rowMany_1 taller_2 tallerBy pasts isKept imageMany bodies ran ownKind ownNumber height tape text names row_3 r_5 base_6 at__7 ends_8 fault_9 opened_10 names_11 hg) hy_X12_disquietOf ml_X12_206 hd_X12_disquietOf ⟨by omega, by omega⟩ rfl [0, 1, 2, 3, 4, 6] rfl rfl 0 rfl rfl (w_M_disquietNow G a_this a_height a_changeAt a_changeWas a_changeIs a_tape a_text a_names a_line a_row a_pastMany a_past a_changed a_greatest a_numbersWere a_told a_waysOf a_waysWere a_blocks a_ordersOf a_imageLine a_bodyKind a_trace a_shelf a_many a_items a_carried people keptMany done tapeMany textMany base_6 at__7 ends_8 fault_9 opened_10 lineMany rowMany_1 taller_2 tallerBy pasts isKept imageMany bodies ran ownKind ownNumber height tape text names_11 line row_3) [some 0, some 1, some 2, some 3, some 4, none, some 5] rfl (by decide +kernel) rfl rfl (Nat.le_of_ble_eq_true rfl) dX12_disquietNow_5 (fun hz_12 => ?_)
  have eq1 := Option.some.inj hf
  obtain ⟨ee1, eq2⟩ := Prod.mk.inj eq1
  obtain ⟨ee2, eq3⟩ := Prod.mk.inj eq2
  obtain ⟨ee3, eq4⟩ := Prod.mk.inj eq3
  obtain ⟨ee4, eq5⟩ := Prod.mk.inj eq4
  obtain ⟨ee5, eq6⟩ := Prod.mk.inj eq5
  obtain ⟨ee6, eq7⟩ := Prod.mk.inj eq6
  obtain ⟨ee7, eq8⟩ := Prod.mk.inj eq7
  obtain ⟨ee8, eq9⟩ := Prod.mk.inj eq8
  obtain ⟨ee9, ee10⟩ := Prod.mk.inj eq9
  subst ee1
  subst ee2
  subst ee3
  subst ee4
  subst ee5
  subst ee6
  subst ee7
  subst ee8
  subst ee9
  subst ee10
  exact z_iret F rfl rfl rfl rfl dX12_disquietNow_8

abbrev w_M_plainNow (G : zG) (a_this : Nat) (a_height : Nat) (a_changeAt : Nat) (a_changeWas : Nat) (a_changeIs : Nat) (a_tape : Nat) (a_text : Nat) (a_names : Nat) (a_line : Nat) (a_row : Nat) (a_pastMany : Nat) (a_past : Nat) (a_changed : Nat) (a_greatest : Nat) (a_numbersWere : Nat) (a_told : Nat) (a_waysOf : Nat) (a_waysWere : Nat) (a_blocks : Nat) (a_ordersOf : Nat) (a_imageLine : Nat) (a_bodyKind : Nat) (a_trace : Nat) (a_shelf : Nat) (a_many : Nat) (a_items : Nat) (a_carried : Nat) (people : Int32) (keptMany : Int32) (done : Int32) (tapeMany : Int32) (textMany : Int32) (base : Int32) (at_ : Int32) (ends : Int32) (fault : Int32) (opened : Int32) (lineMany : Int32) (rowMany : Int32) (taller : Int32) (tallerBy : Int32) (pasts : Int32) (isKept : Int32) (imageMany : Int32) (bodies : Int32) (ran : Int32) (ownKind : Int32) (ownNumber : Int32) (height : Nat → Int32) (line : Nat → Int32) (row : Nat → Int32) : va_W := [(a_this, cO 12 [.int people, .ref a_height, .ref a_changeAt, .ref a_changeWas, .ref a_changeIs, .int keptMany, .int done, .ref a_tape, .int tapeMany, .ref a_text, .int textMany, .int base, .int at_, .int ends, .int fault, .int opened, .ref a_names, .ref a_line, .int lineMany, .ref a_row, .int rowMany, .int taller, .int tallerBy, .ref a_pastMany, .ref a_past, .int pasts, .ref a_changed, .ref a_greatest, .ref a_numbersWere, .ref a_told, .ref a_waysOf, .ref a_waysWere, .ref a_blocks, .ref a_ordersOf, .int isKept, .int imageMany, .ref a_imageLine, .int bodies, .ref a_bodyKind, .ref a_trace, .int ran, .int ownKind, .int ownNumber, .ref a_shelf, .ref a_many, .ref a_items, .ref a_carried]), (a_height, cI G 9 height), (a_line, cI G 9 line), (a_row, cI G 9 row)]
def f_M_plainNow_L8 (rowMany : Int32) (height : Nat → Int32) (row : Nat → Int32) : Nat → Int32 → Int32 → Option Int32
  | 0, _, _ => none
  | fuel + 1, v1, v2 => (if rowMany ≤ v2 then (some v1) else (zb1 (f_M_plainAt height row v2) fun r_5 => (f_M_plainNow_L8 rowMany height row fuel (v1 + r_5) (v2 + 1))))
def f_M_plainNow (lineMany : Int32) (rowMany : Int32) (taller : Int32) (height : Nat → Int32) (line : Nat → Int32) (row : Nat → Int32) : Option (Int32 × Int32 × Int32 × (Nat → Int32)) := (zb3 (f_M_laysOut lineMany rowMany taller line row) fun rowMany_1 taller_2 row_3 => (zb1 (f_M_plainNow_L8 rowMany_1 height row_3 FU 0 0) fun v1_7 => (some (v1_7, rowMany_1, taller_2, row_3))))
set_option maxRecDepth 100000 in
set_option maxHeartbeats 4000000 in
theorem l_M_plainNow_8 {X : zX} (G : zG) (a_this : Nat) (a_height : Nat) (a_changeAt : Nat) (a_changeWas : Nat) (a_changeIs : Nat) (a_tape : Nat) (a_text : Nat) (a_names : Nat) (a_line : Nat) (a_row : Nat) (a_pastMany : Nat) (a_past : Nat) (a_changed : Nat) (a_greatest : Nat) (a_numbersWere : Nat) (a_told : Nat) (a_waysOf : Nat) (a_waysWere : Nat) (a_blocks : Nat) (a_ordersOf : Nat) (a_imageLine : Nat) (a_bodyKind : Nat) (a_trace : Nat) (a_shelf : Nat) (a_many : Nat) (a_items : Nat) (a_carried : Nat) (people : Int32) (keptMany : Int32) (done : Int32) (tapeMany : Int32) (textMany : Int32) (base : Int32) (at_ : Int32) (ends : Int32) (fault : Int32) (opened : Int32) (lineMany : Int32) (rowMany : Int32) (taller : Int32) (tallerBy : Int32) (pasts : Int32) (isKept : Int32) (imageMany : Int32) (bodies : Int32) (ran : Int32) (ownKind : Int32) (ownNumber : Int32) (height : Nat → Int32) (line : Nat → Int32) (row : Nat → Int32) {v0 : Option Value} {w0 : va_W} (F : zF X G cX12_plainNow RX12 3 (some .int) 1 23 v0 w0) (e_v1 : Int32) (hk : Z X G 3 (w_M_plainNow G a_this a_height a_changeAt a_changeWas a_changeIs a_tape a_text a_names a_line a_row a_pastMany a_past a_changed a_greatest a_numbersWere a_told a_waysOf a_waysWere a_blocks a_ordersOf a_imageLine a_bodyKind a_trace a_shelf a_many a_items a_carried people keptMany done tapeMany textMany base at_ ends fault opened lineMany rowMany taller tallerBy pasts isKept imageMany bodies ran ownKind ownNumber height line row) [(1, .int e_v1)] 30 []) :
    ∀ (fuel : Nat) (v1 : Int32) (v2 : Int32), f_M_plainNow_L8 rowMany height row fuel v1 v2 = some e_v1 → Z X G 3 (w_M_plainNow G a_this a_height a_changeAt a_changeWas a_changeIs a_tape a_text a_names a_line a_row a_pastMany a_past a_changed a_greatest a_numbersWere a_told a_waysOf a_waysWere a_blocks a_ordersOf a_imageLine a_bodyKind a_trace a_shelf a_many a_items a_carried people keptMany done tapeMany textMany base at_ ends fault opened lineMany rowMany taller tallerBy pasts isKept imageMany bodies ran ownKind ownNumber height line row) [(0, .ref a_this), (1, .int v1), (2, .int v2)] 8 [] := by
  intro fuel
  induction fuel with
  | zero => intro v1 v2 hf; exact absurd ((f_M_plainNow_L8.eq_1 ..).symm.trans hf) (fun h => by cases h)
  | succ fuel ih =>
    intro v1 v2 hf
    replace hf := (f_M_plainNow_L8.eq_2 ..).symm.trans hf
    refine z_iload_n F 2 dX12_plainNow_8 rfl rfl ?_
    refine z_aload_n F 0 dX12_plainNow_9 rfl rfl ?_
    refine z_get F 0 12 20 inlX12 rfl rfl (by decide) fl_X12_184 rfl dX12_plainNow_10 ?_
    refine z_icmp_ge F 30 dX12_plainNow_13 (by decide) hf (fun hf _ => ?_) (fun hf _ => ?_)
    · have ee1 := Option.some.inj hf
      subst ee1
      exact z_sub [1] rfl hk
    · refine z_iload_n F 1 dX12_plainNow_16 rfl rfl ?_
      refine z_aload_n F 0 dX12_plainNow_17 rfl rfl ?_
      refine z_iload_n F 2 dX12_plainNow_18 rfl rfl ?_
      obtain ⟨r_5, hg, hf⟩ := zb1_some hf
      refine z_callVm (rest := [.int v1]) F 12 (c_M_plainAt (xL X) G a_this a_height a_changeAt a_changeWas a_changeIs a_tape a_text a_names a_line a_row a_pastMany a_past a_changed a_greatest a_numbersWere a_told a_waysOf a_waysWere a_blocks a_ordersOf a_imageLine a_bodyKind a_trace a_shelf a_many a_items a_carried people keptMany done tapeMany textMany base at_ ends fault opened lineMany rowMany taller tallerBy pasts isKept imageMany bodies ran ownKind ownNumber height row v2 r_5 hg) hy_X12_plainAt ml_X12_209 hd_X12_plainAt ⟨by omega, by omega⟩ rfl [0, 1, 3] rfl rfl 0 rfl rfl (w_M_plainNow G a_this a_height a_changeAt a_changeWas a_changeIs a_tape a_text a_names a_line a_row a_pastMany a_past a_changed a_greatest a_numbersWere a_told a_waysOf a_waysWere a_blocks a_ordersOf a_imageLine a_bodyKind a_trace a_shelf a_many a_items a_carried people keptMany done tapeMany textMany base at_ ends fault opened lineMany rowMany taller tallerBy pasts isKept imageMany bodies ran ownKind ownNumber height line row) [some 0, some 1, none, some 2] rfl (by decide +kernel) rfl rfl (Nat.le_of_ble_eq_true rfl) dX12_plainNow_19 (fun hz_6 => ?_)
      refine z_iadd F dX12_plainNow_22 ?_
      refine z_istore_n F [(1, .int (v1 + r_5)), (0, .ref a_this), (2, .int v2)] dX12_plainNow_23 rfl (by decide) rfl ?_
      refine z_iinc F [(2, .int (v2 + 1)), (1, .int (v1 + r_5)), (0, .ref a_this)] dX12_plainNow_24 2 rfl rfl (by decide) rfl ?_
      refine z_goto F 8 dX12_plainNow_27 (by decide) ?_
      exact z_sub [2, 1, 0] rfl (ih (v1 + r_5) (v2 + 1) hf)

set_option maxRecDepth 100000 in
set_option maxHeartbeats 4000000 in
theorem c_M_plainNow (l : Launch) (G : zG) (a_this : Nat) (a_height : Nat) (a_changeAt : Nat) (a_changeWas : Nat) (a_changeIs : Nat) (a_tape : Nat) (a_text : Nat) (a_names : Nat) (a_line : Nat) (a_row : Nat) (a_pastMany : Nat) (a_past : Nat) (a_changed : Nat) (a_greatest : Nat) (a_numbersWere : Nat) (a_told : Nat) (a_waysOf : Nat) (a_waysWere : Nat) (a_blocks : Nat) (a_ordersOf : Nat) (a_imageLine : Nat) (a_bodyKind : Nat) (a_trace : Nat) (a_shelf : Nat) (a_many : Nat) (a_items : Nat) (a_carried : Nat) (people : Int32) (keptMany : Int32) (done : Int32) (tapeMany : Int32) (textMany : Int32) (base : Int32) (at_ : Int32) (ends : Int32) (fault : Int32) (opened : Int32) (lineMany : Int32) (rowMany : Int32) (taller : Int32) (tallerBy : Int32) (pasts : Int32) (isKept : Int32) (imageMany : Int32) (bodies : Int32) (ran : Int32) (ownKind : Int32) (ownNumber : Int32) (height : Nat → Int32) (line : Nat → Int32) (row : Nat → Int32) (r_ : Int32) (o_rowMany : Int32) (o_taller : Int32) (o_row : Nat → Int32) (hf : f_M_plainNow lineMany rowMany taller height line row = some (r_, o_rowMany, o_taller, o_row)) : zM l yX12_plainNow cX12_plainNow 3 (some .int) 1 23 G [.ref a_this] (w_M_plainNow G a_this a_height a_changeAt a_changeWas a_changeIs a_tape a_text a_names a_line a_row a_pastMany a_past a_changed a_greatest a_numbersWere a_told a_waysOf a_waysWere a_blocks a_ordersOf a_imageLine a_bodyKind a_trace a_shelf a_many a_items a_carried people keptMany done tapeMany textMany base at_ ends fault opened lineMany rowMany taller tallerBy pasts isKept imageMany bodies ran ownKind ownNumber height line row) (some (.int r_)) (w_M_plainNow G a_this a_height a_changeAt a_changeWas a_changeIs a_tape a_text a_names a_line a_row a_pastMany a_past a_changed a_greatest a_numbersWere a_told a_waysOf a_waysWere a_blocks a_ordersOf a_imageLine a_bodyKind a_trace a_shelf a_many a_items a_carried people keptMany done tapeMany textMany base at_ ends fault opened lineMany o_rowMany o_taller tallerBy pasts isKept imageMany bodies ran ownKind ownNumber height line o_row) := by
  refine zM.of [(0, .ref a_this)] (own := RX12) rfl (by decide +kernel) (Nat.le_of_ble_eq_true rfl) rfl rfl fun X hX F => ?_
  subst hX
  replace hf := (f_M_plainNow.eq_1 ..).symm.trans hf
  refine z_aload_n F 0 dX12_plainNow_0 rfl rfl ?_
  obtain ⟨rowMany_1, taller_2, row_3, hg, hf⟩ := zb3_some hf
  refine z_callVm (rest := []) F 12 (c_M_laysOut (xL X) G a_this a_height a_changeAt a_changeWas a_changeIs a_tape a_text a_names a_line a_row a_pastMany a_past a_changed a_greatest a_numbersWere a_told a_waysOf a_waysWere a_blocks a_ordersOf a_imageLine a_bodyKind a_trace a_shelf a_many a_items a_carried people keptMany done tapeMany textMany base at_ ends fault opened lineMany rowMany taller tallerBy pasts isKept imageMany bodies ran ownKind ownNumber line row rowMany_1 taller_2 row_3 hg) hy_X12_laysOut ml_X12_203 hd_X12_laysOut ⟨by omega, by omega⟩ rfl [0, 2, 3] rfl rfl 0 rfl rfl (w_M_plainNow G a_this a_height a_changeAt a_changeWas a_changeIs a_tape a_text a_names a_line a_row a_pastMany a_past a_changed a_greatest a_numbersWere a_told a_waysOf a_waysWere a_blocks a_ordersOf a_imageLine a_bodyKind a_trace a_shelf a_many a_items a_carried people keptMany done tapeMany textMany base at_ ends fault opened lineMany rowMany_1 taller_2 tallerBy pasts isKept imageMany bodies ran ownKind ownNumber height line row_3) [some 0, none, some 1, some 2] rfl (by decide +kernel) rfl rfl (Nat.le_of_ble_eq_true rfl) dX12_plainNow_1 (fun hz_4 => ?_)
  refine z_iconst F (0) dX12_plainNow_4 rfl ?_
  refine z_istore_n F [(1, .int 0), (0, .ref a_this)] dX12_plainNow_5 rfl (by decide) rfl ?_
  refine z_iconst F (0) dX12_plainNow_6 rfl ?_
  refine z_istore_n F [(2, .int 0), (1, .int 0), (0, .ref a_this)] dX12_plainNow_7 rfl (by decide) rfl ?_
  obtain ⟨v1_7, hg, hf⟩ := zb1_some hf
  refine z_sub [2, 1, 0] rfl ?_
  refine l_M_plainNow_8 G a_this a_height a_changeAt a_changeWas a_changeIs a_tape a_text a_names a_line a_row a_pastMany a_past a_changed a_greatest a_numbersWere a_told a_waysOf a_waysWere a_blocks a_ordersOf a_imageLine a_bodyKind a_trace a_shelf a_many a_items a_carried people keptMany done tapeMany textMany base at_ ends fault opened lineMany rowMany_1 taller_2 tallerBy pasts isKept imageMany bodies ran ownKind ownNumber height line row_3 F v1_7 ?_ FU 0 0 hg
  refine z_iload_n F 0 dX12_plainNow_30 rfl rfl ?_
  have eq1 := Option.some.inj hf
  obtain ⟨ee1, eq2⟩ := Prod.mk.inj eq1
  obtain ⟨ee2, eq3⟩ := Prod.mk.inj eq2
  obtain ⟨ee3, ee4⟩ := Prod.mk.inj eq3
  subst ee1
  subst ee2
  subst ee3
  subst ee4
  exact z_iret F rfl rfl rfl rfl dX12_plainNow_31

abbrev w_M_takesOut (G : zG) (a_this : Nat) (a_height : Nat) (a_changeAt : Nat) (a_changeWas : Nat) (a_changeIs : Nat) (a_tape : Nat) (a_text : Nat) (a_names : Nat) (a_line : Nat) (a_row : Nat) (a_pastMany : Nat) (a_past : Nat) (a_changed : Nat) (a_greatest : Nat) (a_numbersWere : Nat) (a_told : Nat) (a_waysOf : Nat) (a_waysWere : Nat) (a_blocks : Nat) (a_ordersOf : Nat) (a_imageLine : Nat) (a_bodyKind : Nat) (a_trace : Nat) (a_shelf : Nat) (a_many : Nat) (a_items : Nat) (a_carried : Nat) (people : Int32) (keptMany : Int32) (done : Int32) (tapeMany : Int32) (textMany : Int32) (base : Int32) (at_ : Int32) (ends : Int32) (fault : Int32) (opened : Int32) (lineMany : Int32) (rowMany : Int32) (taller : Int32) (tallerBy : Int32) (pasts : Int32) (isKept : Int32) (imageMany : Int32) (bodies : Int32) (ran : Int32) (ownKind : Int32) (ownNumber : Int32) (row : Nat → Int32) : va_W := [(a_this, cO 12 [.int people, .ref a_height, .ref a_changeAt, .ref a_changeWas, .ref a_changeIs, .int keptMany, .int done, .ref a_tape, .int tapeMany, .ref a_text, .int textMany, .int base, .int at_, .int ends, .int fault, .int opened, .ref a_names, .ref a_line, .int lineMany, .ref a_row, .int rowMany, .int taller, .int tallerBy, .ref a_pastMany, .ref a_past, .int pasts, .ref a_changed, .ref a_greatest, .ref a_numbersWere, .ref a_told, .ref a_waysOf, .ref a_waysWere, .ref a_blocks, .ref a_ordersOf, .int isKept, .int imageMany, .ref a_imageLine, .int bodies, .ref a_bodyKind, .ref a_trace, .int ran, .int ownKind, .int ownNumber, .ref a_shelf, .ref a_many, .ref a_items, .ref a_carried]), (a_row, cI G 9 row)]
def f_M_takesOut_L12 (rowMany : Int32) : Nat → (Nat → Int32) → Int32 → Option ((Nat → Int32))
  | 0, _, _ => none
  | fuel + 1, row, v2 => (if rowMany ≤ v2 then (some row) else (zg row 9 (v2 + (1 : Int32)) fun v_1 => (zs row 9 v2 v_1 fun row_2 => (f_M_takesOut_L12 rowMany fuel row_2 (v2 + 1)))))
def f_M_takesOut (rowMany : Int32) (row : Nat → Int32) (x1 : Int32) : Option (Int32 × (Nat → Int32)) := (zb1 (f_M_takesOut_L12 (rowMany - (1 : Int32)) FU row x1) fun row_3 => (some ((rowMany - (1 : Int32)), row_3)))
set_option maxRecDepth 100000 in
set_option maxHeartbeats 4000000 in
theorem l_M_takesOut_12 {X : zX} (G : zG) (a_this : Nat) (a_height : Nat) (a_changeAt : Nat) (a_changeWas : Nat) (a_changeIs : Nat) (a_tape : Nat) (a_text : Nat) (a_names : Nat) (a_line : Nat) (a_row : Nat) (a_pastMany : Nat) (a_past : Nat) (a_changed : Nat) (a_greatest : Nat) (a_numbersWere : Nat) (a_told : Nat) (a_waysOf : Nat) (a_waysWere : Nat) (a_blocks : Nat) (a_ordersOf : Nat) (a_imageLine : Nat) (a_bodyKind : Nat) (a_trace : Nat) (a_shelf : Nat) (a_many : Nat) (a_items : Nat) (a_carried : Nat) (people : Int32) (keptMany : Int32) (done : Int32) (tapeMany : Int32) (textMany : Int32) (base : Int32) (at_ : Int32) (ends : Int32) (fault : Int32) (opened : Int32) (lineMany : Int32) (rowMany : Int32) (taller : Int32) (tallerBy : Int32) (pasts : Int32) (isKept : Int32) (imageMany : Int32) (bodies : Int32) (ran : Int32) (ownKind : Int32) (ownNumber : Int32) {v0 : Option Value} {w0 : va_W} (F : zF X G cX12_takesOut RX12 3 none 0 0 v0 w0) (e_row : Nat → Int32) (hk : Z X G 3 (w_M_takesOut G a_this a_height a_changeAt a_changeWas a_changeIs a_tape a_text a_names a_line a_row a_pastMany a_past a_changed a_greatest a_numbersWere a_told a_waysOf a_waysWere a_blocks a_ordersOf a_imageLine a_bodyKind a_trace a_shelf a_many a_items a_carried people keptMany done tapeMany textMany base at_ ends fault opened lineMany rowMany taller tallerBy pasts isKept imageMany bodies ran ownKind ownNumber e_row) [] 40 []) :
    ∀ (fuel : Nat) (row : Nat → Int32) (v2 : Int32), f_M_takesOut_L12 rowMany fuel row v2 = some e_row → Z X G 3 (w_M_takesOut G a_this a_height a_changeAt a_changeWas a_changeIs a_tape a_text a_names a_line a_row a_pastMany a_past a_changed a_greatest a_numbersWere a_told a_waysOf a_waysWere a_blocks a_ordersOf a_imageLine a_bodyKind a_trace a_shelf a_many a_items a_carried people keptMany done tapeMany textMany base at_ ends fault opened lineMany rowMany taller tallerBy pasts isKept imageMany bodies ran ownKind ownNumber row) [(0, .ref a_this), (2, .int v2)] 12 [] := by
  intro fuel
  induction fuel with
  | zero => intro row v2 hf; exact absurd ((f_M_takesOut_L12.eq_1 ..).symm.trans hf) (fun h => by cases h)
  | succ fuel ih =>
    intro row v2 hf
    replace hf := (f_M_takesOut_L12.eq_2 ..).symm.trans hf
    refine z_iload_n F 1 dX12_takesOut_12 rfl rfl ?_
    refine z_aload_n F 0 dX12_takesOut_13 rfl rfl ?_
    refine z_get F 0 12 20 inlX12 rfl rfl (by decide) fl_X12_184 rfl dX12_takesOut_14 ?_
    refine z_icmp_ge F 40 dX12_takesOut_17 (by decide) hf (fun hf _ => ?_) (fun hf _ => ?_)
    · have ee1 := Option.some.inj hf
      subst ee1
      exact z_sub [] rfl hk
    · refine z_aload_n F 0 dX12_takesOut_20 rfl rfl ?_
      refine z_get F 0 12 19 inlX12 rfl rfl (by decide) fl_X12_34 rfl dX12_takesOut_21 ?_
      refine z_iload_n F 1 dX12_takesOut_24 rfl rfl ?_
      refine z_aload_n F 0 dX12_takesOut_25 rfl rfl ?_
      refine z_get F 0 12 19 inlX12 rfl rfl (by decide) fl_X12_34 rfl dX12_takesOut_26 ?_
      refine z_iload_n F 1 dX12_takesOut_29 rfl rfl ?_
      refine z_iconst F (1) dX12_takesOut_30 rfl ?_
      refine z_iadd F dX12_takesOut_31 ?_
      refine z_iald F 1 rfl hf dX12_takesOut_32 (fun v_1 hf => ?_)
      refine z_iast F 1 (fun row_2 => (w_M_takesOut G a_this a_height a_changeAt a_changeWas a_changeIs a_tape a_text a_names a_line a_row a_pastMany a_past a_changed a_greatest a_numbersWere a_told a_waysOf a_waysWere a_blocks a_ordersOf a_imageLine a_bodyKind a_trace a_shelf a_many a_items a_carried people keptMany done tapeMany textMany base at_ ends fault opened lineMany rowMany taller tallerBy pasts isKept imageMany bodies ran ownKind ownNumber row_2)) rfl hf (fun _ => rfl) dX12_takesOut_33 (fun row_2 hf => ?_)
      refine z_iinc F [(2, .int (v2 + 1)), (0, .ref a_this)] dX12_takesOut_34 1 rfl rfl (by decide) rfl ?_
      refine z_goto F 12 dX12_takesOut_37 (by decide) ?_
      exact z_sub [1, 0] rfl (ih row_2 (v2 + 1) hf)

set_option maxRecDepth 100000 in
set_option maxHeartbeats 4000000 in
theorem c_M_takesOut (l : Launch) (G : zG) (a_this : Nat) (a_height : Nat) (a_changeAt : Nat) (a_changeWas : Nat) (a_changeIs : Nat) (a_tape : Nat) (a_text : Nat) (a_names : Nat) (a_line : Nat) (a_row : Nat) (a_pastMany : Nat) (a_past : Nat) (a_changed : Nat) (a_greatest : Nat) (a_numbersWere : Nat) (a_told : Nat) (a_waysOf : Nat) (a_waysWere : Nat) (a_blocks : Nat) (a_ordersOf : Nat) (a_imageLine : Nat) (a_bodyKind : Nat) (a_trace : Nat) (a_shelf : Nat) (a_many : Nat) (a_items : Nat) (a_carried : Nat) (people : Int32) (keptMany : Int32) (done : Int32) (tapeMany : Int32) (textMany : Int32) (base : Int32) (at_ : Int32) (ends : Int32) (fault : Int32) (opened : Int32) (lineMany : Int32) (rowMany : Int32) (taller : Int32) (tallerBy : Int32) (pasts : Int32) (isKept : Int32) (imageMany : Int32) (bodies : Int32) (ran : Int32) (ownKind : Int32) (ownNumber : Int32) (row : Nat → Int32) (x1 : Int32) (o_rowMany : Int32) (o_row : Nat → Int32) (hf : f_M_takesOut rowMany row x1 = some (o_rowMany, o_row)) : zM l yX12_takesOut cX12_takesOut 3 none 0 0 G [.ref a_this, .int x1] (w_M_takesOut G a_this a_height a_changeAt a_changeWas a_changeIs a_tape a_text a_names a_line a_row a_pastMany a_past a_changed a_greatest a_numbersWere a_told a_waysOf a_waysWere a_blocks a_ordersOf a_imageLine a_bodyKind a_trace a_shelf a_many a_items a_carried people keptMany done tapeMany textMany base at_ ends fault opened lineMany rowMany taller tallerBy pasts isKept imageMany bodies ran ownKind ownNumber row) (none) (w_M_takesOut G a_this a_height a_changeAt a_changeWas a_changeIs a_tape a_text a_names a_line a_row a_pastMany a_past a_changed a_greatest a_numbersWere a_told a_waysOf a_waysWere a_blocks a_ordersOf a_imageLine a_bodyKind a_trace a_shelf a_many a_items a_carried people keptMany done tapeMany textMany base at_ ends fault opened lineMany o_rowMany taller tallerBy pasts isKept imageMany bodies ran ownKind ownNumber o_row) := by
  refine zM.of [(0, .ref a_this), (1, .int x1)] (own := RX12) rfl (by decide +kernel) (Nat.le_of_ble_eq_true rfl) rfl rfl fun X hX F => ?_
  subst hX
  replace hf := (f_M_takesOut.eq_1 ..).symm.trans hf
  refine z_aload_n F 0 dX12_takesOut_0 rfl rfl ?_
  refine z_dup F rfl dX12_takesOut_1 ?_
  refine z_get F 0 12 20 inlX12 rfl rfl (by decide) fl_X12_184 rfl dX12_takesOut_2 ?_
  refine z_iconst F (1) dX12_takesOut_5 rfl ?_
  refine z_isub F dX12_takesOut_6 ?_
  refine z_put F 0 12 20 (w_M_takesOut G a_this a_height a_changeAt a_changeWas a_changeIs a_tape a_text a_names a_line a_row a_pastMany a_past a_changed a_greatest a_numbersWere a_told a_waysOf a_waysWere a_blocks a_ordersOf a_imageLine a_bodyKind a_trace a_shelf a_many a_items a_carried people keptMany done tapeMany textMany base at_ ends fault opened lineMany (rowMany - (1 : Int32)) taller tallerBy pasts isKept imageMany bodies ran ownKind ownNumber row) inlX12 tyX12 tyX12_ok nmX12 rfl rfl (by decide) fl_X12_184 rfl rfl rfl (Nat.le_of_ble_eq_true rfl) rfl dX12_takesOut_7 ?_
  refine z_iload_n F 1 dX12_takesOut_10 rfl rfl ?_
  refine z_istore_n F [(2, .int x1), (0, .ref a_this), (1, .int x1)] dX12_takesOut_11 rfl (by decide) rfl ?_
  obtain ⟨row_3, hg, hf⟩ := zb1_some hf
  refine z_sub [1, 0] rfl ?_
  refine l_M_takesOut_12 G a_this a_height a_changeAt a_changeWas a_changeIs a_tape a_text a_names a_line a_row a_pastMany a_past a_changed a_greatest a_numbersWere a_told a_waysOf a_waysWere a_blocks a_ordersOf a_imageLine a_bodyKind a_trace a_shelf a_many a_items a_carried people keptMany done tapeMany textMany base at_ ends fault opened lineMany (rowMany - (1 : Int32)) taller tallerBy pasts isKept imageMany bodies ran ownKind ownNumber F row_3 ?_ FU row x1 hg
  have eq1 := Option.some.inj hf
  obtain ⟨ee1, ee2⟩ := Prod.mk.inj eq1
  subst ee1
  subst ee2
  exact z_vret F rfl rfl rfl dX12_takesOut_40

abbrev w_M_putsIn (G : zG) (a_this : Nat) (a_height : Nat) (a_changeAt : Nat) (a_changeWas : Nat) (a_changeIs : Nat) (a_tape : Nat) (a_text : Nat) (a_names : Nat) (a_line : Nat) (a_row : Nat) (a_pastMany : Nat) (a_past : Nat) (a_changed : Nat) (a_greatest : Nat) (a_numbersWere : Nat) (a_told : Nat) (a_waysOf : Nat) (a_waysWere : Nat) (a_blocks : Nat) (a_ordersOf : Nat) (a_imageLine : Nat) (a_bodyKind : Nat) (a_trace : Nat) (a_shelf : Nat) (a_many : Nat) (a_items : Nat) (a_carried : Nat) (people : Int32) (keptMany : Int32) (done : Int32) (tapeMany : Int32) (textMany : Int32) (base : Int32) (at_ : Int32) (ends : Int32) (fault : Int32) (opened : Int32) (lineMany : Int32) (rowMany : Int32) (taller : Int32) (tallerBy : Int32) (pasts : Int32) (isKept : Int32) (imageMany : Int32) (bodies : Int32) (ran : Int32) (ownKind : Int32) (ownNumber : Int32) (row : Nat → Int32) : va_W := [(a_this, cO 12 [.int people, .ref a_height, .ref a_changeAt, .ref a_changeWas, .ref a_changeIs, .int keptMany, .int done, .ref a_tape, .int tapeMany, .ref a_text, .int textMany, .int base, .int at_, .int ends, .int fault, .int opened, .ref a_names, .ref a_line, .int lineMany, .ref a_row, .int rowMany, .int taller, .int tallerBy, .ref a_pastMany, .ref a_past, .int pasts, .ref a_changed, .ref a_greatest, .ref a_numbersWere, .ref a_told, .ref a_waysOf, .ref a_waysWere, .ref a_blocks, .ref a_ordersOf, .int isKept, .int imageMany, .ref a_imageLine, .int bodies, .ref a_bodyKind, .ref a_trace, .int ran, .int ownKind, .int ownNumber, .ref a_shelf, .ref a_many, .ref a_items, .ref a_carried]), (a_row, cI G 9 row)]
def f_M_putsIn_L5 (v2 : Int32) : Nat → (Nat → Int32) → Int32 → Option ((Nat → Int32))
  | 0, _, _ => none
  | fuel + 1, row, v3 => (if v3 ≤ v2 then (some row) else (zg row 9 (v3 - (1 : Int32)) fun v_1 => (zs row 9 v3 v_1 fun row_2 => (f_M_putsIn_L5 v2 fuel row_2 (v3 + (-1))))))
def f_M_putsIn (rowMany : Int32) (row : Nat → Int32) (x1 : Int32) (x2 : Int32) : Option (Int32 × (Nat → Int32)) := (zb1 (f_M_putsIn_L5 x2 FU row rowMany) fun row_3 => (zs row_3 9 x2 x1 fun row_4 => (some ((rowMany + (1 : Int32)), row_4))))
set_option maxRecDepth 100000 in
set_option maxHeartbeats 4000000 in
theorem l_M_putsIn_5 {X : zX} (G : zG) (a_this : Nat) (a_height : Nat) (a_changeAt : Nat) (a_changeWas : Nat) (a_changeIs : Nat) (a_tape : Nat) (a_text : Nat) (a_names : Nat) (a_line : Nat) (a_row : Nat) (a_pastMany : Nat) (a_past : Nat) (a_changed : Nat) (a_greatest : Nat) (a_numbersWere : Nat) (a_told : Nat) (a_waysOf : Nat) (a_waysWere : Nat) (a_blocks : Nat) (a_ordersOf : Nat) (a_imageLine : Nat) (a_bodyKind : Nat) (a_trace : Nat) (a_shelf : Nat) (a_many : Nat) (a_items : Nat) (a_carried : Nat) (people : Int32) (keptMany : Int32) (done : Int32) (tapeMany : Int32) (textMany : Int32) (base : Int32) (at_ : Int32) (ends : Int32) (fault : Int32) (opened : Int32) (lineMany : Int32) (rowMany : Int32) (taller : Int32) (tallerBy : Int32) (pasts : Int32) (isKept : Int32) (imageMany : Int32) (bodies : Int32) (ran : Int32) (ownKind : Int32) (ownNumber : Int32) (v1 : Int32) (v2 : Int32) {v0 : Option Value} {w0 : va_W} (F : zF X G cX12_putsIn RX12 4 none 0 0 v0 w0) (e_row : Nat → Int32) (hk : Z X G 4 (w_M_putsIn G a_this a_height a_changeAt a_changeWas a_changeIs a_tape a_text a_names a_line a_row a_pastMany a_past a_changed a_greatest a_numbersWere a_told a_waysOf a_waysWere a_blocks a_ordersOf a_imageLine a_bodyKind a_trace a_shelf a_many a_items a_carried people keptMany done tapeMany textMany base at_ ends fault opened lineMany rowMany taller tallerBy pasts isKept imageMany bodies ran ownKind ownNumber e_row) [(0, .ref a_this), (1, .int v1), (2, .int v2)] 30 []) :
    ∀ (fuel : Nat) (row : Nat → Int32) (v3 : Int32), f_M_putsIn_L5 v2 fuel row v3 = some e_row → Z X G 4 (w_M_putsIn G a_this a_height a_changeAt a_changeWas a_changeIs a_tape a_text a_names a_line a_row a_pastMany a_past a_changed a_greatest a_numbersWere a_told a_waysOf a_waysWere a_blocks a_ordersOf a_imageLine a_bodyKind a_trace a_shelf a_many a_items a_carried people keptMany done tapeMany textMany base at_ ends fault opened lineMany rowMany taller tallerBy pasts isKept imageMany bodies ran ownKind ownNumber row) [(0, .ref a_this), (1, .int v1), (2, .int v2), (3, .int v3)] 5 [] := by
  intro fuel
  induction fuel with
  | zero => intro row v3 hf; exact absurd ((f_M_putsIn_L5.eq_1 ..).symm.trans hf) (fun h => by cases h)
  | succ fuel ih =>
    intro row v3 hf
    replace hf := (f_M_putsIn_L5.eq_2 ..).symm.trans hf
    refine z_iload_n F 3 dX12_putsIn_5 rfl rfl ?_
    refine z_iload_n F 2 dX12_putsIn_6 rfl rfl ?_
    refine z_icmp_le F 30 dX12_putsIn_7 (by decide) hf (fun hf _ => ?_) (fun hf _ => ?_)
    · have ee1 := Option.some.inj hf
      subst ee1
      exact z_sub [0, 1, 2] rfl hk
    · refine z_aload_n F 0 dX12_putsIn_10 rfl rfl ?_
      refine z_get F 0 12 19 inlX12 rfl rfl (by decide) fl_X12_34 rfl dX12_putsIn_11 ?_
      refine z_iload_n F 3 dX12_putsIn_14 rfl rfl ?_
      refine z_aload_n F 0 dX12_putsIn_15 rfl rfl ?_
      refine z_get F 0 12 19 inlX12 rfl rfl (by decide) fl_X12_34 rfl dX12_putsIn_16 ?_
      refine z_iload_n F 3 dX12_putsIn_19 rfl rfl ?_
      refine z_iconst F (1) dX12_putsIn_20 rfl ?_
      refine z_isub F dX12_putsIn_21 ?_
      refine z_iald F 1 rfl hf dX12_putsIn_22 (fun v_1 hf => ?_)
      refine z_iast F 1 (fun row_2 => (w_M_putsIn G a_this a_height a_changeAt a_changeWas a_changeIs a_tape a_text a_names a_line a_row a_pastMany a_past a_changed a_greatest a_numbersWere a_told a_waysOf a_waysWere a_blocks a_ordersOf a_imageLine a_bodyKind a_trace a_shelf a_many a_items a_carried people keptMany done tapeMany textMany base at_ ends fault opened lineMany rowMany taller tallerBy pasts isKept imageMany bodies ran ownKind ownNumber row_2)) rfl hf (fun _ => rfl) dX12_putsIn_23 (fun row_2 hf => ?_)
      refine z_iinc F [(3, .int (v3 + (-1))), (0, .ref a_this), (1, .int v1), (2, .int v2)] dX12_putsIn_24 3 rfl rfl (by decide) rfl ?_
      refine z_goto F 5 dX12_putsIn_27 (by decide) ?_
      exact z_sub [1, 2, 3, 0] rfl (ih row_2 (v3 + (-1)) hf)

set_option maxRecDepth 100000 in
set_option maxHeartbeats 4000000 in
theorem c_M_putsIn (l : Launch) (G : zG) (a_this : Nat) (a_height : Nat) (a_changeAt : Nat) (a_changeWas : Nat) (a_changeIs : Nat) (a_tape : Nat) (a_text : Nat) (a_names : Nat) (a_line : Nat) (a_row : Nat) (a_pastMany : Nat) (a_past : Nat) (a_changed : Nat) (a_greatest : Nat) (a_numbersWere : Nat) (a_told : Nat) (a_waysOf : Nat) (a_waysWere : Nat) (a_blocks : Nat) (a_ordersOf : Nat) (a_imageLine : Nat) (a_bodyKind : Nat) (a_trace : Nat) (a_shelf : Nat) (a_many : Nat) (a_items : Nat) (a_carried : Nat) (people : Int32) (keptMany : Int32) (done : Int32) (tapeMany : Int32) (textMany : Int32) (base : Int32) (at_ : Int32) (ends : Int32) (fault : Int32) (opened : Int32) (lineMany : Int32) (rowMany : Int32) (taller : Int32) (tallerBy : Int32) (pasts : Int32) (isKept : Int32) (imageMany : Int32) (bodies : Int32) (ran : Int32) (ownKind : Int32) (ownNumber : Int32) (row : Nat → Int32) (x1 : Int32) (x2 : Int32) (o_rowMany : Int32) (o_row : Nat → Int32) (hf : f_M_putsIn rowMany row x1 x2 = some (o_rowMany, o_row)) : zM l yX12_putsIn cX12_putsIn 4 none 0 0 G [.ref a_this, .int x1, .int x2] (w_M_putsIn G a_this a_height a_changeAt a_changeWas a_changeIs a_tape a_text a_names a_line a_row a_pastMany a_past a_changed a_greatest a_numbersWere a_told a_waysOf a_waysWere a_blocks a_ordersOf a_imageLine a_bodyKind a_trace a_shelf a_many a_items a_carried people keptMany done tapeMany textMany base at_ ends fault opened lineMany rowMany taller tallerBy pasts isKept imageMany bodies ran ownKind ownNumber row) (none) (w_M_putsIn G a_this a_height a_changeAt a_changeWas a_changeIs a_tape a_text a_names a_line a_row a_pastMany a_past a_changed a_greatest a_numbersWere a_told a_waysOf a_waysWere a_blocks a_ordersOf a_imageLine a_bodyKind a_trace a_shelf a_many a_items a_carried people keptMany done tapeMany textMany base at_ ends fault opened lineMany o_rowMany taller tallerBy pasts isKept imageMany bodies ran ownKind ownNumber o_row) := by
  refine zM.of [(0, .ref a_this), (1, .int x1), (2, .int x2)] (own := RX12) rfl (by decide +kernel) (Nat.le_of_ble_eq_true rfl) rfl rfl fun X hX F => ?_
  subst hX
  replace hf := (f_M_putsIn.eq_1 ..).symm.trans hf
  refine z_aload_n F 0 dX12_putsIn_0 rfl rfl ?_
  refine z_get F 0 12 20 inlX12 rfl rfl (by decide) fl_X12_184 rfl dX12_putsIn_1 ?_
  refine z_istore_n F [(3, .int rowMany), (0, .ref a_this), (1, .int x1), (2, .int x2)] dX12_putsIn_4 rfl (by decide) rfl ?_
  obtain ⟨row_3, hg, hf⟩ := zb1_some hf
  refine z_sub [1, 2, 3, 0] rfl ?_
  refine l_M_putsIn_5 G a_this a_height a_changeAt a_changeWas a_changeIs a_tape a_text a_names a_line a_row a_pastMany a_past a_changed a_greatest a_numbersWere a_told a_waysOf a_waysWere a_blocks a_ordersOf a_imageLine a_bodyKind a_trace a_shelf a_many a_items a_carried people keptMany done tapeMany textMany base at_ ends fault opened lineMany rowMany taller tallerBy pasts isKept imageMany bodies ran ownKind ownNumber x1 x2 F row_3 ?_ FU row rowMany hg
  refine z_aload_n F 0 dX12_putsIn_30 rfl rfl ?_
  refine z_get F 0 12 19 inlX12 rfl rfl (by decide) fl_X12_34 rfl dX12_putsIn_31 ?_
  refine z_iload_n F 2 dX12_putsIn_34 rfl rfl ?_
  refine z_iload_n F 1 dX12_putsIn_35 rfl rfl ?_
  refine z_iast F 1 (fun row_4 => (w_M_putsIn G a_this a_height a_changeAt a_changeWas a_changeIs a_tape a_text a_names a_line a_row a_pastMany a_past a_changed a_greatest a_numbersWere a_told a_waysOf a_waysWere a_blocks a_ordersOf a_imageLine a_bodyKind a_trace a_shelf a_many a_items a_carried people keptMany done tapeMany textMany base at_ ends fault opened lineMany rowMany taller tallerBy pasts isKept imageMany bodies ran ownKind ownNumber row_4)) rfl hf (fun _ => rfl) dX12_putsIn_36 (fun row_4 hf => ?_)
  refine z_aload_n F 0 dX12_putsIn_37 rfl rfl ?_
  refine z_dup F rfl dX12_putsIn_38 ?_
  refine z_get F 0 12 20 inlX12 rfl rfl (by decide) fl_X12_184 rfl dX12_putsIn_39 ?_
  refine z_iconst F (1) dX12_putsIn_42 rfl ?_
  refine z_iadd F dX12_putsIn_43 ?_
  refine z_put F 0 12 20 (w_M_putsIn G a_this a_height a_changeAt a_changeWas a_changeIs a_tape a_text a_names a_line a_row a_pastMany a_past a_changed a_greatest a_numbersWere a_told a_waysOf a_waysWere a_blocks a_ordersOf a_imageLine a_bodyKind a_trace a_shelf a_many a_items a_carried people keptMany done tapeMany textMany base at_ ends fault opened lineMany (rowMany + (1 : Int32)) taller tallerBy pasts isKept imageMany bodies ran ownKind ownNumber row_4) inlX12 tyX12 tyX12_ok nmX12 rfl rfl (by decide) fl_X12_184 rfl rfl rfl (Nat.le_of_ble_eq_true rfl) rfl dX12_putsIn_44 ?_
  have eq1 := Option.some.inj hf
  obtain ⟨ee1, ee2⟩ := Prod.mk.inj eq1
  subst ee1
  subst ee2
  exact z_vret F rfl rfl rfl dX12_putsIn_47

abbrev w_M_changesIn (G : zG) (a_this : Nat) (a_height : Nat) (a_changeAt : Nat) (a_changeWas : Nat) (a_changeIs : Nat) (a_tape : Nat) (a_text : Nat) (a_names : Nat) (a_line : Nat) (a_row : Nat) (a_pastMany : Nat) (a_past : Nat) (a_changed : Nat) (a_greatest : Nat) (a_numbersWere : Nat) (a_told : Nat) (a_waysOf : Nat) (a_waysWere : Nat) (a_blocks : Nat) (a_ordersOf : Nat) (a_imageLine : Nat) (a_bodyKind : Nat) (a_trace : Nat) (a_shelf : Nat) (a_many : Nat) (a_items : Nat) (a_carried : Nat) (people : Int32) (keptMany : Int32) (done : Int32) (tapeMany : Int32) (textMany : Int32) (base : Int32) (at_ : Int32) (ends : Int32) (fault : Int32) (opened : Int32) (lineMany : Int32) (rowMany : Int32) (taller : Int32) (tallerBy : Int32) (pasts : Int32) (isKept : Int32) (imageMany : Int32) (bodies : Int32) (ran : Int32) (ownKind : Int32) (ownNumber : Int32) (row : Nat → Int32) : va_W := [(a_this, cO 12 [.int people, .ref a_height, .ref a_changeAt, .ref a_changeWas, .ref a_changeIs, .int keptMany, .int done, .ref a_tape, .int tapeMany, .ref a_text, .int textMany, .int base, .int at_, .int ends, .int fault, .int opened, .ref a_names, .ref a_line, .int lineMany, .ref a_row, .int rowMany, .int taller, .int tallerBy, .ref a_pastMany, .ref a_past, .int pasts, .ref a_changed, .ref a_greatest, .ref a_numbersWere, .ref a_told, .ref a_waysOf, .ref a_waysWere, .ref a_blocks, .ref a_ordersOf, .int isKept, .int imageMany, .ref a_imageLine, .int bodies, .ref a_bodyKind, .ref a_trace, .int ran, .int ownKind, .int ownNumber, .ref a_shelf, .ref a_many, .ref a_items, .ref a_carried]), (a_row, cI G 9 row)]
def f_M_changesIn (row : Nat → Int32) (x1 : Int32) (x2 : Int32) : Option ((Nat → Int32)) := (zg row 9 x1 fun v_1 => (zg row 9 x2 fun v_2 => (zs row 9 x1 v_2 fun row_3 => (zs row_3 9 x2 v_1 fun row_4 => (some row_4)))))
set_option maxRecDepth 100000 in
set_option maxHeartbeats 4000000 in
theorem c_M_changesIn (l : Launch) (G : zG) (a_this : Nat) (a_height : Nat) (a_changeAt : Nat) (a_changeWas : Nat) (a_changeIs : Nat) (a_tape : Nat) (a_text : Nat) (a_names : Nat) (a_line : Nat) (a_row : Nat) (a_pastMany : Nat) (a_past : Nat) (a_changed : Nat) (a_greatest : Nat) (a_numbersWere : Nat) (a_told : Nat) (a_waysOf : Nat) (a_waysWere : Nat) (a_blocks : Nat) (a_ordersOf : Nat) (a_imageLine : Nat) (a_bodyKind : Nat) (a_trace : Nat) (a_shelf : Nat) (a_many : Nat) (a_items : Nat) (a_carried : Nat) (people : Int32) (keptMany : Int32) (done : Int32) (tapeMany : Int32) (textMany : Int32) (base : Int32) (at_ : Int32) (ends : Int32) (fault : Int32) (opened : Int32) (lineMany : Int32) (rowMany : Int32) (taller : Int32) (tallerBy : Int32) (pasts : Int32) (isKept : Int32) (imageMany : Int32) (bodies : Int32) (ran : Int32) (ownKind : Int32) (ownNumber : Int32) (row : Nat → Int32) (x1 : Int32) (x2 : Int32) (o_row : Nat → Int32) (hf : f_M_changesIn row x1 x2 = some o_row) : zM l yX12_changesIn cX12_changesIn 4 none 0 0 G [.ref a_this, .int x1, .int x2] (w_M_changesIn G a_this a_height a_changeAt a_changeWas a_changeIs a_tape a_text a_names a_line a_row a_pastMany a_past a_changed a_greatest a_numbersWere a_told a_waysOf a_waysWere a_blocks a_ordersOf a_imageLine a_bodyKind a_trace a_shelf a_many a_items a_carried people keptMany done tapeMany textMany base at_ ends fault opened lineMany rowMany taller tallerBy pasts isKept imageMany bodies ran ownKind ownNumber row) (none) (w_M_changesIn G a_this a_height a_changeAt a_changeWas a_changeIs a_tape a_text a_names a_line a_row a_pastMany a_past a_changed a_greatest a_numbersWere a_told a_waysOf a_waysWere a_blocks a_ordersOf a_imageLine a_bodyKind a_trace a_shelf a_many a_items a_carried people keptMany done tapeMany textMany base at_ ends fault opened lineMany rowMany taller tallerBy pasts isKept imageMany bodies ran ownKind ownNumber o_row) := by
  refine zM.of [(0, .ref a_this), (1, .int x1), (2, .int x2)] (own := RX12) rfl (by decide +kernel) (Nat.le_of_ble_eq_true rfl) rfl rfl fun X hX F => ?_
  subst hX
  replace hf := (f_M_changesIn.eq_1 ..).symm.trans hf
  refine z_aload_n F 0 dX12_changesIn_0 rfl rfl ?_
  refine z_get F 0 12 19 inlX12 rfl rfl (by decide) fl_X12_34 rfl dX12_changesIn_1 ?_
  refine z_iload_n F 1 dX12_changesIn_4 rfl rfl ?_
  refine z_iald F 1 rfl hf dX12_changesIn_5 (fun v_1 hf => ?_)
  refine z_istore_n F [(3, .int v_1), (0, .ref a_this), (1, .int x1), (2, .int x2)] dX12_changesIn_6 rfl (by decide) rfl ?_
  refine z_aload_n F 1 dX12_changesIn_7 rfl rfl ?_
  refine z_get F 0 12 19 inlX12 rfl rfl (by decide) fl_X12_34 rfl dX12_changesIn_8 ?_
  refine z_iload_n F 2 dX12_changesIn_11 rfl rfl ?_
  refine z_aload_n F 1 dX12_changesIn_12 rfl rfl ?_
  refine z_get F 0 12 19 inlX12 rfl rfl (by decide) fl_X12_34 rfl dX12_changesIn_13 ?_
  refine z_iload_n F 3 dX12_changesIn_16 rfl rfl ?_
  refine z_iald F 1 rfl hf dX12_changesIn_17 (fun v_2 hf => ?_)
  refine z_iast F 1 (fun row_3 => (w_M_changesIn G a_this a_height a_changeAt a_changeWas a_changeIs a_tape a_text a_names a_line a_row a_pastMany a_past a_changed a_greatest a_numbersWere a_told a_waysOf a_waysWere a_blocks a_ordersOf a_imageLine a_bodyKind a_trace a_shelf a_many a_items a_carried people keptMany done tapeMany textMany base at_ ends fault opened lineMany rowMany taller tallerBy pasts isKept imageMany bodies ran ownKind ownNumber row_3)) rfl hf (fun _ => rfl) dX12_changesIn_18 (fun row_3 hf => ?_)
  refine z_aload_n F 1 dX12_changesIn_19 rfl rfl ?_
  refine z_get F 0 12 19 inlX12 rfl rfl (by decide) fl_X12_34 rfl dX12_changesIn_20 ?_
  refine z_iload_n F 3 dX12_changesIn_23 rfl rfl ?_
  refine z_iload_n F 0 dX12_changesIn_24 rfl rfl ?_
  refine z_iast F 1 (fun row_4 => (w_M_changesIn G a_this a_height a_changeAt a_changeWas a_changeIs a_tape a_text a_names a_line a_row a_pastMany a_past a_changed a_greatest a_numbersWere a_told a_waysOf a_waysWere a_blocks a_ordersOf a_imageLine a_bodyKind a_trace a_shelf a_many a_items a_carried people keptMany done tapeMany textMany base at_ ends fault opened lineMany rowMany taller tallerBy pasts isKept imageMany bodies ran ownKind ownNumber row_4)) rfl hf (fun _ => rfl) dX12_changesIn_25 (fun row_4 hf => ?_)
  have ee1 := Option.some.inj hf
  subst ee1
  exact z_vret F rfl rfl rfl dX12_changesIn_26

abbrev w_M_costNow (G : zG) (a_this : Nat) (a_height : Nat) (a_changeAt : Nat) (a_changeWas : Nat) (a_changeIs : Nat) (a_tape : Nat) (a_text : Nat) (a_names : Nat) (a_line : Nat) (a_row : Nat) (a_pastMany : Nat) (a_past : Nat) (a_changed : Nat) (a_greatest : Nat) (a_numbersWere : Nat) (a_told : Nat) (a_waysOf : Nat) (a_waysWere : Nat) (a_blocks : Nat) (a_ordersOf : Nat) (a_imageLine : Nat) (a_bodyKind : Nat) (a_trace : Nat) (a_shelf : Nat) (a_many : Nat) (a_items : Nat) (a_carried : Nat) (people : Int32) (keptMany : Int32) (done : Int32) (tapeMany : Int32) (textMany : Int32) (base : Int32) (at_ : Int32) (ends : Int32) (fault : Int32) (opened : Int32) (lineMany : Int32) (rowMany : Int32) (taller : Int32) (tallerBy : Int32) (pasts : Int32) (isKept : Int32) (imageMany : Int32) (bodies : Int32) (ran : Int32) (ownKind : Int32) (ownNumber : Int32) (height : Nat → Int32) (tape : Nat → Int32) (text : Nat → Int32) (names : Nat → Int32) (line : Nat → Int32) (row : Nat → Int32) : va_W := [(a_this, cO 12 [.int people, .ref a_height, .ref a_changeAt, .ref a_changeWas, .ref a_changeIs, .int keptMany, .int done, .ref a_tape, .int tapeMany, .ref a_text, .int textMany, .int base, .int at_, .int ends, .int fault, .int opened, .ref a_names, .ref a_line, .int lineMany, .ref a_row, .int rowMany, .int taller, .int tallerBy, .ref a_pastMany, .ref a_past, .int pasts, .ref a_changed, .ref a_greatest, .ref a_numbersWere, .ref a_told, .ref a_waysOf, .ref a_waysWere, .ref a_blocks, .ref a_ordersOf, .int isKept, .int imageMany, .ref a_imageLine, .int bodies, .ref a_bodyKind, .ref a_trace, .int ran, .int ownKind, .int ownNumber, .ref a_shelf, .ref a_many, .ref a_items, .ref a_carried]), (a_height, cI G 9 height), (a_tape, cI G 120 tape), (a_text, cI G 120 text), (a_names, cI G 5 names), (a_line, cI G 9 line), (a_row, cI G 9 row)]
def f_M_costNow_L6 (textMany : Int32) (taller : Int32) (tallerBy : Int32) (height : Nat → Int32) (tape : Nat → Int32) (text : Nat → Int32) : Nat → Int32 → Int32 → Int32 → Int32 → Int32 → Int32 → (Nat → Int32) → (Nat → Int32) → Int32 → Option (Int32 × Int32 × Int32 × Int32 × Int32 × Int32 × (Nat → Int32) × (Nat → Int32) × Int32)
  | 0, _, _, _, _, _, _, _, _, _ => none
  | fuel + 1, base, at_, ends, fault, opened, rowMany, names, row, v1 => (if rowMany ≤ 0 then (some (base, at_, ends, fault, opened, rowMany, names, row, v1)) else (zb7 (f_M_disquietOf textMany base at_ ends fault opened rowMany taller tallerBy height tape text names row) fun r_5 base_6 at__7 ends_8 fault_9 opened_10 names_11 => (zb2 (f_M_takesOut rowMany row 0) fun rowMany_13 row_14 => (f_M_costNow_L6 textMany taller tallerBy height tape text fuel base_6 at__7 ends_8 fault_9 opened_10 rowMany_13 names_11 row_14 (v1 + r_5)))))
def f_M_costNow (textMany : Int32) (base : Int32) (at_ : Int32) (ends : Int32) (fault : Int32) (opened : Int32) (lineMany : Int32) (rowMany : Int32) (taller : Int32) (tallerBy : Int32) (height : Nat → Int32) (tape : Nat → Int32) (text : Nat → Int32) (names : Nat → Int32) (line : Nat → Int32) (row : Nat → Int32) : Option (Int32 × Int32 × Int32 × Int32 × Int32 × Int32 × Int32 × Int32 × (Nat → Int32) × (Nat → Int32)) := (zb3 (f_M_laysOut lineMany rowMany taller line row) fun rowMany_1 taller_2 row_3 => (zb9 (f_M_costNow_L6 textMany taller_2 tallerBy height tape text FU base at_ ends fault opened rowMany_1 names row_3 0) fun base_16 at__17 ends_18 fault_19 opened_20 rowMany_21 names_22 row_23 v1_24 => (some (v1_24, base_16, at__17, ends_18, fault_19, opened_20, rowMany_21, taller_2, names_22, row_23))))
set_option maxRecDepth 100000 in
set_option maxHeartbeats 4000000 in
theorem l_M_costNow_6 {X : zX} (G : zG) (a_this : Nat) (a_height : Nat) (a_changeAt : Nat) (a_changeWas : Nat) (a_changeIs : Nat) (a_tape : Nat) (a_text : Nat) (a_names : Nat) (a_line : Nat) (a_row : Nat) (a_pastMany : Nat) (a_past : Nat) (a_changed : Nat) (a_greatest : Nat) (a_numbersWere : Nat) (a_told : Nat) (a_waysOf : Nat) (a_waysWere : Nat) (a_blocks : Nat) (a_ordersOf : Nat) (a_imageLine : Nat) (a_bodyKind : Nat) (a_trace : Nat) (a_shelf : Nat) (a_many : Nat) (a_items : Nat) (a_carried : Nat) (people : Int32) (keptMany : Int32) (done : Int32) (tapeMany : Int32) (textMany : Int32) (lineMany : Int32) (taller : Int32) (tallerBy : Int32) (pasts : Int32) (isKept : Int32) (imageMany : Int32) (bodies : Int32) (ran : Int32) (ownKind : Int32) (ownNumber : Int32) (height : Nat → Int32) (tape : Nat → Int32) (text : Nat → Int32) (line : Nat → Int32) {v0 : Option Value} {w0 : va_W} (F : zF X G cX12_costNow RX12 2 (some .int) 153 3555 v0 w0) (e_base : Int32) (e_at_ : Int32) (e_ends : Int32) (e_fault : Int32) (e_opened : Int32) (e_rowMany : Int32) (e_names : Nat → Int32) (e_row : Nat → Int32) (e_v1 : Int32) (hk : Z X G 2 (w_M_costNow G a_this a_height a_changeAt a_changeWas a_changeIs a_tape a_text a_names a_line a_row a_pastMany a_past a_changed a_greatest a_numbersWere a_told a_waysOf a_waysWere a_blocks a_ordersOf a_imageLine a_bodyKind a_trace a_shelf a_many a_items a_carried people keptMany done tapeMany textMany e_base e_at_ e_ends e_fault e_opened lineMany e_rowMany taller tallerBy pasts isKept imageMany bodies ran ownKind ownNumber height tape text e_names line e_row) [(1, .int e_v1)] 28 []) :
    ∀ (fuel : Nat) (base : Int32) (at_ : Int32) (ends : Int32) (fault : Int32) (opened : Int32) (rowMany : Int32) (names : Nat → Int32) (row : Nat → Int32) (v1 : Int32), f_M_costNow_L6 textMany taller tallerBy height tape text fuel base at_ ends fault opened rowMany names row v1 = some (e_base, e_at_, e_ends, e_fault, e_opened, e_rowMany, e_names, e_row, e_v1) → Z X G 2 (w_M_costNow G a_this a_height a_changeAt a_changeWas a_changeIs a_tape a_text a_names a_line a_row a_pastMany a_past a_changed a_greatest a_numbersWere a_told a_waysOf a_waysWere a_blocks a_ordersOf a_imageLine a_bodyKind a_trace a_shelf a_many a_items a_carried people keptMany done tapeMany textMany base at_ ends fault opened lineMany rowMany taller tallerBy pasts isKept imageMany bodies ran ownKind ownNumber height tape text names line row) [(0, .ref a_this), (1, .int v1)] 6 [] := by
  intro fuel
  induction fuel with
  | zero => intro base at_ ends fault opened rowMany names row v1 hf; exact absurd ((f_M_costNow_L6.eq_1 ..).symm.trans hf) (fun h => by cases h)
  | succ fuel ih =>
    intro base at_ ends fault opened rowMany names row v1 hf
    replace hf := (f_M_costNow_L6.eq_2 ..).symm.trans hf
    refine z_aload_n F 0 dX12_costNow_6 rfl rfl ?_
    refine z_get F 0 12 20 inlX12 rfl rfl (by decide) fl_X12_184 rfl dX12_costNow_7 ?_
    refine z_if_le F 28 dX12_costNow_10 (by decide) hf (fun hf _ => ?_) (fun hf _ => ?_)
    · have eq1 := Option.some.inj hf
      obtain ⟨ee1, eq2⟩ := Prod.mk.inj eq1
      obtain ⟨ee2, eq3⟩ := Prod.mk.inj eq2
      obtain ⟨ee3, eq4⟩ := Prod.mk.inj eq3
      obtain ⟨ee4, eq5⟩ := Prod.mk.inj eq4
      obtain ⟨ee5, eq6⟩ := Prod.mk.inj eq5
      obtain ⟨ee6, eq7⟩ := Prod.mk.inj eq6
      obtain ⟨ee7, eq8⟩ := Prod.mk.inj eq7
      obtain ⟨ee8, ee9⟩ := Prod.mk.inj eq8
      subst ee1
      subst ee2
      subst ee3
      subst ee4
      subst ee5
      subst ee6
      subst ee7
      subst ee8
      subst ee9
      exact z_sub [1] rfl hk
    · refine z_iload_n F 1 dX12_costNow_13 rfl rfl ?_
      refine z_aload_n F 0 dX12_costNow_14 rfl rfl ?_
      obtain ⟨r_5, base_6, at__7, ends_8, fault_9, opened_10, names_11, hg, hf⟩ := zb7_some hf
      refine z_callVm (rest := [.int v1]) F 12 (c_M_disquietOf (xL X) G a_this a_height a_changeAt a_changeWas a_changeIs a_tape a_text a_names a_line a_row a_pastMany a_past a_changed a_greatest a_numbersWere a_told a_waysOf a_waysWere a_blocks a_ordersOf a_imageLine a_bodyKind a_trace a_shelf a_many a_items a_carried people keptMany done tapeMany textMany base at_ ends fault opened lineMany rowMany taller tallerBy pasts isKept imageMany bodies ran ownKind ownNumber height tape text names row r_5 base_6 at__7 ends_8 fault_9 opened_10 names_11 hg) hy_X12_disquietOf ml_X12_206 hd_X12_disquietOf ⟨by omega, by omega⟩ rfl [0, 1, 2, 3, 4, 6] rfl rfl 0 rfl rfl (w_M_costNow G a_this a_height a_changeAt a_changeWas a_changeIs a_tape a_text a_names a_line a_row a_pastMany a_past a_changed a_greatest a_numbersWere a_told a_waysOf a_waysWere a_blocks a_ordersOf a_imageLine a_bodyKind a_trace a_shelf a_many a_items a_carried people keptMany done tapeMany textMany base_6 at__7 ends_8 fault_9 opened_10 lineMany rowMany taller tallerBy pasts isKept imageMany bodies ran ownKind ownNumber height tape text names_11 line row) [some 0, some 1, some 2, some 3, some 4, none, some 5] rfl (by decide +kernel) rfl rfl (Nat.le_of_ble_eq_true rfl) dX12_costNow_15 (fun hz_12 => ?_)
      refine z_iadd F dX12_costNow_18 ?_
      refine z_istore_n F [(1, .int (v1 + r_5)), (0, .ref a_this)] dX12_costNow_19 rfl (by decide) rfl ?_
      refine z_aload_n F 1 dX12_costNow_20 rfl rfl ?_
      refine z_iconst F (0) dX12_costNow_21 rfl ?_
      obtain ⟨rowMany_13, row_14, hg, hf⟩ := zb2_some hf
      refine z_callVm (rest := []) F 12 (c_M_takesOut (xL X) G a_this a_height a_changeAt a_changeWas a_changeIs a_tape a_text a_names a_line a_row a_pastMany a_past a_changed a_greatest a_numbersWere a_told a_waysOf a_waysWere a_blocks a_ordersOf a_imageLine a_bodyKind a_trace a_shelf a_many a_items a_carried people keptMany done tapeMany textMany base_6 at__7 ends_8 fault_9 opened_10 lineMany rowMany taller tallerBy pasts isKept imageMany bodies ran ownKind ownNumber row 0 rowMany_13 row_14 hg) hy_X12_takesOut ml_X12_212 hd_X12_takesOut ⟨by omega, by omega⟩ rfl [0, 6] rfl rfl 0 rfl rfl (w_M_costNow G a_this a_height a_changeAt a_changeWas a_changeIs a_tape a_text a_names a_line a_row a_pastMany a_past a_changed a_greatest a_numbersWere a_told a_waysOf a_waysWere a_blocks a_ordersOf a_imageLine a_bodyKind a_trace a_shelf a_many a_items a_carried people keptMany done tapeMany textMany base_6 at__7 ends_8 fault_9 opened_10 lineMany rowMany_13 taller tallerBy pasts isKept imageMany bodies ran ownKind ownNumber height tape text names_11 line row_14) [some 0, none, none, none, none, none, some 1] rfl (by decide +kernel) rfl rfl (Nat.le_of_ble_eq_true rfl) dX12_costNow_22 (fun hz_15 => ?_)
      refine z_goto F 6 dX12_costNow_25 (by decide) ?_
      exact z_sub [1, 0] rfl (ih base_6 at__7 ends_8 fault_9 opened_10 rowMany_13 names_11 row_14 (v1 + r_5) hf)

set_option maxRecDepth 100000 in
set_option maxHeartbeats 4000000 in
theorem c_M_costNow (l : Launch) (G : zG) (a_this : Nat) (a_height : Nat) (a_changeAt : Nat) (a_changeWas : Nat) (a_changeIs : Nat) (a_tape : Nat) (a_text : Nat) (a_names : Nat) (a_line : Nat) (a_row : Nat) (a_pastMany : Nat) (a_past : Nat) (a_changed : Nat) (a_greatest : Nat) (a_numbersWere : Nat) (a_told : Nat) (a_waysOf : Nat) (a_waysWere : Nat) (a_blocks : Nat) (a_ordersOf : Nat) (a_imageLine : Nat) (a_bodyKind : Nat) (a_trace : Nat) (a_shelf : Nat) (a_many : Nat) (a_items : Nat) (a_carried : Nat) (people : Int32) (keptMany : Int32) (done : Int32) (tapeMany : Int32) (textMany : Int32) (base : Int32) (at_ : Int32) (ends : Int32) (fault : Int32) (opened : Int32) (lineMany : Int32) (rowMany : Int32) (taller : Int32) (tallerBy : Int32) (pasts : Int32) (isKept : Int32) (imageMany : Int32) (bodies : Int32) (ran : Int32) (ownKind : Int32) (ownNumber : Int32) (height : Nat → Int32) (tape : Nat → Int32) (text : Nat → Int32) (names : Nat → Int32) (line : Nat → Int32) (row : Nat → Int32) (r_ : Int32) (o_base : Int32) (o_at_ : Int32) (o_ends : Int32) (o_fault : Int32) (o_opened : Int32) (o_rowMany : Int32) (o_taller : Int32) (o_names : Nat → Int32) (o_row : Nat → Int32) (hf : f_M_costNow textMany base at_ ends fault opened lineMany rowMany taller tallerBy height tape text names line row = some (r_, o_base, o_at_, o_ends, o_fault, o_opened, o_rowMany, o_taller, o_names, o_row)) : zM l yX12_costNow cX12_costNow 2 (some .int) 153 3555 G [.ref a_this] (w_M_costNow G a_this a_height a_changeAt a_changeWas a_changeIs a_tape a_text a_names a_line a_row a_pastMany a_past a_changed a_greatest a_numbersWere a_told a_waysOf a_waysWere a_blocks a_ordersOf a_imageLine a_bodyKind a_trace a_shelf a_many a_items a_carried people keptMany done tapeMany textMany base at_ ends fault opened lineMany rowMany taller tallerBy pasts isKept imageMany bodies ran ownKind ownNumber height tape text names line row) (some (.int r_)) (w_M_costNow G a_this a_height a_changeAt a_changeWas a_changeIs a_tape a_text a_names a_line a_row a_pastMany a_past a_changed a_greatest a_numbersWere a_told a_waysOf a_waysWere a_blocks a_ordersOf a_imageLine a_bodyKind a_trace a_shelf a_many a_items a_carried people keptMany done tapeMany textMany o_base o_at_ o_ends o_fault o_opened lineMany o_rowMany o_taller tallerBy pasts isKept imageMany bodies ran ownKind ownNumber height tape text o_names line o_row) := by
  refine zM.of [(0, .ref a_this)] (own := RX12) rfl (by decide +kernel) (Nat.le_of_ble_eq_true rfl) rfl rfl fun X hX F => ?_
  subst hX
  replace hf := (f_M_costNow.eq_1 ..).symm.trans hf
  refine z_aload_n F 0 dX12_costNow_0 rfl rfl ?_
  obtain ⟨rowMany_1, taller_2, row_3, hg, hf⟩ := zb3_some hf
  refine z_callVm (rest := []) F 12 (c_M_laysOut (xL X) G a_this a_height a_changeAt a_changeWas a_changeIs a_tape a_text a_names a_line a_row a_pastMany a_past a_changed a_greatest a_numbersWere a_told a_waysOf a_waysWere a_blocks a_ordersOf a_imageLine a_bodyKind a_trace a_shelf a_many a_items a_carried people keptMany done tapeMany textMany base at_ ends fault opened lineMany rowMany taller tallerBy pasts isKept imageMany bodies ran ownKind ownNumber line row rowMany_1 taller_2 row_3 hg) hy_X12_laysOut ml_X12_203 hd_X12_laysOut ⟨by omega, by omega⟩ rfl [0, 5, 6] rfl rfl 0 rfl rfl (w_M_costNow G a_this a_height a_changeAt a_changeWas a_changeIs a_tape a_text a_names a_line a_row a_pastMany a_past a_changed a_greatest a_numbersWere a_told a_waysOf a_waysWere a_blocks a_ordersOf a_imageLine a_bodyKind a_trace a_shelf a_many a_items a_carried people keptMany done tapeMany textMany base at_ ends fault opened lineMany rowMany_1 taller_2 tallerBy pasts isKept imageMany bodies ran ownKind ownNumber height tape text names line row_3) [some 0, none, none, none, none, some 1, some 2] rfl (by decide +kernel) rfl rfl (Nat.le_of_ble_eq_true rfl) dX12_costNow_1 (fun hz_4 => ?_)
  refine z_iconst F (0) dX12_costNow_4 rfl ?_
  refine z_istore_n F [(1, .int 0), (0, .ref a_this)] dX12_costNow_5 rfl (by decide) rfl ?_
  obtain ⟨base_16, at__17, ends_18, fault_19, opened_20, rowMany_21, names_22, row_23, v1_24, hg, hf⟩ := zb9_some hf
  refine z_sub [1, 0] rfl ?_
  refine l_M_costNow_6 G a_this a_height a_changeAt a_changeWas a_changeIs a_tape a_text a_names a_line a_row a_pastMany a_past a_changed a_greatest a_numbersWere a_told a_waysOf a_waysWere a_blocks a_ordersOf a_imageLine a_bodyKind a_trace a_shelf a_many a_items a_carried people keptMany done tapeMany textMany lineMany taller_2 tallerBy pasts isKept imageMany bodies ran ownKind ownNumber height tape text line F base_16 at__17 ends_18 fault_19 opened_20 rowMany_21 names_22 row_23 v1_24 ?_ FU base at_ ends fault opened rowMany_1 names row_3 0 hg
  refine z_iload_n F 0 dX12_costNow_28 rfl rfl ?_
  have eq1 := Option.some.inj hf
  obtain ⟨ee1, eq2⟩ := Prod.mk.inj eq1
  obtain ⟨ee2, eq3⟩ := Prod.mk.inj eq2
  obtain ⟨ee3, eq4⟩ := Prod.mk.inj eq3
  obtain ⟨ee4, eq5⟩ := Prod.mk.inj eq4
  obtain ⟨ee5, eq6⟩ := Prod.mk.inj eq5
  obtain ⟨ee6, eq7⟩ := Prod.mk.inj eq6
  obtain ⟨ee7, eq8⟩ := Prod.mk.inj eq7
  obtain ⟨ee8, eq9⟩ := Prod.mk.inj eq8
  obtain ⟨ee9, ee10⟩ := Prod.mk.inj eq9
  subst ee1
  subst ee2
  subst ee3
  subst ee4
  subst ee5
  subst ee6
  subst ee7
  subst ee8
  subst ee9
  subst ee10
  exact z_iret F rfl rfl rfl rfl dX12_costNow_29

abbrev w_M_disquiet (G : zG) (a_this : Nat) (a_height : Nat) (a_changeAt : Nat) (a_changeWas : Nat) (a_changeIs : Nat) (a_tape : Nat) (a_text : Nat) (a_names : Nat) (a_line : Nat) (a_row : Nat) (a_pastMany : Nat) (a_past : Nat) (a_changed : Nat) (a_greatest : Nat) (a_numbersWere : Nat) (a_told : Nat) (a_waysOf : Nat) (a_waysWere : Nat) (a_blocks : Nat) (a_ordersOf : Nat) (a_imageLine : Nat) (a_bodyKind : Nat) (a_trace : Nat) (a_shelf : Nat) (a_many : Nat) (a_items : Nat) (a_carried : Nat) (people : Int32) (keptMany : Int32) (done : Int32) (tapeMany : Int32) (textMany : Int32) (base : Int32) (at_ : Int32) (ends : Int32) (fault : Int32) (opened : Int32) (lineMany : Int32) (rowMany : Int32) (taller : Int32) (tallerBy : Int32) (pasts : Int32) (isKept : Int32) (imageMany : Int32) (bodies : Int32) (ran : Int32) (ownKind : Int32) (ownNumber : Int32) (height : Nat → Int32) (tape : Nat → Int32) (text : Nat → Int32) (names : Nat → Int32) (line : Nat → Int32) (row : Nat → Int32) : va_W := [(a_this, cO 12 [.int people, .ref a_height, .ref a_changeAt, .ref a_changeWas, .ref a_changeIs, .int keptMany, .int done, .ref a_tape, .int tapeMany, .ref a_text, .int textMany, .int base, .int at_, .int ends, .int fault, .int opened, .ref a_names, .ref a_line, .int lineMany, .ref a_row, .int rowMany, .int taller, .int tallerBy, .ref a_pastMany, .ref a_past, .int pasts, .ref a_changed, .ref a_greatest, .ref a_numbersWere, .ref a_told, .ref a_waysOf, .ref a_waysWere, .ref a_blocks, .ref a_ordersOf, .int isKept, .int imageMany, .ref a_imageLine, .int bodies, .ref a_bodyKind, .ref a_trace, .int ran, .int ownKind, .int ownNumber, .ref a_shelf, .ref a_many, .ref a_items, .ref a_carried]), (a_height, cI G 9 height), (a_tape, cI G 120 tape), (a_text, cI G 120 text), (a_names, cI G 5 names), (a_line, cI G 9 line), (a_row, cI G 9 row)]
def f_M_disquiet (textMany : Int32) (base : Int32) (at_ : Int32) (ends : Int32) (fault : Int32) (opened : Int32) (lineMany : Int32) (rowMany : Int32) (taller : Int32) (tallerBy : Int32) (height : Nat → Int32) (tape : Nat → Int32) (text : Nat → Int32) (names : Nat → Int32) (line : Nat → Int32) (row : Nat → Int32) (x1 : Int32) : Option (Int32 × Int32 × Int32 × Int32 × Int32 × Int32 × Int32 × Int32 × (Nat → Int32) × (Nat → Int32)) := (if x1 = 0 then (zb10 (f_M_disquietNow textMany base at_ ends fault opened lineMany rowMany taller tallerBy height tape text names line row) fun r_2 base_3 at__4 ends_5 fault_6 opened_7 rowMany_8 taller_9 names_10 row_11 => (some (r_2, base_3, at__4, ends_5, fault_6, opened_7, rowMany_8, taller_9, names_10, row_11))) else (if x1 = 1 then (zb4 (f_M_plainNow lineMany rowMany taller height line row) fun r_14 rowMany_15 taller_16 row_17 => (some (r_14, base, at_, ends, fault, opened, rowMany_15, taller_16, names, row_17))) else (if x1 = 2 then (zb10 (f_M_costNow textMany base at_ ends fault opened lineMany rowMany taller tallerBy height tape text names line row) fun r_20 base_21 at__22 ends_23 fault_24 opened_25 rowMany_26 taller_27 names_28 row_29 => (some (r_20, base_21, at__22, ends_23, fault_24, opened_25, rowMany_26, taller_27, names_28, row_29))) else (some ((-1), base, at_, ends, fault, opened, rowMany, taller, names, row)))))
set_option maxRecDepth 100000 in
set_option maxHeartbeats 4000000 in
theorem c_M_disquiet (l : Launch) (G : zG) (a_this : Nat) (a_height : Nat) (a_changeAt : Nat) (a_changeWas : Nat) (a_changeIs : Nat) (a_tape : Nat) (a_text : Nat) (a_names : Nat) (a_line : Nat) (a_row : Nat) (a_pastMany : Nat) (a_past : Nat) (a_changed : Nat) (a_greatest : Nat) (a_numbersWere : Nat) (a_told : Nat) (a_waysOf : Nat) (a_waysWere : Nat) (a_blocks : Nat) (a_ordersOf : Nat) (a_imageLine : Nat) (a_bodyKind : Nat) (a_trace : Nat) (a_shelf : Nat) (a_many : Nat) (a_items : Nat) (a_carried : Nat) (people : Int32) (keptMany : Int32) (done : Int32) (tapeMany : Int32) (textMany : Int32) (base : Int32) (at_ : Int32) (ends : Int32) (fault : Int32) (opened : Int32) (lineMany : Int32) (rowMany : Int32) (taller : Int32) (tallerBy : Int32) (pasts : Int32) (isKept : Int32) (imageMany : Int32) (bodies : Int32) (ran : Int32) (ownKind : Int32) (ownNumber : Int32) (height : Nat → Int32) (tape : Nat → Int32) (text : Nat → Int32) (names : Nat → Int32) (line : Nat → Int32) (row : Nat → Int32) (x1 : Int32) (r_ : Int32) (o_base : Int32) (o_at_ : Int32) (o_ends : Int32) (o_fault : Int32) (o_opened : Int32) (o_rowMany : Int32) (o_taller : Int32) (o_names : Nat → Int32) (o_row : Nat → Int32) (hf : f_M_disquiet textMany base at_ ends fault opened lineMany rowMany taller tallerBy height tape text names line row x1 = some (r_, o_base, o_at_, o_ends, o_fault, o_opened, o_rowMany, o_taller, o_names, o_row)) : zM l yX12_disquiet cX12_disquiet 2 (some .int) 154 3576 G [.ref a_this, .int x1] (w_M_disquiet G a_this a_height a_changeAt a_changeWas a_changeIs a_tape a_text a_names a_line a_row a_pastMany a_past a_changed a_greatest a_numbersWere a_told a_waysOf a_waysWere a_blocks a_ordersOf a_imageLine a_bodyKind a_trace a_shelf a_many a_items a_carried people keptMany done tapeMany textMany base at_ ends fault opened lineMany rowMany taller tallerBy pasts isKept imageMany bodies ran ownKind ownNumber height tape text names line row) (some (.int r_)) (w_M_disquiet G a_this a_height a_changeAt a_changeWas a_changeIs a_tape a_text a_names a_line a_row a_pastMany a_past a_changed a_greatest a_numbersWere a_told a_waysOf a_waysWere a_blocks a_ordersOf a_imageLine a_bodyKind a_trace a_shelf a_many a_items a_carried people keptMany done tapeMany textMany o_base o_at_ o_ends o_fault o_opened lineMany o_rowMany o_taller tallerBy pasts isKept imageMany bodies ran ownKind ownNumber height tape text o_names line o_row) := by
  refine zM.of [(0, .ref a_this), (1, .int x1)] (own := RX12) rfl (by decide +kernel) (Nat.le_of_ble_eq_true rfl) rfl rfl fun X hX F => ?_
  subst hX
  replace hf := (f_M_disquiet.eq_1 ..).symm.trans hf
  refine z_iload_n F 1 dX12_disquiet_0 rfl rfl ?_
  by_cases hc_1 : x1 = 0
  · replace hf := zif_t hf hc_1
    refine z_tabIn (off := 27) F 28 dX12_disquiet_1 (by rw [hc_1]; decide +kernel) (by rw [hc_1]; decide +kernel) (by rw [hc_1]; decide +kernel) (by decide) ?_
    refine z_aload_n F 0 dX12_disquiet_28 rfl rfl ?_
    obtain ⟨r_2, base_3, at__4, ends_5, fault_6, opened_7, rowMany_8, taller_9, names_10, row_11, hg, hf⟩ := zb10_some hf
    refine z_callVm (rest := []) F 12 (c_M_disquietNow (xL X) G a_this a_height a_changeAt a_changeWas a_changeIs a_tape a_text a_names a_line a_row a_pastMany a_past a_changed a_greatest a_numbersWere a_told a_waysOf a_waysWere a_blocks a_ordersOf a_imageLine a_bodyKind a_trace a_shelf a_many a_items a_carried people keptMany done tapeMany textMany base at_ ends fault opened lineMany rowMany taller tallerBy pasts isKept imageMany bodies ran ownKind ownNumber height tape text names line row r_2 base_3 at__4 ends_5 fault_6 opened_7 rowMany_8 taller_9 names_10 row_11 hg) hy_X12_disquietNow ml_X12_215 hd_X12_disquietNow ⟨by omega, by omega⟩ rfl [0, 1, 2, 3, 4, 5, 6] rfl rfl 0 rfl rfl (w_M_disquiet G a_this a_height a_changeAt a_changeWas a_changeIs a_tape a_text a_names a_line a_row a_pastMany a_past a_changed a_greatest a_numbersWere a_told a_waysOf a_waysWere a_blocks a_ordersOf a_imageLine a_bodyKind a_trace a_shelf a_many a_items a_carried people keptMany done tapeMany textMany base_3 at__4 ends_5 fault_6 opened_7 lineMany rowMany_8 taller_9 tallerBy pasts isKept imageMany bodies ran ownKind ownNumber height tape text names_10 line row_11) [some 0, some 1, some 2, some 3, some 4, some 5, some 6] rfl (by decide +kernel) rfl rfl (Nat.le_of_ble_eq_true rfl) dX12_disquiet_29 (fun hz_12 => ?_)
    have eq1 := Option.some.inj hf
    obtain ⟨ee1, eq2⟩ := Prod.mk.inj eq1
    obtain ⟨ee2, eq3⟩ := Prod.mk.inj eq2
    obtain ⟨ee3, eq4⟩ := Prod.mk.inj eq3
    obtain ⟨ee4, eq5⟩ := Prod.mk.inj eq4
    obtain ⟨ee5, eq6⟩ := Prod.mk.inj eq5
    obtain ⟨ee6, eq7⟩ := Prod.mk.inj eq6
    obtain ⟨ee7, eq8⟩ := Prod.mk.inj eq7
    obtain ⟨ee8, eq9⟩ := Prod.mk.inj eq8
    obtain ⟨ee9, ee10⟩ := Prod.mk.inj eq9
    subst ee1
    subst ee2
    subst ee3
    subst ee4
    subst ee5
    subst ee6
    subst ee7
    subst ee8
    subst ee9
    subst ee10
    exact z_iret F rfl rfl rfl rfl dX12_disquiet_32
  · replace hf := zif_f hf hc_1
    by_cases hc_13 : x1 = 1
    · replace hf := zif_t hf hc_13
      refine z_tabIn (off := 32) F 33 dX12_disquiet_1 (by rw [hc_13]; decide +kernel) (by rw [hc_13]; decide +kernel) (by rw [hc_13]; decide +kernel) (by decide) ?_
      refine z_aload_n F 0 dX12_disquiet_33 rfl rfl ?_
      obtain ⟨r_14, rowMany_15, taller_16, row_17, hg, hf⟩ := zb4_some hf
      refine z_callVm (rest := []) F 12 (c_M_plainNow (xL X) G a_this a_height a_changeAt a_changeWas a_changeIs a_tape a_text a_names a_line a_row a_pastMany a_past a_changed a_greatest a_numbersWere a_told a_waysOf a_waysWere a_blocks a_ordersOf a_imageLine a_bodyKind a_trace a_shelf a_many a_items a_carried people keptMany done tapeMany textMany base at_ ends fault opened lineMany rowMany taller tallerBy pasts isKept imageMany bodies ran ownKind ownNumber height line row r_14 rowMany_15 taller_16 row_17 hg) hy_X12_plainNow ml_X12_218 hd_X12_plainNow ⟨by omega, by omega⟩ rfl [0, 1, 5, 6] rfl rfl 0 rfl rfl (w_M_disquiet G a_this a_height a_changeAt a_changeWas a_changeIs a_tape a_text a_names a_line a_row a_pastMany a_past a_changed a_greatest a_numbersWere a_told a_waysOf a_waysWere a_blocks a_ordersOf a_imageLine a_bodyKind a_trace a_shelf a_many a_items a_carried people keptMany done tapeMany textMany base at_ ends fault opened lineMany rowMany_15 taller_16 tallerBy pasts isKept imageMany bodies ran ownKind ownNumber height tape text names line row_17) [some 0, some 1, none, none, none, some 2, some 3] rfl (by decide +kernel) rfl rfl (Nat.le_of_ble_eq_true rfl) dX12_disquiet_34 (fun hz_18 => ?_)
      have eq1 := Option.some.inj hf
      obtain ⟨ee1, eq2⟩ := Prod.mk.inj eq1
      obtain ⟨ee2, eq3⟩ := Prod.mk.inj eq2
      obtain ⟨ee3, eq4⟩ := Prod.mk.inj eq3
      obtain ⟨ee4, eq5⟩ := Prod.mk.inj eq4
      obtain ⟨ee5, eq6⟩ := Prod.mk.inj eq5
      obtain ⟨ee6, eq7⟩ := Prod.mk.inj eq6
      obtain ⟨ee7, eq8⟩ := Prod.mk.inj eq7
      obtain ⟨ee8, eq9⟩ := Prod.mk.inj eq8
      obtain ⟨ee9, ee10⟩ := Prod.mk.inj eq9
      subst ee1
      subst ee2
      subst ee3
      subst ee4
      subst ee5
      subst ee6
      subst ee7
      subst ee8
      subst ee9
      subst ee10
      exact z_iret F rfl rfl rfl rfl dX12_disquiet_37
    · replace hf := zif_f hf hc_13
      by_cases hc_19 : x1 = 2
      · replace hf := zif_t hf hc_19
        refine z_tabIn (off := 37) F 38 dX12_disquiet_1 (by rw [hc_19]; decide +kernel) (by rw [hc_19]; decide +kernel) (by rw [hc_19]; decide +kernel) (by decide) ?_
        refine z_aload_n F 0 dX12_disquiet_38 rfl rfl ?_
        obtain ⟨r_20, base_21, at__22, ends_23, fault_24, opened_25, rowMany_26, taller_27, names_28, row_29, hg, hf⟩ := zb10_some hf
        refine z_callVm (rest := []) F 12 (c_M_costNow (xL X) G a_this a_height a_changeAt a_changeWas a_changeIs a_tape a_text a_names a_line a_row a_pastMany a_past a_changed a_greatest a_numbersWere a_told a_waysOf a_waysWere a_blocks a_ordersOf a_imageLine a_bodyKind a_trace a_shelf a_many a_items a_carried people keptMany done tapeMany textMany base at_ ends fault opened lineMany rowMany taller tallerBy pasts isKept imageMany bodies ran ownKind ownNumber height tape text names line row r_20 base_21 at__22 ends_23 fault_24 opened_25 rowMany_26 taller_27 names_28 row_29 hg) hy_X12_costNow ml_X12_221 hd_X12_costNow ⟨by omega, by omega⟩ rfl [0, 1, 2, 3, 4, 5, 6] rfl rfl 0 rfl rfl (w_M_disquiet G a_this a_height a_changeAt a_changeWas a_changeIs a_tape a_text a_names a_line a_row a_pastMany a_past a_changed a_greatest a_numbersWere a_told a_waysOf a_waysWere a_blocks a_ordersOf a_imageLine a_bodyKind a_trace a_shelf a_many a_items a_carried people keptMany done tapeMany textMany base_21 at__22 ends_23 fault_24 opened_25 lineMany rowMany_26 taller_27 tallerBy pasts isKept imageMany bodies ran ownKind ownNumber height tape text names_28 line row_29) [some 0, some 1, some 2, some 3, some 4, some 5, some 6] rfl (by decide +kernel) rfl rfl (Nat.le_of_ble_eq_true rfl) dX12_disquiet_39 (fun hz_30 => ?_)
        have eq1 := Option.some.inj hf
        obtain ⟨ee1, eq2⟩ := Prod.mk.inj eq1
        obtain ⟨ee2, eq3⟩ := Prod.mk.inj eq2
        obtain ⟨ee3, eq4⟩ := Prod.mk.inj eq3
        obtain ⟨ee4, eq5⟩ := Prod.mk.inj eq4
        obtain ⟨ee5, eq6⟩ := Prod.mk.inj eq5
        obtain ⟨ee6, eq7⟩ := Prod.mk.inj eq6
        obtain ⟨ee7, eq8⟩ := Prod.mk.inj eq7
        obtain ⟨ee8, eq9⟩ := Prod.mk.inj eq8
        obtain ⟨ee9, ee10⟩ := Prod.mk.inj eq9
        subst ee1
        subst ee2
        subst ee3
        subst ee4
        subst ee5
        subst ee6
        subst ee7
        subst ee8
        subst ee9
        subst ee10
        exact z_iret F rfl rfl rfl rfl dX12_disquiet_42
      · replace hf := zif_f hf hc_19
        refine z_tabOut F 43 dX12_disquiet_1 (by have := zne hc_1 (c := 0) (k := 0) rfl; have := zne hc_13 (c := 1) (k := 1) rfl; have := zne hc_19 (c := 2) (k := 2) rfl; omega) (by decide) ?_
        refine z_iconst F (-1) dX12_disquiet_43 rfl ?_
        have eq1 := Option.some.inj hf
        obtain ⟨ee1, eq2⟩ := Prod.mk.inj eq1
        obtain ⟨ee2, eq3⟩ := Prod.mk.inj eq2
        obtain ⟨ee3, eq4⟩ := Prod.mk.inj eq3
        obtain ⟨ee4, eq5⟩ := Prod.mk.inj eq4
        obtain ⟨ee5, eq6⟩ := Prod.mk.inj eq5
        obtain ⟨ee6, eq7⟩ := Prod.mk.inj eq6
        obtain ⟨ee7, eq8⟩ := Prod.mk.inj eq7
        obtain ⟨ee8, eq9⟩ := Prod.mk.inj eq8
        obtain ⟨ee9, ee10⟩ := Prod.mk.inj eq9
        subst ee1
        subst ee2
        subst ee3
        subst ee4
        subst ee5
        subst ee6
        subst ee7
        subst ee8
        subst ee9
        subst ee10
        exact z_iret F rfl rfl rfl rfl dX12_disquiet_44

abbrev w_M_isPlace (G : zG) (a_this : Nat) (a_height : Nat) (a_changeAt : Nat) (a_changeWas : Nat) (a_changeIs : Nat) (a_tape : Nat) (a_text : Nat) (a_names : Nat) (a_line : Nat) (a_row : Nat) (a_pastMany : Nat) (a_past : Nat) (a_changed : Nat) (a_greatest : Nat) (a_numbersWere : Nat) (a_told : Nat) (a_waysOf : Nat) (a_waysWere : Nat) (a_blocks : Nat) (a_ordersOf : Nat) (a_imageLine : Nat) (a_bodyKind : Nat) (a_trace : Nat) (a_shelf : Nat) (a_many : Nat) (a_items : Nat) (a_carried : Nat) (people : Int32) (keptMany : Int32) (done : Int32) (tapeMany : Int32) (textMany : Int32) (base : Int32) (at_ : Int32) (ends : Int32) (fault : Int32) (opened : Int32) (lineMany : Int32) (rowMany : Int32) (taller : Int32) (tallerBy : Int32) (pasts : Int32) (isKept : Int32) (imageMany : Int32) (bodies : Int32) (ran : Int32) (ownKind : Int32) (ownNumber : Int32) : va_W := [(a_this, cO 12 [.int people, .ref a_height, .ref a_changeAt, .ref a_changeWas, .ref a_changeIs, .int keptMany, .int done, .ref a_tape, .int tapeMany, .ref a_text, .int textMany, .int base, .int at_, .int ends, .int fault, .int opened, .ref a_names, .ref a_line, .int lineMany, .ref a_row, .int rowMany, .int taller, .int tallerBy, .ref a_pastMany, .ref a_past, .int pasts, .ref a_changed, .ref a_greatest, .ref a_numbersWere, .ref a_told, .ref a_waysOf, .ref a_waysWere, .ref a_blocks, .ref a_ordersOf, .int isKept, .int imageMany, .ref a_imageLine, .int bodies, .ref a_bodyKind, .ref a_trace, .int ran, .int ownKind, .int ownNumber, .ref a_shelf, .ref a_many, .ref a_items, .ref a_carried])]
def f_M_isPlace (lineMany : Int32) (x1 : Int32) : Int32 := (f_M_within (Int32.toInt64 x1) 0 (Int32.toInt64 (lineMany - (1 : Int32))))
set_option maxRecDepth 100000 in
set_option maxHeartbeats 4000000 in
theorem c_M_isPlace (l : Launch) (G : zG) (a_this : Nat) (a_height : Nat) (a_changeAt : Nat) (a_changeWas : Nat) (a_changeIs : Nat) (a_tape : Nat) (a_text : Nat) (a_names : Nat) (a_line : Nat) (a_row : Nat) (a_pastMany : Nat) (a_past : Nat) (a_changed : Nat) (a_greatest : Nat) (a_numbersWere : Nat) (a_told : Nat) (a_waysOf : Nat) (a_waysWere : Nat) (a_blocks : Nat) (a_ordersOf : Nat) (a_imageLine : Nat) (a_bodyKind : Nat) (a_trace : Nat) (a_shelf : Nat) (a_many : Nat) (a_items : Nat) (a_carried : Nat) (people : Int32) (keptMany : Int32) (done : Int32) (tapeMany : Int32) (textMany : Int32) (base : Int32) (at_ : Int32) (ends : Int32) (fault : Int32) (opened : Int32) (lineMany : Int32) (rowMany : Int32) (taller : Int32) (tallerBy : Int32) (pasts : Int32) (isKept : Int32) (imageMany : Int32) (bodies : Int32) (ran : Int32) (ownKind : Int32) (ownNumber : Int32) (x1 : Int32) (r_ : Int32) (hf : f_M_isPlace lineMany x1 = r_) : zM l yX12_isPlace cX12_isPlace 2 (some .boolean) 1 25 G [.ref a_this, .int x1] (w_M_isPlace G a_this a_height a_changeAt a_changeWas a_changeIs a_tape a_text a_names a_line a_row a_pastMany a_past a_changed a_greatest a_numbersWere a_told a_waysOf a_waysWere a_blocks a_ordersOf a_imageLine a_bodyKind a_trace a_shelf a_many a_items a_carried people keptMany done tapeMany textMany base at_ ends fault opened lineMany rowMany taller tallerBy pasts isKept imageMany bodies ran ownKind ownNumber) (some (.int r_)) (w_M_isPlace G a_this a_height a_changeAt a_changeWas a_changeIs a_tape a_text a_names a_line a_row a_pastMany a_past a_changed a_greatest a_numbersWere a_told a_waysOf a_waysWere a_blocks a_ordersOf a_imageLine a_bodyKind a_trace a_shelf a_many a_items a_carried people keptMany done tapeMany textMany base at_ ends fault opened lineMany rowMany taller tallerBy pasts isKept imageMany bodies ran ownKind ownNumber) := by
  refine zM.of [(0, .ref a_this), (1, .int x1)] (own := RX12) rfl (by decide +kernel) (Nat.le_of_ble_eq_true rfl) rfl rfl fun X hX F => ?_
  subst hX
  replace hf := (f_M_isPlace.eq_1 ..).symm.trans hf
  refine z_iload_n F 1 dX12_isPlace_0 rfl rfl ?_
  refine z_i2l F dX12_isPlace_1 ?_
  refine z_lconst F (0) dX12_isPlace_2 rfl ?_
  refine z_aload_n F 0 dX12_isPlace_3 rfl rfl ?_
  refine z_get F 0 12 18 inlX12 rfl rfl (by decide) fl_X12_100 rfl dX12_isPlace_4 ?_
  refine z_iconst F (1) dX12_isPlace_7 rfl ?_
  refine z_isub F dX12_isPlace_8 ?_
  refine z_i2l F dX12_isPlace_9 ?_
  refine z_callSm (rest := []) F (c_M_within (xL X) G (Int32.toInt64 x1) 0 (Int32.toInt64 (lineMany - (1 : Int32))) _ rfl) hy_X12_within ml_X12_96 hd_X12_within ⟨by omega, by omega⟩ rfl [] rfl rfl (w_M_isPlace G a_this a_height a_changeAt a_changeWas a_changeIs a_tape a_text a_names a_line a_row a_pastMany a_past a_changed a_greatest a_numbersWere a_told a_waysOf a_waysWere a_blocks a_ordersOf a_imageLine a_bodyKind a_trace a_shelf a_many a_items a_carried people keptMany done tapeMany textMany base at_ ends fault opened lineMany rowMany taller tallerBy pasts isKept imageMany bodies ran ownKind ownNumber) [none] rfl (by decide +kernel) rfl rfl (Nat.le_of_ble_eq_true rfl) dX12_isPlace_10 (fun hz_1 => ?_)
  subst hf
  exact z_iret F rfl (hz_1 _ _ rfl rfl) rfl rfl dX12_isPlace_13

abbrev w_M_placeOf (G : zG) (a_this : Nat) (a_height : Nat) (a_changeAt : Nat) (a_changeWas : Nat) (a_changeIs : Nat) (a_tape : Nat) (a_text : Nat) (a_names : Nat) (a_line : Nat) (a_row : Nat) (a_pastMany : Nat) (a_past : Nat) (a_changed : Nat) (a_greatest : Nat) (a_numbersWere : Nat) (a_told : Nat) (a_waysOf : Nat) (a_waysWere : Nat) (a_blocks : Nat) (a_ordersOf : Nat) (a_imageLine : Nat) (a_bodyKind : Nat) (a_trace : Nat) (a_shelf : Nat) (a_many : Nat) (a_items : Nat) (a_carried : Nat) (people : Int32) (keptMany : Int32) (done : Int32) (tapeMany : Int32) (textMany : Int32) (base : Int32) (at_ : Int32) (ends : Int32) (fault : Int32) (opened : Int32) (lineMany : Int32) (rowMany : Int32) (taller : Int32) (tallerBy : Int32) (pasts : Int32) (isKept : Int32) (imageMany : Int32) (bodies : Int32) (ran : Int32) (ownKind : Int32) (ownNumber : Int32) (line : Nat → Int32) : va_W := [(a_this, cO 12 [.int people, .ref a_height, .ref a_changeAt, .ref a_changeWas, .ref a_changeIs, .int keptMany, .int done, .ref a_tape, .int tapeMany, .ref a_text, .int textMany, .int base, .int at_, .int ends, .int fault, .int opened, .ref a_names, .ref a_line, .int lineMany, .ref a_row, .int rowMany, .int taller, .int tallerBy, .ref a_pastMany, .ref a_past, .int pasts, .ref a_changed, .ref a_greatest, .ref a_numbersWere, .ref a_told, .ref a_waysOf, .ref a_waysWere, .ref a_blocks, .ref a_ordersOf, .int isKept, .int imageMany, .ref a_imageLine, .int bodies, .ref a_bodyKind, .ref a_trace, .int ran, .int ownKind, .int ownNumber, .ref a_shelf, .ref a_many, .ref a_items, .ref a_carried]), (a_line, cI G 9 line)]
def f_M_placeOf_L2 (lineMany : Int32) (line : Nat → Int32) (v1 : Int32) : Nat → Int32 → Option (((Unit) ⊕ (Int32)))
  | 0, _ => none
  | fuel + 1, v2 => (if lineMany ≤ v2 then (some (.inl ())) else (zg line 9 v2 fun v_1 => (if v_1 = v1 then (some (.inr v2)) else (f_M_placeOf_L2 lineMany line v1 fuel (v2 + 1)))))
def f_M_placeOf (lineMany : Int32) (line : Nat → Int32) (x1 : Int32) : Option Int32 := (zbs0 (f_M_placeOf_L2 lineMany line x1 FU 0) ((some (-2))) some)
set_option maxRecDepth 100000 in
set_option maxHeartbeats 4000000 in
theorem l_M_placeOf_2 {X : zX} (G : zG) (a_this : Nat) (a_height : Nat) (a_changeAt : Nat) (a_changeWas : Nat) (a_changeIs : Nat) (a_tape : Nat) (a_text : Nat) (a_names : Nat) (a_line : Nat) (a_row : Nat) (a_pastMany : Nat) (a_past : Nat) (a_changed : Nat) (a_greatest : Nat) (a_numbersWere : Nat) (a_told : Nat) (a_waysOf : Nat) (a_waysWere : Nat) (a_blocks : Nat) (a_ordersOf : Nat) (a_imageLine : Nat) (a_bodyKind : Nat) (a_trace : Nat) (a_shelf : Nat) (a_many : Nat) (a_items : Nat) (a_carried : Nat) (people : Int32) (keptMany : Int32) (done : Int32) (tapeMany : Int32) (textMany : Int32) (base : Int32) (at_ : Int32) (ends : Int32) (fault : Int32) (opened : Int32) (lineMany : Int32) (rowMany : Int32) (taller : Int32) (tallerBy : Int32) (pasts : Int32) (isKept : Int32) (imageMany : Int32) (bodies : Int32) (ran : Int32) (ownKind : Int32) (ownNumber : Int32) (line : Nat → Int32) (v1 : Int32) {v0 : Option Value} {w0 : va_W} (F : zF X G cX12_placeOf RX12 3 (some .int) 0 0 v0 w0) (out : ((Unit) ⊕ (Int32))) (hk : out = .inl () → Z X G 3 (w_M_placeOf G a_this a_height a_changeAt a_changeWas a_changeIs a_tape a_text a_names a_line a_row a_pastMany a_past a_changed a_greatest a_numbersWere a_told a_waysOf a_waysWere a_blocks a_ordersOf a_imageLine a_bodyKind a_trace a_shelf a_many a_items a_carried people keptMany done tapeMany textMany base at_ ends fault opened lineMany rowMany taller tallerBy pasts isKept imageMany bodies ran ownKind ownNumber line) [] 28 []) (hr : ∀ q : Int32, out = .inr q → v0 = some (.int q) ∧ w0 = (w_M_placeOf G a_this a_height a_changeAt a_changeWas a_changeIs a_tape a_text a_names a_line a_row a_pastMany a_past a_changed a_greatest a_numbersWere a_told a_waysOf a_waysWere a_blocks a_ordersOf a_imageLine a_bodyKind a_trace a_shelf a_many a_items a_carried people keptMany done tapeMany textMany base at_ ends fault opened lineMany rowMany taller tallerBy pasts isKept imageMany bodies ran ownKind ownNumber line)) :
    ∀ (fuel : Nat) (v2 : Int32), f_M_placeOf_L2 lineMany line v1 fuel v2 = some out → Z X G 3 (w_M_placeOf G a_this a_height a_changeAt a_changeWas a_changeIs a_tape a_text a_names a_line a_row a_pastMany a_past a_changed a_greatest a_numbersWere a_told a_waysOf a_waysWere a_blocks a_ordersOf a_imageLine a_bodyKind a_trace a_shelf a_many a_items a_carried people keptMany done tapeMany textMany base at_ ends fault opened lineMany rowMany taller tallerBy pasts isKept imageMany bodies ran ownKind ownNumber line) [(0, .ref a_this), (1, .int v1), (2, .int v2)] 2 [] := by
  intro fuel
  induction fuel with
  | zero => intro v2 hf; exact absurd ((f_M_placeOf_L2.eq_1 ..).symm.trans hf) (fun h => by cases h)
  | succ fuel ih =>
    intro v2 hf
    replace hf := (f_M_placeOf_L2.eq_2 ..).symm.trans hf
    refine z_iload_n F 2 dX12_placeOf_2 rfl rfl ?_
    refine z_aload_n F 0 dX12_placeOf_3 rfl rfl ?_
    refine z_get F 0 12 18 inlX12 rfl rfl (by decide) fl_X12_100 rfl dX12_placeOf_4 ?_
    refine z_icmp_ge F 28 dX12_placeOf_7 (by decide) hf (fun hf _ => ?_) (fun hf _ => ?_)
    · exact z_sub [] rfl (hk  (Option.some.inj hf).symm)
    · refine z_aload_n F 0 dX12_placeOf_10 rfl rfl ?_
      refine z_get F 0 12 17 inlX12 rfl rfl (by decide) fl_X12_31 rfl dX12_placeOf_11 ?_
      refine z_iload_n F 2 dX12_placeOf_14 rfl rfl ?_
      refine z_iald F 1 rfl hf dX12_placeOf_15 (fun v_1 hf => ?_)
      refine z_iload_n F 1 dX12_placeOf_16 rfl rfl ?_
      refine z_icmp_ne F 22 dX12_placeOf_17 (by decide) hf (fun hf _ => ?_) (fun hf _ => ?_)
      · refine z_iinc F [(2, .int (v2 + 1)), (0, .ref a_this), (1, .int v1)] dX12_placeOf_22 2 rfl rfl (by decide) rfl ?_
        refine z_goto F 2 dX12_placeOf_25 (by decide) ?_
        exact z_sub [1, 2, 0] rfl (ih (v2 + 1) hf)
      · refine z_iload_n F 2 dX12_placeOf_20 rfl rfl ?_
        obtain ⟨e1, e2⟩ := hr _ (Option.some.inj hf).symm
        exact z_iret F rfl rfl e1.symm e2.symm dX12_placeOf_21

set_option maxRecDepth 100000 in
set_option maxHeartbeats 4000000 in
theorem c_M_placeOf (l : Launch) (G : zG) (a_this : Nat) (a_height : Nat) (a_changeAt : Nat) (a_changeWas : Nat) (a_changeIs : Nat) (a_tape : Nat) (a_text : Nat) (a_names : Nat) (a_line : Nat) (a_row : Nat) (a_pastMany : Nat) (a_past : Nat) (a_changed : Nat) (a_greatest : Nat) (a_numbersWere : Nat) (a_told : Nat) (a_waysOf : Nat) (a_waysWere : Nat) (a_blocks : Nat) (a_ordersOf : Nat) (a_imageLine : Nat) (a_bodyKind : Nat) (a_trace : Nat) (a_shelf : Nat) (a_many : Nat) (a_items : Nat) (a_carried : Nat) (people : Int32) (keptMany : Int32) (done : Int32) (tapeMany : Int32) (textMany : Int32) (base : Int32) (at_ : Int32) (ends : Int32) (fault : Int32) (opened : Int32) (lineMany : Int32) (rowMany : Int32) (taller : Int32) (tallerBy : Int32) (pasts : Int32) (isKept : Int32) (imageMany : Int32) (bodies : Int32) (ran : Int32) (ownKind : Int32) (ownNumber : Int32) (line : Nat → Int32) (x1 : Int32) (r_ : Int32) (hf : f_M_placeOf lineMany line x1 = some r_) : zM l yX12_placeOf cX12_placeOf 3 (some .int) 0 0 G [.ref a_this, .int x1] (w_M_placeOf G a_this a_height a_changeAt a_changeWas a_changeIs a_tape a_text a_names a_line a_row a_pastMany a_past a_changed a_greatest a_numbersWere a_told a_waysOf a_waysWere a_blocks a_ordersOf a_imageLine a_bodyKind a_trace a_shelf a_many a_items a_carried people keptMany done tapeMany textMany base at_ ends fault opened lineMany rowMany taller tallerBy pasts isKept imageMany bodies ran ownKind ownNumber line) (some (.int r_)) (w_M_placeOf G a_this a_height a_changeAt a_changeWas a_changeIs a_tape a_text a_names a_line a_row a_pastMany a_past a_changed a_greatest a_numbersWere a_told a_waysOf a_waysWere a_blocks a_ordersOf a_imageLine a_bodyKind a_trace a_shelf a_many a_items a_carried people keptMany done tapeMany textMany base at_ ends fault opened lineMany rowMany taller tallerBy pasts isKept imageMany bodies ran ownKind ownNumber line) := by
  refine zM.of [(0, .ref a_this), (1, .int x1)] (own := RX12) rfl (by decide +kernel) (Nat.le_of_ble_eq_true rfl) rfl rfl fun X hX F => ?_
  subst hX
  replace hf := (f_M_placeOf.eq_1 ..).symm.trans hf
  refine z_iconst F (0) dX12_placeOf_0 rfl ?_
  refine z_istore_n F [(2, .int 0), (0, .ref a_this), (1, .int x1)] dX12_placeOf_1 rfl (by decide) rfl ?_
  obtain ⟨z_2, hg, hf1_3, hf2_4⟩ := zbs0_some hf
  refine z_sub [1, 2, 0] rfl ?_
  refine l_M_placeOf_2 G a_this a_height a_changeAt a_changeWas a_changeIs a_tape a_text a_names a_line a_row a_pastMany a_past a_changed a_greatest a_numbersWere a_told a_waysOf a_waysWere a_blocks a_ordersOf a_imageLine a_bodyKind a_trace a_shelf a_many a_items a_carried people keptMany done tapeMany textMany base at_ ends fault opened lineMany rowMany taller tallerBy pasts isKept imageMany bodies ran ownKind ownNumber line x1 F z_2 (fun e => ?_) (fun q e => ?_) FU 0 hg
  · have hf := hf1_3 e
    refine z_bipush F (-2) dX12_placeOf_28 rfl ?_
    have ee1 := Option.some.inj hf
    subst ee1
    exact z_iret F rfl rfl rfl rfl dX12_placeOf_30
  · have hf := hf2_4 _ e
    cases hf
    exact ⟨rfl, rfl⟩

abbrev w_M_numberNow (G : zG) (a_this : Nat) (a_height : Nat) (a_changeAt : Nat) (a_changeWas : Nat) (a_changeIs : Nat) (a_tape : Nat) (a_text : Nat) (a_names : Nat) (a_line : Nat) (a_row : Nat) (a_pastMany : Nat) (a_past : Nat) (a_changed : Nat) (a_greatest : Nat) (a_numbersWere : Nat) (a_told : Nat) (a_waysOf : Nat) (a_waysWere : Nat) (a_blocks : Nat) (a_ordersOf : Nat) (a_imageLine : Nat) (a_bodyKind : Nat) (a_trace : Nat) (a_shelf : Nat) (a_many : Nat) (a_items : Nat) (a_carried : Nat) (people : Int32) (keptMany : Int32) (done : Int32) (tapeMany : Int32) (textMany : Int32) (base : Int32) (at_ : Int32) (ends : Int32) (fault : Int32) (opened : Int32) (lineMany : Int32) (rowMany : Int32) (taller : Int32) (tallerBy : Int32) (pasts : Int32) (isKept : Int32) (imageMany : Int32) (bodies : Int32) (ran : Int32) (ownKind : Int32) (ownNumber : Int32) (height : Nat → Int32) (tape : Nat → Int32) (text : Nat → Int32) (names : Nat → Int32) (line : Nat → Int32) (row : Nat → Int32) : va_W := [(a_this, cO 12 [.int people, .ref a_height, .ref a_changeAt, .ref a_changeWas, .ref a_changeIs, .int keptMany, .int done, .ref a_tape, .int tapeMany, .ref a_text, .int textMany, .int base, .int at_, .int ends, .int fault, .int opened, .ref a_names, .ref a_line, .int lineMany, .ref a_row, .int rowMany, .int taller, .int tallerBy, .ref a_pastMany, .ref a_past, .int pasts, .ref a_changed, .ref a_greatest, .ref a_numbersWere, .ref a_told, .ref a_waysOf, .ref a_waysWere, .ref a_blocks, .ref a_ordersOf, .int isKept, .int imageMany, .ref a_imageLine, .int bodies, .ref a_bodyKind, .ref a_trace, .int ran, .int ownKind, .int ownNumber, .ref a_shelf, .ref a_many, .ref a_items, .ref a_carried]), (a_height, cI G 9 height), (a_tape, cI G 120 tape), (a_text, cI G 120 text), (a_names, cI G 5 names), (a_line, cI G 9 line), (a_row, cI G 9 row)]
def f_M_numberNow (textMany : Int32) (base : Int32) (at_ : Int32) (ends : Int32) (fault : Int32) (opened : Int32) (lineMany : Int32) (rowMany : Int32) (taller : Int32) (tallerBy : Int32) (height : Nat → Int32) (tape : Nat → Int32) (text : Nat → Int32) (names : Nat → Int32) (line : Nat → Int32) (row : Nat → Int32) (x1 : Int32) : Option (Int32 × Int32 × Int32 × Int32 × Int32 × Int32 × Int32 × Int32 × (Nat → Int32) × (Nat → Int32)) := (zb3 (f_M_laysOut lineMany rowMany taller line row) fun rowMany_1 taller_2 row_3 => (zb7 (f_M_numberAt textMany base at_ ends fault opened taller_2 tallerBy height tape text names row_3 x1) fun r_5 base_6 at__7 ends_8 fault_9 opened_10 names_11 => (some (r_5, base_6, at__7, ends_8, fault_9, opened_10, rowMany_1, taller_2, names_11, row_3))))
set_option maxRecDepth 100000 in
set_option maxHeartbeats 4000000 in
theorem c_M_numberNow (l : Launch) (G : zG) (a_this : Nat) (a_height : Nat) (a_changeAt : Nat) (a_changeWas : Nat) (a_changeIs : Nat) (a_tape : Nat) (a_text : Nat) (a_names : Nat) (a_line : Nat) (a_row : Nat) (a_pastMany : Nat) (a_past : Nat) (a_changed : Nat) (a_greatest : Nat) (a_numbersWere : Nat) (a_told : Nat) (a_waysOf : Nat) (a_waysWere : Nat) (a_blocks : Nat) (a_ordersOf : Nat) (a_imageLine : Nat) (a_bodyKind : Nat) (a_trace : Nat) (a_shelf : Nat) (a_many : Nat) (a_items : Nat) (a_carried : Nat) (people : Int32) (keptMany : Int32) (done : Int32) (tapeMany : Int32) (textMany : Int32) (base : Int32) (at_ : Int32) (ends : Int32) (fault : Int32) (opened : Int32) (lineMany : Int32) (rowMany : Int32) (taller : Int32) (tallerBy : Int32) (pasts : Int32) (isKept : Int32) (imageMany : Int32) (bodies : Int32) (ran : Int32) (ownKind : Int32) (ownNumber : Int32) (height : Nat → Int32) (tape : Nat → Int32) (text : Nat → Int32) (names : Nat → Int32) (line : Nat → Int32) (row : Nat → Int32) (x1 : Int32) (r_ : Int32) (o_base : Int32) (o_at_ : Int32) (o_ends : Int32) (o_fault : Int32) (o_opened : Int32) (o_rowMany : Int32) (o_taller : Int32) (o_names : Nat → Int32) (o_row : Nat → Int32) (hf : f_M_numberNow textMany base at_ ends fault opened lineMany rowMany taller tallerBy height tape text names line row x1 = some (r_, o_base, o_at_, o_ends, o_fault, o_opened, o_rowMany, o_taller, o_names, o_row)) : zM l yX12_numberNow cX12_numberNow 2 (some .int) 152 3533 G [.ref a_this, .int x1] (w_M_numberNow G a_this a_height a_changeAt a_changeWas a_changeIs a_tape a_text a_names a_line a_row a_pastMany a_past a_changed a_greatest a_numbersWere a_told a_waysOf a_waysWere a_blocks a_ordersOf a_imageLine a_bodyKind a_trace a_shelf a_many a_items a_carried people keptMany done tapeMany textMany base at_ ends fault opened lineMany rowMany taller tallerBy pasts isKept imageMany bodies ran ownKind ownNumber height tape text names line row) (some (.int r_)) (w_M_numberNow G a_this a_height a_changeAt a_changeWas a_changeIs a_tape a_text a_names a_line a_row a_pastMany a_past a_changed a_greatest a_numbersWere a_told a_waysOf a_waysWere a_blocks a_ordersOf a_imageLine a_bodyKind a_trace a_shelf a_many a_items a_carried people keptMany done tapeMany textMany o_base o_at_ o_ends o_fault o_opened lineMany o_rowMany o_taller tallerBy pasts isKept imageMany bodies ran ownKind ownNumber height tape text o_names line o_row) := by
  refine zM.of [(0, .ref a_this), (1, .int x1)] (own := RX12) rfl (by decide +kernel) (Nat.le_of_ble_eq_true rfl) rfl rfl fun X hX F => ?_
  subst hX
  replace hf := (f_M_numberNow.eq_1 ..).symm.trans hf
  refine z_aload_n F 0 dX12_numberNow_0 rfl rfl ?_
  obtain ⟨rowMany_1, taller_2, row_3, hg, hf⟩ := zb3_some hf
  refine z_callVm (rest := []) F 12 (c_M_laysOut (xL X) G a_this a_height a_changeAt a_changeWas a_changeIs a_tape a_text a_names a_line a_row a_pastMany a_past a_changed a_greatest a_numbersWere a_told a_waysOf a_waysWere a_blocks a_ordersOf a_imageLine a_bodyKind a_trace a_shelf a_many a_items a_carried people keptMany done tapeMany textMany base at_ ends fault opened lineMany rowMany taller tallerBy pasts isKept imageMany bodies ran ownKind ownNumber line row rowMany_1 taller_2 row_3 hg) hy_X12_laysOut ml_X12_203 hd_X12_laysOut ⟨by omega, by omega⟩ rfl [0, 5, 6] rfl rfl 0 rfl rfl (w_M_numberNow G a_this a_height a_changeAt a_changeWas a_changeIs a_tape a_text a_names a_line a_row a_pastMany a_past a_changed a_greatest a_numbersWere a_told a_waysOf a_waysWere a_blocks a_ordersOf a_imageLine a_bodyKind a_trace a_shelf a_many a_items a_carried people keptMany done tapeMany textMany base at_ ends fault opened lineMany rowMany_1 taller_2 tallerBy pasts isKept imageMany bodies ran ownKind ownNumber height tape text names line row_3) [some 0, none, none, none, none, some 1, some 2] rfl (by decide +kernel) rfl rfl (Nat.le_of_ble_eq_true rfl) dX12_numberNow_1 (fun hz_4 => ?_)
  refine z_aload_n F 0 dX12_numberNow_4 rfl rfl ?_
  refine z_iload_n F 1 dX12_numberNow_5 rfl rfl ?_
  obtain ⟨r_5, base_6, at__7, ends_8, fault_9, opened_10, names_11, hg, hf⟩ := zb7_some hf
  refine z_callVm (rest := []) F 12 (c_M_numberAt (xL X) G a_this a_height a_changeAt a_changeWas a_changeIs a_tape a_text a_names a_line a_row a_pastMany a_past a_changed a_greatest a_numbersWere a_told a_waysOf a_waysWere a_blocks a_ordersOf a_imageLine a_bodyKind a_trace a_shelf a_many a_items a_carried people keptMany done tapeMany textMany base at_ ends fault opened lineMany rowMany_1 taller_2 tallerBy pasts isKept imageMany bodies ran ownKind ownNumber height tape text names row_3 x1 r_5 base_6 at__7 ends_8 fault_9 opened_10 names_11 hg) hy_X12_numberAt ml_X12_200 hd_X12_numberAt ⟨by omega, by omega⟩ rfl [0, 1, 2, 3, 4, 6] rfl rfl 0 rfl rfl (w_M_numberNow G a_this a_height a_changeAt a_changeWas a_changeIs a_tape a_text a_names a_line a_row a_pastMany a_past a_changed a_greatest a_numbersWere a_told a_waysOf a_waysWere a_blocks a_ordersOf a_imageLine a_bodyKind a_trace a_shelf a_many a_items a_carried people keptMany done tapeMany textMany base_6 at__7 ends_8 fault_9 opened_10 lineMany rowMany_1 taller_2 tallerBy pasts isKept imageMany bodies ran ownKind ownNumber height tape text names_11 line row_3) [some 0, some 1, some 2, some 3, some 4, none, some 5] rfl (by decide +kernel) rfl rfl (Nat.le_of_ble_eq_true rfl) dX12_numberNow_6 (fun hz_12 => ?_)
  have eq1 := Option.some.inj hf
  obtain ⟨ee1, eq2⟩ := Prod.mk.inj eq1
  obtain ⟨ee2, eq3⟩ := Prod.mk.inj eq2
  obtain ⟨ee3, eq4⟩ := Prod.mk.inj eq3
  obtain ⟨ee4, eq5⟩ := Prod.mk.inj eq4
  obtain ⟨ee5, eq6⟩ := Prod.mk.inj eq5
  obtain ⟨ee6, eq7⟩ := Prod.mk.inj eq6
  obtain ⟨ee7, eq8⟩ := Prod.mk.inj eq7
  obtain ⟨ee8, eq9⟩ := Prod.mk.inj eq8
  obtain ⟨ee9, ee10⟩ := Prod.mk.inj eq9
  subst ee1
  subst ee2
  subst ee3
  subst ee4
  subst ee5
  subst ee6
  subst ee7
  subst ee8
  subst ee9
  subst ee10
  exact z_iret F rfl rfl rfl rfl dX12_numberNow_9

abbrev w_M_ofPerson (G : zG) (a_this : Nat) (a_height : Nat) (a_changeAt : Nat) (a_changeWas : Nat) (a_changeIs : Nat) (a_tape : Nat) (a_text : Nat) (a_names : Nat) (a_line : Nat) (a_row : Nat) (a_pastMany : Nat) (a_past : Nat) (a_changed : Nat) (a_greatest : Nat) (a_numbersWere : Nat) (a_told : Nat) (a_waysOf : Nat) (a_waysWere : Nat) (a_blocks : Nat) (a_ordersOf : Nat) (a_imageLine : Nat) (a_bodyKind : Nat) (a_trace : Nat) (a_shelf : Nat) (a_many : Nat) (a_items : Nat) (a_carried : Nat) (people : Int32) (keptMany : Int32) (done : Int32) (tapeMany : Int32) (textMany : Int32) (base : Int32) (at_ : Int32) (ends : Int32) (fault : Int32) (opened : Int32) (lineMany : Int32) (rowMany : Int32) (taller : Int32) (tallerBy : Int32) (pasts : Int32) (isKept : Int32) (imageMany : Int32) (bodies : Int32) (ran : Int32) (ownKind : Int32) (ownNumber : Int32) (height : Nat → Int32) (tape : Nat → Int32) (text : Nat → Int32) (names : Nat → Int32) (line : Nat → Int32) (row : Nat → Int32) (changed : Nat → Int32) (greatest : Nat → Int32) : va_W := [(a_this, cO 12 [.int people, .ref a_height, .ref a_changeAt, .ref a_changeWas, .ref a_changeIs, .int keptMany, .int done, .ref a_tape, .int tapeMany, .ref a_text, .int textMany, .int base, .int at_, .int ends, .int fault, .int opened, .ref a_names, .ref a_line, .int lineMany, .ref a_row, .int rowMany, .int taller, .int tallerBy, .ref a_pastMany, .ref a_past, .int pasts, .ref a_changed, .ref a_greatest, .ref a_numbersWere, .ref a_told, .ref a_waysOf, .ref a_waysWere, .ref a_blocks, .ref a_ordersOf, .int isKept, .int imageMany, .ref a_imageLine, .int bodies, .ref a_bodyKind, .ref a_trace, .int ran, .int ownKind, .int ownNumber, .ref a_shelf, .ref a_many, .ref a_items, .ref a_carried]), (a_height, cI G 9 height), (a_tape, cI G 120 tape), (a_text, cI G 120 text), (a_names, cI G 5 names), (a_line, cI G 9 line), (a_row, cI G 9 row), (a_changed, cI G 9 changed), (a_greatest, cI G 9 greatest)]
def f_M_ofPerson (textMany : Int32) (base : Int32) (at_ : Int32) (ends : Int32) (fault : Int32) (opened : Int32) (lineMany : Int32) (rowMany : Int32) (taller : Int32) (tallerBy : Int32) (height : Nat → Int32) (tape : Nat → Int32) (text : Nat → Int32) (names : Nat → Int32) (line : Nat → Int32) (row : Nat → Int32) (changed : Nat → Int32) (greatest : Nat → Int32) (x1 : Int32) (x2 : Int32) : Option (Int32 × Int32 × Int32 × Int32 × Int32 × Int32 × Int32 × Int32 × (Nat → Int32) × (Nat → Int32)) := (if x2 = 0 then (zg height 9 x1 fun v_2 => (some (v_2, base, at_, ends, fault, opened, rowMany, taller, names, row))) else (if x2 = 1 then (zb1 (f_M_placeOf lineMany line x1) fun r_4 => (some (r_4, base, at_, ends, fault, opened, rowMany, taller, names, row))) else (if x2 = 2 then (zb1 (f_M_placeOf lineMany line x1) fun r_7 => (if (0 : Int32) ≤ r_7 then (zb1 (f_M_placeOf lineMany line x1) fun r_9 => (zb10 (f_M_numberNow textMany base at_ ends fault opened lineMany rowMany taller tallerBy height tape text names line row r_9) fun r_11 base_12 at__13 ends_14 fault_15 opened_16 rowMany_17 taller_18 names_19 row_20 => (some (r_11, base_12, at__13, ends_14, fault_15, opened_16, rowMany_17, taller_18, names_19, row_20)))) else (some ((-2), base, at_, ends, fault, opened, rowMany, taller, names, row)))) else (if x2 = 3 then (zg changed 9 x1 fun v_23 => (some (v_23, base, at_, ends, fault, opened, rowMany, taller, names, row))) else (zg greatest 9 x1 fun v_24 => (some (v_24, base, at_, ends, fault, opened, rowMany, taller, names, row)))))))
set_option maxRecDepth 100000 in
set_option maxHeartbeats 4000000 in
theorem c_M_ofPerson (l : Launch) (G : zG) (a_this : Nat) (a_height : Nat) (a_changeAt : Nat) (a_changeWas : Nat) (a_changeIs : Nat) (a_tape : Nat) (a_text : Nat) (a_names : Nat) (a_line : Nat) (a_row : Nat) (a_pastMany : Nat) (a_past : Nat) (a_changed : Nat) (a_greatest : Nat) (a_numbersWere : Nat) (a_told : Nat) (a_waysOf : Nat) (a_waysWere : Nat) (a_blocks : Nat) (a_ordersOf : Nat) (a_imageLine : Nat) (a_bodyKind : Nat) (a_trace : Nat) (a_shelf : Nat) (a_many : Nat) (a_items : Nat) (a_carried : Nat) (people : Int32) (keptMany : Int32) (done : Int32) (tapeMany : Int32) (textMany : Int32) (base : Int32) (at_ : Int32) (ends : Int32) (fault : Int32) (opened : Int32) (lineMany : Int32) (rowMany : Int32) (taller : Int32) (tallerBy : Int32) (pasts : Int32) (isKept : Int32) (imageMany : Int32) (bodies : Int32) (ran : Int32) (ownKind : Int32) (ownNumber : Int32) (height : Nat → Int32) (tape : Nat → Int32) (text : Nat → Int32) (names : Nat → Int32) (line : Nat → Int32) (row : Nat → Int32) (changed : Nat → Int32) (greatest : Nat → Int32) (x1 : Int32) (x2 : Int32) (r_ : Int32) (o_base : Int32) (o_at_ : Int32) (o_ends : Int32) (o_fault : Int32) (o_opened : Int32) (o_rowMany : Int32) (o_taller : Int32) (o_names : Nat → Int32) (o_row : Nat → Int32) (hf : f_M_ofPerson textMany base at_ ends fault opened lineMany rowMany taller tallerBy height tape text names line row changed greatest x1 x2 = some (r_, o_base, o_at_, o_ends, o_fault, o_opened, o_rowMany, o_taller, o_names, o_row)) : zM l yX12_ofPerson cX12_ofPerson 3 (some .int) 153 3554 G [.ref a_this, .int x1, .int x2] (w_M_ofPerson G a_this a_height a_changeAt a_changeWas a_changeIs a_tape a_text a_names a_line a_row a_pastMany a_past a_changed a_greatest a_numbersWere a_told a_waysOf a_waysWere a_blocks a_ordersOf a_imageLine a_bodyKind a_trace a_shelf a_many a_items a_carried people keptMany done tapeMany textMany base at_ ends fault opened lineMany rowMany taller tallerBy pasts isKept imageMany bodies ran ownKind ownNumber height tape text names line row changed greatest) (some (.int r_)) (w_M_ofPerson G a_this a_height a_changeAt a_changeWas a_changeIs a_tape a_text a_names a_line a_row a_pastMany a_past a_changed a_greatest a_numbersWere a_told a_waysOf a_waysWere a_blocks a_ordersOf a_imageLine a_bodyKind a_trace a_shelf a_many a_items a_carried people keptMany done tapeMany textMany o_base o_at_ o_ends o_fault o_opened lineMany o_rowMany o_taller tallerBy pasts isKept imageMany bodies ran ownKind ownNumber height tape text o_names line o_row changed greatest) := by
  refine zM.of [(0, .ref a_this), (1, .int x1), (2, .int x2)] (own := RX12) rfl (by decide +kernel) (Nat.le_of_ble_eq_true rfl) rfl rfl fun X hX F => ?_
  subst hX
  replace hf := (f_M_ofPerson.eq_1 ..).symm.trans hf
  refine z_iload_n F 2 dX12_ofPerson_0 rfl rfl ?_
  by_cases hc_1 : x2 = 0
  · replace hf := zif_t hf hc_1
    refine z_tabIn (off := 31) F 32 dX12_ofPerson_1 (by rw [hc_1]; decide +kernel) (by rw [hc_1]; decide +kernel) (by rw [hc_1]; decide +kernel) (by decide) ?_
    refine z_aload_n F 0 dX12_ofPerson_32 rfl rfl ?_
    refine z_get F 0 12 1 inlX12 rfl rfl (by decide) fl_X12_9 rfl dX12_ofPerson_33 ?_
    refine z_iload_n F 1 dX12_ofPerson_36 rfl rfl ?_
    refine z_iald F 1 rfl hf dX12_ofPerson_37 (fun v_2 hf => ?_)
    have eq1 := Option.some.inj hf
    obtain ⟨ee1, eq2⟩ := Prod.mk.inj eq1
    obtain ⟨ee2, eq3⟩ := Prod.mk.inj eq2
    obtain ⟨ee3, eq4⟩ := Prod.mk.inj eq3
    obtain ⟨ee4, eq5⟩ := Prod.mk.inj eq4
    obtain ⟨ee5, eq6⟩ := Prod.mk.inj eq5
    obtain ⟨ee6, eq7⟩ := Prod.mk.inj eq6
    obtain ⟨ee7, eq8⟩ := Prod.mk.inj eq7
    obtain ⟨ee8, eq9⟩ := Prod.mk.inj eq8
    obtain ⟨ee9, ee10⟩ := Prod.mk.inj eq9
    subst ee1
    subst ee2
    subst ee3
    subst ee4
    subst ee5
    subst ee6
    subst ee7
    subst ee8
    subst ee9
    subst ee10
    exact z_iret F rfl rfl rfl rfl dX12_ofPerson_38
  · replace hf := zif_f hf hc_1
    by_cases hc_3 : x2 = 1
    · replace hf := zif_t hf hc_3
      refine z_tabIn (off := 38) F 39 dX12_ofPerson_1 (by rw [hc_3]; decide +kernel) (by rw [hc_3]; decide +kernel) (by rw [hc_3]; decide +kernel) (by decide) ?_
      refine z_aload_n F 0 dX12_ofPerson_39 rfl rfl ?_
      refine z_iload_n F 1 dX12_ofPerson_40 rfl rfl ?_
      obtain ⟨r_4, hg, hf⟩ := zb1_some hf
      refine z_callVm (rest := []) F 12 (c_M_placeOf (xL X) G a_this a_height a_changeAt a_changeWas a_changeIs a_tape a_text a_names a_line a_row a_pastMany a_past a_changed a_greatest a_numbersWere a_told a_waysOf a_waysWere a_blocks a_ordersOf a_imageLine a_bodyKind a_trace a_shelf a_many a_items a_carried people keptMany done tapeMany textMany base at_ ends fault opened lineMany rowMany taller tallerBy pasts isKept imageMany bodies ran ownKind ownNumber line x1 r_4 hg) hy_X12_placeOf ml_X12_224 hd_X12_placeOf ⟨by omega, by omega⟩ rfl [0, 5] rfl rfl 0 rfl rfl (w_M_ofPerson G a_this a_height a_changeAt a_changeWas a_changeIs a_tape a_text a_names a_line a_row a_pastMany a_past a_changed a_greatest a_numbersWere a_told a_waysOf a_waysWere a_blocks a_ordersOf a_imageLine a_bodyKind a_trace a_shelf a_many a_items a_carried people keptMany done tapeMany textMany base at_ ends fault opened lineMany rowMany taller tallerBy pasts isKept imageMany bodies ran ownKind ownNumber height tape text names line row changed greatest) [some 0, none, none, none, none, some 1, none, none, none] rfl (by decide +kernel) rfl rfl (Nat.le_of_ble_eq_true rfl) dX12_ofPerson_41 (fun hz_5 => ?_)
      have eq1 := Option.some.inj hf
      obtain ⟨ee1, eq2⟩ := Prod.mk.inj eq1
      obtain ⟨ee2, eq3⟩ := Prod.mk.inj eq2
      obtain ⟨ee3, eq4⟩ := Prod.mk.inj eq3
      obtain ⟨ee4, eq5⟩ := Prod.mk.inj eq4
      obtain ⟨ee5, eq6⟩ := Prod.mk.inj eq5
      obtain ⟨ee6, eq7⟩ := Prod.mk.inj eq6
      obtain ⟨ee7, eq8⟩ := Prod.mk.inj eq7
      obtain ⟨ee8, eq9⟩ := Prod.mk.inj eq8
      obtain ⟨ee9, ee10⟩ := Prod.mk.inj eq9
      subst ee1
      subst ee2
      subst ee3
      subst ee4
      subst ee5
      subst ee6
      subst ee7
      subst ee8
      subst ee9
      subst ee10
      exact z_iret F rfl rfl rfl rfl dX12_ofPerson_44
    · replace hf := zif_f hf hc_3
      by_cases hc_6 : x2 = 2
      · replace hf := zif_t hf hc_6
        refine z_tabIn (off := 44) F 45 dX12_ofPerson_1 (by rw [hc_6]; decide +kernel) (by rw [hc_6]; decide +kernel) (by rw [hc_6]; decide +kernel) (by decide) ?_
        refine z_aload_n F 0 dX12_ofPerson_45 rfl rfl ?_
        refine z_iload_n F 1 dX12_ofPerson_46 rfl rfl ?_
        obtain ⟨r_7, hg, hf⟩ := zb1_some hf
        refine z_callVm (rest := []) F 12 (c_M_placeOf (xL X) G a_this a_height a_changeAt a_changeWas a_changeIs a_tape a_text a_names a_line a_row a_pastMany a_past a_changed a_greatest a_numbersWere a_told a_waysOf a_waysWere a_blocks a_ordersOf a_imageLine a_bodyKind a_trace a_shelf a_many a_items a_carried people keptMany done tapeMany textMany base at_ ends fault opened lineMany rowMany taller tallerBy pasts isKept imageMany bodies ran ownKind ownNumber line x1 r_7 hg) hy_X12_placeOf ml_X12_224 hd_X12_placeOf ⟨by omega, by omega⟩ rfl [0, 5] rfl rfl 0 rfl rfl (w_M_ofPerson G a_this a_height a_changeAt a_changeWas a_changeIs a_tape a_text a_names a_line a_row a_pastMany a_past a_changed a_greatest a_numbersWere a_told a_waysOf a_waysWere a_blocks a_ordersOf a_imageLine a_bodyKind a_trace a_shelf a_many a_items a_carried people keptMany done tapeMany textMany base at_ ends fault opened lineMany rowMany taller tallerBy pasts isKept imageMany bodies ran ownKind ownNumber height tape text names line row changed greatest) [some 0, none, none, none, none, some 1, none, none, none] rfl (by decide +kernel) rfl rfl (Nat.le_of_ble_eq_true rfl) dX12_ofPerson_47 (fun hz_8 => ?_)
        refine z_if_ge F 58 dX12_ofPerson_50 (by decide) hf (fun hf _ => ?_) (fun hf _ => ?_)
        · refine z_aload_n F 0 dX12_ofPerson_58 rfl rfl ?_
          refine z_aload_n F 0 dX12_ofPerson_59 rfl rfl ?_
          refine z_iload_n F 1 dX12_ofPerson_60 rfl rfl ?_
          obtain ⟨r_9, hg, hf⟩ := zb1_some hf
          refine z_callVm (rest := [.ref a_this]) F 12 (c_M_placeOf (xL X) G a_this a_height a_changeAt a_changeWas a_changeIs a_tape a_text a_names a_line a_row a_pastMany a_past a_changed a_greatest a_numbersWere a_told a_waysOf a_waysWere a_blocks a_ordersOf a_imageLine a_bodyKind a_trace a_shelf a_many a_items a_carried people keptMany done tapeMany textMany base at_ ends fault opened lineMany rowMany taller tallerBy pasts isKept imageMany bodies ran ownKind ownNumber line x1 r_9 hg) hy_X12_placeOf ml_X12_224 hd_X12_placeOf ⟨by omega, by omega⟩ rfl [0, 5] rfl rfl 0 rfl rfl (w_M_ofPerson G a_this a_height a_changeAt a_changeWas a_changeIs a_tape a_text a_names a_line a_row a_pastMany a_past a_changed a_greatest a_numbersWere a_told a_waysOf a_waysWere a_blocks a_ordersOf a_imageLine a_bodyKind a_trace a_shelf a_many a_items a_carried people keptMany done tapeMany textMany base at_ ends fault opened lineMany rowMany taller tallerBy pasts isKept imageMany bodies ran ownKind ownNumber height tape text names line row changed greatest) [some 0, none, none, none, none, some 1, none, none, none] rfl (by decide +kernel) rfl rfl (Nat.le_of_ble_eq_true rfl) dX12_ofPerson_61 (fun hz_10 => ?_)
          obtain ⟨r_11, base_12, at__13, ends_14, fault_15, opened_16, rowMany_17, taller_18, names_19, row_20, hg, hf⟩ := zb10_some hf
          refine z_callVm (rest := []) F 12 (c_M_numberNow (xL X) G a_this a_height a_changeAt a_changeWas a_changeIs a_tape a_text a_names a_line a_row a_pastMany a_past a_changed a_greatest a_numbersWere a_told a_waysOf a_waysWere a_blocks a_ordersOf a_imageLine a_bodyKind a_trace a_shelf a_many a_items a_carried people keptMany done tapeMany textMany base at_ ends fault opened lineMany rowMany taller tallerBy pasts isKept imageMany bodies ran ownKind ownNumber height tape text names line row r_9 r_11 base_12 at__13 ends_14 fault_15 opened_16 rowMany_17 taller_18 names_19 row_20 hg) hy_X12_numberNow ml_X12_227 hd_X12_numberNow ⟨by omega, by omega⟩ rfl [0, 1, 2, 3, 4, 5, 6] rfl rfl 0 rfl rfl (w_M_ofPerson G a_this a_height a_changeAt a_changeWas a_changeIs a_tape a_text a_names a_line a_row a_pastMany a_past a_changed a_greatest a_numbersWere a_told a_waysOf a_waysWere a_blocks a_ordersOf a_imageLine a_bodyKind a_trace a_shelf a_many a_items a_carried people keptMany done tapeMany textMany base_12 at__13 ends_14 fault_15 opened_16 lineMany rowMany_17 taller_18 tallerBy pasts isKept imageMany bodies ran ownKind ownNumber height tape text names_19 line row_20 changed greatest) [some 0, some 1, some 2, some 3, some 4, some 5, some 6, none, none] rfl (by decide +kernel) rfl rfl (Nat.le_of_ble_eq_true rfl) dX12_ofPerson_64 (fun hz_21 => ?_)
          have eq1 := Option.some.inj hf
          obtain ⟨ee1, eq2⟩ := Prod.mk.inj eq1
          obtain ⟨ee2, eq3⟩ := Prod.mk.inj eq2
          obtain ⟨ee3, eq4⟩ := Prod.mk.inj eq3
          obtain ⟨ee4, eq5⟩ := Prod.mk.inj eq4
          obtain ⟨ee5, eq6⟩ := Prod.mk.inj eq5
          obtain ⟨ee6, eq7⟩ := Prod.mk.inj eq6
          obtain ⟨ee7, eq8⟩ := Prod.mk.inj eq7
          obtain ⟨ee8, eq9⟩ := Prod.mk.inj eq8
          obtain ⟨ee9, ee10⟩ := Prod.mk.inj eq9
          subst ee1
          subst ee2
          subst ee3
          subst ee4
          subst ee5
          subst ee6
          subst ee7
          subst ee8
          subst ee9
          subst ee10
          exact z_iret F rfl rfl rfl rfl dX12_ofPerson_67
        · refine z_bipush F (-2) dX12_ofPerson_53 rfl ?_
          refine z_goto F 67 dX12_ofPerson_55 (by decide) ?_
          have eq1 := Option.some.inj hf
          obtain ⟨ee1, eq2⟩ := Prod.mk.inj eq1
          obtain ⟨ee2, eq3⟩ := Prod.mk.inj eq2
          obtain ⟨ee3, eq4⟩ := Prod.mk.inj eq3
          obtain ⟨ee4, eq5⟩ := Prod.mk.inj eq4
          obtain ⟨ee5, eq6⟩ := Prod.mk.inj eq5
          obtain ⟨ee6, eq7⟩ := Prod.mk.inj eq6
          obtain ⟨ee7, eq8⟩ := Prod.mk.inj eq7
          obtain ⟨ee8, eq9⟩ := Prod.mk.inj eq8
          obtain ⟨ee9, ee10⟩ := Prod.mk.inj eq9
          subst ee1
          subst ee2
          subst ee3
          subst ee4
          subst ee5
          subst ee6
          subst ee7
          subst ee8
          subst ee9
          subst ee10
          exact z_iret F rfl rfl rfl rfl dX12_ofPerson_67
      · replace hf := zif_f hf hc_6
        by_cases hc_22 : x2 = 3
        · replace hf := zif_t hf hc_22
          refine z_tabIn (off := 67) F 68 dX12_ofPerson_1 (by rw [hc_22]; decide +kernel) (by rw [hc_22]; decide +kernel) (by rw [hc_22]; decide +kernel) (by decide) ?_
          refine z_aload_n F 0 dX12_ofPerson_68 rfl rfl ?_
          refine z_get F 0 12 26 inlX12 rfl rfl (by decide) fl_X12_43 rfl dX12_ofPerson_69 ?_
          refine z_iload_n F 1 dX12_ofPerson_72 rfl rfl ?_
          refine z_iald F 7 rfl hf dX12_ofPerson_73 (fun v_23 hf => ?_)
          have eq1 := Option.some.inj hf
          obtain ⟨ee1, eq2⟩ := Prod.mk.inj eq1
          obtain ⟨ee2, eq3⟩ := Prod.mk.inj eq2
          obtain ⟨ee3, eq4⟩ := Prod.mk.inj eq3
          obtain ⟨ee4, eq5⟩ := Prod.mk.inj eq4
          obtain ⟨ee5, eq6⟩ := Prod.mk.inj eq5
          obtain ⟨ee6, eq7⟩ := Prod.mk.inj eq6
          obtain ⟨ee7, eq8⟩ := Prod.mk.inj eq7
          obtain ⟨ee8, eq9⟩ := Prod.mk.inj eq8
          obtain ⟨ee9, ee10⟩ := Prod.mk.inj eq9
          subst ee1
          subst ee2
          subst ee3
          subst ee4
          subst ee5
          subst ee6
          subst ee7
          subst ee8
          subst ee9
          subst ee10
          exact z_iret F rfl rfl rfl rfl dX12_ofPerson_74
        · replace hf := zif_f hf hc_22
          refine z_tabOut F 75 dX12_ofPerson_1 (by have := zne hc_1 (c := 0) (k := 0) rfl; have := zne hc_3 (c := 1) (k := 1) rfl; have := zne hc_6 (c := 2) (k := 2) rfl; have := zne hc_22 (c := 3) (k := 3) rfl; omega) (by decide) ?_
          refine z_aload_n F 0 dX12_ofPerson_75 rfl rfl ?_
          refine z_get F 0 12 27 inlX12 rfl rfl (by decide) fl_X12_46 rfl dX12_ofPerson_76 ?_
          refine z_iload_n F 1 dX12_ofPerson_79 rfl rfl ?_
          refine z_iald F 8 rfl hf dX12_ofPerson_80 (fun v_24 hf => ?_)
          have eq1 := Option.some.inj hf
          obtain ⟨ee1, eq2⟩ := Prod.mk.inj eq1
          obtain ⟨ee2, eq3⟩ := Prod.mk.inj eq2
          obtain ⟨ee3, eq4⟩ := Prod.mk.inj eq3
          obtain ⟨ee4, eq5⟩ := Prod.mk.inj eq4
          obtain ⟨ee5, eq6⟩ := Prod.mk.inj eq5
          obtain ⟨ee6, eq7⟩ := Prod.mk.inj eq6
          obtain ⟨ee7, eq8⟩ := Prod.mk.inj eq7
          obtain ⟨ee8, eq9⟩ := Prod.mk.inj eq8
          obtain ⟨ee9, ee10⟩ := Prod.mk.inj eq9
          subst ee1
          subst ee2
          subst ee3
          subst ee4
          subst ee5
          subst ee6
          subst ee7
          subst ee8
          subst ee9
          subst ee10
          exact z_iret F rfl rfl rfl rfl dX12_ofPerson_81

abbrev w_M_of (G : zG) (a_this : Nat) (a_height : Nat) (a_changeAt : Nat) (a_changeWas : Nat) (a_changeIs : Nat) (a_tape : Nat) (a_text : Nat) (a_names : Nat) (a_line : Nat) (a_row : Nat) (a_pastMany : Nat) (a_past : Nat) (a_changed : Nat) (a_greatest : Nat) (a_numbersWere : Nat) (a_told : Nat) (a_waysOf : Nat) (a_waysWere : Nat) (a_blocks : Nat) (a_ordersOf : Nat) (a_imageLine : Nat) (a_bodyKind : Nat) (a_trace : Nat) (a_shelf : Nat) (a_many : Nat) (a_items : Nat) (a_carried : Nat) (people : Int32) (keptMany : Int32) (done : Int32) (tapeMany : Int32) (textMany : Int32) (base : Int32) (at_ : Int32) (ends : Int32) (fault : Int32) (opened : Int32) (lineMany : Int32) (rowMany : Int32) (taller : Int32) (tallerBy : Int32) (pasts : Int32) (isKept : Int32) (imageMany : Int32) (bodies : Int32) (ran : Int32) (ownKind : Int32) (ownNumber : Int32) (height : Nat → Int32) (tape : Nat → Int32) (text : Nat → Int32) (names : Nat → Int32) (line : Nat → Int32) (row : Nat → Int32) (changed : Nat → Int32) (greatest : Nat → Int32) : va_W := [(a_this, cO 12 [.int people, .ref a_height, .ref a_changeAt, .ref a_changeWas, .ref a_changeIs, .int keptMany, .int done, .ref a_tape, .int tapeMany, .ref a_text, .int textMany, .int base, .int at_, .int ends, .int fault, .int opened, .ref a_names, .ref a_line, .int lineMany, .ref a_row, .int rowMany, .int taller, .int tallerBy, .ref a_pastMany, .ref a_past, .int pasts, .ref a_changed, .ref a_greatest, .ref a_numbersWere, .ref a_told, .ref a_waysOf, .ref a_waysWere, .ref a_blocks, .ref a_ordersOf, .int isKept, .int imageMany, .ref a_imageLine, .int bodies, .ref a_bodyKind, .ref a_trace, .int ran, .int ownKind, .int ownNumber, .ref a_shelf, .ref a_many, .ref a_items, .ref a_carried]), (a_height, cI G 9 height), (a_tape, cI G 120 tape), (a_text, cI G 120 text), (a_names, cI G 5 names), (a_line, cI G 9 line), (a_row, cI G 9 row), (a_changed, cI G 9 changed), (a_greatest, cI G 9 greatest)]
def f_M_of (people : Int32) (textMany : Int32) (base : Int32) (at_ : Int32) (ends : Int32) (fault : Int32) (opened : Int32) (lineMany : Int32) (rowMany : Int32) (taller : Int32) (tallerBy : Int32) (height : Nat → Int32) (tape : Nat → Int32) (text : Nat → Int32) (names : Nat → Int32) (line : Nat → Int32) (row : Nat → Int32) (changed : Nat → Int32) (greatest : Nat → Int32) (x1 : Int32) (x2 : Int32) : Option (Int32 × Int32 × Int32 × Int32 × Int32 × Int32 × Int32 × Int32 × (Nat → Int32) × (Nat → Int32)) := (if (f_M_within (Int32.toInt64 x2) 0 4) = 0 then (if (f_M_within (Int32.toInt64 x2) 10 12) = 0 then (some ((-1), base, at_, ends, fault, opened, rowMany, taller, names, row)) else (if (f_M_isPlace lineMany x1) = 0 then (some ((-1), base, at_, ends, fault, opened, rowMany, taller, names, row)) else (zb3 (f_M_laysOut lineMany rowMany taller line row) fun rowMany_4 taller_5 row_6 => (if x2 = 10 then (zg line 9 x1 fun v_18 => (some (v_18, base, at_, ends, fault, opened, rowMany_4, taller_5, names, row_6))) else (if x2 = 11 then (zb7 (f_M_numberAt textMany base at_ ends fault opened taller_5 tallerBy height tape text names row_6 x1) fun r_10 base_11 at__12 ends_13 fault_14 opened_15 names_16 => (some (r_10, base_11, at__12, ends_13, fault_14, opened_15, rowMany_4, taller_5, names_16, row_6))) else (zb1 (f_M_plainAt height row_6 x1) fun r_8 => (some (r_8, base, at_, ends, fault, opened, rowMany_4, taller_5, names, row_6)))))))) else (if (f_M_isPerson people x1) = 0 then (some ((-1), base, at_, ends, fault, opened, rowMany, taller, names, row)) else (zb10 (f_M_ofPerson textMany base at_ ends fault opened lineMany rowMany taller tallerBy height tape text names line row changed greatest x1 x2) fun r_20 base_21 at__22 ends_23 fault_24 opened_25 rowMany_26 taller_27 names_28 row_29 => (some (r_20, base_21, at__22, ends_23, fault_24, opened_25, rowMany_26, taller_27, names_28, row_29)))))
set_option maxRecDepth 100000 in
set_option maxHeartbeats 4000000 in
theorem c_M_of (l : Launch) (G : zG) (a_this : Nat) (a_height : Nat) (a_changeAt : Nat) (a_changeWas : Nat) (a_changeIs : Nat) (a_tape : Nat) (a_text : Nat) (a_names : Nat) (a_line : Nat) (a_row : Nat) (a_pastMany : Nat) (a_past : Nat) (a_changed : Nat) (a_greatest : Nat) (a_numbersWere : Nat) (a_told : Nat) (a_waysOf : Nat) (a_waysWere : Nat) (a_blocks : Nat) (a_ordersOf : Nat) (a_imageLine : Nat) (a_bodyKind : Nat) (a_trace : Nat) (a_shelf : Nat) (a_many : Nat) (a_items : Nat) (a_carried : Nat) (people : Int32) (keptMany : Int32) (done : Int32) (tapeMany : Int32) (textMany : Int32) (base : Int32) (at_ : Int32) (ends : Int32) (fault : Int32) (opened : Int32) (lineMany : Int32) (rowMany : Int32) (taller : Int32) (tallerBy : Int32) (pasts : Int32) (isKept : Int32) (imageMany : Int32) (bodies : Int32) (ran : Int32) (ownKind : Int32) (ownNumber : Int32) (height : Nat → Int32) (tape : Nat → Int32) (text : Nat → Int32) (names : Nat → Int32) (line : Nat → Int32) (row : Nat → Int32) (changed : Nat → Int32) (greatest : Nat → Int32) (x1 : Int32) (x2 : Int32) (r_ : Int32) (o_base : Int32) (o_at_ : Int32) (o_ends : Int32) (o_fault : Int32) (o_opened : Int32) (o_rowMany : Int32) (o_taller : Int32) (o_names : Nat → Int32) (o_row : Nat → Int32) (hf : f_M_of people textMany base at_ ends fault opened lineMany rowMany taller tallerBy height tape text names line row changed greatest x1 x2 = some (r_, o_base, o_at_, o_ends, o_fault, o_opened, o_rowMany, o_taller, o_names, o_row)) : zM l yX12_of cX12_of 3 (some .int) 154 3576 G [.ref a_this, .int x1, .int x2] (w_M_of G a_this a_height a_changeAt a_changeWas a_changeIs a_tape a_text a_names a_line a_row a_pastMany a_past a_changed a_greatest a_numbersWere a_told a_waysOf a_waysWere a_blocks a_ordersOf a_imageLine a_bodyKind a_trace a_shelf a_many a_items a_carried people keptMany done tapeMany textMany base at_ ends fault opened lineMany rowMany taller tallerBy pasts isKept imageMany bodies ran ownKind ownNumber height tape text names line row changed greatest) (some (.int r_)) (w_M_of G a_this a_height a_changeAt a_changeWas a_changeIs a_tape a_text a_names a_line a_row a_pastMany a_past a_changed a_greatest a_numbersWere a_told a_waysOf a_waysWere a_blocks a_ordersOf a_imageLine a_bodyKind a_trace a_shelf a_many a_items a_carried people keptMany done tapeMany textMany o_base o_at_ o_ends o_fault o_opened lineMany o_rowMany o_taller tallerBy pasts isKept imageMany bodies ran ownKind ownNumber height tape text o_names line o_row changed greatest) := by
  refine zM.of [(0, .ref a_this), (1, .int x1), (2, .int x2)] (own := RX12) rfl (by decide +kernel) (Nat.le_of_ble_eq_true rfl) rfl rfl fun X hX F => ?_
  subst hX
  replace hf := (f_M_of.eq_1 ..).symm.trans hf
  refine z_iload_n F 2 dX12_of_0 rfl rfl ?_
  refine z_i2l F dX12_of_1 ?_
  refine z_lconst F (0) dX12_of_2 rfl ?_
  refine z_ldc2 F (4) (uw18 _ (List.mem_of_getElem? (i := 4) rfl)) dX12_of_3 ?_
  refine z_callSm (rest := []) F (c_M_within (xL X) G (Int32.toInt64 x2) 0 4 _ rfl) hy_X12_within ml_X12_96 hd_X12_within ⟨by omega, by omega⟩ rfl [] rfl rfl (w_M_of G a_this a_height a_changeAt a_changeWas a_changeIs a_tape a_text a_names a_line a_row a_pastMany a_past a_changed a_greatest a_numbersWere a_told a_waysOf a_waysWere a_blocks a_ordersOf a_imageLine a_bodyKind a_trace a_shelf a_many a_items a_carried people keptMany done tapeMany textMany base at_ ends fault opened lineMany rowMany taller tallerBy pasts isKept imageMany bodies ran ownKind ownNumber height tape text names line row changed greatest) [none, none, none, none, none, none, none, none, none] rfl (by decide +kernel) rfl rfl (Nat.le_of_ble_eq_true rfl) dX12_of_6 (fun hz_1 => ?_)
  refine z_if_eq F 31 dX12_of_9 (by decide) hf (fun hf _ => ?_) (fun hf _ => ?_)
  · refine z_iload_n F 2 dX12_of_31 rfl rfl ?_
    refine z_i2l F dX12_of_32 ?_
    refine z_ldc2 F (10) (uw18 _ (List.mem_of_getElem? (i := 5) rfl)) dX12_of_33 ?_
    refine z_ldc2 F (12) (uw18 _ (List.mem_of_getElem? (i := 6) rfl)) dX12_of_36 ?_
    refine z_callSm (rest := []) F (c_M_within (xL X) G (Int32.toInt64 x2) 10 12 _ rfl) hy_X12_within ml_X12_96 hd_X12_within ⟨by omega, by omega⟩ rfl [] rfl rfl (w_M_of G a_this a_height a_changeAt a_changeWas a_changeIs a_tape a_text a_names a_line a_row a_pastMany a_past a_changed a_greatest a_numbersWere a_told a_waysOf a_waysWere a_blocks a_ordersOf a_imageLine a_bodyKind a_trace a_shelf a_many a_items a_carried people keptMany done tapeMany textMany base at_ ends fault opened lineMany rowMany taller tallerBy pasts isKept imageMany bodies ran ownKind ownNumber height tape text names line row changed greatest) [none, none, none, none, none, none, none, none, none] rfl (by decide +kernel) rfl rfl (Nat.le_of_ble_eq_true rfl) dX12_of_39 (fun hz_2 => ?_)
    refine z_if_eq F 53 dX12_of_42 (by decide) hf (fun hf _ => ?_) (fun hf _ => ?_)
    · refine z_iconst F (-1) dX12_of_53 rfl ?_
      have eq1 := Option.some.inj hf
      obtain ⟨ee1, eq2⟩ := Prod.mk.inj eq1
      obtain ⟨ee2, eq3⟩ := Prod.mk.inj eq2
      obtain ⟨ee3, eq4⟩ := Prod.mk.inj eq3
      obtain ⟨ee4, eq5⟩ := Prod.mk.inj eq4
      obtain ⟨ee5, eq6⟩ := Prod.mk.inj eq5
      obtain ⟨ee6, eq7⟩ := Prod.mk.inj eq6
      obtain ⟨ee7, eq8⟩ := Prod.mk.inj eq7
      obtain ⟨ee8, eq9⟩ := Prod.mk.inj eq8
      obtain ⟨ee9, ee10⟩ := Prod.mk.inj eq9
      subst ee1
      subst ee2
      subst ee3
      subst ee4
      subst ee5
      subst ee6
      subst ee7
      subst ee8
      subst ee9
      subst ee10
      exact z_iret F rfl rfl rfl rfl dX12_of_54
    · refine z_aload_n F 0 dX12_of_45 rfl rfl ?_
      refine z_iload_n F 1 dX12_of_46 rfl rfl ?_
      refine z_callVm (rest := []) F 12 (c_M_isPlace (xL X) G a_this a_height a_changeAt a_changeWas a_changeIs a_tape a_text a_names a_line a_row a_pastMany a_past a_changed a_greatest a_numbersWere a_told a_waysOf a_waysWere a_blocks a_ordersOf a_imageLine a_bodyKind a_trace a_shelf a_many a_items a_carried people keptMany done tapeMany textMany base at_ ends fault opened lineMany rowMany taller tallerBy pasts isKept imageMany bodies ran ownKind ownNumber x1 _ rfl) hy_X12_isPlace ml_X12_239 hd_X12_isPlace ⟨by omega, by omega⟩ rfl [0] rfl rfl 0 rfl rfl (w_M_of G a_this a_height a_changeAt a_changeWas a_changeIs a_tape a_text a_names a_line a_row a_pastMany a_past a_changed a_greatest a_numbersWere a_told a_waysOf a_waysWere a_blocks a_ordersOf a_imageLine a_bodyKind a_trace a_shelf a_many a_items a_carried people keptMany done tapeMany textMany base at_ ends fault opened lineMany rowMany taller tallerBy pasts isKept imageMany bodies ran ownKind ownNumber height tape text names line row changed greatest) [some 0, none, none, none, none, none, none, none, none] rfl (by decide +kernel) rfl rfl (Nat.le_of_ble_eq_true rfl) dX12_of_47 (fun hz_3 => ?_)
      refine z_if_ne F 55 dX12_of_50 (by decide) hf (fun hf _ => ?_) (fun hf _ => ?_)
      · refine z_aload_n F 0 dX12_of_55 rfl rfl ?_
        obtain ⟨rowMany_4, taller_5, row_6, hg, hf⟩ := zb3_some hf
        refine z_callVm (rest := []) F 12 (c_M_laysOut (xL X) G a_this a_height a_changeAt a_changeWas a_changeIs a_tape a_text a_names a_line a_row a_pastMany a_past a_changed a_greatest a_numbersWere a_told a_waysOf a_waysWere a_blocks a_ordersOf a_imageLine a_bodyKind a_trace a_shelf a_many a_items a_carried people keptMany done tapeMany textMany base at_ ends fault opened lineMany rowMany taller tallerBy pasts isKept imageMany bodies ran ownKind ownNumber line row rowMany_4 taller_5 row_6 hg) hy_X12_laysOut ml_X12_203 hd_X12_laysOut ⟨by omega, by omega⟩ rfl [0, 5, 6] rfl rfl 0 rfl rfl (w_M_of G a_this a_height a_changeAt a_changeWas a_changeIs a_tape a_text a_names a_line a_row a_pastMany a_past a_changed a_greatest a_numbersWere a_told a_waysOf a_waysWere a_blocks a_ordersOf a_imageLine a_bodyKind a_trace a_shelf a_many a_items a_carried people keptMany done tapeMany textMany base at_ ends fault opened lineMany rowMany_4 taller_5 tallerBy pasts isKept imageMany bodies ran ownKind ownNumber height tape text names line row_6 changed greatest) [some 0, none, none, none, none, some 1, some 2, none, none] rfl (by decide +kernel) rfl rfl (Nat.le_of_ble_eq_true rfl) dX12_of_56 (fun hz_7 => ?_)
        refine z_iload_n F 2 dX12_of_59 rfl rfl ?_
        refine z_bipush F (10) dX12_of_60 rfl ?_
        refine z_icmp_ne F 74 dX12_of_62 (by decide) hf (fun hf _ => ?_) (fun hf _ => ?_)
        · refine z_iload_n F 2 dX12_of_74 rfl rfl ?_
          refine z_bipush F (11) dX12_of_75 rfl ?_
          refine z_icmp_ne F 88 dX12_of_77 (by decide) hf (fun hf _ => ?_) (fun hf _ => ?_)
          · refine z_aload_n F 0 dX12_of_88 rfl rfl ?_
            refine z_iload_n F 1 dX12_of_89 rfl rfl ?_
            obtain ⟨r_8, hg, hf⟩ := zb1_some hf
            refine z_callVm (rest := []) F 12 (c_M_plainAt (xL X) G a_this a_height a_changeAt a_changeWas a_changeIs a_tape a_text a_names a_line a_row a_pastMany a_past a_changed a_greatest a_numbersWere a_told a_waysOf a_waysWere a_blocks a_ordersOf a_imageLine a_bodyKind a_trace a_shelf a_many a_items a_carried people keptMany done tapeMany textMany base at_ ends fault opened lineMany rowMany_4 taller_5 tallerBy pasts isKept imageMany bodies ran ownKind ownNumber height row_6 x1 r_8 hg) hy_X12_plainAt ml_X12_209 hd_X12_plainAt ⟨by omega, by omega⟩ rfl [0, 1, 6] rfl rfl 0 rfl rfl (w_M_of G a_this a_height a_changeAt a_changeWas a_changeIs a_tape a_text a_names a_line a_row a_pastMany a_past a_changed a_greatest a_numbersWere a_told a_waysOf a_waysWere a_blocks a_ordersOf a_imageLine a_bodyKind a_trace a_shelf a_many a_items a_carried people keptMany done tapeMany textMany base at_ ends fault opened lineMany rowMany_4 taller_5 tallerBy pasts isKept imageMany bodies ran ownKind ownNumber height tape text names line row_6 changed greatest) [some 0, some 1, none, none, none, none, some 2, none, none] rfl (by decide +kernel) rfl rfl (Nat.le_of_ble_eq_true rfl) dX12_of_90 (fun hz_9 => ?_)
            have eq1 := Option.some.inj hf
            obtain ⟨ee1, eq2⟩ := Prod.mk.inj eq1
            obtain ⟨ee2, eq3⟩ := Prod.mk.inj eq2
            obtain ⟨ee3, eq4⟩ := Prod.mk.inj eq3
            obtain ⟨ee4, eq5⟩ := Prod.mk.inj eq4
            obtain ⟨ee5, eq6⟩ := Prod.mk.inj eq5
            obtain ⟨ee6, eq7⟩ := Prod.mk.inj eq6
            obtain ⟨ee7, eq8⟩ := Prod.mk.inj eq7
            obtain ⟨ee8, eq9⟩ := Prod.mk.inj eq8
            obtain ⟨ee9, ee10⟩ := Prod.mk.inj eq9
            subst ee1
            subst ee2
            subst ee3
            subst ee4
            subst ee5
            subst ee6
            subst ee7
            subst ee8
            subst ee9
            subst ee10
            exact z_iret F rfl rfl rfl rfl dX12_of_93
          · refine z_aload_n F 0 dX12_of_80 rfl rfl ?_
            refine z_iload_n F 1 dX12_of_81 rfl rfl ?_
            obtain ⟨r_10, base_11, at__12, ends_13, fault_14, opened_15, names_16, hg, hf⟩ := zb7_some hf
            refine z_callVm (rest := []) F 12 (c_M_numberAt (xL X) G a_this a_height a_changeAt a_changeWas a_changeIs a_tape a_text a_names a_line a_row a_pastMany a_past a_changed a_greatest a_numbersWere a_told a_waysOf a_waysWere a_blocks a_ordersOf a_imageLine a_bodyKind a_trace a_shelf a_many a_items a_carried people keptMany done tapeMany textMany base at_ ends fault opened lineMany rowMany_4 taller_5 tallerBy pasts isKept imageMany bodies ran ownKind ownNumber height tape text names row_6 x1 r_10 base_11 at__12 ends_13 fault_14 opened_15 names_16 hg) hy_X12_numberAt ml_X12_200 hd_X12_numberAt ⟨by omega, by omega⟩ rfl [0, 1, 2, 3, 4, 6] rfl rfl 0 rfl rfl (w_M_of G a_this a_height a_changeAt a_changeWas a_changeIs a_tape a_text a_names a_line a_row a_pastMany a_past a_changed a_greatest a_numbersWere a_told a_waysOf a_waysWere a_blocks a_ordersOf a_imageLine a_bodyKind a_trace a_shelf a_many a_items a_carried people keptMany done tapeMany textMany base_11 at__12 ends_13 fault_14 opened_15 lineMany rowMany_4 taller_5 tallerBy pasts isKept imageMany bodies ran ownKind ownNumber height tape text names_16 line row_6 changed greatest) [some 0, some 1, some 2, some 3, some 4, none, some 5, none, none] rfl (by decide +kernel) rfl rfl (Nat.le_of_ble_eq_true rfl) dX12_of_82 (fun hz_17 => ?_)
            refine z_goto F 93 dX12_of_85 (by decide) ?_
            have eq1 := Option.some.inj hf
            obtain ⟨ee1, eq2⟩ := Prod.mk.inj eq1
            obtain ⟨ee2, eq3⟩ := Prod.mk.inj eq2
            obtain ⟨ee3, eq4⟩ := Prod.mk.inj eq3
            obtain ⟨ee4, eq5⟩ := Prod.mk.inj eq4
            obtain ⟨ee5, eq6⟩ := Prod.mk.inj eq5
            obtain ⟨ee6, eq7⟩ := Prod.mk.inj eq6
            obtain ⟨ee7, eq8⟩ := Prod.mk.inj eq7
            obtain ⟨ee8, eq9⟩ := Prod.mk.inj eq8
            obtain ⟨ee9, ee10⟩ := Prod.mk.inj eq9
            subst ee1
            subst ee2
            subst ee3
            subst ee4
            subst ee5
            subst ee6
            subst ee7
            subst ee8
            subst ee9
            subst ee10
            exact z_iret F rfl rfl rfl rfl dX12_of_93
        · refine z_aload_n F 0 dX12_of_65 rfl rfl ?_
          refine z_get F 0 12 17 inlX12 rfl rfl (by decide) fl_X12_31 rfl dX12_of_66 ?_
          refine z_iload_n F 1 dX12_of_69 rfl rfl ?_
          refine z_iald F 5 rfl hf dX12_of_70 (fun v_18 hf => ?_)
          refine z_goto F 93 dX12_of_71 (by decide) ?_
          have eq1 := Option.some.inj hf
          obtain ⟨ee1, eq2⟩ := Prod.mk.inj eq1
          obtain ⟨ee2, eq3⟩ := Prod.mk.inj eq2
          obtain ⟨ee3, eq4⟩ := Prod.mk.inj eq3
          obtain ⟨ee4, eq5⟩ := Prod.mk.inj eq4
          obtain ⟨ee5, eq6⟩ := Prod.mk.inj eq5
          obtain ⟨ee6, eq7⟩ := Prod.mk.inj eq6
          obtain ⟨ee7, eq8⟩ := Prod.mk.inj eq7
          obtain ⟨ee8, eq9⟩ := Prod.mk.inj eq8
          obtain ⟨ee9, ee10⟩ := Prod.mk.inj eq9
          subst ee1
          subst ee2
          subst ee3
          subst ee4
          subst ee5
          subst ee6
          subst ee7
          subst ee8
          subst ee9
          subst ee10
          exact z_iret F rfl rfl rfl rfl dX12_of_93
      · refine z_iconst F (-1) dX12_of_53 rfl ?_
        have eq1 := Option.some.inj hf
        obtain ⟨ee1, eq2⟩ := Prod.mk.inj eq1
        obtain ⟨ee2, eq3⟩ := Prod.mk.inj eq2
        obtain ⟨ee3, eq4⟩ := Prod.mk.inj eq3
        obtain ⟨ee4, eq5⟩ := Prod.mk.inj eq4
        obtain ⟨ee5, eq6⟩ := Prod.mk.inj eq5
        obtain ⟨ee6, eq7⟩ := Prod.mk.inj eq6
        obtain ⟨ee7, eq8⟩ := Prod.mk.inj eq7
        obtain ⟨ee8, eq9⟩ := Prod.mk.inj eq8
        obtain ⟨ee9, ee10⟩ := Prod.mk.inj eq9
        subst ee1
        subst ee2
        subst ee3
        subst ee4
        subst ee5
        subst ee6
        subst ee7
        subst ee8
        subst ee9
        subst ee10
        exact z_iret F rfl rfl rfl rfl dX12_of_54
  · refine z_aload_n F 0 dX12_of_12 rfl rfl ?_
    refine z_iload_n F 1 dX12_of_13 rfl rfl ?_
    refine z_callVm (rest := []) F 12 (c_M_isPerson (xL X) G a_this a_height a_changeAt a_changeWas a_changeIs a_tape a_text a_names a_line a_row a_pastMany a_past a_changed a_greatest a_numbersWere a_told a_waysOf a_waysWere a_blocks a_ordersOf a_imageLine a_bodyKind a_trace a_shelf a_many a_items a_carried people keptMany done tapeMany textMany base at_ ends fault opened lineMany rowMany taller tallerBy pasts isKept imageMany bodies ran ownKind ownNumber x1 _ rfl) hy_X12_isPerson ml_X12_119 hd_X12_isPerson ⟨by omega, by omega⟩ rfl [0] rfl rfl 0 rfl rfl (w_M_of G a_this a_height a_changeAt a_changeWas a_changeIs a_tape a_text a_names a_line a_row a_pastMany a_past a_changed a_greatest a_numbersWere a_told a_waysOf a_waysWere a_blocks a_ordersOf a_imageLine a_bodyKind a_trace a_shelf a_many a_items a_carried people keptMany done tapeMany textMany base at_ ends fault opened lineMany rowMany taller tallerBy pasts isKept imageMany bodies ran ownKind ownNumber height tape text names line row changed greatest) [some 0, none, none, none, none, none, none, none, none] rfl (by decide +kernel) rfl rfl (Nat.le_of_ble_eq_true rfl) dX12_of_14 (fun hz_19 => ?_)
    refine z_if_eq F 29 dX12_of_17 (by decide) hf (fun hf _ => ?_) (fun hf _ => ?_)
    · refine z_iconst F (-1) dX12_of_29 rfl ?_
      have eq1 := Option.some.inj hf
      obtain ⟨ee1, eq2⟩ := Prod.mk.inj eq1
      obtain ⟨ee2, eq3⟩ := Prod.mk.inj eq2
      obtain ⟨ee3, eq4⟩ := Prod.mk.inj eq3
      obtain ⟨ee4, eq5⟩ := Prod.mk.inj eq4
      obtain ⟨ee5, eq6⟩ := Prod.mk.inj eq5
      obtain ⟨ee6, eq7⟩ := Prod.mk.inj eq6
      obtain ⟨ee7, eq8⟩ := Prod.mk.inj eq7
      obtain ⟨ee8, eq9⟩ := Prod.mk.inj eq8
      obtain ⟨ee9, ee10⟩ := Prod.mk.inj eq9
      subst ee1
      subst ee2
      subst ee3
      subst ee4
      subst ee5
      subst ee6
      subst ee7
      subst ee8
      subst ee9
      subst ee10
      exact z_iret F rfl rfl rfl rfl dX12_of_30
    · refine z_aload_n F 0 dX12_of_20 rfl rfl ?_
      refine z_iload_n F 1 dX12_of_21 rfl rfl ?_
      refine z_iload_n F 2 dX12_of_22 rfl rfl ?_
      obtain ⟨r_20, base_21, at__22, ends_23, fault_24, opened_25, rowMany_26, taller_27, names_28, row_29, hg, hf⟩ := zb10_some hf
      refine z_callVm (rest := []) F 12 (c_M_ofPerson (xL X) G a_this a_height a_changeAt a_changeWas a_changeIs a_tape a_text a_names a_line a_row a_pastMany a_past a_changed a_greatest a_numbersWere a_told a_waysOf a_waysWere a_blocks a_ordersOf a_imageLine a_bodyKind a_trace a_shelf a_many a_items a_carried people keptMany done tapeMany textMany base at_ ends fault opened lineMany rowMany taller tallerBy pasts isKept imageMany bodies ran ownKind ownNumber height tape text names line row changed greatest x1 x2 r_20 base_21 at__22 ends_23 fault_24 opened_25 rowMany_26 taller_27 names_28 row_29 hg) hy_X12_ofPerson ml_X12_232 hd_X12_ofPerson ⟨by omega, by omega⟩ rfl [0, 1, 2, 3, 4, 5, 6, 7, 8] rfl rfl 0 rfl rfl (w_M_of G a_this a_height a_changeAt a_changeWas a_changeIs a_tape a_text a_names a_line a_row a_pastMany a_past a_changed a_greatest a_numbersWere a_told a_waysOf a_waysWere a_blocks a_ordersOf a_imageLine a_bodyKind a_trace a_shelf a_many a_items a_carried people keptMany done tapeMany textMany base_21 at__22 ends_23 fault_24 opened_25 lineMany rowMany_26 taller_27 tallerBy pasts isKept imageMany bodies ran ownKind ownNumber height tape text names_28 line row_29 changed greatest) [some 0, some 1, some 2, some 3, some 4, some 5, some 6, some 7, some 8] rfl (by decide +kernel) rfl rfl (Nat.le_of_ble_eq_true rfl) dX12_of_23 (fun hz_30 => ?_)
      refine z_goto F 30 dX12_of_26 (by decide) ?_
      have eq1 := Option.some.inj hf
      obtain ⟨ee1, eq2⟩ := Prod.mk.inj eq1
      obtain ⟨ee2, eq3⟩ := Prod.mk.inj eq2
      obtain ⟨ee3, eq4⟩ := Prod.mk.inj eq3
      obtain ⟨ee4, eq5⟩ := Prod.mk.inj eq4
      obtain ⟨ee5, eq6⟩ := Prod.mk.inj eq5
      obtain ⟨ee6, eq7⟩ := Prod.mk.inj eq6
      obtain ⟨ee7, eq8⟩ := Prod.mk.inj eq7
      obtain ⟨ee8, eq9⟩ := Prod.mk.inj eq8
      obtain ⟨ee9, ee10⟩ := Prod.mk.inj eq9
      subst ee1
      subst ee2
      subst ee3
      subst ee4
      subst ee5
      subst ee6
      subst ee7
      subst ee8
      subst ee9
      subst ee10
      exact z_iret F rfl rfl rfl rfl dX12_of_30

abbrev w_M_begins1 (G : zG) (a_this : Nat) (a_height : Nat) (a_changeAt : Nat) (a_changeWas : Nat) (a_changeIs : Nat) (a_tape : Nat) (a_text : Nat) (a_names : Nat) (a_line : Nat) (a_row : Nat) (a_pastMany : Nat) (a_past : Nat) (a_changed : Nat) (a_greatest : Nat) (a_numbersWere : Nat) (a_told : Nat) (a_waysOf : Nat) (a_waysWere : Nat) (a_blocks : Nat) (a_ordersOf : Nat) (a_imageLine : Nat) (a_bodyKind : Nat) (a_trace : Nat) (a_shelf : Nat) (a_many : Nat) (a_items : Nat) (a_carried : Nat) (people : Int32) (keptMany : Int32) (done : Int32) (tapeMany : Int32) (textMany : Int32) (base : Int32) (at_ : Int32) (ends : Int32) (fault : Int32) (opened : Int32) (lineMany : Int32) (rowMany : Int32) (taller : Int32) (tallerBy : Int32) (pasts : Int32) (isKept : Int32) (imageMany : Int32) (bodies : Int32) (ran : Int32) (ownKind : Int32) (ownNumber : Int32) (height : Nat → Int32) (tape : Nat → Int32) (text : Nat → Int32) (names : Nat → Int32) (line : Nat → Int32) (row : Nat → Int32) (pastMany : Nat → Int32) (past : Nat → Int32) (numbersWere : Nat → Int32) : va_W := [(a_this, cO 12 [.int people, .ref a_height, .ref a_changeAt, .ref a_changeWas, .ref a_changeIs, .int keptMany, .int done, .ref a_tape, .int tapeMany, .ref a_text, .int textMany, .int base, .int at_, .int ends, .int fault, .int opened, .ref a_names, .ref a_line, .int lineMany, .ref a_row, .int rowMany, .int taller, .int tallerBy, .ref a_pastMany, .ref a_past, .int pasts, .ref a_changed, .ref a_greatest, .ref a_numbersWere, .ref a_told, .ref a_waysOf, .ref a_waysWere, .ref a_blocks, .ref a_ordersOf, .int isKept, .int imageMany, .ref a_imageLine, .int bodies, .ref a_bodyKind, .ref a_trace, .int ran, .int ownKind, .int ownNumber, .ref a_shelf, .ref a_many, .ref a_items, .ref a_carried]), (a_height, cI G 9 height), (a_tape, cI G 120 tape), (a_text, cI G 120 text), (a_names, cI G 5 names), (a_line, cI G 9 line), (a_row, cI G 9 row), (a_pastMany, cI G 12 pastMany), (a_past, cI G 108 past), (a_numbersWere, cI G 9 numbersWere)]
def f_M_begins1_L100 (lineMany : Int32) (pasts : Int32) (line : Nat → Int32) : Nat → (Nat → Int32) → Int32 → Option ((Nat → Int32))
  | 0, _, _ => none
  | fuel + 1, past, v1 => (if lineMany ≤ v1 then (some past) else (zg line 9 v1 fun v_2 => (zs past 108 (((9 : Int32) * pasts) + v1) v_2 fun past_3 => (f_M_begins1_L100 lineMany pasts line fuel past_3 (v1 + 1)))))
def f_M_begins1_L146 (people : Int32) (textMany : Int32) (lineMany : Int32) (tallerBy : Int32) (height : Nat → Int32) (tape : Nat → Int32) (text : Nat → Int32) (line : Nat → Int32) : Nat → Int32 → Int32 → Int32 → Int32 → Int32 → Int32 → Int32 → (Nat → Int32) → (Nat → Int32) → (Nat → Int32) → Int32 → Option (Int32 × Int32 × Int32 × Int32 × Int32 × Int32 × Int32 × (Nat → Int32) × (Nat → Int32) × (Nat → Int32))
  | 0, _, _, _, _, _, _, _, _, _, _, _ => none
  | fuel + 1, base, at_, ends, fault, opened, rowMany, taller, names, row, numbersWere, v1 => (if people ≤ v1 then (some (base, at_, ends, fault, opened, rowMany, taller, names, row, numbersWere)) else (zb1 (f_M_placeOf lineMany line v1) fun r_5 => (if (0 : Int32) ≤ r_5 then (zb1 (f_M_placeOf lineMany line v1) fun r_7 => (zb10 (f_M_numberNow textMany base at_ ends fault opened lineMany rowMany taller tallerBy height tape text names line row r_7) fun r_9 base_10 at__11 ends_12 fault_13 opened_14 rowMany_15 taller_16 names_17 row_18 => (zs numbersWere 9 v1 r_9 fun numbersWere_20 => (f_M_begins1_L146 people textMany lineMany tallerBy height tape text line fuel base_10 at__11 ends_12 fault_13 opened_14 rowMany_15 taller_16 names_17 row_18 numbersWere_20 (v1 + 1))))) else (zs numbersWere 9 v1 (-2) fun numbersWere_21 => (f_M_begins1_L146 people textMany lineMany tallerBy height tape text line fuel base at_ ends fault opened rowMany taller names row numbersWere_21 (v1 + 1))))))
def f_M_begins1_L33 (v1 : Int32) : Nat → (Nat → Int32) → Int32 → Option ((Nat → Int32))
  | 0, _, _ => none
  | fuel + 1, past, v2 => (if (9 : Int32) ≤ v2 then (some past) else (zg past 108 (((9 : Int32) * v1) + v2) fun v_38 => (zs past 108 (((9 : Int32) * (v1 - (1 : Int32))) + v2) v_38 fun past_39 => (f_M_begins1_L33 v1 fuel past_39 (v2 + 1)))))
def f_M_begins1_L11 : Nat → (Nat → Int32) → (Nat → Int32) → Int32 → Option ((Nat → Int32) × (Nat → Int32))
  | 0, _, _, _ => none
  | fuel + 1, pastMany, past, v1 => (if (12 : Int32) ≤ v1 then (some (pastMany, past)) else (zg pastMany 12 v1 fun v_36 => (zs pastMany 12 (v1 - (1 : Int32)) v_36 fun pastMany_37 => (zb1 (f_M_begins1_L33 v1 FU past 0) fun past_40 => (f_M_begins1_L11 fuel pastMany_37 past_40 (v1 + 1))))))
def f_M_begins1 (people : Int32) (textMany : Int32) (base : Int32) (at_ : Int32) (ends : Int32) (fault : Int32) (opened : Int32) (lineMany : Int32) (rowMany : Int32) (taller : Int32) (tallerBy : Int32) (pasts : Int32) (height : Nat → Int32) (tape : Nat → Int32) (text : Nat → Int32) (names : Nat → Int32) (line : Nat → Int32) (row : Nat → Int32) (pastMany : Nat → Int32) (past : Nat → Int32) (numbersWere : Nat → Int32) : Option (Int32 × Int32 × Int32 × Int32 × Int32 × Int32 × Int32 × Int32 × (Nat → Int32) × (Nat → Int32) × (Nat → Int32) × (Nat → Int32) × (Nat → Int32)) := (if pasts = 12 then (zb2 (f_M_begins1_L11 FU pastMany past 1) fun pastMany_41 past_42 => (zs pastMany_41 12 (pasts - (1 : Int32)) lineMany fun pastMany_43 => (zb1 (f_M_begins1_L100 lineMany (pasts - (1 : Int32)) line FU past_42 0) fun past_44 => (zb10 (f_M_begins1_L146 people textMany lineMany tallerBy height tape text line FU base at_ ends fault opened rowMany taller names row numbersWere 0) fun base_45 at__46 ends_47 fault_48 opened_49 rowMany_50 taller_51 names_52 row_53 numbersWere_54 => (zb3 (f_M_laysOut lineMany rowMany_50 taller_51 line row_53) fun rowMany_55 taller_56 row_57 => (some (base_45, at__46, ends_47, fault_48, opened_49, rowMany_55, taller_56, ((pasts - (1 : Int32)) + (1 : Int32)), names_52, row_57, pastMany_43, past_44, numbersWere_54))))))) else (zs pastMany 12 pasts lineMany fun pastMany_1 => (zb1 (f_M_begins1_L100 lineMany pasts line FU past 0) fun past_4 => (zb10 (f_M_begins1_L146 people textMany lineMany tallerBy height tape text line FU base at_ ends fault opened rowMany taller names row numbersWere 0) fun base_22 at__23 ends_24 fault_25 opened_26 rowMany_27 taller_28 names_29 row_30 numbersWere_31 => (zb3 (f_M_laysOut lineMany rowMany_27 taller_28 line row_30) fun rowMany_32 taller_33 row_34 => (some (base_22, at__23, ends_24, fault_25, opened_26, rowMany_32, taller_33, (pasts + (1 : Int32)), names_29, row_34, pastMany_1, past_4, numbersWere_31)))))))
set_option maxRecDepth 100000 in
set_option maxHeartbeats 4000000 in
theorem l_M_begins1_100 {X : zX} (G : zG) (a_this : Nat) (a_height : Nat) (a_changeAt : Nat) (a_changeWas : Nat) (a_changeIs : Nat) (a_tape : Nat) (a_text : Nat) (a_names : Nat) (a_line : Nat) (a_row : Nat) (a_pastMany : Nat) (a_past : Nat) (a_changed : Nat) (a_greatest : Nat) (a_numbersWere : Nat) (a_told : Nat) (a_waysOf : Nat) (a_waysWere : Nat) (a_blocks : Nat) (a_ordersOf : Nat) (a_imageLine : Nat) (a_bodyKind : Nat) (a_trace : Nat) (a_shelf : Nat) (a_many : Nat) (a_items : Nat) (a_carried : Nat) (people : Int32) (keptMany : Int32) (done : Int32) (tapeMany : Int32) (textMany : Int32) (base : Int32) (at_ : Int32) (ends : Int32) (fault : Int32) (opened : Int32) (lineMany : Int32) (rowMany : Int32) (taller : Int32) (tallerBy : Int32) (pasts : Int32) (isKept : Int32) (imageMany : Int32) (bodies : Int32) (ran : Int32) (ownKind : Int32) (ownNumber : Int32) (height : Nat → Int32) (tape : Nat → Int32) (text : Nat → Int32) (names : Nat → Int32) (line : Nat → Int32) (row : Nat → Int32) (pastMany : Nat → Int32) (numbersWere : Nat → Int32) {v0 : Option Value} {w0 : va_W} (F : zF X G cX12_begins1 RX12 3 none 153 3554 v0 w0) (e_past : Nat → Int32) (hk : Z X G 3 (w_M_begins1 G a_this a_height a_changeAt a_changeWas a_changeIs a_tape a_text a_names a_line a_row a_pastMany a_past a_changed a_greatest a_numbersWere a_told a_waysOf a_waysWere a_blocks a_ordersOf a_imageLine a_bodyKind a_trace a_shelf a_many a_items a_carried people keptMany done tapeMany textMany base at_ ends fault opened lineMany rowMany taller tallerBy pasts isKept imageMany bodies ran ownKind ownNumber height tape text names line row pastMany e_past numbersWere) [(0, .ref a_this)] 134 []) :
    ∀ (fuel : Nat) (past : Nat → Int32) (v1 : Int32), f_M_begins1_L100 lineMany pasts line fuel past v1 = some e_past → Z X G 3 (w_M_begins1 G a_this a_height a_changeAt a_changeWas a_changeIs a_tape a_text a_names a_line a_row a_pastMany a_past a_changed a_greatest a_numbersWere a_told a_waysOf a_waysWere a_blocks a_ordersOf a_imageLine a_bodyKind a_trace a_shelf a_many a_items a_carried people keptMany done tapeMany textMany base at_ ends fault opened lineMany rowMany taller tallerBy pasts isKept imageMany bodies ran ownKind ownNumber height tape text names line row pastMany past numbersWere) [(0, .ref a_this), (1, .int v1)] 100 [] := by
  intro fuel
  induction fuel with
  | zero => intro past v1 hf; exact absurd ((f_M_begins1_L100.eq_1 ..).symm.trans hf) (fun h => by cases h)
  | succ fuel ih =>
    intro past v1 hf
    replace hf := (f_M_begins1_L100.eq_2 ..).symm.trans hf
    refine z_iload_n F 1 dX12_begins1_100 rfl rfl ?_
    refine z_aload_n F 0 dX12_begins1_101 rfl rfl ?_
    refine z_get F 0 12 18 inlX12 rfl rfl (by decide) fl_X12_100 rfl dX12_begins1_102 ?_
    refine z_icmp_ge F 134 dX12_begins1_105 (by decide) hf (fun hf _ => ?_) (fun hf _ => ?_)
    · have ee1 := Option.some.inj hf
      subst ee1
      exact z_sub [0] rfl hk
    · refine z_aload_n F 0 dX12_begins1_108 rfl rfl ?_
      refine z_get F 0 12 24 inlX12 rfl rfl (by decide) fl_X12_40 rfl dX12_begins1_109 ?_
      refine z_bipush F (9) dX12_begins1_112 rfl ?_
      refine z_aload_n F 0 dX12_begins1_114 rfl rfl ?_
      refine z_get F 0 12 25 inlX12 rfl rfl (by decide) fl_X12_242 rfl dX12_begins1_115 ?_
      refine z_imul F dX12_begins1_118 ?_
      refine z_iload_n F 1 dX12_begins1_119 rfl rfl ?_
      refine z_iadd F dX12_begins1_120 ?_
      refine z_aload_n F 0 dX12_begins1_121 rfl rfl ?_
      refine z_get F 0 12 17 inlX12 rfl rfl (by decide) fl_X12_31 rfl dX12_begins1_122 ?_
      refine z_iload_n F 1 dX12_begins1_125 rfl rfl ?_
      refine z_iald F 5 rfl hf dX12_begins1_126 (fun v_2 hf => ?_)
      refine z_iast F 8 (fun past_3 => (w_M_begins1 G a_this a_height a_changeAt a_changeWas a_changeIs a_tape a_text a_names a_line a_row a_pastMany a_past a_changed a_greatest a_numbersWere a_told a_waysOf a_waysWere a_blocks a_ordersOf a_imageLine a_bodyKind a_trace a_shelf a_many a_items a_carried people keptMany done tapeMany textMany base at_ ends fault opened lineMany rowMany taller tallerBy pasts isKept imageMany bodies ran ownKind ownNumber height tape text names line row pastMany past_3 numbersWere)) rfl hf (fun _ => rfl) dX12_begins1_127 (fun past_3 hf => ?_)
      refine z_iinc F [(1, .int (v1 + 1)), (0, .ref a_this)] dX12_begins1_128 1 rfl rfl (by decide) rfl ?_
      refine z_goto F 100 dX12_begins1_131 (by decide) ?_
      exact z_sub [1, 0] rfl (ih past_3 (v1 + 1) hf)

set_option maxRecDepth 100000 in
set_option maxHeartbeats 4000000 in
theorem l_M_begins1_146 {X : zX} (G : zG) (a_this : Nat) (a_height : Nat) (a_changeAt : Nat) (a_changeWas : Nat) (a_changeIs : Nat) (a_tape : Nat) (a_text : Nat) (a_names : Nat) (a_line : Nat) (a_row : Nat) (a_pastMany : Nat) (a_past : Nat) (a_changed : Nat) (a_greatest : Nat) (a_numbersWere : Nat) (a_told : Nat) (a_waysOf : Nat) (a_waysWere : Nat) (a_blocks : Nat) (a_ordersOf : Nat) (a_imageLine : Nat) (a_bodyKind : Nat) (a_trace : Nat) (a_shelf : Nat) (a_many : Nat) (a_items : Nat) (a_carried : Nat) (people : Int32) (keptMany : Int32) (done : Int32) (tapeMany : Int32) (textMany : Int32) (lineMany : Int32) (tallerBy : Int32) (pasts : Int32) (isKept : Int32) (imageMany : Int32) (bodies : Int32) (ran : Int32) (ownKind : Int32) (ownNumber : Int32) (height : Nat → Int32) (tape : Nat → Int32) (text : Nat → Int32) (line : Nat → Int32) (pastMany : Nat → Int32) (past : Nat → Int32) {v0 : Option Value} {w0 : va_W} (F : zF X G cX12_begins1 RX12 3 none 153 3554 v0 w0) (e_base : Int32) (e_at_ : Int32) (e_ends : Int32) (e_fault : Int32) (e_opened : Int32) (e_rowMany : Int32) (e_taller : Int32) (e_names : Nat → Int32) (e_row : Nat → Int32) (e_numbersWere : Nat → Int32) (hk : Z X G 3 (w_M_begins1 G a_this a_height a_changeAt a_changeWas a_changeIs a_tape a_text a_names a_line a_row a_pastMany a_past a_changed a_greatest a_numbersWere a_told a_waysOf a_waysWere a_blocks a_ordersOf a_imageLine a_bodyKind a_trace a_shelf a_many a_items a_carried people keptMany done tapeMany textMany e_base e_at_ e_ends e_fault e_opened lineMany e_rowMany e_taller tallerBy pasts isKept imageMany bodies ran ownKind ownNumber height tape text e_names line e_row pastMany past e_numbersWere) [(0, .ref a_this)] 188 []) :
    ∀ (fuel : Nat) (base : Int32) (at_ : Int32) (ends : Int32) (fault : Int32) (opened : Int32) (rowMany : Int32) (taller : Int32) (names : Nat → Int32) (row : Nat → Int32) (numbersWere : Nat → Int32) (v1 : Int32), f_M_begins1_L146 people textMany lineMany tallerBy height tape text line fuel base at_ ends fault opened rowMany taller names row numbersWere v1 = some (e_base, e_at_, e_ends, e_fault, e_opened, e_rowMany, e_taller, e_names, e_row, e_numbersWere) → Z X G 3 (w_M_begins1 G a_this a_height a_changeAt a_changeWas a_changeIs a_tape a_text a_names a_line a_row a_pastMany a_past a_changed a_greatest a_numbersWere a_told a_waysOf a_waysWere a_blocks a_ordersOf a_imageLine a_bodyKind a_trace a_shelf a_many a_items a_carried people keptMany done tapeMany textMany base at_ ends fault opened lineMany rowMany taller tallerBy pasts isKept imageMany bodies ran ownKind ownNumber height tape text names line row pastMany past numbersWere) [(0, .ref a_this), (1, .int v1)] 146 [] := by
  intro fuel
  induction fuel with
  | zero => intro base at_ ends fault opened rowMany taller names row numbersWere v1 hf; exact absurd ((f_M_begins1_L146.eq_1 ..).symm.trans hf) (fun h => by cases h)
  | succ fuel ih =>
    intro base at_ ends fault opened rowMany taller names row numbersWere v1 hf
    replace hf := (f_M_begins1_L146.eq_2 ..).symm.trans hf
    refine z_iload_n F 1 dX12_begins1_146 rfl rfl ?_
    refine z_aload_n F 0 dX12_begins1_147 rfl rfl ?_
    refine z_get F 0 12 0 inlX12 rfl rfl (by decide) fl_X12_93 rfl dX12_begins1_148 ?_
    refine z_icmp_ge F 188 dX12_begins1_151 (by decide) hf (fun hf _ => ?_) (fun hf _ => ?_)
    · have eq1 := Option.some.inj hf
      obtain ⟨ee1, eq2⟩ := Prod.mk.inj eq1
      obtain ⟨ee2, eq3⟩ := Prod.mk.inj eq2
      obtain ⟨ee3, eq4⟩ := Prod.mk.inj eq3
      obtain ⟨ee4, eq5⟩ := Prod.mk.inj eq4
      obtain ⟨ee5, eq6⟩ := Prod.mk.inj eq5
      obtain ⟨ee6, eq7⟩ := Prod.mk.inj eq6
      obtain ⟨ee7, eq8⟩ := Prod.mk.inj eq7
      obtain ⟨ee8, eq9⟩ := Prod.mk.inj eq8
      obtain ⟨ee9, ee10⟩ := Prod.mk.inj eq9
      subst ee1
      subst ee2
      subst ee3
      subst ee4
      subst ee5
      subst ee6
      subst ee7
      subst ee8
      subst ee9
      subst ee10
      exact z_sub [0] rfl hk
    · refine z_aload_n F 0 dX12_begins1_154 rfl rfl ?_
      refine z_get F 0 12 28 inlX12 rfl rfl (by decide) fl_X12_49 rfl dX12_begins1_155 ?_
      refine z_iload_n F 1 dX12_begins1_158 rfl rfl ?_
      refine z_aload_n F 0 dX12_begins1_159 rfl rfl ?_
      refine z_iload_n F 1 dX12_begins1_160 rfl rfl ?_
      obtain ⟨r_5, hg, hf⟩ := zb1_some hf
      refine z_callVm (rest := [.int v1, .ref a_numbersWere]) F 12 (c_M_placeOf (xL X) G a_this a_height a_changeAt a_changeWas a_changeIs a_tape a_text a_names a_line a_row a_pastMany a_past a_changed a_greatest a_numbersWere a_told a_waysOf a_waysWere a_blocks a_ordersOf a_imageLine a_bodyKind a_trace a_shelf a_many a_items a_carried people keptMany done tapeMany textMany base at_ ends fault opened lineMany rowMany taller tallerBy pasts isKept imageMany bodies ran ownKind ownNumber line v1 r_5 hg) hy_X12_placeOf ml_X12_224 hd_X12_placeOf ⟨by omega, by omega⟩ rfl [0, 5] rfl rfl 0 rfl rfl (w_M_begins1 G a_this a_height a_changeAt a_changeWas a_changeIs a_tape a_text a_names a_line a_row a_pastMany a_past a_changed a_greatest a_numbersWere a_told a_waysOf a_waysWere a_blocks a_ordersOf a_imageLine a_bodyKind a_trace a_shelf a_many a_items a_carried people keptMany done tapeMany textMany base at_ ends fault opened lineMany rowMany taller tallerBy pasts isKept imageMany bodies ran ownKind ownNumber height tape text names line row pastMany past numbersWere) [some 0, none, none, none, none, some 1, none, none, none, none] rfl (by decide +kernel) rfl rfl (Nat.le_of_ble_eq_true rfl) dX12_begins1_161 (fun hz_6 => ?_)
      refine z_if_ge F 172 dX12_begins1_164 (by decide) hf (fun hf _ => ?_) (fun hf _ => ?_)
      · refine z_aload_n F 0 dX12_begins1_172 rfl rfl ?_
        refine z_aload_n F 0 dX12_begins1_173 rfl rfl ?_
        refine z_iload_n F 1 dX12_begins1_174 rfl rfl ?_
        obtain ⟨r_7, hg, hf⟩ := zb1_some hf
        refine z_callVm (rest := [.ref a_this, .int v1, .ref a_numbersWere]) F 12 (c_M_placeOf (xL X) G a_this a_height a_changeAt a_changeWas a_changeIs a_tape a_text a_names a_line a_row a_pastMany a_past a_changed a_greatest a_numbersWere a_told a_waysOf a_waysWere a_blocks a_ordersOf a_imageLine a_bodyKind a_trace a_shelf a_many a_items a_carried people keptMany done tapeMany textMany base at_ ends fault opened lineMany rowMany taller tallerBy pasts isKept imageMany bodies ran ownKind ownNumber line v1 r_7 hg) hy_X12_placeOf ml_X12_224 hd_X12_placeOf ⟨by omega, by omega⟩ rfl [0, 5] rfl rfl 0 rfl rfl (w_M_begins1 G a_this a_height a_changeAt a_changeWas a_changeIs a_tape a_text a_names a_line a_row a_pastMany a_past a_changed a_greatest a_numbersWere a_told a_waysOf a_waysWere a_blocks a_ordersOf a_imageLine a_bodyKind a_trace a_shelf a_many a_items a_carried people keptMany done tapeMany textMany base at_ ends fault opened lineMany rowMany taller tallerBy pasts isKept imageMany bodies ran ownKind ownNumber height tape text names line row pastMany past numbersWere) [some 0, none, none, none, none, some 1, none, none, none, none] rfl (by decide +kernel) rfl rfl (Nat.le_of_ble_eq_true rfl) dX12_begins1_175 (fun hz_8 => ?_)
        obtain ⟨r_9, base_10, at__11, ends_12, fault_13, opened_14, rowMany_15, taller_16, names_17, row_18, hg, hf⟩ := zb10_some hf
        refine z_callVm (rest := [.int v1, .ref a_numbersWere]) F 12 (c_M_numberNow (xL X) G a_this a_height a_changeAt a_changeWas a_changeIs a_tape a_text a_names a_line a_row a_pastMany a_past a_changed a_greatest a_numbersWere a_told a_waysOf a_waysWere a_blocks a_ordersOf a_imageLine a_bodyKind a_trace a_shelf a_many a_items a_carried people keptMany done tapeMany textMany base at_ ends fault opened lineMany rowMany taller tallerBy pasts isKept imageMany bodies ran ownKind ownNumber height tape text names line row r_7 r_9 base_10 at__11 ends_12 fault_13 opened_14 rowMany_15 taller_16 names_17 row_18 hg) hy_X12_numberNow ml_X12_227 hd_X12_numberNow ⟨by omega, by omega⟩ rfl [0, 1, 2, 3, 4, 5, 6] rfl rfl 0 rfl rfl (w_M_begins1 G a_this a_height a_changeAt a_changeWas a_changeIs a_tape a_text a_names a_line a_row a_pastMany a_past a_changed a_greatest a_numbersWere a_told a_waysOf a_waysWere a_blocks a_ordersOf a_imageLine a_bodyKind a_trace a_shelf a_many a_items a_carried people keptMany done tapeMany textMany base_10 at__11 ends_12 fault_13 opened_14 lineMany rowMany_15 taller_16 tallerBy pasts isKept imageMany bodies ran ownKind ownNumber height tape text names_17 line row_18 pastMany past numbersWere) [some 0, some 1, some 2, some 3, some 4, some 5, some 6, none, none, none] rfl (by decide +kernel) rfl rfl (Nat.le_of_ble_eq_true rfl) dX12_begins1_178 (fun hz_19 => ?_)
        refine z_iast F 9 (fun numbersWere_20 => (w_M_begins1 G a_this a_height a_changeAt a_changeWas a_changeIs a_tape a_text a_names a_line a_row a_pastMany a_past a_changed a_greatest a_numbersWere a_told a_waysOf a_waysWere a_blocks a_ordersOf a_imageLine a_bodyKind a_trace a_shelf a_many a_items a_carried people keptMany done tapeMany textMany base_10 at__11 ends_12 fault_13 opened_14 lineMany rowMany_15 taller_16 tallerBy pasts isKept imageMany bodies ran ownKind ownNumber height tape text names_17 line row_18 pastMany past numbersWere_20)) rfl hf (fun _ => rfl) dX12_begins1_181 (fun numbersWere_20 hf => ?_)
        refine z_iinc F [(1, .int (v1 + 1)), (0, .ref a_this)] dX12_begins1_182 1 rfl rfl (by decide) rfl ?_
        refine z_goto F 146 dX12_begins1_185 (by decide) ?_
        exact z_sub [1, 0] rfl (ih base_10 at__11 ends_12 fault_13 opened_14 rowMany_15 taller_16 names_17 row_18 numbersWere_20 (v1 + 1) hf)
      · refine z_bipush F (-2) dX12_begins1_167 rfl ?_
        refine z_goto F 181 dX12_begins1_169 (by decide) ?_
        refine z_iast F 9 (fun numbersWere_21 => (w_M_begins1 G a_this a_height a_changeAt a_changeWas a_changeIs a_tape a_text a_names a_line a_row a_pastMany a_past a_changed a_greatest a_numbersWere a_told a_waysOf a_waysWere a_blocks a_ordersOf a_imageLine a_bodyKind a_trace a_shelf a_many a_items a_carried people keptMany done tapeMany textMany base at_ ends fault opened lineMany rowMany taller tallerBy pasts isKept imageMany bodies ran ownKind ownNumber height tape text names line row pastMany past numbersWere_21)) rfl hf (fun _ => rfl) dX12_begins1_181 (fun numbersWere_21 hf => ?_)
        refine z_iinc F [(1, .int (v1 + 1)), (0, .ref a_this)] dX12_begins1_182 1 rfl rfl (by decide) rfl ?_
        refine z_goto F 146 dX12_begins1_185 (by decide) ?_
        exact z_sub [1, 0] rfl (ih base at_ ends fault opened rowMany taller names row numbersWere_21 (v1 + 1) hf)

set_option maxRecDepth 100000 in
set_option maxHeartbeats 4000000 in
theorem l_M_begins1_33 {X : zX} (G : zG) (a_this : Nat) (a_height : Nat) (a_changeAt : Nat) (a_changeWas : Nat) (a_changeIs : Nat) (a_tape : Nat) (a_text : Nat) (a_names : Nat) (a_line : Nat) (a_row : Nat) (a_pastMany : Nat) (a_past : Nat) (a_changed : Nat) (a_greatest : Nat) (a_numbersWere : Nat) (a_told : Nat) (a_waysOf : Nat) (a_waysWere : Nat) (a_blocks : Nat) (a_ordersOf : Nat) (a_imageLine : Nat) (a_bodyKind : Nat) (a_trace : Nat) (a_shelf : Nat) (a_many : Nat) (a_items : Nat) (a_carried : Nat) (people : Int32) (keptMany : Int32) (done : Int32) (tapeMany : Int32) (textMany : Int32) (base : Int32) (at_ : Int32) (ends : Int32) (fault : Int32) (opened : Int32) (lineMany : Int32) (rowMany : Int32) (taller : Int32) (tallerBy : Int32) (pasts : Int32) (isKept : Int32) (imageMany : Int32) (bodies : Int32) (ran : Int32) (ownKind : Int32) (ownNumber : Int32) (height : Nat → Int32) (tape : Nat → Int32) (text : Nat → Int32) (names : Nat → Int32) (line : Nat → Int32) (row : Nat → Int32) (pastMany : Nat → Int32) (numbersWere : Nat → Int32) (v1 : Int32) {v0 : Option Value} {w0 : va_W} (F : zF X G cX12_begins1 RX12 3 none 153 3554 v0 w0) (e_past : Nat → Int32) (hk : Z X G 3 (w_M_begins1 G a_this a_height a_changeAt a_changeWas a_changeIs a_tape a_text a_names a_line a_row a_pastMany a_past a_changed a_greatest a_numbersWere a_told a_waysOf a_waysWere a_blocks a_ordersOf a_imageLine a_bodyKind a_trace a_shelf a_many a_items a_carried people keptMany done tapeMany textMany base at_ ends fault opened lineMany rowMany taller tallerBy pasts isKept imageMany bodies ran ownKind ownNumber height tape text names line row pastMany e_past numbersWere) [(0, .ref a_this), (1, .int v1)] 69 []) :
    ∀ (fuel : Nat) (past : Nat → Int32) (v2 : Int32), f_M_begins1_L33 v1 fuel past v2 = some e_past → Z X G 3 (w_M_begins1 G a_this a_height a_changeAt a_changeWas a_changeIs a_tape a_text a_names a_line a_row a_pastMany a_past a_changed a_greatest a_numbersWere a_told a_waysOf a_waysWere a_blocks a_ordersOf a_imageLine a_bodyKind a_trace a_shelf a_many a_items a_carried people keptMany done tapeMany textMany base at_ ends fault opened lineMany rowMany taller tallerBy pasts isKept imageMany bodies ran ownKind ownNumber height tape text names line row pastMany past numbersWere) [(0, .ref a_this), (1, .int v1), (2, .int v2)] 33 [] := by
  intro fuel
  induction fuel with
  | zero => intro past v2 hf; exact absurd ((f_M_begins1_L33.eq_1 ..).symm.trans hf) (fun h => by cases h)
  | succ fuel ih =>
    intro past v2 hf
    replace hf := (f_M_begins1_L33.eq_2 ..).symm.trans hf
    refine z_iload_n F 2 dX12_begins1_33 rfl rfl ?_
    refine z_bipush F (9) dX12_begins1_34 rfl ?_
    refine z_icmp_ge F 69 dX12_begins1_36 (by decide) hf (fun hf _ => ?_) (fun hf _ => ?_)
    · have ee1 := Option.some.inj hf
      subst ee1
      exact z_sub [0, 1] rfl hk
    · refine z_aload_n F 0 dX12_begins1_39 rfl rfl ?_
      refine z_get F 0 12 24 inlX12 rfl rfl (by decide) fl_X12_40 rfl dX12_begins1_40 ?_
      refine z_bipush F (9) dX12_begins1_43 rfl ?_
      refine z_iload_n F 1 dX12_begins1_45 rfl rfl ?_
      refine z_iconst F (1) dX12_begins1_46 rfl ?_
      refine z_isub F dX12_begins1_47 ?_
      refine z_imul F dX12_begins1_48 ?_
      refine z_iload_n F 2 dX12_begins1_49 rfl rfl ?_
      refine z_iadd F dX12_begins1_50 ?_
      refine z_aload_n F 0 dX12_begins1_51 rfl rfl ?_
      refine z_get F 0 12 24 inlX12 rfl rfl (by decide) fl_X12_40 rfl dX12_begins1_52 ?_
      refine z_bipush F (9) dX12_begins1_55 rfl ?_
      refine z_iload_n F 1 dX12_begins1_57 rfl rfl ?_
      refine z_imul F dX12_begins1_58 ?_
      refine z_iload_n F 2 dX12_begins1_59 rfl rfl ?_
      refine z_iadd F dX12_begins1_60 ?_
      refine z_iald F 8 rfl hf dX12_begins1_61 (fun v_38 hf => ?_)
      refine z_iast F 8 (fun past_39 => (w_M_begins1 G a_this a_height a_changeAt a_changeWas a_changeIs a_tape a_text a_names a_line a_row a_pastMany a_past a_changed a_greatest a_numbersWere a_told a_waysOf a_waysWere a_blocks a_ordersOf a_imageLine a_bodyKind a_trace a_shelf a_many a_items a_carried people keptMany done tapeMany textMany base at_ ends fault opened lineMany rowMany taller tallerBy pasts isKept imageMany bodies ran ownKind ownNumber height tape text names line row pastMany past_39 numbersWere)) rfl hf (fun _ => rfl) dX12_begins1_62 (fun past_39 hf => ?_)
      refine z_iinc F [(2, .int (v2 + 1)), (0, .ref a_this), (1, .int v1)] dX12_begins1_63 2 rfl rfl (by decide) rfl ?_
      refine z_goto F 33 dX12_begins1_66 (by decide) ?_
      exact z_sub [1, 2, 0] rfl (ih past_39 (v2 + 1) hf)

set_option maxRecDepth 100000 in
set_option maxHeartbeats 4000000 in
theorem l_M_begins1_11 {X : zX} (G : zG) (a_this : Nat) (a_height : Nat) (a_changeAt : Nat) (a_changeWas : Nat) (a_changeIs : Nat) (a_tape : Nat) (a_text : Nat) (a_names : Nat) (a_line : Nat) (a_row : Nat) (a_pastMany : Nat) (a_past : Nat) (a_changed : Nat) (a_greatest : Nat) (a_numbersWere : Nat) (a_told : Nat) (a_waysOf : Nat) (a_waysWere : Nat) (a_blocks : Nat) (a_ordersOf : Nat) (a_imageLine : Nat) (a_bodyKind : Nat) (a_trace : Nat) (a_shelf : Nat) (a_many : Nat) (a_items : Nat) (a_carried : Nat) (people : Int32) (keptMany : Int32) (done : Int32) (tapeMany : Int32) (textMany : Int32) (base : Int32) (at_ : Int32) (ends : Int32) (fault : Int32) (opened : Int32) (lineMany : Int32) (rowMany : Int32) (taller : Int32) (tallerBy : Int32) (pasts : Int32) (isKept : Int32) (imageMany : Int32) (bodies : Int32) (ran : Int32) (ownKind : Int32) (ownNumber : Int32) (height : Nat → Int32) (tape : Nat → Int32) (text : Nat → Int32) (names : Nat → Int32) (line : Nat → Int32) (row : Nat → Int32) (numbersWere : Nat → Int32) {v0 : Option Value} {w0 : va_W} (F : zF X G cX12_begins1 RX12 3 none 153 3554 v0 w0) (e_pastMany : Nat → Int32) (e_past : Nat → Int32) (hk : Z X G 3 (w_M_begins1 G a_this a_height a_changeAt a_changeWas a_changeIs a_tape a_text a_names a_line a_row a_pastMany a_past a_changed a_greatest a_numbersWere a_told a_waysOf a_waysWere a_blocks a_ordersOf a_imageLine a_bodyKind a_trace a_shelf a_many a_items a_carried people keptMany done tapeMany textMany base at_ ends fault opened lineMany rowMany taller tallerBy pasts isKept imageMany bodies ran ownKind ownNumber height tape text names line row e_pastMany e_past numbersWere) [(0, .ref a_this)] 75 []) :
    ∀ (fuel : Nat) (pastMany : Nat → Int32) (past : Nat → Int32) (v1 : Int32), f_M_begins1_L11 fuel pastMany past v1 = some (e_pastMany, e_past) → Z X G 3 (w_M_begins1 G a_this a_height a_changeAt a_changeWas a_changeIs a_tape a_text a_names a_line a_row a_pastMany a_past a_changed a_greatest a_numbersWere a_told a_waysOf a_waysWere a_blocks a_ordersOf a_imageLine a_bodyKind a_trace a_shelf a_many a_items a_carried people keptMany done tapeMany textMany base at_ ends fault opened lineMany rowMany taller tallerBy pasts isKept imageMany bodies ran ownKind ownNumber height tape text names line row pastMany past numbersWere) [(0, .ref a_this), (1, .int v1)] 11 [] := by
  intro fuel
  induction fuel with
  | zero => intro pastMany past v1 hf; exact absurd ((f_M_begins1_L11.eq_1 ..).symm.trans hf) (fun h => by cases h)
  | succ fuel ih =>
    intro pastMany past v1 hf
    replace hf := (f_M_begins1_L11.eq_2 ..).symm.trans hf
    refine z_iload_n F 1 dX12_begins1_11 rfl rfl ?_
    refine z_bipush F (12) dX12_begins1_12 rfl ?_
    refine z_icmp_ge F 75 dX12_begins1_14 (by decide) hf (fun hf _ => ?_) (fun hf _ => ?_)
    · have eq1 := Option.some.inj hf
      obtain ⟨ee1, ee2⟩ := Prod.mk.inj eq1
      subst ee1
      subst ee2
      exact z_sub [0] rfl hk
    · refine z_aload_n F 0 dX12_begins1_17 rfl rfl ?_
      refine z_get F 0 12 23 inlX12 rfl rfl (by decide) fl_X12_37 rfl dX12_begins1_18 ?_
      refine z_iload_n F 1 dX12_begins1_21 rfl rfl ?_
      refine z_iconst F (1) dX12_begins1_22 rfl ?_
      refine z_isub F dX12_begins1_23 ?_
      refine z_aload_n F 0 dX12_begins1_24 rfl rfl ?_
      refine z_get F 0 12 23 inlX12 rfl rfl (by decide) fl_X12_37 rfl dX12_begins1_25 ?_
      refine z_iload_n F 1 dX12_begins1_28 rfl rfl ?_
      refine z_iald F 7 rfl hf dX12_begins1_29 (fun v_36 hf => ?_)
      refine z_iast F 7 (fun pastMany_37 => (w_M_begins1 G a_this a_height a_changeAt a_changeWas a_changeIs a_tape a_text a_names a_line a_row a_pastMany a_past a_changed a_greatest a_numbersWere a_told a_waysOf a_waysWere a_blocks a_ordersOf a_imageLine a_bodyKind a_trace a_shelf a_many a_items a_carried people keptMany done tapeMany textMany base at_ ends fault opened lineMany rowMany taller tallerBy pasts isKept imageMany bodies ran ownKind ownNumber height tape text names line row pastMany_37 past numbersWere)) rfl hf (fun _ => rfl) dX12_begins1_30 (fun pastMany_37 hf => ?_)
      refine z_iconst F (0) dX12_begins1_31 rfl ?_
      refine z_istore_n F [(2, .int 0), (0, .ref a_this), (1, .int v1)] dX12_begins1_32 rfl (by decide) rfl ?_
      obtain ⟨past_40, hg, hf⟩ := zb1_some hf
      refine z_sub [1, 2, 0] rfl ?_
      refine l_M_begins1_33 G a_this a_height a_changeAt a_changeWas a_changeIs a_tape a_text a_names a_line a_row a_pastMany a_past a_changed a_greatest a_numbersWere a_told a_waysOf a_waysWere a_blocks a_ordersOf a_imageLine a_bodyKind a_trace a_shelf a_many a_items a_carried people keptMany done tapeMany textMany base at_ ends fault opened lineMany rowMany taller tallerBy pasts isKept imageMany bodies ran ownKind ownNumber height tape text names line row pastMany_37 numbersWere v1 F past_40 ?_ FU past 0 hg
      refine z_iinc F [(1, .int (v1 + 1)), (0, .ref a_this)] dX12_begins1_69 1 rfl rfl (by decide) rfl ?_
      refine z_goto F 11 dX12_begins1_72 (by decide) ?_
      exact z_sub [1, 0] rfl (ih pastMany_37 past_40 (v1 + 1) hf)

set_option maxRecDepth 100000 in
set_option maxHeartbeats 4000000 in
theorem c_M_begins1 (l : Launch) (G : zG) (a_this : Nat) (a_height : Nat) (a_changeAt : Nat) (a_changeWas : Nat) (a_changeIs : Nat) (a_tape : Nat) (a_text : Nat) (a_names : Nat) (a_line : Nat) (a_row : Nat) (a_pastMany : Nat) (a_past : Nat) (a_changed : Nat) (a_greatest : Nat) (a_numbersWere : Nat) (a_told : Nat) (a_waysOf : Nat) (a_waysWere : Nat) (a_blocks : Nat) (a_ordersOf : Nat) (a_imageLine : Nat) (a_bodyKind : Nat) (a_trace : Nat) (a_shelf : Nat) (a_many : Nat) (a_items : Nat) (a_carried : Nat) (people : Int32) (keptMany : Int32) (done : Int32) (tapeMany : Int32) (textMany : Int32) (base : Int32) (at_ : Int32) (ends : Int32) (fault : Int32) (opened : Int32) (lineMany : Int32) (rowMany : Int32) (taller : Int32) (tallerBy : Int32) (pasts : Int32) (isKept : Int32) (imageMany : Int32) (bodies : Int32) (ran : Int32) (ownKind : Int32) (ownNumber : Int32) (height : Nat → Int32) (tape : Nat → Int32) (text : Nat → Int32) (names : Nat → Int32) (line : Nat → Int32) (row : Nat → Int32) (pastMany : Nat → Int32) (past : Nat → Int32) (numbersWere : Nat → Int32) (o_base : Int32) (o_at_ : Int32) (o_ends : Int32) (o_fault : Int32) (o_opened : Int32) (o_rowMany : Int32) (o_taller : Int32) (o_pasts : Int32) (o_names : Nat → Int32) (o_row : Nat → Int32) (o_pastMany : Nat → Int32) (o_past : Nat → Int32) (o_numbersWere : Nat → Int32) (hf : f_M_begins1 people textMany base at_ ends fault opened lineMany rowMany taller tallerBy pasts height tape text names line row pastMany past numbersWere = some (o_base, o_at_, o_ends, o_fault, o_opened, o_rowMany, o_taller, o_pasts, o_names, o_row, o_pastMany, o_past, o_numbersWere)) : zM l yX12_begins1 cX12_begins1 3 none 153 3554 G [.ref a_this] (w_M_begins1 G a_this a_height a_changeAt a_changeWas a_changeIs a_tape a_text a_names a_line a_row a_pastMany a_past a_changed a_greatest a_numbersWere a_told a_waysOf a_waysWere a_blocks a_ordersOf a_imageLine a_bodyKind a_trace a_shelf a_many a_items a_carried people keptMany done tapeMany textMany base at_ ends fault opened lineMany rowMany taller tallerBy pasts isKept imageMany bodies ran ownKind ownNumber height tape text names line row pastMany past numbersWere) (none) (w_M_begins1 G a_this a_height a_changeAt a_changeWas a_changeIs a_tape a_text a_names a_line a_row a_pastMany a_past a_changed a_greatest a_numbersWere a_told a_waysOf a_waysWere a_blocks a_ordersOf a_imageLine a_bodyKind a_trace a_shelf a_many a_items a_carried people keptMany done tapeMany textMany o_base o_at_ o_ends o_fault o_opened lineMany o_rowMany o_taller tallerBy o_pasts isKept imageMany bodies ran ownKind ownNumber height tape text o_names line o_row o_pastMany o_past o_numbersWere) := by
  refine zM.of [(0, .ref a_this)] (own := RX12) rfl (by decide +kernel) (Nat.le_of_ble_eq_true rfl) rfl rfl fun X hX F => ?_
  subst hX
  replace hf := (f_M_begins1.eq_1 ..).symm.trans hf
  refine z_aload_n F 0 dX12_begins1_0 rfl rfl ?_
  refine z_get F 0 12 25 inlX12 rfl rfl (by decide) fl_X12_242 rfl dX12_begins1_1 ?_
  refine z_bipush F (12) dX12_begins1_4 rfl ?_
  refine z_icmp_ne F 85 dX12_begins1_6 (by decide) hf (fun hf _ => ?_) (fun hf _ => ?_)
  · refine z_aload_n F 0 dX12_begins1_85 rfl rfl ?_
    refine z_get F 0 12 23 inlX12 rfl rfl (by decide) fl_X12_37 rfl dX12_begins1_86 ?_
    refine z_aload_n F 0 dX12_begins1_89 rfl rfl ?_
    refine z_get F 0 12 25 inlX12 rfl rfl (by decide) fl_X12_242 rfl dX12_begins1_90 ?_
    refine z_aload_n F 0 dX12_begins1_93 rfl rfl ?_
    refine z_get F 0 12 18 inlX12 rfl rfl (by decide) fl_X12_100 rfl dX12_begins1_94 ?_
    refine z_iast F 7 (fun pastMany_1 => (w_M_begins1 G a_this a_height a_changeAt a_changeWas a_changeIs a_tape a_text a_names a_line a_row a_pastMany a_past a_changed a_greatest a_numbersWere a_told a_waysOf a_waysWere a_blocks a_ordersOf a_imageLine a_bodyKind a_trace a_shelf a_many a_items a_carried people keptMany done tapeMany textMany base at_ ends fault opened lineMany rowMany taller tallerBy pasts isKept imageMany bodies ran ownKind ownNumber height tape text names line row pastMany_1 past numbersWere)) rfl hf (fun _ => rfl) dX12_begins1_97 (fun pastMany_1 hf => ?_)
    refine z_iconst F (0) dX12_begins1_98 rfl ?_
    refine z_istore_n F [(1, .int 0), (0, .ref a_this)] dX12_begins1_99 rfl (by decide) rfl ?_
    obtain ⟨past_4, hg, hf⟩ := zb1_some hf
    refine z_sub [1, 0] rfl ?_
    refine l_M_begins1_100 G a_this a_height a_changeAt a_changeWas a_changeIs a_tape a_text a_names a_line a_row a_pastMany a_past a_changed a_greatest a_numbersWere a_told a_waysOf a_waysWere a_blocks a_ordersOf a_imageLine a_bodyKind a_trace a_shelf a_many a_items a_carried people keptMany done tapeMany textMany base at_ ends fault opened lineMany rowMany taller tallerBy pasts isKept imageMany bodies ran ownKind ownNumber height tape text names line row pastMany_1 numbersWere F past_4 ?_ FU past 0 hg
    refine z_aload_n F 0 dX12_begins1_134 rfl rfl ?_
    refine z_dup F rfl dX12_begins1_135 ?_
    refine z_get F 0 12 25 inlX12 rfl rfl (by decide) fl_X12_242 rfl dX12_begins1_136 ?_
    refine z_iconst F (1) dX12_begins1_139 rfl ?_
    refine z_iadd F dX12_begins1_140 ?_
    refine z_put F 0 12 25 (w_M_begins1 G a_this a_height a_changeAt a_changeWas a_changeIs a_tape a_text a_names a_line a_row a_pastMany a_past a_changed a_greatest a_numbersWere a_told a_waysOf a_waysWere a_blocks a_ordersOf a_imageLine a_bodyKind a_trace a_shelf a_many a_items a_carried people keptMany done tapeMany textMany base at_ ends fault opened lineMany rowMany taller tallerBy (pasts + (1 : Int32)) isKept imageMany bodies ran ownKind ownNumber height tape text names line row pastMany_1 past_4 numbersWere) inlX12 tyX12 tyX12_ok nmX12 rfl rfl (by decide) fl_X12_242 rfl rfl rfl (Nat.le_of_ble_eq_true rfl) rfl dX12_begins1_141 ?_
    refine z_iconst F (0) dX12_begins1_144 rfl ?_
    refine z_istore_n F [(1, .int 0), (0, .ref a_this)] dX12_begins1_145 rfl (by decide) rfl ?_
    obtain ⟨base_22, at__23, ends_24, fault_25, opened_26, rowMany_27, taller_28, names_29, row_30, numbersWere_31, hg, hf⟩ := zb10_some hf
    refine z_sub [1, 0] rfl ?_
    refine l_M_begins1_146 G a_this a_height a_changeAt a_changeWas a_changeIs a_tape a_text a_names a_line a_row a_pastMany a_past a_changed a_greatest a_numbersWere a_told a_waysOf a_waysWere a_blocks a_ordersOf a_imageLine a_bodyKind a_trace a_shelf a_many a_items a_carried people keptMany done tapeMany textMany lineMany tallerBy (pasts + (1 : Int32)) isKept imageMany bodies ran ownKind ownNumber height tape text line pastMany_1 past_4 F base_22 at__23 ends_24 fault_25 opened_26 rowMany_27 taller_28 names_29 row_30 numbersWere_31 ?_ FU base at_ ends fault opened rowMany taller names row numbersWere 0 hg
    refine z_aload_n F 0 dX12_begins1_188 rfl rfl ?_
    obtain ⟨rowMany_32, taller_33, row_34, hg, hf⟩ := zb3_some hf
    refine z_callVm (rest := []) F 12 (c_M_laysOut (xL X) G a_this a_height a_changeAt a_changeWas a_changeIs a_tape a_text a_names a_line a_row a_pastMany a_past a_changed a_greatest a_numbersWere a_told a_waysOf a_waysWere a_blocks a_ordersOf a_imageLine a_bodyKind a_trace a_shelf a_many a_items a_carried people keptMany done tapeMany textMany base_22 at__23 ends_24 fault_25 opened_26 lineMany rowMany_27 taller_28 tallerBy (pasts + (1 : Int32)) isKept imageMany bodies ran ownKind ownNumber line row_30 rowMany_32 taller_33 row_34 hg) hy_X12_laysOut ml_X12_203 hd_X12_laysOut ⟨by omega, by omega⟩ rfl [0, 5, 6] rfl rfl 0 rfl rfl (w_M_begins1 G a_this a_height a_changeAt a_changeWas a_changeIs a_tape a_text a_names a_line a_row a_pastMany a_past a_changed a_greatest a_numbersWere a_told a_waysOf a_waysWere a_blocks a_ordersOf a_imageLine a_bodyKind a_trace a_shelf a_many a_items a_carried people keptMany done tapeMany textMany base_22 at__23 ends_24 fault_25 opened_26 lineMany rowMany_32 taller_33 tallerBy (pasts + (1 : Int32)) isKept imageMany bodies ran ownKind ownNumber height tape text names_29 line row_34 pastMany_1 past_4 numbersWere_31) [some 0, none, none, none, none, some 1, some 2, none, none, none] rfl (by decide +kernel) rfl rfl (Nat.le_of_ble_eq_true rfl) dX12_begins1_189 (fun hz_35 => ?_)
    have eq1 := Option.some.inj hf
    obtain ⟨ee1, eq2⟩ := Prod.mk.inj eq1
    obtain ⟨ee2, eq3⟩ := Prod.mk.inj eq2
    obtain ⟨ee3, eq4⟩ := Prod.mk.inj eq3
    obtain ⟨ee4, eq5⟩ := Prod.mk.inj eq4
    obtain ⟨ee5, eq6⟩ := Prod.mk.inj eq5
    obtain ⟨ee6, eq7⟩ := Prod.mk.inj eq6
    obtain ⟨ee7, eq8⟩ := Prod.mk.inj eq7
    obtain ⟨ee8, eq9⟩ := Prod.mk.inj eq8
    obtain ⟨ee9, eq10⟩ := Prod.mk.inj eq9
    obtain ⟨ee10, eq11⟩ := Prod.mk.inj eq10
    obtain ⟨ee11, eq12⟩ := Prod.mk.inj eq11
    obtain ⟨ee12, ee13⟩ := Prod.mk.inj eq12
    subst ee1
    subst ee2
    subst ee3
    subst ee4
    subst ee5
    subst ee6
    subst ee7
    subst ee8
    subst ee9
    subst ee10
    subst ee11
    subst ee12
    subst ee13
    exact z_vret F rfl rfl rfl dX12_begins1_192
  · refine z_iconst F (1) dX12_begins1_9 rfl ?_
    refine z_istore_n F [(1, .int 1), (0, .ref a_this)] dX12_begins1_10 rfl (by decide) rfl ?_
    obtain ⟨pastMany_41, past_42, hg, hf⟩ := zb2_some hf
    refine z_sub [1, 0] rfl ?_
    refine l_M_begins1_11 G a_this a_height a_changeAt a_changeWas a_changeIs a_tape a_text a_names a_line a_row a_pastMany a_past a_changed a_greatest a_numbersWere a_told a_waysOf a_waysWere a_blocks a_ordersOf a_imageLine a_bodyKind a_trace a_shelf a_many a_items a_carried people keptMany done tapeMany textMany base at_ ends fault opened lineMany rowMany taller tallerBy pasts isKept imageMany bodies ran ownKind ownNumber height tape text names line row numbersWere F pastMany_41 past_42 ?_ FU pastMany past 1 hg
    refine z_aload_n F 0 dX12_begins1_75 rfl rfl ?_
    refine z_dup F rfl dX12_begins1_76 ?_
    refine z_get F 0 12 25 inlX12 rfl rfl (by decide) fl_X12_242 rfl dX12_begins1_77 ?_
    refine z_iconst F (1) dX12_begins1_80 rfl ?_
    refine z_isub F dX12_begins1_81 ?_
    refine z_put F 0 12 25 (w_M_begins1 G a_this a_height a_changeAt a_changeWas a_changeIs a_tape a_text a_names a_line a_row a_pastMany a_past a_changed a_greatest a_numbersWere a_told a_waysOf a_waysWere a_blocks a_ordersOf a_imageLine a_bodyKind a_trace a_shelf a_many a_items a_carried people keptMany done tapeMany textMany base at_ ends fault opened lineMany rowMany taller tallerBy (pasts - (1 : Int32)) isKept imageMany bodies ran ownKind ownNumber height tape text names line row pastMany_41 past_42 numbersWere) inlX12 tyX12 tyX12_ok nmX12 rfl rfl (by decide) fl_X12_242 rfl rfl rfl (Nat.le_of_ble_eq_true rfl) rfl dX12_begins1_82 ?_
    refine z_aload_n F 0 dX12_begins1_85 rfl rfl ?_
    refine z_get F 0 12 23 inlX12 rfl rfl (by decide) fl_X12_37 rfl dX12_begins1_86 ?_
    refine z_aload_n F 0 dX12_begins1_89 rfl rfl ?_
    refine z_get F 0 12 25 inlX12 rfl rfl (by decide) fl_X12_242 rfl dX12_begins1_90 ?_
    refine z_aload_n F 0 dX12_begins1_93 rfl rfl ?_
    refine z_get F 0 12 18 inlX12 rfl rfl (by decide) fl_X12_100 rfl dX12_begins1_94 ?_
    refine z_iast F 7 (fun pastMany_43 => (w_M_begins1 G a_this a_height a_changeAt a_changeWas a_changeIs a_tape a_text a_names a_line a_row a_pastMany a_past a_changed a_greatest a_numbersWere a_told a_waysOf a_waysWere a_blocks a_ordersOf a_imageLine a_bodyKind a_trace a_shelf a_many a_items a_carried people keptMany done tapeMany textMany base at_ ends fault opened lineMany rowMany taller tallerBy (pasts - (1 : Int32)) isKept imageMany bodies ran ownKind ownNumber height tape text names line row pastMany_43 past_42 numbersWere)) rfl hf (fun _ => rfl) dX12_begins1_97 (fun pastMany_43 hf => ?_)
    refine z_iconst F (0) dX12_begins1_98 rfl ?_
    refine z_istore_n F [(1, .int 0), (0, .ref a_this)] dX12_begins1_99 rfl (by decide) rfl ?_
    obtain ⟨past_44, hg, hf⟩ := zb1_some hf
    refine z_sub [1, 0] rfl ?_
    refine l_M_begins1_100 G a_this a_height a_changeAt a_changeWas a_changeIs a_tape a_text a_names a_line a_row a_pastMany a_past a_changed a_greatest a_numbersWere a_told a_waysOf a_waysWere a_blocks a_ordersOf a_imageLine a_bodyKind a_trace a_shelf a_many a_items a_carried people keptMany done tapeMany textMany base at_ ends fault opened lineMany rowMany taller tallerBy (pasts - (1 : Int32)) isKept imageMany bodies ran ownKind ownNumber height tape text names line row pastMany_43 numbersWere F past_44 ?_ FU past_42 0 hg
    refine z_aload_n F 0 dX12_begins1_134 rfl rfl ?_
    refine z_dup F rfl dX12_begins1_135 ?_
    refine z_get F 0 12 25 inlX12 rfl rfl (by decide) fl_X12_242 rfl dX12_begins1_136 ?_
    refine z_iconst F (1) dX12_begins1_139 rfl ?_
    refine z_iadd F dX12_begins1_140 ?_
    refine z_put F 0 12 25 (w_M_begins1 G a_this a_height a_changeAt a_changeWas a_changeIs a_tape a_text a_names a_line a_row a_pastMany a_past a_changed a_greatest a_numbersWere a_told a_waysOf a_waysWere a_blocks a_ordersOf a_imageLine a_bodyKind a_trace a_shelf a_many a_items a_carried people keptMany done tapeMany textMany base at_ ends fault opened lineMany rowMany taller tallerBy ((pasts - (1 : Int32)) + (1 : Int32)) isKept imageMany bodies ran ownKind ownNumber height tape text names line row pastMany_43 past_44 numbersWere) inlX12 tyX12 tyX12_ok nmX12 rfl rfl (by decide) fl_X12_242 rfl rfl rfl (Nat.le_of_ble_eq_true rfl) rfl dX12_begins1_141 ?_
    refine z_iconst F (0) dX12_begins1_144 rfl ?_
    refine z_istore_n F [(1, .int 0), (0, .ref a_this)] dX12_begins1_145 rfl (by decide) rfl ?_
    obtain ⟨base_45, at__46, ends_47, fault_48, opened_49, rowMany_50, taller_51, names_52, row_53, numbersWere_54, hg, hf⟩ := zb10_some hf
    refine z_sub [1, 0] rfl ?_
    refine l_M_begins1_146 G a_this a_height a_changeAt a_changeWas a_changeIs a_tape a_text a_names a_line a_row a_pastMany a_past a_changed a_greatest a_numbersWere a_told a_waysOf a_waysWere a_blocks a_ordersOf a_imageLine a_bodyKind a_trace a_shelf a_many a_items a_carried people keptMany done tapeMany textMany lineMany tallerBy ((pasts - (1 : Int32)) + (1 : Int32)) isKept imageMany bodies ran ownKind ownNumber height tape text line pastMany_43 past_44 F base_45 at__46 ends_47 fault_48 opened_49 rowMany_50 taller_51 names_52 row_53 numbersWere_54 ?_ FU base at_ ends fault opened rowMany taller names row numbersWere 0 hg
    refine z_aload_n F 0 dX12_begins1_188 rfl rfl ?_
    obtain ⟨rowMany_55, taller_56, row_57, hg, hf⟩ := zb3_some hf
    refine z_callVm (rest := []) F 12 (c_M_laysOut (xL X) G a_this a_height a_changeAt a_changeWas a_changeIs a_tape a_text a_names a_line a_row a_pastMany a_past a_changed a_greatest a_numbersWere a_told a_waysOf a_waysWere a_blocks a_ordersOf a_imageLine a_bodyKind a_trace a_shelf a_many a_items a_carried people keptMany done tapeMany textMany base_45 at__46 ends_47 fault_48 opened_49 lineMany rowMany_50 taller_51 tallerBy ((pasts - (1 : Int32)) + (1 : Int32)) isKept imageMany bodies ran ownKind ownNumber line row_53 rowMany_55 taller_56 row_57 hg) hy_X12_laysOut ml_X12_203 hd_X12_laysOut ⟨by omega, by omega⟩ rfl [0, 5, 6] rfl rfl 0 rfl rfl (w_M_begins1 G a_this a_height a_changeAt a_changeWas a_changeIs a_tape a_text a_names a_line a_row a_pastMany a_past a_changed a_greatest a_numbersWere a_told a_waysOf a_waysWere a_blocks a_ordersOf a_imageLine a_bodyKind a_trace a_shelf a_many a_items a_carried people keptMany done tapeMany textMany base_45 at__46 ends_47 fault_48 opened_49 lineMany rowMany_55 taller_56 tallerBy ((pasts - (1 : Int32)) + (1 : Int32)) isKept imageMany bodies ran ownKind ownNumber height tape text names_52 line row_57 pastMany_43 past_44 numbersWere_54) [some 0, none, none, none, none, some 1, some 2, none, none, none] rfl (by decide +kernel) rfl rfl (Nat.le_of_ble_eq_true rfl) dX12_begins1_189 (fun hz_58 => ?_)
    have eq1 := Option.some.inj hf
    obtain ⟨ee1, eq2⟩ := Prod.mk.inj eq1
    obtain ⟨ee2, eq3⟩ := Prod.mk.inj eq2
    obtain ⟨ee3, eq4⟩ := Prod.mk.inj eq3
    obtain ⟨ee4, eq5⟩ := Prod.mk.inj eq4
    obtain ⟨ee5, eq6⟩ := Prod.mk.inj eq5
    obtain ⟨ee6, eq7⟩ := Prod.mk.inj eq6
    obtain ⟨ee7, eq8⟩ := Prod.mk.inj eq7
    obtain ⟨ee8, eq9⟩ := Prod.mk.inj eq8
    obtain ⟨ee9, eq10⟩ := Prod.mk.inj eq9
    obtain ⟨ee10, eq11⟩ := Prod.mk.inj eq10
    obtain ⟨ee11, eq12⟩ := Prod.mk.inj eq11
    obtain ⟨ee12, ee13⟩ := Prod.mk.inj eq12
    subst ee1
    subst ee2
    subst ee3
    subst ee4
    subst ee5
    subst ee6
    subst ee7
    subst ee8
    subst ee9
    subst ee10
    subst ee11
    subst ee12
    subst ee13
    exact z_vret F rfl rfl rfl dX12_begins1_192

