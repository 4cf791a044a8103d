/-! by program (wip/whole/gen.py): pure functions and contracts -/
theorem dX4_forgetAll_0 : decode cX4_forgetAll 0 = .ok (.aload_n 0, 1) := by decide +kernel
theorem dX4_forgetAll_1 : decode cX4_forgetAll 1 = .ok (.getfield 19, 3) := by decide +kernel
theorem dX4_forgetAll_4 : decode cX4_forgetAll 4 = .ok (.iconst 0, 1) := by decide +kernel
theorem dX4_forgetAll_5 : decode cX4_forgetAll 5 = .ok (.invokestatic 23, 3) := by decide +kernel
theorem dX4_forgetAll_8 : decode cX4_forgetAll 8 = .ok (.return_, 1) := by decide +kernel
theorem dX4_isCounted_0 : decode cX4_isCounted 0 = .ok (.aload_n 0, 1) := by decide +kernel
theorem dX4_isCounted_1 : decode cX4_isCounted 1 = .ok (.getfield 15, 3) := by decide +kernel
theorem dX4_isCounted_4 : decode cX4_isCounted 4 = .ok (.invokevirtual 29, 3) := by decide +kernel
theorem dX4_isCounted_7 : decode cX4_isCounted 7 = .ok (.ifCond .ne 13, 3) := by decide +kernel
theorem dX4_isCounted_10 : decode cX4_isCounted 10 = .ok (.aload_n 0, 1) := by decide +kernel
theorem dX4_isCounted_11 : decode cX4_isCounted 11 = .ok (.getfield 9, 3) := by decide +kernel
theorem dX4_isCounted_14 : decode cX4_isCounted 14 = .ok (.iload_n 1, 1) := by decide +kernel
theorem dX4_isCounted_15 : decode cX4_isCounted 15 = .ok (.iload_n 2, 1) := by decide +kernel
theorem dX4_isCounted_16 : decode cX4_isCounted 16 = .ok (.invokevirtual 35, 3) := by decide +kernel
theorem dX4_isCounted_19 : decode cX4_isCounted 19 = .ok (.ireturn, 1) := by decide +kernel
theorem dX4_isCounted_20 : decode cX4_isCounted 20 = .ok (.iload_n 1, 1) := by decide +kernel
theorem dX4_isCounted_21 : decode cX4_isCounted 21 = .ok (.bipush 9, 2) := by decide +kernel
theorem dX4_isCounted_23 : decode cX4_isCounted 23 = .ok (.imul, 1) := by decide +kernel
theorem dX4_isCounted_24 : decode cX4_isCounted 24 = .ok (.iload_n 2, 1) := by decide +kernel
theorem dX4_isCounted_25 : decode cX4_isCounted 25 = .ok (.iadd, 1) := by decide +kernel
theorem dX4_isCounted_26 : decode cX4_isCounted 26 = .ok (.bipush 9, 2) := by decide +kernel
theorem dX4_isCounted_28 : decode cX4_isCounted 28 = .ok (.imul, 1) := by decide +kernel
theorem dX4_isCounted_29 : decode cX4_isCounted 29 = .ok (.iload_n 3, 1) := by decide +kernel
theorem dX4_isCounted_30 : decode cX4_isCounted 30 = .ok (.iadd, 1) := by decide +kernel
theorem dX4_isCounted_31 : decode cX4_isCounted 31 = .ok (.istore 4, 2) := by decide +kernel
theorem dX4_isCounted_33 : decode cX4_isCounted 33 = .ok (.iload 4, 2) := by decide +kernel
theorem dX4_isCounted_35 : decode cX4_isCounted 35 = .ok (.ifCond .lt 13, 3) := by decide +kernel
theorem dX4_isCounted_38 : decode cX4_isCounted 38 = .ok (.iload 4, 2) := by decide +kernel
theorem dX4_isCounted_40 : decode cX4_isCounted 40 = .ok (.aload_n 0, 1) := by decide +kernel
theorem dX4_isCounted_41 : decode cX4_isCounted 41 = .ok (.getfield 19, 3) := by decide +kernel
theorem dX4_isCounted_44 : decode cX4_isCounted 44 = .ok (.arraylength, 1) := by decide +kernel
theorem dX4_isCounted_45 : decode cX4_isCounted 45 = .ok (.if_icmp .lt 5, 3) := by decide +kernel
theorem dX4_isCounted_48 : decode cX4_isCounted 48 = .ok (.iconst 0, 1) := by decide +kernel
theorem dX4_isCounted_49 : decode cX4_isCounted 49 = .ok (.ireturn, 1) := by decide +kernel
theorem dX4_isCounted_50 : decode cX4_isCounted 50 = .ok (.aload_n 0, 1) := by decide +kernel
theorem dX4_isCounted_51 : decode cX4_isCounted 51 = .ok (.getfield 19, 3) := by decide +kernel
theorem dX4_isCounted_54 : decode cX4_isCounted 54 = .ok (.iload 4, 2) := by decide +kernel
theorem dX4_isCounted_56 : decode cX4_isCounted 56 = .ok (.baload, 1) := by decide +kernel
theorem dX4_isCounted_57 : decode cX4_isCounted 57 = .ok (.ifCond .ne 49, 3) := by decide +kernel
theorem dX4_isCounted_60 : decode cX4_isCounted 60 = .ok (.aload_n 0, 1) := by decide +kernel
theorem dX4_isCounted_61 : decode cX4_isCounted 61 = .ok (.getfield 15, 3) := by decide +kernel
theorem dX4_isCounted_64 : decode cX4_isCounted 64 = .ok (.aload_n 0, 1) := by decide +kernel
theorem dX4_isCounted_65 : decode cX4_isCounted 65 = .ok (.getfield 9, 3) := by decide +kernel
theorem dX4_isCounted_68 : decode cX4_isCounted 68 = .ok (.iload_n 1, 1) := by decide +kernel
theorem dX4_isCounted_69 : decode cX4_isCounted 69 = .ok (.invokevirtual 41, 3) := by decide +kernel
theorem dX4_isCounted_72 : decode cX4_isCounted 72 = .ok (.aload_n 0, 1) := by decide +kernel
theorem dX4_isCounted_73 : decode cX4_isCounted 73 = .ok (.getfield 9, 3) := by decide +kernel
theorem dX4_isCounted_76 : decode cX4_isCounted 76 = .ok (.iload_n 2, 1) := by decide +kernel
theorem dX4_isCounted_77 : decode cX4_isCounted 77 = .ok (.invokevirtual 41, 3) := by decide +kernel
theorem dX4_isCounted_80 : decode cX4_isCounted 80 = .ok (.iload_n 3, 1) := by decide +kernel
theorem dX4_isCounted_81 : decode cX4_isCounted 81 = .ok (.iload_n 1, 1) := by decide +kernel
theorem dX4_isCounted_82 : decode cX4_isCounted 82 = .ok (.iload_n 2, 1) := by decide +kernel
theorem dX4_isCounted_83 : decode cX4_isCounted 83 = .ok (.invokevirtual 45, 3) := by decide +kernel
theorem dX4_isCounted_86 : decode cX4_isCounted 86 = .ok (.istore 5, 2) := by decide +kernel
theorem dX4_isCounted_88 : decode cX4_isCounted 88 = .ok (.aload_n 0, 1) := by decide +kernel
theorem dX4_isCounted_89 : decode cX4_isCounted 89 = .ok (.getfield 19, 3) := by decide +kernel
theorem dX4_isCounted_92 : decode cX4_isCounted 92 = .ok (.iload 4, 2) := by decide +kernel
theorem dX4_isCounted_94 : decode cX4_isCounted 94 = .ok (.iload 5, 2) := by decide +kernel
theorem dX4_isCounted_96 : decode cX4_isCounted 96 = .ok (.ifCond .eq 7, 3) := by decide +kernel
theorem dX4_isCounted_99 : decode cX4_isCounted 99 = .ok (.iconst 1, 1) := by decide +kernel
theorem dX4_isCounted_100 : decode cX4_isCounted 100 = .ok (.goto 4, 3) := by decide +kernel
theorem dX4_isCounted_103 : decode cX4_isCounted 103 = .ok (.iconst 2, 1) := by decide +kernel
theorem dX4_isCounted_104 : decode cX4_isCounted 104 = .ok (.i2b, 1) := by decide +kernel
theorem dX4_isCounted_105 : decode cX4_isCounted 105 = .ok (.bastore, 1) := by decide +kernel
theorem dX4_isCounted_106 : decode cX4_isCounted 106 = .ok (.aload_n 0, 1) := by decide +kernel
theorem dX4_isCounted_107 : decode cX4_isCounted 107 = .ok (.getfield 19, 3) := by decide +kernel
theorem dX4_isCounted_110 : decode cX4_isCounted 110 = .ok (.iload 4, 2) := by decide +kernel
theorem dX4_isCounted_112 : decode cX4_isCounted 112 = .ok (.baload, 1) := by decide +kernel
theorem dX4_isCounted_113 : decode cX4_isCounted 113 = .ok (.iconst 1, 1) := by decide +kernel
theorem dX4_isCounted_114 : decode cX4_isCounted 114 = .ok (.if_icmp .ne 7, 3) := by decide +kernel
theorem dX4_isCounted_117 : decode cX4_isCounted 117 = .ok (.iconst 1, 1) := by decide +kernel
theorem dX4_isCounted_118 : decode cX4_isCounted 118 = .ok (.goto 4, 3) := by decide +kernel
theorem dX4_isCounted_121 : decode cX4_isCounted 121 = .ok (.iconst 0, 1) := by decide +kernel
theorem dX4_isCounted_122 : decode cX4_isCounted 122 = .ok (.ireturn, 1) := by decide +kernel
theorem dX4_numberAt_0 : decode cX4_numberAt 0 = .ok (.aload_n 1, 1) := by decide +kernel
theorem dX4_numberAt_1 : decode cX4_numberAt 1 = .ok (.iload_n 2, 1) := by decide +kernel
theorem dX4_numberAt_2 : decode cX4_numberAt 2 = .ok (.invokevirtual 49, 3) := by decide +kernel
theorem dX4_numberAt_5 : decode cX4_numberAt 5 = .ok (.istore_n 3, 1) := by decide +kernel
theorem dX4_numberAt_6 : decode cX4_numberAt 6 = .ok (.iconst 0, 1) := by decide +kernel
theorem dX4_numberAt_7 : decode cX4_numberAt 7 = .ok (.istore 4, 2) := by decide +kernel
theorem dX4_numberAt_9 : decode cX4_numberAt 9 = .ok (.iconst 0, 1) := by decide +kernel
theorem dX4_numberAt_10 : decode cX4_numberAt 10 = .ok (.istore 5, 2) := by decide +kernel
theorem dX4_numberAt_12 : decode cX4_numberAt 12 = .ok (.iload 5, 2) := by decide +kernel
theorem dX4_numberAt_14 : decode cX4_numberAt 14 = .ok (.iload_n 2, 1) := by decide +kernel
theorem dX4_numberAt_15 : decode cX4_numberAt 15 = .ok (.if_icmp .ge 30, 3) := by decide +kernel
theorem dX4_numberAt_18 : decode cX4_numberAt 18 = .ok (.aload_n 0, 1) := by decide +kernel
theorem dX4_numberAt_19 : decode cX4_numberAt 19 = .ok (.aload_n 1, 1) := by decide +kernel
theorem dX4_numberAt_20 : decode cX4_numberAt 20 = .ok (.iload 5, 2) := by decide +kernel
theorem dX4_numberAt_22 : decode cX4_numberAt 22 = .ok (.invokevirtual 49, 3) := by decide +kernel
theorem dX4_numberAt_25 : decode cX4_numberAt 25 = .ok (.iload_n 3, 1) := by decide +kernel
theorem dX4_numberAt_26 : decode cX4_numberAt 26 = .ok (.iload_n 2, 1) := by decide +kernel
theorem dX4_numberAt_27 : decode cX4_numberAt 27 = .ok (.iload 5, 2) := by decide +kernel
theorem dX4_numberAt_29 : decode cX4_numberAt 29 = .ok (.isub, 1) := by decide +kernel
theorem dX4_numberAt_30 : decode cX4_numberAt 30 = .ok (.invokevirtual 54, 3) := by decide +kernel
theorem dX4_numberAt_33 : decode cX4_numberAt 33 = .ok (.ifCond .eq 6, 3) := by decide +kernel
theorem dX4_numberAt_36 : decode cX4_numberAt 36 = .ok (.iinc 4 1, 3) := by decide +kernel
theorem dX4_numberAt_39 : decode cX4_numberAt 39 = .ok (.iinc 5 1, 3) := by decide +kernel
theorem dX4_numberAt_42 : decode cX4_numberAt 42 = .ok (.goto (-30), 3) := by decide +kernel
theorem dX4_numberAt_45 : decode cX4_numberAt 45 = .ok (.iload 4, 2) := by decide +kernel
theorem dX4_numberAt_47 : decode cX4_numberAt 47 = .ok (.ireturn, 1) := by decide +kernel
theorem dX4_plainNumberAt_0 : decode cX4_plainNumberAt 0 = .ok (.aload_n 1, 1) := by decide +kernel
theorem dX4_plainNumberAt_1 : decode cX4_plainNumberAt 1 = .ok (.iload_n 2, 1) := by decide +kernel
theorem dX4_plainNumberAt_2 : decode cX4_plainNumberAt 2 = .ok (.invokevirtual 49, 3) := by decide +kernel
theorem dX4_plainNumberAt_5 : decode cX4_plainNumberAt 5 = .ok (.istore_n 3, 1) := by decide +kernel
theorem dX4_plainNumberAt_6 : decode cX4_plainNumberAt 6 = .ok (.iconst 0, 1) := by decide +kernel
theorem dX4_plainNumberAt_7 : decode cX4_plainNumberAt 7 = .ok (.istore 4, 2) := by decide +kernel
theorem dX4_plainNumberAt_9 : decode cX4_plainNumberAt 9 = .ok (.iconst 0, 1) := by decide +kernel
theorem dX4_plainNumberAt_10 : decode cX4_plainNumberAt 10 = .ok (.istore 5, 2) := by decide +kernel
theorem dX4_plainNumberAt_12 : decode cX4_plainNumberAt 12 = .ok (.iload 5, 2) := by decide +kernel
theorem dX4_plainNumberAt_14 : decode cX4_plainNumberAt 14 = .ok (.iload_n 2, 1) := by decide +kernel
theorem dX4_plainNumberAt_15 : decode cX4_plainNumberAt 15 = .ok (.if_icmp .ge 29, 3) := by decide +kernel
theorem dX4_plainNumberAt_18 : decode cX4_plainNumberAt 18 = .ok (.aload_n 0, 1) := by decide +kernel
theorem dX4_plainNumberAt_19 : decode cX4_plainNumberAt 19 = .ok (.getfield 9, 3) := by decide +kernel
theorem dX4_plainNumberAt_22 : decode cX4_plainNumberAt 22 = .ok (.aload_n 1, 1) := by decide +kernel
theorem dX4_plainNumberAt_23 : decode cX4_plainNumberAt 23 = .ok (.iload 5, 2) := by decide +kernel
theorem dX4_plainNumberAt_25 : decode cX4_plainNumberAt 25 = .ok (.invokevirtual 49, 3) := by decide +kernel
theorem dX4_plainNumberAt_28 : decode cX4_plainNumberAt 28 = .ok (.iload_n 3, 1) := by decide +kernel
theorem dX4_plainNumberAt_29 : decode cX4_plainNumberAt 29 = .ok (.invokevirtual 35, 3) := by decide +kernel
theorem dX4_plainNumberAt_32 : decode cX4_plainNumberAt 32 = .ok (.ifCond .eq 6, 3) := by decide +kernel
theorem dX4_plainNumberAt_35 : decode cX4_plainNumberAt 35 = .ok (.iinc 4 1, 3) := by decide +kernel
theorem dX4_plainNumberAt_38 : decode cX4_plainNumberAt 38 = .ok (.iinc 5 1, 3) := by decide +kernel
theorem dX4_plainNumberAt_41 : decode cX4_plainNumberAt 41 = .ok (.goto (-29), 3) := by decide +kernel
theorem dX4_plainNumberAt_44 : decode cX4_plainNumberAt 44 = .ok (.iload 4, 2) := by decide +kernel
theorem dX4_plainNumberAt_46 : decode cX4_plainNumberAt 46 = .ok (.ireturn, 1) := by decide +kernel
theorem dX4_disquietOf_0 : decode cX4_disquietOf 0 = .ok (.iconst 0, 1) := by decide +kernel
theorem dX4_disquietOf_1 : decode cX4_disquietOf 1 = .ok (.istore_n 2, 1) := by decide +kernel
theorem dX4_disquietOf_2 : decode cX4_disquietOf 2 = .ok (.iconst 1, 1) := by decide +kernel
theorem dX4_disquietOf_3 : decode cX4_disquietOf 3 = .ok (.istore_n 3, 1) := by decide +kernel
theorem dX4_disquietOf_4 : decode cX4_disquietOf 4 = .ok (.iload_n 3, 1) := by decide +kernel
theorem dX4_disquietOf_5 : decode cX4_disquietOf 5 = .ok (.aload_n 1, 1) := by decide +kernel
theorem dX4_disquietOf_6 : decode cX4_disquietOf 6 = .ok (.invokevirtual 58, 3) := by decide +kernel
theorem dX4_disquietOf_9 : decode cX4_disquietOf 9 = .ok (.if_icmp .ge 18, 3) := by decide +kernel
theorem dX4_disquietOf_12 : decode cX4_disquietOf 12 = .ok (.iload_n 2, 1) := by decide +kernel
theorem dX4_disquietOf_13 : decode cX4_disquietOf 13 = .ok (.aload_n 0, 1) := by decide +kernel
theorem dX4_disquietOf_14 : decode cX4_disquietOf 14 = .ok (.aload_n 1, 1) := by decide +kernel
theorem dX4_disquietOf_15 : decode cX4_disquietOf 15 = .ok (.iload_n 3, 1) := by decide +kernel
theorem dX4_disquietOf_16 : decode cX4_disquietOf 16 = .ok (.invokevirtual 62, 3) := by decide +kernel
theorem dX4_disquietOf_19 : decode cX4_disquietOf 19 = .ok (.iadd, 1) := by decide +kernel
theorem dX4_disquietOf_20 : decode cX4_disquietOf 20 = .ok (.istore_n 2, 1) := by decide +kernel
theorem dX4_disquietOf_21 : decode cX4_disquietOf 21 = .ok (.iinc 3 1, 3) := by decide +kernel
theorem dX4_disquietOf_24 : decode cX4_disquietOf 24 = .ok (.goto (-20), 3) := by decide +kernel
theorem dX4_disquietOf_27 : decode cX4_disquietOf 27 = .ok (.iload_n 2, 1) := by decide +kernel
theorem dX4_disquietOf_28 : decode cX4_disquietOf 28 = .ok (.ireturn, 1) := by decide +kernel
theorem dX4_plainDisquietOf_0 : decode cX4_plainDisquietOf 0 = .ok (.iconst 0, 1) := by decide +kernel
theorem dX4_plainDisquietOf_1 : decode cX4_plainDisquietOf 1 = .ok (.istore_n 2, 1) := by decide +kernel
theorem dX4_plainDisquietOf_2 : decode cX4_plainDisquietOf 2 = .ok (.iconst 1, 1) := by decide +kernel
theorem dX4_plainDisquietOf_3 : decode cX4_plainDisquietOf 3 = .ok (.istore_n 3, 1) := by decide +kernel
theorem dX4_plainDisquietOf_4 : decode cX4_plainDisquietOf 4 = .ok (.iload_n 3, 1) := by decide +kernel
theorem dX4_plainDisquietOf_5 : decode cX4_plainDisquietOf 5 = .ok (.aload_n 1, 1) := by decide +kernel
theorem dX4_plainDisquietOf_6 : decode cX4_plainDisquietOf 6 = .ok (.invokevirtual 58, 3) := by decide +kernel
theorem dX4_plainDisquietOf_9 : decode cX4_plainDisquietOf 9 = .ok (.if_icmp .ge 18, 3) := by decide +kernel
theorem dX4_plainDisquietOf_12 : decode cX4_plainDisquietOf 12 = .ok (.iload_n 2, 1) := by decide +kernel
theorem dX4_plainDisquietOf_13 : decode cX4_plainDisquietOf 13 = .ok (.aload_n 0, 1) := by decide +kernel
theorem dX4_plainDisquietOf_14 : decode cX4_plainDisquietOf 14 = .ok (.aload_n 1, 1) := by decide +kernel
theorem dX4_plainDisquietOf_15 : decode cX4_plainDisquietOf 15 = .ok (.iload_n 3, 1) := by decide +kernel
theorem dX4_plainDisquietOf_16 : decode cX4_plainDisquietOf 16 = .ok (.invokevirtual 66, 3) := by decide +kernel
theorem dX4_plainDisquietOf_19 : decode cX4_plainDisquietOf 19 = .ok (.iadd, 1) := by decide +kernel
theorem dX4_plainDisquietOf_20 : decode cX4_plainDisquietOf 20 = .ok (.istore_n 2, 1) := by decide +kernel
theorem dX4_plainDisquietOf_21 : decode cX4_plainDisquietOf 21 = .ok (.iinc 3 1, 3) := by decide +kernel
theorem dX4_plainDisquietOf_24 : decode cX4_plainDisquietOf 24 = .ok (.goto (-20), 3) := by decide +kernel
theorem dX4_plainDisquietOf_27 : decode cX4_plainDisquietOf 27 = .ok (.iload_n 2, 1) := by decide +kernel
theorem dX4_plainDisquietOf_28 : decode cX4_plainDisquietOf 28 = .ok (.ireturn, 1) := by decide +kernel
theorem dX4_costOf_0 : decode cX4_costOf 0 = .ok (.iconst 0, 1) := by decide +kernel
theorem dX4_costOf_1 : decode cX4_costOf 1 = .ok (.istore_n 2, 1) := by decide +kernel
theorem dX4_costOf_2 : decode cX4_costOf 2 = .ok (.iconst 1, 1) := by decide +kernel
theorem dX4_costOf_3 : decode cX4_costOf 3 = .ok (.istore_n 3, 1) := by decide +kernel
theorem dX4_costOf_4 : decode cX4_costOf 4 = .ok (.iload_n 3, 1) := by decide +kernel
theorem dX4_costOf_5 : decode cX4_costOf 5 = .ok (.aload_n 1, 1) := by decide +kernel
theorem dX4_costOf_6 : decode cX4_costOf 6 = .ok (.invokevirtual 58, 3) := by decide +kernel
theorem dX4_costOf_9 : decode cX4_costOf 9 = .ok (.if_icmp .ge 53, 3) := by decide +kernel
theorem dX4_costOf_12 : decode cX4_costOf 12 = .ok (.iconst 0, 1) := by decide +kernel
theorem dX4_costOf_13 : decode cX4_costOf 13 = .ok (.istore 4, 2) := by decide +kernel
theorem dX4_costOf_15 : decode cX4_costOf 15 = .ok (.iload 4, 2) := by decide +kernel
theorem dX4_costOf_17 : decode cX4_costOf 17 = .ok (.iload_n 3, 1) := by decide +kernel
theorem dX4_costOf_18 : decode cX4_costOf 18 = .ok (.if_icmp .ge 38, 3) := by decide +kernel
theorem dX4_costOf_21 : decode cX4_costOf 21 = .ok (.aload_n 0, 1) := by decide +kernel
theorem dX4_costOf_22 : decode cX4_costOf 22 = .ok (.aload_n 1, 1) := by decide +kernel
theorem dX4_costOf_23 : decode cX4_costOf 23 = .ok (.iload 4, 2) := by decide +kernel
theorem dX4_costOf_25 : decode cX4_costOf 25 = .ok (.invokevirtual 49, 3) := by decide +kernel
theorem dX4_costOf_28 : decode cX4_costOf 28 = .ok (.aload_n 1, 1) := by decide +kernel
theorem dX4_costOf_29 : decode cX4_costOf 29 = .ok (.iload_n 3, 1) := by decide +kernel
theorem dX4_costOf_30 : decode cX4_costOf 30 = .ok (.invokevirtual 49, 3) := by decide +kernel
theorem dX4_costOf_33 : decode cX4_costOf 33 = .ok (.iload_n 3, 1) := by decide +kernel
theorem dX4_costOf_34 : decode cX4_costOf 34 = .ok (.iload 4, 2) := by decide +kernel
theorem dX4_costOf_36 : decode cX4_costOf 36 = .ok (.isub, 1) := by decide +kernel
theorem dX4_costOf_37 : decode cX4_costOf 37 = .ok (.invokevirtual 54, 3) := by decide +kernel
theorem dX4_costOf_40 : decode cX4_costOf 40 = .ok (.ifCond .eq 10, 3) := by decide +kernel
theorem dX4_costOf_43 : decode cX4_costOf 43 = .ok (.iload_n 2, 1) := by decide +kernel
theorem dX4_costOf_44 : decode cX4_costOf 44 = .ok (.iload 4, 2) := by decide +kernel
theorem dX4_costOf_46 : decode cX4_costOf 46 = .ok (.iconst 1, 1) := by decide +kernel
theorem dX4_costOf_47 : decode cX4_costOf 47 = .ok (.iadd, 1) := by decide +kernel
theorem dX4_costOf_48 : decode cX4_costOf 48 = .ok (.iadd, 1) := by decide +kernel
theorem dX4_costOf_49 : decode cX4_costOf 49 = .ok (.istore_n 2, 1) := by decide +kernel
theorem dX4_costOf_50 : decode cX4_costOf 50 = .ok (.iinc 4 1, 3) := by decide +kernel
theorem dX4_costOf_53 : decode cX4_costOf 53 = .ok (.goto (-38), 3) := by decide +kernel
theorem dX4_costOf_56 : decode cX4_costOf 56 = .ok (.iinc 3 1, 3) := by decide +kernel
theorem dX4_costOf_59 : decode cX4_costOf 59 = .ok (.goto (-55), 3) := by decide +kernel
theorem dX4_costOf_62 : decode cX4_costOf 62 = .ok (.iload_n 2, 1) := by decide +kernel
theorem dX4_costOf_63 : decode cX4_costOf 63 = .ok (.ireturn, 1) := by decide +kernel
theorem dX4_isCalmIfTall_0 : decode cX4_isCalmIfTall 0 = .ok (.aload_n 1, 1) := by decide +kernel
theorem dX4_isCalmIfTall_1 : decode cX4_isCalmIfTall 1 = .ok (.iload_n 2, 1) := by decide +kernel
theorem dX4_isCalmIfTall_2 : decode cX4_isCalmIfTall 2 = .ok (.invokevirtual 49, 3) := by decide +kernel
theorem dX4_isCalmIfTall_5 : decode cX4_isCalmIfTall 5 = .ok (.istore 4, 2) := by decide +kernel
theorem dX4_isCalmIfTall_7 : decode cX4_isCalmIfTall 7 = .ok (.iconst 0, 1) := by decide +kernel
theorem dX4_isCalmIfTall_8 : decode cX4_isCalmIfTall 8 = .ok (.istore 5, 2) := by decide +kernel
theorem dX4_isCalmIfTall_10 : decode cX4_isCalmIfTall 10 = .ok (.iload 5, 2) := by decide +kernel
theorem dX4_isCalmIfTall_12 : decode cX4_isCalmIfTall 12 = .ok (.iload_n 2, 1) := by decide +kernel
theorem dX4_isCalmIfTall_13 : decode cX4_isCalmIfTall 13 = .ok (.if_icmp .ge 70, 3) := by decide +kernel
theorem dX4_isCalmIfTall_16 : decode cX4_isCalmIfTall 16 = .ok (.aload_n 1, 1) := by decide +kernel
theorem dX4_isCalmIfTall_17 : decode cX4_isCalmIfTall 17 = .ok (.iload 5, 2) := by decide +kernel
theorem dX4_isCalmIfTall_19 : decode cX4_isCalmIfTall 19 = .ok (.invokevirtual 49, 3) := by decide +kernel
theorem dX4_isCalmIfTall_22 : decode cX4_isCalmIfTall 22 = .ok (.istore 6, 2) := by decide +kernel
theorem dX4_isCalmIfTall_24 : decode cX4_isCalmIfTall 24 = .ok (.aload_n 0, 1) := by decide +kernel
theorem dX4_isCalmIfTall_25 : decode cX4_isCalmIfTall 25 = .ok (.getfield 9, 3) := by decide +kernel
theorem dX4_isCalmIfTall_28 : decode cX4_isCalmIfTall 28 = .ok (.iload 6, 2) := by decide +kernel
theorem dX4_isCalmIfTall_30 : decode cX4_isCalmIfTall 30 = .ok (.invokevirtual 41, 3) := by decide +kernel
theorem dX4_isCalmIfTall_33 : decode cX4_isCalmIfTall 33 = .ok (.istore 7, 2) := by decide +kernel
theorem dX4_isCalmIfTall_35 : decode cX4_isCalmIfTall 35 = .ok (.aload_n 0, 1) := by decide +kernel
theorem dX4_isCalmIfTall_36 : decode cX4_isCalmIfTall 36 = .ok (.getfield 15, 3) := by decide +kernel
theorem dX4_isCalmIfTall_39 : decode cX4_isCalmIfTall 39 = .ok (.invokevirtual 29, 3) := by decide +kernel
theorem dX4_isCalmIfTall_42 : decode cX4_isCalmIfTall 42 = .ok (.ifCond .eq 27, 3) := by decide +kernel
theorem dX4_isCalmIfTall_45 : decode cX4_isCalmIfTall 45 = .ok (.aload_n 0, 1) := by decide +kernel
theorem dX4_isCalmIfTall_46 : decode cX4_isCalmIfTall 46 = .ok (.getfield 15, 3) := by decide +kernel
theorem dX4_isCalmIfTall_49 : decode cX4_isCalmIfTall 49 = .ok (.iload 7, 2) := by decide +kernel
theorem dX4_isCalmIfTall_51 : decode cX4_isCalmIfTall 51 = .ok (.iload_n 3, 1) := by decide +kernel
theorem dX4_isCalmIfTall_52 : decode cX4_isCalmIfTall 52 = .ok (.iload_n 2, 1) := by decide +kernel
theorem dX4_isCalmIfTall_53 : decode cX4_isCalmIfTall 53 = .ok (.iload 5, 2) := by decide +kernel
theorem dX4_isCalmIfTall_55 : decode cX4_isCalmIfTall 55 = .ok (.isub, 1) := by decide +kernel
theorem dX4_isCalmIfTall_56 : decode cX4_isCalmIfTall 56 = .ok (.iload 6, 2) := by decide +kernel
theorem dX4_isCalmIfTall_58 : decode cX4_isCalmIfTall 58 = .ok (.iload 4, 2) := by decide +kernel
theorem dX4_isCalmIfTall_60 : decode cX4_isCalmIfTall 60 = .ok (.invokevirtual 45, 3) := by decide +kernel
theorem dX4_isCalmIfTall_63 : decode cX4_isCalmIfTall 63 = .ok (.ifCond .eq 14, 3) := by decide +kernel
theorem dX4_isCalmIfTall_66 : decode cX4_isCalmIfTall 66 = .ok (.goto 9, 3) := by decide +kernel
theorem dX4_isCalmIfTall_69 : decode cX4_isCalmIfTall 69 = .ok (.iload 7, 2) := by decide +kernel
theorem dX4_isCalmIfTall_71 : decode cX4_isCalmIfTall 71 = .ok (.iload_n 3, 1) := by decide +kernel
theorem dX4_isCalmIfTall_72 : decode cX4_isCalmIfTall 72 = .ok (.if_icmp .le 5, 3) := by decide +kernel
theorem dX4_isCalmIfTall_75 : decode cX4_isCalmIfTall 75 = .ok (.iconst 0, 1) := by decide +kernel
theorem dX4_isCalmIfTall_76 : decode cX4_isCalmIfTall 76 = .ok (.ireturn, 1) := by decide +kernel
theorem dX4_isCalmIfTall_77 : decode cX4_isCalmIfTall 77 = .ok (.iinc 5 1, 3) := by decide +kernel
theorem dX4_isCalmIfTall_80 : decode cX4_isCalmIfTall 80 = .ok (.goto (-70), 3) := by decide +kernel
theorem dX4_isCalmIfTall_83 : decode cX4_isCalmIfTall 83 = .ok (.iconst 1, 1) := by decide +kernel
theorem dX4_isCalmIfTall_84 : decode cX4_isCalmIfTall 84 = .ok (.ireturn, 1) := by decide +kernel
theorem fl_X4_15 : Cond.fieldLink RX4 15 (TX4 1).1 (TX4 1).2.1 (TX4 1).2.2.1 ∈ wsL_law := (uw4 _ (List.mem_of_getElem? (i := 15) rfl))
theorem fl_X4_19 : Cond.fieldLink RX4 19 (TX4 2).1 (TX4 2).2.1 (TX4 2).2.2.1 ∈ wsL_law := (uw4 _ (List.mem_of_getElem? (i := 17) rfl))
theorem fl_X4_9 : Cond.fieldLink RX4 9 (TX4 0).1 (TX4 0).2.1 (TX4 0).2.2.1 ∈ wsL_law := (uw4 _ (List.mem_of_getElem? (i := 14) rfl))
theorem hy_J7_fill_031fb : Cond.code yJ7_fill_031fb cJ7_fill_031fb 4 none ∈ wsL_law ∧ Cond.initialized yJ7_fill_031fb.cls ∈ wsL_law ∧ Cond.static yJ7_fill_031fb ∈ wsL_law := ⟨(uw14 _ (List.mem_of_getElem? (i := 7) rfl)), (uw6 _ (List.mem_of_getElem? (i := 0) rfl)), (uw14 _ (List.mem_of_getElem? (i := 6) rfl))⟩
theorem hd_J7_fill_031fb : yJ7_fill_031fb.cls ≠ "java/lang/invoke/MethodHandle" ∧ yJ7_fill_031fb.cls ≠ "java/lang/invoke/VarHandle" ∧ (parseMethodDescriptor yJ7_fill_031fb.desc).map (fun d => d.parameters.length) = some 2 := ⟨by decide +kernel, by decide +kernel, by decide +kernel⟩
theorem hy_X1_isTaller : Cond.code yX1_isTaller cX1_isTaller 3 (some .boolean) ∈ wsL_law ∧ Cond.initialized yX1_isTaller.cls ∈ wsL_law ∧ Cond.instanceMethod yX1_isTaller ∈ wsL_law ∧ Cond.selects yX1_isTaller.cls yX1_isTaller yX1_isTaller ∈ wsL_law := ⟨(uw16 _ (List.mem_of_getElem? (i := 6) rfl)), (uw1 _ (List.mem_of_getElem? (i := 15) rfl)), (uw16 _ (List.mem_of_getElem? (i := 4) rfl)), (uw16 _ (List.mem_of_getElem? (i := 5) rfl))⟩
theorem hd_X1_isTaller : yX1_isTaller.cls ≠ "java/lang/invoke/MethodHandle" ∧ yX1_isTaller.cls ≠ "java/lang/invoke/VarHandle" ∧ (parseMethodDescriptor yX1_isTaller.desc).map (fun d => d.parameters.length) = some 2 := ⟨by decide +kernel, by decide +kernel, by decide +kernel⟩
theorem hy_X4_isCounted : Cond.code yX4_isCounted cX4_isCounted 6 (some .boolean) ∈ wsL_law ∧ Cond.initialized yX4_isCounted.cls ∈ wsL_law ∧ Cond.instanceMethod yX4_isCounted ∈ wsL_law ∧ Cond.selects yX4_isCounted.cls yX4_isCounted yX4_isCounted ∈ wsL_law := ⟨(uw15 _ (List.mem_of_getElem? (i := 21) rfl)), (uw2 _ (List.mem_of_getElem? (i := 3) rfl)), (uw15 _ (List.mem_of_getElem? (i := 19) rfl)), (uw15 _ (List.mem_of_getElem? (i := 20) rfl))⟩
theorem hd_X4_isCounted : yX4_isCounted.cls ≠ "java/lang/invoke/MethodHandle" ∧ yX4_isCounted.cls ≠ "java/lang/invoke/VarHandle" ∧ (parseMethodDescriptor yX4_isCounted.desc).map (fun d => d.parameters.length) = some 3 := ⟨by decide +kernel, by decide +kernel, by decide +kernel⟩
theorem hy_X4_numberAt : Cond.code yX4_numberAt cX4_numberAt 6 (some .int) ∈ wsL_law ∧ Cond.initialized yX4_numberAt.cls ∈ wsL_law ∧ Cond.instanceMethod yX4_numberAt ∈ wsL_law ∧ Cond.selects yX4_numberAt.cls yX4_numberAt yX4_numberAt ∈ wsL_law := ⟨(uw15 _ (List.mem_of_getElem? (i := 9) rfl)), (uw2 _ (List.mem_of_getElem? (i := 3) rfl)), (uw15 _ (List.mem_of_getElem? (i := 7) rfl)), (uw15 _ (List.mem_of_getElem? (i := 8) rfl))⟩
theorem hd_X4_numberAt : yX4_numberAt.cls ≠ "java/lang/invoke/MethodHandle" ∧ yX4_numberAt.cls ≠ "java/lang/invoke/VarHandle" ∧ (parseMethodDescriptor yX4_numberAt.desc).map (fun d => d.parameters.length) = some 2 := ⟨by decide +kernel, by decide +kernel, by decide +kernel⟩
theorem hy_X4_plainNumberAt : Cond.code yX4_plainNumberAt cX4_plainNumberAt 6 (some .int) ∈ wsL_law ∧ Cond.initialized yX4_plainNumberAt.cls ∈ wsL_law ∧ Cond.instanceMethod yX4_plainNumberAt ∈ wsL_law ∧ Cond.selects yX4_plainNumberAt.cls yX4_plainNumberAt yX4_plainNumberAt ∈ wsL_law := ⟨(uw17 _ (List.mem_of_getElem? (i := 23) rfl)), (uw2 _ (List.mem_of_getElem? (i := 3) rfl)), (uw17 _ (List.mem_of_getElem? (i := 21) rfl)), (uw17 _ (List.mem_of_getElem? (i := 22) rfl))⟩
theorem hd_X4_plainNumberAt : yX4_plainNumberAt.cls ≠ "java/lang/invoke/MethodHandle" ∧ yX4_plainNumberAt.cls ≠ "java/lang/invoke/VarHandle" ∧ (parseMethodDescriptor yX4_plainNumberAt.desc).map (fun d => d.parameters.length) = some 2 := ⟨by decide +kernel, by decide +kernel, by decide +kernel⟩
theorem hy_X5_isTold : Cond.code yX5_isTold cX5_isTold 1 (some .boolean) ∈ wsL_law ∧ Cond.initialized yX5_isTold.cls ∈ wsL_law ∧ Cond.instanceMethod yX5_isTold ∈ wsL_law ∧ Cond.selects yX5_isTold.cls yX5_isTold yX5_isTold ∈ wsL_law := ⟨(uw16 _ (List.mem_of_getElem? (i := 1) rfl)), (uw1 _ (List.mem_of_getElem? (i := 23) rfl)), (uw15 _ (List.mem_of_getElem? (i := 23) rfl)), (uw16 _ (List.mem_of_getElem? (i := 0) rfl))⟩
theorem hd_X5_isTold : yX5_isTold.cls ≠ "java/lang/invoke/MethodHandle" ∧ yX5_isTold.cls ≠ "java/lang/invoke/VarHandle" ∧ (parseMethodDescriptor yX5_isTold.desc).map (fun d => d.parameters.length) = some 0 := ⟨by decide +kernel, by decide +kernel, by decide +kernel⟩
theorem hy_X5_worth : Cond.code yX5_worth cX5_worth 10 (some .int) ∈ wsL_law ∧ Cond.initialized yX5_worth.cls ∈ wsL_law ∧ Cond.instanceMethod yX5_worth ∈ wsL_law ∧ Cond.selects yX5_worth.cls yX5_worth yX5_worth ∈ wsL_law := ⟨(uw16 _ (List.mem_of_getElem? (i := 11) rfl)), (uw1 _ (List.mem_of_getElem? (i := 23) rfl)), (uw16 _ (List.mem_of_getElem? (i := 9) rfl)), (uw16 _ (List.mem_of_getElem? (i := 10) rfl))⟩
theorem hd_X5_worth : yX5_worth.cls ≠ "java/lang/invoke/MethodHandle" ∧ yX5_worth.cls ≠ "java/lang/invoke/VarHandle" ∧ (parseMethodDescriptor yX5_worth.desc).map (fun d => d.parameters.length) = some 5 := ⟨by decide +kernel, by decide +kernel, by decide +kernel⟩
theorem hy_X7_at : Cond.code yX7_at cX7_at 2 (some .int) ∈ wsL_law ∧ Cond.initialized yX7_at.cls ∈ wsL_law ∧ Cond.instanceMethod yX7_at ∈ wsL_law ∧ Cond.selects yX7_at.cls yX7_at yX7_at ∈ wsL_law := ⟨(uw15 _ (List.mem_of_getElem? (i := 13) rfl)), (uw1 _ (List.mem_of_getElem? (i := 19) rfl)), (uw15 _ (List.mem_of_getElem? (i := 11) rfl)), (uw15 _ (List.mem_of_getElem? (i := 12) rfl))⟩
theorem hd_X7_at : yX7_at.cls ≠ "java/lang/invoke/MethodHandle" ∧ yX7_at.cls ≠ "java/lang/invoke/VarHandle" ∧ (parseMethodDescriptor yX7_at.desc).map (fun d => d.parameters.length) = some 1 := ⟨by decide +kernel, by decide +kernel, by decide +kernel⟩
theorem hy_X7_size : Cond.code yX7_size cX7_size 1 (some .int) ∈ wsL_law ∧ Cond.initialized yX7_size.cls ∈ wsL_law ∧ Cond.instanceMethod yX7_size ∈ wsL_law ∧ Cond.selects yX7_size.cls yX7_size yX7_size ∈ wsL_law := ⟨(uw9 _ (List.mem_of_getElem? (i := 21) rfl)), (uw1 _ (List.mem_of_getElem? (i := 19) rfl)), (uw9 _ (List.mem_of_getElem? (i := 19) rfl)), (uw9 _ (List.mem_of_getElem? (i := 20) rfl))⟩
theorem hd_X7_size : yX7_size.cls ≠ "java/lang/invoke/MethodHandle" ∧ yX7_size.cls ≠ "java/lang/invoke/VarHandle" ∧ (parseMethodDescriptor yX7_size.desc).map (fun d => d.parameters.length) = some 0 := ⟨by decide +kernel, by decide +kernel, by decide +kernel⟩
theorem ml_X4_23 : Cond.methodLink RX4 23 yJ7_fill_031fb ∈ wsL_law := (uw14 _ (List.mem_of_getElem? (i := 5) rfl))
theorem ml_X4_29 : Cond.methodLink RX4 29 yX5_isTold ∈ wsL_law := (uw15 _ (List.mem_of_getElem? (i := 22) rfl))
theorem ml_X4_35 : Cond.methodLink RX4 35 yX1_isTaller ∈ wsL_law := (uw16 _ (List.mem_of_getElem? (i := 3) rfl))
theorem ml_X4_41 : Cond.methodLink RX4 41 yX1_heightOf ∈ wsL_law := (uw16 _ (List.mem_of_getElem? (i := 7) rfl))
theorem ml_X4_45 : Cond.methodLink RX4 45 yX5_worth ∈ wsL_law := (uw16 _ (List.mem_of_getElem? (i := 8) rfl))
theorem ml_X4_49 : Cond.methodLink RX4 49 yX7_at ∈ wsL_law := (uw15 _ (List.mem_of_getElem? (i := 10) rfl))
theorem ml_X4_54 : Cond.methodLink RX4 54 yX4_isCounted ∈ wsL_law := (uw15 _ (List.mem_of_getElem? (i := 18) rfl))
theorem ml_X4_58 : Cond.methodLink RX4 58 yX7_size ∈ wsL_law := (uw26 _ (List.mem_of_getElem? (i := 4) rfl))
theorem ml_X4_62 : Cond.methodLink RX4 62 yX4_numberAt ∈ wsL_law := (uw26 _ (List.mem_of_getElem? (i := 5) rfl))
theorem ml_X4_66 : Cond.methodLink RX4 66 yX4_plainNumberAt ∈ wsL_law := (uw26 _ (List.mem_of_getElem? (i := 10) rfl))
abbrev w_Judge_forgetAll (G : zG) (a_this : Nat) (a_crowd : Nat) (a_text : Nat) (a_known : Nat) (known : Nat → Int32) : va_W := [(a_this, cO 4 [.ref a_crowd, .ref a_text, .ref a_known]), (a_known, cB G 729 known)]
def f_Judge_forgetAll (known : Nat → Int32) : Option ((Nat → Int32)) := (zb1 (f_Arr_fillB 729 known 0) fun known_1 => (some known_1))
set_option maxRecDepth 100000 in
set_option maxHeartbeats 4000000 in
theorem c_Judge_forgetAll (l : Launch) (G : zG) (a_this : Nat) (a_crowd : Nat) (a_text : Nat) (a_known : Nat) (known : Nat → Int32) (o_known : Nat → Int32) (hf : f_Judge_forgetAll known = some o_known) : zM l yX4_forgetAll cX4_forgetAll 1 none 1 23 G [.ref a_this] (w_Judge_forgetAll G a_this a_crowd a_text a_known known) (none) (w_Judge_forgetAll G a_this a_crowd a_text a_known o_known) := by
  refine zM.of [(0, .ref a_this)] (own := RX4) rfl (by decide +kernel) (Nat.le_of_ble_eq_true rfl) rfl rfl fun X hX F => ?_
  subst hX
  replace hf := (f_Judge_forgetAll.eq_1 ..).symm.trans hf
  refine z_aload_n F 0 dX4_forgetAll_0 rfl rfl ?_
  refine z_get F 0 4 2 inlX4 rfl rfl (by decide) fl_X4_19 rfl dX4_forgetAll_1 ?_
  refine z_iconst F (0) dX4_forgetAll_4 rfl ?_
  obtain ⟨known_1, hg, hf⟩ := zb1_some hf
  refine z_callSm (rest := []) F (c_Arr_fillB (xL X) G 729 a_known known 0 known_1 hg) hy_J7_fill_031fb ml_X4_23 hd_J7_fill_031fb ⟨by omega, by omega⟩ rfl [1] rfl rfl (w_Judge_forgetAll G a_this a_crowd a_text a_known known_1) [none, some 0] rfl (by decide +kernel) rfl rfl (Nat.le_of_ble_eq_true rfl) dX4_forgetAll_5 (fun hz_2 => ?_)
  have ee1 := Option.some.inj hf
  subst ee1
  exact z_vret F rfl rfl rfl dX4_forgetAll_8

abbrev w_Judge_isCounted (G : zG) (a_this : Nat) (a_crowd : Nat) (a_text : Nat) (a_known : Nat) (a_crowd_heights : Nat) (a_text_tape : Nat) (a_text_reader : Nat) (a_text_steps : Nat) (a_text_worked : Nat) (crowd_people : Int32) (crowd_heights : Nat → Int32) (text_fed : Int32) (text_length : Int32) (text_top : Int32) (text_steps : Nat → Int32) (text_worked : Nat → Int32) (known : Nat → Int32) : va_W := [(a_this, cO 4 [.ref a_crowd, .ref a_text, .ref a_known]), (a_crowd, cO 1 [.ref a_crowd_heights, .int crowd_people]), (a_crowd_heights, cI G 9 crowd_heights), (a_text, cO 5 [.ref a_text_tape, .int text_fed, .ref a_text_reader, .ref a_text_steps, .int text_length, .ref a_text_worked, .int text_top]), (a_text_steps, cI G 121 text_steps), (a_text_worked, cI G 121 text_worked), (a_known, cB G 729 known)]
def f_Judge_isCounted (crowd_people : Int32) (crowd_heights : Nat → Int32) (text_length : Int32) (text_top : Int32) (text_steps : Nat → Int32) (text_worked : Nat → Int32) (known : Nat → Int32) (x1 : Int32) (x2 : Int32) (x3 : Int32) : Option (Int32 × Int32 × (Nat → Int32) × (Nat → Int32)) := (if (f_Law_isTold text_length) = 0 then (zb1 (f_Crowd_isTaller crowd_people crowd_heights x1 x2) fun r_16 => (some (r_16, text_top, text_worked, known))) else (if ((((x1 * (9 : Int32)) + x2) * (9 : Int32)) + x3) < 0 then (some (0, text_top, text_worked, known)) else (if ((((x1 * (9 : Int32)) + x2) * (9 : Int32)) + x3) < 729 then (zg known 729 ((((x1 * (9 : Int32)) + x2) * (9 : Int32)) + x3) fun v_2 => (if v_2 = 0 then (zb1 (f_Crowd_heightOf crowd_people crowd_heights x1) fun r_4 => (zb1 (f_Crowd_heightOf crowd_people crowd_heights x2) fun r_6 => (zb3 (f_Law_worth text_length text_top text_steps text_worked r_4 r_6 x3 x1 x2) fun r_8 text_top_9 text_worked_10 => (if r_8 = 0 then (zgd (vp_nar .byte (Int32.toInt8 (2 : Int32)).toInt32 = (Int32.toInt8 (2 : Int32)).toInt32) (zs known 729 ((((x1 * (9 : Int32)) + x2) * (9 : Int32)) + x3) (Int32.toInt8 (2 : Int32)).toInt32 fun known_12 => (zg known_12 729 ((((x1 * (9 : Int32)) + x2) * (9 : Int32)) + x3) fun v_13 => (if v_13 = 1 then (some (1, text_top_9, text_worked_10, known_12)) else (some (0, text_top_9, text_worked_10, known_12)))))) else (zgd (vp_nar .byte (Int32.toInt8 (1 : Int32)).toInt32 = (Int32.toInt8 (1 : Int32)).toInt32) (zs known 729 ((((x1 * (9 : Int32)) + x2) * (9 : Int32)) + x3) (Int32.toInt8 (1 : Int32)).toInt32 fun known_14 => (zg known_14 729 ((((x1 * (9 : Int32)) + x2) * (9 : Int32)) + x3) fun v_15 => (if v_15 = 1 then (some (1, text_top_9, text_worked_10, known_14)) else (some (0, text_top_9, text_worked_10, known_14)))))))))) else (zg known 729 ((((x1 * (9 : Int32)) + x2) * (9 : Int32)) + x3) fun v_3 => (if v_3 = 1 then (some (1, text_top, text_worked, known)) else (some (0, text_top, text_worked, known)))))) else (some (0, text_top, text_worked, known)))))
set_option maxRecDepth 100000 in
set_option maxHeartbeats 4000000 in
theorem c_Judge_isCounted (l : Launch) (G : zG) (a_this : Nat) (a_crowd : Nat) (a_text : Nat) (a_known : Nat) (a_crowd_heights : Nat) (a_text_tape : Nat) (a_text_reader : Nat) (a_text_steps : Nat) (a_text_worked : Nat) (crowd_people : Int32) (crowd_heights : Nat → Int32) (text_fed : Int32) (text_length : Int32) (text_top : Int32) (text_steps : Nat → Int32) (text_worked : Nat → Int32) (known : Nat → Int32) (x1 : Int32) (x2 : Int32) (x3 : Int32) (r_ : Int32) (o_text_top : Int32) (o_text_worked : Nat → Int32) (o_known : Nat → Int32) (hf : f_Judge_isCounted crowd_people crowd_heights text_length text_top text_steps text_worked known x1 x2 x3 = some (r_, o_text_top, o_text_worked, o_known)) : zM l yX4_isCounted cX4_isCounted 6 (some .boolean) 2 54 G [.ref a_this, .int x1, .int x2, .int x3] (w_Judge_isCounted G a_this a_crowd a_text a_known a_crowd_heights a_text_tape a_text_reader a_text_steps a_text_worked crowd_people crowd_heights text_fed text_length text_top text_steps text_worked known) (some (.int r_)) (w_Judge_isCounted G a_this a_crowd a_text a_known a_crowd_heights a_text_tape a_text_reader a_text_steps a_text_worked crowd_people crowd_heights text_fed text_length o_text_top text_steps o_text_worked o_known) := by
  refine zM.of [(0, .ref a_this), (1, .int x1), (2, .int x2), (3, .int x3)] (own := RX4) rfl (by decide +kernel) (Nat.le_of_ble_eq_true rfl) rfl rfl fun X hX F => ?_
  subst hX
  replace hf := (f_Judge_isCounted.eq_1 ..).symm.trans hf
  refine z_aload_n F 0 dX4_isCounted_0 rfl rfl ?_
  refine z_get F 0 4 1 inlX4 rfl rfl (by decide) fl_X4_15 rfl dX4_isCounted_1 ?_
  refine z_callVm (rest := []) F 5 (c_Law_isTold (xL X) G a_text a_text_tape a_text_reader a_text_steps a_text_worked text_fed text_length text_top _ rfl) hy_X5_isTold ml_X4_29 hd_X5_isTold ⟨by omega, by omega⟩ rfl [3] rfl rfl 3 rfl rfl (w_Judge_isCounted G a_this a_crowd a_text a_known a_crowd_heights a_text_tape a_text_reader a_text_steps a_text_worked crowd_people crowd_heights text_fed text_length text_top text_steps text_worked known) [none, none, none, some 0, none, none, none] rfl (by decide +kernel) rfl rfl (Nat.le_of_ble_eq_true rfl) dX4_isCounted_4 (fun hz_1 => ?_)
  refine z_if_ne F 20 dX4_isCounted_7 (by decide) hf (fun hf _ => ?_) (fun hf _ => ?_)
  · refine z_iload_n F 1 dX4_isCounted_20 rfl rfl ?_
    refine z_bipush F (9) dX4_isCounted_21 rfl ?_
    refine z_imul F dX4_isCounted_23 ?_
    refine z_iload_n F 2 dX4_isCounted_24 rfl rfl ?_
    refine z_iadd F dX4_isCounted_25 ?_
    refine z_bipush F (9) dX4_isCounted_26 rfl ?_
    refine z_imul F dX4_isCounted_28 ?_
    refine z_iload_n F 3 dX4_isCounted_29 rfl rfl ?_
    refine z_iadd F dX4_isCounted_30 ?_
    refine z_istore F [(4, .int ((((x1 * (9 : Int32)) + x2) * (9 : Int32)) + x3)), (0, .ref a_this), (1, .int x1), (2, .int x2), (3, .int x3)] dX4_isCounted_31 (by decide) rfl ?_
    refine z_iload F 0 dX4_isCounted_33 rfl ?_
    refine z_if_lt F 48 dX4_isCounted_35 (by decide) hf (fun hf _ => ?_) (fun hf _ => ?_)
    · refine z_iconst F (0) dX4_isCounted_48 rfl ?_
      have eq1 := Option.some.inj hf
      obtain ⟨ee1, eq2⟩ := Prod.mk.inj eq1
      obtain ⟨ee2, eq3⟩ := Prod.mk.inj eq2
      obtain ⟨ee3, ee4⟩ := Prod.mk.inj eq3
      subst ee1
      subst ee2
      subst ee3
      subst ee4
      exact z_iret F rfl rfl rfl rfl dX4_isCounted_49
    · refine z_iload F 0 dX4_isCounted_38 rfl ?_
      refine z_aload_n F 1 dX4_isCounted_40 rfl rfl ?_
      refine z_get F 0 4 2 inlX4 rfl rfl (by decide) fl_X4_19 rfl dX4_isCounted_41 ?_
      refine z_alen F 6 1 729 rfl rfl rfl dX4_isCounted_44 ?_
      refine z_icmp_lt F 50 dX4_isCounted_45 (by decide) hf (fun hf _ => ?_) (fun hf _ => ?_)
      · refine z_aload_n F 1 dX4_isCounted_50 rfl rfl ?_
        refine z_get F 0 4 2 inlX4 rfl rfl (by decide) fl_X4_19 rfl dX4_isCounted_51 ?_
        refine z_iload F 0 dX4_isCounted_54 rfl ?_
        refine z_bald F 6 rfl hf dX4_isCounted_56 (fun v_2 hf => ?_)
        refine z_if_ne F 106 dX4_isCounted_57 (by decide) hf (fun hf _ => ?_) (fun hf _ => ?_)
        · refine z_aload_n F 1 dX4_isCounted_106 rfl rfl ?_
          refine z_get F 0 4 2 inlX4 rfl rfl (by decide) fl_X4_19 rfl dX4_isCounted_107 ?_
          refine z_iload F 0 dX4_isCounted_110 rfl ?_
          refine z_bald F 6 rfl hf dX4_isCounted_112 (fun v_3 hf => ?_)
          refine z_iconst F (1) dX4_isCounted_113 rfl ?_
          refine z_icmp_ne F 121 dX4_isCounted_114 (by decide) hf (fun hf _ => ?_) (fun hf _ => ?_)
          · refine z_iconst F (0) dX4_isCounted_121 rfl ?_
            have eq1 := Option.some.inj hf
            obtain ⟨ee1, eq2⟩ := Prod.mk.inj eq1
            obtain ⟨ee2, eq3⟩ := Prod.mk.inj eq2
            obtain ⟨ee3, ee4⟩ := Prod.mk.inj eq3
            subst ee1
            subst ee2
            subst ee3
            subst ee4
            exact z_iret F rfl rfl rfl rfl dX4_isCounted_122
          · refine z_iconst F (1) dX4_isCounted_117 rfl ?_
            refine z_goto F 122 dX4_isCounted_118 (by decide) ?_
            have eq1 := Option.some.inj hf
            obtain ⟨ee1, eq2⟩ := Prod.mk.inj eq1
            obtain ⟨ee2, eq3⟩ := Prod.mk.inj eq2
            obtain ⟨ee3, ee4⟩ := Prod.mk.inj eq3
            subst ee1
            subst ee2
            subst ee3
            subst ee4
            exact z_iret F rfl rfl rfl rfl dX4_isCounted_122
        · refine z_aload_n F 1 dX4_isCounted_60 rfl rfl ?_
          refine z_get F 0 4 1 inlX4 rfl rfl (by decide) fl_X4_15 rfl dX4_isCounted_61 ?_
          refine z_aload_n F 1 dX4_isCounted_64 rfl rfl ?_
          refine z_get F 0 4 0 inlX4 rfl rfl (by decide) fl_X4_9 rfl dX4_isCounted_65 ?_
          refine z_iload_n F 2 dX4_isCounted_68 rfl rfl ?_
          obtain ⟨r_4, hg, hf⟩ := zb1_some hf
          refine z_callVm (rest := [.ref a_text]) F 1 (c_Crowd_heightOf (xL X) G a_crowd a_crowd_heights crowd_people crowd_heights x1 r_4 hg) hy_X1_heightOf ml_X4_41 hd_X1_heightOf ⟨by omega, by omega⟩ rfl [1, 2] rfl rfl 1 rfl rfl (w_Judge_isCounted G a_this a_crowd a_text a_known a_crowd_heights a_text_tape a_text_reader a_text_steps a_text_worked crowd_people crowd_heights text_fed text_length text_top text_steps text_worked known) [none, some 0, some 1, none, none, none, none] rfl (by decide +kernel) rfl rfl (Nat.le_of_ble_eq_true rfl) dX4_isCounted_69 (fun hz_5 => ?_)
          refine z_aload_n F 1 dX4_isCounted_72 rfl rfl ?_
          refine z_get F 0 4 0 inlX4 rfl rfl (by decide) fl_X4_9 rfl dX4_isCounted_73 ?_
          refine z_iload_n F 3 dX4_isCounted_76 rfl rfl ?_
          obtain ⟨r_6, hg, hf⟩ := zb1_some hf
          refine z_callVm (rest := [.int r_4, .ref a_text]) F 1 (c_Crowd_heightOf (xL X) G a_crowd a_crowd_heights crowd_people crowd_heights x2 r_6 hg) hy_X1_heightOf ml_X4_41 hd_X1_heightOf ⟨by omega, by omega⟩ rfl [1, 2] rfl rfl 1 rfl rfl (w_Judge_isCounted G a_this a_crowd a_text a_known a_crowd_heights a_text_tape a_text_reader a_text_steps a_text_worked crowd_people crowd_heights text_fed text_length text_top text_steps text_worked known) [none, some 0, some 1, none, none, none, none] rfl (by decide +kernel) rfl rfl (Nat.le_of_ble_eq_true rfl) dX4_isCounted_77 (fun hz_7 => ?_)
          refine z_iload_n F 4 dX4_isCounted_80 rfl rfl ?_
          refine z_iload_n F 2 dX4_isCounted_81 rfl rfl ?_
          refine z_iload_n F 3 dX4_isCounted_82 rfl rfl ?_
          obtain ⟨r_8, text_top_9, text_worked_10, hg, hf⟩ := zb3_some hf
          refine z_callVm (rest := []) F 5 (c_Law_worth (xL X) G a_text a_text_tape a_text_reader a_text_steps a_text_worked text_fed text_length text_top text_steps text_worked r_4 r_6 x3 x1 x2 r_8 text_top_9 text_worked_10 hg) hy_X5_worth ml_X4_45 hd_X5_worth ⟨by omega, by omega⟩ rfl [3, 4, 5] rfl rfl 3 rfl rfl (w_Judge_isCounted G a_this a_crowd a_text a_known a_crowd_heights a_text_tape a_text_reader a_text_steps a_text_worked crowd_people crowd_heights text_fed text_length text_top_9 text_steps text_worked_10 known) [none, none, none, some 0, some 1, some 2, none] rfl (by decide +kernel) rfl rfl (Nat.le_of_ble_eq_true rfl) dX4_isCounted_83 (fun hz_11 => ?_)
          refine z_istore F [(5, .int r_8), (4, .int ((((x1 * (9 : Int32)) + x2) * (9 : Int32)) + x3)), (0, .ref a_this), (1, .int x1), (2, .int x2), (3, .int x3)] dX4_isCounted_86 (by decide) rfl ?_
          refine z_aload_n F 2 dX4_isCounted_88 rfl rfl ?_
          refine z_get F 0 4 2 inlX4 rfl rfl (by decide) fl_X4_19 rfl dX4_isCounted_89 ?_
          refine z_iload F 1 dX4_isCounted_92 rfl ?_
          refine z_iload F 0 dX4_isCounted_94 rfl ?_
          refine z_if_eq F 103 dX4_isCounted_96 (by decide) hf (fun hf _ => ?_) (fun hf _ => ?_)
          · refine z_iconst F (2) dX4_isCounted_103 rfl ?_
            refine z_i2b F dX4_isCounted_104 ?_
            obtain ⟨hnar, hf⟩ := zgd_some hf
            refine z_bast F 6 (fun known_12 => (w_Judge_isCounted G a_this a_crowd a_text a_known a_crowd_heights a_text_tape a_text_reader a_text_steps a_text_worked crowd_people crowd_heights text_fed text_length text_top_9 text_steps text_worked_10 known_12)) rfl hf hnar (fun _ => rfl) dX4_isCounted_105 (fun known_12 hf => ?_)
            refine z_aload_n F 2 dX4_isCounted_106 rfl rfl ?_
            refine z_get F 0 4 2 inlX4 rfl rfl (by decide) fl_X4_19 rfl dX4_isCounted_107 ?_
            refine z_iload F 1 dX4_isCounted_110 rfl ?_
            refine z_bald F 6 rfl hf dX4_isCounted_112 (fun v_13 hf => ?_)
            refine z_iconst F (1) dX4_isCounted_113 rfl ?_
            refine z_icmp_ne F 121 dX4_isCounted_114 (by decide) hf (fun hf _ => ?_) (fun hf _ => ?_)
            · refine z_iconst F (0) dX4_isCounted_121 rfl ?_
              have eq1 := Option.some.inj hf
              obtain ⟨ee1, eq2⟩ := Prod.mk.inj eq1
              obtain ⟨ee2, eq3⟩ := Prod.mk.inj eq2
              obtain ⟨ee3, ee4⟩ := Prod.mk.inj eq3
              subst ee1
              subst ee2
              subst ee3
              subst ee4
              exact z_iret F rfl rfl rfl rfl dX4_isCounted_122
            · refine z_iconst F (1) dX4_isCounted_117 rfl ?_
              refine z_goto F 122 dX4_isCounted_118 (by decide) ?_
              have eq1 := Option.some.inj hf
              obtain ⟨ee1, eq2⟩ := Prod.mk.inj eq1
              obtain ⟨ee2, eq3⟩ := Prod.mk.inj eq2
              obtain ⟨ee3, ee4⟩ := Prod.mk.inj eq3
              subst ee1
              subst ee2
              subst ee3
              subst ee4
              exact z_iret F rfl rfl rfl rfl dX4_isCounted_122
          · refine z_iconst F (1) dX4_isCounted_99 rfl ?_
            refine z_goto F 104 dX4_isCounted_100 (by decide) ?_
            refine z_i2b F dX4_isCounted_104 ?_
            obtain ⟨hnar, hf⟩ := zgd_some hf
            refine z_bast F 6 (fun known_14 => (w_Judge_isCounted G a_this a_crowd a_text a_known a_crowd_heights a_text_tape a_text_reader a_text_steps a_text_worked crowd_people crowd_heights text_fed text_length text_top_9 text_steps text_worked_10 known_14)) rfl hf hnar (fun _ => rfl) dX4_isCounted_105 (fun known_14 hf => ?_)
            refine z_aload_n F 2 dX4_isCounted_106 rfl rfl ?_
            refine z_get F 0 4 2 inlX4 rfl rfl (by decide) fl_X4_19 rfl dX4_isCounted_107 ?_
            refine z_iload F 1 dX4_isCounted_110 rfl ?_
            refine z_bald F 6 rfl hf dX4_isCounted_112 (fun v_15 hf => ?_)
            refine z_iconst F (1) dX4_isCounted_113 rfl ?_
            refine z_icmp_ne F 121 dX4_isCounted_114 (by decide) hf (fun hf _ => ?_) (fun hf _ => ?_)
            · refine z_iconst F (0) dX4_isCounted_121 rfl ?_
              have eq1 := Option.some.inj hf
              obtain ⟨ee1, eq2⟩ := Prod.mk.inj eq1
              obtain ⟨ee2, eq3⟩ := Prod.mk.inj eq2
              obtain ⟨ee3, ee4⟩ := Prod.mk.inj eq3
              subst ee1
              subst ee2
              subst ee3
              subst ee4
              exact z_iret F rfl rfl rfl rfl dX4_isCounted_122
            · refine z_iconst F (1) dX4_isCounted_117 rfl ?_
              refine z_goto F 122 dX4_isCounted_118 (by decide) ?_
              have eq1 := Option.some.inj hf
              obtain ⟨ee1, eq2⟩ := Prod.mk.inj eq1
              obtain ⟨ee2, eq3⟩ := Prod.mk.inj eq2
              obtain ⟨ee3, ee4⟩ := Prod.mk.inj eq3
              subst ee1
              subst ee2
              subst ee3
              subst ee4
              exact z_iret F rfl rfl rfl rfl dX4_isCounted_122
      · refine z_iconst F (0) dX4_isCounted_48 rfl ?_
        have eq1 := Option.some.inj hf
        obtain ⟨ee1, eq2⟩ := Prod.mk.inj eq1
        obtain ⟨ee2, eq3⟩ := Prod.mk.inj eq2
        obtain ⟨ee3, ee4⟩ := Prod.mk.inj eq3
        subst ee1
        subst ee2
        subst ee3
        subst ee4
        exact z_iret F rfl rfl rfl rfl dX4_isCounted_49
  · refine z_aload_n F 0 dX4_isCounted_10 rfl rfl ?_
    refine z_get F 0 4 0 inlX4 rfl rfl (by decide) fl_X4_9 rfl dX4_isCounted_11 ?_
    refine z_iload_n F 1 dX4_isCounted_14 rfl rfl ?_
    refine z_iload_n F 2 dX4_isCounted_15 rfl rfl ?_
    obtain ⟨r_16, hg, hf⟩ := zb1_some hf
    refine z_callVm (rest := []) F 1 (c_Crowd_isTaller (xL X) G a_crowd a_crowd_heights crowd_people crowd_heights x1 x2 r_16 hg) hy_X1_isTaller ml_X4_35 hd_X1_isTaller ⟨by omega, by omega⟩ rfl [1, 2] rfl rfl 1 rfl rfl (w_Judge_isCounted G a_this a_crowd a_text a_known a_crowd_heights a_text_tape a_text_reader a_text_steps a_text_worked crowd_people crowd_heights text_fed text_length text_top text_steps text_worked known) [none, some 0, some 1, none, none, none, none] rfl (by decide +kernel) rfl rfl (Nat.le_of_ble_eq_true rfl) dX4_isCounted_16 (fun hz_17 => ?_)
    have eq1 := Option.some.inj hf
    obtain ⟨ee1, eq2⟩ := Prod.mk.inj eq1
    obtain ⟨ee2, eq3⟩ := Prod.mk.inj eq2
    obtain ⟨ee3, ee4⟩ := Prod.mk.inj eq3
    subst ee1
    subst ee2
    subst ee3
    subst ee4
    exact z_iret F rfl (hz_17 _ _ rfl rfl) rfl rfl dX4_isCounted_19

abbrev w_Judge_numberAt (G : zG) (a_this : Nat) (a_crowd : Nat) (a_text : Nat) (a_known : Nat) (a_crowd_heights : Nat) (a_text_tape : Nat) (a_text_reader : Nat) (a_text_steps : Nat) (a_text_worked : Nat) (a_p1 : Nat) (a_p1_who : Nat) (crowd_people : Int32) (crowd_heights : Nat → Int32) (text_fed : Int32) (text_length : Int32) (text_top : Int32) (text_steps : Nat → Int32) (text_worked : Nat → Int32) (known : Nat → Int32) (p1_length : Int32) (p1_who : Nat → Int32) : va_W := [(a_this, cO 4 [.ref a_crowd, .ref a_text, .ref a_known]), (a_crowd, cO 1 [.ref a_crowd_heights, .int crowd_people]), (a_crowd_heights, cI G 9 crowd_heights), (a_text, cO 5 [.ref a_text_tape, .int text_fed, .ref a_text_reader, .ref a_text_steps, .int text_length, .ref a_text_worked, .int text_top]), (a_text_steps, cI G 121 text_steps), (a_text_worked, cI G 121 text_worked), (a_known, cB G 729 known), (a_p1, cO 7 [.ref a_p1_who, .int p1_length]), (a_p1_who, cI G 9 p1_who)]
def f_Judge_numberAt_L12 (crowd_people : Int32) (crowd_heights : Nat → Int32) (text_length : Int32) (text_steps : Nat → Int32) (p1_length : Int32) (p1_who : Nat → Int32) (v2 : Int32) (v3 : Int32) : Nat → Int32 → (Nat → Int32) → (Nat → Int32) → Int32 → Int32 → Option (Int32 × (Nat → Int32) × (Nat → Int32) × Int32)
  | 0, _, _, _, _, _ => none
  | fuel + 1, text_top, text_worked, known, v4, v5 => (if v2 ≤ v5 then (some (text_top, text_worked, known, v4)) else (zb1 (f_Line_at p1_length p1_who v5) fun r_3 => (zb4 (f_Judge_isCounted crowd_people crowd_heights text_length text_top text_steps text_worked known r_3 v3 (v2 - v5)) fun r_5 text_top_6 text_worked_7 known_8 => (if r_5 = 0 then (f_Judge_numberAt_L12 crowd_people crowd_heights text_length text_steps p1_length p1_who v2 v3 fuel text_top_6 text_worked_7 known_8 v4 (v5 + 1)) else (f_Judge_numberAt_L12 crowd_people crowd_heights text_length text_steps p1_length p1_who v2 v3 fuel text_top_6 text_worked_7 known_8 (v4 + 1) (v5 + 1))))))
def f_Judge_numberAt (crowd_people : Int32) (crowd_heights : Nat → Int32) (text_length : Int32) (text_top : Int32) (text_steps : Nat → Int32) (text_worked : Nat → Int32) (known : Nat → Int32) (p1_length : Int32) (p1_who : Nat → Int32) (x2 : Int32) : Option (Int32 × Int32 × (Nat → Int32) × (Nat → Int32)) := (zb1 (f_Line_at p1_length p1_who x2) fun r_1 => (zb4 (f_Judge_numberAt_L12 crowd_people crowd_heights text_length text_steps p1_length p1_who x2 r_1 FU text_top text_worked known 0 0) fun text_top_10 text_worked_11 known_12 v4_13 => (some (v4_13, text_top_10, text_worked_11, known_12))))
set_option maxRecDepth 100000 in
set_option maxHeartbeats 4000000 in
theorem l_Judge_numberAt_12 {X : zX} (G : zG) (a_this : Nat) (a_crowd : Nat) (a_text : Nat) (a_known : Nat) (a_crowd_heights : Nat) (a_text_tape : Nat) (a_text_reader : Nat) (a_text_steps : Nat) (a_text_worked : Nat) (a_p1 : Nat) (a_p1_who : Nat) (crowd_people : Int32) (crowd_heights : Nat → Int32) (text_fed : Int32) (text_length : Int32) (text_steps : Nat → Int32) (p1_length : Int32) (p1_who : Nat → Int32) (v2 : Int32) (v3 : Int32) {v0 : Option Value} {w0 : va_W} (F : zF X G cX4_numberAt RX4 6 (some .int) 3 79 v0 w0) (e_text_top : Int32) (e_text_worked : Nat → Int32) (e_known : Nat → Int32) (e_v4 : Int32) (hk : Z X G 6 (w_Judge_numberAt G a_this a_crowd a_text a_known a_crowd_heights a_text_tape a_text_reader a_text_steps a_text_worked a_p1 a_p1_who crowd_people crowd_heights text_fed text_length e_text_top text_steps e_text_worked e_known p1_length p1_who) [(4, .int e_v4)] 45 []) :
    ∀ (fuel : Nat) (text_top : Int32) (text_worked : Nat → Int32) (known : Nat → Int32) (v4 : Int32) (v5 : Int32), f_Judge_numberAt_L12 crowd_people crowd_heights text_length text_steps p1_length p1_who v2 v3 fuel text_top text_worked known v4 v5 = some (e_text_top, e_text_worked, e_known, e_v4) → Z X G 6 (w_Judge_numberAt G a_this a_crowd a_text a_known a_crowd_heights a_text_tape a_text_reader a_text_steps a_text_worked a_p1 a_p1_who crowd_people crowd_heights text_fed text_length text_top text_steps text_worked known p1_length p1_who) [(0, .ref a_this), (1, .ref a_p1), (2, .int v2), (3, .int v3), (4, .int v4), (5, .int v5)] 12 [] := by
  intro fuel
  induction fuel with
  | zero => intro text_top text_worked known v4 v5 hf; exact absurd ((f_Judge_numberAt_L12.eq_1 ..).symm.trans hf) (fun h => by cases h)
  | succ fuel ih =>
    intro text_top text_worked known v4 v5 hf
    replace hf := (f_Judge_numberAt_L12.eq_2 ..).symm.trans hf
    refine z_iload F 5 dX4_numberAt_12 rfl ?_
    refine z_iload_n F 2 dX4_numberAt_14 rfl rfl ?_
    refine z_icmp_ge F 45 dX4_numberAt_15 (by decide) hf (fun hf _ => ?_) (fun hf _ => ?_)
    · have eq1 := Option.some.inj hf
      obtain ⟨ee1, eq2⟩ := Prod.mk.inj eq1
      obtain ⟨ee2, eq3⟩ := Prod.mk.inj eq2
      obtain ⟨ee3, ee4⟩ := Prod.mk.inj eq3
      subst ee1
      subst ee2
      subst ee3
      subst ee4
      exact z_sub [4] rfl hk
    · refine z_aload_n F 0 dX4_numberAt_18 rfl rfl ?_
      refine z_aload_n F 1 dX4_numberAt_19 rfl rfl ?_
      refine z_iload F 5 dX4_numberAt_20 rfl ?_
      obtain ⟨r_3, hg, hf⟩ := zb1_some hf
      refine z_callVm (rest := [.ref a_this]) F 7 (c_Line_at (xL X) G a_p1 a_p1_who p1_length p1_who v5 r_3 hg) hy_X7_at ml_X4_49 hd_X7_at ⟨by omega, by omega⟩ rfl [7, 8] rfl rfl 7 rfl rfl (w_Judge_numberAt G a_this a_crowd a_text a_known a_crowd_heights a_text_tape a_text_reader a_text_steps a_text_worked a_p1 a_p1_who crowd_people crowd_heights text_fed text_length text_top text_steps text_worked known p1_length p1_who) [none, none, none, none, none, none, none, some 0, some 1] rfl (by decide +kernel) rfl rfl (Nat.le_of_ble_eq_true rfl) dX4_numberAt_22 (fun hz_4 => ?_)
      refine z_iload_n F 3 dX4_numberAt_25 rfl rfl ?_
      refine z_iload_n F 2 dX4_numberAt_26 rfl rfl ?_
      refine z_iload F 5 dX4_numberAt_27 rfl ?_
      refine z_isub F dX4_numberAt_29 ?_
      obtain ⟨r_5, text_top_6, text_worked_7, known_8, hg, hf⟩ := zb4_some hf
      refine z_callVm (rest := []) F 4 (c_Judge_isCounted (xL X) G a_this a_crowd a_text a_known a_crowd_heights a_text_tape a_text_reader a_text_steps a_text_worked crowd_people crowd_heights text_fed text_length text_top text_steps text_worked known r_3 v3 (v2 - v5) r_5 text_top_6 text_worked_7 known_8 hg) hy_X4_isCounted ml_X4_54 hd_X4_isCounted ⟨by omega, by omega⟩ rfl [0, 1, 2, 3, 4, 5, 6] rfl rfl 0 rfl rfl (w_Judge_numberAt G a_this a_crowd a_text a_known a_crowd_heights a_text_tape a_text_reader a_text_steps a_text_worked a_p1 a_p1_who crowd_people crowd_heights text_fed text_length text_top_6 text_steps text_worked_7 known_8 p1_length p1_who) [some 0, some 1, some 2, some 3, some 4, some 5, some 6, none, none] rfl (by decide +kernel) rfl rfl (Nat.le_of_ble_eq_true rfl) dX4_numberAt_30 (fun hz_9 => ?_)
      refine z_if_eq F 39 dX4_numberAt_33 (by decide) hf (fun hf _ => ?_) (fun hf _ => ?_)
      · refine z_iinc F [(5, .int (v5 + 1)), (0, .ref a_this), (1, .ref a_p1), (2, .int v2), (3, .int v3), (4, .int v4)] dX4_numberAt_39 5 rfl rfl (by decide) rfl ?_
        refine z_goto F 12 dX4_numberAt_42 (by decide) ?_
        exact z_sub [1, 2, 3, 4, 5, 0] rfl (ih text_top_6 text_worked_7 known_8 v4 (v5 + 1) hf)
      · refine z_iinc F [(4, .int (v4 + 1)), (0, .ref a_this), (1, .ref a_p1), (2, .int v2), (3, .int v3), (5, .int v5)] dX4_numberAt_36 4 rfl rfl (by decide) rfl ?_
        refine z_iinc F [(5, .int (v5 + 1)), (4, .int (v4 + 1)), (0, .ref a_this), (1, .ref a_p1), (2, .int v2), (3, .int v3)] dX4_numberAt_39 5 rfl rfl (by decide) rfl ?_
        refine z_goto F 12 dX4_numberAt_42 (by decide) ?_
        exact z_sub [2, 3, 4, 5, 1, 0] rfl (ih text_top_6 text_worked_7 known_8 (v4 + 1) (v5 + 1) hf)

set_option maxRecDepth 100000 in
set_option maxHeartbeats 4000000 in
theorem c_Judge_numberAt (l : Launch) (G : zG) (a_this : Nat) (a_crowd : Nat) (a_text : Nat) (a_known : Nat) (a_crowd_heights : Nat) (a_text_tape : Nat) (a_text_reader : Nat) (a_text_steps : Nat) (a_text_worked : Nat) (a_p1 : Nat) (a_p1_who : Nat) (crowd_people : Int32) (crowd_heights : Nat → Int32) (text_fed : Int32) (text_length : Int32) (text_top : Int32) (text_steps : Nat → Int32) (text_worked : Nat → Int32) (known : Nat → Int32) (p1_length : Int32) (p1_who : Nat → Int32) (x2 : Int32) (r_ : Int32) (o_text_top : Int32) (o_text_worked : Nat → Int32) (o_known : Nat → Int32) (hf : f_Judge_numberAt crowd_people crowd_heights text_length text_top text_steps text_worked known p1_length p1_who x2 = some (r_, o_text_top, o_text_worked, o_known)) : zM l yX4_numberAt cX4_numberAt 6 (some .int) 3 79 G [.ref a_this, .ref a_p1, .int x2] (w_Judge_numberAt G a_this a_crowd a_text a_known a_crowd_heights a_text_tape a_text_reader a_text_steps a_text_worked a_p1 a_p1_who crowd_people crowd_heights text_fed text_length text_top text_steps text_worked known p1_length p1_who) (some (.int r_)) (w_Judge_numberAt G a_this a_crowd a_text a_known a_crowd_heights a_text_tape a_text_reader a_text_steps a_text_worked a_p1 a_p1_who crowd_people crowd_heights text_fed text_length o_text_top text_steps o_text_worked o_known p1_length p1_who) := by
  refine zM.of [(0, .ref a_this), (1, .ref a_p1), (2, .int x2)] (own := RX4) rfl (by decide +kernel) (Nat.le_of_ble_eq_true rfl) rfl rfl fun X hX F => ?_
  subst hX
  replace hf := (f_Judge_numberAt.eq_1 ..).symm.trans hf
  refine z_aload_n F 1 dX4_numberAt_0 rfl rfl ?_
  refine z_iload_n F 2 dX4_numberAt_1 rfl rfl ?_
  obtain ⟨r_1, hg, hf⟩ := zb1_some hf
  refine z_callVm (rest := []) F 7 (c_Line_at (xL X) G a_p1 a_p1_who p1_length p1_who x2 r_1 hg) hy_X7_at ml_X4_49 hd_X7_at ⟨by omega, by omega⟩ rfl [7, 8] rfl rfl 7 rfl rfl (w_Judge_numberAt G a_this a_crowd a_text a_known a_crowd_heights a_text_tape a_text_reader a_text_steps a_text_worked a_p1 a_p1_who crowd_people crowd_heights text_fed text_length text_top text_steps text_worked known p1_length p1_who) [none, none, none, none, none, none, none, some 0, some 1] rfl (by decide +kernel) rfl rfl (Nat.le_of_ble_eq_true rfl) dX4_numberAt_2 (fun hz_2 => ?_)
  refine z_istore_n F [(3, .int r_1), (0, .ref a_this), (1, .ref a_p1), (2, .int x2)] dX4_numberAt_5 rfl (by decide) rfl ?_
  refine z_iconst F (0) dX4_numberAt_6 rfl ?_
  refine z_istore F [(4, .int 0), (3, .int r_1), (0, .ref a_this), (1, .ref a_p1), (2, .int x2)] dX4_numberAt_7 (by decide) rfl ?_
  refine z_iconst F (0) dX4_numberAt_9 rfl ?_
  refine z_istore F [(5, .int 0), (4, .int 0), (3, .int r_1), (0, .ref a_this), (1, .ref a_p1), (2, .int x2)] dX4_numberAt_10 (by decide) rfl ?_
  obtain ⟨text_top_10, text_worked_11, known_12, v4_13, hg, hf⟩ := zb4_some hf
  refine z_sub [3, 4, 5, 2, 1, 0] rfl ?_
  refine l_Judge_numberAt_12 G a_this a_crowd a_text a_known a_crowd_heights a_text_tape a_text_reader a_text_steps a_text_worked a_p1 a_p1_who crowd_people crowd_heights text_fed text_length text_steps p1_length p1_who x2 r_1 F text_top_10 text_worked_11 known_12 v4_13 ?_ FU text_top text_worked known 0 0 hg
  refine z_iload F 0 dX4_numberAt_45 rfl ?_
  have eq1 := Option.some.inj hf
  obtain ⟨ee1, eq2⟩ := Prod.mk.inj eq1
  obtain ⟨ee2, eq3⟩ := Prod.mk.inj eq2
  obtain ⟨ee3, ee4⟩ := Prod.mk.inj eq3
  subst ee1
  subst ee2
  subst ee3
  subst ee4
  exact z_iret F rfl rfl rfl rfl dX4_numberAt_47

abbrev w_Judge_plainNumberAt (G : zG) (a_this : Nat) (a_crowd : Nat) (a_text : Nat) (a_known : Nat) (a_crowd_heights : Nat) (a_p1 : Nat) (a_p1_who : Nat) (crowd_people : Int32) (crowd_heights : Nat → Int32) (p1_length : Int32) (p1_who : Nat → Int32) : va_W := [(a_this, cO 4 [.ref a_crowd, .ref a_text, .ref a_known]), (a_crowd, cO 1 [.ref a_crowd_heights, .int crowd_people]), (a_crowd_heights, cI G 9 crowd_heights), (a_p1, cO 7 [.ref a_p1_who, .int p1_length]), (a_p1_who, cI G 9 p1_who)]
def f_Judge_plainNumberAt_L12 (crowd_people : Int32) (crowd_heights : Nat → Int32) (p1_length : Int32) (p1_who : Nat → Int32) (v2 : Int32) (v3 : Int32) : Nat → Int32 → Int32 → Option Int32
  | 0, _, _ => none
  | fuel + 1, v4, v5 => (if v2 ≤ v5 then (some v4) else (zb1 (f_Line_at p1_length p1_who v5) fun r_3 => (zb1 (f_Crowd_isTaller crowd_people crowd_heights r_3 v3) fun r_5 => (if r_5 = 0 then (f_Judge_plainNumberAt_L12 crowd_people crowd_heights p1_length p1_who v2 v3 fuel v4 (v5 + 1)) else (f_Judge_plainNumberAt_L12 crowd_people crowd_heights p1_length p1_who v2 v3 fuel (v4 + 1) (v5 + 1))))))
def f_Judge_plainNumberAt (crowd_people : Int32) (crowd_heights : Nat → Int32) (p1_length : Int32) (p1_who : Nat → Int32) (x2 : Int32) : Option Int32 := (zb1 (f_Line_at p1_length p1_who x2) fun r_1 => (zb1 (f_Judge_plainNumberAt_L12 crowd_people crowd_heights p1_length p1_who x2 r_1 FU 0 0) fun v4_7 => (some v4_7)))
set_option maxRecDepth 100000 in
set_option maxHeartbeats 4000000 in
theorem l_Judge_plainNumberAt_12 {X : zX} (G : zG) (a_this : Nat) (a_crowd : Nat) (a_text : Nat) (a_known : Nat) (a_crowd_heights : Nat) (a_p1 : Nat) (a_p1_who : Nat) (crowd_people : Int32) (crowd_heights : Nat → Int32) (p1_length : Int32) (p1_who : Nat → Int32) (v2 : Int32) (v3 : Int32) {v0 : Option Value} {w0 : va_W} (F : zF X G cX4_plainNumberAt RX4 6 (some .int) 2 43 v0 w0) (e_v4 : Int32) (hk : Z X G 6 (w_Judge_plainNumberAt G a_this a_crowd a_text a_known a_crowd_heights a_p1 a_p1_who crowd_people crowd_heights p1_length p1_who) [(4, .int e_v4)] 44 []) :
    ∀ (fuel : Nat) (v4 : Int32) (v5 : Int32), f_Judge_plainNumberAt_L12 crowd_people crowd_heights p1_length p1_who v2 v3 fuel v4 v5 = some e_v4 → Z X G 6 (w_Judge_plainNumberAt G a_this a_crowd a_text a_known a_crowd_heights a_p1 a_p1_who crowd_people crowd_heights p1_length p1_who) [(0, .ref a_this), (1, .ref a_p1), (2, .int v2), (3, .int v3), (4, .int v4), (5, .int v5)] 12 [] := by
  intro fuel
  induction fuel with
  | zero => intro v4 v5 hf; exact absurd ((f_Judge_plainNumberAt_L12.eq_1 ..).symm.trans hf) (fun h => by cases h)
  | succ fuel ih =>
    intro v4 v5 hf
    replace hf := (f_Judge_plainNumberAt_L12.eq_2 ..).symm.trans hf
    refine z_iload F 5 dX4_plainNumberAt_12 rfl ?_
    refine z_iload_n F 2 dX4_plainNumberAt_14 rfl rfl ?_
    refine z_icmp_ge F 44 dX4_plainNumberAt_15 (by decide) hf (fun hf _ => ?_) (fun hf _ => ?_)
    · have ee1 := Option.some.inj hf
      subst ee1
      exact z_sub [4] rfl hk
    · refine z_aload_n F 0 dX4_plainNumberAt_18 rfl rfl ?_
      refine z_get F 0 4 0 inlX4 rfl rfl (by decide) fl_X4_9 rfl dX4_plainNumberAt_19 ?_
      refine z_aload_n F 1 dX4_plainNumberAt_22 rfl rfl ?_
      refine z_iload F 5 dX4_plainNumberAt_23 rfl ?_
      obtain ⟨r_3, hg, hf⟩ := zb1_some hf
      refine z_callVm (rest := [.ref a_crowd]) F 7 (c_Line_at (xL X) G a_p1 a_p1_who p1_length p1_who v5 r_3 hg) hy_X7_at ml_X4_49 hd_X7_at ⟨by omega, by omega⟩ rfl [3, 4] rfl rfl 3 rfl rfl (w_Judge_plainNumberAt G a_this a_crowd a_text a_known a_crowd_heights a_p1 a_p1_who crowd_people crowd_heights p1_length p1_who) [none, none, none, some 0, some 1] rfl (by decide +kernel) rfl rfl (Nat.le_of_ble_eq_true rfl) dX4_plainNumberAt_25 (fun hz_4 => ?_)
      refine z_iload_n F 3 dX4_plainNumberAt_28 rfl rfl ?_
      obtain ⟨r_5, hg, hf⟩ := zb1_some hf
      refine z_callVm (rest := []) F 1 (c_Crowd_isTaller (xL X) G a_crowd a_crowd_heights crowd_people crowd_heights r_3 v3 r_5 hg) hy_X1_isTaller ml_X4_35 hd_X1_isTaller ⟨by omega, by omega⟩ rfl [1, 2] rfl rfl 1 rfl rfl (w_Judge_plainNumberAt G a_this a_crowd a_text a_known a_crowd_heights a_p1 a_p1_who crowd_people crowd_heights p1_length p1_who) [none, some 0, some 1, none, none] rfl (by decide +kernel) rfl rfl (Nat.le_of_ble_eq_true rfl) dX4_plainNumberAt_29 (fun hz_6 => ?_)
      refine z_if_eq F 38 dX4_plainNumberAt_32 (by decide) hf (fun hf _ => ?_) (fun hf _ => ?_)
      · refine z_iinc F [(5, .int (v5 + 1)), (0, .ref a_this), (1, .ref a_p1), (2, .int v2), (3, .int v3), (4, .int v4)] dX4_plainNumberAt_38 5 rfl rfl (by decide) rfl ?_
        refine z_goto F 12 dX4_plainNumberAt_41 (by decide) ?_
        exact z_sub [1, 2, 3, 4, 5, 0] rfl (ih v4 (v5 + 1) hf)
      · refine z_iinc F [(4, .int (v4 + 1)), (0, .ref a_this), (1, .ref a_p1), (2, .int v2), (3, .int v3), (5, .int v5)] dX4_plainNumberAt_35 4 rfl rfl (by decide) rfl ?_
        refine z_iinc F [(5, .int (v5 + 1)), (4, .int (v4 + 1)), (0, .ref a_this), (1, .ref a_p1), (2, .int v2), (3, .int v3)] dX4_plainNumberAt_38 5 rfl rfl (by decide) rfl ?_
        refine z_goto F 12 dX4_plainNumberAt_41 (by decide) ?_
        exact z_sub [2, 3, 4, 5, 1, 0] rfl (ih (v4 + 1) (v5 + 1) hf)

set_option maxRecDepth 100000 in
set_option maxHeartbeats 4000000 in
theorem c_Judge_plainNumberAt (l : Launch) (G : zG) (a_this : Nat) (a_crowd : Nat) (a_text : Nat) (a_known : Nat) (a_crowd_heights : Nat) (a_p1 : Nat) (a_p1_who : Nat) (crowd_people : Int32) (crowd_heights : Nat → Int32) (p1_length : Int32) (p1_who : Nat → Int32) (x2 : Int32) (r_ : Int32) (hf : f_Judge_plainNumberAt crowd_people crowd_heights p1_length p1_who x2 = some r_) : zM l yX4_plainNumberAt cX4_plainNumberAt 6 (some .int) 2 43 G [.ref a_this, .ref a_p1, .int x2] (w_Judge_plainNumberAt G a_this a_crowd a_text a_known a_crowd_heights a_p1 a_p1_who crowd_people crowd_heights p1_length p1_who) (some (.int r_)) (w_Judge_plainNumberAt G a_this a_crowd a_text a_known a_crowd_heights a_p1 a_p1_who crowd_people crowd_heights p1_length p1_who) := by
  refine zM.of [(0, .ref a_this), (1, .ref a_p1), (2, .int x2)] (own := RX4) rfl (by decide +kernel) (Nat.le_of_ble_eq_true rfl) rfl rfl fun X hX F => ?_
  subst hX
  replace hf := (f_Judge_plainNumberAt.eq_1 ..).symm.trans hf
  refine z_aload_n F 1 dX4_plainNumberAt_0 rfl rfl ?_
  refine z_iload_n F 2 dX4_plainNumberAt_1 rfl rfl ?_
  obtain ⟨r_1, hg, hf⟩ := zb1_some hf
  refine z_callVm (rest := []) F 7 (c_Line_at (xL X) G a_p1 a_p1_who p1_length p1_who x2 r_1 hg) hy_X7_at ml_X4_49 hd_X7_at ⟨by omega, by omega⟩ rfl [3, 4] rfl rfl 3 rfl rfl (w_Judge_plainNumberAt G a_this a_crowd a_text a_known a_crowd_heights a_p1 a_p1_who crowd_people crowd_heights p1_length p1_who) [none, none, none, some 0, some 1] rfl (by decide +kernel) rfl rfl (Nat.le_of_ble_eq_true rfl) dX4_plainNumberAt_2 (fun hz_2 => ?_)
  refine z_istore_n F [(3, .int r_1), (0, .ref a_this), (1, .ref a_p1), (2, .int x2)] dX4_plainNumberAt_5 rfl (by decide) rfl ?_
  refine z_iconst F (0) dX4_plainNumberAt_6 rfl ?_
  refine z_istore F [(4, .int 0), (3, .int r_1), (0, .ref a_this), (1, .ref a_p1), (2, .int x2)] dX4_plainNumberAt_7 (by decide) rfl ?_
  refine z_iconst F (0) dX4_plainNumberAt_9 rfl ?_
  refine z_istore F [(5, .int 0), (4, .int 0), (3, .int r_1), (0, .ref a_this), (1, .ref a_p1), (2, .int x2)] dX4_plainNumberAt_10 (by decide) rfl ?_
  obtain ⟨v4_7, hg, hf⟩ := zb1_some hf
  refine z_sub [3, 4, 5, 2, 1, 0] rfl ?_
  refine l_Judge_plainNumberAt_12 G a_this a_crowd a_text a_known a_crowd_heights a_p1 a_p1_who crowd_people crowd_heights p1_length p1_who x2 r_1 F v4_7 ?_ FU 0 0 hg
  refine z_iload F 0 dX4_plainNumberAt_44 rfl ?_
  have ee1 := Option.some.inj hf
  subst ee1
  exact z_iret F rfl rfl rfl rfl dX4_plainNumberAt_46

abbrev w_Judge_disquietOf (G : zG) (a_this : Nat) (a_crowd : Nat) (a_text : Nat) (a_known : Nat) (a_crowd_heights : Nat) (a_text_tape : Nat) (a_text_reader : Nat) (a_text_steps : Nat) (a_text_worked : Nat) (a_p1 : Nat) (a_p1_who : Nat) (crowd_people : Int32) (crowd_heights : Nat → Int32) (text_fed : Int32) (text_length : Int32) (text_top : Int32) (text_steps : Nat → Int32) (text_worked : Nat → Int32) (known : Nat → Int32) (p1_length : Int32) (p1_who : Nat → Int32) : va_W := [(a_this, cO 4 [.ref a_crowd, .ref a_text, .ref a_known]), (a_crowd, cO 1 [.ref a_crowd_heights, .int crowd_people]), (a_crowd_heights, cI G 9 crowd_heights), (a_text, cO 5 [.ref a_text_tape, .int text_fed, .ref a_text_reader, .ref a_text_steps, .int text_length, .ref a_text_worked, .int text_top]), (a_text_steps, cI G 121 text_steps), (a_text_worked, cI G 121 text_worked), (a_known, cB G 729 known), (a_p1, cO 7 [.ref a_p1_who, .int p1_length]), (a_p1_who, cI G 9 p1_who)]
def f_Judge_disquietOf_L4 (crowd_people : Int32) (crowd_heights : Nat → Int32) (text_length : Int32) (text_steps : Nat → Int32) (p1_length : Int32) (p1_who : Nat → Int32) : Nat → Int32 → (Nat → Int32) → (Nat → Int32) → Int32 → Int32 → Option (Int32 × (Nat → Int32) × (Nat → Int32) × Int32)
  | 0, _, _, _, _, _ => none
  | fuel + 1, text_top, text_worked, known, v2, v3 => (if (f_Line_size p1_length) ≤ v3 then (some (text_top, text_worked, known, v2)) else (zb4 (f_Judge_numberAt crowd_people crowd_heights text_length text_top text_steps text_worked known p1_length p1_who v3) fun r_2 text_top_3 text_worked_4 known_5 => (f_Judge_disquietOf_L4 crowd_people crowd_heights text_length text_steps p1_length p1_who fuel text_top_3 text_worked_4 known_5 (v2 + r_2) (v3 + 1))))
def f_Judge_disquietOf (crowd_people : Int32) (crowd_heights : Nat → Int32) (text_length : Int32) (text_top : Int32) (text_steps : Nat → Int32) (text_worked : Nat → Int32) (known : Nat → Int32) (p1_length : Int32) (p1_who : Nat → Int32) : Option (Int32 × Int32 × (Nat → Int32) × (Nat → Int32)) := (zb4 (f_Judge_disquietOf_L4 crowd_people crowd_heights text_length text_steps p1_length p1_who FU text_top text_worked known 0 1) fun text_top_7 text_worked_8 known_9 v2_10 => (some (v2_10, text_top_7, text_worked_8, known_9)))
set_option maxRecDepth 100000 in
set_option maxHeartbeats 4000000 in
theorem l_Judge_disquietOf_4 {X : zX} (G : zG) (a_this : Nat) (a_crowd : Nat) (a_text : Nat) (a_known : Nat) (a_crowd_heights : Nat) (a_text_tape : Nat) (a_text_reader : Nat) (a_text_steps : Nat) (a_text_worked : Nat) (a_p1 : Nat) (a_p1_who : Nat) (crowd_people : Int32) (crowd_heights : Nat → Int32) (text_fed : Int32) (text_length : Int32) (text_steps : Nat → Int32) (p1_length : Int32) (p1_who : Nat → Int32) {v0 : Option Value} {w0 : va_W} (F : zF X G cX4_disquietOf RX4 4 (some .int) 4 104 v0 w0) (e_text_top : Int32) (e_text_worked : Nat → Int32) (e_known : Nat → Int32) (e_v2 : Int32) (hk : Z X G 4 (w_Judge_disquietOf G a_this a_crowd a_text a_known a_crowd_heights a_text_tape a_text_reader a_text_steps a_text_worked a_p1 a_p1_who crowd_people crowd_heights text_fed text_length e_text_top text_steps e_text_worked e_known p1_length p1_who) [(2, .int e_v2)] 27 []) :
    ∀ (fuel : Nat) (text_top : Int32) (text_worked : Nat → Int32) (known : Nat → Int32) (v2 : Int32) (v3 : Int32), f_Judge_disquietOf_L4 crowd_people crowd_heights text_length text_steps p1_length p1_who fuel text_top text_worked known v2 v3 = some (e_text_top, e_text_worked, e_known, e_v2) → Z X G 4 (w_Judge_disquietOf G a_this a_crowd a_text a_known a_crowd_heights a_text_tape a_text_reader a_text_steps a_text_worked a_p1 a_p1_who crowd_people crowd_heights text_fed text_length text_top text_steps text_worked known p1_length p1_who) [(0, .ref a_this), (1, .ref a_p1), (2, .int v2), (3, .int v3)] 4 [] := by
  intro fuel
  induction fuel with
  | zero => intro text_top text_worked known v2 v3 hf; exact absurd ((f_Judge_disquietOf_L4.eq_1 ..).symm.trans hf) (fun h => by cases h)
  | succ fuel ih =>
    intro text_top text_worked known v2 v3 hf
    replace hf := (f_Judge_disquietOf_L4.eq_2 ..).symm.trans hf
    refine z_iload_n F 3 dX4_disquietOf_4 rfl rfl ?_
    refine z_aload_n F 1 dX4_disquietOf_5 rfl rfl ?_
    refine z_callVm (rest := [.int v3]) F 7 (c_Line_size (xL X) G a_p1 a_p1_who p1_length _ rfl) hy_X7_size ml_X4_58 hd_X7_size ⟨by omega, by omega⟩ rfl [7] rfl rfl 7 rfl rfl (w_Judge_disquietOf G a_this a_crowd a_text a_known a_crowd_heights a_text_tape a_text_reader a_text_steps a_text_worked a_p1 a_p1_who crowd_people crowd_heights text_fed text_length text_top text_steps text_worked known p1_length p1_who) [none, none, none, none, none, none, none, some 0, none] rfl (by decide +kernel) rfl rfl (Nat.le_of_ble_eq_true rfl) dX4_disquietOf_6 (fun hz_1 => ?_)
    refine z_icmp_ge F 27 dX4_disquietOf_9 (by decide) hf (fun hf _ => ?_) (fun hf _ => ?_)
    · have eq1 := Option.some.inj hf
      obtain ⟨ee1, eq2⟩ := Prod.mk.inj eq1
      obtain ⟨ee2, eq3⟩ := Prod.mk.inj eq2
      obtain ⟨ee3, ee4⟩ := Prod.mk.inj eq3
      subst ee1
      subst ee2
      subst ee3
      subst ee4
      exact z_sub [2] rfl hk
    · refine z_iload_n F 2 dX4_disquietOf_12 rfl rfl ?_
      refine z_aload_n F 0 dX4_disquietOf_13 rfl rfl ?_
      refine z_aload_n F 1 dX4_disquietOf_14 rfl rfl ?_
      refine z_iload_n F 3 dX4_disquietOf_15 rfl rfl ?_
      obtain ⟨r_2, text_top_3, text_worked_4, known_5, hg, hf⟩ := zb4_some hf
      refine z_callVm (rest := [.int v2]) F 4 (c_Judge_numberAt (xL X) G a_this a_crowd a_text a_known a_crowd_heights a_text_tape a_text_reader a_text_steps a_text_worked a_p1 a_p1_who crowd_people crowd_heights text_fed text_length text_top text_steps text_worked known p1_length p1_who v3 r_2 text_top_3 text_worked_4 known_5 hg) hy_X4_numberAt ml_X4_62 hd_X4_numberAt ⟨by omega, by omega⟩ rfl [0, 1, 2, 3, 4, 5, 6, 7, 8] rfl rfl 0 rfl rfl (w_Judge_disquietOf G a_this a_crowd a_text a_known a_crowd_heights a_text_tape a_text_reader a_text_steps a_text_worked a_p1 a_p1_who crowd_people crowd_heights text_fed text_length text_top_3 text_steps text_worked_4 known_5 p1_length p1_who) [some 0, some 1, some 2, some 3, some 4, some 5, some 6, some 7, some 8] rfl (by decide +kernel) rfl rfl (Nat.le_of_ble_eq_true rfl) dX4_disquietOf_16 (fun hz_6 => ?_)
      refine z_iadd F dX4_disquietOf_19 ?_
      refine z_istore_n F [(2, .int (v2 + r_2)), (0, .ref a_this), (1, .ref a_p1), (3, .int v3)] dX4_disquietOf_20 rfl (by decide) rfl ?_
      refine z_iinc F [(3, .int (v3 + 1)), (2, .int (v2 + r_2)), (0, .ref a_this), (1, .ref a_p1)] dX4_disquietOf_21 3 rfl rfl (by decide) rfl ?_
      refine z_goto F 4 dX4_disquietOf_24 (by decide) ?_
      exact z_sub [2, 3, 1, 0] rfl (ih text_top_3 text_worked_4 known_5 (v2 + r_2) (v3 + 1) hf)

set_option maxRecDepth 100000 in
set_option maxHeartbeats 4000000 in
theorem c_Judge_disquietOf (l : Launch) (G : zG) (a_this : Nat) (a_crowd : Nat) (a_text : Nat) (a_known : Nat) (a_crowd_heights : Nat) (a_text_tape : Nat) (a_text_reader : Nat) (a_text_steps : Nat) (a_text_worked : Nat) (a_p1 : Nat) (a_p1_who : Nat) (crowd_people : Int32) (crowd_heights : Nat → Int32) (text_fed : Int32) (text_length : Int32) (text_top : Int32) (text_steps : Nat → Int32) (text_worked : Nat → Int32) (known : Nat → Int32) (p1_length : Int32) (p1_who : Nat → Int32) (r_ : Int32) (o_text_top : Int32) (o_text_worked : Nat → Int32) (o_known : Nat → Int32) (hf : f_Judge_disquietOf crowd_people crowd_heights text_length text_top text_steps text_worked known p1_length p1_who = some (r_, o_text_top, o_text_worked, o_known)) : zM l yX4_disquietOf cX4_disquietOf 4 (some .int) 4 104 G [.ref a_this, .ref a_p1] (w_Judge_disquietOf G a_this a_crowd a_text a_known a_crowd_heights a_text_tape a_text_reader a_text_steps a_text_worked a_p1 a_p1_who crowd_people crowd_heights text_fed text_length text_top text_steps text_worked known p1_length p1_who) (some (.int r_)) (w_Judge_disquietOf G a_this a_crowd a_text a_known a_crowd_heights a_text_tape a_text_reader a_text_steps a_text_worked a_p1 a_p1_who crowd_people crowd_heights text_fed text_length o_text_top text_steps o_text_worked o_known p1_length p1_who) := by
  refine zM.of [(0, .ref a_this), (1, .ref a_p1)] (own := RX4) rfl (by decide +kernel) (Nat.le_of_ble_eq_true rfl) rfl rfl fun X hX F => ?_
  subst hX
  replace hf := (f_Judge_disquietOf.eq_1 ..).symm.trans hf
  refine z_iconst F (0) dX4_disquietOf_0 rfl ?_
  refine z_istore_n F [(2, .int 0), (0, .ref a_this), (1, .ref a_p1)] dX4_disquietOf_1 rfl (by decide) rfl ?_
  refine z_iconst F (1) dX4_disquietOf_2 rfl ?_
  refine z_istore_n F [(3, .int 1), (2, .int 0), (0, .ref a_this), (1, .ref a_p1)] dX4_disquietOf_3 rfl (by decide) rfl ?_
  obtain ⟨text_top_7, text_worked_8, known_9, v2_10, hg, hf⟩ := zb4_some hf
  refine z_sub [2, 3, 1, 0] rfl ?_
  refine l_Judge_disquietOf_4 G a_this a_crowd a_text a_known a_crowd_heights a_text_tape a_text_reader a_text_steps a_text_worked a_p1 a_p1_who crowd_people crowd_heights text_fed text_length text_steps p1_length p1_who F text_top_7 text_worked_8 known_9 v2_10 ?_ FU text_top text_worked known 0 1 hg
  refine z_iload_n F 0 dX4_disquietOf_27 rfl rfl ?_
  have eq1 := Option.some.inj hf
  obtain ⟨ee1, eq2⟩ := Prod.mk.inj eq1
  obtain ⟨ee2, eq3⟩ := Prod.mk.inj eq2
  obtain ⟨ee3, ee4⟩ := Prod.mk.inj eq3
  subst ee1
  subst ee2
  subst ee3
  subst ee4
  exact z_iret F rfl rfl rfl rfl dX4_disquietOf_28

abbrev w_Judge_plainDisquietOf (G : zG) (a_this : Nat) (a_crowd : Nat) (a_text : Nat) (a_known : Nat) (a_crowd_heights : Nat) (a_p1 : Nat) (a_p1_who : Nat) (crowd_people : Int32) (crowd_heights : Nat → Int32) (p1_length : Int32) (p1_who : Nat → Int32) : va_W := [(a_this, cO 4 [.ref a_crowd, .ref a_text, .ref a_known]), (a_crowd, cO 1 [.ref a_crowd_heights, .int crowd_people]), (a_crowd_heights, cI G 9 crowd_heights), (a_p1, cO 7 [.ref a_p1_who, .int p1_length]), (a_p1_who, cI G 9 p1_who)]
def f_Judge_plainDisquietOf_L4 (crowd_people : Int32) (crowd_heights : Nat → Int32) (p1_length : Int32) (p1_who : Nat → Int32) : Nat → Int32 → Int32 → Option Int32
  | 0, _, _ => none
  | fuel + 1, v2, v3 => (if (f_Line_size p1_length) ≤ v3 then (some v2) else (zb1 (f_Judge_plainNumberAt crowd_people crowd_heights p1_length p1_who v3) fun r_2 => (f_Judge_plainDisquietOf_L4 crowd_people crowd_heights p1_length p1_who fuel (v2 + r_2) (v3 + 1))))
def f_Judge_plainDisquietOf (crowd_people : Int32) (crowd_heights : Nat → Int32) (p1_length : Int32) (p1_who : Nat → Int32) : Option Int32 := (zb1 (f_Judge_plainDisquietOf_L4 crowd_people crowd_heights p1_length p1_who FU 0 1) fun v2_4 => (some v2_4))
set_option maxRecDepth 100000 in
set_option maxHeartbeats 4000000 in
theorem l_Judge_plainDisquietOf_4 {X : zX} (G : zG) (a_this : Nat) (a_crowd : Nat) (a_text : Nat) (a_known : Nat) (a_crowd_heights : Nat) (a_p1 : Nat) (a_p1_who : Nat) (crowd_people : Int32) (crowd_heights : Nat → Int32) (p1_length : Int32) (p1_who : Nat → Int32) {v0 : Option Value} {w0 : va_W} (F : zF X G cX4_plainDisquietOf RX4 4 (some .int) 3 68 v0 w0) (e_v2 : Int32) (hk : Z X G 4 (w_Judge_plainDisquietOf G a_this a_crowd a_text a_known a_crowd_heights a_p1 a_p1_who crowd_people crowd_heights p1_length p1_who) [(2, .int e_v2)] 27 []) :
    ∀ (fuel : Nat) (v2 : Int32) (v3 : Int32), f_Judge_plainDisquietOf_L4 crowd_people crowd_heights p1_length p1_who fuel v2 v3 = some e_v2 → Z X G 4 (w_Judge_plainDisquietOf G a_this a_crowd a_text a_known a_crowd_heights a_p1 a_p1_who crowd_people crowd_heights p1_length p1_who) [(0, .ref a_this), (1, .ref a_p1), (2, .int v2), (3, .int v3)] 4 [] := by
  intro fuel
  induction fuel with
  | zero => intro v2 v3 hf; exact absurd ((f_Judge_plainDisquietOf_L4.eq_1 ..).symm.trans hf) (fun h => by cases h)
  | succ fuel ih =>
    intro v2 v3 hf
    replace hf := (f_Judge_plainDisquietOf_L4.eq_2 ..).symm.trans hf
    refine z_iload_n F 3 dX4_plainDisquietOf_4 rfl rfl ?_
    refine z_aload_n F 1 dX4_plainDisquietOf_5 rfl rfl ?_
    refine z_callVm (rest := [.int v3]) F 7 (c_Line_size (xL X) G a_p1 a_p1_who p1_length _ rfl) hy_X7_size ml_X4_58 hd_X7_size ⟨by omega, by omega⟩ rfl [3] rfl rfl 3 rfl rfl (w_Judge_plainDisquietOf G a_this a_crowd a_text a_known a_crowd_heights a_p1 a_p1_who crowd_people crowd_heights p1_length p1_who) [none, none, none, some 0, none] rfl (by decide +kernel) rfl rfl (Nat.le_of_ble_eq_true rfl) dX4_plainDisquietOf_6 (fun hz_1 => ?_)
    refine z_icmp_ge F 27 dX4_plainDisquietOf_9 (by decide) hf (fun hf _ => ?_) (fun hf _ => ?_)
    · have ee1 := Option.some.inj hf
      subst ee1
      exact z_sub [2] rfl hk
    · refine z_iload_n F 2 dX4_plainDisquietOf_12 rfl rfl ?_
      refine z_aload_n F 0 dX4_plainDisquietOf_13 rfl rfl ?_
      refine z_aload_n F 1 dX4_plainDisquietOf_14 rfl rfl ?_
      refine z_iload_n F 3 dX4_plainDisquietOf_15 rfl rfl ?_
      obtain ⟨r_2, hg, hf⟩ := zb1_some hf
      refine z_callVm (rest := [.int v2]) F 4 (c_Judge_plainNumberAt (xL X) G a_this a_crowd a_text a_known a_crowd_heights a_p1 a_p1_who crowd_people crowd_heights p1_length p1_who v3 r_2 hg) hy_X4_plainNumberAt ml_X4_66 hd_X4_plainNumberAt ⟨by omega, by omega⟩ rfl [0, 1, 2, 3, 4] rfl rfl 0 rfl rfl (w_Judge_plainDisquietOf G a_this a_crowd a_text a_known a_crowd_heights a_p1 a_p1_who crowd_people crowd_heights p1_length p1_who) [some 0, some 1, some 2, some 3, some 4] rfl (by decide +kernel) rfl rfl (Nat.le_of_ble_eq_true rfl) dX4_plainDisquietOf_16 (fun hz_3 => ?_)
      refine z_iadd F dX4_plainDisquietOf_19 ?_
      refine z_istore_n F [(2, .int (v2 + r_2)), (0, .ref a_this), (1, .ref a_p1), (3, .int v3)] dX4_plainDisquietOf_20 rfl (by decide) rfl ?_
      refine z_iinc F [(3, .int (v3 + 1)), (2, .int (v2 + r_2)), (0, .ref a_this), (1, .ref a_p1)] dX4_plainDisquietOf_21 3 rfl rfl (by decide) rfl ?_
      refine z_goto F 4 dX4_plainDisquietOf_24 (by decide) ?_
      exact z_sub [2, 3, 1, 0] rfl (ih (v2 + r_2) (v3 + 1) hf)

set_option maxRecDepth 100000 in
set_option maxHeartbeats 4000000 in
theorem c_Judge_plainDisquietOf (l : Launch) (G : zG) (a_this : Nat) (a_crowd : Nat) (a_text : Nat) (a_known : Nat) (a_crowd_heights : Nat) (a_p1 : Nat) (a_p1_who : Nat) (crowd_people : Int32) (crowd_heights : Nat → Int32) (p1_length : Int32) (p1_who : Nat → Int32) (r_ : Int32) (hf : f_Judge_plainDisquietOf crowd_people crowd_heights p1_length p1_who = some r_) : zM l yX4_plainDisquietOf cX4_plainDisquietOf 4 (some .int) 3 68 G [.ref a_this, .ref a_p1] (w_Judge_plainDisquietOf G a_this a_crowd a_text a_known a_crowd_heights a_p1 a_p1_who crowd_people crowd_heights p1_length p1_who) (some (.int r_)) (w_Judge_plainDisquietOf G a_this a_crowd a_text a_known a_crowd_heights a_p1 a_p1_who crowd_people crowd_heights p1_length p1_who) := by
  refine zM.of [(0, .ref a_this), (1, .ref a_p1)] (own := RX4) rfl (by decide +kernel) (Nat.le_of_ble_eq_true rfl) rfl rfl fun X hX F => ?_
  subst hX
  replace hf := (f_Judge_plainDisquietOf.eq_1 ..).symm.trans hf
  refine z_iconst F (0) dX4_plainDisquietOf_0 rfl ?_
  refine z_istore_n F [(2, .int 0), (0, .ref a_this), (1, .ref a_p1)] dX4_plainDisquietOf_1 rfl (by decide) rfl ?_
  refine z_iconst F (1) dX4_plainDisquietOf_2 rfl ?_
  refine z_istore_n F [(3, .int 1), (2, .int 0), (0, .ref a_this), (1, .ref a_p1)] dX4_plainDisquietOf_3 rfl (by decide) rfl ?_
  obtain ⟨v2_4, hg, hf⟩ := zb1_some hf
  refine z_sub [2, 3, 1, 0] rfl ?_
  refine l_Judge_plainDisquietOf_4 G a_this a_crowd a_text a_known a_crowd_heights a_p1 a_p1_who crowd_people crowd_heights p1_length p1_who F v2_4 ?_ FU 0 1 hg
  refine z_iload_n F 0 dX4_plainDisquietOf_27 rfl rfl ?_
  have ee1 := Option.some.inj hf
  subst ee1
  exact z_iret F rfl rfl rfl rfl dX4_plainDisquietOf_28

abbrev w_Judge_costOf (G : zG) (a_this : Nat) (a_crowd : Nat) (a_text : Nat) (a_known : Nat) (a_crowd_heights : Nat) (a_text_tape : Nat) (a_text_reader : Nat) (a_text_steps : Nat) (a_text_worked : Nat) (a_p1 : Nat) (a_p1_who : Nat) (crowd_people : Int32) (crowd_heights : Nat → Int32) (text_fed : Int32) (text_length : Int32) (text_top : Int32) (text_steps : Nat → Int32) (text_worked : Nat → Int32) (known : Nat → Int32) (p1_length : Int32) (p1_who : Nat → Int32) : va_W := [(a_this, cO 4 [.ref a_crowd, .ref a_text, .ref a_known]), (a_crowd, cO 1 [.ref a_crowd_heights, .int crowd_people]), (a_crowd_heights, cI G 9 crowd_heights), (a_text, cO 5 [.ref a_text_tape, .int text_fed, .ref a_text_reader, .ref a_text_steps, .int text_length, .ref a_text_worked, .int text_top]), (a_text_steps, cI G 121 text_steps), (a_text_worked, cI G 121 text_worked), (a_known, cB G 729 known), (a_p1, cO 7 [.ref a_p1_who, .int p1_length]), (a_p1_who, cI G 9 p1_who)]
def f_Judge_costOf_L15 (crowd_people : Int32) (crowd_heights : Nat → Int32) (text_length : Int32) (text_steps : Nat → Int32) (p1_length : Int32) (p1_who : Nat → Int32) (v3 : Int32) : Nat → Int32 → (Nat → Int32) → (Nat → Int32) → Int32 → Int32 → Option (Int32 × (Nat → Int32) × (Nat → Int32) × Int32)
  | 0, _, _, _, _, _ => none
  | fuel + 1, text_top, text_worked, known, v2, v4 => (if v3 ≤ v4 then (some (text_top, text_worked, known, v2)) else (zb1 (f_Line_at p1_length p1_who v4) fun r_2 => (zb1 (f_Line_at p1_length p1_who v3) fun r_4 => (zb4 (f_Judge_isCounted crowd_people crowd_heights text_length text_top text_steps text_worked known r_2 r_4 (v3 - v4)) fun r_6 text_top_7 text_worked_8 known_9 => (if r_6 = 0 then (f_Judge_costOf_L15 crowd_people crowd_heights text_length text_steps p1_length p1_who v3 fuel text_top_7 text_worked_8 known_9 v2 (v4 + 1)) else (f_Judge_costOf_L15 crowd_people crowd_heights text_length text_steps p1_length p1_who v3 fuel text_top_7 text_worked_8 known_9 (v2 + (v4 + (1 : Int32))) (v4 + 1)))))))
def f_Judge_costOf_L4 (crowd_people : Int32) (crowd_heights : Nat → Int32) (text_length : Int32) (text_steps : Nat → Int32) (p1_length : Int32) (p1_who : Nat → Int32) : Nat → Int32 → (Nat → Int32) → (Nat → Int32) → Int32 → Int32 → Option (Int32 × (Nat → Int32) × (Nat → Int32) × Int32)
  | 0, _, _, _, _, _ => none
  | fuel + 1, text_top, text_worked, known, v2, v3 => (if (f_Line_size p1_length) ≤ v3 then (some (text_top, text_worked, known, v2)) else (zb4 (f_Judge_costOf_L15 crowd_people crowd_heights text_length text_steps p1_length p1_who v3 FU text_top text_worked known v2 0) fun text_top_11 text_worked_12 known_13 v2_14 => (f_Judge_costOf_L4 crowd_people crowd_heights text_length text_steps p1_length p1_who fuel text_top_11 text_worked_12 known_13 v2_14 (v3 + 1))))
def f_Judge_costOf (crowd_people : Int32) (crowd_heights : Nat → Int32) (text_length : Int32) (text_top : Int32) (text_steps : Nat → Int32) (text_worked : Nat → Int32) (known : Nat → Int32) (p1_length : Int32) (p1_who : Nat → Int32) : Option (Int32 × Int32 × (Nat → Int32) × (Nat → Int32)) := (zb4 (f_Judge_costOf_L4 crowd_people crowd_heights text_length text_steps p1_length p1_who FU text_top text_worked known 0 1) fun text_top_15 text_worked_16 known_17 v2_18 => (some (v2_18, text_top_15, text_worked_16, known_17)))
set_option maxRecDepth 100000 in
set_option maxHeartbeats 4000000 in
theorem l_Judge_costOf_15 {X : zX} (G : zG) (a_this : Nat) (a_crowd : Nat) (a_text : Nat) (a_known : Nat) (a_crowd_heights : Nat) (a_text_tape : Nat) (a_text_reader : Nat) (a_text_steps : Nat) (a_text_worked : Nat) (a_p1 : Nat) (a_p1_who : Nat) (crowd_people : Int32) (crowd_heights : Nat → Int32) (text_fed : Int32) (text_length : Int32) (text_steps : Nat → Int32) (p1_length : Int32) (p1_who : Nat → Int32) (v3 : Int32) {v0 : Option Value} {w0 : va_W} (F : zF X G cX4_costOf RX4 5 (some .int) 3 79 v0 w0) (e_text_top : Int32) (e_text_worked : Nat → Int32) (e_known : Nat → Int32) (e_v2 : Int32) (hk : Z X G 5 (w_Judge_costOf G a_this a_crowd a_text a_known a_crowd_heights a_text_tape a_text_reader a_text_steps a_text_worked a_p1 a_p1_who crowd_people crowd_heights text_fed text_length e_text_top text_steps e_text_worked e_known p1_length p1_who) [(0, .ref a_this), (1, .ref a_p1), (2, .int e_v2), (3, .int v3)] 56 []) :
    ∀ (fuel : Nat) (text_top : Int32) (text_worked : Nat → Int32) (known : Nat → Int32) (v2 : Int32) (v4 : Int32), f_Judge_costOf_L15 crowd_people crowd_heights text_length text_steps p1_length p1_who v3 fuel text_top text_worked known v2 v4 = some (e_text_top, e_text_worked, e_known, e_v2) → Z X G 5 (w_Judge_costOf G a_this a_crowd a_text a_known a_crowd_heights a_text_tape a_text_reader a_text_steps a_text_worked a_p1 a_p1_who crowd_people crowd_heights text_fed text_length text_top text_steps text_worked known p1_length p1_who) [(0, .ref a_this), (1, .ref a_p1), (2, .int v2), (3, .int v3), (4, .int v4)] 15 [] := by
  intro fuel
  induction fuel with
  | zero => intro text_top text_worked known v2 v4 hf; exact absurd ((f_Judge_costOf_L15.eq_1 ..).symm.trans hf) (fun h => by cases h)
  | succ fuel ih =>
    intro text_top text_worked known v2 v4 hf
    replace hf := (f_Judge_costOf_L15.eq_2 ..).symm.trans hf
    refine z_iload F 4 dX4_costOf_15 rfl ?_
    refine z_iload_n F 3 dX4_costOf_17 rfl rfl ?_
    refine z_icmp_ge F 56 dX4_costOf_18 (by decide) hf (fun hf _ => ?_) (fun hf _ => ?_)
    · have eq1 := Option.some.inj hf
      obtain ⟨ee1, eq2⟩ := Prod.mk.inj eq1
      obtain ⟨ee2, eq3⟩ := Prod.mk.inj eq2
      obtain ⟨ee3, ee4⟩ := Prod.mk.inj eq3
      subst ee1
      subst ee2
      subst ee3
      subst ee4
      exact z_sub [0, 1, 2, 3] rfl hk
    · refine z_aload_n F 0 dX4_costOf_21 rfl rfl ?_
      refine z_aload_n F 1 dX4_costOf_22 rfl rfl ?_
      refine z_iload F 4 dX4_costOf_23 rfl ?_
      obtain ⟨r_2, hg, hf⟩ := zb1_some hf
      refine z_callVm (rest := [.ref a_this]) F 7 (c_Line_at (xL X) G a_p1 a_p1_who p1_length p1_who v4 r_2 hg) hy_X7_at ml_X4_49 hd_X7_at ⟨by omega, by omega⟩ rfl [7, 8] rfl rfl 7 rfl rfl (w_Judge_costOf G a_this a_crowd a_text a_known a_crowd_heights a_text_tape a_text_reader a_text_steps a_text_worked a_p1 a_p1_who crowd_people crowd_heights text_fed text_length text_top text_steps text_worked known p1_length p1_who) [none, none, none, none, none, none, none, some 0, some 1] rfl (by decide +kernel) rfl rfl (Nat.le_of_ble_eq_true rfl) dX4_costOf_25 (fun hz_3 => ?_)
      refine z_aload_n F 1 dX4_costOf_28 rfl rfl ?_
      refine z_iload_n F 3 dX4_costOf_29 rfl rfl ?_
      obtain ⟨r_4, hg, hf⟩ := zb1_some hf
      refine z_callVm (rest := [.int r_2, .ref a_this]) F 7 (c_Line_at (xL X) G a_p1 a_p1_who p1_length p1_who v3 r_4 hg) hy_X7_at ml_X4_49 hd_X7_at ⟨by omega, by omega⟩ rfl [7, 8] rfl rfl 7 rfl rfl (w_Judge_costOf G a_this a_crowd a_text a_known a_crowd_heights a_text_tape a_text_reader a_text_steps a_text_worked a_p1 a_p1_who crowd_people crowd_heights text_fed text_length text_top text_steps text_worked known p1_length p1_who) [none, none, none, none, none, none, none, some 0, some 1] rfl (by decide +kernel) rfl rfl (Nat.le_of_ble_eq_true rfl) dX4_costOf_30 (fun hz_5 => ?_)
      refine z_iload_n F 3 dX4_costOf_33 rfl rfl ?_
      refine z_iload F 4 dX4_costOf_34 rfl ?_
      refine z_isub F dX4_costOf_36 ?_
      obtain ⟨r_6, text_top_7, text_worked_8, known_9, hg, hf⟩ := zb4_some hf
      refine z_callVm (rest := []) F 4 (c_Judge_isCounted (xL X) G a_this a_crowd a_text a_known a_crowd_heights a_text_tape a_text_reader a_text_steps a_text_worked crowd_people crowd_heights text_fed text_length text_top text_steps text_worked known r_2 r_4 (v3 - v4) r_6 text_top_7 text_worked_8 known_9 hg) hy_X4_isCounted ml_X4_54 hd_X4_isCounted ⟨by omega, by omega⟩ rfl [0, 1, 2, 3, 4, 5, 6] rfl rfl 0 rfl rfl (w_Judge_costOf G a_this a_crowd a_text a_known a_crowd_heights a_text_tape a_text_reader a_text_steps a_text_worked a_p1 a_p1_who crowd_people crowd_heights text_fed text_length text_top_7 text_steps text_worked_8 known_9 p1_length p1_who) [some 0, some 1, some 2, some 3, some 4, some 5, some 6, none, none] rfl (by decide +kernel) rfl rfl (Nat.le_of_ble_eq_true rfl) dX4_costOf_37 (fun hz_10 => ?_)
      refine z_if_eq F 50 dX4_costOf_40 (by decide) hf (fun hf _ => ?_) (fun hf _ => ?_)
      · refine z_iinc F [(4, .int (v4 + 1)), (0, .ref a_this), (1, .ref a_p1), (2, .int v2), (3, .int v3)] dX4_costOf_50 4 rfl rfl (by decide) rfl ?_
        refine z_goto F 15 dX4_costOf_53 (by decide) ?_
        exact z_sub [1, 2, 3, 4, 0] rfl (ih text_top_7 text_worked_8 known_9 v2 (v4 + 1) hf)
      · refine z_iload_n F 2 dX4_costOf_43 rfl rfl ?_
        refine z_iload F 4 dX4_costOf_44 rfl ?_
        refine z_iconst F (1) dX4_costOf_46 rfl ?_
        refine z_iadd F dX4_costOf_47 ?_
        refine z_iadd F dX4_costOf_48 ?_
        refine z_istore_n F [(2, .int (v2 + (v4 + (1 : Int32)))), (0, .ref a_this), (1, .ref a_p1), (3, .int v3), (4, .int v4)] dX4_costOf_49 rfl (by decide) rfl ?_
        refine z_iinc F [(4, .int (v4 + 1)), (2, .int (v2 + (v4 + (1 : Int32)))), (0, .ref a_this), (1, .ref a_p1), (3, .int v3)] dX4_costOf_50 4 rfl rfl (by decide) rfl ?_
        refine z_goto F 15 dX4_costOf_53 (by decide) ?_
        exact z_sub [2, 3, 1, 4, 0] rfl (ih text_top_7 text_worked_8 known_9 (v2 + (v4 + (1 : Int32))) (v4 + 1) hf)

set_option maxRecDepth 100000 in
set_option maxHeartbeats 4000000 in
theorem l_Judge_costOf_4 {X : zX} (G : zG) (a_this : Nat) (a_crowd : Nat) (a_text : Nat) (a_known : Nat) (a_crowd_heights : Nat) (a_text_tape : Nat) (a_text_reader : Nat) (a_text_steps : Nat) (a_text_worked : Nat) (a_p1 : Nat) (a_p1_who : Nat) (crowd_people : Int32) (crowd_heights : Nat → Int32) (text_fed : Int32) (text_length : Int32) (text_steps : Nat → Int32) (p1_length : Int32) (p1_who : Nat → Int32) {v0 : Option Value} {w0 : va_W} (F : zF X G cX4_costOf RX4 5 (some .int) 3 79 v0 w0) (e_text_top : Int32) (e_text_worked : Nat → Int32) (e_known : Nat → Int32) (e_v2 : Int32) (hk : Z X G 5 (w_Judge_costOf G a_this a_crowd a_text a_known a_crowd_heights a_text_tape a_text_reader a_text_steps a_text_worked a_p1 a_p1_who crowd_people crowd_heights text_fed text_length e_text_top text_steps e_text_worked e_known p1_length p1_who) [(2, .int e_v2)] 62 []) :
    ∀ (fuel : Nat) (text_top : Int32) (text_worked : Nat → Int32) (known : Nat → Int32) (v2 : Int32) (v3 : Int32), f_Judge_costOf_L4 crowd_people crowd_heights text_length text_steps p1_length p1_who fuel text_top text_worked known v2 v3 = some (e_text_top, e_text_worked, e_known, e_v2) → Z X G 5 (w_Judge_costOf G a_this a_crowd a_text a_known a_crowd_heights a_text_tape a_text_reader a_text_steps a_text_worked a_p1 a_p1_who crowd_people crowd_heights text_fed text_length text_top text_steps text_worked known p1_length p1_who) [(0, .ref a_this), (1, .ref a_p1), (2, .int v2), (3, .int v3)] 4 [] := by
  intro fuel
  induction fuel with
  | zero => intro text_top text_worked known v2 v3 hf; exact absurd ((f_Judge_costOf_L4.eq_1 ..).symm.trans hf) (fun h => by cases h)
  | succ fuel ih =>
    intro text_top text_worked known v2 v3 hf
    replace hf := (f_Judge_costOf_L4.eq_2 ..).symm.trans hf
    refine z_iload_n F 3 dX4_costOf_4 rfl rfl ?_
    refine z_aload_n F 1 dX4_costOf_5 rfl rfl ?_
    refine z_callVm (rest := [.int v3]) F 7 (c_Line_size (xL X) G a_p1 a_p1_who p1_length _ rfl) hy_X7_size ml_X4_58 hd_X7_size ⟨by omega, by omega⟩ rfl [7] rfl rfl 7 rfl rfl (w_Judge_costOf G a_this a_crowd a_text a_known a_crowd_heights a_text_tape a_text_reader a_text_steps a_text_worked a_p1 a_p1_who crowd_people crowd_heights text_fed text_length text_top text_steps text_worked known p1_length p1_who) [none, none, none, none, none, none, none, some 0, none] rfl (by decide +kernel) rfl rfl (Nat.le_of_ble_eq_true rfl) dX4_costOf_6 (fun hz_1 => ?_)
    refine z_icmp_ge F 62 dX4_costOf_9 (by decide) hf (fun hf _ => ?_) (fun hf _ => ?_)
    · have eq1 := Option.some.inj hf
      obtain ⟨ee1, eq2⟩ := Prod.mk.inj eq1
      obtain ⟨ee2, eq3⟩ := Prod.mk.inj eq2
      obtain ⟨ee3, ee4⟩ := Prod.mk.inj eq3
      subst ee1
      subst ee2
      subst ee3
      subst ee4
      exact z_sub [2] rfl hk
    · refine z_iconst F (0) dX4_costOf_12 rfl ?_
      refine z_istore F [(4, .int 0), (0, .ref a_this), (1, .ref a_p1), (2, .int v2), (3, .int v3)] dX4_costOf_13 (by decide) rfl ?_
      obtain ⟨text_top_11, text_worked_12, known_13, v2_14, hg, hf⟩ := zb4_some hf
      refine z_sub [1, 2, 3, 4, 0] rfl ?_
      refine l_Judge_costOf_15 G a_this a_crowd a_text a_known a_crowd_heights a_text_tape a_text_reader a_text_steps a_text_worked a_p1 a_p1_who crowd_people crowd_heights text_fed text_length text_steps p1_length p1_who v3 F text_top_11 text_worked_12 known_13 v2_14 ?_ FU text_top text_worked known v2 0 hg
      refine z_iinc F [(3, .int (v3 + 1)), (0, .ref a_this), (1, .ref a_p1), (2, .int v2_14)] dX4_costOf_56 3 rfl rfl (by decide) rfl ?_
      refine z_goto F 4 dX4_costOf_59 (by decide) ?_
      exact z_sub [1, 2, 3, 0] rfl (ih text_top_11 text_worked_12 known_13 v2_14 (v3 + 1) hf)

set_option maxRecDepth 100000 in
set_option maxHeartbeats 4000000 in
theorem c_Judge_costOf (l : Launch) (G : zG) (a_this : Nat) (a_crowd : Nat) (a_text : Nat) (a_known : Nat) (a_crowd_heights : Nat) (a_text_tape : Nat) (a_text_reader : Nat) (a_text_steps : Nat) (a_text_worked : Nat) (a_p1 : Nat) (a_p1_who : Nat) (crowd_people : Int32) (crowd_heights : Nat → Int32) (text_fed : Int32) (text_length : Int32) (text_top : Int32) (text_steps : Nat → Int32) (text_worked : Nat → Int32) (known : Nat → Int32) (p1_length : Int32) (p1_who : Nat → Int32) (r_ : Int32) (o_text_top : Int32) (o_text_worked : Nat → Int32) (o_known : Nat → Int32) (hf : f_Judge_costOf crowd_people crowd_heights text_length text_top text_steps text_worked known p1_length p1_who = some (r_, o_text_top, o_text_worked, o_known)) : zM l yX4_costOf cX4_costOf 5 (some .int) 3 79 G [.ref a_this, .ref a_p1] (w_Judge_costOf G a_this a_crowd a_text a_known a_crowd_heights a_text_tape a_text_reader a_text_steps a_text_worked a_p1 a_p1_who crowd_people crowd_heights text_fed text_length text_top text_steps text_worked known p1_length p1_who) (some (.int r_)) (w_Judge_costOf G a_this a_crowd a_text a_known a_crowd_heights a_text_tape a_text_reader a_text_steps a_text_worked a_p1 a_p1_who crowd_people crowd_heights text_fed text_length o_text_top text_steps o_text_worked o_known p1_length p1_who) := by
  refine zM.of [(0, .ref a_this), (1, .ref a_p1)] (own := RX4) rfl (by decide +kernel) (Nat.le_of_ble_eq_true rfl) rfl rfl fun X hX F => ?_
  subst hX
  replace hf := (f_Judge_costOf.eq_1 ..).symm.trans hf
  refine z_iconst F (0) dX4_costOf_0 rfl ?_
  refine z_istore_n F [(2, .int 0), (0, .ref a_this), (1, .ref a_p1)] dX4_costOf_1 rfl (by decide) rfl ?_
  refine z_iconst F (1) dX4_costOf_2 rfl ?_
  refine z_istore_n F [(3, .int 1), (2, .int 0), (0, .ref a_this), (1, .ref a_p1)] dX4_costOf_3 rfl (by decide) rfl ?_
  obtain ⟨text_top_15, text_worked_16, known_17, v2_18, hg, hf⟩ := zb4_some hf
  refine z_sub [2, 3, 1, 0] rfl ?_
  refine l_Judge_costOf_4 G a_this a_crowd a_text a_known a_crowd_heights a_text_tape a_text_reader a_text_steps a_text_worked a_p1 a_p1_who crowd_people crowd_heights text_fed text_length text_steps p1_length p1_who F text_top_15 text_worked_16 known_17 v2_18 ?_ FU text_top text_worked known 0 1 hg
  refine z_iload_n F 0 dX4_costOf_62 rfl rfl ?_
  have eq1 := Option.some.inj hf
  obtain ⟨ee1, eq2⟩ := Prod.mk.inj eq1
  obtain ⟨ee2, eq3⟩ := Prod.mk.inj eq2
  obtain ⟨ee3, ee4⟩ := Prod.mk.inj eq3
  subst ee1
  subst ee2
  subst ee3
  subst ee4
  exact z_iret F rfl rfl rfl rfl dX4_costOf_63

abbrev w_Judge_isCalmIfTall (G : zG) (a_this : Nat) (a_crowd : Nat) (a_text : Nat) (a_known : Nat) (a_crowd_heights : Nat) (a_text_tape : Nat) (a_text_reader : Nat) (a_text_steps : Nat) (a_text_worked : Nat) (a_p1 : Nat) (a_p1_who : Nat) (crowd_people : Int32) (crowd_heights : Nat → Int32) (text_fed : Int32) (text_length : Int32) (text_top : Int32) (text_steps : Nat → Int32) (text_worked : Nat → Int32) (p1_length : Int32) (p1_who : Nat → Int32) : va_W := [(a_this, cO 4 [.ref a_crowd, .ref a_text, .ref a_known]), (a_crowd, cO 1 [.ref a_crowd_heights, .int crowd_people]), (a_crowd_heights, cI G 9 crowd_heights), (a_text, cO 5 [.ref a_text_tape, .int text_fed, .ref a_text_reader, .ref a_text_steps, .int text_length, .ref a_text_worked, .int text_top]), (a_text_steps, cI G 121 text_steps), (a_text_worked, cI G 121 text_worked), (a_p1, cO 7 [.ref a_p1_who, .int p1_length]), (a_p1_who, cI G 9 p1_who)]
def f_Judge_isCalmIfTall_L10 (crowd_people : Int32) (crowd_heights : Nat → Int32) (text_length : Int32) (text_steps : Nat → Int32) (p1_length : Int32) (p1_who : Nat → Int32) (v2 : Int32) (v3 : Int32) (v4 : Int32) : Nat → Int32 → (Nat → Int32) → Int32 → Option (((Int32 × (Nat → Int32)) ⊕ (Int32 × Int32 × (Nat → Int32))))
  | 0, _, _, _ => none
  | fuel + 1, text_top, text_worked, v5 => (if v2 ≤ v5 then (some (.inl (text_top, text_worked))) else (zb1 (f_Line_at p1_length p1_who v5) fun r_3 => (zb1 (f_Crowd_heightOf crowd_people crowd_heights r_3) fun r_5 => (if (f_Law_isTold text_length) = 0 then (if r_5 ≤ v3 then (f_Judge_isCalmIfTall_L10 crowd_people crowd_heights text_length text_steps p1_length p1_who v2 v3 v4 fuel text_top text_worked (v5 + 1)) else (some (.inr (0, text_top, text_worked)))) else (zb3 (f_Law_worth text_length text_top text_steps text_worked r_5 v3 (v2 - v5) r_3 v4) fun r_8 text_top_9 text_worked_10 => (if r_8 = 0 then (f_Judge_isCalmIfTall_L10 crowd_people crowd_heights text_length text_steps p1_length p1_who v2 v3 v4 fuel text_top_9 text_worked_10 (v5 + 1)) else (some (.inr (0, text_top_9, text_worked_10)))))))))
def f_Judge_isCalmIfTall (crowd_people : Int32) (crowd_heights : Nat → Int32) (text_length : Int32) (text_top : Int32) (text_steps : Nat → Int32) (text_worked : Nat → Int32) (p1_length : Int32) (p1_who : Nat → Int32) (x2 : Int32) (x3 : Int32) : Option (Int32 × Int32 × (Nat → Int32)) := (zb1 (f_Line_at p1_length p1_who x2) fun r_1 => (zbs2 (f_Judge_isCalmIfTall_L10 crowd_people crowd_heights text_length text_steps p1_length p1_who x2 x3 r_1 FU text_top text_worked 0) (fun text_top_12 text_worked_13 => (some (1, text_top_12, text_worked_13))) some))
set_option maxRecDepth 100000 in
set_option maxHeartbeats 4000000 in
theorem l_Judge_isCalmIfTall_10 {X : zX} (G : zG) (a_this : Nat) (a_crowd : Nat) (a_text : Nat) (a_known : Nat) (a_crowd_heights : Nat) (a_text_tape : Nat) (a_text_reader : Nat) (a_text_steps : Nat) (a_text_worked : Nat) (a_p1 : Nat) (a_p1_who : Nat) (crowd_people : Int32) (crowd_heights : Nat → Int32) (text_fed : Int32) (text_length : Int32) (text_steps : Nat → Int32) (p1_length : Int32) (p1_who : Nat → Int32) (v2 : Int32) (v3 : Int32) (v4 : Int32) {v0 : Option Value} {w0 : va_W} (F : zF X G cX4_isCalmIfTall RX4 8 (some .boolean) 2 54 v0 w0) (out : ((Int32 × (Nat → Int32)) ⊕ (Int32 × Int32 × (Nat → Int32)))) (hk : ∀ (e_text_top : Int32) (e_text_worked : Nat → Int32), out = .inl (e_text_top, e_text_worked) → Z X G 8 (w_Judge_isCalmIfTall G a_this a_crowd a_text a_known a_crowd_heights a_text_tape a_text_reader a_text_steps a_text_worked a_p1 a_p1_who crowd_people crowd_heights text_fed text_length e_text_top text_steps e_text_worked p1_length p1_who) [] 83 []) (hr : ∀ q : Int32 × Int32 × (Nat → Int32), out = .inr q → v0 = some (.int q.1) ∧ w0 = (w_Judge_isCalmIfTall G a_this a_crowd a_text a_known a_crowd_heights a_text_tape a_text_reader a_text_steps a_text_worked a_p1 a_p1_who crowd_people crowd_heights text_fed text_length (q.2.1) text_steps (q.2.2) p1_length p1_who)) :
    ∀ (fuel : Nat) (text_top : Int32) (text_worked : Nat → Int32) (v5 : Int32), f_Judge_isCalmIfTall_L10 crowd_people crowd_heights text_length text_steps p1_length p1_who v2 v3 v4 fuel text_top text_worked v5 = some out → Z X G 8 (w_Judge_isCalmIfTall G a_this a_crowd a_text a_known a_crowd_heights a_text_tape a_text_reader a_text_steps a_text_worked a_p1 a_p1_who crowd_people crowd_heights text_fed text_length text_top text_steps text_worked p1_length p1_who) [(0, .ref a_this), (1, .ref a_p1), (2, .int v2), (3, .int v3), (4, .int v4), (5, .int v5)] 10 [] := by
  intro fuel
  induction fuel with
  | zero => intro text_top text_worked v5 hf; exact absurd ((f_Judge_isCalmIfTall_L10.eq_1 ..).symm.trans hf) (fun h => by cases h)
  | succ fuel ih =>
    intro text_top text_worked v5 hf
    replace hf := (f_Judge_isCalmIfTall_L10.eq_2 ..).symm.trans hf
    refine z_iload F 5 dX4_isCalmIfTall_10 rfl ?_
    refine z_iload_n F 2 dX4_isCalmIfTall_12 rfl rfl ?_
    refine z_icmp_ge F 83 dX4_isCalmIfTall_13 (by decide) hf (fun hf _ => ?_) (fun hf _ => ?_)
    · exact z_sub [] rfl (hk _ _ (Option.some.inj hf).symm)
    · refine z_aload_n F 1 dX4_isCalmIfTall_16 rfl rfl ?_
      refine z_iload F 5 dX4_isCalmIfTall_17 rfl ?_
      obtain ⟨r_3, hg, hf⟩ := zb1_some hf
      refine z_callVm (rest := []) F 7 (c_Line_at (xL X) G a_p1 a_p1_who p1_length p1_who v5 r_3 hg) hy_X7_at ml_X4_49 hd_X7_at ⟨by omega, by omega⟩ rfl [6, 7] rfl rfl 6 rfl rfl (w_Judge_isCalmIfTall G a_this a_crowd a_text a_known a_crowd_heights a_text_tape a_text_reader a_text_steps a_text_worked a_p1 a_p1_who crowd_people crowd_heights text_fed text_length text_top text_steps text_worked p1_length p1_who) [none, none, none, none, none, none, some 0, some 1] rfl (by decide +kernel) rfl rfl (Nat.le_of_ble_eq_true rfl) dX4_isCalmIfTall_19 (fun hz_4 => ?_)
      refine z_istore F [(6, .int r_3), (0, .ref a_this), (1, .ref a_p1), (2, .int v2), (3, .int v3), (4, .int v4), (5, .int v5)] dX4_isCalmIfTall_22 (by decide) rfl ?_
      refine z_aload_n F 1 dX4_isCalmIfTall_24 rfl rfl ?_
      refine z_get F 0 4 0 inlX4 rfl rfl (by decide) fl_X4_9 rfl dX4_isCalmIfTall_25 ?_
      refine z_iload F 0 dX4_isCalmIfTall_28 rfl ?_
      obtain ⟨r_5, hg, hf⟩ := zb1_some hf
      refine z_callVm (rest := []) F 1 (c_Crowd_heightOf (xL X) G a_crowd a_crowd_heights crowd_people crowd_heights r_3 r_5 hg) hy_X1_heightOf ml_X4_41 hd_X1_heightOf ⟨by omega, by omega⟩ rfl [1, 2] rfl rfl 1 rfl rfl (w_Judge_isCalmIfTall G a_this a_crowd a_text a_known a_crowd_heights a_text_tape a_text_reader a_text_steps a_text_worked a_p1 a_p1_who crowd_people crowd_heights text_fed text_length text_top text_steps text_worked p1_length p1_who) [none, some 0, some 1, none, none, none, none, none] rfl (by decide +kernel) rfl rfl (Nat.le_of_ble_eq_true rfl) dX4_isCalmIfTall_30 (fun hz_6 => ?_)
      refine z_istore F [(7, .int r_5), (6, .int r_3), (0, .ref a_this), (1, .ref a_p1), (2, .int v2), (3, .int v3), (4, .int v4), (5, .int v5)] dX4_isCalmIfTall_33 (by decide) rfl ?_
      refine z_aload_n F 2 dX4_isCalmIfTall_35 rfl rfl ?_
      refine z_get F 0 4 1 inlX4 rfl rfl (by decide) fl_X4_15 rfl dX4_isCalmIfTall_36 ?_
      refine z_callVm (rest := []) F 5 (c_Law_isTold (xL X) G a_text a_text_tape a_text_reader a_text_steps a_text_worked text_fed text_length text_top _ rfl) hy_X5_isTold ml_X4_29 hd_X5_isTold ⟨by omega, by omega⟩ rfl [3] rfl rfl 3 rfl rfl (w_Judge_isCalmIfTall G a_this a_crowd a_text a_known a_crowd_heights a_text_tape a_text_reader a_text_steps a_text_worked a_p1 a_p1_who crowd_people crowd_heights text_fed text_length text_top text_steps text_worked p1_length p1_who) [none, none, none, some 0, none, none, none, none] rfl (by decide +kernel) rfl rfl (Nat.le_of_ble_eq_true rfl) dX4_isCalmIfTall_39 (fun hz_7 => ?_)
      refine z_if_eq F 69 dX4_isCalmIfTall_42 (by decide) hf (fun hf _ => ?_) (fun hf _ => ?_)
      · refine z_iload F 0 dX4_isCalmIfTall_69 rfl ?_
        refine z_iload_n F 5 dX4_isCalmIfTall_71 rfl rfl ?_
        refine z_icmp_le F 77 dX4_isCalmIfTall_72 (by decide) hf (fun hf _ => ?_) (fun hf _ => ?_)
        · refine z_iinc F [(5, .int (v5 + 1)), (7, .int r_5), (6, .int r_3), (0, .ref a_this), (1, .ref a_p1), (2, .int v2), (3, .int v3), (4, .int v4)] dX4_isCalmIfTall_77 7 rfl rfl (by decide) rfl ?_
          refine z_goto F 10 dX4_isCalmIfTall_80 (by decide) ?_
          exact z_sub [3, 4, 5, 6, 7, 0] rfl (ih text_top text_worked (v5 + 1) hf)
        · refine z_iconst F (0) dX4_isCalmIfTall_75 rfl ?_
          obtain ⟨e1, e2⟩ := hr _ (Option.some.inj hf).symm
          exact z_iret F rfl rfl e1.symm e2.symm dX4_isCalmIfTall_76
      · refine z_aload_n F 2 dX4_isCalmIfTall_45 rfl rfl ?_
        refine z_get F 0 4 1 inlX4 rfl rfl (by decide) fl_X4_15 rfl dX4_isCalmIfTall_46 ?_
        refine z_iload F 0 dX4_isCalmIfTall_49 rfl ?_
        refine z_iload_n F 5 dX4_isCalmIfTall_51 rfl rfl ?_
        refine z_iload_n F 4 dX4_isCalmIfTall_52 rfl rfl ?_
        refine z_iload F 7 dX4_isCalmIfTall_53 rfl ?_
        refine z_isub F dX4_isCalmIfTall_55 ?_
        refine z_iload F 1 dX4_isCalmIfTall_56 rfl ?_
        refine z_iload F 6 dX4_isCalmIfTall_58 rfl ?_
        obtain ⟨r_8, text_top_9, text_worked_10, hg, hf⟩ := zb3_some hf
        refine z_callVm (rest := []) F 5 (c_Law_worth (xL X) G a_text a_text_tape a_text_reader a_text_steps a_text_worked text_fed text_length text_top text_steps text_worked r_5 v3 (v2 - v5) r_3 v4 r_8 text_top_9 text_worked_10 hg) hy_X5_worth ml_X4_45 hd_X5_worth ⟨by omega, by omega⟩ rfl [3, 4, 5] rfl rfl 3 rfl rfl (w_Judge_isCalmIfTall G a_this a_crowd a_text a_known a_crowd_heights a_text_tape a_text_reader a_text_steps a_text_worked a_p1 a_p1_who crowd_people crowd_heights text_fed text_length text_top_9 text_steps text_worked_10 p1_length p1_who) [none, none, none, some 0, some 1, some 2, none, none] rfl (by decide +kernel) rfl rfl (Nat.le_of_ble_eq_true rfl) dX4_isCalmIfTall_60 (fun hz_11 => ?_)
        refine z_if_eq F 77 dX4_isCalmIfTall_63 (by decide) hf (fun hf _ => ?_) (fun hf _ => ?_)
        · refine z_iinc F [(5, .int (v5 + 1)), (7, .int r_5), (6, .int r_3), (0, .ref a_this), (1, .ref a_p1), (2, .int v2), (3, .int v3), (4, .int v4)] dX4_isCalmIfTall_77 7 rfl rfl (by decide) rfl ?_
          refine z_goto F 10 dX4_isCalmIfTall_80 (by decide) ?_
          exact z_sub [3, 4, 5, 6, 7, 0] rfl (ih text_top_9 text_worked_10 (v5 + 1) hf)
        · refine z_goto F 75 dX4_isCalmIfTall_66 (by decide) ?_
          refine z_iconst F (0) dX4_isCalmIfTall_75 rfl ?_
          obtain ⟨e1, e2⟩ := hr _ (Option.some.inj hf).symm
          exact z_iret F rfl rfl e1.symm e2.symm dX4_isCalmIfTall_76

set_option maxRecDepth 100000 in
set_option maxHeartbeats 4000000 in
theorem c_Judge_isCalmIfTall (l : Launch) (G : zG) (a_this : Nat) (a_crowd : Nat) (a_text : Nat) (a_known : Nat) (a_crowd_heights : Nat) (a_text_tape : Nat) (a_text_reader : Nat) (a_text_steps : Nat) (a_text_worked : Nat) (a_p1 : Nat) (a_p1_who : Nat) (crowd_people : Int32) (crowd_heights : Nat → Int32) (text_fed : Int32) (text_length : Int32) (text_top : Int32) (text_steps : Nat → Int32) (text_worked : Nat → Int32) (p1_length : Int32) (p1_who : Nat → Int32) (x2 : Int32) (x3 : Int32) (r_ : Int32) (o_text_top : Int32) (o_text_worked : Nat → Int32) (hf : f_Judge_isCalmIfTall crowd_people crowd_heights text_length text_top text_steps text_worked p1_length p1_who x2 x3 = some (r_, o_text_top, o_text_worked)) : zM l yX4_isCalmIfTall cX4_isCalmIfTall 8 (some .boolean) 2 54 G [.ref a_this, .ref a_p1, .int x2, .int x3] (w_Judge_isCalmIfTall G a_this a_crowd a_text a_known a_crowd_heights a_text_tape a_text_reader a_text_steps a_text_worked a_p1 a_p1_who crowd_people crowd_heights text_fed text_length text_top text_steps text_worked p1_length p1_who) (some (.int r_)) (w_Judge_isCalmIfTall G a_this a_crowd a_text a_known a_crowd_heights a_text_tape a_text_reader a_text_steps a_text_worked a_p1 a_p1_who crowd_people crowd_heights text_fed text_length o_text_top text_steps o_text_worked p1_length p1_who) := by
  refine zM.of [(0, .ref a_this), (1, .ref a_p1), (2, .int x2), (3, .int x3)] (own := RX4) rfl (by decide +kernel) (Nat.le_of_ble_eq_true rfl) rfl rfl fun X hX F => ?_
  subst hX
  replace hf := (f_Judge_isCalmIfTall.eq_1 ..).symm.trans hf
  refine z_aload_n F 1 dX4_isCalmIfTall_0 rfl rfl ?_
  refine z_iload_n F 2 dX4_isCalmIfTall_1 rfl rfl ?_
  obtain ⟨r_1, hg, hf⟩ := zb1_some hf
  refine z_callVm (rest := []) F 7 (c_Line_at (xL X) G a_p1 a_p1_who p1_length p1_who x2 r_1 hg) hy_X7_at ml_X4_49 hd_X7_at ⟨by omega, by omega⟩ rfl [6, 7] rfl rfl 6 rfl rfl (w_Judge_isCalmIfTall G a_this a_crowd a_text a_known a_crowd_heights a_text_tape a_text_reader a_text_steps a_text_worked a_p1 a_p1_who crowd_people crowd_heights text_fed text_length text_top text_steps text_worked p1_length p1_who) [none, none, none, none, none, none, some 0, some 1] rfl (by decide +kernel) rfl rfl (Nat.le_of_ble_eq_true rfl) dX4_isCalmIfTall_2 (fun hz_2 => ?_)
  refine z_istore F [(4, .int r_1), (0, .ref a_this), (1, .ref a_p1), (2, .int x2), (3, .int x3)] dX4_isCalmIfTall_5 (by decide) rfl ?_
  refine z_iconst F (0) dX4_isCalmIfTall_7 rfl ?_
  refine z_istore F [(5, .int 0), (4, .int r_1), (0, .ref a_this), (1, .ref a_p1), (2, .int x2), (3, .int x3)] dX4_isCalmIfTall_8 (by decide) rfl ?_
  obtain ⟨z_14, hg, hf1_15, hf2_16⟩ := zbs2_some hf
  refine z_sub [2, 3, 4, 5, 1, 0] rfl ?_
  refine l_Judge_isCalmIfTall_10 G a_this a_crowd a_text a_known a_crowd_heights a_text_tape a_text_reader a_text_steps a_text_worked a_p1 a_p1_who crowd_people crowd_heights text_fed text_length text_steps p1_length p1_who x2 x3 r_1 F z_14 (fun text_top_12 text_worked_13 e => ?_) (fun q e => ?_) FU text_top text_worked 0 hg
  · have hf := hf1_15 _ _ e
    refine z_iconst F (1) dX4_isCalmIfTall_83 rfl ?_
    have eq1 := Option.some.inj hf
    obtain ⟨ee1, eq2⟩ := Prod.mk.inj eq1
    obtain ⟨ee2, ee3⟩ := Prod.mk.inj eq2
    subst ee1
    subst ee2
    subst ee3
    exact z_iret F rfl rfl rfl rfl dX4_isCalmIfTall_84
  · have hf := hf2_16 _ e
    cases hf
    exact ⟨rfl, rfl⟩

