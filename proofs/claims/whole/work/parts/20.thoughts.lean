/-! by program (wip/whole/gen.py): pure functions and contracts -/
theorem dX10_calmest_0 : decode cX10_calmest 0 = .ok (.aload_n 0, 1) := by decide +kernel
theorem dX10_calmest_1 : decode cX10_calmest 1 = .ok (.getfield 22, 3) := by decide +kernel
theorem dX10_calmest_4 : decode cX10_calmest 4 = .ok (.aload_n 1, 1) := by decide +kernel
theorem dX10_calmest_5 : decode cX10_calmest 5 = .ok (.invokevirtual 36, 3) := by decide +kernel
theorem dX10_calmest_8 : decode cX10_calmest 8 = .ok (.aload_n 0, 1) := by decide +kernel
theorem dX10_calmest_9 : decode cX10_calmest 9 = .ok (.getfield 15, 3) := by decide +kernel
theorem dX10_calmest_12 : decode cX10_calmest 12 = .ok (.aload_n 1, 1) := by decide +kernel
theorem dX10_calmest_13 : decode cX10_calmest 13 = .ok (.invokevirtual 40, 3) := by decide +kernel
theorem dX10_calmest_16 : decode cX10_calmest 16 = .ok (.istore_n 3, 1) := by decide +kernel
theorem dX10_calmest_17 : decode cX10_calmest 17 = .ok (.bipush (-2), 2) := by decide +kernel
theorem dX10_calmest_19 : decode cX10_calmest 19 = .ok (.istore 4, 2) := by decide +kernel
theorem dX10_calmest_21 : decode cX10_calmest 21 = .ok (.iconst 0, 1) := by decide +kernel
theorem dX10_calmest_22 : decode cX10_calmest 22 = .ok (.istore 5, 2) := by decide +kernel
theorem dX10_calmest_24 : decode cX10_calmest 24 = .ok (.iload 5, 2) := by decide +kernel
theorem dX10_calmest_26 : decode cX10_calmest 26 = .ok (.aload_n 0, 1) := by decide +kernel
theorem dX10_calmest_27 : decode cX10_calmest 27 = .ok (.getfield 22, 3) := by decide +kernel
theorem dX10_calmest_30 : decode cX10_calmest 30 = .ok (.invokevirtual 46, 3) := by decide +kernel
theorem dX10_calmest_33 : decode cX10_calmest 33 = .ok (.if_icmp .ge 87, 3) := by decide +kernel
theorem dX10_calmest_36 : decode cX10_calmest 36 = .ok (.iload 5, 2) := by decide +kernel
theorem dX10_calmest_38 : decode cX10_calmest 38 = .ok (.iconst 1, 1) := by decide +kernel
theorem dX10_calmest_39 : decode cX10_calmest 39 = .ok (.iadd, 1) := by decide +kernel
theorem dX10_calmest_40 : decode cX10_calmest 40 = .ok (.istore 6, 2) := by decide +kernel
theorem dX10_calmest_42 : decode cX10_calmest 42 = .ok (.iload 6, 2) := by decide +kernel
theorem dX10_calmest_44 : decode cX10_calmest 44 = .ok (.aload_n 0, 1) := by decide +kernel
theorem dX10_calmest_45 : decode cX10_calmest 45 = .ok (.getfield 22, 3) := by decide +kernel
theorem dX10_calmest_48 : decode cX10_calmest 48 = .ok (.invokevirtual 46, 3) := by decide +kernel
theorem dX10_calmest_51 : decode cX10_calmest 51 = .ok (.if_icmp .ge 63, 3) := by decide +kernel
theorem dX10_calmest_54 : decode cX10_calmest 54 = .ok (.aload_n 0, 1) := by decide +kernel
theorem dX10_calmest_55 : decode cX10_calmest 55 = .ok (.getfield 22, 3) := by decide +kernel
theorem dX10_calmest_58 : decode cX10_calmest 58 = .ok (.iload 5, 2) := by decide +kernel
theorem dX10_calmest_60 : decode cX10_calmest 60 = .ok (.iload 6, 2) := by decide +kernel
theorem dX10_calmest_62 : decode cX10_calmest 62 = .ok (.invokevirtual 50, 3) := by decide +kernel
theorem dX10_calmest_65 : decode cX10_calmest 65 = .ok (.aload_n 0, 1) := by decide +kernel
theorem dX10_calmest_66 : decode cX10_calmest 66 = .ok (.getfield 15, 3) := by decide +kernel
theorem dX10_calmest_69 : decode cX10_calmest 69 = .ok (.aload_n 0, 1) := by decide +kernel
theorem dX10_calmest_70 : decode cX10_calmest 70 = .ok (.getfield 22, 3) := by decide +kernel
theorem dX10_calmest_73 : decode cX10_calmest 73 = .ok (.invokevirtual 40, 3) := by decide +kernel
theorem dX10_calmest_76 : decode cX10_calmest 76 = .ok (.istore 7, 2) := by decide +kernel
theorem dX10_calmest_78 : decode cX10_calmest 78 = .ok (.aload_n 0, 1) := by decide +kernel
theorem dX10_calmest_79 : decode cX10_calmest 79 = .ok (.getfield 22, 3) := by decide +kernel
theorem dX10_calmest_82 : decode cX10_calmest 82 = .ok (.iload 5, 2) := by decide +kernel
theorem dX10_calmest_84 : decode cX10_calmest 84 = .ok (.iload 6, 2) := by decide +kernel
theorem dX10_calmest_86 : decode cX10_calmest 86 = .ok (.invokevirtual 50, 3) := by decide +kernel
theorem dX10_calmest_89 : decode cX10_calmest 89 = .ok (.iload 7, 2) := by decide +kernel
theorem dX10_calmest_91 : decode cX10_calmest 91 = .ok (.iload_n 3, 1) := by decide +kernel
theorem dX10_calmest_92 : decode cX10_calmest 92 = .ok (.if_icmp .ge 16, 3) := by decide +kernel
theorem dX10_calmest_95 : decode cX10_calmest 95 = .ok (.iload 7, 2) := by decide +kernel
theorem dX10_calmest_97 : decode cX10_calmest 97 = .ok (.istore_n 3, 1) := by decide +kernel
theorem dX10_calmest_98 : decode cX10_calmest 98 = .ok (.bipush 10, 2) := by decide +kernel
theorem dX10_calmest_100 : decode cX10_calmest 100 = .ok (.iload 5, 2) := by decide +kernel
theorem dX10_calmest_102 : decode cX10_calmest 102 = .ok (.imul, 1) := by decide +kernel
theorem dX10_calmest_103 : decode cX10_calmest 103 = .ok (.iload 6, 2) := by decide +kernel
theorem dX10_calmest_105 : decode cX10_calmest 105 = .ok (.iadd, 1) := by decide +kernel
theorem dX10_calmest_106 : decode cX10_calmest 106 = .ok (.istore 4, 2) := by decide +kernel
theorem dX10_calmest_108 : decode cX10_calmest 108 = .ok (.iinc 6 1, 3) := by decide +kernel
theorem dX10_calmest_111 : decode cX10_calmest 111 = .ok (.goto (-69), 3) := by decide +kernel
theorem dX10_calmest_114 : decode cX10_calmest 114 = .ok (.iinc 5 1, 3) := by decide +kernel
theorem dX10_calmest_117 : decode cX10_calmest 117 = .ok (.goto (-93), 3) := by decide +kernel
theorem dX10_calmest_120 : decode cX10_calmest 120 = .ok (.iload 4, 2) := by decide +kernel
theorem dX10_calmest_122 : decode cX10_calmest 122 = .ok (.bipush (-2), 2) := by decide +kernel
theorem dX10_calmest_124 : decode cX10_calmest 124 = .ok (.if_icmp .eq 7, 3) := by decide +kernel
theorem dX10_calmest_127 : decode cX10_calmest 127 = .ok (.iload_n 2, 1) := by decide +kernel
theorem dX10_calmest_128 : decode cX10_calmest 128 = .ok (.ifCond .eq 8, 3) := by decide +kernel
theorem dX10_calmest_131 : decode cX10_calmest 131 = .ok (.iload 4, 2) := by decide +kernel
theorem dX10_calmest_133 : decode cX10_calmest 133 = .ok (.goto 4, 3) := by decide +kernel
theorem dX10_calmest_136 : decode cX10_calmest 136 = .ok (.iload_n 3, 1) := by decide +kernel
theorem dX10_calmest_137 : decode cX10_calmest 137 = .ok (.ireturn, 1) := by decide +kernel
theorem dX10_bestEntry_0 : decode cX10_bestEntry 0 = .ok (.iconst 0, 1) := by decide +kernel
theorem dX10_bestEntry_1 : decode cX10_bestEntry 1 = .ok (.istore 4, 2) := by decide +kernel
theorem dX10_bestEntry_3 : decode cX10_bestEntry 3 = .ok (.bipush (-2), 2) := by decide +kernel
theorem dX10_bestEntry_5 : decode cX10_bestEntry 5 = .ok (.istore 5, 2) := by decide +kernel
theorem dX10_bestEntry_7 : decode cX10_bestEntry 7 = .ok (.iconst 0, 1) := by decide +kernel
theorem dX10_bestEntry_8 : decode cX10_bestEntry 8 = .ok (.istore 6, 2) := by decide +kernel
theorem dX10_bestEntry_10 : decode cX10_bestEntry 10 = .ok (.iload 6, 2) := by decide +kernel
theorem dX10_bestEntry_12 : decode cX10_bestEntry 12 = .ok (.aload_n 1, 1) := by decide +kernel
theorem dX10_bestEntry_13 : decode cX10_bestEntry 13 = .ok (.invokevirtual 46, 3) := by decide +kernel
theorem dX10_bestEntry_16 : decode cX10_bestEntry 16 = .ok (.if_icmp .gt 62, 3) := by decide +kernel
theorem dX10_bestEntry_19 : decode cX10_bestEntry 19 = .ok (.aload_n 0, 1) := by decide +kernel
theorem dX10_bestEntry_20 : decode cX10_bestEntry 20 = .ok (.getfield 22, 3) := by decide +kernel
theorem dX10_bestEntry_23 : decode cX10_bestEntry 23 = .ok (.aload_n 1, 1) := by decide +kernel
theorem dX10_bestEntry_24 : decode cX10_bestEntry 24 = .ok (.invokevirtual 36, 3) := by decide +kernel
theorem dX10_bestEntry_27 : decode cX10_bestEntry 27 = .ok (.aload_n 0, 1) := by decide +kernel
theorem dX10_bestEntry_28 : decode cX10_bestEntry 28 = .ok (.getfield 22, 3) := by decide +kernel
theorem dX10_bestEntry_31 : decode cX10_bestEntry 31 = .ok (.iload_n 2, 1) := by decide +kernel
theorem dX10_bestEntry_32 : decode cX10_bestEntry 32 = .ok (.iload 6, 2) := by decide +kernel
theorem dX10_bestEntry_34 : decode cX10_bestEntry 34 = .ok (.invokevirtual 54, 3) := by decide +kernel
theorem dX10_bestEntry_37 : decode cX10_bestEntry 37 = .ok (.aload_n 0, 1) := by decide +kernel
theorem dX10_bestEntry_38 : decode cX10_bestEntry 38 = .ok (.getfield 15, 3) := by decide +kernel
theorem dX10_bestEntry_41 : decode cX10_bestEntry 41 = .ok (.aload_n 0, 1) := by decide +kernel
theorem dX10_bestEntry_42 : decode cX10_bestEntry 42 = .ok (.getfield 22, 3) := by decide +kernel
theorem dX10_bestEntry_45 : decode cX10_bestEntry 45 = .ok (.invokevirtual 40, 3) := by decide +kernel
theorem dX10_bestEntry_48 : decode cX10_bestEntry 48 = .ok (.istore 7, 2) := by decide +kernel
theorem dX10_bestEntry_50 : decode cX10_bestEntry 50 = .ok (.iload 5, 2) := by decide +kernel
theorem dX10_bestEntry_52 : decode cX10_bestEntry 52 = .ok (.bipush (-2), 2) := by decide +kernel
theorem dX10_bestEntry_54 : decode cX10_bestEntry 54 = .ok (.if_icmp .eq 10, 3) := by decide +kernel
theorem dX10_bestEntry_57 : decode cX10_bestEntry 57 = .ok (.iload 7, 2) := by decide +kernel
theorem dX10_bestEntry_59 : decode cX10_bestEntry 59 = .ok (.iload 4, 2) := by decide +kernel
theorem dX10_bestEntry_61 : decode cX10_bestEntry 61 = .ok (.if_icmp .ge 11, 3) := by decide +kernel
theorem dX10_bestEntry_64 : decode cX10_bestEntry 64 = .ok (.iload 7, 2) := by decide +kernel
theorem dX10_bestEntry_66 : decode cX10_bestEntry 66 = .ok (.istore 4, 2) := by decide +kernel
theorem dX10_bestEntry_68 : decode cX10_bestEntry 68 = .ok (.iload 6, 2) := by decide +kernel
theorem dX10_bestEntry_70 : decode cX10_bestEntry 70 = .ok (.istore 5, 2) := by decide +kernel
theorem dX10_bestEntry_72 : decode cX10_bestEntry 72 = .ok (.iinc 6 1, 3) := by decide +kernel
theorem dX10_bestEntry_75 : decode cX10_bestEntry 75 = .ok (.goto (-65), 3) := by decide +kernel
theorem dX10_bestEntry_78 : decode cX10_bestEntry 78 = .ok (.iload_n 3, 1) := by decide +kernel
theorem dX10_bestEntry_79 : decode cX10_bestEntry 79 = .ok (.ifCond .eq 8, 3) := by decide +kernel
theorem dX10_bestEntry_82 : decode cX10_bestEntry 82 = .ok (.iload 5, 2) := by decide +kernel
theorem dX10_bestEntry_84 : decode cX10_bestEntry 84 = .ok (.goto 5, 3) := by decide +kernel
theorem dX10_bestEntry_87 : decode cX10_bestEntry 87 = .ok (.iload 4, 2) := by decide +kernel
theorem dX10_bestEntry_89 : decode cX10_bestEntry 89 = .ok (.ireturn, 1) := by decide +kernel
theorem dX10_leastGrowth_0 : decode cX10_leastGrowth 0 = .ok (.aload_n 0, 1) := by decide +kernel
theorem dX10_leastGrowth_1 : decode cX10_leastGrowth 1 = .ok (.getfield 9, 3) := by decide +kernel
theorem dX10_leastGrowth_4 : decode cX10_leastGrowth 4 = .ok (.aload_n 1, 1) := by decide +kernel
theorem dX10_leastGrowth_5 : decode cX10_leastGrowth 5 = .ok (.iload_n 2, 1) := by decide +kernel
theorem dX10_leastGrowth_6 : decode cX10_leastGrowth 6 = .ok (.invokevirtual 57, 3) := by decide +kernel
theorem dX10_leastGrowth_9 : decode cX10_leastGrowth 9 = .ok (.invokevirtual 61, 3) := by decide +kernel
theorem dX10_leastGrowth_12 : decode cX10_leastGrowth 12 = .ok (.istore_n 3, 1) := by decide +kernel
theorem dX10_leastGrowth_13 : decode cX10_leastGrowth 13 = .ok (.iconst 0, 1) := by decide +kernel
theorem dX10_leastGrowth_14 : decode cX10_leastGrowth 14 = .ok (.istore 4, 2) := by decide +kernel
theorem dX10_leastGrowth_16 : decode cX10_leastGrowth 16 = .ok (.iload 4, 2) := by decide +kernel
theorem dX10_leastGrowth_18 : decode cX10_leastGrowth 18 = .ok (.bipush 60, 2) := by decide +kernel
theorem dX10_leastGrowth_20 : decode cX10_leastGrowth 20 = .ok (.if_icmp .gt 28, 3) := by decide +kernel
theorem dX10_leastGrowth_23 : decode cX10_leastGrowth 23 = .ok (.aload_n 0, 1) := by decide +kernel
theorem dX10_leastGrowth_24 : decode cX10_leastGrowth 24 = .ok (.getfield 15, 3) := by decide +kernel
theorem dX10_leastGrowth_27 : decode cX10_leastGrowth 27 = .ok (.aload_n 1, 1) := by decide +kernel
theorem dX10_leastGrowth_28 : decode cX10_leastGrowth 28 = .ok (.iload_n 2, 1) := by decide +kernel
theorem dX10_leastGrowth_29 : decode cX10_leastGrowth 29 = .ok (.iload_n 3, 1) := by decide +kernel
theorem dX10_leastGrowth_30 : decode cX10_leastGrowth 30 = .ok (.iload 4, 2) := by decide +kernel
theorem dX10_leastGrowth_32 : decode cX10_leastGrowth 32 = .ok (.iadd, 1) := by decide +kernel
theorem dX10_leastGrowth_33 : decode cX10_leastGrowth 33 = .ok (.invokevirtual 66, 3) := by decide +kernel
theorem dX10_leastGrowth_36 : decode cX10_leastGrowth 36 = .ok (.ifCond .eq 6, 3) := by decide +kernel
theorem dX10_leastGrowth_39 : decode cX10_leastGrowth 39 = .ok (.iload 4, 2) := by decide +kernel
theorem dX10_leastGrowth_41 : decode cX10_leastGrowth 41 = .ok (.ireturn, 1) := by decide +kernel
theorem dX10_leastGrowth_42 : decode cX10_leastGrowth 42 = .ok (.iinc 4 1, 3) := by decide +kernel
theorem dX10_leastGrowth_45 : decode cX10_leastGrowth 45 = .ok (.goto (-29), 3) := by decide +kernel
theorem dX10_leastGrowth_48 : decode cX10_leastGrowth 48 = .ok (.bipush (-2), 2) := by decide +kernel
theorem dX10_leastGrowth_50 : decode cX10_leastGrowth 50 = .ok (.ireturn, 1) := by decide +kernel
theorem dX10_weighRights_0 : decode cX10_weighRights 0 = .ok (.aload_n 1, 1) := by decide +kernel
theorem dX10_weighRights_1 : decode cX10_weighRights 1 = .ok (.invokevirtual 46, 3) := by decide +kernel
theorem dX10_weighRights_4 : decode cX10_weighRights 4 = .ok (.bipush 9, 2) := by decide +kernel
theorem dX10_weighRights_6 : decode cX10_weighRights 6 = .ok (.invokestatic 70, 3) := by decide +kernel
theorem dX10_weighRights_9 : decode cX10_weighRights 9 = .ok (.istore_n 2, 1) := by decide +kernel
theorem dX10_weighRights_10 : decode cX10_weighRights 10 = .ok (.iconst 0, 1) := by decide +kernel
theorem dX10_weighRights_11 : decode cX10_weighRights 11 = .ok (.istore_n 3, 1) := by decide +kernel
theorem dX10_weighRights_12 : decode cX10_weighRights 12 = .ok (.iload_n 3, 1) := by decide +kernel
theorem dX10_weighRights_13 : decode cX10_weighRights 13 = .ok (.iload_n 2, 1) := by decide +kernel
theorem dX10_weighRights_14 : decode cX10_weighRights 14 = .ok (.if_icmp .ge 24, 3) := by decide +kernel
theorem dX10_weighRights_17 : decode cX10_weighRights 17 = .ok (.aload_n 0, 1) := by decide +kernel
theorem dX10_weighRights_18 : decode cX10_weighRights 18 = .ok (.getfield 26, 3) := by decide +kernel
theorem dX10_weighRights_21 : decode cX10_weighRights 21 = .ok (.iload_n 3, 1) := by decide +kernel
theorem dX10_weighRights_22 : decode cX10_weighRights 22 = .ok (.aload_n 0, 1) := by decide +kernel
theorem dX10_weighRights_23 : decode cX10_weighRights 23 = .ok (.getfield 15, 3) := by decide +kernel
theorem dX10_weighRights_26 : decode cX10_weighRights 26 = .ok (.aload_n 1, 1) := by decide +kernel
theorem dX10_weighRights_27 : decode cX10_weighRights 27 = .ok (.iload_n 3, 1) := by decide +kernel
theorem dX10_weighRights_28 : decode cX10_weighRights 28 = .ok (.invokevirtual 76, 3) := by decide +kernel
theorem dX10_weighRights_31 : decode cX10_weighRights 31 = .ok (.iastore, 1) := by decide +kernel
theorem dX10_weighRights_32 : decode cX10_weighRights 32 = .ok (.iinc 3 1, 3) := by decide +kernel
theorem dX10_weighRights_35 : decode cX10_weighRights 35 = .ok (.goto (-23), 3) := by decide +kernel
theorem dX10_weighRights_38 : decode cX10_weighRights 38 = .ok (.iconst 0, 1) := by decide +kernel
theorem dX10_weighRights_39 : decode cX10_weighRights 39 = .ok (.istore_n 3, 1) := by decide +kernel
theorem dX10_weighRights_40 : decode cX10_weighRights 40 = .ok (.iload_n 3, 1) := by decide +kernel
theorem dX10_weighRights_41 : decode cX10_weighRights 41 = .ok (.iload_n 2, 1) := by decide +kernel
theorem dX10_weighRights_42 : decode cX10_weighRights 42 = .ok (.if_icmp .ge 81, 3) := by decide +kernel
theorem dX10_weighRights_45 : decode cX10_weighRights 45 = .ok (.aload_n 0, 1) := by decide +kernel
theorem dX10_weighRights_46 : decode cX10_weighRights 46 = .ok (.getfield 30, 3) := by decide +kernel
theorem dX10_weighRights_49 : decode cX10_weighRights 49 = .ok (.iload_n 3, 1) := by decide +kernel
theorem dX10_weighRights_50 : decode cX10_weighRights 50 = .ok (.iconst 0, 1) := by decide +kernel
theorem dX10_weighRights_51 : decode cX10_weighRights 51 = .ok (.iastore, 1) := by decide +kernel
theorem dX10_weighRights_52 : decode cX10_weighRights 52 = .ok (.iconst 0, 1) := by decide +kernel
theorem dX10_weighRights_53 : decode cX10_weighRights 53 = .ok (.istore 4, 2) := by decide +kernel
theorem dX10_weighRights_55 : decode cX10_weighRights 55 = .ok (.iload 4, 2) := by decide +kernel
theorem dX10_weighRights_57 : decode cX10_weighRights 57 = .ok (.iload_n 2, 1) := by decide +kernel
theorem dX10_weighRights_58 : decode cX10_weighRights 58 = .ok (.if_icmp .ge 59, 3) := by decide +kernel
theorem dX10_weighRights_61 : decode cX10_weighRights 61 = .ok (.aload_n 0, 1) := by decide +kernel
theorem dX10_weighRights_62 : decode cX10_weighRights 62 = .ok (.getfield 26, 3) := by decide +kernel
theorem dX10_weighRights_65 : decode cX10_weighRights 65 = .ok (.iload 4, 2) := by decide +kernel
theorem dX10_weighRights_67 : decode cX10_weighRights 67 = .ok (.iaload, 1) := by decide +kernel
theorem dX10_weighRights_68 : decode cX10_weighRights 68 = .ok (.aload_n 0, 1) := by decide +kernel
theorem dX10_weighRights_69 : decode cX10_weighRights 69 = .ok (.getfield 26, 3) := by decide +kernel
theorem dX10_weighRights_72 : decode cX10_weighRights 72 = .ok (.iload_n 3, 1) := by decide +kernel
theorem dX10_weighRights_73 : decode cX10_weighRights 73 = .ok (.iaload, 1) := by decide +kernel
theorem dX10_weighRights_74 : decode cX10_weighRights 74 = .ok (.if_icmp .ge 37, 3) := by decide +kernel
theorem dX10_weighRights_77 : decode cX10_weighRights 77 = .ok (.aload_n 0, 1) := by decide +kernel
theorem dX10_weighRights_78 : decode cX10_weighRights 78 = .ok (.getfield 9, 3) := by decide +kernel
theorem dX10_weighRights_81 : decode cX10_weighRights 81 = .ok (.aload_n 1, 1) := by decide +kernel
theorem dX10_weighRights_82 : decode cX10_weighRights 82 = .ok (.iload 4, 2) := by decide +kernel
theorem dX10_weighRights_84 : decode cX10_weighRights 84 = .ok (.invokevirtual 57, 3) := by decide +kernel
theorem dX10_weighRights_87 : decode cX10_weighRights 87 = .ok (.aload_n 1, 1) := by decide +kernel
theorem dX10_weighRights_88 : decode cX10_weighRights 88 = .ok (.iload_n 3, 1) := by decide +kernel
theorem dX10_weighRights_89 : decode cX10_weighRights 89 = .ok (.invokevirtual 57, 3) := by decide +kernel
theorem dX10_weighRights_92 : decode cX10_weighRights 92 = .ok (.invokevirtual 80, 3) := by decide +kernel
theorem dX10_weighRights_95 : decode cX10_weighRights 95 = .ok (.ifCond .eq 16, 3) := by decide +kernel
theorem dX10_weighRights_98 : decode cX10_weighRights 98 = .ok (.aload_n 0, 1) := by decide +kernel
theorem dX10_weighRights_99 : decode cX10_weighRights 99 = .ok (.getfield 30, 3) := by decide +kernel
theorem dX10_weighRights_102 : decode cX10_weighRights 102 = .ok (.iload_n 3, 1) := by decide +kernel
theorem dX10_weighRights_103 : decode cX10_weighRights 103 = .ok (.dup2, 1) := by decide +kernel
theorem dX10_weighRights_104 : decode cX10_weighRights 104 = .ok (.iaload, 1) := by decide +kernel
theorem dX10_weighRights_105 : decode cX10_weighRights 105 = .ok (.iconst 1, 1) := by decide +kernel
theorem dX10_weighRights_106 : decode cX10_weighRights 106 = .ok (.iload 4, 2) := by decide +kernel
theorem dX10_weighRights_108 : decode cX10_weighRights 108 = .ok (.ishl, 1) := by decide +kernel
theorem dX10_weighRights_109 : decode cX10_weighRights 109 = .ok (.ior, 1) := by decide +kernel
theorem dX10_weighRights_110 : decode cX10_weighRights 110 = .ok (.iastore, 1) := by decide +kernel
theorem dX10_weighRights_111 : decode cX10_weighRights 111 = .ok (.iinc 4 1, 3) := by decide +kernel
theorem dX10_weighRights_114 : decode cX10_weighRights 114 = .ok (.goto (-59), 3) := by decide +kernel
theorem dX10_weighRights_117 : decode cX10_weighRights 117 = .ok (.iinc 3 1, 3) := by decide +kernel
theorem dX10_weighRights_120 : decode cX10_weighRights 120 = .ok (.goto (-80), 3) := by decide +kernel
theorem dX10_weighRights_123 : decode cX10_weighRights 123 = .ok (.return_, 1) := by decide +kernel
theorem dX10_allPlaces_0 : decode cX10_allPlaces 0 = .ok (.iconst 1, 1) := by decide +kernel
theorem dX10_allPlaces_1 : decode cX10_allPlaces 1 = .ok (.aload_n 1, 1) := by decide +kernel
theorem dX10_allPlaces_2 : decode cX10_allPlaces 2 = .ok (.invokevirtual 46, 3) := by decide +kernel
theorem dX10_allPlaces_5 : decode cX10_allPlaces 5 = .ok (.bipush 9, 2) := by decide +kernel
theorem dX10_allPlaces_7 : decode cX10_allPlaces 7 = .ok (.invokestatic 70, 3) := by decide +kernel
theorem dX10_allPlaces_10 : decode cX10_allPlaces 10 = .ok (.ishl, 1) := by decide +kernel
theorem dX10_allPlaces_11 : decode cX10_allPlaces 11 = .ok (.iconst 1, 1) := by decide +kernel
theorem dX10_allPlaces_12 : decode cX10_allPlaces 12 = .ok (.isub, 1) := by decide +kernel
theorem dX10_allPlaces_13 : decode cX10_allPlaces 13 = .ok (.ireturn, 1) := by decide +kernel
theorem dX10_mayBeNext_0 : decode cX10_mayBeNext 0 = .ok (.iload_n 1, 1) := by decide +kernel
theorem dX10_mayBeNext_1 : decode cX10_mayBeNext 1 = .ok (.ifCond .lt 33, 3) := by decide +kernel
theorem dX10_mayBeNext_4 : decode cX10_mayBeNext 4 = .ok (.iload_n 1, 1) := by decide +kernel
theorem dX10_mayBeNext_5 : decode cX10_mayBeNext 5 = .ok (.bipush 9, 2) := by decide +kernel
theorem dX10_mayBeNext_7 : decode cX10_mayBeNext 7 = .ok (.if_icmp .ge 27, 3) := by decide +kernel
theorem dX10_mayBeNext_10 : decode cX10_mayBeNext 10 = .ok (.iload_n 2, 1) := by decide +kernel
theorem dX10_mayBeNext_11 : decode cX10_mayBeNext 11 = .ok (.iload_n 1, 1) := by decide +kernel
theorem dX10_mayBeNext_12 : decode cX10_mayBeNext 12 = .ok (.ishr, 1) := by decide +kernel
theorem dX10_mayBeNext_13 : decode cX10_mayBeNext 13 = .ok (.iconst 1, 1) := by decide +kernel
theorem dX10_mayBeNext_14 : decode cX10_mayBeNext 14 = .ok (.iand, 1) := by decide +kernel
theorem dX10_mayBeNext_15 : decode cX10_mayBeNext 15 = .ok (.iconst 1, 1) := by decide +kernel
theorem dX10_mayBeNext_16 : decode cX10_mayBeNext 16 = .ok (.if_icmp .ne 18, 3) := by decide +kernel
theorem dX10_mayBeNext_19 : decode cX10_mayBeNext 19 = .ok (.aload_n 0, 1) := by decide +kernel
theorem dX10_mayBeNext_20 : decode cX10_mayBeNext 20 = .ok (.getfield 30, 3) := by decide +kernel
theorem dX10_mayBeNext_23 : decode cX10_mayBeNext 23 = .ok (.iload_n 1, 1) := by decide +kernel
theorem dX10_mayBeNext_24 : decode cX10_mayBeNext 24 = .ok (.iaload, 1) := by decide +kernel
theorem dX10_mayBeNext_25 : decode cX10_mayBeNext 25 = .ok (.iload_n 2, 1) := by decide +kernel
theorem dX10_mayBeNext_26 : decode cX10_mayBeNext 26 = .ok (.iand, 1) := by decide +kernel
theorem dX10_mayBeNext_27 : decode cX10_mayBeNext 27 = .ok (.ifCond .ne 7, 3) := by decide +kernel
theorem dX10_mayBeNext_30 : decode cX10_mayBeNext 30 = .ok (.iconst 1, 1) := by decide +kernel
theorem dX10_mayBeNext_31 : decode cX10_mayBeNext 31 = .ok (.goto 4, 3) := by decide +kernel
theorem dX10_mayBeNext_34 : decode cX10_mayBeNext 34 = .ok (.iconst 0, 1) := by decide +kernel
theorem dX10_mayBeNext_35 : decode cX10_mayBeNext 35 = .ok (.ireturn, 1) := by decide +kernel
theorem dX10_whoMayBeFirst_0 : decode cX10_whoMayBeFirst 0 = .ok (.aload_n 0, 1) := by decide +kernel
theorem dX10_whoMayBeFirst_1 : decode cX10_whoMayBeFirst 1 = .ok (.aload_n 1, 1) := by decide +kernel
theorem dX10_whoMayBeFirst_2 : decode cX10_whoMayBeFirst 2 = .ok (.invokevirtual 84, 3) := by decide +kernel
theorem dX10_whoMayBeFirst_5 : decode cX10_whoMayBeFirst 5 = .ok (.istore_n 2, 1) := by decide +kernel
theorem dX10_whoMayBeFirst_6 : decode cX10_whoMayBeFirst 6 = .ok (.iconst 0, 1) := by decide +kernel
theorem dX10_whoMayBeFirst_7 : decode cX10_whoMayBeFirst 7 = .ok (.istore_n 3, 1) := by decide +kernel
theorem dX10_whoMayBeFirst_8 : decode cX10_whoMayBeFirst 8 = .ok (.iconst 0, 1) := by decide +kernel
theorem dX10_whoMayBeFirst_9 : decode cX10_whoMayBeFirst 9 = .ok (.istore 4, 2) := by decide +kernel
theorem dX10_whoMayBeFirst_11 : decode cX10_whoMayBeFirst 11 = .ok (.iload 4, 2) := by decide +kernel
theorem dX10_whoMayBeFirst_13 : decode cX10_whoMayBeFirst 13 = .ok (.aload_n 1, 1) := by decide +kernel
theorem dX10_whoMayBeFirst_14 : decode cX10_whoMayBeFirst 14 = .ok (.invokevirtual 46, 3) := by decide +kernel
theorem dX10_whoMayBeFirst_17 : decode cX10_whoMayBeFirst 17 = .ok (.if_icmp .ge 30, 3) := by decide +kernel
theorem dX10_whoMayBeFirst_20 : decode cX10_whoMayBeFirst 20 = .ok (.aload_n 0, 1) := by decide +kernel
theorem dX10_whoMayBeFirst_21 : decode cX10_whoMayBeFirst 21 = .ok (.iload 4, 2) := by decide +kernel
theorem dX10_whoMayBeFirst_23 : decode cX10_whoMayBeFirst 23 = .ok (.iload_n 2, 1) := by decide +kernel
theorem dX10_whoMayBeFirst_24 : decode cX10_whoMayBeFirst 24 = .ok (.invokevirtual 87, 3) := by decide +kernel
theorem dX10_whoMayBeFirst_27 : decode cX10_whoMayBeFirst 27 = .ok (.ifCond .eq 14, 3) := by decide +kernel
theorem dX10_whoMayBeFirst_30 : decode cX10_whoMayBeFirst 30 = .ok (.iload_n 3, 1) := by decide +kernel
theorem dX10_whoMayBeFirst_31 : decode cX10_whoMayBeFirst 31 = .ok (.iconst 1, 1) := by decide +kernel
theorem dX10_whoMayBeFirst_32 : decode cX10_whoMayBeFirst 32 = .ok (.aload_n 1, 1) := by decide +kernel
theorem dX10_whoMayBeFirst_33 : decode cX10_whoMayBeFirst 33 = .ok (.iload 4, 2) := by decide +kernel
theorem dX10_whoMayBeFirst_35 : decode cX10_whoMayBeFirst 35 = .ok (.invokevirtual 57, 3) := by decide +kernel
theorem dX10_whoMayBeFirst_38 : decode cX10_whoMayBeFirst 38 = .ok (.ishl, 1) := by decide +kernel
theorem dX10_whoMayBeFirst_39 : decode cX10_whoMayBeFirst 39 = .ok (.ior, 1) := by decide +kernel
theorem dX10_whoMayBeFirst_40 : decode cX10_whoMayBeFirst 40 = .ok (.istore_n 3, 1) := by decide +kernel
theorem dX10_whoMayBeFirst_41 : decode cX10_whoMayBeFirst 41 = .ok (.iinc 4 1, 3) := by decide +kernel
theorem dX10_whoMayBeFirst_44 : decode cX10_whoMayBeFirst 44 = .ok (.goto (-33), 3) := by decide +kernel
theorem dX10_whoMayBeFirst_47 : decode cX10_whoMayBeFirst 47 = .ok (.iload_n 3, 1) := by decide +kernel
theorem dX10_whoMayBeFirst_48 : decode cX10_whoMayBeFirst 48 = .ok (.ireturn, 1) := by decide +kernel
theorem dX10_ordersByRight_0 : decode cX10_ordersByRight 0 = .ok (.aload_n 1, 1) := by decide +kernel
theorem dX10_ordersByRight_1 : decode cX10_ordersByRight 1 = .ok (.invokevirtual 46, 3) := by decide +kernel
theorem dX10_ordersByRight_4 : decode cX10_ordersByRight 4 = .ok (.bipush 9, 2) := by decide +kernel
theorem dX10_ordersByRight_6 : decode cX10_ordersByRight 6 = .ok (.invokestatic 70, 3) := by decide +kernel
theorem dX10_ordersByRight_9 : decode cX10_ordersByRight 9 = .ok (.istore_n 2, 1) := by decide +kernel
theorem dX10_ordersByRight_10 : decode cX10_ordersByRight 10 = .ok (.aload_n 0, 1) := by decide +kernel
theorem dX10_ordersByRight_11 : decode cX10_ordersByRight 11 = .ok (.getfield 33, 3) := by decide +kernel
theorem dX10_ordersByRight_14 : decode cX10_ordersByRight 14 = .ok (.iconst 0, 1) := by decide +kernel
theorem dX10_ordersByRight_15 : decode cX10_ordersByRight 15 = .ok (.iconst 1, 1) := by decide +kernel
theorem dX10_ordersByRight_16 : decode cX10_ordersByRight 16 = .ok (.iastore, 1) := by decide +kernel
theorem dX10_ordersByRight_17 : decode cX10_ordersByRight 17 = .ok (.iconst 1, 1) := by decide +kernel
theorem dX10_ordersByRight_18 : decode cX10_ordersByRight 18 = .ok (.istore_n 3, 1) := by decide +kernel
theorem dX10_ordersByRight_19 : decode cX10_ordersByRight 19 = .ok (.iload_n 3, 1) := by decide +kernel
theorem dX10_ordersByRight_20 : decode cX10_ordersByRight 20 = .ok (.iconst 1, 1) := by decide +kernel
theorem dX10_ordersByRight_21 : decode cX10_ordersByRight 21 = .ok (.iload_n 2, 1) := by decide +kernel
theorem dX10_ordersByRight_22 : decode cX10_ordersByRight 22 = .ok (.ishl, 1) := by decide +kernel
theorem dX10_ordersByRight_23 : decode cX10_ordersByRight 23 = .ok (.if_icmp .ge 74, 3) := by decide +kernel
theorem dX10_ordersByRight_26 : decode cX10_ordersByRight 26 = .ok (.iconst 0, 1) := by decide +kernel
theorem dX10_ordersByRight_27 : decode cX10_ordersByRight 27 = .ok (.istore 4, 2) := by decide +kernel
theorem dX10_ordersByRight_29 : decode cX10_ordersByRight 29 = .ok (.iconst 0, 1) := by decide +kernel
theorem dX10_ordersByRight_30 : decode cX10_ordersByRight 30 = .ok (.istore 5, 2) := by decide +kernel
theorem dX10_ordersByRight_32 : decode cX10_ordersByRight 32 = .ok (.iload 5, 2) := by decide +kernel
theorem dX10_ordersByRight_34 : decode cX10_ordersByRight 34 = .ok (.iload_n 2, 1) := by decide +kernel
theorem dX10_ordersByRight_35 : decode cX10_ordersByRight 35 = .ok (.if_icmp .ge 48, 3) := by decide +kernel
theorem dX10_ordersByRight_38 : decode cX10_ordersByRight 38 = .ok (.iconst 1, 1) := by decide +kernel
theorem dX10_ordersByRight_39 : decode cX10_ordersByRight 39 = .ok (.iload 5, 2) := by decide +kernel
theorem dX10_ordersByRight_41 : decode cX10_ordersByRight 41 = .ok (.ishl, 1) := by decide +kernel
theorem dX10_ordersByRight_42 : decode cX10_ordersByRight 42 = .ok (.istore 6, 2) := by decide +kernel
theorem dX10_ordersByRight_44 : decode cX10_ordersByRight 44 = .ok (.iload_n 3, 1) := by decide +kernel
theorem dX10_ordersByRight_45 : decode cX10_ordersByRight 45 = .ok (.iload 6, 2) := by decide +kernel
theorem dX10_ordersByRight_47 : decode cX10_ordersByRight 47 = .ok (.iand, 1) := by decide +kernel
theorem dX10_ordersByRight_48 : decode cX10_ordersByRight 48 = .ok (.ifCond .eq 29, 3) := by decide +kernel
theorem dX10_ordersByRight_51 : decode cX10_ordersByRight 51 = .ok (.aload_n 0, 1) := by decide +kernel
theorem dX10_ordersByRight_52 : decode cX10_ordersByRight 52 = .ok (.getfield 30, 3) := by decide +kernel
theorem dX10_ordersByRight_55 : decode cX10_ordersByRight 55 = .ok (.iload 5, 2) := by decide +kernel
theorem dX10_ordersByRight_57 : decode cX10_ordersByRight 57 = .ok (.iaload, 1) := by decide +kernel
theorem dX10_ordersByRight_58 : decode cX10_ordersByRight 58 = .ok (.iload_n 3, 1) := by decide +kernel
theorem dX10_ordersByRight_59 : decode cX10_ordersByRight 59 = .ok (.iand, 1) := by decide +kernel
theorem dX10_ordersByRight_60 : decode cX10_ordersByRight 60 = .ok (.ifCond .ne 17, 3) := by decide +kernel
theorem dX10_ordersByRight_63 : decode cX10_ordersByRight 63 = .ok (.iload 4, 2) := by decide +kernel
theorem dX10_ordersByRight_65 : decode cX10_ordersByRight 65 = .ok (.aload_n 0, 1) := by decide +kernel
theorem dX10_ordersByRight_66 : decode cX10_ordersByRight 66 = .ok (.getfield 33, 3) := by decide +kernel
theorem dX10_ordersByRight_69 : decode cX10_ordersByRight 69 = .ok (.iload_n 3, 1) := by decide +kernel
theorem dX10_ordersByRight_70 : decode cX10_ordersByRight 70 = .ok (.iload 6, 2) := by decide +kernel
theorem dX10_ordersByRight_72 : decode cX10_ordersByRight 72 = .ok (.ixor, 1) := by decide +kernel
theorem dX10_ordersByRight_73 : decode cX10_ordersByRight 73 = .ok (.iaload, 1) := by decide +kernel
theorem dX10_ordersByRight_74 : decode cX10_ordersByRight 74 = .ok (.iadd, 1) := by decide +kernel
theorem dX10_ordersByRight_75 : decode cX10_ordersByRight 75 = .ok (.istore 4, 2) := by decide +kernel
theorem dX10_ordersByRight_77 : decode cX10_ordersByRight 77 = .ok (.iinc 5 1, 3) := by decide +kernel
theorem dX10_ordersByRight_80 : decode cX10_ordersByRight 80 = .ok (.goto (-48), 3) := by decide +kernel
theorem dX10_ordersByRight_83 : decode cX10_ordersByRight 83 = .ok (.aload_n 0, 1) := by decide +kernel
theorem dX10_ordersByRight_84 : decode cX10_ordersByRight 84 = .ok (.getfield 33, 3) := by decide +kernel
theorem dX10_ordersByRight_87 : decode cX10_ordersByRight 87 = .ok (.iload_n 3, 1) := by decide +kernel
theorem dX10_ordersByRight_88 : decode cX10_ordersByRight 88 = .ok (.iload 4, 2) := by decide +kernel
theorem dX10_ordersByRight_90 : decode cX10_ordersByRight 90 = .ok (.iastore, 1) := by decide +kernel
theorem dX10_ordersByRight_91 : decode cX10_ordersByRight 91 = .ok (.iinc 3 1, 3) := by decide +kernel
theorem dX10_ordersByRight_94 : decode cX10_ordersByRight 94 = .ok (.goto (-75), 3) := by decide +kernel
theorem dX10_ordersByRight_97 : decode cX10_ordersByRight 97 = .ok (.aload_n 0, 1) := by decide +kernel
theorem dX10_ordersByRight_98 : decode cX10_ordersByRight 98 = .ok (.getfield 33, 3) := by decide +kernel
theorem dX10_ordersByRight_101 : decode cX10_ordersByRight 101 = .ok (.iconst 1, 1) := by decide +kernel
theorem dX10_ordersByRight_102 : decode cX10_ordersByRight 102 = .ok (.iload_n 2, 1) := by decide +kernel
theorem dX10_ordersByRight_103 : decode cX10_ordersByRight 103 = .ok (.ishl, 1) := by decide +kernel
theorem dX10_ordersByRight_104 : decode cX10_ordersByRight 104 = .ok (.iconst 1, 1) := by decide +kernel
theorem dX10_ordersByRight_105 : decode cX10_ordersByRight 105 = .ok (.isub, 1) := by decide +kernel
theorem dX10_ordersByRight_106 : decode cX10_ordersByRight 106 = .ok (.iaload, 1) := by decide +kernel
theorem dX10_ordersByRight_107 : decode cX10_ordersByRight 107 = .ok (.ireturn, 1) := by decide +kernel
theorem dX10_nextByRight_0 : decode cX10_nextByRight 0 = .ok (.bipush (-2), 2) := by decide +kernel
theorem dX10_nextByRight_2 : decode cX10_nextByRight 2 = .ok (.istore_n 3, 1) := by decide +kernel
theorem dX10_nextByRight_3 : decode cX10_nextByRight 3 = .ok (.iconst 0, 1) := by decide +kernel
theorem dX10_nextByRight_4 : decode cX10_nextByRight 4 = .ok (.istore 4, 2) := by decide +kernel
theorem dX10_nextByRight_6 : decode cX10_nextByRight 6 = .ok (.iload 4, 2) := by decide +kernel
theorem dX10_nextByRight_8 : decode cX10_nextByRight 8 = .ok (.aload_n 1, 1) := by decide +kernel
theorem dX10_nextByRight_9 : decode cX10_nextByRight 9 = .ok (.invokevirtual 46, 3) := by decide +kernel
theorem dX10_nextByRight_12 : decode cX10_nextByRight 12 = .ok (.if_icmp .ge 40, 3) := by decide +kernel
theorem dX10_nextByRight_15 : decode cX10_nextByRight 15 = .ok (.aload_n 0, 1) := by decide +kernel
theorem dX10_nextByRight_16 : decode cX10_nextByRight 16 = .ok (.iload 4, 2) := by decide +kernel
theorem dX10_nextByRight_18 : decode cX10_nextByRight 18 = .ok (.iload_n 2, 1) := by decide +kernel
theorem dX10_nextByRight_19 : decode cX10_nextByRight 19 = .ok (.invokevirtual 87, 3) := by decide +kernel
theorem dX10_nextByRight_22 : decode cX10_nextByRight 22 = .ok (.ifCond .eq 24, 3) := by decide +kernel
theorem dX10_nextByRight_25 : decode cX10_nextByRight 25 = .ok (.iload_n 3, 1) := by decide +kernel
theorem dX10_nextByRight_26 : decode cX10_nextByRight 26 = .ok (.ifCond .lt 17, 3) := by decide +kernel
theorem dX10_nextByRight_29 : decode cX10_nextByRight 29 = .ok (.aload_n 1, 1) := by decide +kernel
theorem dX10_nextByRight_30 : decode cX10_nextByRight 30 = .ok (.iload 4, 2) := by decide +kernel
theorem dX10_nextByRight_32 : decode cX10_nextByRight 32 = .ok (.invokevirtual 57, 3) := by decide +kernel
theorem dX10_nextByRight_35 : decode cX10_nextByRight 35 = .ok (.aload_n 1, 1) := by decide +kernel
theorem dX10_nextByRight_36 : decode cX10_nextByRight 36 = .ok (.iload_n 3, 1) := by decide +kernel
theorem dX10_nextByRight_37 : decode cX10_nextByRight 37 = .ok (.invokevirtual 57, 3) := by decide +kernel
theorem dX10_nextByRight_40 : decode cX10_nextByRight 40 = .ok (.if_icmp .ge 6, 3) := by decide +kernel
theorem dX10_nextByRight_43 : decode cX10_nextByRight 43 = .ok (.iload 4, 2) := by decide +kernel
theorem dX10_nextByRight_45 : decode cX10_nextByRight 45 = .ok (.istore_n 3, 1) := by decide +kernel
theorem dX10_nextByRight_46 : decode cX10_nextByRight 46 = .ok (.iinc 4 1, 3) := by decide +kernel
theorem dX10_nextByRight_49 : decode cX10_nextByRight 49 = .ok (.goto (-43), 3) := by decide +kernel
theorem dX10_nextByRight_52 : decode cX10_nextByRight 52 = .ok (.iload_n 3, 1) := by decide +kernel
theorem dX10_nextByRight_53 : decode cX10_nextByRight 53 = .ok (.ireturn, 1) := by decide +kernel
theorem dX10_servedAs_0 : decode cX10_servedAs 0 = .ok (.aload_n 0, 1) := by decide +kernel
theorem dX10_servedAs_1 : decode cX10_servedAs 1 = .ok (.aload_n 1, 1) := by decide +kernel
theorem dX10_servedAs_2 : decode cX10_servedAs 2 = .ok (.invokevirtual 84, 3) := by decide +kernel
theorem dX10_servedAs_5 : decode cX10_servedAs 5 = .ok (.istore_n 3, 1) := by decide +kernel
theorem dX10_servedAs_6 : decode cX10_servedAs 6 = .ok (.bipush (-2), 2) := by decide +kernel
theorem dX10_servedAs_8 : decode cX10_servedAs 8 = .ok (.istore 4, 2) := by decide +kernel
theorem dX10_servedAs_10 : decode cX10_servedAs 10 = .ok (.iconst 0, 1) := by decide +kernel
theorem dX10_servedAs_11 : decode cX10_servedAs 11 = .ok (.istore 5, 2) := by decide +kernel
theorem dX10_servedAs_13 : decode cX10_servedAs 13 = .ok (.iload 5, 2) := by decide +kernel
theorem dX10_servedAs_15 : decode cX10_servedAs 15 = .ok (.iload_n 2, 1) := by decide +kernel
theorem dX10_servedAs_16 : decode cX10_servedAs 16 = .ok (.if_icmp .gt 34, 3) := by decide +kernel
theorem dX10_servedAs_19 : decode cX10_servedAs 19 = .ok (.aload_n 0, 1) := by decide +kernel
theorem dX10_servedAs_20 : decode cX10_servedAs 20 = .ok (.aload_n 1, 1) := by decide +kernel
theorem dX10_servedAs_21 : decode cX10_servedAs 21 = .ok (.iload_n 3, 1) := by decide +kernel
theorem dX10_servedAs_22 : decode cX10_servedAs 22 = .ok (.invokevirtual 90, 3) := by decide +kernel
theorem dX10_servedAs_25 : decode cX10_servedAs 25 = .ok (.istore 4, 2) := by decide +kernel
theorem dX10_servedAs_27 : decode cX10_servedAs 27 = .ok (.iload 4, 2) := by decide +kernel
theorem dX10_servedAs_29 : decode cX10_servedAs 29 = .ok (.ifCond .ge 6, 3) := by decide +kernel
theorem dX10_servedAs_32 : decode cX10_servedAs 32 = .ok (.bipush (-2), 2) := by decide +kernel
theorem dX10_servedAs_34 : decode cX10_servedAs 34 = .ok (.ireturn, 1) := by decide +kernel
theorem dX10_servedAs_35 : decode cX10_servedAs 35 = .ok (.iload_n 3, 1) := by decide +kernel
theorem dX10_servedAs_36 : decode cX10_servedAs 36 = .ok (.iconst 1, 1) := by decide +kernel
theorem dX10_servedAs_37 : decode cX10_servedAs 37 = .ok (.iload 4, 2) := by decide +kernel
theorem dX10_servedAs_39 : decode cX10_servedAs 39 = .ok (.ishl, 1) := by decide +kernel
theorem dX10_servedAs_40 : decode cX10_servedAs 40 = .ok (.iconst (-1), 1) := by decide +kernel
theorem dX10_servedAs_41 : decode cX10_servedAs 41 = .ok (.ixor, 1) := by decide +kernel
theorem dX10_servedAs_42 : decode cX10_servedAs 42 = .ok (.iand, 1) := by decide +kernel
theorem dX10_servedAs_43 : decode cX10_servedAs 43 = .ok (.istore_n 3, 1) := by decide +kernel
theorem dX10_servedAs_44 : decode cX10_servedAs 44 = .ok (.iinc 5 1, 3) := by decide +kernel
theorem dX10_servedAs_47 : decode cX10_servedAs 47 = .ok (.goto (-34), 3) := by decide +kernel
theorem dX10_servedAs_50 : decode cX10_servedAs 50 = .ok (.aload_n 1, 1) := by decide +kernel
theorem dX10_servedAs_51 : decode cX10_servedAs 51 = .ok (.iload 4, 2) := by decide +kernel
theorem dX10_servedAs_53 : decode cX10_servedAs 53 = .ok (.invokevirtual 57, 3) := by decide +kernel
theorem dX10_servedAs_56 : decode cX10_servedAs 56 = .ok (.ireturn, 1) := by decide +kernel
theorem dX10_mixings_0 : decode cX10_mixings 0 = .ok (.aload_n 0, 1) := by decide +kernel
theorem dX10_mixings_1 : decode cX10_mixings 1 = .ok (.getfield 15, 3) := by decide +kernel
theorem dX10_mixings_4 : decode cX10_mixings 4 = .ok (.aload_n 1, 1) := by decide +kernel
theorem dX10_mixings_5 : decode cX10_mixings 5 = .ok (.invokevirtual 40, 3) := by decide +kernel
theorem dX10_mixings_8 : decode cX10_mixings 8 = .ok (.istore 5, 2) := by decide +kernel
theorem dX10_mixings_10 : decode cX10_mixings 10 = .ok (.iload_n 2, 1) := by decide +kernel
theorem dX10_mixings_11 : decode cX10_mixings 11 = .ok (.istore 6, 2) := by decide +kernel
theorem dX10_mixings_13 : decode cX10_mixings 13 = .ok (.iconst 0, 1) := by decide +kernel
theorem dX10_mixings_14 : decode cX10_mixings 14 = .ok (.istore 7, 2) := by decide +kernel
theorem dX10_mixings_16 : decode cX10_mixings 16 = .ok (.iconst 0, 1) := by decide +kernel
theorem dX10_mixings_17 : decode cX10_mixings 17 = .ok (.istore 8, 2) := by decide +kernel
theorem dX10_mixings_19 : decode cX10_mixings 19 = .ok (.iload 8, 2) := by decide +kernel
theorem dX10_mixings_21 : decode cX10_mixings 21 = .ok (.iload_n 3, 1) := by decide +kernel
theorem dX10_mixings_22 : decode cX10_mixings 22 = .ok (.if_icmp .ge 137, 3) := by decide +kernel
theorem dX10_mixings_25 : decode cX10_mixings 25 = .ok (.aload_n 0, 1) := by decide +kernel
theorem dX10_mixings_26 : decode cX10_mixings 26 = .ok (.getfield 22, 3) := by decide +kernel
theorem dX10_mixings_29 : decode cX10_mixings 29 = .ok (.aload_n 1, 1) := by decide +kernel
theorem dX10_mixings_30 : decode cX10_mixings 30 = .ok (.invokevirtual 36, 3) := by decide +kernel
theorem dX10_mixings_33 : decode cX10_mixings 33 = .ok (.aload_n 0, 1) := by decide +kernel
theorem dX10_mixings_34 : decode cX10_mixings 34 = .ok (.getfield 22, 3) := by decide +kernel
theorem dX10_mixings_37 : decode cX10_mixings 37 = .ok (.invokevirtual 46, 3) := by decide +kernel
theorem dX10_mixings_40 : decode cX10_mixings 40 = .ok (.iconst 1, 1) := by decide +kernel
theorem dX10_mixings_41 : decode cX10_mixings 41 = .ok (.isub, 1) := by decide +kernel
theorem dX10_mixings_42 : decode cX10_mixings 42 = .ok (.istore 9, 2) := by decide +kernel
theorem dX10_mixings_44 : decode cX10_mixings 44 = .ok (.iload 9, 2) := by decide +kernel
theorem dX10_mixings_46 : decode cX10_mixings 46 = .ok (.iconst 1, 1) := by decide +kernel
theorem dX10_mixings_47 : decode cX10_mixings 47 = .ok (.if_icmp .lt 39, 3) := by decide +kernel
theorem dX10_mixings_50 : decode cX10_mixings 50 = .ok (.iload 6, 2) := by decide +kernel
theorem dX10_mixings_52 : decode cX10_mixings 52 = .ok (.ldc 93, 2) := by decide +kernel
theorem dX10_mixings_54 : decode cX10_mixings 54 = .ok (.imul, 1) := by decide +kernel
theorem dX10_mixings_55 : decode cX10_mixings 55 = .ok (.sipush 12345, 3) := by decide +kernel
theorem dX10_mixings_58 : decode cX10_mixings 58 = .ok (.iadd, 1) := by decide +kernel
theorem dX10_mixings_59 : decode cX10_mixings 59 = .ok (.istore 6, 2) := by decide +kernel
theorem dX10_mixings_61 : decode cX10_mixings 61 = .ok (.aload_n 0, 1) := by decide +kernel
theorem dX10_mixings_62 : decode cX10_mixings 62 = .ok (.getfield 22, 3) := by decide +kernel
theorem dX10_mixings_65 : decode cX10_mixings 65 = .ok (.iload 9, 2) := by decide +kernel
theorem dX10_mixings_67 : decode cX10_mixings 67 = .ok (.iload 6, 2) := by decide +kernel
theorem dX10_mixings_69 : decode cX10_mixings 69 = .ok (.bipush 8, 2) := by decide +kernel
theorem dX10_mixings_71 : decode cX10_mixings 71 = .ok (.iushr, 1) := by decide +kernel
theorem dX10_mixings_72 : decode cX10_mixings 72 = .ok (.iload 9, 2) := by decide +kernel
theorem dX10_mixings_74 : decode cX10_mixings 74 = .ok (.iconst 1, 1) := by decide +kernel
theorem dX10_mixings_75 : decode cX10_mixings 75 = .ok (.iadd, 1) := by decide +kernel
theorem dX10_mixings_76 : decode cX10_mixings 76 = .ok (.irem, 1) := by decide +kernel
theorem dX10_mixings_77 : decode cX10_mixings 77 = .ok (.invokevirtual 50, 3) := by decide +kernel
theorem dX10_mixings_80 : decode cX10_mixings 80 = .ok (.iinc 9 (-1), 3) := by decide +kernel
theorem dX10_mixings_83 : decode cX10_mixings 83 = .ok (.goto (-39), 3) := by decide +kernel
theorem dX10_mixings_86 : decode cX10_mixings 86 = .ok (.iload 4, 2) := by decide +kernel
theorem dX10_mixings_88 : decode cX10_mixings 88 = .ok (.bipush (-2), 2) := by decide +kernel
theorem dX10_mixings_90 : decode cX10_mixings 90 = .ok (.if_icmp .ne 22, 3) := by decide +kernel
theorem dX10_mixings_93 : decode cX10_mixings 93 = .ok (.iload 7, 2) := by decide +kernel
theorem dX10_mixings_95 : decode cX10_mixings 95 = .ok (.aload_n 0, 1) := by decide +kernel
theorem dX10_mixings_96 : decode cX10_mixings 96 = .ok (.getfield 15, 3) := by decide +kernel
theorem dX10_mixings_99 : decode cX10_mixings 99 = .ok (.aload_n 0, 1) := by decide +kernel
theorem dX10_mixings_100 : decode cX10_mixings 100 = .ok (.getfield 22, 3) := by decide +kernel
theorem dX10_mixings_103 : decode cX10_mixings 103 = .ok (.invokevirtual 40, 3) := by decide +kernel
theorem dX10_mixings_106 : decode cX10_mixings 106 = .ok (.iadd, 1) := by decide +kernel
theorem dX10_mixings_107 : decode cX10_mixings 107 = .ok (.istore 7, 2) := by decide +kernel
theorem dX10_mixings_109 : decode cX10_mixings 109 = .ok (.goto 44, 3) := by decide +kernel
theorem dX10_mixings_112 : decode cX10_mixings 112 = .ok (.iload 4, 2) := by decide +kernel
theorem dX10_mixings_114 : decode cX10_mixings 114 = .ok (.iconst (-1), 1) := by decide +kernel
theorem dX10_mixings_115 : decode cX10_mixings 115 = .ok (.if_icmp .ne 22, 3) := by decide +kernel
theorem dX10_mixings_118 : decode cX10_mixings 118 = .ok (.aload_n 0, 1) := by decide +kernel
theorem dX10_mixings_119 : decode cX10_mixings 119 = .ok (.getfield 15, 3) := by decide +kernel
theorem dX10_mixings_122 : decode cX10_mixings 122 = .ok (.aload_n 0, 1) := by decide +kernel
theorem dX10_mixings_123 : decode cX10_mixings 123 = .ok (.getfield 22, 3) := by decide +kernel
theorem dX10_mixings_126 : decode cX10_mixings 126 = .ok (.invokevirtual 40, 3) := by decide +kernel
theorem dX10_mixings_129 : decode cX10_mixings 129 = .ok (.iload 5, 2) := by decide +kernel
theorem dX10_mixings_131 : decode cX10_mixings 131 = .ok (.if_icmp .ge 22, 3) := by decide +kernel
theorem dX10_mixings_134 : decode cX10_mixings 134 = .ok (.goto 16, 3) := by decide +kernel
theorem dX10_mixings_137 : decode cX10_mixings 137 = .ok (.aload_n 0, 1) := by decide +kernel
theorem dX10_mixings_138 : decode cX10_mixings 138 = .ok (.getfield 22, 3) := by decide +kernel
theorem dX10_mixings_141 : decode cX10_mixings 141 = .ok (.iconst 0, 1) := by decide +kernel
theorem dX10_mixings_142 : decode cX10_mixings 142 = .ok (.invokevirtual 57, 3) := by decide +kernel
theorem dX10_mixings_145 : decode cX10_mixings 145 = .ok (.iload 4, 2) := by decide +kernel
theorem dX10_mixings_147 : decode cX10_mixings 147 = .ok (.if_icmp .ne 6, 3) := by decide +kernel
theorem dX10_mixings_150 : decode cX10_mixings 150 = .ok (.iinc 7 1, 3) := by decide +kernel
theorem dX10_mixings_153 : decode cX10_mixings 153 = .ok (.iinc 8 1, 3) := by decide +kernel
theorem dX10_mixings_156 : decode cX10_mixings 156 = .ok (.goto (-137), 3) := by decide +kernel
theorem dX10_mixings_159 : decode cX10_mixings 159 = .ok (.iload 7, 2) := by decide +kernel
theorem dX10_mixings_161 : decode cX10_mixings 161 = .ok (.ireturn, 1) := by decide +kernel
theorem fl_X10_15 : Cond.fieldLink RX10 15 (TX10 1).1 (TX10 1).2.1 (TX10 1).2.2.1 ∈ wsL_law := (uw7 _ (List.mem_of_getElem? (i := 5) rfl))
theorem fl_X10_22 : Cond.fieldLink RX10 22 (TX10 2).1 (TX10 2).2.1 (TX10 2).2.2.1 ∈ wsL_law := (uw7 _ (List.mem_of_getElem? (i := 7) rfl))
theorem fl_X10_26 : Cond.fieldLink RX10 26 (TX10 3).1 (TX10 3).2.1 (TX10 3).2.2.1 ∈ wsL_law := (uw7 _ (List.mem_of_getElem? (i := 8) rfl))
theorem fl_X10_30 : Cond.fieldLink RX10 30 (TX10 4).1 (TX10 4).2.1 (TX10 4).2.2.1 ∈ wsL_law := (uw7 _ (List.mem_of_getElem? (i := 9) rfl))
theorem fl_X10_33 : Cond.fieldLink RX10 33 (TX10 5).1 (TX10 5).2.1 (TX10 5).2.2.1 ∈ wsL_law := (uw7 _ (List.mem_of_getElem? (i := 10) rfl))
theorem fl_X10_9 : Cond.fieldLink RX10 9 (TX10 0).1 (TX10 0).2.1 (TX10 0).2.2.1 ∈ wsL_law := (uw7 _ (List.mem_of_getElem? (i := 4) rfl))
theorem hy_X10_allPlaces : Cond.code yX10_allPlaces cX10_allPlaces 2 (some .int) ∈ wsL_law ∧ Cond.initialized yX10_allPlaces.cls ∈ wsL_law ∧ Cond.instanceMethod yX10_allPlaces ∈ wsL_law ∧ Cond.selects yX10_allPlaces.cls yX10_allPlaces yX10_allPlaces ∈ wsL_law := ⟨(uw45 _ (List.mem_of_getElem? (i := 2) rfl)), (uw3 _ (List.mem_of_getElem? (i := 0) rfl)), (uw45 _ (List.mem_of_getElem? (i := 0) rfl)), (uw45 _ (List.mem_of_getElem? (i := 1) rfl))⟩
theorem hd_X10_allPlaces : yX10_allPlaces.cls ≠ "java/lang/invoke/MethodHandle" ∧ yX10_allPlaces.cls ≠ "java/lang/invoke/VarHandle" ∧ (parseMethodDescriptor yX10_allPlaces.desc).map (fun d => d.parameters.length) = some 1 := ⟨by decide +kernel, by decide +kernel, by decide +kernel⟩
theorem hy_X10_mayBeNext : Cond.code yX10_mayBeNext cX10_mayBeNext 3 (some .boolean) ∈ wsL_law ∧ Cond.initialized yX10_mayBeNext.cls ∈ wsL_law ∧ Cond.instanceMethod yX10_mayBeNext ∈ wsL_law ∧ Cond.selects yX10_mayBeNext.cls yX10_mayBeNext yX10_mayBeNext ∈ wsL_law := ⟨(uw45 _ (List.mem_of_getElem? (i := 6) rfl)), (uw3 _ (List.mem_of_getElem? (i := 0) rfl)), (uw45 _ (List.mem_of_getElem? (i := 4) rfl)), (uw45 _ (List.mem_of_getElem? (i := 5) rfl))⟩
theorem hd_X10_mayBeNext : yX10_mayBeNext.cls ≠ "java/lang/invoke/MethodHandle" ∧ yX10_mayBeNext.cls ≠ "java/lang/invoke/VarHandle" ∧ (parseMethodDescriptor yX10_mayBeNext.desc).map (fun d => d.parameters.length) = some 2 := ⟨by decide +kernel, by decide +kernel, by decide +kernel⟩
theorem hy_X10_nextByRight : Cond.code yX10_nextByRight cX10_nextByRight 5 (some .int) ∈ wsL_law ∧ Cond.initialized yX10_nextByRight.cls ∈ wsL_law ∧ Cond.instanceMethod yX10_nextByRight ∈ wsL_law ∧ Cond.selects yX10_nextByRight.cls yX10_nextByRight yX10_nextByRight ∈ wsL_law := ⟨(uw45 _ (List.mem_of_getElem? (i := 18) rfl)), (uw3 _ (List.mem_of_getElem? (i := 0) rfl)), (uw45 _ (List.mem_of_getElem? (i := 16) rfl)), (uw45 _ (List.mem_of_getElem? (i := 17) rfl))⟩
theorem hd_X10_nextByRight : yX10_nextByRight.cls ≠ "java/lang/invoke/MethodHandle" ∧ yX10_nextByRight.cls ≠ "java/lang/invoke/VarHandle" ∧ (parseMethodDescriptor yX10_nextByRight.desc).map (fun d => d.parameters.length) = some 2 := ⟨by decide +kernel, by decide +kernel, by decide +kernel⟩
theorem hy_X4_disquietOf : Cond.code yX4_disquietOf cX4_disquietOf 4 (some .int) ∈ wsL_law ∧ Cond.initialized yX4_disquietOf.cls ∈ wsL_law ∧ Cond.instanceMethod yX4_disquietOf ∈ wsL_law ∧ Cond.selects yX4_disquietOf.cls yX4_disquietOf yX4_disquietOf ∈ wsL_law := ⟨(uw26 _ (List.mem_of_getElem? (i := 3) rfl)), (uw2 _ (List.mem_of_getElem? (i := 3) rfl)), (uw26 _ (List.mem_of_getElem? (i := 1) rfl)), (uw26 _ (List.mem_of_getElem? (i := 2) rfl))⟩
theorem hd_X4_disquietOf : yX4_disquietOf.cls ≠ "java/lang/invoke/MethodHandle" ∧ yX4_disquietOf.cls ≠ "java/lang/invoke/VarHandle" ∧ (parseMethodDescriptor yX4_disquietOf.desc).map (fun d => d.parameters.length) = some 1 := ⟨by decide +kernel, by decide +kernel, by decide +kernel⟩
theorem hy_X4_isCalmIfTall : Cond.code yX4_isCalmIfTall cX4_isCalmIfTall 8 (some .boolean) ∈ wsL_law ∧ Cond.initialized yX4_isCalmIfTall.cls ∈ wsL_law ∧ Cond.instanceMethod yX4_isCalmIfTall ∈ wsL_law ∧ Cond.selects yX4_isCalmIfTall.cls yX4_isCalmIfTall yX4_isCalmIfTall ∈ wsL_law := ⟨(uw42 _ (List.mem_of_getElem? (i := 22) rfl)), (uw2 _ (List.mem_of_getElem? (i := 3) rfl)), (uw42 _ (List.mem_of_getElem? (i := 20) rfl)), (uw42 _ (List.mem_of_getElem? (i := 21) rfl))⟩
theorem hd_X4_isCalmIfTall : yX4_isCalmIfTall.cls ≠ "java/lang/invoke/MethodHandle" ∧ yX4_isCalmIfTall.cls ≠ "java/lang/invoke/VarHandle" ∧ (parseMethodDescriptor yX4_isCalmIfTall.desc).map (fun d => d.parameters.length) = some 3 := ⟨by decide +kernel, by decide +kernel, by decide +kernel⟩
theorem hy_X7_exchange : Cond.code yX7_exchange cX7_exchange 4 none ∈ wsL_law ∧ Cond.initialized yX7_exchange.cls ∈ wsL_law ∧ Cond.instanceMethod yX7_exchange ∈ wsL_law ∧ Cond.selects yX7_exchange.cls yX7_exchange yX7_exchange ∈ wsL_law := ⟨(uw28 _ (List.mem_of_getElem? (i := 21) rfl)), (uw1 _ (List.mem_of_getElem? (i := 19) rfl)), (uw28 _ (List.mem_of_getElem? (i := 19) rfl)), (uw28 _ (List.mem_of_getElem? (i := 20) rfl))⟩
theorem hd_X7_exchange : yX7_exchange.cls ≠ "java/lang/invoke/MethodHandle" ∧ yX7_exchange.cls ≠ "java/lang/invoke/VarHandle" ∧ (parseMethodDescriptor yX7_exchange.desc).map (fun d => d.parameters.length) = some 2 := ⟨by decide +kernel, by decide +kernel, by decide +kernel⟩
theorem ml_X10_36 : Cond.methodLink RX10 36 yX7_copyFrom ∈ wsL_law := (uw41 _ (List.mem_of_getElem? (i := 11) rfl))
theorem ml_X10_40 : Cond.methodLink RX10 40 yX4_disquietOf ∈ wsL_law := (uw41 _ (List.mem_of_getElem? (i := 12) rfl))
theorem ml_X10_46 : Cond.methodLink RX10 46 yX7_size ∈ wsL_law := (uw41 _ (List.mem_of_getElem? (i := 13) rfl))
theorem ml_X10_50 : Cond.methodLink RX10 50 yX7_exchange ∈ wsL_law := (uw41 _ (List.mem_of_getElem? (i := 14) rfl))
theorem ml_X10_54 : Cond.methodLink RX10 54 yX7_insert ∈ wsL_law := (uw42 _ (List.mem_of_getElem? (i := 3) rfl))
theorem ml_X10_57 : Cond.methodLink RX10 57 yX7_at ∈ wsL_law := (uw42 _ (List.mem_of_getElem? (i := 17) rfl))
theorem ml_X10_61 : Cond.methodLink RX10 61 yX1_heightOf ∈ wsL_law := (uw42 _ (List.mem_of_getElem? (i := 18) rfl))
theorem ml_X10_66 : Cond.methodLink RX10 66 yX4_isCalmIfTall ∈ wsL_law := (uw42 _ (List.mem_of_getElem? (i := 19) rfl))
theorem ml_X10_76 : Cond.methodLink RX10 76 yX4_numberAt ∈ wsL_law := (uw44 _ (List.mem_of_getElem? (i := 17) rfl))
theorem ml_X10_80 : Cond.methodLink RX10 80 yX1_isTaller ∈ wsL_law := (uw44 _ (List.mem_of_getElem? (i := 18) rfl))
theorem ml_X10_84 : Cond.methodLink RX10 84 yX10_allPlaces ∈ wsL_law := (uw44 _ (List.mem_of_getElem? (i := 23) rfl))
theorem ml_X10_87 : Cond.methodLink RX10 87 yX10_mayBeNext ∈ wsL_law := (uw45 _ (List.mem_of_getElem? (i := 3) rfl))
theorem ml_X10_90 : Cond.methodLink RX10 90 yX10_nextByRight ∈ wsL_law := (uw45 _ (List.mem_of_getElem? (i := 15) rfl))
abbrev w_Thoughts_calmest (G : zG) (a_this : Nat) (a_crowd : Nat) (a_judge : Nat) (a_trial : Nat) (a_numbers : Nat) (a_ahead : Nat) (a_orders : Nat) (a_crowd_heights : Nat) (a_judge_text : Nat) (a_judge_known : Nat) (a_judge_text_tape : Nat) (a_judge_text_reader : Nat) (a_judge_text_steps : Nat) (a_judge_text_worked : Nat) (a_trial_who : Nat) (a_p1 : Nat) (a_p1_who : Nat) (crowd_people : Int32) (crowd_heights : Nat → Int32) (judge_text_fed : Int32) (judge_text_length : Int32) (judge_text_top : Int32) (judge_text_steps : Nat → Int32) (judge_text_worked : Nat → Int32) (judge_known : Nat → Int32) (trial_length : Int32) (trial_who : Nat → Int32) (p1_length : Int32) (p1_who : Nat → Int32) : va_W := [(a_this, cO 10 [.ref a_crowd, .ref a_judge, .ref a_trial, .ref a_numbers, .ref a_ahead, .ref a_orders]), (a_crowd, cO 1 [.ref a_crowd_heights, .int crowd_people]), (a_crowd_heights, cI G 9 crowd_heights), (a_judge, cO 4 [.ref a_crowd, .ref a_judge_text, .ref a_judge_known]), (a_judge_text, cO 5 [.ref a_judge_text_tape, .int judge_text_fed, .ref a_judge_text_reader, .ref a_judge_text_steps, .int judge_text_length, .ref a_judge_text_worked, .int judge_text_top]), (a_judge_text_steps, cI G 121 judge_text_steps), (a_judge_text_worked, cI G 121 judge_text_worked), (a_judge_known, cB G 729 judge_known), (a_trial, cO 7 [.ref a_trial_who, .int trial_length]), (a_trial_who, cI G 9 trial_who), (a_p1, cO 7 [.ref a_p1_who, .int p1_length]), (a_p1_who, cI G 9 p1_who)]
def f_Thoughts_calmest_L42 (crowd_people : Int32) (crowd_heights : Nat → Int32) (judge_text_length : Int32) (judge_text_steps : Nat → Int32) (trial_length : Int32) (v5 : Int32) : Nat → Int32 → (Nat → Int32) → (Nat → Int32) → (Nat → Int32) → Int32 → Int32 → Int32 → Option (Int32 × (Nat → Int32) × (Nat → Int32) × (Nat → Int32) × Int32 × Int32)
  | 0, _, _, _, _, _, _, _ => none
  | fuel + 1, judge_text_top, judge_text_worked, judge_known, trial_who, v3, v4, v6 => (if (f_Line_size trial_length) ≤ v6 then (some (judge_text_top, judge_text_worked, judge_known, trial_who, v3, v4)) else (zb1 (f_Line_exchange trial_length trial_who v5 v6) fun trial_who_11 => (zb4 (f_Judge_disquietOf crowd_people crowd_heights judge_text_length judge_text_top judge_text_steps judge_text_worked judge_known trial_length trial_who_11) fun r_13 judge_text_top_14 judge_text_worked_15 judge_known_16 => (zb1 (f_Line_exchange trial_length trial_who_11 v5 v6) fun trial_who_18 => (if v3 ≤ r_13 then (f_Thoughts_calmest_L42 crowd_people crowd_heights judge_text_length judge_text_steps trial_length v5 fuel judge_text_top_14 judge_text_worked_15 judge_known_16 trial_who_18 v3 v4 (v6 + 1)) else (f_Thoughts_calmest_L42 crowd_people crowd_heights judge_text_length judge_text_steps trial_length v5 fuel judge_text_top_14 judge_text_worked_15 judge_known_16 trial_who_18 r_13 (((10 : Int32) * v5) + v6) (v6 + 1)))))))
def f_Thoughts_calmest_L24 (crowd_people : Int32) (crowd_heights : Nat → Int32) (judge_text_length : Int32) (judge_text_steps : Nat → Int32) (trial_length : Int32) : Nat → Int32 → (Nat → Int32) → (Nat → Int32) → (Nat → Int32) → Int32 → Int32 → Int32 → Option (Int32 × (Nat → Int32) × (Nat → Int32) × (Nat → Int32) × Int32 × Int32)
  | 0, _, _, _, _, _, _, _ => none
  | fuel + 1, judge_text_top, judge_text_worked, judge_known, trial_who, v3, v4, v5 => (if (f_Line_size trial_length) ≤ v5 then (some (judge_text_top, judge_text_worked, judge_known, trial_who, v3, v4)) else (zb6 (f_Thoughts_calmest_L42 crowd_people crowd_heights judge_text_length judge_text_steps trial_length v5 FU judge_text_top judge_text_worked judge_known trial_who v3 v4 (v5 + (1 : Int32))) fun judge_text_top_20 judge_text_worked_21 judge_known_22 trial_who_23 v3_24 v4_25 => (f_Thoughts_calmest_L24 crowd_people crowd_heights judge_text_length judge_text_steps trial_length fuel judge_text_top_20 judge_text_worked_21 judge_known_22 trial_who_23 v3_24 v4_25 (v5 + 1))))
def f_Thoughts_calmest (crowd_people : Int32) (crowd_heights : Nat → Int32) (judge_text_length : Int32) (judge_text_top : Int32) (judge_text_steps : Nat → Int32) (judge_text_worked : Nat → Int32) (judge_known : Nat → Int32) (trial_length : Int32) (trial_who : Nat → Int32) (p1_length : Int32) (p1_who : Nat → Int32) (x2 : Int32) : Option (Int32 × Int32 × (Nat → Int32) × (Nat → Int32) × Int32 × (Nat → Int32)) := (zb2 (f_Line_copyFrom trial_length trial_who p1_length p1_who) fun trial_length_1 trial_who_2 => (zb4 (f_Judge_disquietOf crowd_people crowd_heights judge_text_length judge_text_top judge_text_steps judge_text_worked judge_known p1_length p1_who) fun r_4 judge_text_top_5 judge_text_worked_6 judge_known_7 => (zb6 (f_Thoughts_calmest_L24 crowd_people crowd_heights judge_text_length judge_text_steps trial_length_1 FU judge_text_top_5 judge_text_worked_6 judge_known_7 trial_who_2 r_4 (-2) 0) fun judge_text_top_26 judge_text_worked_27 judge_known_28 trial_who_29 v3_30 v4_31 => (if v4_31 = (-2) then (some (v4_31, judge_text_top_26, judge_text_worked_27, judge_known_28, trial_length_1, trial_who_29)) else (if x2 = 0 then (some (v3_30, judge_text_top_26, judge_text_worked_27, judge_known_28, trial_length_1, trial_who_29)) else (some (v4_31, judge_text_top_26, judge_text_worked_27, judge_known_28, trial_length_1, trial_who_29)))))))
set_option maxRecDepth 100000 in
set_option maxHeartbeats 4000000 in
theorem l_Thoughts_calmest_42 {X : zX} (G : zG) (a_this : Nat) (a_crowd : Nat) (a_judge : Nat) (a_trial : Nat) (a_numbers : Nat) (a_ahead : Nat) (a_orders : Nat) (a_crowd_heights : Nat) (a_judge_text : Nat) (a_judge_known : Nat) (a_judge_text_tape : Nat) (a_judge_text_reader : Nat) (a_judge_text_steps : Nat) (a_judge_text_worked : Nat) (a_trial_who : Nat) (a_p1 : Nat) (a_p1_who : Nat) (crowd_people : Int32) (crowd_heights : Nat → Int32) (judge_text_fed : Int32) (judge_text_length : Int32) (judge_text_steps : Nat → Int32) (trial_length : Int32) (p1_length : Int32) (p1_who : Nat → Int32) (v2 : Int32) (v5 : Int32) {v0 : Option Value} {w0 : va_W} (F : zF X G cX10_calmest RX10 8 (some .int) 5 141 v0 w0) (e_judge_text_top : Int32) (e_judge_text_worked : Nat → Int32) (e_judge_known : Nat → Int32) (e_trial_who : Nat → Int32) (e_v3 : Int32) (e_v4 : Int32) (hk : Z X G 8 (w_Thoughts_calmest G a_this a_crowd a_judge a_trial a_numbers a_ahead a_orders a_crowd_heights a_judge_text a_judge_known a_judge_text_tape a_judge_text_reader a_judge_text_steps a_judge_text_worked a_trial_who a_p1 a_p1_who crowd_people crowd_heights judge_text_fed judge_text_length e_judge_text_top judge_text_steps e_judge_text_worked e_judge_known trial_length e_trial_who p1_length p1_who) [(0, .ref a_this), (2, .int v2), (3, .int e_v3), (4, .int e_v4), (5, .int v5)] 114 []) :
    ∀ (fuel : Nat) (judge_text_top : Int32) (judge_text_worked : Nat → Int32) (judge_known : Nat → Int32) (trial_who : Nat → Int32) (v3 : Int32) (v4 : Int32) (v6 : Int32), f_Thoughts_calmest_L42 crowd_people crowd_heights judge_text_length judge_text_steps trial_length v5 fuel judge_text_top judge_text_worked judge_known trial_who v3 v4 v6 = some (e_judge_text_top, e_judge_text_worked, e_judge_known, e_trial_who, e_v3, e_v4) → Z X G 8 (w_Thoughts_calmest G a_this a_crowd a_judge a_trial a_numbers a_ahead a_orders a_crowd_heights a_judge_text a_judge_known a_judge_text_tape a_judge_text_reader a_judge_text_steps a_judge_text_worked a_trial_who a_p1 a_p1_who crowd_people crowd_heights judge_text_fed judge_text_length judge_text_top judge_text_steps judge_text_worked judge_known trial_length trial_who p1_length p1_who) [(0, .ref a_this), (2, .int v2), (3, .int v3), (4, .int v4), (5, .int v5), (6, .int v6)] 42 [] := by
  intro fuel
  induction fuel with
  | zero => intro judge_text_top judge_text_worked judge_known trial_who v3 v4 v6 hf; exact absurd ((f_Thoughts_calmest_L42.eq_1 ..).symm.trans hf) (fun h => by cases h)
  | succ fuel ih =>
    intro judge_text_top judge_text_worked judge_known trial_who v3 v4 v6 hf
    replace hf := (f_Thoughts_calmest_L42.eq_2 ..).symm.trans hf
    refine z_iload F 5 dX10_calmest_42 rfl ?_
    refine z_aload_n F 0 dX10_calmest_44 rfl rfl ?_
    refine z_get F 0 10 2 inlX10 rfl rfl (by decide) fl_X10_22 rfl dX10_calmest_45 ?_
    refine z_callVm (rest := [.int v6]) F 7 (c_Line_size (xL X) G a_trial a_trial_who trial_length _ rfl) hy_X7_size ml_X10_46 hd_X7_size ⟨by omega, by omega⟩ rfl [8] rfl rfl 8 rfl rfl (w_Thoughts_calmest G a_this a_crowd a_judge a_trial a_numbers a_ahead a_orders a_crowd_heights a_judge_text a_judge_known a_judge_text_tape a_judge_text_reader a_judge_text_steps a_judge_text_worked a_trial_who a_p1 a_p1_who crowd_people crowd_heights judge_text_fed judge_text_length judge_text_top judge_text_steps judge_text_worked judge_known trial_length trial_who p1_length p1_who) [none, none, none, none, none, none, none, none, some 0, none, none, none] rfl (by decide +kernel) rfl rfl (Nat.le_of_ble_eq_true rfl) dX10_calmest_48 (fun hz_10 => ?_)
    refine z_icmp_ge F 114 dX10_calmest_51 (by decide) hf (fun hf _ => ?_) (fun hf _ => ?_)
    · have eq1 := Option.some.inj hf
      obtain ⟨ee1, eq2⟩ := Prod.mk.inj eq1
      obtain ⟨ee2, eq3⟩ := Prod.mk.inj eq2
      obtain ⟨ee3, eq4⟩ := Prod.mk.inj eq3
      obtain ⟨ee4, eq5⟩ := Prod.mk.inj eq4
      obtain ⟨ee5, ee6⟩ := Prod.mk.inj eq5
      subst ee1
      subst ee2
      subst ee3
      subst ee4
      subst ee5
      subst ee6
      exact z_sub [0, 1, 2, 3, 4] rfl hk
    · refine z_aload_n F 0 dX10_calmest_54 rfl rfl ?_
      refine z_get F 0 10 2 inlX10 rfl rfl (by decide) fl_X10_22 rfl dX10_calmest_55 ?_
      refine z_iload F 4 dX10_calmest_58 rfl ?_
      refine z_iload F 5 dX10_calmest_60 rfl ?_
      obtain ⟨trial_who_11, hg, hf⟩ := zb1_some hf
      refine z_callVm (rest := []) F 7 (c_Line_exchange (xL X) G a_trial a_trial_who trial_length trial_who v5 v6 trial_who_11 hg) hy_X7_exchange ml_X10_50 hd_X7_exchange ⟨by omega, by omega⟩ rfl [8, 9] rfl rfl 8 rfl rfl (w_Thoughts_calmest G a_this a_crowd a_judge a_trial a_numbers a_ahead a_orders a_crowd_heights a_judge_text a_judge_known a_judge_text_tape a_judge_text_reader a_judge_text_steps a_judge_text_worked a_trial_who a_p1 a_p1_who crowd_people crowd_heights judge_text_fed judge_text_length judge_text_top judge_text_steps judge_text_worked judge_known trial_length trial_who_11 p1_length p1_who) [none, none, none, none, none, none, none, none, some 0, some 1, none, none] rfl (by decide +kernel) rfl rfl (Nat.le_of_ble_eq_true rfl) dX10_calmest_62 (fun hz_12 => ?_)
      refine z_aload_n F 0 dX10_calmest_65 rfl rfl ?_
      refine z_get F 0 10 1 inlX10 rfl rfl (by decide) fl_X10_15 rfl dX10_calmest_66 ?_
      refine z_aload_n F 0 dX10_calmest_69 rfl rfl ?_
      refine z_get F 0 10 2 inlX10 rfl rfl (by decide) fl_X10_22 rfl dX10_calmest_70 ?_
      obtain ⟨r_13, judge_text_top_14, judge_text_worked_15, judge_known_16, hg, hf⟩ := zb4_some hf
      refine z_callVm (rest := []) F 4 (c_Judge_disquietOf (xL X) G a_judge a_crowd a_judge_text a_judge_known a_crowd_heights a_judge_text_tape a_judge_text_reader a_judge_text_steps a_judge_text_worked a_trial a_trial_who crowd_people crowd_heights judge_text_fed judge_text_length judge_text_top judge_text_steps judge_text_worked judge_known trial_length trial_who_11 r_13 judge_text_top_14 judge_text_worked_15 judge_known_16 hg) hy_X4_disquietOf ml_X10_40 hd_X4_disquietOf ⟨by omega, by omega⟩ rfl [3, 1, 2, 4, 5, 6, 7, 8, 9] rfl rfl 3 rfl rfl (w_Thoughts_calmest G a_this a_crowd a_judge a_trial a_numbers a_ahead a_orders a_crowd_heights a_judge_text a_judge_known a_judge_text_tape a_judge_text_reader a_judge_text_steps a_judge_text_worked a_trial_who a_p1 a_p1_who crowd_people crowd_heights judge_text_fed judge_text_length judge_text_top_14 judge_text_steps judge_text_worked_15 judge_known_16 trial_length trial_who_11 p1_length p1_who) [none, some 1, some 2, some 0, some 3, some 4, some 5, some 6, some 7, some 8, none, none] rfl (by decide +kernel) rfl rfl (Nat.le_of_ble_eq_true rfl) dX10_calmest_73 (fun hz_17 => ?_)
      refine z_istore F [(7, .int r_13), (0, .ref a_this), (2, .int v2), (3, .int v3), (4, .int v4), (5, .int v5), (6, .int v6)] dX10_calmest_76 (by decide) rfl ?_
      refine z_aload_n F 1 dX10_calmest_78 rfl rfl ?_
      refine z_get F 0 10 2 inlX10 rfl rfl (by decide) fl_X10_22 rfl dX10_calmest_79 ?_
      refine z_iload F 5 dX10_calmest_82 rfl ?_
      refine z_iload F 6 dX10_calmest_84 rfl ?_
      obtain ⟨trial_who_18, hg, hf⟩ := zb1_some hf
      refine z_callVm (rest := []) F 7 (c_Line_exchange (xL X) G a_trial a_trial_who trial_length trial_who_11 v5 v6 trial_who_18 hg) hy_X7_exchange ml_X10_50 hd_X7_exchange ⟨by omega, by omega⟩ rfl [8, 9] rfl rfl 8 rfl rfl (w_Thoughts_calmest G a_this a_crowd a_judge a_trial a_numbers a_ahead a_orders a_crowd_heights a_judge_text a_judge_known a_judge_text_tape a_judge_text_reader a_judge_text_steps a_judge_text_worked a_trial_who a_p1 a_p1_who crowd_people crowd_heights judge_text_fed judge_text_length judge_text_top_14 judge_text_steps judge_text_worked_15 judge_known_16 trial_length trial_who_18 p1_length p1_who) [none, none, none, none, none, none, none, none, some 0, some 1, none, none] rfl (by decide +kernel) rfl rfl (Nat.le_of_ble_eq_true rfl) dX10_calmest_86 (fun hz_19 => ?_)
      refine z_iload F 0 dX10_calmest_89 rfl ?_
      refine z_iload_n F 3 dX10_calmest_91 rfl rfl ?_
      refine z_icmp_ge F 108 dX10_calmest_92 (by decide) hf (fun hf _ => ?_) (fun hf _ => ?_)
      · refine z_iinc F [(6, .int (v6 + 1)), (7, .int r_13), (0, .ref a_this), (2, .int v2), (3, .int v3), (4, .int v4), (5, .int v5)] dX10_calmest_108 6 rfl rfl (by decide) rfl ?_
        refine z_goto F 42 dX10_calmest_111 (by decide) ?_
        exact z_sub [2, 3, 4, 5, 6, 0] rfl (ih judge_text_top_14 judge_text_worked_15 judge_known_16 trial_who_18 v3 v4 (v6 + 1) hf)
      · refine z_iload F 0 dX10_calmest_95 rfl ?_
        refine z_istore_n F [(3, .int r_13), (7, .int r_13), (0, .ref a_this), (2, .int v2), (4, .int v4), (5, .int v5), (6, .int v6)] dX10_calmest_97 rfl (by decide) rfl ?_
        refine z_bipush F (10) dX10_calmest_98 rfl ?_
        refine z_iload F 5 dX10_calmest_100 rfl ?_
        refine z_imul F dX10_calmest_102 ?_
        refine z_iload F 6 dX10_calmest_103 rfl ?_
        refine z_iadd F dX10_calmest_105 ?_
        refine z_istore F [(4, .int (((10 : Int32) * v5) + v6)), (3, .int r_13), (7, .int r_13), (0, .ref a_this), (2, .int v2), (5, .int v5), (6, .int v6)] dX10_calmest_106 (by decide) rfl ?_
        refine z_iinc F [(6, .int (v6 + 1)), (4, .int (((10 : Int32) * v5) + v6)), (3, .int r_13), (7, .int r_13), (0, .ref a_this), (2, .int v2), (5, .int v5)] dX10_calmest_108 6 rfl rfl (by decide) rfl ?_
        refine z_goto F 42 dX10_calmest_111 (by decide) ?_
        exact z_sub [4, 5, 2, 1, 6, 0] rfl (ih judge_text_top_14 judge_text_worked_15 judge_known_16 trial_who_18 r_13 (((10 : Int32) * v5) + v6) (v6 + 1) hf)

set_option maxRecDepth 100000 in
set_option maxHeartbeats 4000000 in
theorem l_Thoughts_calmest_24 {X : zX} (G : zG) (a_this : Nat) (a_crowd : Nat) (a_judge : Nat) (a_trial : Nat) (a_numbers : Nat) (a_ahead : Nat) (a_orders : Nat) (a_crowd_heights : Nat) (a_judge_text : Nat) (a_judge_known : Nat) (a_judge_text_tape : Nat) (a_judge_text_reader : Nat) (a_judge_text_steps : Nat) (a_judge_text_worked : Nat) (a_trial_who : Nat) (a_p1 : Nat) (a_p1_who : Nat) (crowd_people : Int32) (crowd_heights : Nat → Int32) (judge_text_fed : Int32) (judge_text_length : Int32) (judge_text_steps : Nat → Int32) (trial_length : Int32) (p1_length : Int32) (p1_who : Nat → Int32) (v2 : Int32) {v0 : Option Value} {w0 : va_W} (F : zF X G cX10_calmest RX10 8 (some .int) 5 141 v0 w0) (e_judge_text_top : Int32) (e_judge_text_worked : Nat → Int32) (e_judge_known : Nat → Int32) (e_trial_who : Nat → Int32) (e_v3 : Int32) (e_v4 : Int32) (hk : Z X G 8 (w_Thoughts_calmest G a_this a_crowd a_judge a_trial a_numbers a_ahead a_orders a_crowd_heights a_judge_text a_judge_known a_judge_text_tape a_judge_text_reader a_judge_text_steps a_judge_text_worked a_trial_who a_p1 a_p1_who crowd_people crowd_heights judge_text_fed judge_text_length e_judge_text_top judge_text_steps e_judge_text_worked e_judge_known trial_length e_trial_who p1_length p1_who) [(2, .int v2), (3, .int e_v3), (4, .int e_v4)] 120 []) :
    ∀ (fuel : Nat) (judge_text_top : Int32) (judge_text_worked : Nat → Int32) (judge_known : Nat → Int32) (trial_who : Nat → Int32) (v3 : Int32) (v4 : Int32) (v5 : Int32), f_Thoughts_calmest_L24 crowd_people crowd_heights judge_text_length judge_text_steps trial_length fuel judge_text_top judge_text_worked judge_known trial_who v3 v4 v5 = some (e_judge_text_top, e_judge_text_worked, e_judge_known, e_trial_who, e_v3, e_v4) → Z X G 8 (w_Thoughts_calmest G a_this a_crowd a_judge a_trial a_numbers a_ahead a_orders a_crowd_heights a_judge_text a_judge_known a_judge_text_tape a_judge_text_reader a_judge_text_steps a_judge_text_worked a_trial_who a_p1 a_p1_who crowd_people crowd_heights judge_text_fed judge_text_length judge_text_top judge_text_steps judge_text_worked judge_known trial_length trial_who p1_length p1_who) [(0, .ref a_this), (2, .int v2), (3, .int v3), (4, .int v4), (5, .int v5)] 24 [] := by
  intro fuel
  induction fuel with
  | zero => intro judge_text_top judge_text_worked judge_known trial_who v3 v4 v5 hf; exact absurd ((f_Thoughts_calmest_L24.eq_1 ..).symm.trans hf) (fun h => by cases h)
  | succ fuel ih =>
    intro judge_text_top judge_text_worked judge_known trial_who v3 v4 v5 hf
    replace hf := (f_Thoughts_calmest_L24.eq_2 ..).symm.trans hf
    refine z_iload F 4 dX10_calmest_24 rfl ?_
    refine z_aload_n F 0 dX10_calmest_26 rfl rfl ?_
    refine z_get F 0 10 2 inlX10 rfl rfl (by decide) fl_X10_22 rfl dX10_calmest_27 ?_
    refine z_callVm (rest := [.int v5]) F 7 (c_Line_size (xL X) G a_trial a_trial_who trial_length _ rfl) hy_X7_size ml_X10_46 hd_X7_size ⟨by omega, by omega⟩ rfl [8] rfl rfl 8 rfl rfl (w_Thoughts_calmest G a_this a_crowd a_judge a_trial a_numbers a_ahead a_orders a_crowd_heights a_judge_text a_judge_known a_judge_text_tape a_judge_text_reader a_judge_text_steps a_judge_text_worked a_trial_who a_p1 a_p1_who crowd_people crowd_heights judge_text_fed judge_text_length judge_text_top judge_text_steps judge_text_worked judge_known trial_length trial_who p1_length p1_who) [none, none, none, none, none, none, none, none, some 0, none, none, none] rfl (by decide +kernel) rfl rfl (Nat.le_of_ble_eq_true rfl) dX10_calmest_30 (fun hz_9 => ?_)
    refine z_icmp_ge F 120 dX10_calmest_33 (by decide) hf (fun hf _ => ?_) (fun hf _ => ?_)
    · have eq1 := Option.some.inj hf
      obtain ⟨ee1, eq2⟩ := Prod.mk.inj eq1
      obtain ⟨ee2, eq3⟩ := Prod.mk.inj eq2
      obtain ⟨ee3, eq4⟩ := Prod.mk.inj eq3
      obtain ⟨ee4, eq5⟩ := Prod.mk.inj eq4
      obtain ⟨ee5, ee6⟩ := Prod.mk.inj eq5
      subst ee1
      subst ee2
      subst ee3
      subst ee4
      subst ee5
      subst ee6
      exact z_sub [1, 2, 3] rfl hk
    · refine z_iload F 4 dX10_calmest_36 rfl ?_
      refine z_iconst F (1) dX10_calmest_38 rfl ?_
      refine z_iadd F dX10_calmest_39 ?_
      refine z_istore F [(6, .int (v5 + (1 : Int32))), (0, .ref a_this), (2, .int v2), (3, .int v3), (4, .int v4), (5, .int v5)] dX10_calmest_40 (by decide) rfl ?_
      obtain ⟨judge_text_top_20, judge_text_worked_21, judge_known_22, trial_who_23, v3_24, v4_25, hg, hf⟩ := zb6_some hf
      refine z_sub [1, 2, 3, 4, 5, 0] rfl ?_
      refine l_Thoughts_calmest_42 G a_this a_crowd a_judge a_trial a_numbers a_ahead a_orders a_crowd_heights a_judge_text a_judge_known a_judge_text_tape a_judge_text_reader a_judge_text_steps a_judge_text_worked a_trial_who a_p1 a_p1_who crowd_people crowd_heights judge_text_fed judge_text_length judge_text_steps trial_length p1_length p1_who v2 v5 F judge_text_top_20 judge_text_worked_21 judge_known_22 trial_who_23 v3_24 v4_25 ?_ FU judge_text_top judge_text_worked judge_known trial_who v3 v4 (v5 + (1 : Int32)) hg
      refine z_iinc F [(5, .int (v5 + 1)), (0, .ref a_this), (2, .int v2), (3, .int v3_24), (4, .int v4_25)] dX10_calmest_114 4 rfl rfl (by decide) rfl ?_
      refine z_goto F 24 dX10_calmest_117 (by decide) ?_
      exact z_sub [1, 2, 3, 4, 0] rfl (ih judge_text_top_20 judge_text_worked_21 judge_known_22 trial_who_23 v3_24 v4_25 (v5 + 1) hf)

set_option maxRecDepth 100000 in
set_option maxHeartbeats 4000000 in
theorem c_Thoughts_calmest (l : Launch) (G : zG) (a_this : Nat) (a_crowd : Nat) (a_judge : Nat) (a_trial : Nat) (a_numbers : Nat) (a_ahead : Nat) (a_orders : Nat) (a_crowd_heights : Nat) (a_judge_text : Nat) (a_judge_known : Nat) (a_judge_text_tape : Nat) (a_judge_text_reader : Nat) (a_judge_text_steps : Nat) (a_judge_text_worked : Nat) (a_trial_who : Nat) (a_p1 : Nat) (a_p1_who : Nat) (crowd_people : Int32) (crowd_heights : Nat → Int32) (judge_text_fed : Int32) (judge_text_length : Int32) (judge_text_top : Int32) (judge_text_steps : Nat → Int32) (judge_text_worked : Nat → Int32) (judge_known : Nat → Int32) (trial_length : Int32) (trial_who : Nat → Int32) (p1_length : Int32) (p1_who : Nat → Int32) (x2 : Int32) (r_ : Int32) (o_judge_text_top : Int32) (o_judge_text_worked : Nat → Int32) (o_judge_known : Nat → Int32) (o_trial_length : Int32) (o_trial_who : Nat → Int32) (hf : f_Thoughts_calmest crowd_people crowd_heights judge_text_length judge_text_top judge_text_steps judge_text_worked judge_known trial_length trial_who p1_length p1_who x2 = some (r_, o_judge_text_top, o_judge_text_worked, o_judge_known, o_trial_length, o_trial_who)) : zM l yX10_calmest cX10_calmest 8 (some .int) 5 141 G [.ref a_this, .ref a_p1, .int x2] (w_Thoughts_calmest G a_this a_crowd a_judge a_trial a_numbers a_ahead a_orders a_crowd_heights a_judge_text a_judge_known a_judge_text_tape a_judge_text_reader a_judge_text_steps a_judge_text_worked a_trial_who a_p1 a_p1_who crowd_people crowd_heights judge_text_fed judge_text_length judge_text_top judge_text_steps judge_text_worked judge_known trial_length trial_who p1_length p1_who) (some (.int r_)) (w_Thoughts_calmest G a_this a_crowd a_judge a_trial a_numbers a_ahead a_orders a_crowd_heights a_judge_text a_judge_known a_judge_text_tape a_judge_text_reader a_judge_text_steps a_judge_text_worked a_trial_who a_p1 a_p1_who crowd_people crowd_heights judge_text_fed judge_text_length o_judge_text_top judge_text_steps o_judge_text_worked o_judge_known o_trial_length o_trial_who p1_length p1_who) := by
  refine zM.of [(0, .ref a_this), (1, .ref a_p1), (2, .int x2)] (own := RX10) rfl (by decide +kernel) (Nat.le_of_ble_eq_true rfl) rfl rfl fun X hX F => ?_
  subst hX
  replace hf := (f_Thoughts_calmest.eq_1 ..).symm.trans hf
  refine z_aload_n F 0 dX10_calmest_0 rfl rfl ?_
  refine z_get F 0 10 2 inlX10 rfl rfl (by decide) fl_X10_22 rfl dX10_calmest_1 ?_
  refine z_aload_n F 1 dX10_calmest_4 rfl rfl ?_
  obtain ⟨trial_length_1, trial_who_2, hg, hf⟩ := zb2_some hf
  refine z_callVm (rest := []) F 7 (c_Line_copyFrom (xL X) G a_trial a_trial_who a_p1 a_p1_who trial_length trial_who p1_length p1_who trial_length_1 trial_who_2 hg) hy_X7_copyFrom ml_X10_36 hd_X7_copyFrom ⟨by omega, by omega⟩ rfl [8, 9, 10, 11] rfl rfl 8 rfl rfl (w_Thoughts_calmest G a_this a_crowd a_judge a_trial a_numbers a_ahead a_orders a_crowd_heights a_judge_text a_judge_known a_judge_text_tape a_judge_text_reader a_judge_text_steps a_judge_text_worked a_trial_who a_p1 a_p1_who crowd_people crowd_heights judge_text_fed judge_text_length judge_text_top judge_text_steps judge_text_worked judge_known trial_length_1 trial_who_2 p1_length p1_who) [none, none, none, none, none, none, none, none, some 0, some 1, some 2, some 3] rfl (by decide +kernel) rfl rfl (Nat.le_of_ble_eq_true rfl) dX10_calmest_5 (fun hz_3 => ?_)
  refine z_aload_n F 0 dX10_calmest_8 rfl rfl ?_
  refine z_get F 0 10 1 inlX10 rfl rfl (by decide) fl_X10_15 rfl dX10_calmest_9 ?_
  refine z_aload_n F 1 dX10_calmest_12 rfl rfl ?_
  obtain ⟨r_4, judge_text_top_5, judge_text_worked_6, judge_known_7, hg, hf⟩ := zb4_some hf
  refine z_callVm (rest := []) F 4 (c_Judge_disquietOf (xL X) G a_judge a_crowd a_judge_text a_judge_known a_crowd_heights a_judge_text_tape a_judge_text_reader a_judge_text_steps a_judge_text_worked a_p1 a_p1_who crowd_people crowd_heights judge_text_fed judge_text_length judge_text_top judge_text_steps judge_text_worked judge_known p1_length p1_who r_4 judge_text_top_5 judge_text_worked_6 judge_known_7 hg) hy_X4_disquietOf ml_X10_40 hd_X4_disquietOf ⟨by omega, by omega⟩ rfl [3, 1, 2, 4, 5, 6, 7, 10, 11] rfl rfl 3 rfl rfl (w_Thoughts_calmest G a_this a_crowd a_judge a_trial a_numbers a_ahead a_orders a_crowd_heights a_judge_text a_judge_known a_judge_text_tape a_judge_text_reader a_judge_text_steps a_judge_text_worked a_trial_who a_p1 a_p1_who crowd_people crowd_heights judge_text_fed judge_text_length judge_text_top_5 judge_text_steps judge_text_worked_6 judge_known_7 trial_length_1 trial_who_2 p1_length p1_who) [none, some 1, some 2, some 0, some 3, some 4, some 5, some 6, none, none, some 7, some 8] rfl (by decide +kernel) rfl rfl (Nat.le_of_ble_eq_true rfl) dX10_calmest_13 (fun hz_8 => ?_)
  refine z_istore_n F [(3, .int r_4), (0, .ref a_this), (1, .ref a_p1), (2, .int x2)] dX10_calmest_16 rfl (by decide) rfl ?_
  refine z_bipush F (-2) dX10_calmest_17 rfl ?_
  refine z_istore F [(4, .int (-2)), (3, .int r_4), (0, .ref a_this), (1, .ref a_p1), (2, .int x2)] dX10_calmest_19 (by decide) rfl ?_
  refine z_iconst F (0) dX10_calmest_21 rfl ?_
  refine z_istore F [(5, .int 0), (4, .int (-2)), (3, .int r_4), (0, .ref a_this), (1, .ref a_p1), (2, .int x2)] dX10_calmest_22 (by decide) rfl ?_
  obtain ⟨judge_text_top_26, judge_text_worked_27, judge_known_28, trial_who_29, v3_30, v4_31, hg, hf⟩ := zb6_some hf
  refine z_sub [3, 5, 2, 1, 0] rfl ?_
  refine l_Thoughts_calmest_24 G a_this a_crowd a_judge a_trial a_numbers a_ahead a_orders a_crowd_heights a_judge_text a_judge_known a_judge_text_tape a_judge_text_reader a_judge_text_steps a_judge_text_worked a_trial_who a_p1 a_p1_who crowd_people crowd_heights judge_text_fed judge_text_length judge_text_steps trial_length_1 p1_length p1_who x2 F judge_text_top_26 judge_text_worked_27 judge_known_28 trial_who_29 v3_30 v4_31 ?_ FU judge_text_top_5 judge_text_worked_6 judge_known_7 trial_who_2 r_4 (-2) 0 hg
  refine z_iload F 2 dX10_calmest_120 rfl ?_
  refine z_bipush F (-2) dX10_calmest_122 rfl ?_
  refine z_icmp_eq F 131 dX10_calmest_124 (by decide) hf (fun hf _ => ?_) (fun hf _ => ?_)
  · refine z_iload F 2 dX10_calmest_131 rfl ?_
    refine z_goto F 137 dX10_calmest_133 (by decide) ?_
    have eq1 := Option.some.inj hf
    obtain ⟨ee1, eq2⟩ := Prod.mk.inj eq1
    obtain ⟨ee2, eq3⟩ := Prod.mk.inj eq2
    obtain ⟨ee3, eq4⟩ := Prod.mk.inj eq3
    obtain ⟨ee4, eq5⟩ := Prod.mk.inj eq4
    obtain ⟨ee5, ee6⟩ := Prod.mk.inj eq5
    subst ee1
    subst ee2
    subst ee3
    subst ee4
    subst ee5
    subst ee6
    exact z_iret F rfl rfl rfl rfl dX10_calmest_137
  · refine z_iload_n F 0 dX10_calmest_127 rfl rfl ?_
    refine z_if_eq F 136 dX10_calmest_128 (by decide) hf (fun hf _ => ?_) (fun hf _ => ?_)
    · refine z_iload_n F 1 dX10_calmest_136 rfl rfl ?_
      have eq1 := Option.some.inj hf
      obtain ⟨ee1, eq2⟩ := Prod.mk.inj eq1
      obtain ⟨ee2, eq3⟩ := Prod.mk.inj eq2
      obtain ⟨ee3, eq4⟩ := Prod.mk.inj eq3
      obtain ⟨ee4, eq5⟩ := Prod.mk.inj eq4
      obtain ⟨ee5, ee6⟩ := Prod.mk.inj eq5
      subst ee1
      subst ee2
      subst ee3
      subst ee4
      subst ee5
      subst ee6
      exact z_iret F rfl rfl rfl rfl dX10_calmest_137
    · refine z_iload F 2 dX10_calmest_131 rfl ?_
      refine z_goto F 137 dX10_calmest_133 (by decide) ?_
      have eq1 := Option.some.inj hf
      obtain ⟨ee1, eq2⟩ := Prod.mk.inj eq1
      obtain ⟨ee2, eq3⟩ := Prod.mk.inj eq2
      obtain ⟨ee3, eq4⟩ := Prod.mk.inj eq3
      obtain ⟨ee4, eq5⟩ := Prod.mk.inj eq4
      obtain ⟨ee5, ee6⟩ := Prod.mk.inj eq5
      subst ee1
      subst ee2
      subst ee3
      subst ee4
      subst ee5
      subst ee6
      exact z_iret F rfl rfl rfl rfl dX10_calmest_137

abbrev w_Thoughts_bestEntry (G : zG) (a_this : Nat) (a_crowd : Nat) (a_judge : Nat) (a_trial : Nat) (a_numbers : Nat) (a_ahead : Nat) (a_orders : Nat) (a_crowd_heights : Nat) (a_judge_text : Nat) (a_judge_known : Nat) (a_judge_text_tape : Nat) (a_judge_text_reader : Nat) (a_judge_text_steps : Nat) (a_judge_text_worked : Nat) (a_trial_who : Nat) (a_p1 : Nat) (a_p1_who : Nat) (crowd_people : Int32) (crowd_heights : Nat → Int32) (judge_text_fed : Int32) (judge_text_length : Int32) (judge_text_top : Int32) (judge_text_steps : Nat → Int32) (judge_text_worked : Nat → Int32) (judge_known : Nat → Int32) (trial_length : Int32) (trial_who : Nat → Int32) (p1_length : Int32) (p1_who : Nat → Int32) : va_W := [(a_this, cO 10 [.ref a_crowd, .ref a_judge, .ref a_trial, .ref a_numbers, .ref a_ahead, .ref a_orders]), (a_crowd, cO 1 [.ref a_crowd_heights, .int crowd_people]), (a_crowd_heights, cI G 9 crowd_heights), (a_judge, cO 4 [.ref a_crowd, .ref a_judge_text, .ref a_judge_known]), (a_judge_text, cO 5 [.ref a_judge_text_tape, .int judge_text_fed, .ref a_judge_text_reader, .ref a_judge_text_steps, .int judge_text_length, .ref a_judge_text_worked, .int judge_text_top]), (a_judge_text_steps, cI G 121 judge_text_steps), (a_judge_text_worked, cI G 121 judge_text_worked), (a_judge_known, cB G 729 judge_known), (a_trial, cO 7 [.ref a_trial_who, .int trial_length]), (a_trial_who, cI G 9 trial_who), (a_p1, cO 7 [.ref a_p1_who, .int p1_length]), (a_p1_who, cI G 9 p1_who)]
def f_Thoughts_bestEntry_L10 (crowd_people : Int32) (crowd_heights : Nat → Int32) (judge_text_length : Int32) (judge_text_steps : Nat → Int32) (p1_length : Int32) (p1_who : Nat → Int32) (v2 : Int32) : Nat → Int32 → (Nat → Int32) → (Nat → Int32) → Int32 → (Nat → Int32) → Int32 → Int32 → Int32 → Option (Int32 × (Nat → Int32) × (Nat → Int32) × Int32 × (Nat → Int32) × Int32 × Int32)
  | 0, _, _, _, _, _, _, _, _ => none
  | fuel + 1, judge_text_top, judge_text_worked, judge_known, trial_length, trial_who, v4, v5, v6 => (if (f_Line_size p1_length) < v6 then (some (judge_text_top, judge_text_worked, judge_known, trial_length, trial_who, v4, v5)) else (zb2 (f_Line_copyFrom trial_length trial_who p1_length p1_who) fun trial_length_2 trial_who_3 => (zb2 (f_Line_insert trial_length_2 trial_who_3 v2 v6) fun trial_length_5 trial_who_6 => (zb4 (f_Judge_disquietOf crowd_people crowd_heights judge_text_length judge_text_top judge_text_steps judge_text_worked judge_known trial_length_5 trial_who_6) fun r_8 judge_text_top_9 judge_text_worked_10 judge_known_11 => (if v5 = (-2) then (f_Thoughts_bestEntry_L10 crowd_people crowd_heights judge_text_length judge_text_steps p1_length p1_who v2 fuel judge_text_top_9 judge_text_worked_10 judge_known_11 trial_length_5 trial_who_6 r_8 v6 (v6 + 1)) else (if v4 ≤ r_8 then (f_Thoughts_bestEntry_L10 crowd_people crowd_heights judge_text_length judge_text_steps p1_length p1_who v2 fuel judge_text_top_9 judge_text_worked_10 judge_known_11 trial_length_5 trial_who_6 v4 v5 (v6 + 1)) else (f_Thoughts_bestEntry_L10 crowd_people crowd_heights judge_text_length judge_text_steps p1_length p1_who v2 fuel judge_text_top_9 judge_text_worked_10 judge_known_11 trial_length_5 trial_who_6 r_8 v6 (v6 + 1))))))))
def f_Thoughts_bestEntry (crowd_people : Int32) (crowd_heights : Nat → Int32) (judge_text_length : Int32) (judge_text_top : Int32) (judge_text_steps : Nat → Int32) (judge_text_worked : Nat → Int32) (judge_known : Nat → Int32) (trial_length : Int32) (trial_who : Nat → Int32) (p1_length : Int32) (p1_who : Nat → Int32) (x2 : Int32) (x3 : Int32) : Option (Int32 × Int32 × (Nat → Int32) × (Nat → Int32) × Int32 × (Nat → Int32)) := (zb7 (f_Thoughts_bestEntry_L10 crowd_people crowd_heights judge_text_length judge_text_steps p1_length p1_who x2 FU judge_text_top judge_text_worked judge_known trial_length trial_who 0 (-2) 0) fun judge_text_top_13 judge_text_worked_14 judge_known_15 trial_length_16 trial_who_17 v4_18 v5_19 => (if x3 = 0 then (some (v4_18, judge_text_top_13, judge_text_worked_14, judge_known_15, trial_length_16, trial_who_17)) else (some (v5_19, judge_text_top_13, judge_text_worked_14, judge_known_15, trial_length_16, trial_who_17))))
set_option maxRecDepth 100000 in
set_option maxHeartbeats 4000000 in
theorem l_Thoughts_bestEntry_10 {X : zX} (G : zG) (a_this : Nat) (a_crowd : Nat) (a_judge : Nat) (a_trial : Nat) (a_numbers : Nat) (a_ahead : Nat) (a_orders : Nat) (a_crowd_heights : Nat) (a_judge_text : Nat) (a_judge_known : Nat) (a_judge_text_tape : Nat) (a_judge_text_reader : Nat) (a_judge_text_steps : Nat) (a_judge_text_worked : Nat) (a_trial_who : Nat) (a_p1 : Nat) (a_p1_who : Nat) (crowd_people : Int32) (crowd_heights : Nat → Int32) (judge_text_fed : Int32) (judge_text_length : Int32) (judge_text_steps : Nat → Int32) (p1_length : Int32) (p1_who : Nat → Int32) (v2 : Int32) (v3 : Int32) {v0 : Option Value} {w0 : va_W} (F : zF X G cX10_bestEntry RX10 8 (some .int) 5 141 v0 w0) (e_judge_text_top : Int32) (e_judge_text_worked : Nat → Int32) (e_judge_known : Nat → Int32) (e_trial_length : Int32) (e_trial_who : Nat → Int32) (e_v4 : Int32) (e_v5 : Int32) (hk : Z X G 8 (w_Thoughts_bestEntry G a_this a_crowd a_judge a_trial a_numbers a_ahead a_orders a_crowd_heights a_judge_text a_judge_known a_judge_text_tape a_judge_text_reader a_judge_text_steps a_judge_text_worked a_trial_who a_p1 a_p1_who crowd_people crowd_heights judge_text_fed judge_text_length e_judge_text_top judge_text_steps e_judge_text_worked e_judge_known e_trial_length e_trial_who p1_length p1_who) [(3, .int v3), (4, .int e_v4), (5, .int e_v5)] 78 []) :
    ∀ (fuel : Nat) (judge_text_top : Int32) (judge_text_worked : Nat → Int32) (judge_known : Nat → Int32) (trial_length : Int32) (trial_who : Nat → Int32) (v4 : Int32) (v5 : Int32) (v6 : Int32), f_Thoughts_bestEntry_L10 crowd_people crowd_heights judge_text_length judge_text_steps p1_length p1_who v2 fuel judge_text_top judge_text_worked judge_known trial_length trial_who v4 v5 v6 = some (e_judge_text_top, e_judge_text_worked, e_judge_known, e_trial_length, e_trial_who, e_v4, e_v5) → Z X G 8 (w_Thoughts_bestEntry G a_this a_crowd a_judge a_trial a_numbers a_ahead a_orders a_crowd_heights a_judge_text a_judge_known a_judge_text_tape a_judge_text_reader a_judge_text_steps a_judge_text_worked a_trial_who a_p1 a_p1_who crowd_people crowd_heights judge_text_fed judge_text_length judge_text_top judge_text_steps judge_text_worked judge_known trial_length trial_who p1_length p1_who) [(0, .ref a_this), (1, .ref a_p1), (2, .int v2), (3, .int v3), (4, .int v4), (5, .int v5), (6, .int v6)] 10 [] := by
  intro fuel
  induction fuel with
  | zero => intro judge_text_top judge_text_worked judge_known trial_length trial_who v4 v5 v6 hf; exact absurd ((f_Thoughts_bestEntry_L10.eq_1 ..).symm.trans hf) (fun h => by cases h)
  | succ fuel ih =>
    intro judge_text_top judge_text_worked judge_known trial_length trial_who v4 v5 v6 hf
    replace hf := (f_Thoughts_bestEntry_L10.eq_2 ..).symm.trans hf
    refine z_iload F 6 dX10_bestEntry_10 rfl ?_
    refine z_aload_n F 1 dX10_bestEntry_12 rfl rfl ?_
    refine z_callVm (rest := [.int v6]) F 7 (c_Line_size (xL X) G a_p1 a_p1_who p1_length _ rfl) hy_X7_size ml_X10_46 hd_X7_size ⟨by omega, by omega⟩ rfl [10] rfl rfl 10 rfl rfl (w_Thoughts_bestEntry G a_this a_crowd a_judge a_trial a_numbers a_ahead a_orders a_crowd_heights a_judge_text a_judge_known a_judge_text_tape a_judge_text_reader a_judge_text_steps a_judge_text_worked a_trial_who a_p1 a_p1_who crowd_people crowd_heights judge_text_fed judge_text_length judge_text_top judge_text_steps judge_text_worked judge_known trial_length trial_who p1_length p1_who) [none, none, none, none, none, none, none, none, none, none, some 0, none] rfl (by decide +kernel) rfl rfl (Nat.le_of_ble_eq_true rfl) dX10_bestEntry_13 (fun hz_1 => ?_)
    refine z_icmp_gt F 78 dX10_bestEntry_16 (by decide) hf (fun hf _ => ?_) (fun hf _ => ?_)
    · have eq1 := Option.some.inj hf
      obtain ⟨ee1, eq2⟩ := Prod.mk.inj eq1
      obtain ⟨ee2, eq3⟩ := Prod.mk.inj eq2
      obtain ⟨ee3, eq4⟩ := Prod.mk.inj eq3
      obtain ⟨ee4, eq5⟩ := Prod.mk.inj eq4
      obtain ⟨ee5, eq6⟩ := Prod.mk.inj eq5
      obtain ⟨ee6, ee7⟩ := Prod.mk.inj eq6
      subst ee1
      subst ee2
      subst ee3
      subst ee4
      subst ee5
      subst ee6
      subst ee7
      exact z_sub [3, 4, 5] rfl hk
    · refine z_aload_n F 0 dX10_bestEntry_19 rfl rfl ?_
      refine z_get F 0 10 2 inlX10 rfl rfl (by decide) fl_X10_22 rfl dX10_bestEntry_20 ?_
      refine z_aload_n F 1 dX10_bestEntry_23 rfl rfl ?_
      obtain ⟨trial_length_2, trial_who_3, hg, hf⟩ := zb2_some hf
      refine z_callVm (rest := []) F 7 (c_Line_copyFrom (xL X) G a_trial a_trial_who a_p1 a_p1_who trial_length trial_who p1_length p1_who trial_length_2 trial_who_3 hg) hy_X7_copyFrom ml_X10_36 hd_X7_copyFrom ⟨by omega, by omega⟩ rfl [8, 9, 10, 11] rfl rfl 8 rfl rfl (w_Thoughts_bestEntry G a_this a_crowd a_judge a_trial a_numbers a_ahead a_orders a_crowd_heights a_judge_text a_judge_known a_judge_text_tape a_judge_text_reader a_judge_text_steps a_judge_text_worked a_trial_who a_p1 a_p1_who crowd_people crowd_heights judge_text_fed judge_text_length judge_text_top judge_text_steps judge_text_worked judge_known trial_length_2 trial_who_3 p1_length p1_who) [none, none, none, none, none, none, none, none, some 0, some 1, some 2, some 3] rfl (by decide +kernel) rfl rfl (Nat.le_of_ble_eq_true rfl) dX10_bestEntry_24 (fun hz_4 => ?_)
      refine z_aload_n F 0 dX10_bestEntry_27 rfl rfl ?_
      refine z_get F 0 10 2 inlX10 rfl rfl (by decide) fl_X10_22 rfl dX10_bestEntry_28 ?_
      refine z_iload_n F 2 dX10_bestEntry_31 rfl rfl ?_
      refine z_iload F 6 dX10_bestEntry_32 rfl ?_
      obtain ⟨trial_length_5, trial_who_6, hg, hf⟩ := zb2_some hf
      refine z_callVm (rest := []) F 7 (c_Line_insert (xL X) G a_trial a_trial_who trial_length_2 trial_who_3 v2 v6 trial_length_5 trial_who_6 hg) hy_X7_insert ml_X10_54 hd_X7_insert ⟨by omega, by omega⟩ rfl [8, 9] rfl rfl 8 rfl rfl (w_Thoughts_bestEntry G a_this a_crowd a_judge a_trial a_numbers a_ahead a_orders a_crowd_heights a_judge_text a_judge_known a_judge_text_tape a_judge_text_reader a_judge_text_steps a_judge_text_worked a_trial_who a_p1 a_p1_who crowd_people crowd_heights judge_text_fed judge_text_length judge_text_top judge_text_steps judge_text_worked judge_known trial_length_5 trial_who_6 p1_length p1_who) [none, none, none, none, none, none, none, none, some 0, some 1, none, none] rfl (by decide +kernel) rfl rfl (Nat.le_of_ble_eq_true rfl) dX10_bestEntry_34 (fun hz_7 => ?_)
      refine z_aload_n F 0 dX10_bestEntry_37 rfl rfl ?_
      refine z_get F 0 10 1 inlX10 rfl rfl (by decide) fl_X10_15 rfl dX10_bestEntry_38 ?_
      refine z_aload_n F 0 dX10_bestEntry_41 rfl rfl ?_
      refine z_get F 0 10 2 inlX10 rfl rfl (by decide) fl_X10_22 rfl dX10_bestEntry_42 ?_
      obtain ⟨r_8, judge_text_top_9, judge_text_worked_10, judge_known_11, hg, hf⟩ := zb4_some hf
      refine z_callVm (rest := []) F 4 (c_Judge_disquietOf (xL X) G a_judge a_crowd a_judge_text a_judge_known a_crowd_heights a_judge_text_tape a_judge_text_reader a_judge_text_steps a_judge_text_worked a_trial a_trial_who crowd_people crowd_heights judge_text_fed judge_text_length judge_text_top judge_text_steps judge_text_worked judge_known trial_length_5 trial_who_6 r_8 judge_text_top_9 judge_text_worked_10 judge_known_11 hg) hy_X4_disquietOf ml_X10_40 hd_X4_disquietOf ⟨by omega, by omega⟩ rfl [3, 1, 2, 4, 5, 6, 7, 8, 9] rfl rfl 3 rfl rfl (w_Thoughts_bestEntry G a_this a_crowd a_judge a_trial a_numbers a_ahead a_orders a_crowd_heights a_judge_text a_judge_known a_judge_text_tape a_judge_text_reader a_judge_text_steps a_judge_text_worked a_trial_who a_p1 a_p1_who crowd_people crowd_heights judge_text_fed judge_text_length judge_text_top_9 judge_text_steps judge_text_worked_10 judge_known_11 trial_length_5 trial_who_6 p1_length p1_who) [none, some 1, some 2, some 0, some 3, some 4, some 5, some 6, some 7, some 8, none, none] rfl (by decide +kernel) rfl rfl (Nat.le_of_ble_eq_true rfl) dX10_bestEntry_45 (fun hz_12 => ?_)
      refine z_istore F [(7, .int r_8), (0, .ref a_this), (1, .ref a_p1), (2, .int v2), (3, .int v3), (4, .int v4), (5, .int v5), (6, .int v6)] dX10_bestEntry_48 (by decide) rfl ?_
      refine z_iload F 6 dX10_bestEntry_50 rfl ?_
      refine z_bipush F (-2) dX10_bestEntry_52 rfl ?_
      refine z_icmp_eq F 64 dX10_bestEntry_54 (by decide) hf (fun hf _ => ?_) (fun hf _ => ?_)
      · refine z_iload F 0 dX10_bestEntry_64 rfl ?_
        refine z_istore F [(4, .int r_8), (7, .int r_8), (0, .ref a_this), (1, .ref a_p1), (2, .int v2), (3, .int v3), (5, .int v5), (6, .int v6)] dX10_bestEntry_66 (by decide) rfl ?_
        refine z_iload F 7 dX10_bestEntry_68 rfl ?_
        refine z_istore F [(5, .int v6), (4, .int r_8), (7, .int r_8), (0, .ref a_this), (1, .ref a_p1), (2, .int v2), (3, .int v3), (6, .int v6)] dX10_bestEntry_70 (by decide) rfl ?_
        refine z_iinc F [(6, .int (v6 + 1)), (5, .int v6), (4, .int r_8), (7, .int r_8), (0, .ref a_this), (1, .ref a_p1), (2, .int v2), (3, .int v3)] dX10_bestEntry_72 7 rfl rfl (by decide) rfl ?_
        refine z_goto F 10 dX10_bestEntry_75 (by decide) ?_
        exact z_sub [4, 5, 6, 7, 2, 1, 0] rfl (ih judge_text_top_9 judge_text_worked_10 judge_known_11 trial_length_5 trial_who_6 r_8 v6 (v6 + 1) hf)
      · refine z_iload F 0 dX10_bestEntry_57 rfl ?_
        refine z_iload F 5 dX10_bestEntry_59 rfl ?_
        refine z_icmp_ge F 72 dX10_bestEntry_61 (by decide) hf (fun hf _ => ?_) (fun hf _ => ?_)
        · refine z_iinc F [(6, .int (v6 + 1)), (7, .int r_8), (0, .ref a_this), (1, .ref a_p1), (2, .int v2), (3, .int v3), (4, .int v4), (5, .int v5)] dX10_bestEntry_72 7 rfl rfl (by decide) rfl ?_
          refine z_goto F 10 dX10_bestEntry_75 (by decide) ?_
          exact z_sub [2, 3, 4, 5, 6, 7, 0] rfl (ih judge_text_top_9 judge_text_worked_10 judge_known_11 trial_length_5 trial_who_6 v4 v5 (v6 + 1) hf)
        · refine z_iload F 0 dX10_bestEntry_64 rfl ?_
          refine z_istore F [(4, .int r_8), (7, .int r_8), (0, .ref a_this), (1, .ref a_p1), (2, .int v2), (3, .int v3), (5, .int v5), (6, .int v6)] dX10_bestEntry_66 (by decide) rfl ?_
          refine z_iload F 7 dX10_bestEntry_68 rfl ?_
          refine z_istore F [(5, .int v6), (4, .int r_8), (7, .int r_8), (0, .ref a_this), (1, .ref a_p1), (2, .int v2), (3, .int v3), (6, .int v6)] dX10_bestEntry_70 (by decide) rfl ?_
          refine z_iinc F [(6, .int (v6 + 1)), (5, .int v6), (4, .int r_8), (7, .int r_8), (0, .ref a_this), (1, .ref a_p1), (2, .int v2), (3, .int v3)] dX10_bestEntry_72 7 rfl rfl (by decide) rfl ?_
          refine z_goto F 10 dX10_bestEntry_75 (by decide) ?_
          exact z_sub [4, 5, 6, 7, 2, 1, 0] rfl (ih judge_text_top_9 judge_text_worked_10 judge_known_11 trial_length_5 trial_who_6 r_8 v6 (v6 + 1) hf)

set_option maxRecDepth 100000 in
set_option maxHeartbeats 4000000 in
theorem c_Thoughts_bestEntry (l : Launch) (G : zG) (a_this : Nat) (a_crowd : Nat) (a_judge : Nat) (a_trial : Nat) (a_numbers : Nat) (a_ahead : Nat) (a_orders : Nat) (a_crowd_heights : Nat) (a_judge_text : Nat) (a_judge_known : Nat) (a_judge_text_tape : Nat) (a_judge_text_reader : Nat) (a_judge_text_steps : Nat) (a_judge_text_worked : Nat) (a_trial_who : Nat) (a_p1 : Nat) (a_p1_who : Nat) (crowd_people : Int32) (crowd_heights : Nat → Int32) (judge_text_fed : Int32) (judge_text_length : Int32) (judge_text_top : Int32) (judge_text_steps : Nat → Int32) (judge_text_worked : Nat → Int32) (judge_known : Nat → Int32) (trial_length : Int32) (trial_who : Nat → Int32) (p1_length : Int32) (p1_who : Nat → Int32) (x2 : Int32) (x3 : Int32) (r_ : Int32) (o_judge_text_top : Int32) (o_judge_text_worked : Nat → Int32) (o_judge_known : Nat → Int32) (o_trial_length : Int32) (o_trial_who : Nat → Int32) (hf : f_Thoughts_bestEntry crowd_people crowd_heights judge_text_length judge_text_top judge_text_steps judge_text_worked judge_known trial_length trial_who p1_length p1_who x2 x3 = some (r_, o_judge_text_top, o_judge_text_worked, o_judge_known, o_trial_length, o_trial_who)) : zM l yX10_bestEntry cX10_bestEntry 8 (some .int) 5 141 G [.ref a_this, .ref a_p1, .int x2, .int x3] (w_Thoughts_bestEntry G a_this a_crowd a_judge a_trial a_numbers a_ahead a_orders a_crowd_heights a_judge_text a_judge_known a_judge_text_tape a_judge_text_reader a_judge_text_steps a_judge_text_worked a_trial_who a_p1 a_p1_who crowd_people crowd_heights judge_text_fed judge_text_length judge_text_top judge_text_steps judge_text_worked judge_known trial_length trial_who p1_length p1_who) (some (.int r_)) (w_Thoughts_bestEntry G a_this a_crowd a_judge a_trial a_numbers a_ahead a_orders a_crowd_heights a_judge_text a_judge_known a_judge_text_tape a_judge_text_reader a_judge_text_steps a_judge_text_worked a_trial_who a_p1 a_p1_who crowd_people crowd_heights judge_text_fed judge_text_length o_judge_text_top judge_text_steps o_judge_text_worked o_judge_known o_trial_length o_trial_who p1_length p1_who) := by
  refine zM.of [(0, .ref a_this), (1, .ref a_p1), (2, .int x2), (3, .int x3)] (own := RX10) rfl (by decide +kernel) (Nat.le_of_ble_eq_true rfl) rfl rfl fun X hX F => ?_
  subst hX
  replace hf := (f_Thoughts_bestEntry.eq_1 ..).symm.trans hf
  refine z_iconst F (0) dX10_bestEntry_0 rfl ?_
  refine z_istore F [(4, .int 0), (0, .ref a_this), (1, .ref a_p1), (2, .int x2), (3, .int x3)] dX10_bestEntry_1 (by decide) rfl ?_
  refine z_bipush F (-2) dX10_bestEntry_3 rfl ?_
  refine z_istore F [(5, .int (-2)), (4, .int 0), (0, .ref a_this), (1, .ref a_p1), (2, .int x2), (3, .int x3)] dX10_bestEntry_5 (by decide) rfl ?_
  refine z_iconst F (0) dX10_bestEntry_7 rfl ?_
  refine z_istore F [(6, .int 0), (5, .int (-2)), (4, .int 0), (0, .ref a_this), (1, .ref a_p1), (2, .int x2), (3, .int x3)] dX10_bestEntry_8 (by decide) rfl ?_
  obtain ⟨judge_text_top_13, judge_text_worked_14, judge_known_15, trial_length_16, trial_who_17, v4_18, v5_19, hg, hf⟩ := zb7_some hf
  refine z_sub [3, 4, 5, 6, 2, 1, 0] rfl ?_
  refine l_Thoughts_bestEntry_10 G a_this a_crowd a_judge a_trial a_numbers a_ahead a_orders a_crowd_heights a_judge_text a_judge_known a_judge_text_tape a_judge_text_reader a_judge_text_steps a_judge_text_worked a_trial_who a_p1 a_p1_who crowd_people crowd_heights judge_text_fed judge_text_length judge_text_steps p1_length p1_who x2 x3 F judge_text_top_13 judge_text_worked_14 judge_known_15 trial_length_16 trial_who_17 v4_18 v5_19 ?_ FU judge_text_top judge_text_worked judge_known trial_length trial_who 0 (-2) 0 hg
  refine z_iload_n F 0 dX10_bestEntry_78 rfl rfl ?_
  refine z_if_eq F 87 dX10_bestEntry_79 (by decide) hf (fun hf _ => ?_) (fun hf _ => ?_)
  · refine z_iload F 1 dX10_bestEntry_87 rfl ?_
    have eq1 := Option.some.inj hf
    obtain ⟨ee1, eq2⟩ := Prod.mk.inj eq1
    obtain ⟨ee2, eq3⟩ := Prod.mk.inj eq2
    obtain ⟨ee3, eq4⟩ := Prod.mk.inj eq3
    obtain ⟨ee4, eq5⟩ := Prod.mk.inj eq4
    obtain ⟨ee5, ee6⟩ := Prod.mk.inj eq5
    subst ee1
    subst ee2
    subst ee3
    subst ee4
    subst ee5
    subst ee6
    exact z_iret F rfl rfl rfl rfl dX10_bestEntry_89
  · refine z_iload F 2 dX10_bestEntry_82 rfl ?_
    refine z_goto F 89 dX10_bestEntry_84 (by decide) ?_
    have eq1 := Option.some.inj hf
    obtain ⟨ee1, eq2⟩ := Prod.mk.inj eq1
    obtain ⟨ee2, eq3⟩ := Prod.mk.inj eq2
    obtain ⟨ee3, eq4⟩ := Prod.mk.inj eq3
    obtain ⟨ee4, eq5⟩ := Prod.mk.inj eq4
    obtain ⟨ee5, ee6⟩ := Prod.mk.inj eq5
    subst ee1
    subst ee2
    subst ee3
    subst ee4
    subst ee5
    subst ee6
    exact z_iret F rfl rfl rfl rfl dX10_bestEntry_89

abbrev w_Thoughts_leastGrowth (G : zG) (a_this : Nat) (a_crowd : Nat) (a_judge : Nat) (a_trial : Nat) (a_numbers : Nat) (a_ahead : Nat) (a_orders : Nat) (a_crowd_heights : Nat) (a_judge_text : Nat) (a_judge_known : Nat) (a_judge_text_tape : Nat) (a_judge_text_reader : Nat) (a_judge_text_steps : Nat) (a_judge_text_worked : Nat) (a_p1 : Nat) (a_p1_who : Nat) (crowd_people : Int32) (crowd_heights : Nat → Int32) (judge_text_fed : Int32) (judge_text_length : Int32) (judge_text_top : Int32) (judge_text_steps : Nat → Int32) (judge_text_worked : Nat → Int32) (p1_length : Int32) (p1_who : Nat → Int32) : va_W := [(a_this, cO 10 [.ref a_crowd, .ref a_judge, .ref a_trial, .ref a_numbers, .ref a_ahead, .ref a_orders]), (a_crowd, cO 1 [.ref a_crowd_heights, .int crowd_people]), (a_crowd_heights, cI G 9 crowd_heights), (a_judge, cO 4 [.ref a_crowd, .ref a_judge_text, .ref a_judge_known]), (a_judge_text, cO 5 [.ref a_judge_text_tape, .int judge_text_fed, .ref a_judge_text_reader, .ref a_judge_text_steps, .int judge_text_length, .ref a_judge_text_worked, .int judge_text_top]), (a_judge_text_steps, cI G 121 judge_text_steps), (a_judge_text_worked, cI G 121 judge_text_worked), (a_p1, cO 7 [.ref a_p1_who, .int p1_length]), (a_p1_who, cI G 9 p1_who)]
def f_Thoughts_leastGrowth_L16 (crowd_people : Int32) (crowd_heights : Nat → Int32) (judge_text_length : Int32) (judge_text_steps : Nat → Int32) (p1_length : Int32) (p1_who : Nat → Int32) (v2 : Int32) (v3 : Int32) : Nat → Int32 → (Nat → Int32) → Int32 → Option (((Int32 × (Nat → Int32)) ⊕ (Int32 × Int32 × (Nat → Int32))))
  | 0, _, _, _ => none
  | fuel + 1, judge_text_top, judge_text_worked, v4 => (if (60 : Int32) < v4 then (some (.inl (judge_text_top, judge_text_worked))) else (zb3 (f_Judge_isCalmIfTall crowd_people crowd_heights judge_text_length judge_text_top judge_text_steps judge_text_worked p1_length p1_who v2 (v3 + v4)) fun r_5 judge_text_top_6 judge_text_worked_7 => (if r_5 = 0 then (f_Thoughts_leastGrowth_L16 crowd_people crowd_heights judge_text_length judge_text_steps p1_length p1_who v2 v3 fuel judge_text_top_6 judge_text_worked_7 (v4 + 1)) else (some (.inr (v4, judge_text_top_6, judge_text_worked_7))))))
def f_Thoughts_leastGrowth (crowd_people : Int32) (crowd_heights : Nat → Int32) (judge_text_length : Int32) (judge_text_top : Int32) (judge_text_steps : Nat → Int32) (judge_text_worked : Nat → Int32) (p1_length : Int32) (p1_who : Nat → Int32) (x2 : Int32) : Option (Int32 × Int32 × (Nat → Int32)) := (zb1 (f_Line_at p1_length p1_who x2) fun r_1 => (zb1 (f_Crowd_heightOf crowd_people crowd_heights r_1) fun r_3 => (zbs2 (f_Thoughts_leastGrowth_L16 crowd_people crowd_heights judge_text_length judge_text_steps p1_length p1_who x2 r_3 FU judge_text_top judge_text_worked 0) (fun judge_text_top_9 judge_text_worked_10 => (some ((-2), judge_text_top_9, judge_text_worked_10))) some)))
set_option maxRecDepth 100000 in
set_option maxHeartbeats 4000000 in
theorem l_Thoughts_leastGrowth_16 {X : zX} (G : zG) (a_this : Nat) (a_crowd : Nat) (a_judge : Nat) (a_trial : Nat) (a_numbers : Nat) (a_ahead : Nat) (a_orders : Nat) (a_crowd_heights : Nat) (a_judge_text : Nat) (a_judge_known : Nat) (a_judge_text_tape : Nat) (a_judge_text_reader : Nat) (a_judge_text_steps : Nat) (a_judge_text_worked : Nat) (a_p1 : Nat) (a_p1_who : Nat) (crowd_people : Int32) (crowd_heights : Nat → Int32) (judge_text_fed : Int32) (judge_text_length : Int32) (judge_text_steps : Nat → Int32) (p1_length : Int32) (p1_who : Nat → Int32) (v2 : Int32) (v3 : Int32) {v0 : Option Value} {w0 : va_W} (F : zF X G cX10_leastGrowth RX10 5 (some .int) 3 81 v0 w0) (out : ((Int32 × (Nat → Int32)) ⊕ (Int32 × Int32 × (Nat → Int32)))) (hk : ∀ (e_judge_text_top : Int32) (e_judge_text_worked : Nat → Int32), out = .inl (e_judge_text_top, e_judge_text_worked) → Z X G 5 (w_Thoughts_leastGrowth G a_this a_crowd a_judge a_trial a_numbers a_ahead a_orders a_crowd_heights a_judge_text a_judge_known a_judge_text_tape a_judge_text_reader a_judge_text_steps a_judge_text_worked a_p1 a_p1_who crowd_people crowd_heights judge_text_fed judge_text_length e_judge_text_top judge_text_steps e_judge_text_worked p1_length p1_who) [] 48 []) (hr : ∀ q : Int32 × Int32 × (Nat → Int32), out = .inr q → v0 = some (.int q.1) ∧ w0 = (w_Thoughts_leastGrowth G a_this a_crowd a_judge a_trial a_numbers a_ahead a_orders a_crowd_heights a_judge_text a_judge_known a_judge_text_tape a_judge_text_reader a_judge_text_steps a_judge_text_worked a_p1 a_p1_who crowd_people crowd_heights judge_text_fed judge_text_length (q.2.1) judge_text_steps (q.2.2) p1_length p1_who)) :
    ∀ (fuel : Nat) (judge_text_top : Int32) (judge_text_worked : Nat → Int32) (v4 : Int32), f_Thoughts_leastGrowth_L16 crowd_people crowd_heights judge_text_length judge_text_steps p1_length p1_who v2 v3 fuel judge_text_top judge_text_worked v4 = some out → Z X G 5 (w_Thoughts_leastGrowth G a_this a_crowd a_judge a_trial a_numbers a_ahead a_orders a_crowd_heights a_judge_text a_judge_known a_judge_text_tape a_judge_text_reader a_judge_text_steps a_judge_text_worked a_p1 a_p1_who crowd_people crowd_heights judge_text_fed judge_text_length judge_text_top judge_text_steps judge_text_worked p1_length p1_who) [(0, .ref a_this), (1, .ref a_p1), (2, .int v2), (3, .int v3), (4, .int v4)] 16 [] := by
  intro fuel
  induction fuel with
  | zero => intro judge_text_top judge_text_worked v4 hf; exact absurd ((f_Thoughts_leastGrowth_L16.eq_1 ..).symm.trans hf) (fun h => by cases h)
  | succ fuel ih =>
    intro judge_text_top judge_text_worked v4 hf
    replace hf := (f_Thoughts_leastGrowth_L16.eq_2 ..).symm.trans hf
    refine z_iload F 4 dX10_leastGrowth_16 rfl ?_
    refine z_bipush F (60) dX10_leastGrowth_18 rfl ?_
    refine z_icmp_gt F 48 dX10_leastGrowth_20 (by decide) hf (fun hf _ => ?_) (fun hf _ => ?_)
    · exact z_sub [] rfl (hk _ _ (Option.some.inj hf).symm)
    · refine z_aload_n F 0 dX10_leastGrowth_23 rfl rfl ?_
      refine z_get F 0 10 1 inlX10 rfl rfl (by decide) fl_X10_15 rfl dX10_leastGrowth_24 ?_
      refine z_aload_n F 1 dX10_leastGrowth_27 rfl rfl ?_
      refine z_iload_n F 2 dX10_leastGrowth_28 rfl rfl ?_
      refine z_iload_n F 3 dX10_leastGrowth_29 rfl rfl ?_
      refine z_iload F 4 dX10_leastGrowth_30 rfl ?_
      refine z_iadd F dX10_leastGrowth_32 ?_
      obtain ⟨r_5, judge_text_top_6, judge_text_worked_7, hg, hf⟩ := zb3_some hf
      refine z_callVm (rest := []) F 4 (c_Judge_isCalmIfTall (xL X) G a_judge a_crowd a_judge_text a_judge_known a_crowd_heights a_judge_text_tape a_judge_text_reader a_judge_text_steps a_judge_text_worked a_p1 a_p1_who crowd_people crowd_heights judge_text_fed judge_text_length judge_text_top judge_text_steps judge_text_worked p1_length p1_who v2 (v3 + v4) r_5 judge_text_top_6 judge_text_worked_7 hg) hy_X4_isCalmIfTall ml_X10_66 hd_X4_isCalmIfTall ⟨by omega, by omega⟩ rfl [3, 1, 2, 4, 5, 6, 7, 8] rfl rfl 3 rfl rfl (w_Thoughts_leastGrowth G a_this a_crowd a_judge a_trial a_numbers a_ahead a_orders a_crowd_heights a_judge_text a_judge_known a_judge_text_tape a_judge_text_reader a_judge_text_steps a_judge_text_worked a_p1 a_p1_who crowd_people crowd_heights judge_text_fed judge_text_length judge_text_top_6 judge_text_steps judge_text_worked_7 p1_length p1_who) [none, some 1, some 2, some 0, some 3, some 4, some 5, some 6, some 7] rfl (by decide +kernel) rfl rfl (Nat.le_of_ble_eq_true rfl) dX10_leastGrowth_33 (fun hz_8 => ?_)
      refine z_if_eq F 42 dX10_leastGrowth_36 (by decide) hf (fun hf _ => ?_) (fun hf _ => ?_)
      · refine z_iinc F [(4, .int (v4 + 1)), (0, .ref a_this), (1, .ref a_p1), (2, .int v2), (3, .int v3)] dX10_leastGrowth_42 4 rfl rfl (by decide) rfl ?_
        refine z_goto F 16 dX10_leastGrowth_45 (by decide) ?_
        exact z_sub [1, 2, 3, 4, 0] rfl (ih judge_text_top_6 judge_text_worked_7 (v4 + 1) hf)
      · refine z_iload F 4 dX10_leastGrowth_39 rfl ?_
        obtain ⟨e1, e2⟩ := hr _ (Option.some.inj hf).symm
        exact z_iret F rfl rfl e1.symm e2.symm dX10_leastGrowth_41

set_option maxRecDepth 100000 in
set_option maxHeartbeats 4000000 in
theorem c_Thoughts_leastGrowth (l : Launch) (G : zG) (a_this : Nat) (a_crowd : Nat) (a_judge : Nat) (a_trial : Nat) (a_numbers : Nat) (a_ahead : Nat) (a_orders : Nat) (a_crowd_heights : Nat) (a_judge_text : Nat) (a_judge_known : Nat) (a_judge_text_tape : Nat) (a_judge_text_reader : Nat) (a_judge_text_steps : Nat) (a_judge_text_worked : Nat) (a_p1 : Nat) (a_p1_who : Nat) (crowd_people : Int32) (crowd_heights : Nat → Int32) (judge_text_fed : Int32) (judge_text_length : Int32) (judge_text_top : Int32) (judge_text_steps : Nat → Int32) (judge_text_worked : Nat → Int32) (p1_length : Int32) (p1_who : Nat → Int32) (x2 : Int32) (r_ : Int32) (o_judge_text_top : Int32) (o_judge_text_worked : Nat → Int32) (hf : f_Thoughts_leastGrowth crowd_people crowd_heights judge_text_length judge_text_top judge_text_steps judge_text_worked p1_length p1_who x2 = some (r_, o_judge_text_top, o_judge_text_worked)) : zM l yX10_leastGrowth cX10_leastGrowth 5 (some .int) 3 81 G [.ref a_this, .ref a_p1, .int x2] (w_Thoughts_leastGrowth G a_this a_crowd a_judge a_trial a_numbers a_ahead a_orders a_crowd_heights a_judge_text a_judge_known a_judge_text_tape a_judge_text_reader a_judge_text_steps a_judge_text_worked a_p1 a_p1_who crowd_people crowd_heights judge_text_fed judge_text_length judge_text_top judge_text_steps judge_text_worked p1_length p1_who) (some (.int r_)) (w_Thoughts_leastGrowth G a_this a_crowd a_judge a_trial a_numbers a_ahead a_orders a_crowd_heights a_judge_text a_judge_known a_judge_text_tape a_judge_text_reader a_judge_text_steps a_judge_text_worked a_p1 a_p1_who crowd_people crowd_heights judge_text_fed judge_text_length o_judge_text_top judge_text_steps o_judge_text_worked p1_length p1_who) := by
  refine zM.of [(0, .ref a_this), (1, .ref a_p1), (2, .int x2)] (own := RX10) rfl (by decide +kernel) (Nat.le_of_ble_eq_true rfl) rfl rfl fun X hX F => ?_
  subst hX
  replace hf := (f_Thoughts_leastGrowth.eq_1 ..).symm.trans hf
  refine z_aload_n F 0 dX10_leastGrowth_0 rfl rfl ?_
  refine z_get F 0 10 0 inlX10 rfl rfl (by decide) fl_X10_9 rfl dX10_leastGrowth_1 ?_
  refine z_aload_n F 1 dX10_leastGrowth_4 rfl rfl ?_
  refine z_iload_n F 2 dX10_leastGrowth_5 rfl rfl ?_
  obtain ⟨r_1, hg, hf⟩ := zb1_some hf
  refine z_callVm (rest := [.ref a_crowd]) F 7 (c_Line_at (xL X) G a_p1 a_p1_who p1_length p1_who x2 r_1 hg) hy_X7_at ml_X10_57 hd_X7_at ⟨by omega, by omega⟩ rfl [7, 8] rfl rfl 7 rfl rfl (w_Thoughts_leastGrowth G a_this a_crowd a_judge a_trial a_numbers a_ahead a_orders a_crowd_heights a_judge_text a_judge_known a_judge_text_tape a_judge_text_reader a_judge_text_steps a_judge_text_worked a_p1 a_p1_who crowd_people crowd_heights judge_text_fed judge_text_length judge_text_top judge_text_steps judge_text_worked p1_length p1_who) [none, none, none, none, none, none, none, some 0, some 1] rfl (by decide +kernel) rfl rfl (Nat.le_of_ble_eq_true rfl) dX10_leastGrowth_6 (fun hz_2 => ?_)
  obtain ⟨r_3, hg, hf⟩ := zb1_some hf
  refine z_callVm (rest := []) F 1 (c_Crowd_heightOf (xL X) G a_crowd a_crowd_heights crowd_people crowd_heights r_1 r_3 hg) hy_X1_heightOf ml_X10_61 hd_X1_heightOf ⟨by omega, by omega⟩ rfl [1, 2] rfl rfl 1 rfl rfl (w_Thoughts_leastGrowth G a_this a_crowd a_judge a_trial a_numbers a_ahead a_orders a_crowd_heights a_judge_text a_judge_known a_judge_text_tape a_judge_text_reader a_judge_text_steps a_judge_text_worked a_p1 a_p1_who crowd_people crowd_heights judge_text_fed judge_text_length judge_text_top judge_text_steps judge_text_worked p1_length p1_who) [none, some 0, some 1, none, none, none, none, none, none] rfl (by decide +kernel) rfl rfl (Nat.le_of_ble_eq_true rfl) dX10_leastGrowth_9 (fun hz_4 => ?_)
  refine z_istore_n F [(3, .int r_3), (0, .ref a_this), (1, .ref a_p1), (2, .int x2)] dX10_leastGrowth_12 rfl (by decide) rfl ?_
  refine z_iconst F (0) dX10_leastGrowth_13 rfl ?_
  refine z_istore F [(4, .int 0), (3, .int r_3), (0, .ref a_this), (1, .ref a_p1), (2, .int x2)] dX10_leastGrowth_14 (by decide) rfl ?_
  obtain ⟨z_11, hg, hf1_12, hf2_13⟩ := zbs2_some hf
  refine z_sub [2, 3, 4, 1, 0] rfl ?_
  refine l_Thoughts_leastGrowth_16 G a_this a_crowd a_judge a_trial a_numbers a_ahead a_orders a_crowd_heights a_judge_text a_judge_known a_judge_text_tape a_judge_text_reader a_judge_text_steps a_judge_text_worked a_p1 a_p1_who crowd_people crowd_heights judge_text_fed judge_text_length judge_text_steps p1_length p1_who x2 r_3 F z_11 (fun judge_text_top_9 judge_text_worked_10 e => ?_) (fun q e => ?_) FU judge_text_top judge_text_worked 0 hg
  · have hf := hf1_12 _ _ e
    refine z_bipush F (-2) dX10_leastGrowth_48 rfl ?_
    have eq1 := Option.some.inj hf
    obtain ⟨ee1, eq2⟩ := Prod.mk.inj eq1
    obtain ⟨ee2, ee3⟩ := Prod.mk.inj eq2
    subst ee1
    subst ee2
    subst ee3
    exact z_iret F rfl rfl rfl rfl dX10_leastGrowth_50
  · have hf := hf2_13 _ e
    cases hf
    exact ⟨rfl, rfl⟩

abbrev w_Thoughts_weighRights (G : zG) (a_this : Nat) (a_crowd : Nat) (a_judge : Nat) (a_trial : Nat) (a_numbers : Nat) (a_ahead : Nat) (a_orders : Nat) (a_crowd_heights : Nat) (a_judge_text : Nat) (a_judge_known : Nat) (a_judge_text_tape : Nat) (a_judge_text_reader : Nat) (a_judge_text_steps : Nat) (a_judge_text_worked : Nat) (a_p1 : Nat) (a_p1_who : Nat) (crowd_people : Int32) (crowd_heights : Nat → Int32) (judge_text_fed : Int32) (judge_text_length : Int32) (judge_text_top : Int32) (judge_text_steps : Nat → Int32) (judge_text_worked : Nat → Int32) (judge_known : Nat → Int32) (numbers : Nat → Int32) (ahead : Nat → Int32) (p1_length : Int32) (p1_who : Nat → Int32) : va_W := [(a_this, cO 10 [.ref a_crowd, .ref a_judge, .ref a_trial, .ref a_numbers, .ref a_ahead, .ref a_orders]), (a_crowd, cO 1 [.ref a_crowd_heights, .int crowd_people]), (a_crowd_heights, cI G 9 crowd_heights), (a_judge, cO 4 [.ref a_crowd, .ref a_judge_text, .ref a_judge_known]), (a_judge_text, cO 5 [.ref a_judge_text_tape, .int judge_text_fed, .ref a_judge_text_reader, .ref a_judge_text_steps, .int judge_text_length, .ref a_judge_text_worked, .int judge_text_top]), (a_judge_text_steps, cI G 121 judge_text_steps), (a_judge_text_worked, cI G 121 judge_text_worked), (a_judge_known, cB G 729 judge_known), (a_numbers, cI G 9 numbers), (a_ahead, cI G 9 ahead), (a_p1, cO 7 [.ref a_p1_who, .int p1_length]), (a_p1_who, cI G 9 p1_who)]
def f_Thoughts_weighRights_L12 (crowd_people : Int32) (crowd_heights : Nat → Int32) (judge_text_length : Int32) (judge_text_steps : Nat → Int32) (p1_length : Int32) (p1_who : Nat → Int32) (v2 : Int32) : Nat → Int32 → (Nat → Int32) → (Nat → Int32) → (Nat → Int32) → Int32 → Option (Int32 × (Nat → Int32) × (Nat → Int32) × (Nat → Int32))
  | 0, _, _, _, _, _ => none
  | fuel + 1, judge_text_top, judge_text_worked, judge_known, numbers, v3 => (if v2 ≤ v3 then (some (judge_text_top, judge_text_worked, judge_known, numbers)) else (zb4 (f_Judge_numberAt crowd_people crowd_heights judge_text_length judge_text_top judge_text_steps judge_text_worked judge_known p1_length p1_who v3) fun r_2 judge_text_top_3 judge_text_worked_4 judge_known_5 => (zs numbers 9 v3 r_2 fun numbers_7 => (f_Thoughts_weighRights_L12 crowd_people crowd_heights judge_text_length judge_text_steps p1_length p1_who v2 fuel judge_text_top_3 judge_text_worked_4 judge_known_5 numbers_7 (v3 + 1)))))
def f_Thoughts_weighRights_L55 (crowd_people : Int32) (crowd_heights : Nat → Int32) (numbers : Nat → Int32) (p1_length : Int32) (p1_who : Nat → Int32) (v2 : Int32) (v3 : Int32) : Nat → (Nat → Int32) → Int32 → Option ((Nat → Int32))
  | 0, _, _ => none
  | fuel + 1, ahead, v4 => (if v2 ≤ v4 then (some ahead) else (zg numbers 9 v4 fun v_13 => (zg numbers 9 v3 fun v_14 => (if v_14 ≤ v_13 then (f_Thoughts_weighRights_L55 crowd_people crowd_heights numbers p1_length p1_who v2 v3 fuel ahead (v4 + 1)) else (zb1 (f_Line_at p1_length p1_who v4) fun r_15 => (zb1 (f_Line_at p1_length p1_who v3) fun r_17 => (zb1 (f_Crowd_isTaller crowd_people crowd_heights r_15 r_17) fun r_19 => (if r_19 = 0 then (f_Thoughts_weighRights_L55 crowd_people crowd_heights numbers p1_length p1_who v2 v3 fuel ahead (v4 + 1)) else (zg ahead 9 v3 fun v_21 => (zs ahead 9 v3 (v_21 ||| ((1 : Int32) <<< (v4 &&& 31))) fun ahead_22 => (f_Thoughts_weighRights_L55 crowd_people crowd_heights numbers p1_length p1_who v2 v3 fuel ahead_22 (v4 + 1))))))))))))
def f_Thoughts_weighRights_L40 (crowd_people : Int32) (crowd_heights : Nat → Int32) (numbers : Nat → Int32) (p1_length : Int32) (p1_who : Nat → Int32) (v2 : Int32) : Nat → (Nat → Int32) → Int32 → Option ((Nat → Int32))
  | 0, _, _ => none
  | fuel + 1, ahead, v3 => (if v2 ≤ v3 then (some ahead) else (zs ahead 9 v3 0 fun ahead_12 => (zb1 (f_Thoughts_weighRights_L55 crowd_people crowd_heights numbers p1_length p1_who v2 v3 FU ahead_12 0) fun ahead_23 => (f_Thoughts_weighRights_L40 crowd_people crowd_heights numbers p1_length p1_who v2 fuel ahead_23 (v3 + 1)))))
def f_Thoughts_weighRights (crowd_people : Int32) (crowd_heights : Nat → Int32) (judge_text_length : Int32) (judge_text_top : Int32) (judge_text_steps : Nat → Int32) (judge_text_worked : Nat → Int32) (judge_known : Nat → Int32) (numbers : Nat → Int32) (ahead : Nat → Int32) (p1_length : Int32) (p1_who : Nat → Int32) : Option (Int32 × (Nat → Int32) × (Nat → Int32) × (Nat → Int32) × (Nat → Int32)) := (zb4 (f_Thoughts_weighRights_L12 crowd_people crowd_heights judge_text_length judge_text_steps p1_length p1_who (if (9 : Int32) < (f_Line_size p1_length) then 9 else (f_Line_size p1_length)) FU judge_text_top judge_text_worked judge_known numbers 0) fun judge_text_top_8 judge_text_worked_9 judge_known_10 numbers_11 => (zb1 (f_Thoughts_weighRights_L40 crowd_people crowd_heights numbers_11 p1_length p1_who (if (9 : Int32) < (f_Line_size p1_length) then 9 else (f_Line_size p1_length)) FU ahead 0) fun ahead_24 => (some (judge_text_top_8, judge_text_worked_9, judge_known_10, numbers_11, ahead_24))))
set_option maxRecDepth 100000 in
set_option maxHeartbeats 4000000 in
theorem l_Thoughts_weighRights_12 {X : zX} (G : zG) (a_this : Nat) (a_crowd : Nat) (a_judge : Nat) (a_trial : Nat) (a_numbers : Nat) (a_ahead : Nat) (a_orders : Nat) (a_crowd_heights : Nat) (a_judge_text : Nat) (a_judge_known : Nat) (a_judge_text_tape : Nat) (a_judge_text_reader : Nat) (a_judge_text_steps : Nat) (a_judge_text_worked : Nat) (a_p1 : Nat) (a_p1_who : Nat) (crowd_people : Int32) (crowd_heights : Nat → Int32) (judge_text_fed : Int32) (judge_text_length : Int32) (judge_text_steps : Nat → Int32) (ahead : Nat → Int32) (p1_length : Int32) (p1_who : Nat → Int32) (v2 : Int32) {v0 : Option Value} {w0 : va_W} (F : zF X G cX10_weighRights RX10 5 none 4 104 v0 w0) (e_judge_text_top : Int32) (e_judge_text_worked : Nat → Int32) (e_judge_known : Nat → Int32) (e_numbers : Nat → Int32) (hk : Z X G 5 (w_Thoughts_weighRights G a_this a_crowd a_judge a_trial a_numbers a_ahead a_orders a_crowd_heights a_judge_text a_judge_known a_judge_text_tape a_judge_text_reader a_judge_text_steps a_judge_text_worked a_p1 a_p1_who crowd_people crowd_heights judge_text_fed judge_text_length e_judge_text_top judge_text_steps e_judge_text_worked e_judge_known e_numbers ahead p1_length p1_who) [(0, .ref a_this), (1, .ref a_p1), (2, .int v2)] 38 []) :
    ∀ (fuel : Nat) (judge_text_top : Int32) (judge_text_worked : Nat → Int32) (judge_known : Nat → Int32) (numbers : Nat → Int32) (v3 : Int32), f_Thoughts_weighRights_L12 crowd_people crowd_heights judge_text_length judge_text_steps p1_length p1_who v2 fuel judge_text_top judge_text_worked judge_known numbers v3 = some (e_judge_text_top, e_judge_text_worked, e_judge_known, e_numbers) → Z X G 5 (w_Thoughts_weighRights G a_this a_crowd a_judge a_trial a_numbers a_ahead a_orders a_crowd_heights a_judge_text a_judge_known a_judge_text_tape a_judge_text_reader a_judge_text_steps a_judge_text_worked a_p1 a_p1_who crowd_people crowd_heights judge_text_fed judge_text_length judge_text_top judge_text_steps judge_text_worked judge_known numbers ahead p1_length p1_who) [(0, .ref a_this), (1, .ref a_p1), (2, .int v2), (3, .int v3)] 12 [] := by
  intro fuel
  induction fuel with
  | zero => intro judge_text_top judge_text_worked judge_known numbers v3 hf; exact absurd ((f_Thoughts_weighRights_L12.eq_1 ..).symm.trans hf) (fun h => by cases h)
  | succ fuel ih =>
    intro judge_text_top judge_text_worked judge_known numbers v3 hf
    replace hf := (f_Thoughts_weighRights_L12.eq_2 ..).symm.trans hf
    refine z_iload_n F 3 dX10_weighRights_12 rfl rfl ?_
    refine z_iload_n F 2 dX10_weighRights_13 rfl rfl ?_
    refine z_icmp_ge F 38 dX10_weighRights_14 (by decide) hf (fun hf _ => ?_) (fun hf _ => ?_)
    · have eq1 := Option.some.inj hf
      obtain ⟨ee1, eq2⟩ := Prod.mk.inj eq1
      obtain ⟨ee2, eq3⟩ := Prod.mk.inj eq2
      obtain ⟨ee3, ee4⟩ := Prod.mk.inj eq3
      subst ee1
      subst ee2
      subst ee3
      subst ee4
      exact z_sub [0, 1, 2] rfl hk
    · refine z_aload_n F 0 dX10_weighRights_17 rfl rfl ?_
      refine z_get F 0 10 3 inlX10 rfl rfl (by decide) fl_X10_26 rfl dX10_weighRights_18 ?_
      refine z_iload_n F 3 dX10_weighRights_21 rfl rfl ?_
      refine z_aload_n F 0 dX10_weighRights_22 rfl rfl ?_
      refine z_get F 0 10 1 inlX10 rfl rfl (by decide) fl_X10_15 rfl dX10_weighRights_23 ?_
      refine z_aload_n F 1 dX10_weighRights_26 rfl rfl ?_
      refine z_iload_n F 3 dX10_weighRights_27 rfl rfl ?_
      obtain ⟨r_2, judge_text_top_3, judge_text_worked_4, judge_known_5, hg, hf⟩ := zb4_some hf
      refine z_callVm (rest := [.int v3, .ref a_numbers]) F 4 (c_Judge_numberAt (xL X) G a_judge a_crowd a_judge_text a_judge_known a_crowd_heights a_judge_text_tape a_judge_text_reader a_judge_text_steps a_judge_text_worked a_p1 a_p1_who crowd_people crowd_heights judge_text_fed judge_text_length judge_text_top judge_text_steps judge_text_worked judge_known p1_length p1_who v3 r_2 judge_text_top_3 judge_text_worked_4 judge_known_5 hg) hy_X4_numberAt ml_X10_76 hd_X4_numberAt ⟨by omega, by omega⟩ rfl [3, 1, 2, 4, 5, 6, 7, 10, 11] rfl rfl 3 rfl rfl (w_Thoughts_weighRights G a_this a_crowd a_judge a_trial a_numbers a_ahead a_orders a_crowd_heights a_judge_text a_judge_known a_judge_text_tape a_judge_text_reader a_judge_text_steps a_judge_text_worked a_p1 a_p1_who crowd_people crowd_heights judge_text_fed judge_text_length judge_text_top_3 judge_text_steps judge_text_worked_4 judge_known_5 numbers ahead p1_length p1_who) [none, some 1, some 2, some 0, some 3, some 4, some 5, some 6, none, none, some 7, some 8] rfl (by decide +kernel) rfl rfl (Nat.le_of_ble_eq_true rfl) dX10_weighRights_28 (fun hz_6 => ?_)
      refine z_iast F 8 (fun numbers_7 => (w_Thoughts_weighRights G a_this a_crowd a_judge a_trial a_numbers a_ahead a_orders a_crowd_heights a_judge_text a_judge_known a_judge_text_tape a_judge_text_reader a_judge_text_steps a_judge_text_worked a_p1 a_p1_who crowd_people crowd_heights judge_text_fed judge_text_length judge_text_top_3 judge_text_steps judge_text_worked_4 judge_known_5 numbers_7 ahead p1_length p1_who)) rfl hf (fun _ => rfl) dX10_weighRights_31 (fun numbers_7 hf => ?_)
      refine z_iinc F [(3, .int (v3 + 1)), (0, .ref a_this), (1, .ref a_p1), (2, .int v2)] dX10_weighRights_32 3 rfl rfl (by decide) rfl ?_
      refine z_goto F 12 dX10_weighRights_35 (by decide) ?_
      exact z_sub [1, 2, 3, 0] rfl (ih judge_text_top_3 judge_text_worked_4 judge_known_5 numbers_7 (v3 + 1) hf)

set_option maxRecDepth 100000 in
set_option maxHeartbeats 4000000 in
theorem l_Thoughts_weighRights_55 {X : zX} (G : zG) (a_this : Nat) (a_crowd : Nat) (a_judge : Nat) (a_trial : Nat) (a_numbers : Nat) (a_ahead : Nat) (a_orders : Nat) (a_crowd_heights : Nat) (a_judge_text : Nat) (a_judge_known : Nat) (a_judge_text_tape : Nat) (a_judge_text_reader : Nat) (a_judge_text_steps : Nat) (a_judge_text_worked : Nat) (a_p1 : Nat) (a_p1_who : Nat) (crowd_people : Int32) (crowd_heights : Nat → Int32) (judge_text_fed : Int32) (judge_text_length : Int32) (judge_text_top : Int32) (judge_text_steps : Nat → Int32) (judge_text_worked : Nat → Int32) (judge_known : Nat → Int32) (numbers : Nat → Int32) (p1_length : Int32) (p1_who : Nat → Int32) (v2 : Int32) (v3 : Int32) {v0 : Option Value} {w0 : va_W} (F : zF X G cX10_weighRights RX10 5 none 4 104 v0 w0) (e_ahead : Nat → Int32) (hk : Z X G 5 (w_Thoughts_weighRights G a_this a_crowd a_judge a_trial a_numbers a_ahead a_orders a_crowd_heights a_judge_text a_judge_known a_judge_text_tape a_judge_text_reader a_judge_text_steps a_judge_text_worked a_p1 a_p1_who crowd_people crowd_heights judge_text_fed judge_text_length judge_text_top judge_text_steps judge_text_worked judge_known numbers e_ahead p1_length p1_who) [(0, .ref a_this), (1, .ref a_p1), (2, .int v2), (3, .int v3)] 117 []) :
    ∀ (fuel : Nat) (ahead : Nat → Int32) (v4 : Int32), f_Thoughts_weighRights_L55 crowd_people crowd_heights numbers p1_length p1_who v2 v3 fuel ahead v4 = some e_ahead → Z X G 5 (w_Thoughts_weighRights G a_this a_crowd a_judge a_trial a_numbers a_ahead a_orders a_crowd_heights a_judge_text a_judge_known a_judge_text_tape a_judge_text_reader a_judge_text_steps a_judge_text_worked a_p1 a_p1_who crowd_people crowd_heights judge_text_fed judge_text_length judge_text_top judge_text_steps judge_text_worked judge_known numbers ahead p1_length p1_who) [(0, .ref a_this), (1, .ref a_p1), (2, .int v2), (3, .int v3), (4, .int v4)] 55 [] := by
  intro fuel
  induction fuel with
  | zero => intro ahead v4 hf; exact absurd ((f_Thoughts_weighRights_L55.eq_1 ..).symm.trans hf) (fun h => by cases h)
  | succ fuel ih =>
    intro ahead v4 hf
    replace hf := (f_Thoughts_weighRights_L55.eq_2 ..).symm.trans hf
    refine z_iload F 4 dX10_weighRights_55 rfl ?_
    refine z_iload_n F 2 dX10_weighRights_57 rfl rfl ?_
    refine z_icmp_ge F 117 dX10_weighRights_58 (by decide) hf (fun hf _ => ?_) (fun hf _ => ?_)
    · have ee1 := Option.some.inj hf
      subst ee1
      exact z_sub [0, 1, 2, 3] rfl hk
    · refine z_aload_n F 0 dX10_weighRights_61 rfl rfl ?_
      refine z_get F 0 10 3 inlX10 rfl rfl (by decide) fl_X10_26 rfl dX10_weighRights_62 ?_
      refine z_iload F 4 dX10_weighRights_65 rfl ?_
      refine z_iald F 8 rfl hf dX10_weighRights_67 (fun v_13 hf => ?_)
      refine z_aload_n F 0 dX10_weighRights_68 rfl rfl ?_
      refine z_get F 0 10 3 inlX10 rfl rfl (by decide) fl_X10_26 rfl dX10_weighRights_69 ?_
      refine z_iload_n F 3 dX10_weighRights_72 rfl rfl ?_
      refine z_iald F 8 rfl hf dX10_weighRights_73 (fun v_14 hf => ?_)
      refine z_icmp_ge F 111 dX10_weighRights_74 (by decide) hf (fun hf _ => ?_) (fun hf _ => ?_)
      · refine z_iinc F [(4, .int (v4 + 1)), (0, .ref a_this), (1, .ref a_p1), (2, .int v2), (3, .int v3)] dX10_weighRights_111 4 rfl rfl (by decide) rfl ?_
        refine z_goto F 55 dX10_weighRights_114 (by decide) ?_
        exact z_sub [1, 2, 3, 4, 0] rfl (ih ahead (v4 + 1) hf)
      · refine z_aload_n F 0 dX10_weighRights_77 rfl rfl ?_
        refine z_get F 0 10 0 inlX10 rfl rfl (by decide) fl_X10_9 rfl dX10_weighRights_78 ?_
        refine z_aload_n F 1 dX10_weighRights_81 rfl rfl ?_
        refine z_iload F 4 dX10_weighRights_82 rfl ?_
        obtain ⟨r_15, hg, hf⟩ := zb1_some hf
        refine z_callVm (rest := [.ref a_crowd]) F 7 (c_Line_at (xL X) G a_p1 a_p1_who p1_length p1_who v4 r_15 hg) hy_X7_at ml_X10_57 hd_X7_at ⟨by omega, by omega⟩ rfl [10, 11] rfl rfl 10 rfl rfl (w_Thoughts_weighRights G a_this a_crowd a_judge a_trial a_numbers a_ahead a_orders a_crowd_heights a_judge_text a_judge_known a_judge_text_tape a_judge_text_reader a_judge_text_steps a_judge_text_worked a_p1 a_p1_who crowd_people crowd_heights judge_text_fed judge_text_length judge_text_top judge_text_steps judge_text_worked judge_known numbers ahead p1_length p1_who) [none, none, none, none, none, none, none, none, none, none, some 0, some 1] rfl (by decide +kernel) rfl rfl (Nat.le_of_ble_eq_true rfl) dX10_weighRights_84 (fun hz_16 => ?_)
        refine z_aload_n F 1 dX10_weighRights_87 rfl rfl ?_
        refine z_iload_n F 3 dX10_weighRights_88 rfl rfl ?_
        obtain ⟨r_17, hg, hf⟩ := zb1_some hf
        refine z_callVm (rest := [.int r_15, .ref a_crowd]) F 7 (c_Line_at (xL X) G a_p1 a_p1_who p1_length p1_who v3 r_17 hg) hy_X7_at ml_X10_57 hd_X7_at ⟨by omega, by omega⟩ rfl [10, 11] rfl rfl 10 rfl rfl (w_Thoughts_weighRights G a_this a_crowd a_judge a_trial a_numbers a_ahead a_orders a_crowd_heights a_judge_text a_judge_known a_judge_text_tape a_judge_text_reader a_judge_text_steps a_judge_text_worked a_p1 a_p1_who crowd_people crowd_heights judge_text_fed judge_text_length judge_text_top judge_text_steps judge_text_worked judge_known numbers ahead p1_length p1_who) [none, none, none, none, none, none, none, none, none, none, some 0, some 1] rfl (by decide +kernel) rfl rfl (Nat.le_of_ble_eq_true rfl) dX10_weighRights_89 (fun hz_18 => ?_)
        obtain ⟨r_19, hg, hf⟩ := zb1_some hf
        refine z_callVm (rest := []) F 1 (c_Crowd_isTaller (xL X) G a_crowd a_crowd_heights crowd_people crowd_heights r_15 r_17 r_19 hg) hy_X1_isTaller ml_X10_80 hd_X1_isTaller ⟨by omega, by omega⟩ rfl [1, 2] rfl rfl 1 rfl rfl (w_Thoughts_weighRights G a_this a_crowd a_judge a_trial a_numbers a_ahead a_orders a_crowd_heights a_judge_text a_judge_known a_judge_text_tape a_judge_text_reader a_judge_text_steps a_judge_text_worked a_p1 a_p1_who crowd_people crowd_heights judge_text_fed judge_text_length judge_text_top judge_text_steps judge_text_worked judge_known numbers ahead p1_length p1_who) [none, some 0, some 1, none, none, none, none, none, none, none, none, none] rfl (by decide +kernel) rfl rfl (Nat.le_of_ble_eq_true rfl) dX10_weighRights_92 (fun hz_20 => ?_)
        refine z_if_eq F 111 dX10_weighRights_95 (by decide) hf (fun hf _ => ?_) (fun hf _ => ?_)
        · refine z_iinc F [(4, .int (v4 + 1)), (0, .ref a_this), (1, .ref a_p1), (2, .int v2), (3, .int v3)] dX10_weighRights_111 4 rfl rfl (by decide) rfl ?_
          refine z_goto F 55 dX10_weighRights_114 (by decide) ?_
          exact z_sub [1, 2, 3, 4, 0] rfl (ih ahead (v4 + 1) hf)
        · refine z_aload_n F 0 dX10_weighRights_98 rfl rfl ?_
          refine z_get F 0 10 4 inlX10 rfl rfl (by decide) fl_X10_30 rfl dX10_weighRights_99 ?_
          refine z_iload_n F 3 dX10_weighRights_102 rfl rfl ?_
          refine z_dup2 F rfl rfl dX10_weighRights_103 ?_
          refine z_iald F 9 rfl hf dX10_weighRights_104 (fun v_21 hf => ?_)
          refine z_iconst F (1) dX10_weighRights_105 rfl ?_
          refine z_iload F 4 dX10_weighRights_106 rfl ?_
          refine z_ishl F dX10_weighRights_108 ?_
          refine z_ior F dX10_weighRights_109 ?_
          refine z_iast F 9 (fun ahead_22 => (w_Thoughts_weighRights G a_this a_crowd a_judge a_trial a_numbers a_ahead a_orders a_crowd_heights a_judge_text a_judge_known a_judge_text_tape a_judge_text_reader a_judge_text_steps a_judge_text_worked a_p1 a_p1_who crowd_people crowd_heights judge_text_fed judge_text_length judge_text_top judge_text_steps judge_text_worked judge_known numbers ahead_22 p1_length p1_who)) rfl hf (fun _ => rfl) dX10_weighRights_110 (fun ahead_22 hf => ?_)
          refine z_iinc F [(4, .int (v4 + 1)), (0, .ref a_this), (1, .ref a_p1), (2, .int v2), (3, .int v3)] dX10_weighRights_111 4 rfl rfl (by decide) rfl ?_
          refine z_goto F 55 dX10_weighRights_114 (by decide) ?_
          exact z_sub [1, 2, 3, 4, 0] rfl (ih ahead_22 (v4 + 1) hf)

set_option maxRecDepth 100000 in
set_option maxHeartbeats 4000000 in
theorem l_Thoughts_weighRights_40 {X : zX} (G : zG) (a_this : Nat) (a_crowd : Nat) (a_judge : Nat) (a_trial : Nat) (a_numbers : Nat) (a_ahead : Nat) (a_orders : Nat) (a_crowd_heights : Nat) (a_judge_text : Nat) (a_judge_known : Nat) (a_judge_text_tape : Nat) (a_judge_text_reader : Nat) (a_judge_text_steps : Nat) (a_judge_text_worked : Nat) (a_p1 : Nat) (a_p1_who : Nat) (crowd_people : Int32) (crowd_heights : Nat → Int32) (judge_text_fed : Int32) (judge_text_length : Int32) (judge_text_top : Int32) (judge_text_steps : Nat → Int32) (judge_text_worked : Nat → Int32) (judge_known : Nat → Int32) (numbers : Nat → Int32) (p1_length : Int32) (p1_who : Nat → Int32) (v2 : Int32) {v0 : Option Value} {w0 : va_W} (F : zF X G cX10_weighRights RX10 5 none 4 104 v0 w0) (e_ahead : Nat → Int32) (hk : Z X G 5 (w_Thoughts_weighRights G a_this a_crowd a_judge a_trial a_numbers a_ahead a_orders a_crowd_heights a_judge_text a_judge_known a_judge_text_tape a_judge_text_reader a_judge_text_steps a_judge_text_worked a_p1 a_p1_who crowd_people crowd_heights judge_text_fed judge_text_length judge_text_top judge_text_steps judge_text_worked judge_known numbers e_ahead p1_length p1_who) [] 123 []) :
    ∀ (fuel : Nat) (ahead : Nat → Int32) (v3 : Int32), f_Thoughts_weighRights_L40 crowd_people crowd_heights numbers p1_length p1_who v2 fuel ahead v3 = some e_ahead → Z X G 5 (w_Thoughts_weighRights G a_this a_crowd a_judge a_trial a_numbers a_ahead a_orders a_crowd_heights a_judge_text a_judge_known a_judge_text_tape a_judge_text_reader a_judge_text_steps a_judge_text_worked a_p1 a_p1_who crowd_people crowd_heights judge_text_fed judge_text_length judge_text_top judge_text_steps judge_text_worked judge_known numbers ahead p1_length p1_who) [(0, .ref a_this), (1, .ref a_p1), (2, .int v2), (3, .int v3)] 40 [] := by
  intro fuel
  induction fuel with
  | zero => intro ahead v3 hf; exact absurd ((f_Thoughts_weighRights_L40.eq_1 ..).symm.trans hf) (fun h => by cases h)
  | succ fuel ih =>
    intro ahead v3 hf
    replace hf := (f_Thoughts_weighRights_L40.eq_2 ..).symm.trans hf
    refine z_iload_n F 3 dX10_weighRights_40 rfl rfl ?_
    refine z_iload_n F 2 dX10_weighRights_41 rfl rfl ?_
    refine z_icmp_ge F 123 dX10_weighRights_42 (by decide) hf (fun hf _ => ?_) (fun hf _ => ?_)
    · have ee1 := Option.some.inj hf
      subst ee1
      exact z_sub [] rfl hk
    · refine z_aload_n F 0 dX10_weighRights_45 rfl rfl ?_
      refine z_get F 0 10 4 inlX10 rfl rfl (by decide) fl_X10_30 rfl dX10_weighRights_46 ?_
      refine z_iload_n F 3 dX10_weighRights_49 rfl rfl ?_
      refine z_iconst F (0) dX10_weighRights_50 rfl ?_
      refine z_iast F 9 (fun ahead_12 => (w_Thoughts_weighRights G a_this a_crowd a_judge a_trial a_numbers a_ahead a_orders a_crowd_heights a_judge_text a_judge_known a_judge_text_tape a_judge_text_reader a_judge_text_steps a_judge_text_worked a_p1 a_p1_who crowd_people crowd_heights judge_text_fed judge_text_length judge_text_top judge_text_steps judge_text_worked judge_known numbers ahead_12 p1_length p1_who)) rfl hf (fun _ => rfl) dX10_weighRights_51 (fun ahead_12 hf => ?_)
      refine z_iconst F (0) dX10_weighRights_52 rfl ?_
      refine z_istore F [(4, .int 0), (0, .ref a_this), (1, .ref a_p1), (2, .int v2), (3, .int v3)] dX10_weighRights_53 (by decide) rfl ?_
      obtain ⟨ahead_23, hg, hf⟩ := zb1_some hf
      refine z_sub [1, 2, 3, 4, 0] rfl ?_
      refine l_Thoughts_weighRights_55 G a_this a_crowd a_judge a_trial a_numbers a_ahead a_orders a_crowd_heights a_judge_text a_judge_known a_judge_text_tape a_judge_text_reader a_judge_text_steps a_judge_text_worked a_p1 a_p1_who crowd_people crowd_heights judge_text_fed judge_text_length judge_text_top judge_text_steps judge_text_worked judge_known numbers p1_length p1_who v2 v3 F ahead_23 ?_ FU ahead_12 0 hg
      refine z_iinc F [(3, .int (v3 + 1)), (0, .ref a_this), (1, .ref a_p1), (2, .int v2)] dX10_weighRights_117 3 rfl rfl (by decide) rfl ?_
      refine z_goto F 40 dX10_weighRights_120 (by decide) ?_
      exact z_sub [1, 2, 3, 0] rfl (ih ahead_23 (v3 + 1) hf)

set_option maxRecDepth 100000 in
set_option maxHeartbeats 4000000 in
theorem c_Thoughts_weighRights (l : Launch) (G : zG) (a_this : Nat) (a_crowd : Nat) (a_judge : Nat) (a_trial : Nat) (a_numbers : Nat) (a_ahead : Nat) (a_orders : Nat) (a_crowd_heights : Nat) (a_judge_text : Nat) (a_judge_known : Nat) (a_judge_text_tape : Nat) (a_judge_text_reader : Nat) (a_judge_text_steps : Nat) (a_judge_text_worked : Nat) (a_p1 : Nat) (a_p1_who : Nat) (crowd_people : Int32) (crowd_heights : Nat → Int32) (judge_text_fed : Int32) (judge_text_length : Int32) (judge_text_top : Int32) (judge_text_steps : Nat → Int32) (judge_text_worked : Nat → Int32) (judge_known : Nat → Int32) (numbers : Nat → Int32) (ahead : Nat → Int32) (p1_length : Int32) (p1_who : Nat → Int32) (o_judge_text_top : Int32) (o_judge_text_worked : Nat → Int32) (o_judge_known : Nat → Int32) (o_numbers : Nat → Int32) (o_ahead : Nat → Int32) (hf : f_Thoughts_weighRights crowd_people crowd_heights judge_text_length judge_text_top judge_text_steps judge_text_worked judge_known numbers ahead p1_length p1_who = some (o_judge_text_top, o_judge_text_worked, o_judge_known, o_numbers, o_ahead)) : zM l yX10_weighRights cX10_weighRights 5 none 4 104 G [.ref a_this, .ref a_p1] (w_Thoughts_weighRights G a_this a_crowd a_judge a_trial a_numbers a_ahead a_orders a_crowd_heights a_judge_text a_judge_known a_judge_text_tape a_judge_text_reader a_judge_text_steps a_judge_text_worked a_p1 a_p1_who crowd_people crowd_heights judge_text_fed judge_text_length judge_text_top judge_text_steps judge_text_worked judge_known numbers ahead p1_length p1_who) (none) (w_Thoughts_weighRights G a_this a_crowd a_judge a_trial a_numbers a_ahead a_orders a_crowd_heights a_judge_text a_judge_known a_judge_text_tape a_judge_text_reader a_judge_text_steps a_judge_text_worked a_p1 a_p1_who crowd_people crowd_heights judge_text_fed judge_text_length o_judge_text_top judge_text_steps o_judge_text_worked o_judge_known o_numbers o_ahead p1_length p1_who) := by
  refine zM.of [(0, .ref a_this), (1, .ref a_p1)] (own := RX10) rfl (by decide +kernel) (Nat.le_of_ble_eq_true rfl) rfl rfl fun X hX F => ?_
  subst hX
  replace hf := (f_Thoughts_weighRights.eq_1 ..).symm.trans hf
  refine z_aload_n F 1 dX10_weighRights_0 rfl rfl ?_
  refine z_callVm (rest := []) F 7 (c_Line_size (xL X) G a_p1 a_p1_who p1_length _ rfl) hy_X7_size ml_X10_46 hd_X7_size ⟨by omega, by omega⟩ rfl [10] rfl rfl 10 rfl rfl (w_Thoughts_weighRights G a_this a_crowd a_judge a_trial a_numbers a_ahead a_orders a_crowd_heights a_judge_text a_judge_known a_judge_text_tape a_judge_text_reader a_judge_text_steps a_judge_text_worked a_p1 a_p1_who crowd_people crowd_heights judge_text_fed judge_text_length judge_text_top judge_text_steps judge_text_worked judge_known numbers ahead p1_length p1_who) [none, none, none, none, none, none, none, none, none, none, some 0, none] rfl (by decide +kernel) rfl rfl (Nat.le_of_ble_eq_true rfl) dX10_weighRights_1 (fun hz_1 => ?_)
  refine z_bipush F (9) dX10_weighRights_4 rfl ?_
  refine z_min F ⟨(uw44 _ (List.mem_of_getElem? (i := 16) rfl)), (uw23 _ (List.mem_of_getElem? (i := 2) rfl)), (uw23 _ (List.mem_of_getElem? (i := 3) rfl)), (uw23 _ (List.mem_of_getElem? (i := 4) rfl))⟩ (by omega) (Nat.le_of_ble_eq_true rfl) dX10_weighRights_6 ?_
  refine z_istore_n F [(2, .int (if (9 : Int32) < (f_Line_size p1_length) then 9 else (f_Line_size p1_length))), (0, .ref a_this), (1, .ref a_p1)] dX10_weighRights_9 rfl (by decide) rfl ?_
  refine z_iconst F (0) dX10_weighRights_10 rfl ?_
  refine z_istore_n F [(3, .int 0), (2, .int (if (9 : Int32) < (f_Line_size p1_length) then 9 else (f_Line_size p1_length))), (0, .ref a_this), (1, .ref a_p1)] dX10_weighRights_11 rfl (by decide) rfl ?_
  obtain ⟨judge_text_top_8, judge_text_worked_9, judge_known_10, numbers_11, hg, hf⟩ := zb4_some hf
  refine z_sub [2, 3, 1, 0] rfl ?_
  refine l_Thoughts_weighRights_12 G a_this a_crowd a_judge a_trial a_numbers a_ahead a_orders a_crowd_heights a_judge_text a_judge_known a_judge_text_tape a_judge_text_reader a_judge_text_steps a_judge_text_worked a_p1 a_p1_who crowd_people crowd_heights judge_text_fed judge_text_length judge_text_steps ahead p1_length p1_who (if (9 : Int32) < (f_Line_size p1_length) then 9 else (f_Line_size p1_length)) F judge_text_top_8 judge_text_worked_9 judge_known_10 numbers_11 ?_ FU judge_text_top judge_text_worked judge_known numbers 0 hg
  refine z_iconst F (0) dX10_weighRights_38 rfl ?_
  refine z_istore_n F [(3, .int 0), (0, .ref a_this), (1, .ref a_p1), (2, .int (if (9 : Int32) < (f_Line_size p1_length) then 9 else (f_Line_size p1_length)))] dX10_weighRights_39 rfl (by decide) rfl ?_
  obtain ⟨ahead_24, hg, hf⟩ := zb1_some hf
  refine z_sub [1, 2, 3, 0] rfl ?_
  refine l_Thoughts_weighRights_40 G a_this a_crowd a_judge a_trial a_numbers a_ahead a_orders a_crowd_heights a_judge_text a_judge_known a_judge_text_tape a_judge_text_reader a_judge_text_steps a_judge_text_worked a_p1 a_p1_who crowd_people crowd_heights judge_text_fed judge_text_length judge_text_top_8 judge_text_steps judge_text_worked_9 judge_known_10 numbers_11 p1_length p1_who (if (9 : Int32) < (f_Line_size p1_length) then 9 else (f_Line_size p1_length)) F ahead_24 ?_ FU ahead 0 hg
  have eq1 := Option.some.inj hf
  obtain ⟨ee1, eq2⟩ := Prod.mk.inj eq1
  obtain ⟨ee2, eq3⟩ := Prod.mk.inj eq2
  obtain ⟨ee3, eq4⟩ := Prod.mk.inj eq3
  obtain ⟨ee4, ee5⟩ := Prod.mk.inj eq4
  subst ee1
  subst ee2
  subst ee3
  subst ee4
  subst ee5
  exact z_vret F rfl rfl rfl dX10_weighRights_123

abbrev w_Thoughts_allPlaces (G : zG) (a_this : Nat) (a_crowd : Nat) (a_judge : Nat) (a_trial : Nat) (a_numbers : Nat) (a_ahead : Nat) (a_orders : Nat) (a_p1 : Nat) (a_p1_who : Nat) (p1_length : Int32) : va_W := [(a_this, cO 10 [.ref a_crowd, .ref a_judge, .ref a_trial, .ref a_numbers, .ref a_ahead, .ref a_orders]), (a_p1, cO 7 [.ref a_p1_who, .int p1_length])]
def f_Thoughts_allPlaces (p1_length : Int32) : Int32 := (((1 : Int32) <<< ((if (9 : Int32) < (f_Line_size p1_length) then 9 else (f_Line_size p1_length)) &&& 31)) - (1 : Int32))
set_option maxRecDepth 100000 in
set_option maxHeartbeats 4000000 in
theorem c_Thoughts_allPlaces (l : Launch) (G : zG) (a_this : Nat) (a_crowd : Nat) (a_judge : Nat) (a_trial : Nat) (a_numbers : Nat) (a_ahead : Nat) (a_orders : Nat) (a_p1 : Nat) (a_p1_who : Nat) (p1_length : Int32) (r_ : Int32) (hf : f_Thoughts_allPlaces p1_length = r_) : zM l yX10_allPlaces cX10_allPlaces 2 (some .int) 1 21 G [.ref a_this, .ref a_p1] (w_Thoughts_allPlaces G a_this a_crowd a_judge a_trial a_numbers a_ahead a_orders a_p1 a_p1_who p1_length) (some (.int r_)) (w_Thoughts_allPlaces G a_this a_crowd a_judge a_trial a_numbers a_ahead a_orders a_p1 a_p1_who p1_length) := by
  refine zM.of [(0, .ref a_this), (1, .ref a_p1)] (own := RX10) rfl (by decide +kernel) (Nat.le_of_ble_eq_true rfl) rfl rfl fun X hX F => ?_
  subst hX
  replace hf := (f_Thoughts_allPlaces.eq_1 ..).symm.trans hf
  refine z_iconst F (1) dX10_allPlaces_0 rfl ?_
  refine z_aload_n F 1 dX10_allPlaces_1 rfl rfl ?_
  refine z_callVm (rest := [.int 1]) F 7 (c_Line_size (xL X) G a_p1 a_p1_who p1_length _ rfl) hy_X7_size ml_X10_46 hd_X7_size ⟨by omega, by omega⟩ rfl [1] rfl rfl 1 rfl rfl (w_Thoughts_allPlaces G a_this a_crowd a_judge a_trial a_numbers a_ahead a_orders a_p1 a_p1_who p1_length) [none, some 0] rfl (by decide +kernel) rfl rfl (Nat.le_of_ble_eq_true rfl) dX10_allPlaces_2 (fun hz_1 => ?_)
  refine z_bipush F (9) dX10_allPlaces_5 rfl ?_
  refine z_min F ⟨(uw44 _ (List.mem_of_getElem? (i := 16) rfl)), (uw23 _ (List.mem_of_getElem? (i := 2) rfl)), (uw23 _ (List.mem_of_getElem? (i := 3) rfl)), (uw23 _ (List.mem_of_getElem? (i := 4) rfl))⟩ (by omega) (Nat.le_of_ble_eq_true rfl) dX10_allPlaces_7 ?_
  refine z_ishl F dX10_allPlaces_10 ?_
  refine z_iconst F (1) dX10_allPlaces_11 rfl ?_
  refine z_isub F dX10_allPlaces_12 ?_
  subst hf
  exact z_iret F rfl rfl rfl rfl dX10_allPlaces_13

abbrev w_Thoughts_mayBeNext (G : zG) (a_this : Nat) (a_crowd : Nat) (a_judge : Nat) (a_trial : Nat) (a_numbers : Nat) (a_ahead : Nat) (a_orders : Nat) (ahead : Nat → Int32) : va_W := [(a_this, cO 10 [.ref a_crowd, .ref a_judge, .ref a_trial, .ref a_numbers, .ref a_ahead, .ref a_orders]), (a_ahead, cI G 9 ahead)]
def f_Thoughts_mayBeNext (ahead : Nat → Int32) (x1 : Int32) (x2 : Int32) : Option Int32 := (if x1 < 0 then (some 0) else (if (9 : Int32) ≤ x1 then (some 0) else (if ((x2 >>> (x1 &&& 31)) &&& (1 : Int32)) = 1 then (zg ahead 9 x1 fun v_1 => (if (v_1 &&& x2) = 0 then (some 1) else (some 0))) else (some 0))))
set_option maxRecDepth 100000 in
set_option maxHeartbeats 4000000 in
theorem c_Thoughts_mayBeNext (l : Launch) (G : zG) (a_this : Nat) (a_crowd : Nat) (a_judge : Nat) (a_trial : Nat) (a_numbers : Nat) (a_ahead : Nat) (a_orders : Nat) (ahead : Nat → Int32) (x1 : Int32) (x2 : Int32) (r_ : Int32) (hf : f_Thoughts_mayBeNext ahead x1 x2 = some r_) : zM l yX10_mayBeNext cX10_mayBeNext 3 (some .boolean) 0 0 G [.ref a_this, .int x1, .int x2] (w_Thoughts_mayBeNext G a_this a_crowd a_judge a_trial a_numbers a_ahead a_orders ahead) (some (.int r_)) (w_Thoughts_mayBeNext G a_this a_crowd a_judge a_trial a_numbers a_ahead a_orders ahead) := by
  refine zM.of [(0, .ref a_this), (1, .int x1), (2, .int x2)] (own := RX10) rfl (by decide +kernel) (Nat.le_of_ble_eq_true rfl) rfl rfl fun X hX F => ?_
  subst hX
  replace hf := (f_Thoughts_mayBeNext.eq_1 ..).symm.trans hf
  refine z_iload_n F 1 dX10_mayBeNext_0 rfl rfl ?_
  refine z_if_lt F 34 dX10_mayBeNext_1 (by decide) hf (fun hf _ => ?_) (fun hf _ => ?_)
  · refine z_iconst F (0) dX10_mayBeNext_34 rfl ?_
    have ee1 := Option.some.inj hf
    subst ee1
    exact z_iret F rfl rfl rfl rfl dX10_mayBeNext_35
  · refine z_iload_n F 1 dX10_mayBeNext_4 rfl rfl ?_
    refine z_bipush F (9) dX10_mayBeNext_5 rfl ?_
    refine z_icmp_ge F 34 dX10_mayBeNext_7 (by decide) hf (fun hf _ => ?_) (fun hf _ => ?_)
    · refine z_iconst F (0) dX10_mayBeNext_34 rfl ?_
      have ee1 := Option.some.inj hf
      subst ee1
      exact z_iret F rfl rfl rfl rfl dX10_mayBeNext_35
    · refine z_iload_n F 2 dX10_mayBeNext_10 rfl rfl ?_
      refine z_iload_n F 1 dX10_mayBeNext_11 rfl rfl ?_
      refine z_ishr F dX10_mayBeNext_12 ?_
      refine z_iconst F (1) dX10_mayBeNext_13 rfl ?_
      refine z_iand F dX10_mayBeNext_14 ?_
      refine z_iconst F (1) dX10_mayBeNext_15 rfl ?_
      refine z_icmp_ne F 34 dX10_mayBeNext_16 (by decide) hf (fun hf _ => ?_) (fun hf _ => ?_)
      · refine z_iconst F (0) dX10_mayBeNext_34 rfl ?_
        have ee1 := Option.some.inj hf
        subst ee1
        exact z_iret F rfl rfl rfl rfl dX10_mayBeNext_35
      · refine z_aload_n F 0 dX10_mayBeNext_19 rfl rfl ?_
        refine z_get F 0 10 4 inlX10 rfl rfl (by decide) fl_X10_30 rfl dX10_mayBeNext_20 ?_
        refine z_iload_n F 1 dX10_mayBeNext_23 rfl rfl ?_
        refine z_iald F 1 rfl hf dX10_mayBeNext_24 (fun v_1 hf => ?_)
        refine z_iload_n F 2 dX10_mayBeNext_25 rfl rfl ?_
        refine z_iand F dX10_mayBeNext_26 ?_
        refine z_if_ne F 34 dX10_mayBeNext_27 (by decide) hf (fun hf _ => ?_) (fun hf _ => ?_)
        · refine z_iconst F (0) dX10_mayBeNext_34 rfl ?_
          have ee1 := Option.some.inj hf
          subst ee1
          exact z_iret F rfl rfl rfl rfl dX10_mayBeNext_35
        · refine z_iconst F (1) dX10_mayBeNext_30 rfl ?_
          refine z_goto F 35 dX10_mayBeNext_31 (by decide) ?_
          have ee1 := Option.some.inj hf
          subst ee1
          exact z_iret F rfl rfl rfl rfl dX10_mayBeNext_35

abbrev w_Thoughts_whoMayBeFirst (G : zG) (a_this : Nat) (a_crowd : Nat) (a_judge : Nat) (a_trial : Nat) (a_numbers : Nat) (a_ahead : Nat) (a_orders : Nat) (a_p1 : Nat) (a_p1_who : Nat) (ahead : Nat → Int32) (p1_length : Int32) (p1_who : Nat → Int32) : va_W := [(a_this, cO 10 [.ref a_crowd, .ref a_judge, .ref a_trial, .ref a_numbers, .ref a_ahead, .ref a_orders]), (a_ahead, cI G 9 ahead), (a_p1, cO 7 [.ref a_p1_who, .int p1_length]), (a_p1_who, cI G 9 p1_who)]
def f_Thoughts_whoMayBeFirst_L11 (ahead : Nat → Int32) (p1_length : Int32) (p1_who : Nat → Int32) (v2 : Int32) : Nat → Int32 → Int32 → Option Int32
  | 0, _, _ => none
  | fuel + 1, v3, v4 => (if (f_Line_size p1_length) ≤ v4 then (some v3) else (zb1 (f_Thoughts_mayBeNext ahead v4 v2) fun r_3 => (if r_3 = 0 then (f_Thoughts_whoMayBeFirst_L11 ahead p1_length p1_who v2 fuel v3 (v4 + 1)) else (zb1 (f_Line_at p1_length p1_who v4) fun r_5 => (f_Thoughts_whoMayBeFirst_L11 ahead p1_length p1_who v2 fuel (v3 ||| ((1 : Int32) <<< (r_5 &&& 31))) (v4 + 1))))))
def f_Thoughts_whoMayBeFirst (ahead : Nat → Int32) (p1_length : Int32) (p1_who : Nat → Int32) : Option Int32 := (zb1 (f_Thoughts_whoMayBeFirst_L11 ahead p1_length p1_who (f_Thoughts_allPlaces p1_length) FU 0 0) fun v3_7 => (some v3_7))
set_option maxRecDepth 100000 in
set_option maxHeartbeats 4000000 in
theorem l_Thoughts_whoMayBeFirst_11 {X : zX} (G : zG) (a_this : Nat) (a_crowd : Nat) (a_judge : Nat) (a_trial : Nat) (a_numbers : Nat) (a_ahead : Nat) (a_orders : Nat) (a_p1 : Nat) (a_p1_who : Nat) (ahead : Nat → Int32) (p1_length : Int32) (p1_who : Nat → Int32) (v2 : Int32) {v0 : Option Value} {w0 : va_W} (F : zF X G cX10_whoMayBeFirst RX10 5 (some .int) 2 42 v0 w0) (e_v3 : Int32) (hk : Z X G 5 (w_Thoughts_whoMayBeFirst G a_this a_crowd a_judge a_trial a_numbers a_ahead a_orders a_p1 a_p1_who ahead p1_length p1_who) [(3, .int e_v3)] 47 []) :
    ∀ (fuel : Nat) (v3 : Int32) (v4 : Int32), f_Thoughts_whoMayBeFirst_L11 ahead p1_length p1_who v2 fuel v3 v4 = some e_v3 → Z X G 5 (w_Thoughts_whoMayBeFirst G a_this a_crowd a_judge a_trial a_numbers a_ahead a_orders a_p1 a_p1_who ahead p1_length p1_who) [(0, .ref a_this), (1, .ref a_p1), (2, .int v2), (3, .int v3), (4, .int v4)] 11 [] := by
  intro fuel
  induction fuel with
  | zero => intro v3 v4 hf; exact absurd ((f_Thoughts_whoMayBeFirst_L11.eq_1 ..).symm.trans hf) (fun h => by cases h)
  | succ fuel ih =>
    intro v3 v4 hf
    replace hf := (f_Thoughts_whoMayBeFirst_L11.eq_2 ..).symm.trans hf
    refine z_iload F 4 dX10_whoMayBeFirst_11 rfl ?_
    refine z_aload_n F 1 dX10_whoMayBeFirst_13 rfl rfl ?_
    refine z_callVm (rest := [.int v4]) F 7 (c_Line_size (xL X) G a_p1 a_p1_who p1_length _ rfl) hy_X7_size ml_X10_46 hd_X7_size ⟨by omega, by omega⟩ rfl [2] rfl rfl 2 rfl rfl (w_Thoughts_whoMayBeFirst G a_this a_crowd a_judge a_trial a_numbers a_ahead a_orders a_p1 a_p1_who ahead p1_length p1_who) [none, none, some 0, none] rfl (by decide +kernel) rfl rfl (Nat.le_of_ble_eq_true rfl) dX10_whoMayBeFirst_14 (fun hz_2 => ?_)
    refine z_icmp_ge F 47 dX10_whoMayBeFirst_17 (by decide) hf (fun hf _ => ?_) (fun hf _ => ?_)
    · have ee1 := Option.some.inj hf
      subst ee1
      exact z_sub [3] rfl hk
    · refine z_aload_n F 0 dX10_whoMayBeFirst_20 rfl rfl ?_
      refine z_iload F 4 dX10_whoMayBeFirst_21 rfl ?_
      refine z_iload_n F 2 dX10_whoMayBeFirst_23 rfl rfl ?_
      obtain ⟨r_3, hg, hf⟩ := zb1_some hf
      refine z_callVm (rest := []) F 10 (c_Thoughts_mayBeNext (xL X) G a_this a_crowd a_judge a_trial a_numbers a_ahead a_orders ahead v4 v2 r_3 hg) hy_X10_mayBeNext ml_X10_87 hd_X10_mayBeNext ⟨by omega, by omega⟩ rfl [0, 1] rfl rfl 0 rfl rfl (w_Thoughts_whoMayBeFirst G a_this a_crowd a_judge a_trial a_numbers a_ahead a_orders a_p1 a_p1_who ahead p1_length p1_who) [some 0, some 1, none, none] rfl (by decide +kernel) rfl rfl (Nat.le_of_ble_eq_true rfl) dX10_whoMayBeFirst_24 (fun hz_4 => ?_)
      refine z_if_eq F 41 dX10_whoMayBeFirst_27 (by decide) hf (fun hf _ => ?_) (fun hf _ => ?_)
      · refine z_iinc F [(4, .int (v4 + 1)), (0, .ref a_this), (1, .ref a_p1), (2, .int v2), (3, .int v3)] dX10_whoMayBeFirst_41 4 rfl rfl (by decide) rfl ?_
        refine z_goto F 11 dX10_whoMayBeFirst_44 (by decide) ?_
        exact z_sub [1, 2, 3, 4, 0] rfl (ih v3 (v4 + 1) hf)
      · refine z_iload_n F 3 dX10_whoMayBeFirst_30 rfl rfl ?_
        refine z_iconst F (1) dX10_whoMayBeFirst_31 rfl ?_
        refine z_aload_n F 1 dX10_whoMayBeFirst_32 rfl rfl ?_
        refine z_iload F 4 dX10_whoMayBeFirst_33 rfl ?_
        obtain ⟨r_5, hg, hf⟩ := zb1_some hf
        refine z_callVm (rest := [.int 1, .int v3]) F 7 (c_Line_at (xL X) G a_p1 a_p1_who p1_length p1_who v4 r_5 hg) hy_X7_at ml_X10_57 hd_X7_at ⟨by omega, by omega⟩ rfl [2, 3] rfl rfl 2 rfl rfl (w_Thoughts_whoMayBeFirst G a_this a_crowd a_judge a_trial a_numbers a_ahead a_orders a_p1 a_p1_who ahead p1_length p1_who) [none, none, some 0, some 1] rfl (by decide +kernel) rfl rfl (Nat.le_of_ble_eq_true rfl) dX10_whoMayBeFirst_35 (fun hz_6 => ?_)
        refine z_ishl F dX10_whoMayBeFirst_38 ?_
        refine z_ior F dX10_whoMayBeFirst_39 ?_
        refine z_istore_n F [(3, .int (v3 ||| ((1 : Int32) <<< (r_5 &&& 31)))), (0, .ref a_this), (1, .ref a_p1), (2, .int v2), (4, .int v4)] dX10_whoMayBeFirst_40 rfl (by decide) rfl ?_
        refine z_iinc F [(4, .int (v4 + 1)), (3, .int (v3 ||| ((1 : Int32) <<< (r_5 &&& 31)))), (0, .ref a_this), (1, .ref a_p1), (2, .int v2)] dX10_whoMayBeFirst_41 4 rfl rfl (by decide) rfl ?_
        refine z_goto F 11 dX10_whoMayBeFirst_44 (by decide) ?_
        exact z_sub [2, 3, 4, 1, 0] rfl (ih (v3 ||| ((1 : Int32) <<< (r_5 &&& 31))) (v4 + 1) hf)

set_option maxRecDepth 100000 in
set_option maxHeartbeats 4000000 in
theorem c_Thoughts_whoMayBeFirst (l : Launch) (G : zG) (a_this : Nat) (a_crowd : Nat) (a_judge : Nat) (a_trial : Nat) (a_numbers : Nat) (a_ahead : Nat) (a_orders : Nat) (a_p1 : Nat) (a_p1_who : Nat) (ahead : Nat → Int32) (p1_length : Int32) (p1_who : Nat → Int32) (r_ : Int32) (hf : f_Thoughts_whoMayBeFirst ahead p1_length p1_who = some r_) : zM l yX10_whoMayBeFirst cX10_whoMayBeFirst 5 (some .int) 2 42 G [.ref a_this, .ref a_p1] (w_Thoughts_whoMayBeFirst G a_this a_crowd a_judge a_trial a_numbers a_ahead a_orders a_p1 a_p1_who ahead p1_length p1_who) (some (.int r_)) (w_Thoughts_whoMayBeFirst G a_this a_crowd a_judge a_trial a_numbers a_ahead a_orders a_p1 a_p1_who ahead p1_length p1_who) := by
  refine zM.of [(0, .ref a_this), (1, .ref a_p1)] (own := RX10) rfl (by decide +kernel) (Nat.le_of_ble_eq_true rfl) rfl rfl fun X hX F => ?_
  subst hX
  replace hf := (f_Thoughts_whoMayBeFirst.eq_1 ..).symm.trans hf
  refine z_aload_n F 0 dX10_whoMayBeFirst_0 rfl rfl ?_
  refine z_aload_n F 1 dX10_whoMayBeFirst_1 rfl rfl ?_
  refine z_callVm (rest := []) F 10 (c_Thoughts_allPlaces (xL X) G a_this a_crowd a_judge a_trial a_numbers a_ahead a_orders a_p1 a_p1_who p1_length _ rfl) hy_X10_allPlaces ml_X10_84 hd_X10_allPlaces ⟨by omega, by omega⟩ rfl [0, 2] rfl rfl 0 rfl rfl (w_Thoughts_whoMayBeFirst G a_this a_crowd a_judge a_trial a_numbers a_ahead a_orders a_p1 a_p1_who ahead p1_length p1_who) [some 0, none, some 1, none] rfl (by decide +kernel) rfl rfl (Nat.le_of_ble_eq_true rfl) dX10_whoMayBeFirst_2 (fun hz_1 => ?_)
  refine z_istore_n F [(2, .int (f_Thoughts_allPlaces p1_length)), (0, .ref a_this), (1, .ref a_p1)] dX10_whoMayBeFirst_5 rfl (by decide) rfl ?_
  refine z_iconst F (0) dX10_whoMayBeFirst_6 rfl ?_
  refine z_istore_n F [(3, .int 0), (2, .int (f_Thoughts_allPlaces p1_length)), (0, .ref a_this), (1, .ref a_p1)] dX10_whoMayBeFirst_7 rfl (by decide) rfl ?_
  refine z_iconst F (0) dX10_whoMayBeFirst_8 rfl ?_
  refine z_istore F [(4, .int 0), (3, .int 0), (2, .int (f_Thoughts_allPlaces p1_length)), (0, .ref a_this), (1, .ref a_p1)] dX10_whoMayBeFirst_9 (by decide) rfl ?_
  obtain ⟨v3_7, hg, hf⟩ := zb1_some hf
  refine z_sub [3, 4, 2, 1, 0] rfl ?_
  refine l_Thoughts_whoMayBeFirst_11 G a_this a_crowd a_judge a_trial a_numbers a_ahead a_orders a_p1 a_p1_who ahead p1_length p1_who (f_Thoughts_allPlaces p1_length) F v3_7 ?_ FU 0 0 hg
  refine z_iload_n F 0 dX10_whoMayBeFirst_47 rfl rfl ?_
  have ee1 := Option.some.inj hf
  subst ee1
  exact z_iret F rfl rfl rfl rfl dX10_whoMayBeFirst_48

abbrev w_Thoughts_ordersByRight (G : zG) (a_this : Nat) (a_crowd : Nat) (a_judge : Nat) (a_trial : Nat) (a_numbers : Nat) (a_ahead : Nat) (a_orders : Nat) (a_p1 : Nat) (a_p1_who : Nat) (ahead : Nat → Int32) (orders : Nat → Int32) (p1_length : Int32) : va_W := [(a_this, cO 10 [.ref a_crowd, .ref a_judge, .ref a_trial, .ref a_numbers, .ref a_ahead, .ref a_orders]), (a_ahead, cI G 9 ahead), (a_orders, cI G 512 orders), (a_p1, cO 7 [.ref a_p1_who, .int p1_length])]
def f_Thoughts_ordersByRight_L32 (ahead : Nat → Int32) (orders : Nat → Int32) (v2 : Int32) (v3 : Int32) : Nat → Int32 → Int32 → Option Int32
  | 0, _, _ => none
  | fuel + 1, v4, v5 => (if v2 ≤ v5 then (some v4) else (if (v3 &&& ((1 : Int32) <<< (v5 &&& 31))) = 0 then (f_Thoughts_ordersByRight_L32 ahead orders v2 v3 fuel v4 (v5 + 1)) else (zg ahead 9 v5 fun v_3 => (if (v_3 &&& v3) = 0 then (zg orders 512 (v3 ^^^ ((1 : Int32) <<< (v5 &&& 31))) fun v_4 => (f_Thoughts_ordersByRight_L32 ahead orders v2 v3 fuel (v4 + v_4) (v5 + 1))) else (f_Thoughts_ordersByRight_L32 ahead orders v2 v3 fuel v4 (v5 + 1))))))
def f_Thoughts_ordersByRight_L19 (ahead : Nat → Int32) (v2 : Int32) : Nat → (Nat → Int32) → Int32 → Option ((Nat → Int32))
  | 0, _, _ => none
  | fuel + 1, orders, v3 => (if ((1 : Int32) <<< (v2 &&& 31)) ≤ v3 then (some orders) else (zb1 (f_Thoughts_ordersByRight_L32 ahead orders v2 v3 FU 0 0) fun v4_5 => (zs orders 512 v3 v4_5 fun orders_6 => (f_Thoughts_ordersByRight_L19 ahead v2 fuel orders_6 (v3 + 1)))))
def f_Thoughts_ordersByRight (ahead : Nat → Int32) (orders : Nat → Int32) (p1_length : Int32) : Option (Int32 × (Nat → Int32)) := (zs orders 512 0 1 fun orders_2 => (zb1 (f_Thoughts_ordersByRight_L19 ahead (if (9 : Int32) < (f_Line_size p1_length) then 9 else (f_Line_size p1_length)) FU orders_2 1) fun orders_7 => (zg orders_7 512 (((1 : Int32) <<< ((if (9 : Int32) < (f_Line_size p1_length) then 9 else (f_Line_size p1_length)) &&& 31)) - (1 : Int32)) fun v_8 => (some (v_8, orders_7)))))
set_option maxRecDepth 100000 in
set_option maxHeartbeats 4000000 in
theorem l_Thoughts_ordersByRight_32 {X : zX} (G : zG) (a_this : Nat) (a_crowd : Nat) (a_judge : Nat) (a_trial : Nat) (a_numbers : Nat) (a_ahead : Nat) (a_orders : Nat) (a_p1 : Nat) (a_p1_who : Nat) (ahead : Nat → Int32) (orders : Nat → Int32) (p1_length : Int32) (v2 : Int32) (v3 : Int32) {v0 : Option Value} {w0 : va_W} (F : zF X G cX10_ordersByRight RX10 7 (some .int) 1 21 v0 w0) (e_v4 : Int32) (hk : Z X G 7 (w_Thoughts_ordersByRight G a_this a_crowd a_judge a_trial a_numbers a_ahead a_orders a_p1 a_p1_who ahead orders p1_length) [(0, .ref a_this), (2, .int v2), (3, .int v3), (4, .int e_v4)] 83 []) :
    ∀ (fuel : Nat) (v4 : Int32) (v5 : Int32), f_Thoughts_ordersByRight_L32 ahead orders v2 v3 fuel v4 v5 = some e_v4 → Z X G 7 (w_Thoughts_ordersByRight G a_this a_crowd a_judge a_trial a_numbers a_ahead a_orders a_p1 a_p1_who ahead orders p1_length) [(0, .ref a_this), (2, .int v2), (3, .int v3), (4, .int v4), (5, .int v5)] 32 [] := by
  intro fuel
  induction fuel with
  | zero => intro v4 v5 hf; exact absurd ((f_Thoughts_ordersByRight_L32.eq_1 ..).symm.trans hf) (fun h => by cases h)
  | succ fuel ih =>
    intro v4 v5 hf
    replace hf := (f_Thoughts_ordersByRight_L32.eq_2 ..).symm.trans hf
    refine z_iload F 4 dX10_ordersByRight_32 rfl ?_
    refine z_iload_n F 1 dX10_ordersByRight_34 rfl rfl ?_
    refine z_icmp_ge F 83 dX10_ordersByRight_35 (by decide) hf (fun hf _ => ?_) (fun hf _ => ?_)
    · have ee1 := Option.some.inj hf
      subst ee1
      exact z_sub [0, 1, 2, 3] rfl hk
    · refine z_iconst F (1) dX10_ordersByRight_38 rfl ?_
      refine z_iload F 4 dX10_ordersByRight_39 rfl ?_
      refine z_ishl F dX10_ordersByRight_41 ?_
      refine z_istore F [(6, .int ((1 : Int32) <<< (v5 &&& 31))), (0, .ref a_this), (2, .int v2), (3, .int v3), (4, .int v4), (5, .int v5)] dX10_ordersByRight_42 (by decide) rfl ?_
      refine z_iload_n F 3 dX10_ordersByRight_44 rfl rfl ?_
      refine z_iload F 0 dX10_ordersByRight_45 rfl ?_
      refine z_iand F dX10_ordersByRight_47 ?_
      refine z_if_eq F 77 dX10_ordersByRight_48 (by decide) hf (fun hf _ => ?_) (fun hf _ => ?_)
      · refine z_iinc F [(5, .int (v5 + 1)), (6, .int ((1 : Int32) <<< (v5 &&& 31))), (0, .ref a_this), (2, .int v2), (3, .int v3), (4, .int v4)] dX10_ordersByRight_77 5 rfl rfl (by decide) rfl ?_
        refine z_goto F 32 dX10_ordersByRight_80 (by decide) ?_
        exact z_sub [2, 3, 4, 5, 0] rfl (ih v4 (v5 + 1) hf)
      · refine z_aload_n F 1 dX10_ordersByRight_51 rfl rfl ?_
        refine z_get F 0 10 4 inlX10 rfl rfl (by decide) fl_X10_30 rfl dX10_ordersByRight_52 ?_
        refine z_iload F 5 dX10_ordersByRight_55 rfl ?_
        refine z_iald F 1 rfl hf dX10_ordersByRight_57 (fun v_3 hf => ?_)
        refine z_iload_n F 3 dX10_ordersByRight_58 rfl rfl ?_
        refine z_iand F dX10_ordersByRight_59 ?_
        refine z_if_ne F 77 dX10_ordersByRight_60 (by decide) hf (fun hf _ => ?_) (fun hf _ => ?_)
        · refine z_iinc F [(5, .int (v5 + 1)), (6, .int ((1 : Int32) <<< (v5 &&& 31))), (0, .ref a_this), (2, .int v2), (3, .int v3), (4, .int v4)] dX10_ordersByRight_77 5 rfl rfl (by decide) rfl ?_
          refine z_goto F 32 dX10_ordersByRight_80 (by decide) ?_
          exact z_sub [2, 3, 4, 5, 0] rfl (ih v4 (v5 + 1) hf)
        · refine z_iload F 4 dX10_ordersByRight_63 rfl ?_
          refine z_aload_n F 1 dX10_ordersByRight_65 rfl rfl ?_
          refine z_get F 0 10 5 inlX10 rfl rfl (by decide) fl_X10_33 rfl dX10_ordersByRight_66 ?_
          refine z_iload_n F 3 dX10_ordersByRight_69 rfl rfl ?_
          refine z_iload F 0 dX10_ordersByRight_70 rfl ?_
          refine z_ixor F dX10_ordersByRight_72 ?_
          refine z_iald F 2 rfl hf dX10_ordersByRight_73 (fun v_4 hf => ?_)
          refine z_iadd F dX10_ordersByRight_74 ?_
          refine z_istore F [(4, .int (v4 + v_4)), (6, .int ((1 : Int32) <<< (v5 &&& 31))), (0, .ref a_this), (2, .int v2), (3, .int v3), (5, .int v5)] dX10_ordersByRight_75 (by decide) rfl ?_
          refine z_iinc F [(5, .int (v5 + 1)), (4, .int (v4 + v_4)), (6, .int ((1 : Int32) <<< (v5 &&& 31))), (0, .ref a_this), (2, .int v2), (3, .int v3)] dX10_ordersByRight_77 5 rfl rfl (by decide) rfl ?_
          refine z_goto F 32 dX10_ordersByRight_80 (by decide) ?_
          exact z_sub [3, 4, 5, 1, 0] rfl (ih (v4 + v_4) (v5 + 1) hf)

set_option maxRecDepth 100000 in
set_option maxHeartbeats 4000000 in
theorem l_Thoughts_ordersByRight_19 {X : zX} (G : zG) (a_this : Nat) (a_crowd : Nat) (a_judge : Nat) (a_trial : Nat) (a_numbers : Nat) (a_ahead : Nat) (a_orders : Nat) (a_p1 : Nat) (a_p1_who : Nat) (ahead : Nat → Int32) (p1_length : Int32) (v2 : Int32) {v0 : Option Value} {w0 : va_W} (F : zF X G cX10_ordersByRight RX10 7 (some .int) 1 21 v0 w0) (e_orders : Nat → Int32) (hk : Z X G 7 (w_Thoughts_ordersByRight G a_this a_crowd a_judge a_trial a_numbers a_ahead a_orders a_p1 a_p1_who ahead e_orders p1_length) [(0, .ref a_this), (2, .int v2)] 97 []) :
    ∀ (fuel : Nat) (orders : Nat → Int32) (v3 : Int32), f_Thoughts_ordersByRight_L19 ahead v2 fuel orders v3 = some e_orders → Z X G 7 (w_Thoughts_ordersByRight G a_this a_crowd a_judge a_trial a_numbers a_ahead a_orders a_p1 a_p1_who ahead orders p1_length) [(0, .ref a_this), (2, .int v2), (3, .int v3)] 19 [] := by
  intro fuel
  induction fuel with
  | zero => intro orders v3 hf; exact absurd ((f_Thoughts_ordersByRight_L19.eq_1 ..).symm.trans hf) (fun h => by cases h)
  | succ fuel ih =>
    intro orders v3 hf
    replace hf := (f_Thoughts_ordersByRight_L19.eq_2 ..).symm.trans hf
    refine z_iload_n F 2 dX10_ordersByRight_19 rfl rfl ?_
    refine z_iconst F (1) dX10_ordersByRight_20 rfl ?_
    refine z_iload_n F 1 dX10_ordersByRight_21 rfl rfl ?_
    refine z_ishl F dX10_ordersByRight_22 ?_
    refine z_icmp_ge F 97 dX10_ordersByRight_23 (by decide) hf (fun hf _ => ?_) (fun hf _ => ?_)
    · have ee1 := Option.some.inj hf
      subst ee1
      exact z_sub [0, 1] rfl hk
    · refine z_iconst F (0) dX10_ordersByRight_26 rfl ?_
      refine z_istore F [(4, .int 0), (0, .ref a_this), (2, .int v2), (3, .int v3)] dX10_ordersByRight_27 (by decide) rfl ?_
      refine z_iconst F (0) dX10_ordersByRight_29 rfl ?_
      refine z_istore F [(5, .int 0), (4, .int 0), (0, .ref a_this), (2, .int v2), (3, .int v3)] dX10_ordersByRight_30 (by decide) rfl ?_
      obtain ⟨v4_5, hg, hf⟩ := zb1_some hf
      refine z_sub [2, 3, 4, 1, 0] rfl ?_
      refine l_Thoughts_ordersByRight_32 G a_this a_crowd a_judge a_trial a_numbers a_ahead a_orders a_p1 a_p1_who ahead orders p1_length v2 v3 F v4_5 ?_ FU 0 0 hg
      refine z_aload_n F 0 dX10_ordersByRight_83 rfl rfl ?_
      refine z_get F 0 10 5 inlX10 rfl rfl (by decide) fl_X10_33 rfl dX10_ordersByRight_84 ?_
      refine z_iload_n F 2 dX10_ordersByRight_87 rfl rfl ?_
      refine z_iload F 3 dX10_ordersByRight_88 rfl ?_
      refine z_iast F 2 (fun orders_6 => (w_Thoughts_ordersByRight G a_this a_crowd a_judge a_trial a_numbers a_ahead a_orders a_p1 a_p1_who ahead orders_6 p1_length)) rfl hf (fun _ => rfl) dX10_ordersByRight_90 (fun orders_6 hf => ?_)
      refine z_iinc F [(3, .int (v3 + 1)), (0, .ref a_this), (2, .int v2), (4, .int v4_5)] dX10_ordersByRight_91 2 rfl rfl (by decide) rfl ?_
      refine z_goto F 19 dX10_ordersByRight_94 (by decide) ?_
      exact z_sub [1, 2, 0] rfl (ih orders_6 (v3 + 1) hf)

set_option maxRecDepth 100000 in
set_option maxHeartbeats 4000000 in
theorem c_Thoughts_ordersByRight (l : Launch) (G : zG) (a_this : Nat) (a_crowd : Nat) (a_judge : Nat) (a_trial : Nat) (a_numbers : Nat) (a_ahead : Nat) (a_orders : Nat) (a_p1 : Nat) (a_p1_who : Nat) (ahead : Nat → Int32) (orders : Nat → Int32) (p1_length : Int32) (r_ : Int32) (o_orders : Nat → Int32) (hf : f_Thoughts_ordersByRight ahead orders p1_length = some (r_, o_orders)) : zM l yX10_ordersByRight cX10_ordersByRight 7 (some .int) 1 21 G [.ref a_this, .ref a_p1] (w_Thoughts_ordersByRight G a_this a_crowd a_judge a_trial a_numbers a_ahead a_orders a_p1 a_p1_who ahead orders p1_length) (some (.int r_)) (w_Thoughts_ordersByRight G a_this a_crowd a_judge a_trial a_numbers a_ahead a_orders a_p1 a_p1_who ahead o_orders p1_length) := by
  refine zM.of [(0, .ref a_this), (1, .ref a_p1)] (own := RX10) rfl (by decide +kernel) (Nat.le_of_ble_eq_true rfl) rfl rfl fun X hX F => ?_
  subst hX
  replace hf := (f_Thoughts_ordersByRight.eq_1 ..).symm.trans hf
  refine z_aload_n F 1 dX10_ordersByRight_0 rfl rfl ?_
  refine z_callVm (rest := []) F 7 (c_Line_size (xL X) G a_p1 a_p1_who p1_length _ rfl) hy_X7_size ml_X10_46 hd_X7_size ⟨by omega, by omega⟩ rfl [3] rfl rfl 3 rfl rfl (w_Thoughts_ordersByRight G a_this a_crowd a_judge a_trial a_numbers a_ahead a_orders a_p1 a_p1_who ahead orders p1_length) [none, none, none, some 0] rfl (by decide +kernel) rfl rfl (Nat.le_of_ble_eq_true rfl) dX10_ordersByRight_1 (fun hz_1 => ?_)
  refine z_bipush F (9) dX10_ordersByRight_4 rfl ?_
  refine z_min F ⟨(uw44 _ (List.mem_of_getElem? (i := 16) rfl)), (uw23 _ (List.mem_of_getElem? (i := 2) rfl)), (uw23 _ (List.mem_of_getElem? (i := 3) rfl)), (uw23 _ (List.mem_of_getElem? (i := 4) rfl))⟩ (by omega) (Nat.le_of_ble_eq_true rfl) dX10_ordersByRight_6 ?_
  refine z_istore_n F [(2, .int (if (9 : Int32) < (f_Line_size p1_length) then 9 else (f_Line_size p1_length))), (0, .ref a_this), (1, .ref a_p1)] dX10_ordersByRight_9 rfl (by decide) rfl ?_
  refine z_aload_n F 1 dX10_ordersByRight_10 rfl rfl ?_
  refine z_get F 0 10 5 inlX10 rfl rfl (by decide) fl_X10_33 rfl dX10_ordersByRight_11 ?_
  refine z_iconst F (0) dX10_ordersByRight_14 rfl ?_
  refine z_iconst F (1) dX10_ordersByRight_15 rfl ?_
  refine z_iast F 2 (fun orders_2 => (w_Thoughts_ordersByRight G a_this a_crowd a_judge a_trial a_numbers a_ahead a_orders a_p1 a_p1_who ahead orders_2 p1_length)) rfl hf (fun _ => rfl) dX10_ordersByRight_16 (fun orders_2 hf => ?_)
  refine z_iconst F (1) dX10_ordersByRight_17 rfl ?_
  refine z_istore_n F [(3, .int 1), (2, .int (if (9 : Int32) < (f_Line_size p1_length) then 9 else (f_Line_size p1_length))), (0, .ref a_this), (1, .ref a_p1)] dX10_ordersByRight_18 rfl (by decide) rfl ?_
  obtain ⟨orders_7, hg, hf⟩ := zb1_some hf
  refine z_sub [2, 1, 0] rfl ?_
  refine l_Thoughts_ordersByRight_19 G a_this a_crowd a_judge a_trial a_numbers a_ahead a_orders a_p1 a_p1_who ahead p1_length (if (9 : Int32) < (f_Line_size p1_length) then 9 else (f_Line_size p1_length)) F orders_7 ?_ FU orders_2 1 hg
  refine z_aload_n F 0 dX10_ordersByRight_97 rfl rfl ?_
  refine z_get F 0 10 5 inlX10 rfl rfl (by decide) fl_X10_33 rfl dX10_ordersByRight_98 ?_
  refine z_iconst F (1) dX10_ordersByRight_101 rfl ?_
  refine z_iload_n F 1 dX10_ordersByRight_102 rfl rfl ?_
  refine z_ishl F dX10_ordersByRight_103 ?_
  refine z_iconst F (1) dX10_ordersByRight_104 rfl ?_
  refine z_isub F dX10_ordersByRight_105 ?_
  refine z_iald F 2 rfl hf dX10_ordersByRight_106 (fun v_8 hf => ?_)
  have eq1 := Option.some.inj hf
  obtain ⟨ee1, ee2⟩ := Prod.mk.inj eq1
  subst ee1
  subst ee2
  exact z_iret F rfl rfl rfl rfl dX10_ordersByRight_107

abbrev w_Thoughts_nextByRight (G : zG) (a_this : Nat) (a_crowd : Nat) (a_judge : Nat) (a_trial : Nat) (a_numbers : Nat) (a_ahead : Nat) (a_orders : Nat) (a_p1 : Nat) (a_p1_who : Nat) (ahead : Nat → Int32) (p1_length : Int32) (p1_who : Nat → Int32) : va_W := [(a_this, cO 10 [.ref a_crowd, .ref a_judge, .ref a_trial, .ref a_numbers, .ref a_ahead, .ref a_orders]), (a_ahead, cI G 9 ahead), (a_p1, cO 7 [.ref a_p1_who, .int p1_length]), (a_p1_who, cI G 9 p1_who)]
def f_Thoughts_nextByRight_L6 (ahead : Nat → Int32) (p1_length : Int32) (p1_who : Nat → Int32) (v2 : Int32) : Nat → Int32 → Int32 → Option Int32
  | 0, _, _ => none
  | fuel + 1, v3, v4 => (if (f_Line_size p1_length) ≤ v4 then (some v3) else (zb1 (f_Thoughts_mayBeNext ahead v4 v2) fun r_2 => (if r_2 = 0 then (f_Thoughts_nextByRight_L6 ahead p1_length p1_who v2 fuel v3 (v4 + 1)) else (if v3 < 0 then (f_Thoughts_nextByRight_L6 ahead p1_length p1_who v2 fuel v4 (v4 + 1)) else (zb1 (f_Line_at p1_length p1_who v4) fun r_4 => (zb1 (f_Line_at p1_length p1_who v3) fun r_6 => (if r_6 ≤ r_4 then (f_Thoughts_nextByRight_L6 ahead p1_length p1_who v2 fuel v3 (v4 + 1)) else (f_Thoughts_nextByRight_L6 ahead p1_length p1_who v2 fuel v4 (v4 + 1)))))))))
def f_Thoughts_nextByRight (ahead : Nat → Int32) (p1_length : Int32) (p1_who : Nat → Int32) (x2 : Int32) : Option Int32 := (zb1 (f_Thoughts_nextByRight_L6 ahead p1_length p1_who x2 FU (-2) 0) fun v3_8 => (some v3_8))
set_option maxRecDepth 100000 in
set_option maxHeartbeats 4000000 in
theorem l_Thoughts_nextByRight_6 {X : zX} (G : zG) (a_this : Nat) (a_crowd : Nat) (a_judge : Nat) (a_trial : Nat) (a_numbers : Nat) (a_ahead : Nat) (a_orders : Nat) (a_p1 : Nat) (a_p1_who : Nat) (ahead : Nat → Int32) (p1_length : Int32) (p1_who : Nat → Int32) (v2 : Int32) {v0 : Option Value} {w0 : va_W} (F : zF X G cX10_nextByRight RX10 5 (some .int) 2 42 v0 w0) (e_v3 : Int32) (hk : Z X G 5 (w_Thoughts_nextByRight G a_this a_crowd a_judge a_trial a_numbers a_ahead a_orders a_p1 a_p1_who ahead p1_length p1_who) [(3, .int e_v3)] 52 []) :
    ∀ (fuel : Nat) (v3 : Int32) (v4 : Int32), f_Thoughts_nextByRight_L6 ahead p1_length p1_who v2 fuel v3 v4 = some e_v3 → Z X G 5 (w_Thoughts_nextByRight G a_this a_crowd a_judge a_trial a_numbers a_ahead a_orders a_p1 a_p1_who ahead p1_length p1_who) [(0, .ref a_this), (1, .ref a_p1), (2, .int v2), (3, .int v3), (4, .int v4)] 6 [] := by
  intro fuel
  induction fuel with
  | zero => intro v3 v4 hf; exact absurd ((f_Thoughts_nextByRight_L6.eq_1 ..).symm.trans hf) (fun h => by cases h)
  | succ fuel ih =>
    intro v3 v4 hf
    replace hf := (f_Thoughts_nextByRight_L6.eq_2 ..).symm.trans hf
    refine z_iload F 4 dX10_nextByRight_6 rfl ?_
    refine z_aload_n F 1 dX10_nextByRight_8 rfl rfl ?_
    refine z_callVm (rest := [.int v4]) F 7 (c_Line_size (xL X) G a_p1 a_p1_who p1_length _ rfl) hy_X7_size ml_X10_46 hd_X7_size ⟨by omega, by omega⟩ rfl [2] rfl rfl 2 rfl rfl (w_Thoughts_nextByRight G a_this a_crowd a_judge a_trial a_numbers a_ahead a_orders a_p1 a_p1_who ahead p1_length p1_who) [none, none, some 0, none] rfl (by decide +kernel) rfl rfl (Nat.le_of_ble_eq_true rfl) dX10_nextByRight_9 (fun hz_1 => ?_)
    refine z_icmp_ge F 52 dX10_nextByRight_12 (by decide) hf (fun hf _ => ?_) (fun hf _ => ?_)
    · have ee1 := Option.some.inj hf
      subst ee1
      exact z_sub [3] rfl hk
    · refine z_aload_n F 0 dX10_nextByRight_15 rfl rfl ?_
      refine z_iload F 4 dX10_nextByRight_16 rfl ?_
      refine z_iload_n F 2 dX10_nextByRight_18 rfl rfl ?_
      obtain ⟨r_2, hg, hf⟩ := zb1_some hf
      refine z_callVm (rest := []) F 10 (c_Thoughts_mayBeNext (xL X) G a_this a_crowd a_judge a_trial a_numbers a_ahead a_orders ahead v4 v2 r_2 hg) hy_X10_mayBeNext ml_X10_87 hd_X10_mayBeNext ⟨by omega, by omega⟩ rfl [0, 1] rfl rfl 0 rfl rfl (w_Thoughts_nextByRight G a_this a_crowd a_judge a_trial a_numbers a_ahead a_orders a_p1 a_p1_who ahead p1_length p1_who) [some 0, some 1, none, none] rfl (by decide +kernel) rfl rfl (Nat.le_of_ble_eq_true rfl) dX10_nextByRight_19 (fun hz_3 => ?_)
      refine z_if_eq F 46 dX10_nextByRight_22 (by decide) hf (fun hf _ => ?_) (fun hf _ => ?_)
      · refine z_iinc F [(4, .int (v4 + 1)), (0, .ref a_this), (1, .ref a_p1), (2, .int v2), (3, .int v3)] dX10_nextByRight_46 4 rfl rfl (by decide) rfl ?_
        refine z_goto F 6 dX10_nextByRight_49 (by decide) ?_
        exact z_sub [1, 2, 3, 4, 0] rfl (ih v3 (v4 + 1) hf)
      · refine z_iload_n F 3 dX10_nextByRight_25 rfl rfl ?_
        refine z_if_lt F 43 dX10_nextByRight_26 (by decide) hf (fun hf _ => ?_) (fun hf _ => ?_)
        · refine z_iload F 4 dX10_nextByRight_43 rfl ?_
          refine z_istore_n F [(3, .int v4), (0, .ref a_this), (1, .ref a_p1), (2, .int v2), (4, .int v4)] dX10_nextByRight_45 rfl (by decide) rfl ?_
          refine z_iinc F [(4, .int (v4 + 1)), (3, .int v4), (0, .ref a_this), (1, .ref a_p1), (2, .int v2)] dX10_nextByRight_46 4 rfl rfl (by decide) rfl ?_
          refine z_goto F 6 dX10_nextByRight_49 (by decide) ?_
          exact z_sub [2, 3, 4, 1, 0] rfl (ih v4 (v4 + 1) hf)
        · refine z_aload_n F 1 dX10_nextByRight_29 rfl rfl ?_
          refine z_iload F 4 dX10_nextByRight_30 rfl ?_
          obtain ⟨r_4, hg, hf⟩ := zb1_some hf
          refine z_callVm (rest := []) F 7 (c_Line_at (xL X) G a_p1 a_p1_who p1_length p1_who v4 r_4 hg) hy_X7_at ml_X10_57 hd_X7_at ⟨by omega, by omega⟩ rfl [2, 3] rfl rfl 2 rfl rfl (w_Thoughts_nextByRight G a_this a_crowd a_judge a_trial a_numbers a_ahead a_orders a_p1 a_p1_who ahead p1_length p1_who) [none, none, some 0, some 1] rfl (by decide +kernel) rfl rfl (Nat.le_of_ble_eq_true rfl) dX10_nextByRight_32 (fun hz_5 => ?_)
          refine z_aload_n F 1 dX10_nextByRight_35 rfl rfl ?_
          refine z_iload_n F 3 dX10_nextByRight_36 rfl rfl ?_
          obtain ⟨r_6, hg, hf⟩ := zb1_some hf
          refine z_callVm (rest := [.int r_4]) F 7 (c_Line_at (xL X) G a_p1 a_p1_who p1_length p1_who v3 r_6 hg) hy_X7_at ml_X10_57 hd_X7_at ⟨by omega, by omega⟩ rfl [2, 3] rfl rfl 2 rfl rfl (w_Thoughts_nextByRight G a_this a_crowd a_judge a_trial a_numbers a_ahead a_orders a_p1 a_p1_who ahead p1_length p1_who) [none, none, some 0, some 1] rfl (by decide +kernel) rfl rfl (Nat.le_of_ble_eq_true rfl) dX10_nextByRight_37 (fun hz_7 => ?_)
          refine z_icmp_ge F 46 dX10_nextByRight_40 (by decide) hf (fun hf _ => ?_) (fun hf _ => ?_)
          · refine z_iinc F [(4, .int (v4 + 1)), (0, .ref a_this), (1, .ref a_p1), (2, .int v2), (3, .int v3)] dX10_nextByRight_46 4 rfl rfl (by decide) rfl ?_
            refine z_goto F 6 dX10_nextByRight_49 (by decide) ?_
            exact z_sub [1, 2, 3, 4, 0] rfl (ih v3 (v4 + 1) hf)
          · refine z_iload F 4 dX10_nextByRight_43 rfl ?_
            refine z_istore_n F [(3, .int v4), (0, .ref a_this), (1, .ref a_p1), (2, .int v2), (4, .int v4)] dX10_nextByRight_45 rfl (by decide) rfl ?_
            refine z_iinc F [(4, .int (v4 + 1)), (3, .int v4), (0, .ref a_this), (1, .ref a_p1), (2, .int v2)] dX10_nextByRight_46 4 rfl rfl (by decide) rfl ?_
            refine z_goto F 6 dX10_nextByRight_49 (by decide) ?_
            exact z_sub [2, 3, 4, 1, 0] rfl (ih v4 (v4 + 1) hf)

set_option maxRecDepth 100000 in
set_option maxHeartbeats 4000000 in
theorem c_Thoughts_nextByRight (l : Launch) (G : zG) (a_this : Nat) (a_crowd : Nat) (a_judge : Nat) (a_trial : Nat) (a_numbers : Nat) (a_ahead : Nat) (a_orders : Nat) (a_p1 : Nat) (a_p1_who : Nat) (ahead : Nat → Int32) (p1_length : Int32) (p1_who : Nat → Int32) (x2 : Int32) (r_ : Int32) (hf : f_Thoughts_nextByRight ahead p1_length p1_who x2 = some r_) : zM l yX10_nextByRight cX10_nextByRight 5 (some .int) 2 42 G [.ref a_this, .ref a_p1, .int x2] (w_Thoughts_nextByRight G a_this a_crowd a_judge a_trial a_numbers a_ahead a_orders a_p1 a_p1_who ahead p1_length p1_who) (some (.int r_)) (w_Thoughts_nextByRight G a_this a_crowd a_judge a_trial a_numbers a_ahead a_orders a_p1 a_p1_who ahead p1_length p1_who) := by
  refine zM.of [(0, .ref a_this), (1, .ref a_p1), (2, .int x2)] (own := RX10) rfl (by decide +kernel) (Nat.le_of_ble_eq_true rfl) rfl rfl fun X hX F => ?_
  subst hX
  replace hf := (f_Thoughts_nextByRight.eq_1 ..).symm.trans hf
  refine z_bipush F (-2) dX10_nextByRight_0 rfl ?_
  refine z_istore_n F [(3, .int (-2)), (0, .ref a_this), (1, .ref a_p1), (2, .int x2)] dX10_nextByRight_2 rfl (by decide) rfl ?_
  refine z_iconst F (0) dX10_nextByRight_3 rfl ?_
  refine z_istore F [(4, .int 0), (3, .int (-2)), (0, .ref a_this), (1, .ref a_p1), (2, .int x2)] dX10_nextByRight_4 (by decide) rfl ?_
  obtain ⟨v3_8, hg, hf⟩ := zb1_some hf
  refine z_sub [2, 3, 4, 1, 0] rfl ?_
  refine l_Thoughts_nextByRight_6 G a_this a_crowd a_judge a_trial a_numbers a_ahead a_orders a_p1 a_p1_who ahead p1_length p1_who x2 F v3_8 ?_ FU (-2) 0 hg
  refine z_iload_n F 0 dX10_nextByRight_52 rfl rfl ?_
  have ee1 := Option.some.inj hf
  subst ee1
  exact z_iret F rfl rfl rfl rfl dX10_nextByRight_53

abbrev w_Thoughts_servedAs (G : zG) (a_this : Nat) (a_crowd : Nat) (a_judge : Nat) (a_trial : Nat) (a_numbers : Nat) (a_ahead : Nat) (a_orders : Nat) (a_p1 : Nat) (a_p1_who : Nat) (ahead : Nat → Int32) (p1_length : Int32) (p1_who : Nat → Int32) : va_W := [(a_this, cO 10 [.ref a_crowd, .ref a_judge, .ref a_trial, .ref a_numbers, .ref a_ahead, .ref a_orders]), (a_ahead, cI G 9 ahead), (a_p1, cO 7 [.ref a_p1_who, .int p1_length]), (a_p1_who, cI G 9 p1_who)]
def f_Thoughts_servedAs_L13 (ahead : Nat → Int32) (p1_length : Int32) (p1_who : Nat → Int32) (v2 : Int32) : Nat → Int32 → Int32 → Int32 → Option (((Int32) ⊕ (Int32)))
  | 0, _, _, _ => none
  | fuel + 1, v3, v4, v5 => (if v2 < v5 then (some (.inl v4)) else (zb1 (f_Thoughts_nextByRight ahead p1_length p1_who v3) fun r_2 => (if (0 : Int32) ≤ r_2 then (f_Thoughts_servedAs_L13 ahead p1_length p1_who v2 fuel (v3 &&& (((1 : Int32) <<< (r_2 &&& 31)) ^^^ ((-1) : Int32))) r_2 (v5 + 1)) else (some (.inr (-2))))))
def f_Thoughts_servedAs (ahead : Nat → Int32) (p1_length : Int32) (p1_who : Nat → Int32) (x2 : Int32) : Option Int32 := (zbs1 (f_Thoughts_servedAs_L13 ahead p1_length p1_who x2 FU (f_Thoughts_allPlaces p1_length) (-2) 0) (fun v4_4 => (zb1 (f_Line_at p1_length p1_who v4_4) fun r_8 => (some r_8))) some)
set_option maxRecDepth 100000 in
set_option maxHeartbeats 4000000 in
theorem l_Thoughts_servedAs_13 {X : zX} (G : zG) (a_this : Nat) (a_crowd : Nat) (a_judge : Nat) (a_trial : Nat) (a_numbers : Nat) (a_ahead : Nat) (a_orders : Nat) (a_p1 : Nat) (a_p1_who : Nat) (ahead : Nat → Int32) (p1_length : Int32) (p1_who : Nat → Int32) (v2 : Int32) {v0 : Option Value} {w0 : va_W} (F : zF X G cX10_servedAs RX10 6 (some .int) 3 66 v0 w0) (out : ((Int32) ⊕ (Int32))) (hk : ∀ (e_v4 : Int32), out = .inl e_v4 → Z X G 6 (w_Thoughts_servedAs G a_this a_crowd a_judge a_trial a_numbers a_ahead a_orders a_p1 a_p1_who ahead p1_length p1_who) [(1, .ref a_p1), (4, .int e_v4)] 50 []) (hr : ∀ q : Int32, out = .inr q → v0 = some (.int q) ∧ w0 = (w_Thoughts_servedAs G a_this a_crowd a_judge a_trial a_numbers a_ahead a_orders a_p1 a_p1_who ahead p1_length p1_who)) :
    ∀ (fuel : Nat) (v3 : Int32) (v4 : Int32) (v5 : Int32), f_Thoughts_servedAs_L13 ahead p1_length p1_who v2 fuel v3 v4 v5 = some out → Z X G 6 (w_Thoughts_servedAs G a_this a_crowd a_judge a_trial a_numbers a_ahead a_orders a_p1 a_p1_who ahead p1_length p1_who) [(0, .ref a_this), (1, .ref a_p1), (2, .int v2), (3, .int v3), (4, .int v4), (5, .int v5)] 13 [] := by
  intro fuel
  induction fuel with
  | zero => intro v3 v4 v5 hf; exact absurd ((f_Thoughts_servedAs_L13.eq_1 ..).symm.trans hf) (fun h => by cases h)
  | succ fuel ih =>
    intro v3 v4 v5 hf
    replace hf := (f_Thoughts_servedAs_L13.eq_2 ..).symm.trans hf
    refine z_iload F 5 dX10_servedAs_13 rfl ?_
    refine z_iload_n F 2 dX10_servedAs_15 rfl rfl ?_
    refine z_icmp_gt F 50 dX10_servedAs_16 (by decide) hf (fun hf _ => ?_) (fun hf _ => ?_)
    · exact z_sub [1, 4] rfl (hk _ (Option.some.inj hf).symm)
    · refine z_aload_n F 0 dX10_servedAs_19 rfl rfl ?_
      refine z_aload_n F 1 dX10_servedAs_20 rfl rfl ?_
      refine z_iload_n F 3 dX10_servedAs_21 rfl rfl ?_
      obtain ⟨r_2, hg, hf⟩ := zb1_some hf
      refine z_callVm (rest := []) F 10 (c_Thoughts_nextByRight (xL X) G a_this a_crowd a_judge a_trial a_numbers a_ahead a_orders a_p1 a_p1_who ahead p1_length p1_who v3 r_2 hg) hy_X10_nextByRight ml_X10_90 hd_X10_nextByRight ⟨by omega, by omega⟩ rfl [0, 1, 2, 3] rfl rfl 0 rfl rfl (w_Thoughts_servedAs G a_this a_crowd a_judge a_trial a_numbers a_ahead a_orders a_p1 a_p1_who ahead p1_length p1_who) [some 0, some 1, some 2, some 3] rfl (by decide +kernel) rfl rfl (Nat.le_of_ble_eq_true rfl) dX10_servedAs_22 (fun hz_3 => ?_)
      refine z_istore F [(4, .int r_2), (0, .ref a_this), (1, .ref a_p1), (2, .int v2), (3, .int v3), (5, .int v5)] dX10_servedAs_25 (by decide) rfl ?_
      refine z_iload F 0 dX10_servedAs_27 rfl ?_
      refine z_if_ge F 35 dX10_servedAs_29 (by decide) hf (fun hf _ => ?_) (fun hf _ => ?_)
      · refine z_iload_n F 4 dX10_servedAs_35 rfl rfl ?_
        refine z_iconst F (1) dX10_servedAs_36 rfl ?_
        refine z_iload F 0 dX10_servedAs_37 rfl ?_
        refine z_ishl F dX10_servedAs_39 ?_
        refine z_iconst F (-1) dX10_servedAs_40 rfl ?_
        refine z_ixor F dX10_servedAs_41 ?_
        refine z_iand F dX10_servedAs_42 ?_
        refine z_istore_n F [(3, .int (v3 &&& (((1 : Int32) <<< (r_2 &&& 31)) ^^^ ((-1) : Int32)))), (4, .int r_2), (0, .ref a_this), (1, .ref a_p1), (2, .int v2), (5, .int v5)] dX10_servedAs_43 rfl (by decide) rfl ?_
        refine z_iinc F [(5, .int (v5 + 1)), (3, .int (v3 &&& (((1 : Int32) <<< (r_2 &&& 31)) ^^^ ((-1) : Int32)))), (4, .int r_2), (0, .ref a_this), (1, .ref a_p1), (2, .int v2)] dX10_servedAs_44 5 rfl rfl (by decide) rfl ?_
        refine z_goto F 13 dX10_servedAs_47 (by decide) ?_
        exact z_sub [3, 4, 5, 1, 2, 0] rfl (ih (v3 &&& (((1 : Int32) <<< (r_2 &&& 31)) ^^^ ((-1) : Int32))) r_2 (v5 + 1) hf)
      · refine z_bipush F (-2) dX10_servedAs_32 rfl ?_
        obtain ⟨e1, e2⟩ := hr _ (Option.some.inj hf).symm
        exact z_iret F rfl rfl e1.symm e2.symm dX10_servedAs_34

set_option maxRecDepth 100000 in
set_option maxHeartbeats 4000000 in
theorem c_Thoughts_servedAs (l : Launch) (G : zG) (a_this : Nat) (a_crowd : Nat) (a_judge : Nat) (a_trial : Nat) (a_numbers : Nat) (a_ahead : Nat) (a_orders : Nat) (a_p1 : Nat) (a_p1_who : Nat) (ahead : Nat → Int32) (p1_length : Int32) (p1_who : Nat → Int32) (x2 : Int32) (r_ : Int32) (hf : f_Thoughts_servedAs ahead p1_length p1_who x2 = some r_) : zM l yX10_servedAs cX10_servedAs 6 (some .int) 3 66 G [.ref a_this, .ref a_p1, .int x2] (w_Thoughts_servedAs G a_this a_crowd a_judge a_trial a_numbers a_ahead a_orders a_p1 a_p1_who ahead p1_length p1_who) (some (.int r_)) (w_Thoughts_servedAs G a_this a_crowd a_judge a_trial a_numbers a_ahead a_orders a_p1 a_p1_who ahead p1_length p1_who) := by
  refine zM.of [(0, .ref a_this), (1, .ref a_p1), (2, .int x2)] (own := RX10) rfl (by decide +kernel) (Nat.le_of_ble_eq_true rfl) rfl rfl fun X hX F => ?_
  subst hX
  replace hf := (f_Thoughts_servedAs.eq_1 ..).symm.trans hf
  refine z_aload_n F 0 dX10_servedAs_0 rfl rfl ?_
  refine z_aload_n F 1 dX10_servedAs_1 rfl rfl ?_
  refine z_callVm (rest := []) F 10 (c_Thoughts_allPlaces (xL X) G a_this a_crowd a_judge a_trial a_numbers a_ahead a_orders a_p1 a_p1_who p1_length _ rfl) hy_X10_allPlaces ml_X10_84 hd_X10_allPlaces ⟨by omega, by omega⟩ rfl [0, 2] rfl rfl 0 rfl rfl (w_Thoughts_servedAs G a_this a_crowd a_judge a_trial a_numbers a_ahead a_orders a_p1 a_p1_who ahead p1_length p1_who) [some 0, none, some 1, none] rfl (by decide +kernel) rfl rfl (Nat.le_of_ble_eq_true rfl) dX10_servedAs_2 (fun hz_1 => ?_)
  refine z_istore_n F [(3, .int (f_Thoughts_allPlaces p1_length)), (0, .ref a_this), (1, .ref a_p1), (2, .int x2)] dX10_servedAs_5 rfl (by decide) rfl ?_
  refine z_bipush F (-2) dX10_servedAs_6 rfl ?_
  refine z_istore F [(4, .int (-2)), (3, .int (f_Thoughts_allPlaces p1_length)), (0, .ref a_this), (1, .ref a_p1), (2, .int x2)] dX10_servedAs_8 (by decide) rfl ?_
  refine z_iconst F (0) dX10_servedAs_10 rfl ?_
  refine z_istore F [(5, .int 0), (4, .int (-2)), (3, .int (f_Thoughts_allPlaces p1_length)), (0, .ref a_this), (1, .ref a_p1), (2, .int x2)] dX10_servedAs_11 (by decide) rfl ?_
  obtain ⟨z_5, hg, hf1_6, hf2_7⟩ := zbs1_some hf
  refine z_sub [3, 4, 5, 2, 1, 0] rfl ?_
  refine l_Thoughts_servedAs_13 G a_this a_crowd a_judge a_trial a_numbers a_ahead a_orders a_p1 a_p1_who ahead p1_length p1_who x2 F z_5 (fun v4_4 e => ?_) (fun q e => ?_) FU (f_Thoughts_allPlaces p1_length) (-2) 0 hg
  · have hf := hf1_6 _ e
    refine z_aload_n F 0 dX10_servedAs_50 rfl rfl ?_
    refine z_iload F 1 dX10_servedAs_51 rfl ?_
    obtain ⟨r_8, hg, hf⟩ := zb1_some hf
    refine z_callVm (rest := []) F 7 (c_Line_at (xL X) G a_p1 a_p1_who p1_length p1_who v4_4 r_8 hg) hy_X7_at ml_X10_57 hd_X7_at ⟨by omega, by omega⟩ rfl [2, 3] rfl rfl 2 rfl rfl (w_Thoughts_servedAs G a_this a_crowd a_judge a_trial a_numbers a_ahead a_orders a_p1 a_p1_who ahead p1_length p1_who) [none, none, some 0, some 1] rfl (by decide +kernel) rfl rfl (Nat.le_of_ble_eq_true rfl) dX10_servedAs_53 (fun hz_9 => ?_)
    have ee1 := Option.some.inj hf
    subst ee1
    exact z_iret F rfl rfl rfl rfl dX10_servedAs_56
  · have hf := hf2_7 _ e
    cases hf
    exact ⟨rfl, rfl⟩

abbrev w_Thoughts_mixings (G : zG) (a_this : Nat) (a_crowd : Nat) (a_judge : Nat) (a_trial : Nat) (a_numbers : Nat) (a_ahead : Nat) (a_orders : Nat) (a_crowd_heights : Nat) (a_judge_text : Nat) (a_judge_known : Nat) (a_judge_text_tape : Nat) (a_judge_text_reader : Nat) (a_judge_text_steps : Nat) (a_judge_text_worked : Nat) (a_trial_who : Nat) (a_p1 : Nat) (a_p1_who : Nat) (crowd_people : Int32) (crowd_heights : Nat → Int32) (judge_text_fed : Int32) (judge_text_length : Int32) (judge_text_top : Int32) (judge_text_steps : Nat → Int32) (judge_text_worked : Nat → Int32) (judge_known : Nat → Int32) (trial_length : Int32) (trial_who : Nat → Int32) (p1_length : Int32) (p1_who : Nat → Int32) : va_W := [(a_this, cO 10 [.ref a_crowd, .ref a_judge, .ref a_trial, .ref a_numbers, .ref a_ahead, .ref a_orders]), (a_crowd, cO 1 [.ref a_crowd_heights, .int crowd_people]), (a_crowd_heights, cI G 9 crowd_heights), (a_judge, cO 4 [.ref a_crowd, .ref a_judge_text, .ref a_judge_known]), (a_judge_text, cO 5 [.ref a_judge_text_tape, .int judge_text_fed, .ref a_judge_text_reader, .ref a_judge_text_steps, .int judge_text_length, .ref a_judge_text_worked, .int judge_text_top]), (a_judge_text_steps, cI G 121 judge_text_steps), (a_judge_text_worked, cI G 121 judge_text_worked), (a_judge_known, cB G 729 judge_known), (a_trial, cO 7 [.ref a_trial_who, .int trial_length]), (a_trial_who, cI G 9 trial_who), (a_p1, cO 7 [.ref a_p1_who, .int p1_length]), (a_p1_who, cI G 9 p1_who)]
def f_Thoughts_mixings_L44 (trial_length : Int32) : Nat → (Nat → Int32) → Int32 → Int32 → Option ((Nat → Int32) × Int32)
  | 0, _, _, _ => none
  | fuel + 1, trial_who, v6, v9 => (if v9 < 1 then (some (trial_who, v6)) else (zgd (¬ (v9 + (1 : Int32)) = 0) (zb1 (f_Line_exchange trial_length trial_who v9 ((Int32.toUInt32 ((v6 * (1103515245 : Int32)) + (12345 : Int32)) >>> (Int32.toUInt32 (8 : Int32) &&& Int32.toUInt32 31)).toInt32 - (Int32.toUInt32 ((v6 * (1103515245 : Int32)) + (12345 : Int32)) >>> (Int32.toUInt32 (8 : Int32) &&& Int32.toUInt32 31)).toInt32 / (v9 + (1 : Int32)) * (v9 + (1 : Int32)))) fun trial_who_10 => (f_Thoughts_mixings_L44 trial_length fuel trial_who_10 ((v6 * (1103515245 : Int32)) + (12345 : Int32)) (v9 + (-1))))))
def f_Thoughts_mixings_L19 (crowd_people : Int32) (crowd_heights : Nat → Int32) (judge_text_length : Int32) (judge_text_steps : Nat → Int32) (p1_length : Int32) (p1_who : Nat → Int32) (v3 : Int32) (v4 : Int32) (v5 : Int32) : Nat → Int32 → (Nat → Int32) → (Nat → Int32) → Int32 → (Nat → Int32) → Int32 → Int32 → Int32 → Option (Int32 × (Nat → Int32) × (Nat → Int32) × Int32 × (Nat → Int32) × Int32)
  | 0, _, _, _, _, _, _, _, _ => none
  | fuel + 1, judge_text_top, judge_text_worked, judge_known, trial_length, trial_who, v6, v7, v8 => (if v3 ≤ v8 then (some (judge_text_top, judge_text_worked, judge_known, trial_length, trial_who, v7)) else (zb2 (f_Line_copyFrom trial_length trial_who p1_length p1_who) fun trial_length_6 trial_who_7 => (zb2 (f_Thoughts_mixings_L44 trial_length_6 FU trial_who_7 v6 ((f_Line_size trial_length_6) - (1 : Int32))) fun trial_who_12 v6_13 => (if v4 = (-2) then (zb4 (f_Judge_disquietOf crowd_people crowd_heights judge_text_length judge_text_top judge_text_steps judge_text_worked judge_known trial_length_6 trial_who_12) fun r_21 judge_text_top_22 judge_text_worked_23 judge_known_24 => (f_Thoughts_mixings_L19 crowd_people crowd_heights judge_text_length judge_text_steps p1_length p1_who v3 v4 v5 fuel judge_text_top_22 judge_text_worked_23 judge_known_24 trial_length_6 trial_who_12 v6_13 (v7 + r_21) (v8 + 1))) else (if v4 = (-1) then (zb4 (f_Judge_disquietOf crowd_people crowd_heights judge_text_length judge_text_top judge_text_steps judge_text_worked judge_known trial_length_6 trial_who_12) fun r_16 judge_text_top_17 judge_text_worked_18 judge_known_19 => (if v5 ≤ r_16 then (f_Thoughts_mixings_L19 crowd_people crowd_heights judge_text_length judge_text_steps p1_length p1_who v3 v4 v5 fuel judge_text_top_17 judge_text_worked_18 judge_known_19 trial_length_6 trial_who_12 v6_13 v7 (v8 + 1)) else (f_Thoughts_mixings_L19 crowd_people crowd_heights judge_text_length judge_text_steps p1_length p1_who v3 v4 v5 fuel judge_text_top_17 judge_text_worked_18 judge_known_19 trial_length_6 trial_who_12 v6_13 (v7 + 1) (v8 + 1)))) else (zb1 (f_Line_at trial_length_6 trial_who_12 0) fun r_14 => (if r_14 = v4 then (f_Thoughts_mixings_L19 crowd_people crowd_heights judge_text_length judge_text_steps p1_length p1_who v3 v4 v5 fuel judge_text_top judge_text_worked judge_known trial_length_6 trial_who_12 v6_13 (v7 + 1) (v8 + 1)) else (f_Thoughts_mixings_L19 crowd_people crowd_heights judge_text_length judge_text_steps p1_length p1_who v3 v4 v5 fuel judge_text_top judge_text_worked judge_known trial_length_6 trial_who_12 v6_13 v7 (v8 + 1)))))))))
def f_Thoughts_mixings (crowd_people : Int32) (crowd_heights : Nat → Int32) (judge_text_length : Int32) (judge_text_top : Int32) (judge_text_steps : Nat → Int32) (judge_text_worked : Nat → Int32) (judge_known : Nat → Int32) (trial_length : Int32) (trial_who : Nat → Int32) (p1_length : Int32) (p1_who : Nat → Int32) (x2 : Int32) (x3 : Int32) (x4 : Int32) : Option (Int32 × Int32 × (Nat → Int32) × (Nat → Int32) × Int32 × (Nat → Int32)) := (zb4 (f_Judge_disquietOf crowd_people crowd_heights judge_text_length judge_text_top judge_text_steps judge_text_worked judge_known p1_length p1_who) fun r_1 judge_text_top_2 judge_text_worked_3 judge_known_4 => (zb6 (f_Thoughts_mixings_L19 crowd_people crowd_heights judge_text_length judge_text_steps p1_length p1_who x3 x4 r_1 FU judge_text_top_2 judge_text_worked_3 judge_known_4 trial_length trial_who x2 0 0) fun judge_text_top_26 judge_text_worked_27 judge_known_28 trial_length_29 trial_who_30 v7_31 => (some (v7_31, judge_text_top_26, judge_text_worked_27, judge_known_28, trial_length_29, trial_who_30))))
set_option maxRecDepth 100000 in
set_option maxHeartbeats 4000000 in
theorem l_Thoughts_mixings_44 {X : zX} (G : zG) (a_this : Nat) (a_crowd : Nat) (a_judge : Nat) (a_trial : Nat) (a_numbers : Nat) (a_ahead : Nat) (a_orders : Nat) (a_crowd_heights : Nat) (a_judge_text : Nat) (a_judge_known : Nat) (a_judge_text_tape : Nat) (a_judge_text_reader : Nat) (a_judge_text_steps : Nat) (a_judge_text_worked : Nat) (a_trial_who : Nat) (a_p1 : Nat) (a_p1_who : Nat) (crowd_people : Int32) (crowd_heights : Nat → Int32) (judge_text_fed : Int32) (judge_text_length : Int32) (judge_text_top : Int32) (judge_text_steps : Nat → Int32) (judge_text_worked : Nat → Int32) (judge_known : Nat → Int32) (trial_length : Int32) (p1_length : Int32) (p1_who : Nat → Int32) (v3 : Int32) (v4 : Int32) (v5 : Int32) (v7 : Int32) (v8 : Int32) {v0 : Option Value} {w0 : va_W} (F : zF X G cX10_mixings RX10 10 (some .int) 5 141 v0 w0) (e_trial_who : Nat → Int32) (e_v6 : Int32) (hk : Z X G 10 (w_Thoughts_mixings G a_this a_crowd a_judge a_trial a_numbers a_ahead a_orders a_crowd_heights a_judge_text a_judge_known a_judge_text_tape a_judge_text_reader a_judge_text_steps a_judge_text_worked a_trial_who a_p1 a_p1_who crowd_people crowd_heights judge_text_fed judge_text_length judge_text_top judge_text_steps judge_text_worked judge_known trial_length e_trial_who p1_length p1_who) [(0, .ref a_this), (1, .ref a_p1), (3, .int v3), (4, .int v4), (5, .int v5), (6, .int e_v6), (7, .int v7), (8, .int v8)] 86 []) :
    ∀ (fuel : Nat) (trial_who : Nat → Int32) (v6 : Int32) (v9 : Int32), f_Thoughts_mixings_L44 trial_length fuel trial_who v6 v9 = some (e_trial_who, e_v6) → Z X G 10 (w_Thoughts_mixings G a_this a_crowd a_judge a_trial a_numbers a_ahead a_orders a_crowd_heights a_judge_text a_judge_known a_judge_text_tape a_judge_text_reader a_judge_text_steps a_judge_text_worked a_trial_who a_p1 a_p1_who crowd_people crowd_heights judge_text_fed judge_text_length judge_text_top judge_text_steps judge_text_worked judge_known trial_length trial_who p1_length p1_who) [(0, .ref a_this), (1, .ref a_p1), (3, .int v3), (4, .int v4), (5, .int v5), (6, .int v6), (7, .int v7), (8, .int v8), (9, .int v9)] 44 [] := by
  intro fuel
  induction fuel with
  | zero => intro trial_who v6 v9 hf; exact absurd ((f_Thoughts_mixings_L44.eq_1 ..).symm.trans hf) (fun h => by cases h)
  | succ fuel ih =>
    intro trial_who v6 v9 hf
    replace hf := (f_Thoughts_mixings_L44.eq_2 ..).symm.trans hf
    refine z_iload F 8 dX10_mixings_44 rfl ?_
    refine z_iconst F (1) dX10_mixings_46 rfl ?_
    refine z_icmp_lt F 86 dX10_mixings_47 (by decide) hf (fun hf _ => ?_) (fun hf _ => ?_)
    · have eq1 := Option.some.inj hf
      obtain ⟨ee1, ee2⟩ := Prod.mk.inj eq1
      subst ee1
      subst ee2
      exact z_sub [0, 1, 2, 3, 4, 5, 6, 7] rfl hk
    · refine z_iload F 5 dX10_mixings_50 rfl ?_
      refine z_ldc F (1103515245) (uw47 _ (List.mem_of_getElem? (i := 0) rfl)) dX10_mixings_52 ?_
      refine z_imul F dX10_mixings_54 ?_
      refine z_sipush F (12345) dX10_mixings_55 rfl ?_
      refine z_iadd F dX10_mixings_58 ?_
      refine z_istore F [(6, .int ((v6 * (1103515245 : Int32)) + (12345 : Int32))), (0, .ref a_this), (1, .ref a_p1), (3, .int v3), (4, .int v4), (5, .int v5), (7, .int v7), (8, .int v8), (9, .int v9)] dX10_mixings_59 (by decide) rfl ?_
      refine z_aload_n F 1 dX10_mixings_61 rfl rfl ?_
      refine z_get F 0 10 2 inlX10 rfl rfl (by decide) fl_X10_22 rfl dX10_mixings_62 ?_
      refine z_iload F 8 dX10_mixings_65 rfl ?_
      refine z_iload F 0 dX10_mixings_67 rfl ?_
      refine z_bipush F (8) dX10_mixings_69 rfl ?_
      refine z_iushr F dX10_mixings_71 ?_
      refine z_iload F 8 dX10_mixings_72 rfl ?_
      refine z_iconst F (1) dX10_mixings_74 rfl ?_
      refine z_iadd F dX10_mixings_75 ?_
      obtain ⟨hne, hf⟩ := zgd_some hf
      refine z_irem F hne dX10_mixings_76 ?_
      obtain ⟨trial_who_10, hg, hf⟩ := zb1_some hf
      refine z_callVm (rest := []) F 7 (c_Line_exchange (xL X) G a_trial a_trial_who trial_length trial_who v9 ((Int32.toUInt32 ((v6 * (1103515245 : Int32)) + (12345 : Int32)) >>> (Int32.toUInt32 (8 : Int32) &&& Int32.toUInt32 31)).toInt32 - (Int32.toUInt32 ((v6 * (1103515245 : Int32)) + (12345 : Int32)) >>> (Int32.toUInt32 (8 : Int32) &&& Int32.toUInt32 31)).toInt32 / (v9 + (1 : Int32)) * (v9 + (1 : Int32))) trial_who_10 hg) hy_X7_exchange ml_X10_50 hd_X7_exchange ⟨by omega, by omega⟩ rfl [8, 9] rfl rfl 8 rfl rfl (w_Thoughts_mixings G a_this a_crowd a_judge a_trial a_numbers a_ahead a_orders a_crowd_heights a_judge_text a_judge_known a_judge_text_tape a_judge_text_reader a_judge_text_steps a_judge_text_worked a_trial_who a_p1 a_p1_who crowd_people crowd_heights judge_text_fed judge_text_length judge_text_top judge_text_steps judge_text_worked judge_known trial_length trial_who_10 p1_length p1_who) [none, none, none, none, none, none, none, none, some 0, some 1, none, none] rfl (by decide +kernel) rfl rfl (Nat.le_of_ble_eq_true rfl) dX10_mixings_77 (fun hz_11 => ?_)
      refine z_iinc F [(9, .int (v9 + (-1))), (6, .int ((v6 * (1103515245 : Int32)) + (12345 : Int32))), (0, .ref a_this), (1, .ref a_p1), (3, .int v3), (4, .int v4), (5, .int v5), (7, .int v7), (8, .int v8)] dX10_mixings_80 8 rfl rfl (by decide) rfl ?_
      refine z_goto F 44 dX10_mixings_83 (by decide) ?_
      exact z_sub [2, 3, 4, 5, 6, 1, 7, 8, 0] rfl (ih trial_who_10 ((v6 * (1103515245 : Int32)) + (12345 : Int32)) (v9 + (-1)) hf)

set_option maxRecDepth 100000 in
set_option maxHeartbeats 4000000 in
theorem l_Thoughts_mixings_19 {X : zX} (G : zG) (a_this : Nat) (a_crowd : Nat) (a_judge : Nat) (a_trial : Nat) (a_numbers : Nat) (a_ahead : Nat) (a_orders : Nat) (a_crowd_heights : Nat) (a_judge_text : Nat) (a_judge_known : Nat) (a_judge_text_tape : Nat) (a_judge_text_reader : Nat) (a_judge_text_steps : Nat) (a_judge_text_worked : Nat) (a_trial_who : Nat) (a_p1 : Nat) (a_p1_who : Nat) (crowd_people : Int32) (crowd_heights : Nat → Int32) (judge_text_fed : Int32) (judge_text_length : Int32) (judge_text_steps : Nat → Int32) (p1_length : Int32) (p1_who : Nat → Int32) (v3 : Int32) (v4 : Int32) (v5 : Int32) {v0 : Option Value} {w0 : va_W} (F : zF X G cX10_mixings RX10 10 (some .int) 5 141 v0 w0) (e_judge_text_top : Int32) (e_judge_text_worked : Nat → Int32) (e_judge_known : Nat → Int32) (e_trial_length : Int32) (e_trial_who : Nat → Int32) (e_v7 : Int32) (hk : Z X G 10 (w_Thoughts_mixings G a_this a_crowd a_judge a_trial a_numbers a_ahead a_orders a_crowd_heights a_judge_text a_judge_known a_judge_text_tape a_judge_text_reader a_judge_text_steps a_judge_text_worked a_trial_who a_p1 a_p1_who crowd_people crowd_heights judge_text_fed judge_text_length e_judge_text_top judge_text_steps e_judge_text_worked e_judge_known e_trial_length e_trial_who p1_length p1_who) [(7, .int e_v7)] 159 []) :
    ∀ (fuel : Nat) (judge_text_top : Int32) (judge_text_worked : Nat → Int32) (judge_known : Nat → Int32) (trial_length : Int32) (trial_who : Nat → Int32) (v6 : Int32) (v7 : Int32) (v8 : Int32), f_Thoughts_mixings_L19 crowd_people crowd_heights judge_text_length judge_text_steps p1_length p1_who v3 v4 v5 fuel judge_text_top judge_text_worked judge_known trial_length trial_who v6 v7 v8 = some (e_judge_text_top, e_judge_text_worked, e_judge_known, e_trial_length, e_trial_who, e_v7) → Z X G 10 (w_Thoughts_mixings G a_this a_crowd a_judge a_trial a_numbers a_ahead a_orders a_crowd_heights a_judge_text a_judge_known a_judge_text_tape a_judge_text_reader a_judge_text_steps a_judge_text_worked a_trial_who a_p1 a_p1_who crowd_people crowd_heights judge_text_fed judge_text_length judge_text_top judge_text_steps judge_text_worked judge_known trial_length trial_who p1_length p1_who) [(0, .ref a_this), (1, .ref a_p1), (3, .int v3), (4, .int v4), (5, .int v5), (6, .int v6), (7, .int v7), (8, .int v8)] 19 [] := by
  intro fuel
  induction fuel with
  | zero => intro judge_text_top judge_text_worked judge_known trial_length trial_who v6 v7 v8 hf; exact absurd ((f_Thoughts_mixings_L19.eq_1 ..).symm.trans hf) (fun h => by cases h)
  | succ fuel ih =>
    intro judge_text_top judge_text_worked judge_known trial_length trial_who v6 v7 v8 hf
    replace hf := (f_Thoughts_mixings_L19.eq_2 ..).symm.trans hf
    refine z_iload F 7 dX10_mixings_19 rfl ?_
    refine z_iload_n F 2 dX10_mixings_21 rfl rfl ?_
    refine z_icmp_ge F 159 dX10_mixings_22 (by decide) hf (fun hf _ => ?_) (fun hf _ => ?_)
    · have eq1 := Option.some.inj hf
      obtain ⟨ee1, eq2⟩ := Prod.mk.inj eq1
      obtain ⟨ee2, eq3⟩ := Prod.mk.inj eq2
      obtain ⟨ee3, eq4⟩ := Prod.mk.inj eq3
      obtain ⟨ee4, eq5⟩ := Prod.mk.inj eq4
      obtain ⟨ee5, ee6⟩ := Prod.mk.inj eq5
      subst ee1
      subst ee2
      subst ee3
      subst ee4
      subst ee5
      subst ee6
      exact z_sub [6] rfl hk
    · refine z_aload_n F 0 dX10_mixings_25 rfl rfl ?_
      refine z_get F 0 10 2 inlX10 rfl rfl (by decide) fl_X10_22 rfl dX10_mixings_26 ?_
      refine z_aload_n F 1 dX10_mixings_29 rfl rfl ?_
      obtain ⟨trial_length_6, trial_who_7, hg, hf⟩ := zb2_some hf
      refine z_callVm (rest := []) F 7 (c_Line_copyFrom (xL X) G a_trial a_trial_who a_p1 a_p1_who trial_length trial_who p1_length p1_who trial_length_6 trial_who_7 hg) hy_X7_copyFrom ml_X10_36 hd_X7_copyFrom ⟨by omega, by omega⟩ rfl [8, 9, 10, 11] rfl rfl 8 rfl rfl (w_Thoughts_mixings G a_this a_crowd a_judge a_trial a_numbers a_ahead a_orders a_crowd_heights a_judge_text a_judge_known a_judge_text_tape a_judge_text_reader a_judge_text_steps a_judge_text_worked a_trial_who a_p1 a_p1_who crowd_people crowd_heights judge_text_fed judge_text_length judge_text_top judge_text_steps judge_text_worked judge_known trial_length_6 trial_who_7 p1_length p1_who) [none, none, none, none, none, none, none, none, some 0, some 1, some 2, some 3] rfl (by decide +kernel) rfl rfl (Nat.le_of_ble_eq_true rfl) dX10_mixings_30 (fun hz_8 => ?_)
      refine z_aload_n F 0 dX10_mixings_33 rfl rfl ?_
      refine z_get F 0 10 2 inlX10 rfl rfl (by decide) fl_X10_22 rfl dX10_mixings_34 ?_
      refine z_callVm (rest := []) F 7 (c_Line_size (xL X) G a_trial a_trial_who trial_length_6 _ rfl) hy_X7_size ml_X10_46 hd_X7_size ⟨by omega, by omega⟩ rfl [8] rfl rfl 8 rfl rfl (w_Thoughts_mixings G a_this a_crowd a_judge a_trial a_numbers a_ahead a_orders a_crowd_heights a_judge_text a_judge_known a_judge_text_tape a_judge_text_reader a_judge_text_steps a_judge_text_worked a_trial_who a_p1 a_p1_who crowd_people crowd_heights judge_text_fed judge_text_length judge_text_top judge_text_steps judge_text_worked judge_known trial_length_6 trial_who_7 p1_length p1_who) [none, none, none, none, none, none, none, none, some 0, none, none, none] rfl (by decide +kernel) rfl rfl (Nat.le_of_ble_eq_true rfl) dX10_mixings_37 (fun hz_9 => ?_)
      refine z_iconst F (1) dX10_mixings_40 rfl ?_
      refine z_isub F dX10_mixings_41 ?_
      refine z_istore F [(9, .int ((f_Line_size trial_length_6) - (1 : Int32))), (0, .ref a_this), (1, .ref a_p1), (3, .int v3), (4, .int v4), (5, .int v5), (6, .int v6), (7, .int v7), (8, .int v8)] dX10_mixings_42 (by decide) rfl ?_
      obtain ⟨trial_who_12, v6_13, hg, hf⟩ := zb2_some hf
      refine z_sub [1, 2, 3, 4, 5, 6, 7, 8, 0] rfl ?_
      refine l_Thoughts_mixings_44 G a_this a_crowd a_judge a_trial a_numbers a_ahead a_orders a_crowd_heights a_judge_text a_judge_known a_judge_text_tape a_judge_text_reader a_judge_text_steps a_judge_text_worked a_trial_who a_p1 a_p1_who crowd_people crowd_heights judge_text_fed judge_text_length judge_text_top judge_text_steps judge_text_worked judge_known trial_length_6 p1_length p1_who v3 v4 v5 v7 v8 F trial_who_12 v6_13 ?_ FU trial_who_7 v6 ((f_Line_size trial_length_6) - (1 : Int32)) hg
      refine z_iload F 3 dX10_mixings_86 rfl ?_
      refine z_bipush F (-2) dX10_mixings_88 rfl ?_
      refine z_icmp_ne F 112 dX10_mixings_90 (by decide) hf (fun hf _ => ?_) (fun hf _ => ?_)
      · refine z_iload F 3 dX10_mixings_112 rfl ?_
        refine z_iconst F (-1) dX10_mixings_114 rfl ?_
        refine z_icmp_ne F 137 dX10_mixings_115 (by decide) hf (fun hf _ => ?_) (fun hf _ => ?_)
        · refine z_aload_n F 0 dX10_mixings_137 rfl rfl ?_
          refine z_get F 0 10 2 inlX10 rfl rfl (by decide) fl_X10_22 rfl dX10_mixings_138 ?_
          refine z_iconst F (0) dX10_mixings_141 rfl ?_
          obtain ⟨r_14, hg, hf⟩ := zb1_some hf
          refine z_callVm (rest := []) F 7 (c_Line_at (xL X) G a_trial a_trial_who trial_length_6 trial_who_12 0 r_14 hg) hy_X7_at ml_X10_57 hd_X7_at ⟨by omega, by omega⟩ rfl [8, 9] rfl rfl 8 rfl rfl (w_Thoughts_mixings G a_this a_crowd a_judge a_trial a_numbers a_ahead a_orders a_crowd_heights a_judge_text a_judge_known a_judge_text_tape a_judge_text_reader a_judge_text_steps a_judge_text_worked a_trial_who a_p1 a_p1_who crowd_people crowd_heights judge_text_fed judge_text_length judge_text_top judge_text_steps judge_text_worked judge_known trial_length_6 trial_who_12 p1_length p1_who) [none, none, none, none, none, none, none, none, some 0, some 1, none, none] rfl (by decide +kernel) rfl rfl (Nat.le_of_ble_eq_true rfl) dX10_mixings_142 (fun hz_15 => ?_)
          refine z_iload F 3 dX10_mixings_145 rfl ?_
          refine z_icmp_ne F 153 dX10_mixings_147 (by decide) hf (fun hf _ => ?_) (fun hf _ => ?_)
          · refine z_iinc F [(8, .int (v8 + 1)), (0, .ref a_this), (1, .ref a_p1), (3, .int v3), (4, .int v4), (5, .int v5), (6, .int v6_13), (7, .int v7)] dX10_mixings_153 7 rfl rfl (by decide) rfl ?_
            refine z_goto F 19 dX10_mixings_156 (by decide) ?_
            exact z_sub [1, 2, 3, 4, 5, 6, 7, 0] rfl (ih judge_text_top judge_text_worked judge_known trial_length_6 trial_who_12 v6_13 v7 (v8 + 1) hf)
          · refine z_iinc F [(7, .int (v7 + 1)), (0, .ref a_this), (1, .ref a_p1), (3, .int v3), (4, .int v4), (5, .int v5), (6, .int v6_13), (8, .int v8)] dX10_mixings_150 6 rfl rfl (by decide) rfl ?_
            refine z_iinc F [(8, .int (v8 + 1)), (7, .int (v7 + 1)), (0, .ref a_this), (1, .ref a_p1), (3, .int v3), (4, .int v4), (5, .int v5), (6, .int v6_13)] dX10_mixings_153 7 rfl rfl (by decide) rfl ?_
            refine z_goto F 19 dX10_mixings_156 (by decide) ?_
            exact z_sub [2, 3, 4, 5, 6, 7, 1, 0] rfl (ih judge_text_top judge_text_worked judge_known trial_length_6 trial_who_12 v6_13 (v7 + 1) (v8 + 1) hf)
        · refine z_aload_n F 0 dX10_mixings_118 rfl rfl ?_
          refine z_get F 0 10 1 inlX10 rfl rfl (by decide) fl_X10_15 rfl dX10_mixings_119 ?_
          refine z_aload_n F 0 dX10_mixings_122 rfl rfl ?_
          refine z_get F 0 10 2 inlX10 rfl rfl (by decide) fl_X10_22 rfl dX10_mixings_123 ?_
          obtain ⟨r_16, judge_text_top_17, judge_text_worked_18, judge_known_19, hg, hf⟩ := zb4_some hf
          refine z_callVm (rest := []) F 4 (c_Judge_disquietOf (xL X) G a_judge a_crowd a_judge_text a_judge_known a_crowd_heights a_judge_text_tape a_judge_text_reader a_judge_text_steps a_judge_text_worked a_trial a_trial_who crowd_people crowd_heights judge_text_fed judge_text_length judge_text_top judge_text_steps judge_text_worked judge_known trial_length_6 trial_who_12 r_16 judge_text_top_17 judge_text_worked_18 judge_known_19 hg) hy_X4_disquietOf ml_X10_40 hd_X4_disquietOf ⟨by omega, by omega⟩ rfl [3, 1, 2, 4, 5, 6, 7, 8, 9] rfl rfl 3 rfl rfl (w_Thoughts_mixings G a_this a_crowd a_judge a_trial a_numbers a_ahead a_orders a_crowd_heights a_judge_text a_judge_known a_judge_text_tape a_judge_text_reader a_judge_text_steps a_judge_text_worked a_trial_who a_p1 a_p1_who crowd_people crowd_heights judge_text_fed judge_text_length judge_text_top_17 judge_text_steps judge_text_worked_18 judge_known_19 trial_length_6 trial_who_12 p1_length p1_who) [none, some 1, some 2, some 0, some 3, some 4, some 5, some 6, some 7, some 8, none, none] rfl (by decide +kernel) rfl rfl (Nat.le_of_ble_eq_true rfl) dX10_mixings_126 (fun hz_20 => ?_)
          refine z_iload F 4 dX10_mixings_129 rfl ?_
          refine z_icmp_ge F 153 dX10_mixings_131 (by decide) hf (fun hf _ => ?_) (fun hf _ => ?_)
          · refine z_iinc F [(8, .int (v8 + 1)), (0, .ref a_this), (1, .ref a_p1), (3, .int v3), (4, .int v4), (5, .int v5), (6, .int v6_13), (7, .int v7)] dX10_mixings_153 7 rfl rfl (by decide) rfl ?_
            refine z_goto F 19 dX10_mixings_156 (by decide) ?_
            exact z_sub [1, 2, 3, 4, 5, 6, 7, 0] rfl (ih judge_text_top_17 judge_text_worked_18 judge_known_19 trial_length_6 trial_who_12 v6_13 v7 (v8 + 1) hf)
          · refine z_goto F 150 dX10_mixings_134 (by decide) ?_
            refine z_iinc F [(7, .int (v7 + 1)), (0, .ref a_this), (1, .ref a_p1), (3, .int v3), (4, .int v4), (5, .int v5), (6, .int v6_13), (8, .int v8)] dX10_mixings_150 6 rfl rfl (by decide) rfl ?_
            refine z_iinc F [(8, .int (v8 + 1)), (7, .int (v7 + 1)), (0, .ref a_this), (1, .ref a_p1), (3, .int v3), (4, .int v4), (5, .int v5), (6, .int v6_13)] dX10_mixings_153 7 rfl rfl (by decide) rfl ?_
            refine z_goto F 19 dX10_mixings_156 (by decide) ?_
            exact z_sub [2, 3, 4, 5, 6, 7, 1, 0] rfl (ih judge_text_top_17 judge_text_worked_18 judge_known_19 trial_length_6 trial_who_12 v6_13 (v7 + 1) (v8 + 1) hf)
      · refine z_iload F 6 dX10_mixings_93 rfl ?_
        refine z_aload_n F 0 dX10_mixings_95 rfl rfl ?_
        refine z_get F 0 10 1 inlX10 rfl rfl (by decide) fl_X10_15 rfl dX10_mixings_96 ?_
        refine z_aload_n F 0 dX10_mixings_99 rfl rfl ?_
        refine z_get F 0 10 2 inlX10 rfl rfl (by decide) fl_X10_22 rfl dX10_mixings_100 ?_
        obtain ⟨r_21, judge_text_top_22, judge_text_worked_23, judge_known_24, hg, hf⟩ := zb4_some hf
        refine z_callVm (rest := [.int v7]) F 4 (c_Judge_disquietOf (xL X) G a_judge a_crowd a_judge_text a_judge_known a_crowd_heights a_judge_text_tape a_judge_text_reader a_judge_text_steps a_judge_text_worked a_trial a_trial_who crowd_people crowd_heights judge_text_fed judge_text_length judge_text_top judge_text_steps judge_text_worked judge_known trial_length_6 trial_who_12 r_21 judge_text_top_22 judge_text_worked_23 judge_known_24 hg) hy_X4_disquietOf ml_X10_40 hd_X4_disquietOf ⟨by omega, by omega⟩ rfl [3, 1, 2, 4, 5, 6, 7, 8, 9] rfl rfl 3 rfl rfl (w_Thoughts_mixings G a_this a_crowd a_judge a_trial a_numbers a_ahead a_orders a_crowd_heights a_judge_text a_judge_known a_judge_text_tape a_judge_text_reader a_judge_text_steps a_judge_text_worked a_trial_who a_p1 a_p1_who crowd_people crowd_heights judge_text_fed judge_text_length judge_text_top_22 judge_text_steps judge_text_worked_23 judge_known_24 trial_length_6 trial_who_12 p1_length p1_who) [none, some 1, some 2, some 0, some 3, some 4, some 5, some 6, some 7, some 8, none, none] rfl (by decide +kernel) rfl rfl (Nat.le_of_ble_eq_true rfl) dX10_mixings_103 (fun hz_25 => ?_)
        refine z_iadd F dX10_mixings_106 ?_
        refine z_istore F [(7, .int (v7 + r_21)), (0, .ref a_this), (1, .ref a_p1), (3, .int v3), (4, .int v4), (5, .int v5), (6, .int v6_13), (8, .int v8)] dX10_mixings_107 (by decide) rfl ?_
        refine z_goto F 153 dX10_mixings_109 (by decide) ?_
        refine z_iinc F [(8, .int (v8 + 1)), (7, .int (v7 + r_21)), (0, .ref a_this), (1, .ref a_p1), (3, .int v3), (4, .int v4), (5, .int v5), (6, .int v6_13)] dX10_mixings_153 7 rfl rfl (by decide) rfl ?_
        refine z_goto F 19 dX10_mixings_156 (by decide) ?_
        exact z_sub [2, 3, 4, 5, 6, 7, 1, 0] rfl (ih judge_text_top_22 judge_text_worked_23 judge_known_24 trial_length_6 trial_who_12 v6_13 (v7 + r_21) (v8 + 1) hf)

set_option maxRecDepth 100000 in
set_option maxHeartbeats 4000000 in
theorem c_Thoughts_mixings (l : Launch) (G : zG) (a_this : Nat) (a_crowd : Nat) (a_judge : Nat) (a_trial : Nat) (a_numbers : Nat) (a_ahead : Nat) (a_orders : Nat) (a_crowd_heights : Nat) (a_judge_text : Nat) (a_judge_known : Nat) (a_judge_text_tape : Nat) (a_judge_text_reader : Nat) (a_judge_text_steps : Nat) (a_judge_text_worked : Nat) (a_trial_who : Nat) (a_p1 : Nat) (a_p1_who : Nat) (crowd_people : Int32) (crowd_heights : Nat → Int32) (judge_text_fed : Int32) (judge_text_length : Int32) (judge_text_top : Int32) (judge_text_steps : Nat → Int32) (judge_text_worked : Nat → Int32) (judge_known : Nat → Int32) (trial_length : Int32) (trial_who : Nat → Int32) (p1_length : Int32) (p1_who : Nat → Int32) (x2 : Int32) (x3 : Int32) (x4 : Int32) (r_ : Int32) (o_judge_text_top : Int32) (o_judge_text_worked : Nat → Int32) (o_judge_known : Nat → Int32) (o_trial_length : Int32) (o_trial_who : Nat → Int32) (hf : f_Thoughts_mixings crowd_people crowd_heights judge_text_length judge_text_top judge_text_steps judge_text_worked judge_known trial_length trial_who p1_length p1_who x2 x3 x4 = some (r_, o_judge_text_top, o_judge_text_worked, o_judge_known, o_trial_length, o_trial_who)) : zM l yX10_mixings cX10_mixings 10 (some .int) 5 141 G [.ref a_this, .ref a_p1, .int x2, .int x3, .int x4] (w_Thoughts_mixings G a_this a_crowd a_judge a_trial a_numbers a_ahead a_orders a_crowd_heights a_judge_text a_judge_known a_judge_text_tape a_judge_text_reader a_judge_text_steps a_judge_text_worked a_trial_who a_p1 a_p1_who crowd_people crowd_heights judge_text_fed judge_text_length judge_text_top judge_text_steps judge_text_worked judge_known trial_length trial_who p1_length p1_who) (some (.int r_)) (w_Thoughts_mixings G a_this a_crowd a_judge a_trial a_numbers a_ahead a_orders a_crowd_heights a_judge_text a_judge_known a_judge_text_tape a_judge_text_reader a_judge_text_steps a_judge_text_worked a_trial_who a_p1 a_p1_who crowd_people crowd_heights judge_text_fed judge_text_length o_judge_text_top judge_text_steps o_judge_text_worked o_judge_known o_trial_length o_trial_who p1_length p1_who) := by
  refine zM.of [(0, .ref a_this), (1, .ref a_p1), (2, .int x2), (3, .int x3), (4, .int x4)] (own := RX10) rfl (by decide +kernel) (Nat.le_of_ble_eq_true rfl) rfl rfl fun X hX F => ?_
  subst hX
  replace hf := (f_Thoughts_mixings.eq_1 ..).symm.trans hf
  refine z_aload_n F 0 dX10_mixings_0 rfl rfl ?_
  refine z_get F 0 10 1 inlX10 rfl rfl (by decide) fl_X10_15 rfl dX10_mixings_1 ?_
  refine z_aload_n F 1 dX10_mixings_4 rfl rfl ?_
  obtain ⟨r_1, judge_text_top_2, judge_text_worked_3, judge_known_4, hg, hf⟩ := zb4_some hf
  refine z_callVm (rest := []) F 4 (c_Judge_disquietOf (xL X) G a_judge a_crowd a_judge_text a_judge_known a_crowd_heights a_judge_text_tape a_judge_text_reader a_judge_text_steps a_judge_text_worked a_p1 a_p1_who crowd_people crowd_heights judge_text_fed judge_text_length judge_text_top judge_text_steps judge_text_worked judge_known p1_length p1_who r_1 judge_text_top_2 judge_text_worked_3 judge_known_4 hg) hy_X4_disquietOf ml_X10_40 hd_X4_disquietOf ⟨by omega, by omega⟩ rfl [3, 1, 2, 4, 5, 6, 7, 10, 11] rfl rfl 3 rfl rfl (w_Thoughts_mixings G a_this a_crowd a_judge a_trial a_numbers a_ahead a_orders a_crowd_heights a_judge_text a_judge_known a_judge_text_tape a_judge_text_reader a_judge_text_steps a_judge_text_worked a_trial_who a_p1 a_p1_who crowd_people crowd_heights judge_text_fed judge_text_length judge_text_top_2 judge_text_steps judge_text_worked_3 judge_known_4 trial_length trial_who p1_length p1_who) [none, some 1, some 2, some 0, some 3, some 4, some 5, some 6, none, none, some 7, some 8] rfl (by decide +kernel) rfl rfl (Nat.le_of_ble_eq_true rfl) dX10_mixings_5 (fun hz_5 => ?_)
  refine z_istore F [(5, .int r_1), (0, .ref a_this), (1, .ref a_p1), (2, .int x2), (3, .int x3), (4, .int x4)] dX10_mixings_8 (by decide) rfl ?_
  refine z_iload_n F 3 dX10_mixings_10 rfl rfl ?_
  refine z_istore F [(6, .int x2), (5, .int r_1), (0, .ref a_this), (1, .ref a_p1), (2, .int x2), (3, .int x3), (4, .int x4)] dX10_mixings_11 (by decide) rfl ?_
  refine z_iconst F (0) dX10_mixings_13 rfl ?_
  refine z_istore F [(7, .int 0), (6, .int x2), (5, .int r_1), (0, .ref a_this), (1, .ref a_p1), (2, .int x2), (3, .int x3), (4, .int x4)] dX10_mixings_14 (by decide) rfl ?_
  refine z_iconst F (0) dX10_mixings_16 rfl ?_
  refine z_istore F [(8, .int 0), (7, .int 0), (6, .int x2), (5, .int r_1), (0, .ref a_this), (1, .ref a_p1), (2, .int x2), (3, .int x3), (4, .int x4)] dX10_mixings_17 (by decide) rfl ?_
  obtain ⟨judge_text_top_26, judge_text_worked_27, judge_known_28, trial_length_29, trial_who_30, v7_31, hg, hf⟩ := zb6_some hf
  refine z_sub [4, 5, 7, 8, 3, 2, 1, 0] rfl ?_
  refine l_Thoughts_mixings_19 G a_this a_crowd a_judge a_trial a_numbers a_ahead a_orders a_crowd_heights a_judge_text a_judge_known a_judge_text_tape a_judge_text_reader a_judge_text_steps a_judge_text_worked a_trial_who a_p1 a_p1_who crowd_people crowd_heights judge_text_fed judge_text_length judge_text_steps p1_length p1_who x3 x4 r_1 F judge_text_top_26 judge_text_worked_27 judge_known_28 trial_length_29 trial_who_30 v7_31 ?_ FU judge_text_top_2 judge_text_worked_3 judge_known_4 trial_length trial_who x2 0 0 hg
  refine z_iload F 0 dX10_mixings_159 rfl ?_
  have eq1 := Option.some.inj hf
  obtain ⟨ee1, eq2⟩ := Prod.mk.inj eq1
  obtain ⟨ee2, eq3⟩ := Prod.mk.inj eq2
  obtain ⟨ee3, eq4⟩ := Prod.mk.inj eq3
  obtain ⟨ee4, eq5⟩ := Prod.mk.inj eq4
  obtain ⟨ee5, ee6⟩ := Prod.mk.inj eq5
  subst ee1
  subst ee2
  subst ee3
  subst ee4
  subst ee5
  subst ee6
  exact z_iret F rfl rfl rfl rfl dX10_mixings_161

