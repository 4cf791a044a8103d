/-! by program (wip/whole/gen.py): pure functions and contracts -/
theorem dX12_restored_0 : decode cX12_restored 0 = .ok (.aload_n 0, 1) := by decide +kernel
theorem dX12_restored_1 : decode cX12_restored 1 = .ok (.iload_n 1, 1) := by decide +kernel
theorem dX12_restored_2 : decode cX12_restored 2 = .ok (.invokevirtual 265, 3) := by decide +kernel
theorem dX12_restored_5 : decode cX12_restored 5 = .ok (.iconst (-1), 1) := by decide +kernel
theorem dX12_restored_6 : decode cX12_restored 6 = .ok (.if_icmp .eq 11, 3) := by decide +kernel
theorem dX12_restored_9 : decode cX12_restored 9 = .ok (.aload_n 0, 1) := by decide +kernel
theorem dX12_restored_10 : decode cX12_restored 10 = .ok (.iload_n 2, 1) := by decide +kernel
theorem dX12_restored_11 : decode cX12_restored 11 = .ok (.invokevirtual 239, 3) := by decide +kernel
theorem dX12_restored_14 : decode cX12_restored 14 = .ok (.ifCond .ne 5, 3) := by decide +kernel
theorem dX12_restored_17 : decode cX12_restored 17 = .ok (.iconst (-1), 1) := by decide +kernel
theorem dX12_restored_18 : decode cX12_restored 18 = .ok (.ireturn, 1) := by decide +kernel
theorem dX12_restored_19 : decode cX12_restored 19 = .ok (.aload_n 0, 1) := by decide +kernel
theorem dX12_restored_20 : decode cX12_restored 20 = .ok (.iload_n 1, 1) := by decide +kernel
theorem dX12_restored_21 : decode cX12_restored 21 = .ok (.invokevirtual 284, 3) := by decide +kernel
theorem dX12_restored_24 : decode cX12_restored 24 = .ok (.istore_n 3, 1) := by decide +kernel
theorem dX12_restored_25 : decode cX12_restored 25 = .ok (.iload_n 3, 1) := by decide +kernel
theorem dX12_restored_26 : decode cX12_restored 26 = .ok (.ifCond .ge 7, 3) := by decide +kernel
theorem dX12_restored_29 : decode cX12_restored 29 = .ok (.iload_n 3, 1) := by decide +kernel
theorem dX12_restored_30 : decode cX12_restored 30 = .ok (.goto 9, 3) := by decide +kernel
theorem dX12_restored_33 : decode cX12_restored 33 = .ok (.aload_n 0, 1) := by decide +kernel
theorem dX12_restored_34 : decode cX12_restored 34 = .ok (.getfield 34, 3) := by decide +kernel
theorem dX12_restored_37 : decode cX12_restored 37 = .ok (.iload_n 2, 1) := by decide +kernel
theorem dX12_restored_38 : decode cX12_restored 38 = .ok (.iaload, 1) := by decide +kernel
theorem dX12_restored_39 : decode cX12_restored 39 = .ok (.ireturn, 1) := by decide +kernel
theorem dX12_restore_0 : decode cX12_restore 0 = .ok (.aload_n 0, 1) := by decide +kernel
theorem dX12_restore_1 : decode cX12_restore 1 = .ok (.iload_n 1, 1) := by decide +kernel
theorem dX12_restore_2 : decode cX12_restore 2 = .ok (.invokevirtual 284, 3) := by decide +kernel
theorem dX12_restore_5 : decode cX12_restore 5 = .ok (.istore_n 2, 1) := by decide +kernel
theorem dX12_restore_6 : decode cX12_restore 6 = .ok (.iload_n 2, 1) := by decide +kernel
theorem dX12_restore_7 : decode cX12_restore 7 = .ok (.ifCond .ge 5, 3) := by decide +kernel
theorem dX12_restore_10 : decode cX12_restore 10 = .ok (.iload_n 2, 1) := by decide +kernel
theorem dX12_restore_11 : decode cX12_restore 11 = .ok (.ireturn, 1) := by decide +kernel
theorem dX12_restore_12 : decode cX12_restore 12 = .ok (.aload_n 0, 1) := by decide +kernel
theorem dX12_restore_13 : decode cX12_restore 13 = .ok (.invokevirtual 245, 3) := by decide +kernel
theorem dX12_restore_16 : decode cX12_restore 16 = .ok (.aload_n 0, 1) := by decide +kernel
theorem dX12_restore_17 : decode cX12_restore 17 = .ok (.invokevirtual 281, 3) := by decide +kernel
theorem dX12_restore_20 : decode cX12_restore 20 = .ok (.aload_n 0, 1) := by decide +kernel
theorem dX12_restore_21 : decode cX12_restore 21 = .ok (.invokevirtual 252, 3) := by decide +kernel
theorem dX12_restore_24 : decode cX12_restore 24 = .ok (.iconst 1, 1) := by decide +kernel
theorem dX12_restore_25 : decode cX12_restore 25 = .ok (.ireturn, 1) := by decide +kernel
theorem dX12_addsPlace_0 : decode cX12_addsPlace 0 = .ok (.iconst 0, 1) := by decide +kernel
theorem dX12_addsPlace_1 : decode cX12_addsPlace 1 = .ok (.istore_n 3, 1) := by decide +kernel
theorem dX12_addsPlace_2 : decode cX12_addsPlace 2 = .ok (.iload_n 3, 1) := by decide +kernel
theorem dX12_addsPlace_3 : decode cX12_addsPlace 3 = .ok (.bipush 37, 2) := by decide +kernel
theorem dX12_addsPlace_5 : decode cX12_addsPlace 5 = .ok (.if_icmp .ge 28, 3) := by decide +kernel
theorem dX12_addsPlace_8 : decode cX12_addsPlace 8 = .ok (.aload_n 0, 1) := by decide +kernel
theorem dX12_addsPlace_9 : decode cX12_addsPlace 9 = .ok (.getfield 58, 3) := by decide +kernel
theorem dX12_addsPlace_12 : decode cX12_addsPlace 12 = .ok (.iload_n 3, 1) := by decide +kernel
theorem dX12_addsPlace_13 : decode cX12_addsPlace 13 = .ok (.aload_n 0, 1) := by decide +kernel
theorem dX12_addsPlace_14 : decode cX12_addsPlace 14 = .ok (.getfield 55, 3) := by decide +kernel
theorem dX12_addsPlace_17 : decode cX12_addsPlace 17 = .ok (.iload_n 3, 1) := by decide +kernel
theorem dX12_addsPlace_18 : decode cX12_addsPlace 18 = .ok (.iaload, 1) := by decide +kernel
theorem dX12_addsPlace_19 : decode cX12_addsPlace 19 = .ok (.iastore, 1) := by decide +kernel
theorem dX12_addsPlace_20 : decode cX12_addsPlace 20 = .ok (.aload_n 0, 1) := by decide +kernel
theorem dX12_addsPlace_21 : decode cX12_addsPlace 21 = .ok (.getfield 55, 3) := by decide +kernel
theorem dX12_addsPlace_24 : decode cX12_addsPlace 24 = .ok (.iload_n 3, 1) := by decide +kernel
theorem dX12_addsPlace_25 : decode cX12_addsPlace 25 = .ok (.iconst 0, 1) := by decide +kernel
theorem dX12_addsPlace_26 : decode cX12_addsPlace 26 = .ok (.iastore, 1) := by decide +kernel
theorem dX12_addsPlace_27 : decode cX12_addsPlace 27 = .ok (.iinc 3 1, 3) := by decide +kernel
theorem dX12_addsPlace_30 : decode cX12_addsPlace 30 = .ok (.goto (-28), 3) := by decide +kernel
theorem dX12_addsPlace_33 : decode cX12_addsPlace 33 = .ok (.iconst 0, 1) := by decide +kernel
theorem dX12_addsPlace_34 : decode cX12_addsPlace 34 = .ok (.istore_n 3, 1) := by decide +kernel
theorem dX12_addsPlace_35 : decode cX12_addsPlace 35 = .ok (.iload_n 3, 1) := by decide +kernel
theorem dX12_addsPlace_36 : decode cX12_addsPlace 36 = .ok (.bipush 37, 2) := by decide +kernel
theorem dX12_addsPlace_38 : decode cX12_addsPlace 38 = .ok (.if_icmp .ge 51, 3) := by decide +kernel
theorem dX12_addsPlace_41 : decode cX12_addsPlace 41 = .ok (.iload_n 1, 1) := by decide +kernel
theorem dX12_addsPlace_42 : decode cX12_addsPlace 42 = .ok (.istore 4, 2) := by decide +kernel
theorem dX12_addsPlace_44 : decode cX12_addsPlace 44 = .ok (.iload 4, 2) := by decide +kernel
theorem dX12_addsPlace_46 : decode cX12_addsPlace 46 = .ok (.iload_n 2, 1) := by decide +kernel
theorem dX12_addsPlace_47 : decode cX12_addsPlace 47 = .ok (.if_icmp .gt 36, 3) := by decide +kernel
theorem dX12_addsPlace_50 : decode cX12_addsPlace 50 = .ok (.iload_n 3, 1) := by decide +kernel
theorem dX12_addsPlace_51 : decode cX12_addsPlace 51 = .ok (.iload 4, 2) := by decide +kernel
theorem dX12_addsPlace_53 : decode cX12_addsPlace 53 = .ok (.iadd, 1) := by decide +kernel
theorem dX12_addsPlace_54 : decode cX12_addsPlace 54 = .ok (.bipush 37, 2) := by decide +kernel
theorem dX12_addsPlace_56 : decode cX12_addsPlace 56 = .ok (.if_icmp .ge 27, 3) := by decide +kernel
theorem dX12_addsPlace_59 : decode cX12_addsPlace 59 = .ok (.aload_n 0, 1) := by decide +kernel
theorem dX12_addsPlace_60 : decode cX12_addsPlace 60 = .ok (.getfield 55, 3) := by decide +kernel
theorem dX12_addsPlace_63 : decode cX12_addsPlace 63 = .ok (.iload_n 3, 1) := by decide +kernel
theorem dX12_addsPlace_64 : decode cX12_addsPlace 64 = .ok (.iload 4, 2) := by decide +kernel
theorem dX12_addsPlace_66 : decode cX12_addsPlace 66 = .ok (.iadd, 1) := by decide +kernel
theorem dX12_addsPlace_67 : decode cX12_addsPlace 67 = .ok (.dup2, 1) := by decide +kernel
theorem dX12_addsPlace_68 : decode cX12_addsPlace 68 = .ok (.iaload, 1) := by decide +kernel
theorem dX12_addsPlace_69 : decode cX12_addsPlace 69 = .ok (.aload_n 0, 1) := by decide +kernel
theorem dX12_addsPlace_70 : decode cX12_addsPlace 70 = .ok (.getfield 58, 3) := by decide +kernel
theorem dX12_addsPlace_73 : decode cX12_addsPlace 73 = .ok (.iload_n 3, 1) := by decide +kernel
theorem dX12_addsPlace_74 : decode cX12_addsPlace 74 = .ok (.iaload, 1) := by decide +kernel
theorem dX12_addsPlace_75 : decode cX12_addsPlace 75 = .ok (.iadd, 1) := by decide +kernel
theorem dX12_addsPlace_76 : decode cX12_addsPlace 76 = .ok (.iastore, 1) := by decide +kernel
theorem dX12_addsPlace_77 : decode cX12_addsPlace 77 = .ok (.iinc 4 1, 3) := by decide +kernel
theorem dX12_addsPlace_80 : decode cX12_addsPlace 80 = .ok (.goto (-36), 3) := by decide +kernel
theorem dX12_addsPlace_83 : decode cX12_addsPlace 83 = .ok (.iinc 3 1, 3) := by decide +kernel
theorem dX12_addsPlace_86 : decode cX12_addsPlace 86 = .ok (.goto (-51), 3) := by decide +kernel
theorem dX12_addsPlace_89 : decode cX12_addsPlace 89 = .ok (.return_, 1) := by decide +kernel
theorem dX12_noWays_0 : decode cX12_noWays 0 = .ok (.iconst 0, 1) := by decide +kernel
theorem dX12_noWays_1 : decode cX12_noWays 1 = .ok (.istore_n 1, 1) := by decide +kernel
theorem dX12_noWays_2 : decode cX12_noWays 2 = .ok (.iload_n 1, 1) := by decide +kernel
theorem dX12_noWays_3 : decode cX12_noWays 3 = .ok (.bipush 37, 2) := by decide +kernel
theorem dX12_noWays_5 : decode cX12_noWays 5 = .ok (.if_icmp .ge 24, 3) := by decide +kernel
theorem dX12_noWays_8 : decode cX12_noWays 8 = .ok (.aload_n 0, 1) := by decide +kernel
theorem dX12_noWays_9 : decode cX12_noWays 9 = .ok (.getfield 55, 3) := by decide +kernel
theorem dX12_noWays_12 : decode cX12_noWays 12 = .ok (.iload_n 1, 1) := by decide +kernel
theorem dX12_noWays_13 : decode cX12_noWays 13 = .ok (.iload_n 1, 1) := by decide +kernel
theorem dX12_noWays_14 : decode cX12_noWays 14 = .ok (.ifCond .ne 7, 3) := by decide +kernel
theorem dX12_noWays_17 : decode cX12_noWays 17 = .ok (.iconst 1, 1) := by decide +kernel
theorem dX12_noWays_18 : decode cX12_noWays 18 = .ok (.goto 4, 3) := by decide +kernel
theorem dX12_noWays_21 : decode cX12_noWays 21 = .ok (.iconst 0, 1) := by decide +kernel
theorem dX12_noWays_22 : decode cX12_noWays 22 = .ok (.iastore, 1) := by decide +kernel
theorem dX12_noWays_23 : decode cX12_noWays 23 = .ok (.iinc 1 1, 3) := by decide +kernel
theorem dX12_noWays_26 : decode cX12_noWays 26 = .ok (.goto (-24), 3) := by decide +kernel
theorem dX12_noWays_29 : decode cX12_noWays 29 = .ok (.return_, 1) := by decide +kernel
theorem dX12_ways_0 : decode cX12_ways 0 = .ok (.iload_n 1, 1) := by decide +kernel
theorem dX12_ways_1 : decode cX12_ways 1 = .ok (.invokestatic 113, 3) := by decide +kernel
theorem dX12_ways_4 : decode cX12_ways 4 = .ok (.ifCond .eq 17, 3) := by decide +kernel
theorem dX12_ways_7 : decode cX12_ways 7 = .ok (.iload_n 2, 1) := by decide +kernel
theorem dX12_ways_8 : decode cX12_ways 8 = .ok (.i2l, 1) := by decide +kernel
theorem dX12_ways_9 : decode cX12_ways 9 = .ok (.ldc2_w 263, 3) := by decide +kernel
theorem dX12_ways_12 : decode cX12_ways 12 = .ok (.ldc2_w 287, 3) := by decide +kernel
theorem dX12_ways_15 : decode cX12_ways 15 = .ok (.invokestatic 96, 3) := by decide +kernel
theorem dX12_ways_18 : decode cX12_ways 18 = .ok (.ifCond .ne 5, 3) := by decide +kernel
theorem dX12_ways_21 : decode cX12_ways 21 = .ok (.iconst (-1), 1) := by decide +kernel
theorem dX12_ways_22 : decode cX12_ways 22 = .ok (.ireturn, 1) := by decide +kernel
theorem dX12_ways_23 : decode cX12_ways 23 = .ok (.aload_n 0, 1) := by decide +kernel
theorem dX12_ways_24 : decode cX12_ways 24 = .ok (.iload_n 1, 1) := by decide +kernel
theorem dX12_ways_25 : decode cX12_ways 25 = .ok (.invokevirtual 265, 3) := by decide +kernel
theorem dX12_ways_28 : decode cX12_ways 28 = .ok (.ifCond .ge 9, 3) := by decide +kernel
theorem dX12_ways_31 : decode cX12_ways 31 = .ok (.aload_n 0, 1) := by decide +kernel
theorem dX12_ways_32 : decode cX12_ways 32 = .ok (.iload_n 1, 1) := by decide +kernel
theorem dX12_ways_33 : decode cX12_ways 33 = .ok (.invokevirtual 265, 3) := by decide +kernel
theorem dX12_ways_36 : decode cX12_ways 36 = .ok (.ireturn, 1) := by decide +kernel
theorem dX12_ways_37 : decode cX12_ways 37 = .ok (.aload_n 0, 1) := by decide +kernel
theorem dX12_ways_38 : decode cX12_ways 38 = .ok (.getfield 79, 3) := by decide +kernel
theorem dX12_ways_41 : decode cX12_ways 41 = .ok (.iload_n 1, 1) := by decide +kernel
theorem dX12_ways_42 : decode cX12_ways 42 = .ok (.iaload, 1) := by decide +kernel
theorem dX12_ways_43 : decode cX12_ways 43 = .ok (.aload_n 0, 1) := by decide +kernel
theorem dX12_ways_44 : decode cX12_ways 44 = .ok (.getfield 100, 3) := by decide +kernel
theorem dX12_ways_47 : decode cX12_ways 47 = .ok (.if_icmp .lt 11, 3) := by decide +kernel
theorem dX12_ways_50 : decode cX12_ways 50 = .ok (.aload_n 0, 1) := by decide +kernel
theorem dX12_ways_51 : decode cX12_ways 51 = .ok (.iload_n 1, 1) := by decide +kernel
theorem dX12_ways_52 : decode cX12_ways 52 = .ok (.invokevirtual 268, 3) := by decide +kernel
theorem dX12_ways_55 : decode cX12_ways 55 = .ok (.ifCond .lt 6, 3) := by decide +kernel
theorem dX12_ways_58 : decode cX12_ways 58 = .ok (.bipush (-5), 2) := by decide +kernel
theorem dX12_ways_60 : decode cX12_ways 60 = .ok (.ireturn, 1) := by decide +kernel
theorem dX12_ways_61 : decode cX12_ways 61 = .ok (.aload_n 0, 1) := by decide +kernel
theorem dX12_ways_62 : decode cX12_ways 62 = .ok (.iload_n 1, 1) := by decide +kernel
theorem dX12_ways_63 : decode cX12_ways 63 = .ok (.invokevirtual 278, 3) := by decide +kernel
theorem dX12_ways_66 : decode cX12_ways 66 = .ok (.istore_n 3, 1) := by decide +kernel
theorem dX12_ways_67 : decode cX12_ways 67 = .ok (.aload_n 0, 1) := by decide +kernel
theorem dX12_ways_68 : decode cX12_ways 68 = .ok (.invokevirtual 289, 3) := by decide +kernel
theorem dX12_ways_71 : decode cX12_ways 71 = .ok (.iconst 0, 1) := by decide +kernel
theorem dX12_ways_72 : decode cX12_ways 72 = .ok (.istore 4, 2) := by decide +kernel
theorem dX12_ways_74 : decode cX12_ways 74 = .ok (.iload 4, 2) := by decide +kernel
theorem dX12_ways_76 : decode cX12_ways 76 = .ok (.aload_n 0, 1) := by decide +kernel
theorem dX12_ways_77 : decode cX12_ways 77 = .ok (.getfield 100, 3) := by decide +kernel
theorem dX12_ways_80 : decode cX12_ways 80 = .ok (.if_icmp .ge 56, 3) := by decide +kernel
theorem dX12_ways_83 : decode cX12_ways 83 = .ok (.aload_n 0, 1) := by decide +kernel
theorem dX12_ways_84 : decode cX12_ways 84 = .ok (.aload_n 0, 1) := by decide +kernel
theorem dX12_ways_85 : decode cX12_ways 85 = .ok (.getfield 52, 3) := by decide +kernel
theorem dX12_ways_88 : decode cX12_ways 88 = .ok (.iload 4, 2) := by decide +kernel
theorem dX12_ways_90 : decode cX12_ways 90 = .ok (.iaload, 1) := by decide +kernel
theorem dX12_ways_91 : decode cX12_ways 91 = .ok (.ifCond .ge 7, 3) := by decide +kernel
theorem dX12_ways_94 : decode cX12_ways 94 = .ok (.iconst 0, 1) := by decide +kernel
theorem dX12_ways_95 : decode cX12_ways 95 = .ok (.goto 10, 3) := by decide +kernel
theorem dX12_ways_98 : decode cX12_ways 98 = .ok (.aload_n 0, 1) := by decide +kernel
theorem dX12_ways_99 : decode cX12_ways 99 = .ok (.getfield 52, 3) := by decide +kernel
theorem dX12_ways_102 : decode cX12_ways 102 = .ok (.iload 4, 2) := by decide +kernel
theorem dX12_ways_104 : decode cX12_ways 104 = .ok (.iaload, 1) := by decide +kernel
theorem dX12_ways_105 : decode cX12_ways 105 = .ok (.aload_n 0, 1) := by decide +kernel
theorem dX12_ways_106 : decode cX12_ways 106 = .ok (.getfield 52, 3) := by decide +kernel
theorem dX12_ways_109 : decode cX12_ways 109 = .ok (.iload 4, 2) := by decide +kernel
theorem dX12_ways_111 : decode cX12_ways 111 = .ok (.iaload, 1) := by decide +kernel
theorem dX12_ways_112 : decode cX12_ways 112 = .ok (.ifCond .ge 8, 3) := by decide +kernel
theorem dX12_ways_115 : decode cX12_ways 115 = .ok (.iload 4, 2) := by decide +kernel
theorem dX12_ways_117 : decode cX12_ways 117 = .ok (.goto 10, 3) := by decide +kernel
theorem dX12_ways_120 : decode cX12_ways 120 = .ok (.aload_n 0, 1) := by decide +kernel
theorem dX12_ways_121 : decode cX12_ways 121 = .ok (.getfield 52, 3) := by decide +kernel
theorem dX12_ways_124 : decode cX12_ways 124 = .ok (.iload 4, 2) := by decide +kernel
theorem dX12_ways_126 : decode cX12_ways 126 = .ok (.iaload, 1) := by decide +kernel
theorem dX12_ways_127 : decode cX12_ways 127 = .ok (.invokevirtual 292, 3) := by decide +kernel
theorem dX12_ways_130 : decode cX12_ways 130 = .ok (.iinc 4 1, 3) := by decide +kernel
theorem dX12_ways_133 : decode cX12_ways 133 = .ok (.goto (-59), 3) := by decide +kernel
theorem dX12_ways_136 : decode cX12_ways 136 = .ok (.iconst 0, 1) := by decide +kernel
theorem dX12_ways_137 : decode cX12_ways 137 = .ok (.istore 4, 2) := by decide +kernel
theorem dX12_ways_139 : decode cX12_ways 139 = .ok (.iconst 0, 1) := by decide +kernel
theorem dX12_ways_140 : decode cX12_ways 140 = .ok (.istore 5, 2) := by decide +kernel
theorem dX12_ways_142 : decode cX12_ways 142 = .ok (.iload 5, 2) := by decide +kernel
theorem dX12_ways_144 : decode cX12_ways 144 = .ok (.bipush 37, 2) := by decide +kernel
theorem dX12_ways_146 : decode cX12_ways 146 = .ok (.if_icmp .ge 21, 3) := by decide +kernel
theorem dX12_ways_149 : decode cX12_ways 149 = .ok (.iload 4, 2) := by decide +kernel
theorem dX12_ways_151 : decode cX12_ways 151 = .ok (.aload_n 0, 1) := by decide +kernel
theorem dX12_ways_152 : decode cX12_ways 152 = .ok (.getfield 55, 3) := by decide +kernel
theorem dX12_ways_155 : decode cX12_ways 155 = .ok (.iload 5, 2) := by decide +kernel
theorem dX12_ways_157 : decode cX12_ways 157 = .ok (.iaload, 1) := by decide +kernel
theorem dX12_ways_158 : decode cX12_ways 158 = .ok (.iadd, 1) := by decide +kernel
theorem dX12_ways_159 : decode cX12_ways 159 = .ok (.istore 4, 2) := by decide +kernel
theorem dX12_ways_161 : decode cX12_ways 161 = .ok (.iinc 5 1, 3) := by decide +kernel
theorem dX12_ways_164 : decode cX12_ways 164 = .ok (.goto (-22), 3) := by decide +kernel
theorem dX12_ways_167 : decode cX12_ways 167 = .ok (.iload_n 2, 1) := by decide +kernel
theorem dX12_ways_168 : decode cX12_ways 168 = .ok (.ifCond .ge 8, 3) := by decide +kernel
theorem dX12_ways_171 : decode cX12_ways 171 = .ok (.iload 4, 2) := by decide +kernel
theorem dX12_ways_173 : decode cX12_ways 173 = .ok (.goto 9, 3) := by decide +kernel
theorem dX12_ways_176 : decode cX12_ways 176 = .ok (.aload_n 0, 1) := by decide +kernel
theorem dX12_ways_177 : decode cX12_ways 177 = .ok (.getfield 55, 3) := by decide +kernel
theorem dX12_ways_180 : decode cX12_ways 180 = .ok (.iload_n 2, 1) := by decide +kernel
theorem dX12_ways_181 : decode cX12_ways 181 = .ok (.iaload, 1) := by decide +kernel
theorem dX12_ways_182 : decode cX12_ways 182 = .ok (.ireturn, 1) := by decide +kernel
theorem dX12_gap_0 : decode cX12_gap 0 = .ok (.iload_n 1, 1) := by decide +kernel
theorem dX12_gap_1 : decode cX12_gap 1 = .ok (.invokestatic 113, 3) := by decide +kernel
theorem dX12_gap_4 : decode cX12_gap 4 = .ok (.ifCond .eq 25, 3) := by decide +kernel
theorem dX12_gap_7 : decode cX12_gap 7 = .ok (.iload_n 2, 1) := by decide +kernel
theorem dX12_gap_8 : decode cX12_gap 8 = .ok (.i2l, 1) := by decide +kernel
theorem dX12_gap_9 : decode cX12_gap 9 = .ok (.lconst 0, 1) := by decide +kernel
theorem dX12_gap_10 : decode cX12_gap 10 = .ok (.ldc2_w 287, 3) := by decide +kernel
theorem dX12_gap_13 : decode cX12_gap 13 = .ok (.invokestatic 96, 3) := by decide +kernel
theorem dX12_gap_16 : decode cX12_gap 16 = .ok (.ifCond .eq 13, 3) := by decide +kernel
theorem dX12_gap_19 : decode cX12_gap 19 = .ok (.iload_n 3, 1) := by decide +kernel
theorem dX12_gap_20 : decode cX12_gap 20 = .ok (.i2l, 1) := by decide +kernel
theorem dX12_gap_21 : decode cX12_gap 21 = .ok (.lconst 0, 1) := by decide +kernel
theorem dX12_gap_22 : decode cX12_gap 22 = .ok (.lconst 1, 1) := by decide +kernel
theorem dX12_gap_23 : decode cX12_gap 23 = .ok (.invokestatic 96, 3) := by decide +kernel
theorem dX12_gap_26 : decode cX12_gap 26 = .ok (.ifCond .ne 5, 3) := by decide +kernel
theorem dX12_gap_29 : decode cX12_gap 29 = .ok (.iconst (-1), 1) := by decide +kernel
theorem dX12_gap_30 : decode cX12_gap 30 = .ok (.ireturn, 1) := by decide +kernel
theorem dX12_gap_31 : decode cX12_gap 31 = .ok (.aload_n 0, 1) := by decide +kernel
theorem dX12_gap_32 : decode cX12_gap 32 = .ok (.iload_n 1, 1) := by decide +kernel
theorem dX12_gap_33 : decode cX12_gap 33 = .ok (.invokevirtual 265, 3) := by decide +kernel
theorem dX12_gap_36 : decode cX12_gap 36 = .ok (.ifCond .ge 9, 3) := by decide +kernel
theorem dX12_gap_39 : decode cX12_gap 39 = .ok (.aload_n 0, 1) := by decide +kernel
theorem dX12_gap_40 : decode cX12_gap 40 = .ok (.iload_n 1, 1) := by decide +kernel
theorem dX12_gap_41 : decode cX12_gap 41 = .ok (.invokevirtual 265, 3) := by decide +kernel
theorem dX12_gap_44 : decode cX12_gap 44 = .ok (.ireturn, 1) := by decide +kernel
theorem dX12_gap_45 : decode cX12_gap 45 = .ok (.aload_n 0, 1) := by decide +kernel
theorem dX12_gap_46 : decode cX12_gap 46 = .ok (.getfield 79, 3) := by decide +kernel
theorem dX12_gap_49 : decode cX12_gap 49 = .ok (.iload_n 1, 1) := by decide +kernel
theorem dX12_gap_50 : decode cX12_gap 50 = .ok (.iaload, 1) := by decide +kernel
theorem dX12_gap_51 : decode cX12_gap 51 = .ok (.aload_n 0, 1) := by decide +kernel
theorem dX12_gap_52 : decode cX12_gap 52 = .ok (.getfield 100, 3) := by decide +kernel
theorem dX12_gap_55 : decode cX12_gap 55 = .ok (.if_icmp .lt 20, 3) := by decide +kernel
theorem dX12_gap_58 : decode cX12_gap 58 = .ok (.aload_n 0, 1) := by decide +kernel
theorem dX12_gap_59 : decode cX12_gap 59 = .ok (.iload_n 1, 1) := by decide +kernel
theorem dX12_gap_60 : decode cX12_gap 60 = .ok (.invokevirtual 268, 3) := by decide +kernel
theorem dX12_gap_63 : decode cX12_gap 63 = .ok (.ifCond .ge 12, 3) := by decide +kernel
theorem dX12_gap_66 : decode cX12_gap 66 = .ok (.aload_n 0, 1) := by decide +kernel
theorem dX12_gap_67 : decode cX12_gap 67 = .ok (.iload_n 1, 1) := by decide +kernel
theorem dX12_gap_68 : decode cX12_gap 68 = .ok (.invokevirtual 278, 3) := by decide +kernel
theorem dX12_gap_71 : decode cX12_gap 71 = .ok (.iconst 1, 1) := by decide +kernel
theorem dX12_gap_72 : decode cX12_gap 72 = .ok (.if_icmp .eq 6, 3) := by decide +kernel
theorem dX12_gap_75 : decode cX12_gap 75 = .ok (.bipush (-5), 2) := by decide +kernel
theorem dX12_gap_77 : decode cX12_gap 77 = .ok (.ireturn, 1) := by decide +kernel
theorem dX12_gap_78 : decode cX12_gap 78 = .ok (.iload_n 2, 1) := by decide +kernel
theorem dX12_gap_79 : decode cX12_gap 79 = .ok (.istore 4, 2) := by decide +kernel
theorem dX12_gap_81 : decode cX12_gap 81 = .ok (.iconst 0, 1) := by decide +kernel
theorem dX12_gap_82 : decode cX12_gap 82 = .ok (.istore 5, 2) := by decide +kernel
theorem dX12_gap_84 : decode cX12_gap 84 = .ok (.iconst 0, 1) := by decide +kernel
theorem dX12_gap_85 : decode cX12_gap 85 = .ok (.istore 6, 2) := by decide +kernel
theorem dX12_gap_87 : decode cX12_gap 87 = .ok (.iload 6, 2) := by decide +kernel
theorem dX12_gap_89 : decode cX12_gap 89 = .ok (.aload_n 0, 1) := by decide +kernel
theorem dX12_gap_90 : decode cX12_gap 90 = .ok (.getfield 100, 3) := by decide +kernel
theorem dX12_gap_93 : decode cX12_gap 93 = .ok (.if_icmp .ge 54, 3) := by decide +kernel
theorem dX12_gap_96 : decode cX12_gap 96 = .ok (.iload 4, 2) := by decide +kernel
theorem dX12_gap_98 : decode cX12_gap 98 = .ok (.aload_n 0, 1) := by decide +kernel
theorem dX12_gap_99 : decode cX12_gap 99 = .ok (.getfield 52, 3) := by decide +kernel
theorem dX12_gap_102 : decode cX12_gap 102 = .ok (.iload 6, 2) := by decide +kernel
theorem dX12_gap_104 : decode cX12_gap 104 = .ok (.iaload, 1) := by decide +kernel
theorem dX12_gap_105 : decode cX12_gap 105 = .ok (.ifCond .ge 7, 3) := by decide +kernel
theorem dX12_gap_108 : decode cX12_gap 108 = .ok (.iconst 0, 1) := by decide +kernel
theorem dX12_gap_109 : decode cX12_gap 109 = .ok (.goto 10, 3) := by decide +kernel
theorem dX12_gap_112 : decode cX12_gap 112 = .ok (.aload_n 0, 1) := by decide +kernel
theorem dX12_gap_113 : decode cX12_gap 113 = .ok (.getfield 52, 3) := by decide +kernel
theorem dX12_gap_116 : decode cX12_gap 116 = .ok (.iload 6, 2) := by decide +kernel
theorem dX12_gap_118 : decode cX12_gap 118 = .ok (.iaload, 1) := by decide +kernel
theorem dX12_gap_119 : decode cX12_gap 119 = .ok (.isub, 1) := by decide +kernel
theorem dX12_gap_120 : decode cX12_gap 120 = .ok (.istore 4, 2) := by decide +kernel
theorem dX12_gap_122 : decode cX12_gap 122 = .ok (.aload_n 0, 1) := by decide +kernel
theorem dX12_gap_123 : decode cX12_gap 123 = .ok (.getfield 52, 3) := by decide +kernel
theorem dX12_gap_126 : decode cX12_gap 126 = .ok (.iload 6, 2) := by decide +kernel
theorem dX12_gap_128 : decode cX12_gap 128 = .ok (.iaload, 1) := by decide +kernel
theorem dX12_gap_129 : decode cX12_gap 129 = .ok (.ifCond .ge 8, 3) := by decide +kernel
theorem dX12_gap_132 : decode cX12_gap 132 = .ok (.iload 6, 2) := by decide +kernel
theorem dX12_gap_134 : decode cX12_gap 134 = .ok (.goto 5, 3) := by decide +kernel
theorem dX12_gap_137 : decode cX12_gap 137 = .ok (.iload 5, 2) := by decide +kernel
theorem dX12_gap_139 : decode cX12_gap 139 = .ok (.istore 5, 2) := by decide +kernel
theorem dX12_gap_141 : decode cX12_gap 141 = .ok (.iinc 6 1, 3) := by decide +kernel
theorem dX12_gap_144 : decode cX12_gap 144 = .ok (.goto (-57), 3) := by decide +kernel
theorem dX12_gap_147 : decode cX12_gap 147 = .ok (.iload 4, 2) := by decide +kernel
theorem dX12_gap_149 : decode cX12_gap 149 = .ok (.i2l, 1) := by decide +kernel
theorem dX12_gap_150 : decode cX12_gap 150 = .ok (.lconst 0, 1) := by decide +kernel
theorem dX12_gap_151 : decode cX12_gap 151 = .ok (.iload 5, 2) := by decide +kernel
theorem dX12_gap_153 : decode cX12_gap 153 = .ok (.i2l, 1) := by decide +kernel
theorem dX12_gap_154 : decode cX12_gap 154 = .ok (.invokestatic 96, 3) := by decide +kernel
theorem dX12_gap_157 : decode cX12_gap 157 = .ok (.ifCond .ne 6, 3) := by decide +kernel
theorem dX12_gap_160 : decode cX12_gap 160 = .ok (.bipush (-2), 2) := by decide +kernel
theorem dX12_gap_162 : decode cX12_gap 162 = .ok (.ireturn, 1) := by decide +kernel
theorem dX12_gap_163 : decode cX12_gap 163 = .ok (.aload_n 0, 1) := by decide +kernel
theorem dX12_gap_164 : decode cX12_gap 164 = .ok (.getfield 52, 3) := by decide +kernel
theorem dX12_gap_167 : decode cX12_gap 167 = .ok (.iload 5, 2) := by decide +kernel
theorem dX12_gap_169 : decode cX12_gap 169 = .ok (.iload 4, 2) := by decide +kernel
theorem dX12_gap_171 : decode cX12_gap 171 = .ok (.iastore, 1) := by decide +kernel
theorem dX12_gap_172 : decode cX12_gap 172 = .ok (.aload_n 0, 1) := by decide +kernel
theorem dX12_gap_173 : decode cX12_gap 173 = .ok (.invokevirtual 281, 3) := by decide +kernel
theorem dX12_gap_176 : decode cX12_gap 176 = .ok (.iload_n 3, 1) := by decide +kernel
theorem dX12_gap_177 : decode cX12_gap 177 = .ok (.ifCond .ne 8, 3) := by decide +kernel
theorem dX12_gap_180 : decode cX12_gap 180 = .ok (.iload 4, 2) := by decide +kernel
theorem dX12_gap_182 : decode cX12_gap 182 = .ok (.goto 10, 3) := by decide +kernel
theorem dX12_gap_185 : decode cX12_gap 185 = .ok (.aload_n 0, 1) := by decide +kernel
theorem dX12_gap_186 : decode cX12_gap 186 = .ok (.getfield 34, 3) := by decide +kernel
theorem dX12_gap_189 : decode cX12_gap 189 = .ok (.iload 5, 2) := by decide +kernel
theorem dX12_gap_191 : decode cX12_gap 191 = .ok (.iaload, 1) := by decide +kernel
theorem dX12_gap_192 : decode cX12_gap 192 = .ok (.ireturn, 1) := by decide +kernel
theorem dX12_rowsOf_0 : decode cX12_rowsOf 0 = .ok (.aload_n 0, 1) := by decide +kernel
theorem dX12_rowsOf_1 : decode cX12_rowsOf 1 = .ok (.invokevirtual 289, 3) := by decide +kernel
theorem dX12_rowsOf_4 : decode cX12_rowsOf 4 = .ok (.iconst 0, 1) := by decide +kernel
theorem dX12_rowsOf_5 : decode cX12_rowsOf 5 = .ok (.istore_n 3, 1) := by decide +kernel
theorem dX12_rowsOf_6 : decode cX12_rowsOf 6 = .ok (.iload_n 3, 1) := by decide +kernel
theorem dX12_rowsOf_7 : decode cX12_rowsOf 7 = .ok (.iload_n 1, 1) := by decide +kernel
theorem dX12_rowsOf_8 : decode cX12_rowsOf 8 = .ok (.if_icmp .ge 15, 3) := by decide +kernel
theorem dX12_rowsOf_11 : decode cX12_rowsOf 11 = .ok (.aload_n 0, 1) := by decide +kernel
theorem dX12_rowsOf_12 : decode cX12_rowsOf 12 = .ok (.iconst 0, 1) := by decide +kernel
theorem dX12_rowsOf_13 : decode cX12_rowsOf 13 = .ok (.iload_n 3, 1) := by decide +kernel
theorem dX12_rowsOf_14 : decode cX12_rowsOf 14 = .ok (.invokevirtual 292, 3) := by decide +kernel
theorem dX12_rowsOf_17 : decode cX12_rowsOf 17 = .ok (.iinc 3 1, 3) := by decide +kernel
theorem dX12_rowsOf_20 : decode cX12_rowsOf 20 = .ok (.goto (-14), 3) := by decide +kernel
theorem dX12_rowsOf_23 : decode cX12_rowsOf 23 = .ok (.iload_n 2, 1) := by decide +kernel
theorem dX12_rowsOf_24 : decode cX12_rowsOf 24 = .ok (.i2l, 1) := by decide +kernel
theorem dX12_rowsOf_25 : decode cX12_rowsOf 25 = .ok (.lconst 0, 1) := by decide +kernel
theorem dX12_rowsOf_26 : decode cX12_rowsOf 26 = .ok (.ldc2_w 287, 3) := by decide +kernel
theorem dX12_rowsOf_29 : decode cX12_rowsOf 29 = .ok (.invokestatic 96, 3) := by decide +kernel
theorem dX12_rowsOf_32 : decode cX12_rowsOf 32 = .ok (.ifCond .eq 12, 3) := by decide +kernel
theorem dX12_rowsOf_35 : decode cX12_rowsOf 35 = .ok (.aload_n 0, 1) := by decide +kernel
theorem dX12_rowsOf_36 : decode cX12_rowsOf 36 = .ok (.getfield 55, 3) := by decide +kernel
theorem dX12_rowsOf_39 : decode cX12_rowsOf 39 = .ok (.iload_n 2, 1) := by decide +kernel
theorem dX12_rowsOf_40 : decode cX12_rowsOf 40 = .ok (.iaload, 1) := by decide +kernel
theorem dX12_rowsOf_41 : decode cX12_rowsOf 41 = .ok (.goto 4, 3) := by decide +kernel
theorem dX12_rowsOf_44 : decode cX12_rowsOf 44 = .ok (.iconst 0, 1) := by decide +kernel
theorem dX12_rowsOf_45 : decode cX12_rowsOf 45 = .ok (.ireturn, 1) := by decide +kernel
theorem dX12_rows_0 : decode cX12_rows 0 = .ok (.iload_n 1, 1) := by decide +kernel
theorem dX12_rows_1 : decode cX12_rows 1 = .ok (.i2l, 1) := by decide +kernel
theorem dX12_rows_2 : decode cX12_rows 2 = .ok (.lconst 0, 1) := by decide +kernel
theorem dX12_rows_3 : decode cX12_rows 3 = .ok (.ldc2_w 287, 3) := by decide +kernel
theorem dX12_rows_6 : decode cX12_rows 6 = .ok (.invokestatic 96, 3) := by decide +kernel
theorem dX12_rows_9 : decode cX12_rows 9 = .ok (.ifCond .eq 15, 3) := by decide +kernel
theorem dX12_rows_12 : decode cX12_rows 12 = .ok (.aload_n 0, 1) := by decide +kernel
theorem dX12_rows_13 : decode cX12_rows 13 = .ok (.aload_n 0, 1) := by decide +kernel
theorem dX12_rows_14 : decode cX12_rows 14 = .ok (.getfield 100, 3) := by decide +kernel
theorem dX12_rows_17 : decode cX12_rows 17 = .ok (.iload_n 1, 1) := by decide +kernel
theorem dX12_rows_18 : decode cX12_rows 18 = .ok (.invokevirtual 295, 3) := by decide +kernel
theorem dX12_rows_21 : decode cX12_rows 21 = .ok (.goto 4, 3) := by decide +kernel
theorem dX12_rows_24 : decode cX12_rows 24 = .ok (.iconst (-1), 1) := by decide +kernel
theorem dX12_rows_25 : decode cX12_rows 25 = .ok (.ireturn, 1) := by decide +kernel
theorem dX12_withSmaller_0 : decode cX12_withSmaller 0 = .ok (.iconst 0, 1) := by decide +kernel
theorem dX12_withSmaller_1 : decode cX12_withSmaller 1 = .ok (.istore_n 3, 1) := by decide +kernel
theorem dX12_withSmaller_2 : decode cX12_withSmaller 2 = .ok (.iload_n 3, 1) := by decide +kernel
theorem dX12_withSmaller_3 : decode cX12_withSmaller 3 = .ok (.aload_n 0, 1) := by decide +kernel
theorem dX12_withSmaller_4 : decode cX12_withSmaller 4 = .ok (.getfield 93, 3) := by decide +kernel
theorem dX12_withSmaller_7 : decode cX12_withSmaller 7 = .ok (.if_icmp .ge 81, 3) := by decide +kernel
theorem dX12_withSmaller_10 : decode cX12_withSmaller 10 = .ok (.iconst 0, 1) := by decide +kernel
theorem dX12_withSmaller_11 : decode cX12_withSmaller 11 = .ok (.istore 4, 2) := by decide +kernel
theorem dX12_withSmaller_13 : decode cX12_withSmaller 13 = .ok (.iconst 0, 1) := by decide +kernel
theorem dX12_withSmaller_14 : decode cX12_withSmaller 14 = .ok (.istore 5, 2) := by decide +kernel
theorem dX12_withSmaller_16 : decode cX12_withSmaller 16 = .ok (.iload 5, 2) := by decide +kernel
theorem dX12_withSmaller_18 : decode cX12_withSmaller 18 = .ok (.aload_n 0, 1) := by decide +kernel
theorem dX12_withSmaller_19 : decode cX12_withSmaller 19 = .ok (.getfield 93, 3) := by decide +kernel
theorem dX12_withSmaller_22 : decode cX12_withSmaller 22 = .ok (.if_icmp .ge 44, 3) := by decide +kernel
theorem dX12_withSmaller_25 : decode cX12_withSmaller 25 = .ok (.iload 4, 2) := by decide +kernel
theorem dX12_withSmaller_27 : decode cX12_withSmaller 27 = .ok (.iload_n 1, 1) := by decide +kernel
theorem dX12_withSmaller_28 : decode cX12_withSmaller 28 = .ok (.iload 5, 2) := by decide +kernel
theorem dX12_withSmaller_30 : decode cX12_withSmaller 30 = .ok (.invokestatic 271, 3) := by decide +kernel
theorem dX12_withSmaller_33 : decode cX12_withSmaller 33 = .ok (.ifCond .eq 23, 3) := by decide +kernel
theorem dX12_withSmaller_36 : decode cX12_withSmaller 36 = .ok (.aload_n 0, 1) := by decide +kernel
theorem dX12_withSmaller_37 : decode cX12_withSmaller 37 = .ok (.getfield 9, 3) := by decide +kernel
theorem dX12_withSmaller_40 : decode cX12_withSmaller 40 = .ok (.iload 5, 2) := by decide +kernel
theorem dX12_withSmaller_42 : decode cX12_withSmaller 42 = .ok (.iaload, 1) := by decide +kernel
theorem dX12_withSmaller_43 : decode cX12_withSmaller 43 = .ok (.aload_n 0, 1) := by decide +kernel
theorem dX12_withSmaller_44 : decode cX12_withSmaller 44 = .ok (.getfield 9, 3) := by decide +kernel
theorem dX12_withSmaller_47 : decode cX12_withSmaller 47 = .ok (.iload_n 3, 1) := by decide +kernel
theorem dX12_withSmaller_48 : decode cX12_withSmaller 48 = .ok (.iaload, 1) := by decide +kernel
theorem dX12_withSmaller_49 : decode cX12_withSmaller 49 = .ok (.if_icmp .ge 7, 3) := by decide +kernel
theorem dX12_withSmaller_52 : decode cX12_withSmaller 52 = .ok (.iconst 1, 1) := by decide +kernel
theorem dX12_withSmaller_53 : decode cX12_withSmaller 53 = .ok (.goto 4, 3) := by decide +kernel
theorem dX12_withSmaller_56 : decode cX12_withSmaller 56 = .ok (.iconst 0, 1) := by decide +kernel
theorem dX12_withSmaller_57 : decode cX12_withSmaller 57 = .ok (.iadd, 1) := by decide +kernel
theorem dX12_withSmaller_58 : decode cX12_withSmaller 58 = .ok (.istore 4, 2) := by decide +kernel
theorem dX12_withSmaller_60 : decode cX12_withSmaller 60 = .ok (.iinc 5 1, 3) := by decide +kernel
theorem dX12_withSmaller_63 : decode cX12_withSmaller 63 = .ok (.goto (-47), 3) := by decide +kernel
theorem dX12_withSmaller_66 : decode cX12_withSmaller 66 = .ok (.iload_n 1, 1) := by decide +kernel
theorem dX12_withSmaller_67 : decode cX12_withSmaller 67 = .ok (.iload_n 3, 1) := by decide +kernel
theorem dX12_withSmaller_68 : decode cX12_withSmaller 68 = .ok (.invokestatic 271, 3) := by decide +kernel
theorem dX12_withSmaller_71 : decode cX12_withSmaller 71 = .ok (.ifCond .eq 11, 3) := by decide +kernel
theorem dX12_withSmaller_74 : decode cX12_withSmaller 74 = .ok (.iload 4, 2) := by decide +kernel
theorem dX12_withSmaller_76 : decode cX12_withSmaller 76 = .ok (.iload_n 2, 1) := by decide +kernel
theorem dX12_withSmaller_77 : decode cX12_withSmaller 77 = .ok (.if_icmp .ne 5, 3) := by decide +kernel
theorem dX12_withSmaller_80 : decode cX12_withSmaller 80 = .ok (.iload_n 3, 1) := by decide +kernel
theorem dX12_withSmaller_81 : decode cX12_withSmaller 81 = .ok (.ireturn, 1) := by decide +kernel
theorem dX12_withSmaller_82 : decode cX12_withSmaller 82 = .ok (.iinc 3 1, 3) := by decide +kernel
theorem dX12_withSmaller_85 : decode cX12_withSmaller 85 = .ok (.goto (-83), 3) := by decide +kernel
theorem dX12_withSmaller_88 : decode cX12_withSmaller 88 = .ok (.iconst (-1), 1) := by decide +kernel
theorem dX12_withSmaller_89 : decode cX12_withSmaller 89 = .ok (.ireturn, 1) := by decide +kernel
theorem dX12_rth_0 : decode cX12_rth 0 = .ok (.iload_n 1, 1) := by decide +kernel
theorem dX12_rth_1 : decode cX12_rth 1 = .ok (.i2l, 1) := by decide +kernel
theorem dX12_rth_2 : decode cX12_rth 2 = .ok (.lconst 0, 1) := by decide +kernel
theorem dX12_rth_3 : decode cX12_rth 3 = .ok (.ldc2_w 287, 3) := by decide +kernel
theorem dX12_rth_6 : decode cX12_rth 6 = .ok (.invokestatic 96, 3) := by decide +kernel
theorem dX12_rth_9 : decode cX12_rth 9 = .ok (.ifCond .eq 15, 3) := by decide +kernel
theorem dX12_rth_12 : decode cX12_rth 12 = .ok (.iload_n 2, 1) := by decide +kernel
theorem dX12_rth_13 : decode cX12_rth 13 = .ok (.ifCond .lt 11, 3) := by decide +kernel
theorem dX12_rth_16 : decode cX12_rth 16 = .ok (.aload_n 0, 1) := by decide +kernel
theorem dX12_rth_17 : decode cX12_rth 17 = .ok (.iload_n 3, 1) := by decide +kernel
theorem dX12_rth_18 : decode cX12_rth 18 = .ok (.invokevirtual 239, 3) := by decide +kernel
theorem dX12_rth_21 : decode cX12_rth 21 = .ok (.ifCond .ne 5, 3) := by decide +kernel
theorem dX12_rth_24 : decode cX12_rth 24 = .ok (.iconst (-1), 1) := by decide +kernel
theorem dX12_rth_25 : decode cX12_rth 25 = .ok (.ireturn, 1) := by decide +kernel
theorem dX12_rth_26 : decode cX12_rth 26 = .ok (.iload_n 2, 1) := by decide +kernel
theorem dX12_rth_27 : decode cX12_rth 27 = .ok (.aload_n 0, 1) := by decide +kernel
theorem dX12_rth_28 : decode cX12_rth 28 = .ok (.aload_n 0, 1) := by decide +kernel
theorem dX12_rth_29 : decode cX12_rth 29 = .ok (.getfield 100, 3) := by decide +kernel
theorem dX12_rth_32 : decode cX12_rth 32 = .ok (.iload_n 1, 1) := by decide +kernel
theorem dX12_rth_33 : decode cX12_rth 33 = .ok (.invokevirtual 295, 3) := by decide +kernel
theorem dX12_rth_36 : decode cX12_rth 36 = .ok (.if_icmp .lt 6, 3) := by decide +kernel
theorem dX12_rth_39 : decode cX12_rth 39 = .ok (.bipush (-2), 2) := by decide +kernel
theorem dX12_rth_41 : decode cX12_rth 41 = .ok (.ireturn, 1) := by decide +kernel
theorem dX12_rth_42 : decode cX12_rth 42 = .ok (.iconst 0, 1) := by decide +kernel
theorem dX12_rth_43 : decode cX12_rth 43 = .ok (.istore 4, 2) := by decide +kernel
theorem dX12_rth_45 : decode cX12_rth 45 = .ok (.iconst 0, 1) := by decide +kernel
theorem dX12_rth_46 : decode cX12_rth 46 = .ok (.istore 5, 2) := by decide +kernel
theorem dX12_rth_48 : decode cX12_rth 48 = .ok (.iload 5, 2) := by decide +kernel
theorem dX12_rth_50 : decode cX12_rth 50 = .ok (.aload_n 0, 1) := by decide +kernel
theorem dX12_rth_51 : decode cX12_rth 51 = .ok (.getfield 100, 3) := by decide +kernel
theorem dX12_rth_54 : decode cX12_rth 54 = .ok (.if_icmp .ge 23, 3) := by decide +kernel
theorem dX12_rth_57 : decode cX12_rth 57 = .ok (.iload 4, 2) := by decide +kernel
theorem dX12_rth_59 : decode cX12_rth 59 = .ok (.iconst 1, 1) := by decide +kernel
theorem dX12_rth_60 : decode cX12_rth 60 = .ok (.aload_n 0, 1) := by decide +kernel
theorem dX12_rth_61 : decode cX12_rth 61 = .ok (.getfield 31, 3) := by decide +kernel
theorem dX12_rth_64 : decode cX12_rth 64 = .ok (.iload 5, 2) := by decide +kernel
theorem dX12_rth_66 : decode cX12_rth 66 = .ok (.iaload, 1) := by decide +kernel
theorem dX12_rth_67 : decode cX12_rth 67 = .ok (.ishl, 1) := by decide +kernel
theorem dX12_rth_68 : decode cX12_rth 68 = .ok (.ior, 1) := by decide +kernel
theorem dX12_rth_69 : decode cX12_rth 69 = .ok (.istore 4, 2) := by decide +kernel
theorem dX12_rth_71 : decode cX12_rth 71 = .ok (.iinc 5 1, 3) := by decide +kernel
theorem dX12_rth_74 : decode cX12_rth 74 = .ok (.goto (-26), 3) := by decide +kernel
theorem dX12_rth_77 : decode cX12_rth 77 = .ok (.iload_n 2, 1) := by decide +kernel
theorem dX12_rth_78 : decode cX12_rth 78 = .ok (.istore 5, 2) := by decide +kernel
theorem dX12_rth_80 : decode cX12_rth 80 = .ok (.iload_n 1, 1) := by decide +kernel
theorem dX12_rth_81 : decode cX12_rth 81 = .ok (.istore 6, 2) := by decide +kernel
theorem dX12_rth_83 : decode cX12_rth 83 = .ok (.iconst (-1), 1) := by decide +kernel
theorem dX12_rth_84 : decode cX12_rth 84 = .ok (.istore 7, 2) := by decide +kernel
theorem dX12_rth_86 : decode cX12_rth 86 = .ok (.iconst 0, 1) := by decide +kernel
theorem dX12_rth_87 : decode cX12_rth 87 = .ok (.istore 8, 2) := by decide +kernel
theorem dX12_rth_89 : decode cX12_rth 89 = .ok (.iload 8, 2) := by decide +kernel
theorem dX12_rth_91 : decode cX12_rth 91 = .ok (.iload_n 3, 1) := by decide +kernel
theorem dX12_rth_92 : decode cX12_rth 92 = .ok (.if_icmp .gt 92, 3) := by decide +kernel
theorem dX12_rth_95 : decode cX12_rth 95 = .ok (.iconst 0, 1) := by decide +kernel
theorem dX12_rth_96 : decode cX12_rth 96 = .ok (.istore 9, 2) := by decide +kernel
theorem dX12_rth_98 : decode cX12_rth 98 = .ok (.iload 5, 2) := by decide +kernel
theorem dX12_rth_100 : decode cX12_rth 100 = .ok (.aload_n 0, 1) := by decide +kernel
theorem dX12_rth_101 : decode cX12_rth 101 = .ok (.aload_n 0, 1) := by decide +kernel
theorem dX12_rth_102 : decode cX12_rth 102 = .ok (.getfield 100, 3) := by decide +kernel
theorem dX12_rth_105 : decode cX12_rth 105 = .ok (.iconst 1, 1) := by decide +kernel
theorem dX12_rth_106 : decode cX12_rth 106 = .ok (.isub, 1) := by decide +kernel
theorem dX12_rth_107 : decode cX12_rth 107 = .ok (.iload 8, 2) := by decide +kernel
theorem dX12_rth_109 : decode cX12_rth 109 = .ok (.isub, 1) := by decide +kernel
theorem dX12_rth_110 : decode cX12_rth 110 = .ok (.iload 6, 2) := by decide +kernel
theorem dX12_rth_112 : decode cX12_rth 112 = .ok (.iload 9, 2) := by decide +kernel
theorem dX12_rth_114 : decode cX12_rth 114 = .ok (.isub, 1) := by decide +kernel
theorem dX12_rth_115 : decode cX12_rth 115 = .ok (.invokevirtual 295, 3) := by decide +kernel
theorem dX12_rth_118 : decode cX12_rth 118 = .ok (.if_icmp .lt 32, 3) := by decide +kernel
theorem dX12_rth_121 : decode cX12_rth 121 = .ok (.iload 5, 2) := by decide +kernel
theorem dX12_rth_123 : decode cX12_rth 123 = .ok (.aload_n 0, 1) := by decide +kernel
theorem dX12_rth_124 : decode cX12_rth 124 = .ok (.aload_n 0, 1) := by decide +kernel
theorem dX12_rth_125 : decode cX12_rth 125 = .ok (.getfield 100, 3) := by decide +kernel
theorem dX12_rth_128 : decode cX12_rth 128 = .ok (.iconst 1, 1) := by decide +kernel
theorem dX12_rth_129 : decode cX12_rth 129 = .ok (.isub, 1) := by decide +kernel
theorem dX12_rth_130 : decode cX12_rth 130 = .ok (.iload 8, 2) := by decide +kernel
theorem dX12_rth_132 : decode cX12_rth 132 = .ok (.isub, 1) := by decide +kernel
theorem dX12_rth_133 : decode cX12_rth 133 = .ok (.iload 6, 2) := by decide +kernel
theorem dX12_rth_135 : decode cX12_rth 135 = .ok (.iload 9, 2) := by decide +kernel
theorem dX12_rth_137 : decode cX12_rth 137 = .ok (.isub, 1) := by decide +kernel
theorem dX12_rth_138 : decode cX12_rth 138 = .ok (.invokevirtual 295, 3) := by decide +kernel
theorem dX12_rth_141 : decode cX12_rth 141 = .ok (.isub, 1) := by decide +kernel
theorem dX12_rth_142 : decode cX12_rth 142 = .ok (.istore 5, 2) := by decide +kernel
theorem dX12_rth_144 : decode cX12_rth 144 = .ok (.iinc 9 1, 3) := by decide +kernel
theorem dX12_rth_147 : decode cX12_rth 147 = .ok (.goto (-49), 3) := by decide +kernel
theorem dX12_rth_150 : decode cX12_rth 150 = .ok (.iload 6, 2) := by decide +kernel
theorem dX12_rth_152 : decode cX12_rth 152 = .ok (.iload 9, 2) := by decide +kernel
theorem dX12_rth_154 : decode cX12_rth 154 = .ok (.isub, 1) := by decide +kernel
theorem dX12_rth_155 : decode cX12_rth 155 = .ok (.istore 6, 2) := by decide +kernel
theorem dX12_rth_157 : decode cX12_rth 157 = .ok (.aload_n 0, 1) := by decide +kernel
theorem dX12_rth_158 : decode cX12_rth 158 = .ok (.iload 4, 2) := by decide +kernel
theorem dX12_rth_160 : decode cX12_rth 160 = .ok (.iload 9, 2) := by decide +kernel
theorem dX12_rth_162 : decode cX12_rth 162 = .ok (.invokevirtual 298, 3) := by decide +kernel
theorem dX12_rth_165 : decode cX12_rth 165 = .ok (.istore 7, 2) := by decide +kernel
theorem dX12_rth_167 : decode cX12_rth 167 = .ok (.iload 4, 2) := by decide +kernel
theorem dX12_rth_169 : decode cX12_rth 169 = .ok (.iconst 1, 1) := by decide +kernel
theorem dX12_rth_170 : decode cX12_rth 170 = .ok (.iload 7, 2) := by decide +kernel
theorem dX12_rth_172 : decode cX12_rth 172 = .ok (.ishl, 1) := by decide +kernel
theorem dX12_rth_173 : decode cX12_rth 173 = .ok (.iconst (-1), 1) := by decide +kernel
theorem dX12_rth_174 : decode cX12_rth 174 = .ok (.ixor, 1) := by decide +kernel
theorem dX12_rth_175 : decode cX12_rth 175 = .ok (.iand, 1) := by decide +kernel
theorem dX12_rth_176 : decode cX12_rth 176 = .ok (.istore 4, 2) := by decide +kernel
theorem dX12_rth_178 : decode cX12_rth 178 = .ok (.iinc 8 1, 3) := by decide +kernel
theorem dX12_rth_181 : decode cX12_rth 181 = .ok (.goto (-92), 3) := by decide +kernel
theorem dX12_rth_184 : decode cX12_rth 184 = .ok (.iload 7, 2) := by decide +kernel
theorem dX12_rth_186 : decode cX12_rth 186 = .ok (.ireturn, 1) := by decide +kernel
theorem dX12_calm_0 : decode cX12_calm 0 = .ok (.iload_n 1, 1) := by decide +kernel
theorem dX12_calm_1 : decode cX12_calm 1 = .ok (.i2l, 1) := by decide +kernel
theorem dX12_calm_2 : decode cX12_calm 2 = .ok (.lconst 0, 1) := by decide +kernel
theorem dX12_calm_3 : decode cX12_calm 3 = .ok (.lconst 1, 1) := by decide +kernel
theorem dX12_calm_4 : decode cX12_calm 4 = .ok (.invokestatic 96, 3) := by decide +kernel
theorem dX12_calm_7 : decode cX12_calm 7 = .ok (.ifCond .ne 5, 3) := by decide +kernel
theorem dX12_calm_10 : decode cX12_calm 10 = .ok (.iconst (-1), 1) := by decide +kernel
theorem dX12_calm_11 : decode cX12_calm 11 = .ok (.ireturn, 1) := by decide +kernel
theorem dX12_calm_12 : decode cX12_calm 12 = .ok (.aload_n 0, 1) := by decide +kernel
theorem dX12_calm_13 : decode cX12_calm 13 = .ok (.invokevirtual 215, 3) := by decide +kernel
theorem dX12_calm_16 : decode cX12_calm 16 = .ok (.istore_n 2, 1) := by decide +kernel
theorem dX12_calm_17 : decode cX12_calm 17 = .ok (.bipush (-2), 2) := by decide +kernel
theorem dX12_calm_19 : decode cX12_calm 19 = .ok (.istore_n 3, 1) := by decide +kernel
theorem dX12_calm_20 : decode cX12_calm 20 = .ok (.iconst 0, 1) := by decide +kernel
theorem dX12_calm_21 : decode cX12_calm 21 = .ok (.istore 4, 2) := by decide +kernel
theorem dX12_calm_23 : decode cX12_calm 23 = .ok (.iload 4, 2) := by decide +kernel
theorem dX12_calm_25 : decode cX12_calm 25 = .ok (.aload_n 0, 1) := by decide +kernel
theorem dX12_calm_26 : decode cX12_calm 26 = .ok (.getfield 100, 3) := by decide +kernel
theorem dX12_calm_29 : decode cX12_calm 29 = .ok (.if_icmp .ge 84, 3) := by decide +kernel
theorem dX12_calm_32 : decode cX12_calm 32 = .ok (.iload 4, 2) := by decide +kernel
theorem dX12_calm_34 : decode cX12_calm 34 = .ok (.iconst 1, 1) := by decide +kernel
theorem dX12_calm_35 : decode cX12_calm 35 = .ok (.iadd, 1) := by decide +kernel
theorem dX12_calm_36 : decode cX12_calm 36 = .ok (.istore 5, 2) := by decide +kernel
theorem dX12_calm_38 : decode cX12_calm 38 = .ok (.iload 5, 2) := by decide +kernel
theorem dX12_calm_40 : decode cX12_calm 40 = .ok (.aload_n 0, 1) := by decide +kernel
theorem dX12_calm_41 : decode cX12_calm 41 = .ok (.getfield 100, 3) := by decide +kernel
theorem dX12_calm_44 : decode cX12_calm 44 = .ok (.if_icmp .ge 63, 3) := by decide +kernel
theorem dX12_calm_47 : decode cX12_calm 47 = .ok (.aload_n 0, 1) := by decide +kernel
theorem dX12_calm_48 : decode cX12_calm 48 = .ok (.iload 4, 2) := by decide +kernel
theorem dX12_calm_50 : decode cX12_calm 50 = .ok (.iload 5, 2) := by decide +kernel
theorem dX12_calm_52 : decode cX12_calm 52 = .ok (.invokevirtual 248, 3) := by decide +kernel
theorem dX12_calm_55 : decode cX12_calm 55 = .ok (.aload_n 0, 1) := by decide +kernel
theorem dX12_calm_56 : decode cX12_calm 56 = .ok (.invokevirtual 206, 3) := by decide +kernel
theorem dX12_calm_59 : decode cX12_calm 59 = .ok (.istore 6, 2) := by decide +kernel
theorem dX12_calm_61 : decode cX12_calm 61 = .ok (.aload_n 0, 1) := by decide +kernel
theorem dX12_calm_62 : decode cX12_calm 62 = .ok (.iload 4, 2) := by decide +kernel
theorem dX12_calm_64 : decode cX12_calm 64 = .ok (.iload 5, 2) := by decide +kernel
theorem dX12_calm_66 : decode cX12_calm 66 = .ok (.invokevirtual 248, 3) := by decide +kernel
theorem dX12_calm_69 : decode cX12_calm 69 = .ok (.iload 6, 2) := by decide +kernel
theorem dX12_calm_71 : decode cX12_calm 71 = .ok (.iload_n 2, 1) := by decide +kernel
theorem dX12_calm_72 : decode cX12_calm 72 = .ok (.if_icmp .ge 14, 3) := by decide +kernel
theorem dX12_calm_75 : decode cX12_calm 75 = .ok (.bipush 10, 2) := by decide +kernel
theorem dX12_calm_77 : decode cX12_calm 77 = .ok (.iload 4, 2) := by decide +kernel
theorem dX12_calm_79 : decode cX12_calm 79 = .ok (.imul, 1) := by decide +kernel
theorem dX12_calm_80 : decode cX12_calm 80 = .ok (.iload 5, 2) := by decide +kernel
theorem dX12_calm_82 : decode cX12_calm 82 = .ok (.iadd, 1) := by decide +kernel
theorem dX12_calm_83 : decode cX12_calm 83 = .ok (.goto 4, 3) := by decide +kernel
theorem dX12_calm_86 : decode cX12_calm 86 = .ok (.iload_n 3, 1) := by decide +kernel
theorem dX12_calm_87 : decode cX12_calm 87 = .ok (.istore_n 3, 1) := by decide +kernel
theorem dX12_calm_88 : decode cX12_calm 88 = .ok (.iload 6, 2) := by decide +kernel
theorem dX12_calm_90 : decode cX12_calm 90 = .ok (.iload_n 2, 1) := by decide +kernel
theorem dX12_calm_91 : decode cX12_calm 91 = .ok (.if_icmp .ge 8, 3) := by decide +kernel
theorem dX12_calm_94 : decode cX12_calm 94 = .ok (.iload 6, 2) := by decide +kernel
theorem dX12_calm_96 : decode cX12_calm 96 = .ok (.goto 4, 3) := by decide +kernel
theorem dX12_calm_99 : decode cX12_calm 99 = .ok (.iload_n 2, 1) := by decide +kernel
theorem dX12_calm_100 : decode cX12_calm 100 = .ok (.istore_n 2, 1) := by decide +kernel
theorem dX12_calm_101 : decode cX12_calm 101 = .ok (.iinc 5 1, 3) := by decide +kernel
theorem dX12_calm_104 : decode cX12_calm 104 = .ok (.goto (-66), 3) := by decide +kernel
theorem dX12_calm_107 : decode cX12_calm 107 = .ok (.iinc 4 1, 3) := by decide +kernel
theorem dX12_calm_110 : decode cX12_calm 110 = .ok (.goto (-87), 3) := by decide +kernel
theorem dX12_calm_113 : decode cX12_calm 113 = .ok (.iload_n 3, 1) := by decide +kernel
theorem dX12_calm_114 : decode cX12_calm 114 = .ok (.ifCond .lt 7, 3) := by decide +kernel
theorem dX12_calm_117 : decode cX12_calm 117 = .ok (.iload_n 1, 1) := by decide +kernel
theorem dX12_calm_118 : decode cX12_calm 118 = .ok (.ifCond .ne 7, 3) := by decide +kernel
theorem dX12_calm_121 : decode cX12_calm 121 = .ok (.iload_n 3, 1) := by decide +kernel
theorem dX12_calm_122 : decode cX12_calm 122 = .ok (.goto 4, 3) := by decide +kernel
theorem dX12_calm_125 : decode cX12_calm 125 = .ok (.iload_n 2, 1) := by decide +kernel
theorem dX12_calm_126 : decode cX12_calm 126 = .ok (.ireturn, 1) := by decide +kernel
theorem fl_X12_55 : Cond.fieldLink RX12 55 (TX12 30).1 (TX12 30).2.1 (TX12 30).2.2.1 ∈ wsL_law := (uw8 _ (List.mem_of_getElem? (i := 13) rfl))
theorem fl_X12_58 : Cond.fieldLink RX12 58 (TX12 31).1 (TX12 31).2.1 (TX12 31).2.2.1 ∈ wsL_law := (uw8 _ (List.mem_of_getElem? (i := 14) rfl))
theorem hy_X12_addsPlace : Cond.code yX12_addsPlace cX12_addsPlace 5 none ∈ wsL_law ∧ Cond.initialized yX12_addsPlace.cls ∈ wsL_law ∧ Cond.instanceMethod yX12_addsPlace ∈ wsL_law ∧ Cond.selects yX12_addsPlace.cls yX12_addsPlace yX12_addsPlace ∈ wsL_law := ⟨(uw38 _ (List.mem_of_getElem? (i := 22) rfl)), (uw1 _ (List.mem_of_getElem? (i := 5) rfl)), (uw38 _ (List.mem_of_getElem? (i := 20) rfl)), (uw38 _ (List.mem_of_getElem? (i := 21) rfl))⟩
theorem hd_X12_addsPlace : yX12_addsPlace.cls ≠ "java/lang/invoke/MethodHandle" ∧ yX12_addsPlace.cls ≠ "java/lang/invoke/VarHandle" ∧ (parseMethodDescriptor yX12_addsPlace.desc).map (fun d => d.parameters.length) = some 2 := ⟨by decide +kernel, by decide +kernel, by decide +kernel⟩
theorem hy_X12_noWays : Cond.code yX12_noWays cX12_noWays 2 none ∈ wsL_law ∧ Cond.initialized yX12_noWays.cls ∈ wsL_law ∧ Cond.instanceMethod yX12_noWays ∈ wsL_law ∧ Cond.selects yX12_noWays.cls yX12_noWays yX12_noWays ∈ wsL_law := ⟨(uw38 _ (List.mem_of_getElem? (i := 18) rfl)), (uw1 _ (List.mem_of_getElem? (i := 5) rfl)), (uw38 _ (List.mem_of_getElem? (i := 16) rfl)), (uw38 _ (List.mem_of_getElem? (i := 17) rfl))⟩
theorem hd_X12_noWays : yX12_noWays.cls ≠ "java/lang/invoke/MethodHandle" ∧ yX12_noWays.cls ≠ "java/lang/invoke/VarHandle" ∧ (parseMethodDescriptor yX12_noWays.desc).map (fun d => d.parameters.length) = some 0 := ⟨by decide +kernel, by decide +kernel, by decide +kernel⟩
theorem hy_X12_restoredIs : Cond.code yX12_restoredIs cX12_restoredIs 2 (some .int) ∈ wsL_law ∧ Cond.initialized yX12_restoredIs.cls ∈ wsL_law ∧ Cond.instanceMethod yX12_restoredIs ∈ wsL_law ∧ Cond.selects yX12_restoredIs.cls yX12_restoredIs yX12_restoredIs ∈ wsL_law := ⟨(uw34 _ (List.mem_of_getElem? (i := 5) rfl)), (uw1 _ (List.mem_of_getElem? (i := 5) rfl)), (uw34 _ (List.mem_of_getElem? (i := 3) rfl)), (uw34 _ (List.mem_of_getElem? (i := 4) rfl))⟩
theorem hd_X12_restoredIs : yX12_restoredIs.cls ≠ "java/lang/invoke/MethodHandle" ∧ yX12_restoredIs.cls ≠ "java/lang/invoke/VarHandle" ∧ (parseMethodDescriptor yX12_restoredIs.desc).map (fun d => d.parameters.length) = some 1 := ⟨by decide +kernel, by decide +kernel, by decide +kernel⟩
theorem hy_X12_rowsOf : Cond.code yX12_rowsOf cX12_rowsOf 4 (some .int) ∈ wsL_law ∧ Cond.initialized yX12_rowsOf.cls ∈ wsL_law ∧ Cond.instanceMethod yX12_rowsOf ∈ wsL_law ∧ Cond.selects yX12_rowsOf.cls yX12_rowsOf yX12_rowsOf ∈ wsL_law := ⟨(uw40 _ (List.mem_of_getElem? (i := 9) rfl)), (uw1 _ (List.mem_of_getElem? (i := 5) rfl)), (uw40 _ (List.mem_of_getElem? (i := 7) rfl)), (uw40 _ (List.mem_of_getElem? (i := 8) rfl))⟩
theorem hd_X12_rowsOf : yX12_rowsOf.cls ≠ "java/lang/invoke/MethodHandle" ∧ yX12_rowsOf.cls ≠ "java/lang/invoke/VarHandle" ∧ (parseMethodDescriptor yX12_rowsOf.desc).map (fun d => d.parameters.length) = some 2 := ⟨by decide +kernel, by decide +kernel, by decide +kernel⟩
theorem hy_X12_withSmaller : Cond.code yX12_withSmaller cX12_withSmaller 6 (some .int) ∈ wsL_law ∧ Cond.initialized yX12_withSmaller.cls ∈ wsL_law ∧ Cond.instanceMethod yX12_withSmaller ∈ wsL_law ∧ Cond.selects yX12_withSmaller.cls yX12_withSmaller yX12_withSmaller ∈ wsL_law := ⟨(uw41 _ (List.mem_of_getElem? (i := 2) rfl)), (uw1 _ (List.mem_of_getElem? (i := 5) rfl)), (uw41 _ (List.mem_of_getElem? (i := 0) rfl)), (uw41 _ (List.mem_of_getElem? (i := 1) rfl))⟩
theorem hd_X12_withSmaller : yX12_withSmaller.cls ≠ "java/lang/invoke/MethodHandle" ∧ yX12_withSmaller.cls ≠ "java/lang/invoke/VarHandle" ∧ (parseMethodDescriptor yX12_withSmaller.desc).map (fun d => d.parameters.length) = some 2 := ⟨by decide +kernel, by decide +kernel, by decide +kernel⟩
theorem ml_X12_284 : Cond.methodLink RX12 284 yX12_restoredIs ∈ wsL_law := (uw34 _ (List.mem_of_getElem? (i := 2) rfl))
theorem ml_X12_289 : Cond.methodLink RX12 289 yX12_noWays ∈ wsL_law := (uw38 _ (List.mem_of_getElem? (i := 15) rfl))
theorem ml_X12_292 : Cond.methodLink RX12 292 yX12_addsPlace ∈ wsL_law := (uw38 _ (List.mem_of_getElem? (i := 19) rfl))
theorem ml_X12_295 : Cond.methodLink RX12 295 yX12_rowsOf ∈ wsL_law := (uw40 _ (List.mem_of_getElem? (i := 6) rfl))
theorem ml_X12_298 : Cond.methodLink RX12 298 yX12_withSmaller ∈ wsL_law := (uw40 _ (List.mem_of_getElem? (i := 23) rfl))
abbrev w_M_restored (G : zG) (a_this : Nat) (a_height : Nat) (a_changeAt : Nat) (a_changeWas : Nat) (a_changeIs : Nat) (a_tape : Nat) (a_text : Nat) (a_names : Nat) (a_line : Nat) (a_row : Nat) (a_pastMany : Nat) (a_past : Nat) (a_changed : Nat) (a_greatest : Nat) (a_numbersWere : Nat) (a_told : Nat) (a_waysOf : Nat) (a_waysWere : Nat) (a_blocks : Nat) (a_ordersOf : Nat) (a_imageLine : Nat) (a_bodyKind : Nat) (a_trace : Nat) (a_shelf : Nat) (a_many : Nat) (a_items : Nat) (a_carried : Nat) (people : Int32) (keptMany : Int32) (done : Int32) (tapeMany : Int32) (textMany : Int32) (base : Int32) (at_ : Int32) (ends : Int32) (fault : Int32) (opened : Int32) (lineMany : Int32) (rowMany : Int32) (taller : Int32) (tallerBy : Int32) (pasts : Int32) (isKept : Int32) (imageMany : Int32) (bodies : Int32) (ran : Int32) (ownKind : Int32) (ownNumber : Int32) (height : Nat → Int32) (line : Nat → Int32) (row : Nat → Int32) (told : Nat → Int32) (shelf : Nat → Int32) (many : Nat → Int32) (items : Nat → Int64) : va_W := [(a_this, cO 12 [.int people, .ref a_height, .ref a_changeAt, .ref a_changeWas, .ref a_changeIs, .int keptMany, .int done, .ref a_tape, .int tapeMany, .ref a_text, .int textMany, .int base, .int at_, .int ends, .int fault, .int opened, .ref a_names, .ref a_line, .int lineMany, .ref a_row, .int rowMany, .int taller, .int tallerBy, .ref a_pastMany, .ref a_past, .int pasts, .ref a_changed, .ref a_greatest, .ref a_numbersWere, .ref a_told, .ref a_waysOf, .ref a_waysWere, .ref a_blocks, .ref a_ordersOf, .int isKept, .int imageMany, .ref a_imageLine, .int bodies, .ref a_bodyKind, .ref a_trace, .int ran, .int ownKind, .int ownNumber, .ref a_shelf, .ref a_many, .ref a_items, .ref a_carried]), (a_height, cI G 9 height), (a_line, cI G 9 line), (a_row, cI G 9 row), (a_told, cI G 9 told), (a_shelf, cI G 6 shelf), (a_many, cI G 6 many), (a_items, cJ G 360 items)]
def f_M_restored (people : Int32) (lineMany : Int32) (rowMany : Int32) (taller : Int32) (height : Nat → Int32) (line : Nat → Int32) (row : Nat → Int32) (told : Nat → Int32) (shelf : Nat → Int32) (many : Nat → Int32) (items : Nat → Int64) (x1 : Int32) (x2 : Int32) : Option (Int32 × Int32 × Int32 × (Nat → Int32) × (Nat → Int32)) := (zb1 (f_M_bookIs shelf x1) fun r_1 => (if r_1 = (-1) then (some ((-1), rowMany, taller, row, told)) else (if (f_M_isPlace lineMany x2) = 0 then (some ((-1), rowMany, taller, row, told)) else (zb5 (f_M_restoredIs people lineMany rowMany taller height line row told shelf many items x1) fun r_4 rowMany_5 taller_6 row_7 told_8 => (if (0 : Int32) ≤ r_4 then (zg row_7 9 x2 fun v_10 => (some (v_10, rowMany_5, taller_6, row_7, told_8))) else (some (r_4, rowMany_5, taller_6, row_7, told_8)))))))
set_option maxRecDepth 100000 in
set_option maxHeartbeats 4000000 in
theorem c_M_restored (l : Launch) (G : zG) (a_this : Nat) (a_height : Nat) (a_changeAt : Nat) (a_changeWas : Nat) (a_changeIs : Nat) (a_tape : Nat) (a_text : Nat) (a_names : Nat) (a_line : Nat) (a_row : Nat) (a_pastMany : Nat) (a_past : Nat) (a_changed : Nat) (a_greatest : Nat) (a_numbersWere : Nat) (a_told : Nat) (a_waysOf : Nat) (a_waysWere : Nat) (a_blocks : Nat) (a_ordersOf : Nat) (a_imageLine : Nat) (a_bodyKind : Nat) (a_trace : Nat) (a_shelf : Nat) (a_many : Nat) (a_items : Nat) (a_carried : Nat) (people : Int32) (keptMany : Int32) (done : Int32) (tapeMany : Int32) (textMany : Int32) (base : Int32) (at_ : Int32) (ends : Int32) (fault : Int32) (opened : Int32) (lineMany : Int32) (rowMany : Int32) (taller : Int32) (tallerBy : Int32) (pasts : Int32) (isKept : Int32) (imageMany : Int32) (bodies : Int32) (ran : Int32) (ownKind : Int32) (ownNumber : Int32) (height : Nat → Int32) (line : Nat → Int32) (row : Nat → Int32) (told : Nat → Int32) (shelf : Nat → Int32) (many : Nat → Int32) (items : Nat → Int64) (x1 : Int32) (x2 : Int32) (r_ : Int32) (o_rowMany : Int32) (o_taller : Int32) (o_row : Nat → Int32) (o_told : Nat → Int32) (hf : f_M_restored people lineMany rowMany taller height line row told shelf many items x1 x2 = some (r_, o_rowMany, o_taller, o_row, o_told)) : zM l yX12_restored cX12_restored 4 (some .int) 4 90 G [.ref a_this, .int x1, .int x2] (w_M_restored G a_this a_height a_changeAt a_changeWas a_changeIs a_tape a_text a_names a_line a_row a_pastMany a_past a_changed a_greatest a_numbersWere a_told a_waysOf a_waysWere a_blocks a_ordersOf a_imageLine a_bodyKind a_trace a_shelf a_many a_items a_carried people keptMany done tapeMany textMany base at_ ends fault opened lineMany rowMany taller tallerBy pasts isKept imageMany bodies ran ownKind ownNumber height line row told shelf many items) (some (.int r_)) (w_M_restored G a_this a_height a_changeAt a_changeWas a_changeIs a_tape a_text a_names a_line a_row a_pastMany a_past a_changed a_greatest a_numbersWere a_told a_waysOf a_waysWere a_blocks a_ordersOf a_imageLine a_bodyKind a_trace a_shelf a_many a_items a_carried people keptMany done tapeMany textMany base at_ ends fault opened lineMany o_rowMany o_taller tallerBy pasts isKept imageMany bodies ran ownKind ownNumber height line o_row o_told shelf many items) := by
  refine zM.of [(0, .ref a_this), (1, .int x1), (2, .int x2)] (own := RX12) rfl (by decide +kernel) (Nat.le_of_ble_eq_true rfl) rfl rfl fun X hX F => ?_
  subst hX
  replace hf := (f_M_restored.eq_1 ..).symm.trans hf
  refine z_aload_n F 0 dX12_restored_0 rfl rfl ?_
  refine z_iload_n F 1 dX12_restored_1 rfl rfl ?_
  obtain ⟨r_1, hg, hf⟩ := zb1_some hf
  refine z_callVm (rest := []) F 12 (c_M_bookIs (xL X) G a_this a_height a_changeAt a_changeWas a_changeIs a_tape a_text a_names a_line a_row a_pastMany a_past a_changed a_greatest a_numbersWere a_told a_waysOf a_waysWere a_blocks a_ordersOf a_imageLine a_bodyKind a_trace a_shelf a_many a_items a_carried people keptMany done tapeMany textMany base at_ ends fault opened lineMany rowMany taller tallerBy pasts isKept imageMany bodies ran ownKind ownNumber shelf x1 r_1 hg) hy_X12_bookIs ml_X12_265 hd_X12_bookIs ⟨by omega, by omega⟩ rfl [0, 5] rfl rfl 0 rfl rfl (w_M_restored G a_this a_height a_changeAt a_changeWas a_changeIs a_tape a_text a_names a_line a_row a_pastMany a_past a_changed a_greatest a_numbersWere a_told a_waysOf a_waysWere a_blocks a_ordersOf a_imageLine a_bodyKind a_trace a_shelf a_many a_items a_carried people keptMany done tapeMany textMany base at_ ends fault opened lineMany rowMany taller tallerBy pasts isKept imageMany bodies ran ownKind ownNumber height line row told shelf many items) [some 0, none, none, none, none, some 1, none, none] rfl (by decide +kernel) rfl rfl (Nat.le_of_ble_eq_true rfl) dX12_restored_2 (fun hz_2 => ?_)
  refine z_iconst F (-1) dX12_restored_5 rfl ?_
  refine z_icmp_eq F 17 dX12_restored_6 (by decide) hf (fun hf _ => ?_) (fun hf _ => ?_)
  · refine z_iconst F (-1) dX12_restored_17 rfl ?_
    have eq1 := Option.some.inj hf
    obtain ⟨ee1, eq2⟩ := Prod.mk.inj eq1
    obtain ⟨ee2, eq3⟩ := Prod.mk.inj eq2
    obtain ⟨ee3, eq4⟩ := Prod.mk.inj eq3
    obtain ⟨ee4, ee5⟩ := Prod.mk.inj eq4
    subst ee1
    subst ee2
    subst ee3
    subst ee4
    subst ee5
    exact z_iret F rfl rfl rfl rfl dX12_restored_18
  · refine z_aload_n F 0 dX12_restored_9 rfl rfl ?_
    refine z_iload_n F 2 dX12_restored_10 rfl rfl ?_
    refine z_callVm (rest := []) F 12 (c_M_isPlace (xL X) G a_this a_height a_changeAt a_changeWas a_changeIs a_tape a_text a_names a_line a_row a_pastMany a_past a_changed a_greatest a_numbersWere a_told a_waysOf a_waysWere a_blocks a_ordersOf a_imageLine a_bodyKind a_trace a_shelf a_many a_items a_carried people keptMany done tapeMany textMany base at_ ends fault opened lineMany rowMany taller tallerBy pasts isKept imageMany bodies ran ownKind ownNumber x2 _ rfl) hy_X12_isPlace ml_X12_239 hd_X12_isPlace ⟨by omega, by omega⟩ rfl [0] rfl rfl 0 rfl rfl (w_M_restored G a_this a_height a_changeAt a_changeWas a_changeIs a_tape a_text a_names a_line a_row a_pastMany a_past a_changed a_greatest a_numbersWere a_told a_waysOf a_waysWere a_blocks a_ordersOf a_imageLine a_bodyKind a_trace a_shelf a_many a_items a_carried people keptMany done tapeMany textMany base at_ ends fault opened lineMany rowMany taller tallerBy pasts isKept imageMany bodies ran ownKind ownNumber height line row told shelf many items) [some 0, none, none, none, none, none, none, none] rfl (by decide +kernel) rfl rfl (Nat.le_of_ble_eq_true rfl) dX12_restored_11 (fun hz_3 => ?_)
    refine z_if_ne F 19 dX12_restored_14 (by decide) hf (fun hf _ => ?_) (fun hf _ => ?_)
    · refine z_aload_n F 0 dX12_restored_19 rfl rfl ?_
      refine z_iload_n F 1 dX12_restored_20 rfl rfl ?_
      obtain ⟨r_4, rowMany_5, taller_6, row_7, told_8, hg, hf⟩ := zb5_some hf
      refine z_callVm (rest := []) F 12 (c_M_restoredIs (xL X) G a_this a_height a_changeAt a_changeWas a_changeIs a_tape a_text a_names a_line a_row a_pastMany a_past a_changed a_greatest a_numbersWere a_told a_waysOf a_waysWere a_blocks a_ordersOf a_imageLine a_bodyKind a_trace a_shelf a_many a_items a_carried people keptMany done tapeMany textMany base at_ ends fault opened lineMany rowMany taller tallerBy pasts isKept imageMany bodies ran ownKind ownNumber height line row told shelf many items x1 r_4 rowMany_5 taller_6 row_7 told_8 hg) hy_X12_restoredIs ml_X12_284 hd_X12_restoredIs ⟨by omega, by omega⟩ rfl [0, 1, 2, 3, 4, 5, 6, 7] rfl rfl 0 rfl rfl (w_M_restored G a_this a_height a_changeAt a_changeWas a_changeIs a_tape a_text a_names a_line a_row a_pastMany a_past a_changed a_greatest a_numbersWere a_told a_waysOf a_waysWere a_blocks a_ordersOf a_imageLine a_bodyKind a_trace a_shelf a_many a_items a_carried people keptMany done tapeMany textMany base at_ ends fault opened lineMany rowMany_5 taller_6 tallerBy pasts isKept imageMany bodies ran ownKind ownNumber height line row_7 told_8 shelf many items) [some 0, some 1, some 2, some 3, some 4, some 5, some 6, some 7] rfl (by decide +kernel) rfl rfl (Nat.le_of_ble_eq_true rfl) dX12_restored_21 (fun hz_9 => ?_)
      refine z_istore_n F [(3, .int r_4), (0, .ref a_this), (1, .int x1), (2, .int x2)] dX12_restored_24 rfl (by decide) rfl ?_
      refine z_iload_n F 0 dX12_restored_25 rfl rfl ?_
      refine z_if_ge F 33 dX12_restored_26 (by decide) hf (fun hf _ => ?_) (fun hf _ => ?_)
      · refine z_aload_n F 1 dX12_restored_33 rfl rfl ?_
        refine z_get F 0 12 19 inlX12 rfl rfl (by decide) fl_X12_34 rfl dX12_restored_34 ?_
        refine z_iload_n F 3 dX12_restored_37 rfl rfl ?_
        refine z_iald F 3 rfl hf dX12_restored_38 (fun v_10 hf => ?_)
        have eq1 := Option.some.inj hf
        obtain ⟨ee1, eq2⟩ := Prod.mk.inj eq1
        obtain ⟨ee2, eq3⟩ := Prod.mk.inj eq2
        obtain ⟨ee3, eq4⟩ := Prod.mk.inj eq3
        obtain ⟨ee4, ee5⟩ := Prod.mk.inj eq4
        subst ee1
        subst ee2
        subst ee3
        subst ee4
        subst ee5
        exact z_iret F rfl rfl rfl rfl dX12_restored_39
      · refine z_iload_n F 0 dX12_restored_29 rfl rfl ?_
        refine z_goto F 39 dX12_restored_30 (by decide) ?_
        have eq1 := Option.some.inj hf
        obtain ⟨ee1, eq2⟩ := Prod.mk.inj eq1
        obtain ⟨ee2, eq3⟩ := Prod.mk.inj eq2
        obtain ⟨ee3, eq4⟩ := Prod.mk.inj eq3
        obtain ⟨ee4, ee5⟩ := Prod.mk.inj eq4
        subst ee1
        subst ee2
        subst ee3
        subst ee4
        subst ee5
        exact z_iret F rfl rfl rfl rfl dX12_restored_39
    · refine z_iconst F (-1) dX12_restored_17 rfl ?_
      have eq1 := Option.some.inj hf
      obtain ⟨ee1, eq2⟩ := Prod.mk.inj eq1
      obtain ⟨ee2, eq3⟩ := Prod.mk.inj eq2
      obtain ⟨ee3, eq4⟩ := Prod.mk.inj eq3
      obtain ⟨ee4, ee5⟩ := Prod.mk.inj eq4
      subst ee1
      subst ee2
      subst ee3
      subst ee4
      subst ee5
      exact z_iret F rfl rfl rfl rfl dX12_restored_18

abbrev w_M_restore (G : zG) (a_this : Nat) (a_height : Nat) (a_changeAt : Nat) (a_changeWas : Nat) (a_changeIs : Nat) (a_tape : Nat) (a_text : Nat) (a_names : Nat) (a_line : Nat) (a_row : Nat) (a_pastMany : Nat) (a_past : Nat) (a_changed : Nat) (a_greatest : Nat) (a_numbersWere : Nat) (a_told : Nat) (a_waysOf : Nat) (a_waysWere : Nat) (a_blocks : Nat) (a_ordersOf : Nat) (a_imageLine : Nat) (a_bodyKind : Nat) (a_trace : Nat) (a_shelf : Nat) (a_many : Nat) (a_items : Nat) (a_carried : Nat) (people : Int32) (keptMany : Int32) (done : Int32) (tapeMany : Int32) (textMany : Int32) (base : Int32) (at_ : Int32) (ends : Int32) (fault : Int32) (opened : Int32) (lineMany : Int32) (rowMany : Int32) (taller : Int32) (tallerBy : Int32) (pasts : Int32) (isKept : Int32) (imageMany : Int32) (bodies : Int32) (ran : Int32) (ownKind : Int32) (ownNumber : Int32) (height : Nat → Int32) (tape : Nat → Int32) (text : Nat → Int32) (names : Nat → Int32) (line : Nat → Int32) (row : Nat → Int32) (pastMany : Nat → Int32) (past : Nat → Int32) (changed : Nat → Int32) (greatest : Nat → Int32) (numbersWere : Nat → Int32) (told : Nat → Int32) (shelf : Nat → Int32) (many : Nat → Int32) (items : Nat → Int64) : va_W := [(a_this, cO 12 [.int people, .ref a_height, .ref a_changeAt, .ref a_changeWas, .ref a_changeIs, .int keptMany, .int done, .ref a_tape, .int tapeMany, .ref a_text, .int textMany, .int base, .int at_, .int ends, .int fault, .int opened, .ref a_names, .ref a_line, .int lineMany, .ref a_row, .int rowMany, .int taller, .int tallerBy, .ref a_pastMany, .ref a_past, .int pasts, .ref a_changed, .ref a_greatest, .ref a_numbersWere, .ref a_told, .ref a_waysOf, .ref a_waysWere, .ref a_blocks, .ref a_ordersOf, .int isKept, .int imageMany, .ref a_imageLine, .int bodies, .ref a_bodyKind, .ref a_trace, .int ran, .int ownKind, .int ownNumber, .ref a_shelf, .ref a_many, .ref a_items, .ref a_carried]), (a_height, cI G 9 height), (a_tape, cI G 120 tape), (a_text, cI G 120 text), (a_names, cI G 5 names), (a_line, cI G 9 line), (a_row, cI G 9 row), (a_pastMany, cI G 12 pastMany), (a_past, cI G 108 past), (a_changed, cI G 9 changed), (a_greatest, cI G 9 greatest), (a_numbersWere, cI G 9 numbersWere), (a_told, cI G 9 told), (a_shelf, cI G 6 shelf), (a_many, cI G 6 many), (a_items, cJ G 360 items)]
def f_M_restore (people : Int32) (textMany : Int32) (base : Int32) (at_ : Int32) (ends : Int32) (fault : Int32) (opened : Int32) (lineMany : Int32) (rowMany : Int32) (taller : Int32) (tallerBy : Int32) (pasts : Int32) (height : Nat → Int32) (tape : Nat → Int32) (text : Nat → Int32) (names : Nat → Int32) (line : Nat → Int32) (row : Nat → Int32) (pastMany : Nat → Int32) (past : Nat → Int32) (changed : Nat → Int32) (greatest : Nat → Int32) (numbersWere : Nat → Int32) (told : Nat → Int32) (shelf : Nat → Int32) (many : Nat → Int32) (items : Nat → Int64) (x1 : Int32) : Option (Int32 × Int32 × Int32 × Int32 × Int32 × Int32 × Int32 × Int32 × Int32 × Int32 × (Nat → Int32) × (Nat → Int32) × (Nat → Int32) × (Nat → Int32) × (Nat → Int32) × (Nat → Int32) × (Nat → Int32) × (Nat → Int32) × (Nat → Int32)) := (zb5 (f_M_restoredIs people lineMany rowMany taller height line row told shelf many items x1) fun r_1 rowMany_2 taller_3 row_4 told_5 => (if (0 : Int32) ≤ r_1 then (zb13 (f_M_begins1 people textMany base at_ ends fault opened lineMany rowMany_2 taller_3 tallerBy pasts height tape text names line row_4 pastMany past numbersWere) fun base_7 at__8 ends_9 fault_10 opened_11 rowMany_12 taller_13 pasts_14 names_15 row_16 pastMany_17 past_18 numbersWere_19 => (zb3 (f_M_restores people lineMany rowMany_12 taller_13 height line row_16 told_5) fun rowMany_21 taller_22 row_23 => (zb10 (f_M_ends1 textMany base_7 at__8 ends_9 fault_10 opened_11 lineMany rowMany_21 taller_22 tallerBy height tape text names_15 line row_23 changed greatest numbersWere_19) fun base_25 at__26 ends_27 fault_28 opened_29 lineMany_30 names_31 line_32 changed_33 greatest_34 => (some (1, base_25, at__26, ends_27, fault_28, opened_29, lineMany_30, rowMany_21, taller_22, pasts_14, names_31, line_32, row_23, pastMany_17, past_18, changed_33, greatest_34, numbersWere_19, told_5))))) else (some (r_1, base, at_, ends, fault, opened, lineMany, rowMany_2, taller_3, pasts, names, line, row_4, pastMany, past, changed, greatest, numbersWere, told_5))))
set_option maxRecDepth 100000 in
set_option maxHeartbeats 4000000 in
theorem c_M_restore (l : Launch) (G : zG) (a_this : Nat) (a_height : Nat) (a_changeAt : Nat) (a_changeWas : Nat) (a_changeIs : Nat) (a_tape : Nat) (a_text : Nat) (a_names : Nat) (a_line : Nat) (a_row : Nat) (a_pastMany : Nat) (a_past : Nat) (a_changed : Nat) (a_greatest : Nat) (a_numbersWere : Nat) (a_told : Nat) (a_waysOf : Nat) (a_waysWere : Nat) (a_blocks : Nat) (a_ordersOf : Nat) (a_imageLine : Nat) (a_bodyKind : Nat) (a_trace : Nat) (a_shelf : Nat) (a_many : Nat) (a_items : Nat) (a_carried : Nat) (people : Int32) (keptMany : Int32) (done : Int32) (tapeMany : Int32) (textMany : Int32) (base : Int32) (at_ : Int32) (ends : Int32) (fault : Int32) (opened : Int32) (lineMany : Int32) (rowMany : Int32) (taller : Int32) (tallerBy : Int32) (pasts : Int32) (isKept : Int32) (imageMany : Int32) (bodies : Int32) (ran : Int32) (ownKind : Int32) (ownNumber : Int32) (height : Nat → Int32) (tape : Nat → Int32) (text : Nat → Int32) (names : Nat → Int32) (line : Nat → Int32) (row : Nat → Int32) (pastMany : Nat → Int32) (past : Nat → Int32) (changed : Nat → Int32) (greatest : Nat → Int32) (numbersWere : Nat → Int32) (told : Nat → Int32) (shelf : Nat → Int32) (many : Nat → Int32) (items : Nat → Int64) (x1 : Int32) (r_ : Int32) (o_base : Int32) (o_at_ : Int32) (o_ends : Int32) (o_fault : Int32) (o_opened : Int32) (o_lineMany : Int32) (o_rowMany : Int32) (o_taller : Int32) (o_pasts : Int32) (o_names : Nat → Int32) (o_line : Nat → Int32) (o_row : Nat → Int32) (o_pastMany : Nat → Int32) (o_past : Nat → Int32) (o_changed : Nat → Int32) (o_greatest : Nat → Int32) (o_numbersWere : Nat → Int32) (o_told : Nat → Int32) (hf : f_M_restore people textMany base at_ ends fault opened lineMany rowMany taller tallerBy pasts height tape text names line row pastMany past changed greatest numbersWere told shelf many items x1 = some (r_, o_base, o_at_, o_ends, o_fault, o_opened, o_lineMany, o_rowMany, o_taller, o_pasts, o_names, o_line, o_row, o_pastMany, o_past, o_changed, o_greatest, o_numbersWere, o_told)) : zM l yX12_restore cX12_restore 3 (some .int) 154 3576 G [.ref a_this, .int x1] (w_M_restore G a_this a_height a_changeAt a_changeWas a_changeIs a_tape a_text a_names a_line a_row a_pastMany a_past a_changed a_greatest a_numbersWere a_told a_waysOf a_waysWere a_blocks a_ordersOf a_imageLine a_bodyKind a_trace a_shelf a_many a_items a_carried people keptMany done tapeMany textMany base at_ ends fault opened lineMany rowMany taller tallerBy pasts isKept imageMany bodies ran ownKind ownNumber height tape text names line row pastMany past changed greatest numbersWere told shelf many items) (some (.int r_)) (w_M_restore G a_this a_height a_changeAt a_changeWas a_changeIs a_tape a_text a_names a_line a_row a_pastMany a_past a_changed a_greatest a_numbersWere a_told a_waysOf a_waysWere a_blocks a_ordersOf a_imageLine a_bodyKind a_trace a_shelf a_many a_items a_carried people keptMany done tapeMany textMany o_base o_at_ o_ends o_fault o_opened o_lineMany o_rowMany o_taller tallerBy o_pasts isKept imageMany bodies ran ownKind ownNumber height tape text o_names o_line o_row o_pastMany o_past o_changed o_greatest o_numbersWere o_told shelf many items) := by
  refine zM.of [(0, .ref a_this), (1, .int x1)] (own := RX12) rfl (by decide +kernel) (Nat.le_of_ble_eq_true rfl) rfl rfl fun X hX F => ?_
  subst hX
  replace hf := (f_M_restore.eq_1 ..).symm.trans hf
  refine z_aload_n F 0 dX12_restore_0 rfl rfl ?_
  refine z_iload_n F 1 dX12_restore_1 rfl rfl ?_
  obtain ⟨r_1, rowMany_2, taller_3, row_4, told_5, hg, hf⟩ := zb5_some hf
  refine z_callVm (rest := []) F 12 (c_M_restoredIs (xL X) G a_this a_height a_changeAt a_changeWas a_changeIs a_tape a_text a_names a_line a_row a_pastMany a_past a_changed a_greatest a_numbersWere a_told a_waysOf a_waysWere a_blocks a_ordersOf a_imageLine a_bodyKind a_trace a_shelf a_many a_items a_carried people keptMany done tapeMany textMany base at_ ends fault opened lineMany rowMany taller tallerBy pasts isKept imageMany bodies ran ownKind ownNumber height line row told shelf many items x1 r_1 rowMany_2 taller_3 row_4 told_5 hg) hy_X12_restoredIs ml_X12_284 hd_X12_restoredIs ⟨by omega, by omega⟩ rfl [0, 1, 5, 6, 12, 13, 14, 15] rfl rfl 0 rfl rfl (w_M_restore G a_this a_height a_changeAt a_changeWas a_changeIs a_tape a_text a_names a_line a_row a_pastMany a_past a_changed a_greatest a_numbersWere a_told a_waysOf a_waysWere a_blocks a_ordersOf a_imageLine a_bodyKind a_trace a_shelf a_many a_items a_carried people keptMany done tapeMany textMany base at_ ends fault opened lineMany rowMany_2 taller_3 tallerBy pasts isKept imageMany bodies ran ownKind ownNumber height tape text names line row_4 pastMany past changed greatest numbersWere told_5 shelf many items) [some 0, some 1, none, none, none, some 2, some 3, none, none, none, none, none, some 4, some 5, some 6, some 7] rfl (by decide +kernel) rfl rfl (Nat.le_of_ble_eq_true rfl) dX12_restore_2 (fun hz_6 => ?_)
  refine z_istore_n F [(2, .int r_1), (0, .ref a_this), (1, .int x1)] dX12_restore_5 rfl (by decide) rfl ?_
  refine z_iload_n F 0 dX12_restore_6 rfl rfl ?_
  refine z_if_ge F 12 dX12_restore_7 (by decide) hf (fun hf _ => ?_) (fun hf _ => ?_)
  · refine z_aload_n F 1 dX12_restore_12 rfl rfl ?_
    obtain ⟨base_7, at__8, ends_9, fault_10, opened_11, rowMany_12, taller_13, pasts_14, names_15, row_16, pastMany_17, past_18, numbersWere_19, hg, hf⟩ := zb13_some hf
    refine z_callVm (rest := []) F 12 (c_M_begins1 (xL X) G a_this a_height a_changeAt a_changeWas a_changeIs a_tape a_text a_names a_line a_row a_pastMany a_past a_changed a_greatest a_numbersWere a_told a_waysOf a_waysWere a_blocks a_ordersOf a_imageLine a_bodyKind a_trace a_shelf a_many a_items a_carried people keptMany done tapeMany textMany base at_ ends fault opened lineMany rowMany_2 taller_3 tallerBy pasts isKept imageMany bodies ran ownKind ownNumber height tape text names line row_4 pastMany past numbersWere base_7 at__8 ends_9 fault_10 opened_11 rowMany_12 taller_13 pasts_14 names_15 row_16 pastMany_17 past_18 numbersWere_19 hg) hy_X12_begins1 ml_X12_245 hd_X12_begins1 ⟨by omega, by omega⟩ rfl [0, 1, 2, 3, 4, 5, 6, 7, 8, 11] rfl rfl 0 rfl rfl (w_M_restore G a_this a_height a_changeAt a_changeWas a_changeIs a_tape a_text a_names a_line a_row a_pastMany a_past a_changed a_greatest a_numbersWere a_told a_waysOf a_waysWere a_blocks a_ordersOf a_imageLine a_bodyKind a_trace a_shelf a_many a_items a_carried people keptMany done tapeMany textMany base_7 at__8 ends_9 fault_10 opened_11 lineMany rowMany_12 taller_13 tallerBy pasts_14 isKept imageMany bodies ran ownKind ownNumber height tape text names_15 line row_16 pastMany_17 past_18 changed greatest numbersWere_19 told_5 shelf many items) [some 0, some 1, some 2, some 3, some 4, some 5, some 6, some 7, some 8, none, none, some 9, none, none, none, none] rfl (by decide +kernel) rfl rfl (Nat.le_of_ble_eq_true rfl) dX12_restore_13 (fun hz_20 => ?_)
    refine z_aload_n F 1 dX12_restore_16 rfl rfl ?_
    obtain ⟨rowMany_21, taller_22, row_23, hg, hf⟩ := zb3_some hf
    refine z_callVm (rest := []) F 12 (c_M_restores (xL X) G a_this a_height a_changeAt a_changeWas a_changeIs a_tape a_text a_names a_line a_row a_pastMany a_past a_changed a_greatest a_numbersWere a_told a_waysOf a_waysWere a_blocks a_ordersOf a_imageLine a_bodyKind a_trace a_shelf a_many a_items a_carried people keptMany done tapeMany textMany base_7 at__8 ends_9 fault_10 opened_11 lineMany rowMany_12 taller_13 tallerBy pasts_14 isKept imageMany bodies ran ownKind ownNumber height line row_16 told_5 rowMany_21 taller_22 row_23 hg) hy_X12_restores ml_X12_281 hd_X12_restores ⟨by omega, by omega⟩ rfl [0, 1, 5, 6, 12] rfl rfl 0 rfl rfl (w_M_restore G a_this a_height a_changeAt a_changeWas a_changeIs a_tape a_text a_names a_line a_row a_pastMany a_past a_changed a_greatest a_numbersWere a_told a_waysOf a_waysWere a_blocks a_ordersOf a_imageLine a_bodyKind a_trace a_shelf a_many a_items a_carried people keptMany done tapeMany textMany base_7 at__8 ends_9 fault_10 opened_11 lineMany rowMany_21 taller_22 tallerBy pasts_14 isKept imageMany bodies ran ownKind ownNumber height tape text names_15 line row_23 pastMany_17 past_18 changed greatest numbersWere_19 told_5 shelf many items) [some 0, some 1, none, none, none, some 2, some 3, none, none, none, none, none, some 4, none, none, none] rfl (by decide +kernel) rfl rfl (Nat.le_of_ble_eq_true rfl) dX12_restore_17 (fun hz_24 => ?_)
    refine z_aload_n F 1 dX12_restore_20 rfl rfl ?_
    obtain ⟨base_25, at__26, ends_27, fault_28, opened_29, lineMany_30, names_31, line_32, changed_33, greatest_34, hg, hf⟩ := zb10_some hf
    refine z_callVm (rest := []) F 12 (c_M_ends1 (xL X) G a_this a_height a_changeAt a_changeWas a_changeIs a_tape a_text a_names a_line a_row a_pastMany a_past a_changed a_greatest a_numbersWere a_told a_waysOf a_waysWere a_blocks a_ordersOf a_imageLine a_bodyKind a_trace a_shelf a_many a_items a_carried people keptMany done tapeMany textMany base_7 at__8 ends_9 fault_10 opened_11 lineMany rowMany_21 taller_22 tallerBy pasts_14 isKept imageMany bodies ran ownKind ownNumber height tape text names_15 line row_23 changed greatest numbersWere_19 base_25 at__26 ends_27 fault_28 opened_29 lineMany_30 names_31 line_32 changed_33 greatest_34 hg) hy_X12_ends1 ml_X12_252 hd_X12_ends1 ⟨by omega, by omega⟩ rfl [0, 1, 2, 3, 4, 5, 6, 9, 10, 11] rfl rfl 0 rfl rfl (w_M_restore G a_this a_height a_changeAt a_changeWas a_changeIs a_tape a_text a_names a_line a_row a_pastMany a_past a_changed a_greatest a_numbersWere a_told a_waysOf a_waysWere a_blocks a_ordersOf a_imageLine a_bodyKind a_trace a_shelf a_many a_items a_carried people keptMany done tapeMany textMany base_25 at__26 ends_27 fault_28 opened_29 lineMany_30 rowMany_21 taller_22 tallerBy pasts_14 isKept imageMany bodies ran ownKind ownNumber height tape text names_31 line_32 row_23 pastMany_17 past_18 changed_33 greatest_34 numbersWere_19 told_5 shelf many items) [some 0, some 1, some 2, some 3, some 4, some 5, some 6, none, none, some 7, some 8, some 9, none, none, none, none] rfl (by decide +kernel) rfl rfl (Nat.le_of_ble_eq_true rfl) dX12_restore_21 (fun hz_35 => ?_)
    refine z_iconst F (1) dX12_restore_24 rfl ?_
    have eq1 := Option.some.inj hf
    obtain ⟨ee1, eq2⟩ := Prod.mk.inj eq1
    obtain ⟨ee2, eq3⟩ := Prod.mk.inj eq2
    obtain ⟨ee3, eq4⟩ := Prod.mk.inj eq3
    obtain ⟨ee4, eq5⟩ := Prod.mk.inj eq4
    obtain ⟨ee5, eq6⟩ := Prod.mk.inj eq5
    obtain ⟨ee6, eq7⟩ := Prod.mk.inj eq6
    obtain ⟨ee7, eq8⟩ := Prod.mk.inj eq7
    obtain ⟨ee8, eq9⟩ := Prod.mk.inj eq8
    obtain ⟨ee9, eq10⟩ := Prod.mk.inj eq9
    obtain ⟨ee10, eq11⟩ := Prod.mk.inj eq10
    obtain ⟨ee11, eq12⟩ := Prod.mk.inj eq11
    obtain ⟨ee12, eq13⟩ := Prod.mk.inj eq12
    obtain ⟨ee13, eq14⟩ := Prod.mk.inj eq13
    obtain ⟨ee14, eq15⟩ := Prod.mk.inj eq14
    obtain ⟨ee15, eq16⟩ := Prod.mk.inj eq15
    obtain ⟨ee16, eq17⟩ := Prod.mk.inj eq16
    obtain ⟨ee17, eq18⟩ := Prod.mk.inj eq17
    obtain ⟨ee18, ee19⟩ := Prod.mk.inj eq18
    subst ee1
    subst ee2
    subst ee3
    subst ee4
    subst ee5
    subst ee6
    subst ee7
    subst ee8
    subst ee9
    subst ee10
    subst ee11
    subst ee12
    subst ee13
    subst ee14
    subst ee15
    subst ee16
    subst ee17
    subst ee18
    subst ee19
    exact z_iret F rfl rfl rfl rfl dX12_restore_25
  · refine z_iload_n F 0 dX12_restore_10 rfl rfl ?_
    have eq1 := Option.some.inj hf
    obtain ⟨ee1, eq2⟩ := Prod.mk.inj eq1
    obtain ⟨ee2, eq3⟩ := Prod.mk.inj eq2
    obtain ⟨ee3, eq4⟩ := Prod.mk.inj eq3
    obtain ⟨ee4, eq5⟩ := Prod.mk.inj eq4
    obtain ⟨ee5, eq6⟩ := Prod.mk.inj eq5
    obtain ⟨ee6, eq7⟩ := Prod.mk.inj eq6
    obtain ⟨ee7, eq8⟩ := Prod.mk.inj eq7
    obtain ⟨ee8, eq9⟩ := Prod.mk.inj eq8
    obtain ⟨ee9, eq10⟩ := Prod.mk.inj eq9
    obtain ⟨ee10, eq11⟩ := Prod.mk.inj eq10
    obtain ⟨ee11, eq12⟩ := Prod.mk.inj eq11
    obtain ⟨ee12, eq13⟩ := Prod.mk.inj eq12
    obtain ⟨ee13, eq14⟩ := Prod.mk.inj eq13
    obtain ⟨ee14, eq15⟩ := Prod.mk.inj eq14
    obtain ⟨ee15, eq16⟩ := Prod.mk.inj eq15
    obtain ⟨ee16, eq17⟩ := Prod.mk.inj eq16
    obtain ⟨ee17, eq18⟩ := Prod.mk.inj eq17
    obtain ⟨ee18, ee19⟩ := Prod.mk.inj eq18
    subst ee1
    subst ee2
    subst ee3
    subst ee4
    subst ee5
    subst ee6
    subst ee7
    subst ee8
    subst ee9
    subst ee10
    subst ee11
    subst ee12
    subst ee13
    subst ee14
    subst ee15
    subst ee16
    subst ee17
    subst ee18
    subst ee19
    exact z_iret F rfl rfl rfl rfl dX12_restore_11

abbrev w_M_addsPlace (G : zG) (a_this : Nat) (a_height : Nat) (a_changeAt : Nat) (a_changeWas : Nat) (a_changeIs : Nat) (a_tape : Nat) (a_text : Nat) (a_names : Nat) (a_line : Nat) (a_row : Nat) (a_pastMany : Nat) (a_past : Nat) (a_changed : Nat) (a_greatest : Nat) (a_numbersWere : Nat) (a_told : Nat) (a_waysOf : Nat) (a_waysWere : Nat) (a_blocks : Nat) (a_ordersOf : Nat) (a_imageLine : Nat) (a_bodyKind : Nat) (a_trace : Nat) (a_shelf : Nat) (a_many : Nat) (a_items : Nat) (a_carried : Nat) (people : Int32) (keptMany : Int32) (done : Int32) (tapeMany : Int32) (textMany : Int32) (base : Int32) (at_ : Int32) (ends : Int32) (fault : Int32) (opened : Int32) (lineMany : Int32) (rowMany : Int32) (taller : Int32) (tallerBy : Int32) (pasts : Int32) (isKept : Int32) (imageMany : Int32) (bodies : Int32) (ran : Int32) (ownKind : Int32) (ownNumber : Int32) (waysOf : Nat → Int32) (waysWere : Nat → Int32) : va_W := [(a_this, cO 12 [.int people, .ref a_height, .ref a_changeAt, .ref a_changeWas, .ref a_changeIs, .int keptMany, .int done, .ref a_tape, .int tapeMany, .ref a_text, .int textMany, .int base, .int at_, .int ends, .int fault, .int opened, .ref a_names, .ref a_line, .int lineMany, .ref a_row, .int rowMany, .int taller, .int tallerBy, .ref a_pastMany, .ref a_past, .int pasts, .ref a_changed, .ref a_greatest, .ref a_numbersWere, .ref a_told, .ref a_waysOf, .ref a_waysWere, .ref a_blocks, .ref a_ordersOf, .int isKept, .int imageMany, .ref a_imageLine, .int bodies, .ref a_bodyKind, .ref a_trace, .int ran, .int ownKind, .int ownNumber, .ref a_shelf, .ref a_many, .ref a_items, .ref a_carried]), (a_waysOf, cI G 37 waysOf), (a_waysWere, cI G 37 waysWere)]
def f_M_addsPlace_L2 : Nat → (Nat → Int32) → (Nat → Int32) → Int32 → Option ((Nat → Int32) × (Nat → Int32))
  | 0, _, _, _ => none
  | fuel + 1, waysOf, waysWere, v3 => (if (37 : Int32) ≤ v3 then (some (waysOf, waysWere)) else (zg waysOf 37 v3 fun v_1 => (zs waysWere 37 v3 v_1 fun waysWere_2 => (zs waysOf 37 v3 0 fun waysOf_3 => (f_M_addsPlace_L2 fuel waysOf_3 waysWere_2 (v3 + 1))))))
def f_M_addsPlace_L44 (waysWere : Nat → Int32) (v2 : Int32) (v3 : Int32) : Nat → (Nat → Int32) → Int32 → Option ((Nat → Int32))
  | 0, _, _ => none
  | fuel + 1, waysOf, v4 => (if v2 < v4 then (some waysOf) else (if (37 : Int32) ≤ (v3 + v4) then (some waysOf) else (zg waysOf 37 (v3 + v4) fun v_6 => (zg waysWere 37 v3 fun v_7 => (zs waysOf 37 (v3 + v4) (v_6 + v_7) fun waysOf_8 => (f_M_addsPlace_L44 waysWere v2 v3 fuel waysOf_8 (v4 + 1)))))))
def f_M_addsPlace_L35 (waysWere : Nat → Int32) (v1 : Int32) (v2 : Int32) : Nat → (Nat → Int32) → Int32 → Option ((Nat → Int32))
  | 0, _, _ => none
  | fuel + 1, waysOf, v3 => (if (37 : Int32) ≤ v3 then (some waysOf) else (zb1 (f_M_addsPlace_L44 waysWere v2 v3 FU waysOf v1) fun waysOf_9 => (f_M_addsPlace_L35 waysWere v1 v2 fuel waysOf_9 (v3 + 1))))
def f_M_addsPlace (waysOf : Nat → Int32) (waysWere : Nat → Int32) (x1 : Int32) (x2 : Int32) : Option ((Nat → Int32) × (Nat → Int32)) := (zb2 (f_M_addsPlace_L2 FU waysOf waysWere 0) fun waysOf_4 waysWere_5 => (zb1 (f_M_addsPlace_L35 waysWere_5 x1 x2 FU waysOf_4 0) fun waysOf_10 => (some (waysOf_10, waysWere_5))))
set_option maxRecDepth 100000 in
set_option maxHeartbeats 4000000 in
theorem l_M_addsPlace_2 {X : zX} (G : zG) (a_this : Nat) (a_height : Nat) (a_changeAt : Nat) (a_changeWas : Nat) (a_changeIs : Nat) (a_tape : Nat) (a_text : Nat) (a_names : Nat) (a_line : Nat) (a_row : Nat) (a_pastMany : Nat) (a_past : Nat) (a_changed : Nat) (a_greatest : Nat) (a_numbersWere : Nat) (a_told : Nat) (a_waysOf : Nat) (a_waysWere : Nat) (a_blocks : Nat) (a_ordersOf : Nat) (a_imageLine : Nat) (a_bodyKind : Nat) (a_trace : Nat) (a_shelf : Nat) (a_many : Nat) (a_items : Nat) (a_carried : Nat) (people : Int32) (keptMany : Int32) (done : Int32) (tapeMany : Int32) (textMany : Int32) (base : Int32) (at_ : Int32) (ends : Int32) (fault : Int32) (opened : Int32) (lineMany : Int32) (rowMany : Int32) (taller : Int32) (tallerBy : Int32) (pasts : Int32) (isKept : Int32) (imageMany : Int32) (bodies : Int32) (ran : Int32) (ownKind : Int32) (ownNumber : Int32) (v1 : Int32) (v2 : Int32) {v0 : Option Value} {w0 : va_W} (F : zF X G cX12_addsPlace RX12 5 none 0 0 v0 w0) (e_waysOf : Nat → Int32) (e_waysWere : Nat → Int32) (hk : Z X G 5 (w_M_addsPlace G a_this a_height a_changeAt a_changeWas a_changeIs a_tape a_text a_names a_line a_row a_pastMany a_past a_changed a_greatest a_numbersWere a_told a_waysOf a_waysWere a_blocks a_ordersOf a_imageLine a_bodyKind a_trace a_shelf a_many a_items a_carried people keptMany done tapeMany textMany base at_ ends fault opened lineMany rowMany taller tallerBy pasts isKept imageMany bodies ran ownKind ownNumber e_waysOf e_waysWere) [(0, .ref a_this), (1, .int v1), (2, .int v2)] 33 []) :
    ∀ (fuel : Nat) (waysOf : Nat → Int32) (waysWere : Nat → Int32) (v3 : Int32), f_M_addsPlace_L2 fuel waysOf waysWere v3 = some (e_waysOf, e_waysWere) → Z X G 5 (w_M_addsPlace G a_this a_height a_changeAt a_changeWas a_changeIs a_tape a_text a_names a_line a_row a_pastMany a_past a_changed a_greatest a_numbersWere a_told a_waysOf a_waysWere a_blocks a_ordersOf a_imageLine a_bodyKind a_trace a_shelf a_many a_items a_carried people keptMany done tapeMany textMany base at_ ends fault opened lineMany rowMany taller tallerBy pasts isKept imageMany bodies ran ownKind ownNumber waysOf waysWere) [(0, .ref a_this), (1, .int v1), (2, .int v2), (3, .int v3)] 2 [] := by
  intro fuel
  induction fuel with
  | zero => intro waysOf waysWere v3 hf; exact absurd ((f_M_addsPlace_L2.eq_1 ..).symm.trans hf) (fun h => by cases h)
  | succ fuel ih =>
    intro waysOf waysWere v3 hf
    replace hf := (f_M_addsPlace_L2.eq_2 ..).symm.trans hf
    refine z_iload_n F 3 dX12_addsPlace_2 rfl rfl ?_
    refine z_bipush F (37) dX12_addsPlace_3 rfl ?_
    refine z_icmp_ge F 33 dX12_addsPlace_5 (by decide) hf (fun hf _ => ?_) (fun hf _ => ?_)
    · have eq1 := Option.some.inj hf
      obtain ⟨ee1, ee2⟩ := Prod.mk.inj eq1
      subst ee1
      subst ee2
      exact z_sub [0, 1, 2] rfl hk
    · refine z_aload_n F 0 dX12_addsPlace_8 rfl rfl ?_
      refine z_get F 0 12 31 inlX12 rfl rfl (by decide) fl_X12_58 rfl dX12_addsPlace_9 ?_
      refine z_iload_n F 3 dX12_addsPlace_12 rfl rfl ?_
      refine z_aload_n F 0 dX12_addsPlace_13 rfl rfl ?_
      refine z_get F 0 12 30 inlX12 rfl rfl (by decide) fl_X12_55 rfl dX12_addsPlace_14 ?_
      refine z_iload_n F 3 dX12_addsPlace_17 rfl rfl ?_
      refine z_iald F 1 rfl hf dX12_addsPlace_18 (fun v_1 hf => ?_)
      refine z_iast F 2 (fun waysWere_2 => (w_M_addsPlace G a_this a_height a_changeAt a_changeWas a_changeIs a_tape a_text a_names a_line a_row a_pastMany a_past a_changed a_greatest a_numbersWere a_told a_waysOf a_waysWere a_blocks a_ordersOf a_imageLine a_bodyKind a_trace a_shelf a_many a_items a_carried people keptMany done tapeMany textMany base at_ ends fault opened lineMany rowMany taller tallerBy pasts isKept imageMany bodies ran ownKind ownNumber waysOf waysWere_2)) rfl hf (fun _ => rfl) dX12_addsPlace_19 (fun waysWere_2 hf => ?_)
      refine z_aload_n F 0 dX12_addsPlace_20 rfl rfl ?_
      refine z_get F 0 12 30 inlX12 rfl rfl (by decide) fl_X12_55 rfl dX12_addsPlace_21 ?_
      refine z_iload_n F 3 dX12_addsPlace_24 rfl rfl ?_
      refine z_iconst F (0) dX12_addsPlace_25 rfl ?_
      refine z_iast F 1 (fun waysOf_3 => (w_M_addsPlace G a_this a_height a_changeAt a_changeWas a_changeIs a_tape a_text a_names a_line a_row a_pastMany a_past a_changed a_greatest a_numbersWere a_told a_waysOf a_waysWere a_blocks a_ordersOf a_imageLine a_bodyKind a_trace a_shelf a_many a_items a_carried people keptMany done tapeMany textMany base at_ ends fault opened lineMany rowMany taller tallerBy pasts isKept imageMany bodies ran ownKind ownNumber waysOf_3 waysWere_2)) rfl hf (fun _ => rfl) dX12_addsPlace_26 (fun waysOf_3 hf => ?_)
      refine z_iinc F [(3, .int (v3 + 1)), (0, .ref a_this), (1, .int v1), (2, .int v2)] dX12_addsPlace_27 3 rfl rfl (by decide) rfl ?_
      refine z_goto F 2 dX12_addsPlace_30 (by decide) ?_
      exact z_sub [1, 2, 3, 0] rfl (ih waysOf_3 waysWere_2 (v3 + 1) hf)

set_option maxRecDepth 100000 in
set_option maxHeartbeats 4000000 in
theorem l_M_addsPlace_44 {X : zX} (G : zG) (a_this : Nat) (a_height : Nat) (a_changeAt : Nat) (a_changeWas : Nat) (a_changeIs : Nat) (a_tape : Nat) (a_text : Nat) (a_names : Nat) (a_line : Nat) (a_row : Nat) (a_pastMany : Nat) (a_past : Nat) (a_changed : Nat) (a_greatest : Nat) (a_numbersWere : Nat) (a_told : Nat) (a_waysOf : Nat) (a_waysWere : Nat) (a_blocks : Nat) (a_ordersOf : Nat) (a_imageLine : Nat) (a_bodyKind : Nat) (a_trace : Nat) (a_shelf : Nat) (a_many : Nat) (a_items : Nat) (a_carried : Nat) (people : Int32) (keptMany : Int32) (done : Int32) (tapeMany : Int32) (textMany : Int32) (base : Int32) (at_ : Int32) (ends : Int32) (fault : Int32) (opened : Int32) (lineMany : Int32) (rowMany : Int32) (taller : Int32) (tallerBy : Int32) (pasts : Int32) (isKept : Int32) (imageMany : Int32) (bodies : Int32) (ran : Int32) (ownKind : Int32) (ownNumber : Int32) (waysWere : Nat → Int32) (v1 : Int32) (v2 : Int32) (v3 : Int32) {v0 : Option Value} {w0 : va_W} (F : zF X G cX12_addsPlace RX12 5 none 0 0 v0 w0) (e_waysOf : Nat → Int32) (hk : Z X G 5 (w_M_addsPlace G a_this a_height a_changeAt a_changeWas a_changeIs a_tape a_text a_names a_line a_row a_pastMany a_past a_changed a_greatest a_numbersWere a_told a_waysOf a_waysWere a_blocks a_ordersOf a_imageLine a_bodyKind a_trace a_shelf a_many a_items a_carried people keptMany done tapeMany textMany base at_ ends fault opened lineMany rowMany taller tallerBy pasts isKept imageMany bodies ran ownKind ownNumber e_waysOf waysWere) [(0, .ref a_this), (1, .int v1), (2, .int v2), (3, .int v3)] 83 []) :
    ∀ (fuel : Nat) (waysOf : Nat → Int32) (v4 : Int32), f_M_addsPlace_L44 waysWere v2 v3 fuel waysOf v4 = some e_waysOf → Z X G 5 (w_M_addsPlace G a_this a_height a_changeAt a_changeWas a_changeIs a_tape a_text a_names a_line a_row a_pastMany a_past a_changed a_greatest a_numbersWere a_told a_waysOf a_waysWere a_blocks a_ordersOf a_imageLine a_bodyKind a_trace a_shelf a_many a_items a_carried people keptMany done tapeMany textMany base at_ ends fault opened lineMany rowMany taller tallerBy pasts isKept imageMany bodies ran ownKind ownNumber waysOf waysWere) [(0, .ref a_this), (1, .int v1), (2, .int v2), (3, .int v3), (4, .int v4)] 44 [] := by
  intro fuel
  induction fuel with
  | zero => intro waysOf v4 hf; exact absurd ((f_M_addsPlace_L44.eq_1 ..).symm.trans hf) (fun h => by cases h)
  | succ fuel ih =>
    intro waysOf v4 hf
    replace hf := (f_M_addsPlace_L44.eq_2 ..).symm.trans hf
    refine z_iload F 4 dX12_addsPlace_44 rfl ?_
    refine z_iload_n F 2 dX12_addsPlace_46 rfl rfl ?_
    refine z_icmp_gt F 83 dX12_addsPlace_47 (by decide) hf (fun hf _ => ?_) (fun hf _ => ?_)
    · have ee1 := Option.some.inj hf
      subst ee1
      exact z_sub [0, 1, 2, 3] rfl hk
    · refine z_iload_n F 3 dX12_addsPlace_50 rfl rfl ?_
      refine z_iload F 4 dX12_addsPlace_51 rfl ?_
      refine z_iadd F dX12_addsPlace_53 ?_
      refine z_bipush F (37) dX12_addsPlace_54 rfl ?_
      refine z_icmp_ge F 83 dX12_addsPlace_56 (by decide) hf (fun hf _ => ?_) (fun hf _ => ?_)
      · have ee1 := Option.some.inj hf
        subst ee1
        exact z_sub [0, 1, 2, 3] rfl hk
      · refine z_aload_n F 0 dX12_addsPlace_59 rfl rfl ?_
        refine z_get F 0 12 30 inlX12 rfl rfl (by decide) fl_X12_55 rfl dX12_addsPlace_60 ?_
        refine z_iload_n F 3 dX12_addsPlace_63 rfl rfl ?_
        refine z_iload F 4 dX12_addsPlace_64 rfl ?_
        refine z_iadd F dX12_addsPlace_66 ?_
        refine z_dup2 F rfl rfl dX12_addsPlace_67 ?_
        refine z_iald F 1 rfl hf dX12_addsPlace_68 (fun v_6 hf => ?_)
        refine z_aload_n F 0 dX12_addsPlace_69 rfl rfl ?_
        refine z_get F 0 12 31 inlX12 rfl rfl (by decide) fl_X12_58 rfl dX12_addsPlace_70 ?_
        refine z_iload_n F 3 dX12_addsPlace_73 rfl rfl ?_
        refine z_iald F 2 rfl hf dX12_addsPlace_74 (fun v_7 hf => ?_)
        refine z_iadd F dX12_addsPlace_75 ?_
        refine z_iast F 1 (fun waysOf_8 => (w_M_addsPlace G a_this a_height a_changeAt a_changeWas a_changeIs a_tape a_text a_names a_line a_row a_pastMany a_past a_changed a_greatest a_numbersWere a_told a_waysOf a_waysWere a_blocks a_ordersOf a_imageLine a_bodyKind a_trace a_shelf a_many a_items a_carried people keptMany done tapeMany textMany base at_ ends fault opened lineMany rowMany taller tallerBy pasts isKept imageMany bodies ran ownKind ownNumber waysOf_8 waysWere)) rfl hf (fun _ => rfl) dX12_addsPlace_76 (fun waysOf_8 hf => ?_)
        refine z_iinc F [(4, .int (v4 + 1)), (0, .ref a_this), (1, .int v1), (2, .int v2), (3, .int v3)] dX12_addsPlace_77 4 rfl rfl (by decide) rfl ?_
        refine z_goto F 44 dX12_addsPlace_80 (by decide) ?_
        exact z_sub [1, 2, 3, 4, 0] rfl (ih waysOf_8 (v4 + 1) hf)

set_option maxRecDepth 100000 in
set_option maxHeartbeats 4000000 in
theorem l_M_addsPlace_35 {X : zX} (G : zG) (a_this : Nat) (a_height : Nat) (a_changeAt : Nat) (a_changeWas : Nat) (a_changeIs : Nat) (a_tape : Nat) (a_text : Nat) (a_names : Nat) (a_line : Nat) (a_row : Nat) (a_pastMany : Nat) (a_past : Nat) (a_changed : Nat) (a_greatest : Nat) (a_numbersWere : Nat) (a_told : Nat) (a_waysOf : Nat) (a_waysWere : Nat) (a_blocks : Nat) (a_ordersOf : Nat) (a_imageLine : Nat) (a_bodyKind : Nat) (a_trace : Nat) (a_shelf : Nat) (a_many : Nat) (a_items : Nat) (a_carried : Nat) (people : Int32) (keptMany : Int32) (done : Int32) (tapeMany : Int32) (textMany : Int32) (base : Int32) (at_ : Int32) (ends : Int32) (fault : Int32) (opened : Int32) (lineMany : Int32) (rowMany : Int32) (taller : Int32) (tallerBy : Int32) (pasts : Int32) (isKept : Int32) (imageMany : Int32) (bodies : Int32) (ran : Int32) (ownKind : Int32) (ownNumber : Int32) (waysWere : Nat → Int32) (v1 : Int32) (v2 : Int32) {v0 : Option Value} {w0 : va_W} (F : zF X G cX12_addsPlace RX12 5 none 0 0 v0 w0) (e_waysOf : Nat → Int32) (hk : Z X G 5 (w_M_addsPlace G a_this a_height a_changeAt a_changeWas a_changeIs a_tape a_text a_names a_line a_row a_pastMany a_past a_changed a_greatest a_numbersWere a_told a_waysOf a_waysWere a_blocks a_ordersOf a_imageLine a_bodyKind a_trace a_shelf a_many a_items a_carried people keptMany done tapeMany textMany base at_ ends fault opened lineMany rowMany taller tallerBy pasts isKept imageMany bodies ran ownKind ownNumber e_waysOf waysWere) [] 89 []) :
    ∀ (fuel : Nat) (waysOf : Nat → Int32) (v3 : Int32), f_M_addsPlace_L35 waysWere v1 v2 fuel waysOf v3 = some e_waysOf → Z X G 5 (w_M_addsPlace G a_this a_height a_changeAt a_changeWas a_changeIs a_tape a_text a_names a_line a_row a_pastMany a_past a_changed a_greatest a_numbersWere a_told a_waysOf a_waysWere a_blocks a_ordersOf a_imageLine a_bodyKind a_trace a_shelf a_many a_items a_carried people keptMany done tapeMany textMany base at_ ends fault opened lineMany rowMany taller tallerBy pasts isKept imageMany bodies ran ownKind ownNumber waysOf waysWere) [(0, .ref a_this), (1, .int v1), (2, .int v2), (3, .int v3)] 35 [] := by
  intro fuel
  induction fuel with
  | zero => intro waysOf v3 hf; exact absurd ((f_M_addsPlace_L35.eq_1 ..).symm.trans hf) (fun h => by cases h)
  | succ fuel ih =>
    intro waysOf v3 hf
    replace hf := (f_M_addsPlace_L35.eq_2 ..).symm.trans hf
    refine z_iload_n F 3 dX12_addsPlace_35 rfl rfl ?_
    refine z_bipush F (37) dX12_addsPlace_36 rfl ?_
    refine z_icmp_ge F 89 dX12_addsPlace_38 (by decide) hf (fun hf _ => ?_) (fun hf _ => ?_)
    · have ee1 := Option.some.inj hf
      subst ee1
      exact z_sub [] rfl hk
    · refine z_iload_n F 1 dX12_addsPlace_41 rfl rfl ?_
      refine z_istore F [(4, .int v1), (0, .ref a_this), (1, .int v1), (2, .int v2), (3, .int v3)] dX12_addsPlace_42 (by decide) rfl ?_
      obtain ⟨waysOf_9, hg, hf⟩ := zb1_some hf
      refine z_sub [1, 2, 3, 4, 0] rfl ?_
      refine l_M_addsPlace_44 G a_this a_height a_changeAt a_changeWas a_changeIs a_tape a_text a_names a_line a_row a_pastMany a_past a_changed a_greatest a_numbersWere a_told a_waysOf a_waysWere a_blocks a_ordersOf a_imageLine a_bodyKind a_trace a_shelf a_many a_items a_carried people keptMany done tapeMany textMany base at_ ends fault opened lineMany rowMany taller tallerBy pasts isKept imageMany bodies ran ownKind ownNumber waysWere v1 v2 v3 F waysOf_9 ?_ FU waysOf v1 hg
      refine z_iinc F [(3, .int (v3 + 1)), (0, .ref a_this), (1, .int v1), (2, .int v2)] dX12_addsPlace_83 3 rfl rfl (by decide) rfl ?_
      refine z_goto F 35 dX12_addsPlace_86 (by decide) ?_
      exact z_sub [1, 2, 3, 0] rfl (ih waysOf_9 (v3 + 1) hf)

set_option maxRecDepth 100000 in
set_option maxHeartbeats 4000000 in
theorem c_M_addsPlace (l : Launch) (G : zG) (a_this : Nat) (a_height : Nat) (a_changeAt : Nat) (a_changeWas : Nat) (a_changeIs : Nat) (a_tape : Nat) (a_text : Nat) (a_names : Nat) (a_line : Nat) (a_row : Nat) (a_pastMany : Nat) (a_past : Nat) (a_changed : Nat) (a_greatest : Nat) (a_numbersWere : Nat) (a_told : Nat) (a_waysOf : Nat) (a_waysWere : Nat) (a_blocks : Nat) (a_ordersOf : Nat) (a_imageLine : Nat) (a_bodyKind : Nat) (a_trace : Nat) (a_shelf : Nat) (a_many : Nat) (a_items : Nat) (a_carried : Nat) (people : Int32) (keptMany : Int32) (done : Int32) (tapeMany : Int32) (textMany : Int32) (base : Int32) (at_ : Int32) (ends : Int32) (fault : Int32) (opened : Int32) (lineMany : Int32) (rowMany : Int32) (taller : Int32) (tallerBy : Int32) (pasts : Int32) (isKept : Int32) (imageMany : Int32) (bodies : Int32) (ran : Int32) (ownKind : Int32) (ownNumber : Int32) (waysOf : Nat → Int32) (waysWere : Nat → Int32) (x1 : Int32) (x2 : Int32) (o_waysOf : Nat → Int32) (o_waysWere : Nat → Int32) (hf : f_M_addsPlace waysOf waysWere x1 x2 = some (o_waysOf, o_waysWere)) : zM l yX12_addsPlace cX12_addsPlace 5 none 0 0 G [.ref a_this, .int x1, .int x2] (w_M_addsPlace G a_this a_height a_changeAt a_changeWas a_changeIs a_tape a_text a_names a_line a_row a_pastMany a_past a_changed a_greatest a_numbersWere a_told a_waysOf a_waysWere a_blocks a_ordersOf a_imageLine a_bodyKind a_trace a_shelf a_many a_items a_carried people keptMany done tapeMany textMany base at_ ends fault opened lineMany rowMany taller tallerBy pasts isKept imageMany bodies ran ownKind ownNumber waysOf waysWere) (none) (w_M_addsPlace G a_this a_height a_changeAt a_changeWas a_changeIs a_tape a_text a_names a_line a_row a_pastMany a_past a_changed a_greatest a_numbersWere a_told a_waysOf a_waysWere a_blocks a_ordersOf a_imageLine a_bodyKind a_trace a_shelf a_many a_items a_carried people keptMany done tapeMany textMany base at_ ends fault opened lineMany rowMany taller tallerBy pasts isKept imageMany bodies ran ownKind ownNumber o_waysOf o_waysWere) := by
  refine zM.of [(0, .ref a_this), (1, .int x1), (2, .int x2)] (own := RX12) rfl (by decide +kernel) (Nat.le_of_ble_eq_true rfl) rfl rfl fun X hX F => ?_
  subst hX
  replace hf := (f_M_addsPlace.eq_1 ..).symm.trans hf
  refine z_iconst F (0) dX12_addsPlace_0 rfl ?_
  refine z_istore_n F [(3, .int 0), (0, .ref a_this), (1, .int x1), (2, .int x2)] dX12_addsPlace_1 rfl (by decide) rfl ?_
  obtain ⟨waysOf_4, waysWere_5, hg, hf⟩ := zb2_some hf
  refine z_sub [1, 2, 3, 0] rfl ?_
  refine l_M_addsPlace_2 G a_this a_height a_changeAt a_changeWas a_changeIs a_tape a_text a_names a_line a_row a_pastMany a_past a_changed a_greatest a_numbersWere a_told a_waysOf a_waysWere a_blocks a_ordersOf a_imageLine a_bodyKind a_trace a_shelf a_many a_items a_carried people keptMany done tapeMany textMany base at_ ends fault opened lineMany rowMany taller tallerBy pasts isKept imageMany bodies ran ownKind ownNumber x1 x2 F waysOf_4 waysWere_5 ?_ FU waysOf waysWere 0 hg
  refine z_iconst F (0) dX12_addsPlace_33 rfl ?_
  refine z_istore_n F [(3, .int 0), (0, .ref a_this), (1, .int x1), (2, .int x2)] dX12_addsPlace_34 rfl (by decide) rfl ?_
  obtain ⟨waysOf_10, hg, hf⟩ := zb1_some hf
  refine z_sub [1, 2, 3, 0] rfl ?_
  refine l_M_addsPlace_35 G a_this a_height a_changeAt a_changeWas a_changeIs a_tape a_text a_names a_line a_row a_pastMany a_past a_changed a_greatest a_numbersWere a_told a_waysOf a_waysWere a_blocks a_ordersOf a_imageLine a_bodyKind a_trace a_shelf a_many a_items a_carried people keptMany done tapeMany textMany base at_ ends fault opened lineMany rowMany taller tallerBy pasts isKept imageMany bodies ran ownKind ownNumber waysWere_5 x1 x2 F waysOf_10 ?_ FU waysOf_4 0 hg
  have eq1 := Option.some.inj hf
  obtain ⟨ee1, ee2⟩ := Prod.mk.inj eq1
  subst ee1
  subst ee2
  exact z_vret F rfl rfl rfl dX12_addsPlace_89

abbrev w_M_noWays (G : zG) (a_this : Nat) (a_height : Nat) (a_changeAt : Nat) (a_changeWas : Nat) (a_changeIs : Nat) (a_tape : Nat) (a_text : Nat) (a_names : Nat) (a_line : Nat) (a_row : Nat) (a_pastMany : Nat) (a_past : Nat) (a_changed : Nat) (a_greatest : Nat) (a_numbersWere : Nat) (a_told : Nat) (a_waysOf : Nat) (a_waysWere : Nat) (a_blocks : Nat) (a_ordersOf : Nat) (a_imageLine : Nat) (a_bodyKind : Nat) (a_trace : Nat) (a_shelf : Nat) (a_many : Nat) (a_items : Nat) (a_carried : Nat) (people : Int32) (keptMany : Int32) (done : Int32) (tapeMany : Int32) (textMany : Int32) (base : Int32) (at_ : Int32) (ends : Int32) (fault : Int32) (opened : Int32) (lineMany : Int32) (rowMany : Int32) (taller : Int32) (tallerBy : Int32) (pasts : Int32) (isKept : Int32) (imageMany : Int32) (bodies : Int32) (ran : Int32) (ownKind : Int32) (ownNumber : Int32) (waysOf : Nat → Int32) : va_W := [(a_this, cO 12 [.int people, .ref a_height, .ref a_changeAt, .ref a_changeWas, .ref a_changeIs, .int keptMany, .int done, .ref a_tape, .int tapeMany, .ref a_text, .int textMany, .int base, .int at_, .int ends, .int fault, .int opened, .ref a_names, .ref a_line, .int lineMany, .ref a_row, .int rowMany, .int taller, .int tallerBy, .ref a_pastMany, .ref a_past, .int pasts, .ref a_changed, .ref a_greatest, .ref a_numbersWere, .ref a_told, .ref a_waysOf, .ref a_waysWere, .ref a_blocks, .ref a_ordersOf, .int isKept, .int imageMany, .ref a_imageLine, .int bodies, .ref a_bodyKind, .ref a_trace, .int ran, .int ownKind, .int ownNumber, .ref a_shelf, .ref a_many, .ref a_items, .ref a_carried]), (a_waysOf, cI G 37 waysOf)]
def f_M_noWays_L2 : Nat → (Nat → Int32) → Int32 → Option ((Nat → Int32))
  | 0, _, _ => none
  | fuel + 1, waysOf, v1 => (if (37 : Int32) ≤ v1 then (some waysOf) else (if v1 = 0 then (zs waysOf 37 v1 1 fun waysOf_2 => (f_M_noWays_L2 fuel waysOf_2 (v1 + 1))) else (zs waysOf 37 v1 0 fun waysOf_1 => (f_M_noWays_L2 fuel waysOf_1 (v1 + 1)))))
def f_M_noWays (waysOf : Nat → Int32) : Option ((Nat → Int32)) := (zb1 (f_M_noWays_L2 FU waysOf 0) fun waysOf_3 => (some waysOf_3))
set_option maxRecDepth 100000 in
set_option maxHeartbeats 4000000 in
theorem l_M_noWays_2 {X : zX} (G : zG) (a_this : Nat) (a_height : Nat) (a_changeAt : Nat) (a_changeWas : Nat) (a_changeIs : Nat) (a_tape : Nat) (a_text : Nat) (a_names : Nat) (a_line : Nat) (a_row : Nat) (a_pastMany : Nat) (a_past : Nat) (a_changed : Nat) (a_greatest : Nat) (a_numbersWere : Nat) (a_told : Nat) (a_waysOf : Nat) (a_waysWere : Nat) (a_blocks : Nat) (a_ordersOf : Nat) (a_imageLine : Nat) (a_bodyKind : Nat) (a_trace : Nat) (a_shelf : Nat) (a_many : Nat) (a_items : Nat) (a_carried : Nat) (people : Int32) (keptMany : Int32) (done : Int32) (tapeMany : Int32) (textMany : Int32) (base : Int32) (at_ : Int32) (ends : Int32) (fault : Int32) (opened : Int32) (lineMany : Int32) (rowMany : Int32) (taller : Int32) (tallerBy : Int32) (pasts : Int32) (isKept : Int32) (imageMany : Int32) (bodies : Int32) (ran : Int32) (ownKind : Int32) (ownNumber : Int32) {v0 : Option Value} {w0 : va_W} (F : zF X G cX12_noWays RX12 2 none 0 0 v0 w0) (e_waysOf : Nat → Int32) (hk : Z X G 2 (w_M_noWays G a_this a_height a_changeAt a_changeWas a_changeIs a_tape a_text a_names a_line a_row a_pastMany a_past a_changed a_greatest a_numbersWere a_told a_waysOf a_waysWere a_blocks a_ordersOf a_imageLine a_bodyKind a_trace a_shelf a_many a_items a_carried people keptMany done tapeMany textMany base at_ ends fault opened lineMany rowMany taller tallerBy pasts isKept imageMany bodies ran ownKind ownNumber e_waysOf) [] 29 []) :
    ∀ (fuel : Nat) (waysOf : Nat → Int32) (v1 : Int32), f_M_noWays_L2 fuel waysOf v1 = some e_waysOf → Z X G 2 (w_M_noWays G a_this a_height a_changeAt a_changeWas a_changeIs a_tape a_text a_names a_line a_row a_pastMany a_past a_changed a_greatest a_numbersWere a_told a_waysOf a_waysWere a_blocks a_ordersOf a_imageLine a_bodyKind a_trace a_shelf a_many a_items a_carried people keptMany done tapeMany textMany base at_ ends fault opened lineMany rowMany taller tallerBy pasts isKept imageMany bodies ran ownKind ownNumber waysOf) [(0, .ref a_this), (1, .int v1)] 2 [] := by
  intro fuel
  induction fuel with
  | zero => intro waysOf v1 hf; exact absurd ((f_M_noWays_L2.eq_1 ..).symm.trans hf) (fun h => by cases h)
  | succ fuel ih =>
    intro waysOf v1 hf
    replace hf := (f_M_noWays_L2.eq_2 ..).symm.trans hf
    refine z_iload_n F 1 dX12_noWays_2 rfl rfl ?_
    refine z_bipush F (37) dX12_noWays_3 rfl ?_
    refine z_icmp_ge F 29 dX12_noWays_5 (by decide) hf (fun hf _ => ?_) (fun hf _ => ?_)
    · have ee1 := Option.some.inj hf
      subst ee1
      exact z_sub [] rfl hk
    · refine z_aload_n F 0 dX12_noWays_8 rfl rfl ?_
      refine z_get F 0 12 30 inlX12 rfl rfl (by decide) fl_X12_55 rfl dX12_noWays_9 ?_
      refine z_iload_n F 1 dX12_noWays_12 rfl rfl ?_
      refine z_iload_n F 1 dX12_noWays_13 rfl rfl ?_
      refine z_if_ne F 21 dX12_noWays_14 (by decide) hf (fun hf _ => ?_) (fun hf _ => ?_)
      · refine z_iconst F (0) dX12_noWays_21 rfl ?_
        refine z_iast F 1 (fun waysOf_1 => (w_M_noWays G a_this a_height a_changeAt a_changeWas a_changeIs a_tape a_text a_names a_line a_row a_pastMany a_past a_changed a_greatest a_numbersWere a_told a_waysOf a_waysWere a_blocks a_ordersOf a_imageLine a_bodyKind a_trace a_shelf a_many a_items a_carried people keptMany done tapeMany textMany base at_ ends fault opened lineMany rowMany taller tallerBy pasts isKept imageMany bodies ran ownKind ownNumber waysOf_1)) rfl hf (fun _ => rfl) dX12_noWays_22 (fun waysOf_1 hf => ?_)
        refine z_iinc F [(1, .int (v1 + 1)), (0, .ref a_this)] dX12_noWays_23 1 rfl rfl (by decide) rfl ?_
        refine z_goto F 2 dX12_noWays_26 (by decide) ?_
        exact z_sub [1, 0] rfl (ih waysOf_1 (v1 + 1) hf)
      · refine z_iconst F (1) dX12_noWays_17 rfl ?_
        refine z_goto F 22 dX12_noWays_18 (by decide) ?_
        refine z_iast F 1 (fun waysOf_2 => (w_M_noWays G a_this a_height a_changeAt a_changeWas a_changeIs a_tape a_text a_names a_line a_row a_pastMany a_past a_changed a_greatest a_numbersWere a_told a_waysOf a_waysWere a_blocks a_ordersOf a_imageLine a_bodyKind a_trace a_shelf a_many a_items a_carried people keptMany done tapeMany textMany base at_ ends fault opened lineMany rowMany taller tallerBy pasts isKept imageMany bodies ran ownKind ownNumber waysOf_2)) rfl hf (fun _ => rfl) dX12_noWays_22 (fun waysOf_2 hf => ?_)
        refine z_iinc F [(1, .int (v1 + 1)), (0, .ref a_this)] dX12_noWays_23 1 rfl rfl (by decide) rfl ?_
        refine z_goto F 2 dX12_noWays_26 (by decide) ?_
        exact z_sub [1, 0] rfl (ih waysOf_2 (v1 + 1) hf)

set_option maxRecDepth 100000 in
set_option maxHeartbeats 4000000 in
theorem c_M_noWays (l : Launch) (G : zG) (a_this : Nat) (a_height : Nat) (a_changeAt : Nat) (a_changeWas : Nat) (a_changeIs : Nat) (a_tape : Nat) (a_text : Nat) (a_names : Nat) (a_line : Nat) (a_row : Nat) (a_pastMany : Nat) (a_past : Nat) (a_changed : Nat) (a_greatest : Nat) (a_numbersWere : Nat) (a_told : Nat) (a_waysOf : Nat) (a_waysWere : Nat) (a_blocks : Nat) (a_ordersOf : Nat) (a_imageLine : Nat) (a_bodyKind : Nat) (a_trace : Nat) (a_shelf : Nat) (a_many : Nat) (a_items : Nat) (a_carried : Nat) (people : Int32) (keptMany : Int32) (done : Int32) (tapeMany : Int32) (textMany : Int32) (base : Int32) (at_ : Int32) (ends : Int32) (fault : Int32) (opened : Int32) (lineMany : Int32) (rowMany : Int32) (taller : Int32) (tallerBy : Int32) (pasts : Int32) (isKept : Int32) (imageMany : Int32) (bodies : Int32) (ran : Int32) (ownKind : Int32) (ownNumber : Int32) (waysOf : Nat → Int32) (o_waysOf : Nat → Int32) (hf : f_M_noWays waysOf = some o_waysOf) : zM l yX12_noWays cX12_noWays 2 none 0 0 G [.ref a_this] (w_M_noWays G a_this a_height a_changeAt a_changeWas a_changeIs a_tape a_text a_names a_line a_row a_pastMany a_past a_changed a_greatest a_numbersWere a_told a_waysOf a_waysWere a_blocks a_ordersOf a_imageLine a_bodyKind a_trace a_shelf a_many a_items a_carried people keptMany done tapeMany textMany base at_ ends fault opened lineMany rowMany taller tallerBy pasts isKept imageMany bodies ran ownKind ownNumber waysOf) (none) (w_M_noWays G a_this a_height a_changeAt a_changeWas a_changeIs a_tape a_text a_names a_line a_row a_pastMany a_past a_changed a_greatest a_numbersWere a_told a_waysOf a_waysWere a_blocks a_ordersOf a_imageLine a_bodyKind a_trace a_shelf a_many a_items a_carried people keptMany done tapeMany textMany base at_ ends fault opened lineMany rowMany taller tallerBy pasts isKept imageMany bodies ran ownKind ownNumber o_waysOf) := by
  refine zM.of [(0, .ref a_this)] (own := RX12) rfl (by decide +kernel) (Nat.le_of_ble_eq_true rfl) rfl rfl fun X hX F => ?_
  subst hX
  replace hf := (f_M_noWays.eq_1 ..).symm.trans hf
  refine z_iconst F (0) dX12_noWays_0 rfl ?_
  refine z_istore_n F [(1, .int 0), (0, .ref a_this)] dX12_noWays_1 rfl (by decide) rfl ?_
  obtain ⟨waysOf_3, hg, hf⟩ := zb1_some hf
  refine z_sub [1, 0] rfl ?_
  refine l_M_noWays_2 G a_this a_height a_changeAt a_changeWas a_changeIs a_tape a_text a_names a_line a_row a_pastMany a_past a_changed a_greatest a_numbersWere a_told a_waysOf a_waysWere a_blocks a_ordersOf a_imageLine a_bodyKind a_trace a_shelf a_many a_items a_carried people keptMany done tapeMany textMany base at_ ends fault opened lineMany rowMany taller tallerBy pasts isKept imageMany bodies ran ownKind ownNumber F waysOf_3 ?_ FU waysOf 0 hg
  have ee1 := Option.some.inj hf
  subst ee1
  exact z_vret F rfl rfl rfl dX12_noWays_29

abbrev w_M_ways (G : zG) (a_this : Nat) (a_height : Nat) (a_changeAt : Nat) (a_changeWas : Nat) (a_changeIs : Nat) (a_tape : Nat) (a_text : Nat) (a_names : Nat) (a_line : Nat) (a_row : Nat) (a_pastMany : Nat) (a_past : Nat) (a_changed : Nat) (a_greatest : Nat) (a_numbersWere : Nat) (a_told : Nat) (a_waysOf : Nat) (a_waysWere : Nat) (a_blocks : Nat) (a_ordersOf : Nat) (a_imageLine : Nat) (a_bodyKind : Nat) (a_trace : Nat) (a_shelf : Nat) (a_many : Nat) (a_items : Nat) (a_carried : Nat) (people : Int32) (keptMany : Int32) (done : Int32) (tapeMany : Int32) (textMany : Int32) (base : Int32) (at_ : Int32) (ends : Int32) (fault : Int32) (opened : Int32) (lineMany : Int32) (rowMany : Int32) (taller : Int32) (tallerBy : Int32) (pasts : Int32) (isKept : Int32) (imageMany : Int32) (bodies : Int32) (ran : Int32) (ownKind : Int32) (ownNumber : Int32) (told : Nat → Int32) (waysOf : Nat → Int32) (waysWere : Nat → Int32) (shelf : Nat → Int32) (many : Nat → Int32) (items : Nat → Int64) : va_W := [(a_this, cO 12 [.int people, .ref a_height, .ref a_changeAt, .ref a_changeWas, .ref a_changeIs, .int keptMany, .int done, .ref a_tape, .int tapeMany, .ref a_text, .int textMany, .int base, .int at_, .int ends, .int fault, .int opened, .ref a_names, .ref a_line, .int lineMany, .ref a_row, .int rowMany, .int taller, .int tallerBy, .ref a_pastMany, .ref a_past, .int pasts, .ref a_changed, .ref a_greatest, .ref a_numbersWere, .ref a_told, .ref a_waysOf, .ref a_waysWere, .ref a_blocks, .ref a_ordersOf, .int isKept, .int imageMany, .ref a_imageLine, .int bodies, .ref a_bodyKind, .ref a_trace, .int ran, .int ownKind, .int ownNumber, .ref a_shelf, .ref a_many, .ref a_items, .ref a_carried]), (a_told, cI G 9 told), (a_waysOf, cI G 37 waysOf), (a_waysWere, cI G 37 waysWere), (a_shelf, cI G 6 shelf), (a_many, cI G 6 many), (a_items, cJ G 360 items)]
def f_M_ways_L74 (lineMany : Int32) (told : Nat → Int32) : Nat → (Nat → Int32) → (Nat → Int32) → Int32 → Option ((Nat → Int32) × (Nat → Int32))
  | 0, _, _, _ => none
  | fuel + 1, waysOf, waysWere, v4 => (if lineMany ≤ v4 then (some (waysOf, waysWere)) else (zg told 9 v4 fun v_13 => (if (0 : Int32) ≤ v_13 then (zg told 9 v4 fun v_14 => (zg told 9 v4 fun v_15 => (if (0 : Int32) ≤ v_15 then (zg told 9 v4 fun v_16 => (zb2 (f_M_addsPlace waysOf waysWere v_14 v_16) fun waysOf_17 waysWere_18 => (f_M_ways_L74 lineMany told fuel waysOf_17 waysWere_18 (v4 + 1)))) else (zb2 (f_M_addsPlace waysOf waysWere v_14 v4) fun waysOf_20 waysWere_21 => (f_M_ways_L74 lineMany told fuel waysOf_20 waysWere_21 (v4 + 1)))))) else (zg told 9 v4 fun v_23 => (if (0 : Int32) ≤ v_23 then (zg told 9 v4 fun v_24 => (zb2 (f_M_addsPlace waysOf waysWere 0 v_24) fun waysOf_25 waysWere_26 => (f_M_ways_L74 lineMany told fuel waysOf_25 waysWere_26 (v4 + 1)))) else (zb2 (f_M_addsPlace waysOf waysWere 0 v4) fun waysOf_28 waysWere_29 => (f_M_ways_L74 lineMany told fuel waysOf_28 waysWere_29 (v4 + 1))))))))
def f_M_ways_L142 (waysOf : Nat → Int32) : Nat → Int32 → Int32 → Option Int32
  | 0, _, _ => none
  | fuel + 1, v4, v5 => (if (37 : Int32) ≤ v5 then (some v4) else (zg waysOf 37 v5 fun v_33 => (f_M_ways_L142 waysOf fuel (v4 + v_33) (v5 + 1))))
def f_M_ways (lineMany : Int32) (told : Nat → Int32) (waysOf : Nat → Int32) (waysWere : Nat → Int32) (shelf : Nat → Int32) (many : Nat → Int32) (items : Nat → Int64) (x1 : Int32) (x2 : Int32) : Option (Int32 × (Nat → Int32) × (Nat → Int32) × (Nat → Int32)) := (if (f_M_isShelf x1) = 0 then (some ((-1), told, waysOf, waysWere)) else (if (f_M_within (Int32.toInt64 x2) ((-1) : Int64) 36) = 0 then (some ((-1), told, waysOf, waysWere)) else (zb1 (f_M_bookIs shelf x1) fun r_3 => (if (0 : Int32) ≤ r_3 then (zg many 6 x1 fun v_5 => (if v_5 < lineMany then (some ((-5), told, waysOf, waysWere)) else (zb1 (f_M_falseAt lineMany many items x1) fun r_6 => (if r_6 < 0 then (zb2 (f_M_smearedIn lineMany told items x1) fun r_8 told_9 => (zb1 (f_M_noWays waysOf) fun waysOf_11 => (zb2 (f_M_ways_L74 lineMany told_9 FU waysOf_11 waysWere 0) fun waysOf_31 waysWere_32 => (zb1 (f_M_ways_L142 waysOf_31 FU 0 0) fun v4_34 => (if (0 : Int32) ≤ x2 then (zg waysOf_31 37 x2 fun v_35 => (some (v_35, told_9, waysOf_31, waysWere_32))) else (some (v4_34, told_9, waysOf_31, waysWere_32))))))) else (some ((-5), told, waysOf, waysWere)))))) else (zb1 (f_M_bookIs shelf x1) fun r_36 => (some (r_36, told, waysOf, waysWere)))))))
set_option maxRecDepth 100000 in
set_option maxHeartbeats 4000000 in
theorem l_M_ways_74 {X : zX} (G : zG) (a_this : Nat) (a_height : Nat) (a_changeAt : Nat) (a_changeWas : Nat) (a_changeIs : Nat) (a_tape : Nat) (a_text : Nat) (a_names : Nat) (a_line : Nat) (a_row : Nat) (a_pastMany : Nat) (a_past : Nat) (a_changed : Nat) (a_greatest : Nat) (a_numbersWere : Nat) (a_told : Nat) (a_waysOf : Nat) (a_waysWere : Nat) (a_blocks : Nat) (a_ordersOf : Nat) (a_imageLine : Nat) (a_bodyKind : Nat) (a_trace : Nat) (a_shelf : Nat) (a_many : Nat) (a_items : Nat) (a_carried : Nat) (people : Int32) (keptMany : Int32) (done : Int32) (tapeMany : Int32) (textMany : Int32) (base : Int32) (at_ : Int32) (ends : Int32) (fault : Int32) (opened : Int32) (lineMany : Int32) (rowMany : Int32) (taller : Int32) (tallerBy : Int32) (pasts : Int32) (isKept : Int32) (imageMany : Int32) (bodies : Int32) (ran : Int32) (ownKind : Int32) (ownNumber : Int32) (told : Nat → Int32) (shelf : Nat → Int32) (many : Nat → Int32) (items : Nat → Int64) (v2 : Int32) {v0 : Option Value} {w0 : va_W} (F : zF X G cX12_ways RX12 6 (some .int) 3 66 v0 w0) (e_waysOf : Nat → Int32) (e_waysWere : Nat → Int32) (hk : Z X G 6 (w_M_ways G a_this a_height a_changeAt a_changeWas a_changeIs a_tape a_text a_names a_line a_row a_pastMany a_past a_changed a_greatest a_numbersWere a_told a_waysOf a_waysWere a_blocks a_ordersOf a_imageLine a_bodyKind a_trace a_shelf a_many a_items a_carried people keptMany done tapeMany textMany base at_ ends fault opened lineMany rowMany taller tallerBy pasts isKept imageMany bodies ran ownKind ownNumber told e_waysOf e_waysWere shelf many items) [(0, .ref a_this), (2, .int v2)] 136 []) :
    ∀ (fuel : Nat) (waysOf : Nat → Int32) (waysWere : Nat → Int32) (v4 : Int32), f_M_ways_L74 lineMany told fuel waysOf waysWere v4 = some (e_waysOf, e_waysWere) → Z X G 6 (w_M_ways G a_this a_height a_changeAt a_changeWas a_changeIs a_tape a_text a_names a_line a_row a_pastMany a_past a_changed a_greatest a_numbersWere a_told a_waysOf a_waysWere a_blocks a_ordersOf a_imageLine a_bodyKind a_trace a_shelf a_many a_items a_carried people keptMany done tapeMany textMany base at_ ends fault opened lineMany rowMany taller tallerBy pasts isKept imageMany bodies ran ownKind ownNumber told waysOf waysWere shelf many items) [(0, .ref a_this), (2, .int v2), (4, .int v4)] 74 [] := by
  intro fuel
  induction fuel with
  | zero => intro waysOf waysWere v4 hf; exact absurd ((f_M_ways_L74.eq_1 ..).symm.trans hf) (fun h => by cases h)
  | succ fuel ih =>
    intro waysOf waysWere v4 hf
    replace hf := (f_M_ways_L74.eq_2 ..).symm.trans hf
    refine z_iload F 2 dX12_ways_74 rfl ?_
    refine z_aload_n F 0 dX12_ways_76 rfl rfl ?_
    refine z_get F 0 12 18 inlX12 rfl rfl (by decide) fl_X12_100 rfl dX12_ways_77 ?_
    refine z_icmp_ge F 136 dX12_ways_80 (by decide) hf (fun hf _ => ?_) (fun hf _ => ?_)
    · have eq1 := Option.some.inj hf
      obtain ⟨ee1, ee2⟩ := Prod.mk.inj eq1
      subst ee1
      subst ee2
      exact z_sub [0, 1] rfl hk
    · refine z_aload_n F 0 dX12_ways_83 rfl rfl ?_
      refine z_aload_n F 0 dX12_ways_84 rfl rfl ?_
      refine z_get F 0 12 29 inlX12 rfl rfl (by decide) fl_X12_52 rfl dX12_ways_85 ?_
      refine z_iload F 2 dX12_ways_88 rfl ?_
      refine z_iald F 1 rfl hf dX12_ways_90 (fun v_13 hf => ?_)
      refine z_if_ge F 98 dX12_ways_91 (by decide) hf (fun hf _ => ?_) (fun hf _ => ?_)
      · refine z_aload_n F 0 dX12_ways_98 rfl rfl ?_
        refine z_get F 0 12 29 inlX12 rfl rfl (by decide) fl_X12_52 rfl dX12_ways_99 ?_
        refine z_iload F 2 dX12_ways_102 rfl ?_
        refine z_iald F 1 rfl hf dX12_ways_104 (fun v_14 hf => ?_)
        refine z_aload_n F 0 dX12_ways_105 rfl rfl ?_
        refine z_get F 0 12 29 inlX12 rfl rfl (by decide) fl_X12_52 rfl dX12_ways_106 ?_
        refine z_iload F 2 dX12_ways_109 rfl ?_
        refine z_iald F 1 rfl hf dX12_ways_111 (fun v_15 hf => ?_)
        refine z_if_ge F 120 dX12_ways_112 (by decide) hf (fun hf _ => ?_) (fun hf _ => ?_)
        · refine z_aload_n F 0 dX12_ways_120 rfl rfl ?_
          refine z_get F 0 12 29 inlX12 rfl rfl (by decide) fl_X12_52 rfl dX12_ways_121 ?_
          refine z_iload F 2 dX12_ways_124 rfl ?_
          refine z_iald F 1 rfl hf dX12_ways_126 (fun v_16 hf => ?_)
          obtain ⟨waysOf_17, waysWere_18, hg, hf⟩ := zb2_some hf
          refine z_callVm (rest := []) F 12 (c_M_addsPlace (xL X) G a_this a_height a_changeAt a_changeWas a_changeIs a_tape a_text a_names a_line a_row a_pastMany a_past a_changed a_greatest a_numbersWere a_told a_waysOf a_waysWere a_blocks a_ordersOf a_imageLine a_bodyKind a_trace a_shelf a_many a_items a_carried people keptMany done tapeMany textMany base at_ ends fault opened lineMany rowMany taller tallerBy pasts isKept imageMany bodies ran ownKind ownNumber waysOf waysWere v_14 v_16 waysOf_17 waysWere_18 hg) hy_X12_addsPlace ml_X12_292 hd_X12_addsPlace ⟨by omega, by omega⟩ rfl [0, 2, 3] rfl rfl 0 rfl rfl (w_M_ways G a_this a_height a_changeAt a_changeWas a_changeIs a_tape a_text a_names a_line a_row a_pastMany a_past a_changed a_greatest a_numbersWere a_told a_waysOf a_waysWere a_blocks a_ordersOf a_imageLine a_bodyKind a_trace a_shelf a_many a_items a_carried people keptMany done tapeMany textMany base at_ ends fault opened lineMany rowMany taller tallerBy pasts isKept imageMany bodies ran ownKind ownNumber told waysOf_17 waysWere_18 shelf many items) [some 0, none, some 1, some 2, none, none, none] rfl (by decide +kernel) rfl rfl (Nat.le_of_ble_eq_true rfl) dX12_ways_127 (fun hz_19 => ?_)
          refine z_iinc F [(4, .int (v4 + 1)), (0, .ref a_this), (2, .int v2)] dX12_ways_130 2 rfl rfl (by decide) rfl ?_
          refine z_goto F 74 dX12_ways_133 (by decide) ?_
          exact z_sub [1, 2, 0] rfl (ih waysOf_17 waysWere_18 (v4 + 1) hf)
        · refine z_iload F 2 dX12_ways_115 rfl ?_
          refine z_goto F 127 dX12_ways_117 (by decide) ?_
          obtain ⟨waysOf_20, waysWere_21, hg, hf⟩ := zb2_some hf
          refine z_callVm (rest := []) F 12 (c_M_addsPlace (xL X) G a_this a_height a_changeAt a_changeWas a_changeIs a_tape a_text a_names a_line a_row a_pastMany a_past a_changed a_greatest a_numbersWere a_told a_waysOf a_waysWere a_blocks a_ordersOf a_imageLine a_bodyKind a_trace a_shelf a_many a_items a_carried people keptMany done tapeMany textMany base at_ ends fault opened lineMany rowMany taller tallerBy pasts isKept imageMany bodies ran ownKind ownNumber waysOf waysWere v_14 v4 waysOf_20 waysWere_21 hg) hy_X12_addsPlace ml_X12_292 hd_X12_addsPlace ⟨by omega, by omega⟩ rfl [0, 2, 3] rfl rfl 0 rfl rfl (w_M_ways G a_this a_height a_changeAt a_changeWas a_changeIs a_tape a_text a_names a_line a_row a_pastMany a_past a_changed a_greatest a_numbersWere a_told a_waysOf a_waysWere a_blocks a_ordersOf a_imageLine a_bodyKind a_trace a_shelf a_many a_items a_carried people keptMany done tapeMany textMany base at_ ends fault opened lineMany rowMany taller tallerBy pasts isKept imageMany bodies ran ownKind ownNumber told waysOf_20 waysWere_21 shelf many items) [some 0, none, some 1, some 2, none, none, none] rfl (by decide +kernel) rfl rfl (Nat.le_of_ble_eq_true rfl) dX12_ways_127 (fun hz_22 => ?_)
          refine z_iinc F [(4, .int (v4 + 1)), (0, .ref a_this), (2, .int v2)] dX12_ways_130 2 rfl rfl (by decide) rfl ?_
          refine z_goto F 74 dX12_ways_133 (by decide) ?_
          exact z_sub [1, 2, 0] rfl (ih waysOf_20 waysWere_21 (v4 + 1) hf)
      · refine z_iconst F (0) dX12_ways_94 rfl ?_
        refine z_goto F 105 dX12_ways_95 (by decide) ?_
        refine z_aload_n F 0 dX12_ways_105 rfl rfl ?_
        refine z_get F 0 12 29 inlX12 rfl rfl (by decide) fl_X12_52 rfl dX12_ways_106 ?_
        refine z_iload F 2 dX12_ways_109 rfl ?_
        refine z_iald F 1 rfl hf dX12_ways_111 (fun v_23 hf => ?_)
        refine z_if_ge F 120 dX12_ways_112 (by decide) hf (fun hf _ => ?_) (fun hf _ => ?_)
        · refine z_aload_n F 0 dX12_ways_120 rfl rfl ?_
          refine z_get F 0 12 29 inlX12 rfl rfl (by decide) fl_X12_52 rfl dX12_ways_121 ?_
          refine z_iload F 2 dX12_ways_124 rfl ?_
          refine z_iald F 1 rfl hf dX12_ways_126 (fun v_24 hf => ?_)
          obtain ⟨waysOf_25, waysWere_26, hg, hf⟩ := zb2_some hf
          refine z_callVm (rest := []) F 12 (c_M_addsPlace (xL X) G a_this a_height a_changeAt a_changeWas a_changeIs a_tape a_text a_names a_line a_row a_pastMany a_past a_changed a_greatest a_numbersWere a_told a_waysOf a_waysWere a_blocks a_ordersOf a_imageLine a_bodyKind a_trace a_shelf a_many a_items a_carried people keptMany done tapeMany textMany base at_ ends fault opened lineMany rowMany taller tallerBy pasts isKept imageMany bodies ran ownKind ownNumber waysOf waysWere 0 v_24 waysOf_25 waysWere_26 hg) hy_X12_addsPlace ml_X12_292 hd_X12_addsPlace ⟨by omega, by omega⟩ rfl [0, 2, 3] rfl rfl 0 rfl rfl (w_M_ways G a_this a_height a_changeAt a_changeWas a_changeIs a_tape a_text a_names a_line a_row a_pastMany a_past a_changed a_greatest a_numbersWere a_told a_waysOf a_waysWere a_blocks a_ordersOf a_imageLine a_bodyKind a_trace a_shelf a_many a_items a_carried people keptMany done tapeMany textMany base at_ ends fault opened lineMany rowMany taller tallerBy pasts isKept imageMany bodies ran ownKind ownNumber told waysOf_25 waysWere_26 shelf many items) [some 0, none, some 1, some 2, none, none, none] rfl (by decide +kernel) rfl rfl (Nat.le_of_ble_eq_true rfl) dX12_ways_127 (fun hz_27 => ?_)
          refine z_iinc F [(4, .int (v4 + 1)), (0, .ref a_this), (2, .int v2)] dX12_ways_130 2 rfl rfl (by decide) rfl ?_
          refine z_goto F 74 dX12_ways_133 (by decide) ?_
          exact z_sub [1, 2, 0] rfl (ih waysOf_25 waysWere_26 (v4 + 1) hf)
        · refine z_iload F 2 dX12_ways_115 rfl ?_
          refine z_goto F 127 dX12_ways_117 (by decide) ?_
          obtain ⟨waysOf_28, waysWere_29, hg, hf⟩ := zb2_some hf
          refine z_callVm (rest := []) F 12 (c_M_addsPlace (xL X) G a_this a_height a_changeAt a_changeWas a_changeIs a_tape a_text a_names a_line a_row a_pastMany a_past a_changed a_greatest a_numbersWere a_told a_waysOf a_waysWere a_blocks a_ordersOf a_imageLine a_bodyKind a_trace a_shelf a_many a_items a_carried people keptMany done tapeMany textMany base at_ ends fault opened lineMany rowMany taller tallerBy pasts isKept imageMany bodies ran ownKind ownNumber waysOf waysWere 0 v4 waysOf_28 waysWere_29 hg) hy_X12_addsPlace ml_X12_292 hd_X12_addsPlace ⟨by omega, by omega⟩ rfl [0, 2, 3] rfl rfl 0 rfl rfl (w_M_ways G a_this a_height a_changeAt a_changeWas a_changeIs a_tape a_text a_names a_line a_row a_pastMany a_past a_changed a_greatest a_numbersWere a_told a_waysOf a_waysWere a_blocks a_ordersOf a_imageLine a_bodyKind a_trace a_shelf a_many a_items a_carried people keptMany done tapeMany textMany base at_ ends fault opened lineMany rowMany taller tallerBy pasts isKept imageMany bodies ran ownKind ownNumber told waysOf_28 waysWere_29 shelf many items) [some 0, none, some 1, some 2, none, none, none] rfl (by decide +kernel) rfl rfl (Nat.le_of_ble_eq_true rfl) dX12_ways_127 (fun hz_30 => ?_)
          refine z_iinc F [(4, .int (v4 + 1)), (0, .ref a_this), (2, .int v2)] dX12_ways_130 2 rfl rfl (by decide) rfl ?_
          refine z_goto F 74 dX12_ways_133 (by decide) ?_
          exact z_sub [1, 2, 0] rfl (ih waysOf_28 waysWere_29 (v4 + 1) hf)

set_option maxRecDepth 100000 in
set_option maxHeartbeats 4000000 in
theorem l_M_ways_142 {X : zX} (G : zG) (a_this : Nat) (a_height : Nat) (a_changeAt : Nat) (a_changeWas : Nat) (a_changeIs : Nat) (a_tape : Nat) (a_text : Nat) (a_names : Nat) (a_line : Nat) (a_row : Nat) (a_pastMany : Nat) (a_past : Nat) (a_changed : Nat) (a_greatest : Nat) (a_numbersWere : Nat) (a_told : Nat) (a_waysOf : Nat) (a_waysWere : Nat) (a_blocks : Nat) (a_ordersOf : Nat) (a_imageLine : Nat) (a_bodyKind : Nat) (a_trace : Nat) (a_shelf : Nat) (a_many : Nat) (a_items : Nat) (a_carried : Nat) (people : Int32) (keptMany : Int32) (done : Int32) (tapeMany : Int32) (textMany : Int32) (base : Int32) (at_ : Int32) (ends : Int32) (fault : Int32) (opened : Int32) (lineMany : Int32) (rowMany : Int32) (taller : Int32) (tallerBy : Int32) (pasts : Int32) (isKept : Int32) (imageMany : Int32) (bodies : Int32) (ran : Int32) (ownKind : Int32) (ownNumber : Int32) (told : Nat → Int32) (waysOf : Nat → Int32) (waysWere : Nat → Int32) (shelf : Nat → Int32) (many : Nat → Int32) (items : Nat → Int64) (v2 : Int32) {v0 : Option Value} {w0 : va_W} (F : zF X G cX12_ways RX12 6 (some .int) 3 66 v0 w0) (e_v4 : Int32) (hk : Z X G 6 (w_M_ways G a_this a_height a_changeAt a_changeWas a_changeIs a_tape a_text a_names a_line a_row a_pastMany a_past a_changed a_greatest a_numbersWere a_told a_waysOf a_waysWere a_blocks a_ordersOf a_imageLine a_bodyKind a_trace a_shelf a_many a_items a_carried people keptMany done tapeMany textMany base at_ ends fault opened lineMany rowMany taller tallerBy pasts isKept imageMany bodies ran ownKind ownNumber told waysOf waysWere shelf many items) [(0, .ref a_this), (2, .int v2), (4, .int e_v4)] 167 []) :
    ∀ (fuel : Nat) (v4 : Int32) (v5 : Int32), f_M_ways_L142 waysOf fuel v4 v5 = some e_v4 → Z X G 6 (w_M_ways G a_this a_height a_changeAt a_changeWas a_changeIs a_tape a_text a_names a_line a_row a_pastMany a_past a_changed a_greatest a_numbersWere a_told a_waysOf a_waysWere a_blocks a_ordersOf a_imageLine a_bodyKind a_trace a_shelf a_many a_items a_carried people keptMany done tapeMany textMany base at_ ends fault opened lineMany rowMany taller tallerBy pasts isKept imageMany bodies ran ownKind ownNumber told waysOf waysWere shelf many items) [(0, .ref a_this), (2, .int v2), (4, .int v4), (5, .int v5)] 142 [] := by
  intro fuel
  induction fuel with
  | zero => intro v4 v5 hf; exact absurd ((f_M_ways_L142.eq_1 ..).symm.trans hf) (fun h => by cases h)
  | succ fuel ih =>
    intro v4 v5 hf
    replace hf := (f_M_ways_L142.eq_2 ..).symm.trans hf
    refine z_iload F 3 dX12_ways_142 rfl ?_
    refine z_bipush F (37) dX12_ways_144 rfl ?_
    refine z_icmp_ge F 167 dX12_ways_146 (by decide) hf (fun hf _ => ?_) (fun hf _ => ?_)
    · have ee1 := Option.some.inj hf
      subst ee1
      exact z_sub [0, 1, 2] rfl hk
    · refine z_iload F 2 dX12_ways_149 rfl ?_
      refine z_aload_n F 0 dX12_ways_151 rfl rfl ?_
      refine z_get F 0 12 30 inlX12 rfl rfl (by decide) fl_X12_55 rfl dX12_ways_152 ?_
      refine z_iload F 3 dX12_ways_155 rfl ?_
      refine z_iald F 2 rfl hf dX12_ways_157 (fun v_33 hf => ?_)
      refine z_iadd F dX12_ways_158 ?_
      refine z_istore F [(4, .int (v4 + v_33)), (0, .ref a_this), (2, .int v2), (5, .int v5)] dX12_ways_159 (by decide) rfl ?_
      refine z_iinc F [(5, .int (v5 + 1)), (4, .int (v4 + v_33)), (0, .ref a_this), (2, .int v2)] dX12_ways_161 3 rfl rfl (by decide) rfl ?_
      refine z_goto F 142 dX12_ways_164 (by decide) ?_
      exact z_sub [2, 3, 1, 0] rfl (ih (v4 + v_33) (v5 + 1) hf)

set_option maxRecDepth 100000 in
set_option maxHeartbeats 4000000 in
theorem c_M_ways (l : Launch) (G : zG) (a_this : Nat) (a_height : Nat) (a_changeAt : Nat) (a_changeWas : Nat) (a_changeIs : Nat) (a_tape : Nat) (a_text : Nat) (a_names : Nat) (a_line : Nat) (a_row : Nat) (a_pastMany : Nat) (a_past : Nat) (a_changed : Nat) (a_greatest : Nat) (a_numbersWere : Nat) (a_told : Nat) (a_waysOf : Nat) (a_waysWere : Nat) (a_blocks : Nat) (a_ordersOf : Nat) (a_imageLine : Nat) (a_bodyKind : Nat) (a_trace : Nat) (a_shelf : Nat) (a_many : Nat) (a_items : Nat) (a_carried : Nat) (people : Int32) (keptMany : Int32) (done : Int32) (tapeMany : Int32) (textMany : Int32) (base : Int32) (at_ : Int32) (ends : Int32) (fault : Int32) (opened : Int32) (lineMany : Int32) (rowMany : Int32) (taller : Int32) (tallerBy : Int32) (pasts : Int32) (isKept : Int32) (imageMany : Int32) (bodies : Int32) (ran : Int32) (ownKind : Int32) (ownNumber : Int32) (told : Nat → Int32) (waysOf : Nat → Int32) (waysWere : Nat → Int32) (shelf : Nat → Int32) (many : Nat → Int32) (items : Nat → Int64) (x1 : Int32) (x2 : Int32) (r_ : Int32) (o_told : Nat → Int32) (o_waysOf : Nat → Int32) (o_waysWere : Nat → Int32) (hf : f_M_ways lineMany told waysOf waysWere shelf many items x1 x2 = some (r_, o_told, o_waysOf, o_waysWere)) : zM l yX12_ways cX12_ways 6 (some .int) 3 66 G [.ref a_this, .int x1, .int x2] (w_M_ways G a_this a_height a_changeAt a_changeWas a_changeIs a_tape a_text a_names a_line a_row a_pastMany a_past a_changed a_greatest a_numbersWere a_told a_waysOf a_waysWere a_blocks a_ordersOf a_imageLine a_bodyKind a_trace a_shelf a_many a_items a_carried people keptMany done tapeMany textMany base at_ ends fault opened lineMany rowMany taller tallerBy pasts isKept imageMany bodies ran ownKind ownNumber told waysOf waysWere shelf many items) (some (.int r_)) (w_M_ways G a_this a_height a_changeAt a_changeWas a_changeIs a_tape a_text a_names a_line a_row a_pastMany a_past a_changed a_greatest a_numbersWere a_told a_waysOf a_waysWere a_blocks a_ordersOf a_imageLine a_bodyKind a_trace a_shelf a_many a_items a_carried people keptMany done tapeMany textMany base at_ ends fault opened lineMany rowMany taller tallerBy pasts isKept imageMany bodies ran ownKind ownNumber o_told o_waysOf o_waysWere shelf many items) := by
  refine zM.of [(0, .ref a_this), (1, .int x1), (2, .int x2)] (own := RX12) rfl (by decide +kernel) (Nat.le_of_ble_eq_true rfl) rfl rfl fun X hX F => ?_
  subst hX
  replace hf := (f_M_ways.eq_1 ..).symm.trans hf
  refine z_iload_n F 1 dX12_ways_0 rfl rfl ?_
  refine z_callSm (rest := []) F (c_M_isShelf (xL X) G x1 _ rfl) hy_X12_isShelf ml_X12_113 hd_X12_isShelf ⟨by omega, by omega⟩ rfl [] rfl rfl (w_M_ways G a_this a_height a_changeAt a_changeWas a_changeIs a_tape a_text a_names a_line a_row a_pastMany a_past a_changed a_greatest a_numbersWere a_told a_waysOf a_waysWere a_blocks a_ordersOf a_imageLine a_bodyKind a_trace a_shelf a_many a_items a_carried people keptMany done tapeMany textMany base at_ ends fault opened lineMany rowMany taller tallerBy pasts isKept imageMany bodies ran ownKind ownNumber told waysOf waysWere shelf many items) [none, none, none, none, none, none, none] rfl (by decide +kernel) rfl rfl (Nat.le_of_ble_eq_true rfl) dX12_ways_1 (fun hz_1 => ?_)
  refine z_if_eq F 21 dX12_ways_4 (by decide) hf (fun hf _ => ?_) (fun hf _ => ?_)
  · refine z_iconst F (-1) dX12_ways_21 rfl ?_
    have eq1 := Option.some.inj hf
    obtain ⟨ee1, eq2⟩ := Prod.mk.inj eq1
    obtain ⟨ee2, eq3⟩ := Prod.mk.inj eq2
    obtain ⟨ee3, ee4⟩ := Prod.mk.inj eq3
    subst ee1
    subst ee2
    subst ee3
    subst ee4
    exact z_iret F rfl rfl rfl rfl dX12_ways_22
  · refine z_iload_n F 2 dX12_ways_7 rfl rfl ?_
    refine z_i2l F dX12_ways_8 ?_
    refine z_ldc2 F (-1) (uw34 _ (List.mem_of_getElem? (i := 14) rfl)) dX12_ways_9 ?_
    refine z_ldc2 F (36) (uw38 _ (List.mem_of_getElem? (i := 14) rfl)) dX12_ways_12 ?_
    refine z_callSm (rest := []) F (c_M_within (xL X) G (Int32.toInt64 x2) (-1) 36 _ rfl) hy_X12_within ml_X12_96 hd_X12_within ⟨by omega, by omega⟩ rfl [] rfl rfl (w_M_ways G a_this a_height a_changeAt a_changeWas a_changeIs a_tape a_text a_names a_line a_row a_pastMany a_past a_changed a_greatest a_numbersWere a_told a_waysOf a_waysWere a_blocks a_ordersOf a_imageLine a_bodyKind a_trace a_shelf a_many a_items a_carried people keptMany done tapeMany textMany base at_ ends fault opened lineMany rowMany taller tallerBy pasts isKept imageMany bodies ran ownKind ownNumber told waysOf waysWere shelf many items) [none, none, none, none, none, none, none] rfl (by decide +kernel) rfl rfl (Nat.le_of_ble_eq_true rfl) dX12_ways_15 (fun hz_2 => ?_)
    refine z_if_ne F 23 dX12_ways_18 (by decide) hf (fun hf _ => ?_) (fun hf _ => ?_)
    · refine z_aload_n F 0 dX12_ways_23 rfl rfl ?_
      refine z_iload_n F 1 dX12_ways_24 rfl rfl ?_
      obtain ⟨r_3, hg, hf⟩ := zb1_some hf
      refine z_callVm (rest := []) F 12 (c_M_bookIs (xL X) G a_this a_height a_changeAt a_changeWas a_changeIs a_tape a_text a_names a_line a_row a_pastMany a_past a_changed a_greatest a_numbersWere a_told a_waysOf a_waysWere a_blocks a_ordersOf a_imageLine a_bodyKind a_trace a_shelf a_many a_items a_carried people keptMany done tapeMany textMany base at_ ends fault opened lineMany rowMany taller tallerBy pasts isKept imageMany bodies ran ownKind ownNumber shelf x1 r_3 hg) hy_X12_bookIs ml_X12_265 hd_X12_bookIs ⟨by omega, by omega⟩ rfl [0, 4] rfl rfl 0 rfl rfl (w_M_ways G a_this a_height a_changeAt a_changeWas a_changeIs a_tape a_text a_names a_line a_row a_pastMany a_past a_changed a_greatest a_numbersWere a_told a_waysOf a_waysWere a_blocks a_ordersOf a_imageLine a_bodyKind a_trace a_shelf a_many a_items a_carried people keptMany done tapeMany textMany base at_ ends fault opened lineMany rowMany taller tallerBy pasts isKept imageMany bodies ran ownKind ownNumber told waysOf waysWere shelf many items) [some 0, none, none, none, some 1, none, none] rfl (by decide +kernel) rfl rfl (Nat.le_of_ble_eq_true rfl) dX12_ways_25 (fun hz_4 => ?_)
      refine z_if_ge F 37 dX12_ways_28 (by decide) hf (fun hf _ => ?_) (fun hf _ => ?_)
      · refine z_aload_n F 0 dX12_ways_37 rfl rfl ?_
        refine z_get F 0 12 44 inlX12 rfl rfl (by decide) fl_X12_79 rfl dX12_ways_38 ?_
        refine z_iload_n F 1 dX12_ways_41 rfl rfl ?_
        refine z_iald F 5 rfl hf dX12_ways_42 (fun v_5 hf => ?_)
        refine z_aload_n F 0 dX12_ways_43 rfl rfl ?_
        refine z_get F 0 12 18 inlX12 rfl rfl (by decide) fl_X12_100 rfl dX12_ways_44 ?_
        refine z_icmp_lt F 58 dX12_ways_47 (by decide) hf (fun hf _ => ?_) (fun hf _ => ?_)
        · refine z_bipush F (-5) dX12_ways_58 rfl ?_
          have eq1 := Option.some.inj hf
          obtain ⟨ee1, eq2⟩ := Prod.mk.inj eq1
          obtain ⟨ee2, eq3⟩ := Prod.mk.inj eq2
          obtain ⟨ee3, ee4⟩ := Prod.mk.inj eq3
          subst ee1
          subst ee2
          subst ee3
          subst ee4
          exact z_iret F rfl rfl rfl rfl dX12_ways_60
        · refine z_aload_n F 0 dX12_ways_50 rfl rfl ?_
          refine z_iload_n F 1 dX12_ways_51 rfl rfl ?_
          obtain ⟨r_6, hg, hf⟩ := zb1_some hf
          refine z_callVm (rest := []) F 12 (c_M_falseAt (xL X) G a_this a_height a_changeAt a_changeWas a_changeIs a_tape a_text a_names a_line a_row a_pastMany a_past a_changed a_greatest a_numbersWere a_told a_waysOf a_waysWere a_blocks a_ordersOf a_imageLine a_bodyKind a_trace a_shelf a_many a_items a_carried people keptMany done tapeMany textMany base at_ ends fault opened lineMany rowMany taller tallerBy pasts isKept imageMany bodies ran ownKind ownNumber many items x1 r_6 hg) hy_X12_falseAt ml_X12_268 hd_X12_falseAt ⟨by omega, by omega⟩ rfl [0, 5, 6] rfl rfl 0 rfl rfl (w_M_ways G a_this a_height a_changeAt a_changeWas a_changeIs a_tape a_text a_names a_line a_row a_pastMany a_past a_changed a_greatest a_numbersWere a_told a_waysOf a_waysWere a_blocks a_ordersOf a_imageLine a_bodyKind a_trace a_shelf a_many a_items a_carried people keptMany done tapeMany textMany base at_ ends fault opened lineMany rowMany taller tallerBy pasts isKept imageMany bodies ran ownKind ownNumber told waysOf waysWere shelf many items) [some 0, none, none, none, none, some 1, some 2] rfl (by decide +kernel) rfl rfl (Nat.le_of_ble_eq_true rfl) dX12_ways_52 (fun hz_7 => ?_)
          refine z_if_lt F 61 dX12_ways_55 (by decide) hf (fun hf _ => ?_) (fun hf _ => ?_)
          · refine z_aload_n F 0 dX12_ways_61 rfl rfl ?_
            refine z_iload_n F 1 dX12_ways_62 rfl rfl ?_
            obtain ⟨r_8, told_9, hg, hf⟩ := zb2_some hf
            refine z_callVm (rest := []) F 12 (c_M_smearedIn (xL X) G a_this a_height a_changeAt a_changeWas a_changeIs a_tape a_text a_names a_line a_row a_pastMany a_past a_changed a_greatest a_numbersWere a_told a_waysOf a_waysWere a_blocks a_ordersOf a_imageLine a_bodyKind a_trace a_shelf a_many a_items a_carried people keptMany done tapeMany textMany base at_ ends fault opened lineMany rowMany taller tallerBy pasts isKept imageMany bodies ran ownKind ownNumber told items x1 r_8 told_9 hg) hy_X12_smearedIn ml_X12_278 hd_X12_smearedIn ⟨by omega, by omega⟩ rfl [0, 1, 6] rfl rfl 0 rfl rfl (w_M_ways G a_this a_height a_changeAt a_changeWas a_changeIs a_tape a_text a_names a_line a_row a_pastMany a_past a_changed a_greatest a_numbersWere a_told a_waysOf a_waysWere a_blocks a_ordersOf a_imageLine a_bodyKind a_trace a_shelf a_many a_items a_carried people keptMany done tapeMany textMany base at_ ends fault opened lineMany rowMany taller tallerBy pasts isKept imageMany bodies ran ownKind ownNumber told_9 waysOf waysWere shelf many items) [some 0, some 1, none, none, none, none, some 2] rfl (by decide +kernel) rfl rfl (Nat.le_of_ble_eq_true rfl) dX12_ways_63 (fun hz_10 => ?_)
            refine z_istore_n F [(3, .int r_8), (0, .ref a_this), (1, .int x1), (2, .int x2)] dX12_ways_66 rfl (by decide) rfl ?_
            refine z_aload_n F 1 dX12_ways_67 rfl rfl ?_
            obtain ⟨waysOf_11, hg, hf⟩ := zb1_some hf
            refine z_callVm (rest := []) F 12 (c_M_noWays (xL X) G a_this a_height a_changeAt a_changeWas a_changeIs a_tape a_text a_names a_line a_row a_pastMany a_past a_changed a_greatest a_numbersWere a_told a_waysOf a_waysWere a_blocks a_ordersOf a_imageLine a_bodyKind a_trace a_shelf a_many a_items a_carried people keptMany done tapeMany textMany base at_ ends fault opened lineMany rowMany taller tallerBy pasts isKept imageMany bodies ran ownKind ownNumber waysOf waysOf_11 hg) hy_X12_noWays ml_X12_289 hd_X12_noWays ⟨by omega, by omega⟩ rfl [0, 2] rfl rfl 0 rfl rfl (w_M_ways G a_this a_height a_changeAt a_changeWas a_changeIs a_tape a_text a_names a_line a_row a_pastMany a_past a_changed a_greatest a_numbersWere a_told a_waysOf a_waysWere a_blocks a_ordersOf a_imageLine a_bodyKind a_trace a_shelf a_many a_items a_carried people keptMany done tapeMany textMany base at_ ends fault opened lineMany rowMany taller tallerBy pasts isKept imageMany bodies ran ownKind ownNumber told_9 waysOf_11 waysWere shelf many items) [some 0, none, some 1, none, none, none, none] rfl (by decide +kernel) rfl rfl (Nat.le_of_ble_eq_true rfl) dX12_ways_68 (fun hz_12 => ?_)
            refine z_iconst F (0) dX12_ways_71 rfl ?_
            refine z_istore F [(4, .int 0), (3, .int r_8), (0, .ref a_this), (1, .int x1), (2, .int x2)] dX12_ways_72 (by decide) rfl ?_
            obtain ⟨waysOf_31, waysWere_32, hg, hf⟩ := zb2_some hf
            refine z_sub [2, 4, 0] rfl ?_
            refine l_M_ways_74 G a_this a_height a_changeAt a_changeWas a_changeIs a_tape a_text a_names a_line a_row a_pastMany a_past a_changed a_greatest a_numbersWere a_told a_waysOf a_waysWere a_blocks a_ordersOf a_imageLine a_bodyKind a_trace a_shelf a_many a_items a_carried people keptMany done tapeMany textMany base at_ ends fault opened lineMany rowMany taller tallerBy pasts isKept imageMany bodies ran ownKind ownNumber told_9 shelf many items x2 F waysOf_31 waysWere_32 ?_ FU waysOf_11 waysWere 0 hg
            refine z_iconst F (0) dX12_ways_136 rfl ?_
            refine z_istore F [(4, .int 0), (0, .ref a_this), (2, .int x2)] dX12_ways_137 (by decide) rfl ?_
            refine z_iconst F (0) dX12_ways_139 rfl ?_
            refine z_istore F [(5, .int 0), (4, .int 0), (0, .ref a_this), (2, .int x2)] dX12_ways_140 (by decide) rfl ?_
            obtain ⟨v4_34, hg, hf⟩ := zb1_some hf
            refine z_sub [2, 3, 1, 0] rfl ?_
            refine l_M_ways_142 G a_this a_height a_changeAt a_changeWas a_changeIs a_tape a_text a_names a_line a_row a_pastMany a_past a_changed a_greatest a_numbersWere a_told a_waysOf a_waysWere a_blocks a_ordersOf a_imageLine a_bodyKind a_trace a_shelf a_many a_items a_carried people keptMany done tapeMany textMany base at_ ends fault opened lineMany rowMany taller tallerBy pasts isKept imageMany bodies ran ownKind ownNumber told_9 waysOf_31 waysWere_32 shelf many items x2 F v4_34 ?_ FU 0 0 hg
            refine z_iload_n F 1 dX12_ways_167 rfl rfl ?_
            refine z_if_ge F 176 dX12_ways_168 (by decide) hf (fun hf _ => ?_) (fun hf _ => ?_)
            · refine z_aload_n F 0 dX12_ways_176 rfl rfl ?_
              refine z_get F 0 12 30 inlX12 rfl rfl (by decide) fl_X12_55 rfl dX12_ways_177 ?_
              refine z_iload_n F 1 dX12_ways_180 rfl rfl ?_
              refine z_iald F 2 rfl hf dX12_ways_181 (fun v_35 hf => ?_)
              have eq1 := Option.some.inj hf
              obtain ⟨ee1, eq2⟩ := Prod.mk.inj eq1
              obtain ⟨ee2, eq3⟩ := Prod.mk.inj eq2
              obtain ⟨ee3, ee4⟩ := Prod.mk.inj eq3
              subst ee1
              subst ee2
              subst ee3
              subst ee4
              exact z_iret F rfl rfl rfl rfl dX12_ways_182
            · refine z_iload F 2 dX12_ways_171 rfl ?_
              refine z_goto F 182 dX12_ways_173 (by decide) ?_
              have eq1 := Option.some.inj hf
              obtain ⟨ee1, eq2⟩ := Prod.mk.inj eq1
              obtain ⟨ee2, eq3⟩ := Prod.mk.inj eq2
              obtain ⟨ee3, ee4⟩ := Prod.mk.inj eq3
              subst ee1
              subst ee2
              subst ee3
              subst ee4
              exact z_iret F rfl rfl rfl rfl dX12_ways_182
          · refine z_bipush F (-5) dX12_ways_58 rfl ?_
            have eq1 := Option.some.inj hf
            obtain ⟨ee1, eq2⟩ := Prod.mk.inj eq1
            obtain ⟨ee2, eq3⟩ := Prod.mk.inj eq2
            obtain ⟨ee3, ee4⟩ := Prod.mk.inj eq3
            subst ee1
            subst ee2
            subst ee3
            subst ee4
            exact z_iret F rfl rfl rfl rfl dX12_ways_60
      · refine z_aload_n F 0 dX12_ways_31 rfl rfl ?_
        refine z_iload_n F 1 dX12_ways_32 rfl rfl ?_
        obtain ⟨r_36, hg, hf⟩ := zb1_some hf
        refine z_callVm (rest := []) F 12 (c_M_bookIs (xL X) G a_this a_height a_changeAt a_changeWas a_changeIs a_tape a_text a_names a_line a_row a_pastMany a_past a_changed a_greatest a_numbersWere a_told a_waysOf a_waysWere a_blocks a_ordersOf a_imageLine a_bodyKind a_trace a_shelf a_many a_items a_carried people keptMany done tapeMany textMany base at_ ends fault opened lineMany rowMany taller tallerBy pasts isKept imageMany bodies ran ownKind ownNumber shelf x1 r_36 hg) hy_X12_bookIs ml_X12_265 hd_X12_bookIs ⟨by omega, by omega⟩ rfl [0, 4] rfl rfl 0 rfl rfl (w_M_ways G a_this a_height a_changeAt a_changeWas a_changeIs a_tape a_text a_names a_line a_row a_pastMany a_past a_changed a_greatest a_numbersWere a_told a_waysOf a_waysWere a_blocks a_ordersOf a_imageLine a_bodyKind a_trace a_shelf a_many a_items a_carried people keptMany done tapeMany textMany base at_ ends fault opened lineMany rowMany taller tallerBy pasts isKept imageMany bodies ran ownKind ownNumber told waysOf waysWere shelf many items) [some 0, none, none, none, some 1, none, none] rfl (by decide +kernel) rfl rfl (Nat.le_of_ble_eq_true rfl) dX12_ways_33 (fun hz_37 => ?_)
        have eq1 := Option.some.inj hf
        obtain ⟨ee1, eq2⟩ := Prod.mk.inj eq1
        obtain ⟨ee2, eq3⟩ := Prod.mk.inj eq2
        obtain ⟨ee3, ee4⟩ := Prod.mk.inj eq3
        subst ee1
        subst ee2
        subst ee3
        subst ee4
        exact z_iret F rfl rfl rfl rfl dX12_ways_36
    · refine z_iconst F (-1) dX12_ways_21 rfl ?_
      have eq1 := Option.some.inj hf
      obtain ⟨ee1, eq2⟩ := Prod.mk.inj eq1
      obtain ⟨ee2, eq3⟩ := Prod.mk.inj eq2
      obtain ⟨ee3, ee4⟩ := Prod.mk.inj eq3
      subst ee1
      subst ee2
      subst ee3
      subst ee4
      exact z_iret F rfl rfl rfl rfl dX12_ways_22

abbrev w_M_gap (G : zG) (a_this : Nat) (a_height : Nat) (a_changeAt : Nat) (a_changeWas : Nat) (a_changeIs : Nat) (a_tape : Nat) (a_text : Nat) (a_names : Nat) (a_line : Nat) (a_row : Nat) (a_pastMany : Nat) (a_past : Nat) (a_changed : Nat) (a_greatest : Nat) (a_numbersWere : Nat) (a_told : Nat) (a_waysOf : Nat) (a_waysWere : Nat) (a_blocks : Nat) (a_ordersOf : Nat) (a_imageLine : Nat) (a_bodyKind : Nat) (a_trace : Nat) (a_shelf : Nat) (a_many : Nat) (a_items : Nat) (a_carried : Nat) (people : Int32) (keptMany : Int32) (done : Int32) (tapeMany : Int32) (textMany : Int32) (base : Int32) (at_ : Int32) (ends : Int32) (fault : Int32) (opened : Int32) (lineMany : Int32) (rowMany : Int32) (taller : Int32) (tallerBy : Int32) (pasts : Int32) (isKept : Int32) (imageMany : Int32) (bodies : Int32) (ran : Int32) (ownKind : Int32) (ownNumber : Int32) (height : Nat → Int32) (line : Nat → Int32) (row : Nat → Int32) (told : Nat → Int32) (shelf : Nat → Int32) (many : Nat → Int32) (items : Nat → Int64) : va_W := [(a_this, cO 12 [.int people, .ref a_height, .ref a_changeAt, .ref a_changeWas, .ref a_changeIs, .int keptMany, .int done, .ref a_tape, .int tapeMany, .ref a_text, .int textMany, .int base, .int at_, .int ends, .int fault, .int opened, .ref a_names, .ref a_line, .int lineMany, .ref a_row, .int rowMany, .int taller, .int tallerBy, .ref a_pastMany, .ref a_past, .int pasts, .ref a_changed, .ref a_greatest, .ref a_numbersWere, .ref a_told, .ref a_waysOf, .ref a_waysWere, .ref a_blocks, .ref a_ordersOf, .int isKept, .int imageMany, .ref a_imageLine, .int bodies, .ref a_bodyKind, .ref a_trace, .int ran, .int ownKind, .int ownNumber, .ref a_shelf, .ref a_many, .ref a_items, .ref a_carried]), (a_height, cI G 9 height), (a_line, cI G 9 line), (a_row, cI G 9 row), (a_told, cI G 9 told), (a_shelf, cI G 6 shelf), (a_many, cI G 6 many), (a_items, cJ G 360 items)]
def f_M_gap_L87 (lineMany : Int32) (told : Nat → Int32) : Nat → Int32 → Int32 → Int32 → Option (Int32 × Int32)
  | 0, _, _, _ => none
  | fuel + 1, v4, v5, v6 => (if lineMany ≤ v6 then (some (v4, v5)) else (zg told 9 v6 fun v_12 => (if (0 : Int32) ≤ v_12 then (zg told 9 v6 fun v_13 => (zg told 9 v6 fun v_14 => (if (0 : Int32) ≤ v_14 then (f_M_gap_L87 lineMany told fuel (v4 - v_13) v5 (v6 + 1)) else (f_M_gap_L87 lineMany told fuel (v4 - v_13) v6 (v6 + 1))))) else (zg told 9 v6 fun v_15 => (if (0 : Int32) ≤ v_15 then (f_M_gap_L87 lineMany told fuel (v4 - (0 : Int32)) v5 (v6 + 1)) else (f_M_gap_L87 lineMany told fuel (v4 - (0 : Int32)) v6 (v6 + 1)))))))
def f_M_gap (people : Int32) (lineMany : Int32) (rowMany : Int32) (taller : Int32) (height : Nat → Int32) (line : Nat → Int32) (row : Nat → Int32) (told : Nat → Int32) (shelf : Nat → Int32) (many : Nat → Int32) (items : Nat → Int64) (x1 : Int32) (x2 : Int32) (x3 : Int32) : Option (Int32 × Int32 × Int32 × (Nat → Int32) × (Nat → Int32)) := (if (f_M_isShelf x1) = 0 then (some ((-1), rowMany, taller, row, told)) else (if (f_M_within (Int32.toInt64 x2) 0 36) = 0 then (some ((-1), rowMany, taller, row, told)) else (if (f_M_within (Int32.toInt64 x3) 0 1) = 0 then (some ((-1), rowMany, taller, row, told)) else (zb1 (f_M_bookIs shelf x1) fun r_4 => (if (0 : Int32) ≤ r_4 then (zg many 6 x1 fun v_6 => (if v_6 < lineMany then (some ((-5), rowMany, taller, row, told)) else (zb1 (f_M_falseAt lineMany many items x1) fun r_7 => (if (0 : Int32) ≤ r_7 then (some ((-5), rowMany, taller, row, told)) else (zb2 (f_M_smearedIn lineMany told items x1) fun r_9 told_10 => (if r_9 = 1 then (zb2 (f_M_gap_L87 lineMany told_10 FU x2 0 0) fun v4_16 v5_17 => (if (f_M_within (Int32.toInt64 v4_16) 0 (Int32.toInt64 v5_17)) = 0 then (some ((-2), rowMany, taller, row, told_10)) else (zs told_10 9 v5_17 v4_16 fun told_19 => (zb3 (f_M_restores people lineMany rowMany taller height line row told_19) fun rowMany_20 taller_21 row_22 => (if x3 = 0 then (some (v4_16, rowMany_20, taller_21, row_22, told_19)) else (zg row_22 9 v5_17 fun v_24 => (some (v_24, rowMany_20, taller_21, row_22, told_19)))))))) else (some ((-5), rowMany, taller, row, told_10)))))))) else (zb1 (f_M_bookIs shelf x1) fun r_25 => (some (r_25, rowMany, taller, row, told))))))))
set_option maxRecDepth 100000 in
set_option maxHeartbeats 4000000 in
theorem l_M_gap_87 {X : zX} (G : zG) (a_this : Nat) (a_height : Nat) (a_changeAt : Nat) (a_changeWas : Nat) (a_changeIs : Nat) (a_tape : Nat) (a_text : Nat) (a_names : Nat) (a_line : Nat) (a_row : Nat) (a_pastMany : Nat) (a_past : Nat) (a_changed : Nat) (a_greatest : Nat) (a_numbersWere : Nat) (a_told : Nat) (a_waysOf : Nat) (a_waysWere : Nat) (a_blocks : Nat) (a_ordersOf : Nat) (a_imageLine : Nat) (a_bodyKind : Nat) (a_trace : Nat) (a_shelf : Nat) (a_many : Nat) (a_items : Nat) (a_carried : Nat) (people : Int32) (keptMany : Int32) (done : Int32) (tapeMany : Int32) (textMany : Int32) (base : Int32) (at_ : Int32) (ends : Int32) (fault : Int32) (opened : Int32) (lineMany : Int32) (rowMany : Int32) (taller : Int32) (tallerBy : Int32) (pasts : Int32) (isKept : Int32) (imageMany : Int32) (bodies : Int32) (ran : Int32) (ownKind : Int32) (ownNumber : Int32) (height : Nat → Int32) (line : Nat → Int32) (row : Nat → Int32) (told : Nat → Int32) (shelf : Nat → Int32) (many : Nat → Int32) (items : Nat → Int64) (v3 : Int32) {v0 : Option Value} {w0 : va_W} (F : zF X G cX12_gap RX12 7 (some .int) 3 69 v0 w0) (e_v4 : Int32) (e_v5 : Int32) (hk : Z X G 7 (w_M_gap G a_this a_height a_changeAt a_changeWas a_changeIs a_tape a_text a_names a_line a_row a_pastMany a_past a_changed a_greatest a_numbersWere a_told a_waysOf a_waysWere a_blocks a_ordersOf a_imageLine a_bodyKind a_trace a_shelf a_many a_items a_carried people keptMany done tapeMany textMany base at_ ends fault opened lineMany rowMany taller tallerBy pasts isKept imageMany bodies ran ownKind ownNumber height line row told shelf many items) [(0, .ref a_this), (3, .int v3), (4, .int e_v4), (5, .int e_v5)] 147 []) :
    ∀ (fuel : Nat) (v4 : Int32) (v5 : Int32) (v6 : Int32), f_M_gap_L87 lineMany told fuel v4 v5 v6 = some (e_v4, e_v5) → Z X G 7 (w_M_gap G a_this a_height a_changeAt a_changeWas a_changeIs a_tape a_text a_names a_line a_row a_pastMany a_past a_changed a_greatest a_numbersWere a_told a_waysOf a_waysWere a_blocks a_ordersOf a_imageLine a_bodyKind a_trace a_shelf a_many a_items a_carried people keptMany done tapeMany textMany base at_ ends fault opened lineMany rowMany taller tallerBy pasts isKept imageMany bodies ran ownKind ownNumber height line row told shelf many items) [(0, .ref a_this), (3, .int v3), (4, .int v4), (5, .int v5), (6, .int v6)] 87 [] := by
  intro fuel
  induction fuel with
  | zero => intro v4 v5 v6 hf; exact absurd ((f_M_gap_L87.eq_1 ..).symm.trans hf) (fun h => by cases h)
  | succ fuel ih =>
    intro v4 v5 v6 hf
    replace hf := (f_M_gap_L87.eq_2 ..).symm.trans hf
    refine z_iload F 4 dX12_gap_87 rfl ?_
    refine z_aload_n F 0 dX12_gap_89 rfl rfl ?_
    refine z_get F 0 12 18 inlX12 rfl rfl (by decide) fl_X12_100 rfl dX12_gap_90 ?_
    refine z_icmp_ge F 147 dX12_gap_93 (by decide) hf (fun hf _ => ?_) (fun hf _ => ?_)
    · have eq1 := Option.some.inj hf
      obtain ⟨ee1, ee2⟩ := Prod.mk.inj eq1
      subst ee1
      subst ee2
      exact z_sub [0, 1, 2, 3] rfl hk
    · refine z_iload F 2 dX12_gap_96 rfl ?_
      refine z_aload_n F 0 dX12_gap_98 rfl rfl ?_
      refine z_get F 0 12 29 inlX12 rfl rfl (by decide) fl_X12_52 rfl dX12_gap_99 ?_
      refine z_iload F 4 dX12_gap_102 rfl ?_
      refine z_iald F 4 rfl hf dX12_gap_104 (fun v_12 hf => ?_)
      refine z_if_ge F 112 dX12_gap_105 (by decide) hf (fun hf _ => ?_) (fun hf _ => ?_)
      · refine z_aload_n F 0 dX12_gap_112 rfl rfl ?_
        refine z_get F 0 12 29 inlX12 rfl rfl (by decide) fl_X12_52 rfl dX12_gap_113 ?_
        refine z_iload F 4 dX12_gap_116 rfl ?_
        refine z_iald F 4 rfl hf dX12_gap_118 (fun v_13 hf => ?_)
        refine z_isub F dX12_gap_119 ?_
        refine z_istore F [(4, .int (v4 - v_13)), (0, .ref a_this), (3, .int v3), (5, .int v5), (6, .int v6)] dX12_gap_120 (by decide) rfl ?_
        refine z_aload_n F 1 dX12_gap_122 rfl rfl ?_
        refine z_get F 0 12 29 inlX12 rfl rfl (by decide) fl_X12_52 rfl dX12_gap_123 ?_
        refine z_iload F 4 dX12_gap_126 rfl ?_
        refine z_iald F 4 rfl hf dX12_gap_128 (fun v_14 hf => ?_)
        refine z_if_ge F 137 dX12_gap_129 (by decide) hf (fun hf _ => ?_) (fun hf _ => ?_)
        · refine z_iload F 3 dX12_gap_137 rfl ?_
          refine z_istore F [(5, .int v5), (4, .int (v4 - v_13)), (0, .ref a_this), (3, .int v3), (6, .int v6)] dX12_gap_139 (by decide) rfl ?_
          refine z_iinc F [(6, .int (v6 + 1)), (5, .int v5), (4, .int (v4 - v_13)), (0, .ref a_this), (3, .int v3)] dX12_gap_141 4 rfl rfl (by decide) rfl ?_
          refine z_goto F 87 dX12_gap_144 (by decide) ?_
          exact z_sub [3, 4, 2, 1, 0] rfl (ih (v4 - v_13) v5 (v6 + 1) hf)
        · refine z_iload F 4 dX12_gap_132 rfl ?_
          refine z_goto F 139 dX12_gap_134 (by decide) ?_
          refine z_istore F [(5, .int v6), (4, .int (v4 - v_13)), (0, .ref a_this), (3, .int v3), (6, .int v6)] dX12_gap_139 (by decide) rfl ?_
          refine z_iinc F [(6, .int (v6 + 1)), (5, .int v6), (4, .int (v4 - v_13)), (0, .ref a_this), (3, .int v3)] dX12_gap_141 4 rfl rfl (by decide) rfl ?_
          refine z_goto F 87 dX12_gap_144 (by decide) ?_
          exact z_sub [3, 4, 2, 1, 0] rfl (ih (v4 - v_13) v6 (v6 + 1) hf)
      · refine z_iconst F (0) dX12_gap_108 rfl ?_
        refine z_goto F 119 dX12_gap_109 (by decide) ?_
        refine z_isub F dX12_gap_119 ?_
        refine z_istore F [(4, .int (v4 - (0 : Int32))), (0, .ref a_this), (3, .int v3), (5, .int v5), (6, .int v6)] dX12_gap_120 (by decide) rfl ?_
        refine z_aload_n F 1 dX12_gap_122 rfl rfl ?_
        refine z_get F 0 12 29 inlX12 rfl rfl (by decide) fl_X12_52 rfl dX12_gap_123 ?_
        refine z_iload F 4 dX12_gap_126 rfl ?_
        refine z_iald F 4 rfl hf dX12_gap_128 (fun v_15 hf => ?_)
        refine z_if_ge F 137 dX12_gap_129 (by decide) hf (fun hf _ => ?_) (fun hf _ => ?_)
        · refine z_iload F 3 dX12_gap_137 rfl ?_
          refine z_istore F [(5, .int v5), (4, .int (v4 - (0 : Int32))), (0, .ref a_this), (3, .int v3), (6, .int v6)] dX12_gap_139 (by decide) rfl ?_
          refine z_iinc F [(6, .int (v6 + 1)), (5, .int v5), (4, .int (v4 - (0 : Int32))), (0, .ref a_this), (3, .int v3)] dX12_gap_141 4 rfl rfl (by decide) rfl ?_
          refine z_goto F 87 dX12_gap_144 (by decide) ?_
          exact z_sub [3, 4, 2, 1, 0] rfl (ih (v4 - (0 : Int32)) v5 (v6 + 1) hf)
        · refine z_iload F 4 dX12_gap_132 rfl ?_
          refine z_goto F 139 dX12_gap_134 (by decide) ?_
          refine z_istore F [(5, .int v6), (4, .int (v4 - (0 : Int32))), (0, .ref a_this), (3, .int v3), (6, .int v6)] dX12_gap_139 (by decide) rfl ?_
          refine z_iinc F [(6, .int (v6 + 1)), (5, .int v6), (4, .int (v4 - (0 : Int32))), (0, .ref a_this), (3, .int v3)] dX12_gap_141 4 rfl rfl (by decide) rfl ?_
          refine z_goto F 87 dX12_gap_144 (by decide) ?_
          exact z_sub [3, 4, 2, 1, 0] rfl (ih (v4 - (0 : Int32)) v6 (v6 + 1) hf)

set_option maxRecDepth 100000 in
set_option maxHeartbeats 4000000 in
theorem c_M_gap (l : Launch) (G : zG) (a_this : Nat) (a_height : Nat) (a_changeAt : Nat) (a_changeWas : Nat) (a_changeIs : Nat) (a_tape : Nat) (a_text : Nat) (a_names : Nat) (a_line : Nat) (a_row : Nat) (a_pastMany : Nat) (a_past : Nat) (a_changed : Nat) (a_greatest : Nat) (a_numbersWere : Nat) (a_told : Nat) (a_waysOf : Nat) (a_waysWere : Nat) (a_blocks : Nat) (a_ordersOf : Nat) (a_imageLine : Nat) (a_bodyKind : Nat) (a_trace : Nat) (a_shelf : Nat) (a_many : Nat) (a_items : Nat) (a_carried : Nat) (people : Int32) (keptMany : Int32) (done : Int32) (tapeMany : Int32) (textMany : Int32) (base : Int32) (at_ : Int32) (ends : Int32) (fault : Int32) (opened : Int32) (lineMany : Int32) (rowMany : Int32) (taller : Int32) (tallerBy : Int32) (pasts : Int32) (isKept : Int32) (imageMany : Int32) (bodies : Int32) (ran : Int32) (ownKind : Int32) (ownNumber : Int32) (height : Nat → Int32) (line : Nat → Int32) (row : Nat → Int32) (told : Nat → Int32) (shelf : Nat → Int32) (many : Nat → Int32) (items : Nat → Int64) (x1 : Int32) (x2 : Int32) (x3 : Int32) (r_ : Int32) (o_rowMany : Int32) (o_taller : Int32) (o_row : Nat → Int32) (o_told : Nat → Int32) (hf : f_M_gap people lineMany rowMany taller height line row told shelf many items x1 x2 x3 = some (r_, o_rowMany, o_taller, o_row, o_told)) : zM l yX12_gap cX12_gap 7 (some .int) 3 69 G [.ref a_this, .int x1, .int x2, .int x3] (w_M_gap G a_this a_height a_changeAt a_changeWas a_changeIs a_tape a_text a_names a_line a_row a_pastMany a_past a_changed a_greatest a_numbersWere a_told a_waysOf a_waysWere a_blocks a_ordersOf a_imageLine a_bodyKind a_trace a_shelf a_many a_items a_carried people keptMany done tapeMany textMany base at_ ends fault opened lineMany rowMany taller tallerBy pasts isKept imageMany bodies ran ownKind ownNumber height line row told shelf many items) (some (.int r_)) (w_M_gap G a_this a_height a_changeAt a_changeWas a_changeIs a_tape a_text a_names a_line a_row a_pastMany a_past a_changed a_greatest a_numbersWere a_told a_waysOf a_waysWere a_blocks a_ordersOf a_imageLine a_bodyKind a_trace a_shelf a_many a_items a_carried people keptMany done tapeMany textMany base at_ ends fault opened lineMany o_rowMany o_taller tallerBy pasts isKept imageMany bodies ran ownKind ownNumber height line o_row o_told shelf many items) := by
  refine zM.of [(0, .ref a_this), (1, .int x1), (2, .int x2), (3, .int x3)] (own := RX12) rfl (by decide +kernel) (Nat.le_of_ble_eq_true rfl) rfl rfl fun X hX F => ?_
  subst hX
  replace hf := (f_M_gap.eq_1 ..).symm.trans hf
  refine z_iload_n F 1 dX12_gap_0 rfl rfl ?_
  refine z_callSm (rest := []) F (c_M_isShelf (xL X) G x1 _ rfl) hy_X12_isShelf ml_X12_113 hd_X12_isShelf ⟨by omega, by omega⟩ rfl [] rfl rfl (w_M_gap G a_this a_height a_changeAt a_changeWas a_changeIs a_tape a_text a_names a_line a_row a_pastMany a_past a_changed a_greatest a_numbersWere a_told a_waysOf a_waysWere a_blocks a_ordersOf a_imageLine a_bodyKind a_trace a_shelf a_many a_items a_carried people keptMany done tapeMany textMany base at_ ends fault opened lineMany rowMany taller tallerBy pasts isKept imageMany bodies ran ownKind ownNumber height line row told shelf many items) [none, none, none, none, none, none, none, none] rfl (by decide +kernel) rfl rfl (Nat.le_of_ble_eq_true rfl) dX12_gap_1 (fun hz_1 => ?_)
  refine z_if_eq F 29 dX12_gap_4 (by decide) hf (fun hf _ => ?_) (fun hf _ => ?_)
  · refine z_iconst F (-1) dX12_gap_29 rfl ?_
    have eq1 := Option.some.inj hf
    obtain ⟨ee1, eq2⟩ := Prod.mk.inj eq1
    obtain ⟨ee2, eq3⟩ := Prod.mk.inj eq2
    obtain ⟨ee3, eq4⟩ := Prod.mk.inj eq3
    obtain ⟨ee4, ee5⟩ := Prod.mk.inj eq4
    subst ee1
    subst ee2
    subst ee3
    subst ee4
    subst ee5
    exact z_iret F rfl rfl rfl rfl dX12_gap_30
  · refine z_iload_n F 2 dX12_gap_7 rfl rfl ?_
    refine z_i2l F dX12_gap_8 ?_
    refine z_lconst F (0) dX12_gap_9 rfl ?_
    refine z_ldc2 F (36) (uw38 _ (List.mem_of_getElem? (i := 14) rfl)) dX12_gap_10 ?_
    refine z_callSm (rest := []) F (c_M_within (xL X) G (Int32.toInt64 x2) 0 36 _ rfl) hy_X12_within ml_X12_96 hd_X12_within ⟨by omega, by omega⟩ rfl [] rfl rfl (w_M_gap G a_this a_height a_changeAt a_changeWas a_changeIs a_tape a_text a_names a_line a_row a_pastMany a_past a_changed a_greatest a_numbersWere a_told a_waysOf a_waysWere a_blocks a_ordersOf a_imageLine a_bodyKind a_trace a_shelf a_many a_items a_carried people keptMany done tapeMany textMany base at_ ends fault opened lineMany rowMany taller tallerBy pasts isKept imageMany bodies ran ownKind ownNumber height line row told shelf many items) [none, none, none, none, none, none, none, none] rfl (by decide +kernel) rfl rfl (Nat.le_of_ble_eq_true rfl) dX12_gap_13 (fun hz_2 => ?_)
    refine z_if_eq F 29 dX12_gap_16 (by decide) hf (fun hf _ => ?_) (fun hf _ => ?_)
    · refine z_iconst F (-1) dX12_gap_29 rfl ?_
      have eq1 := Option.some.inj hf
      obtain ⟨ee1, eq2⟩ := Prod.mk.inj eq1
      obtain ⟨ee2, eq3⟩ := Prod.mk.inj eq2
      obtain ⟨ee3, eq4⟩ := Prod.mk.inj eq3
      obtain ⟨ee4, ee5⟩ := Prod.mk.inj eq4
      subst ee1
      subst ee2
      subst ee3
      subst ee4
      subst ee5
      exact z_iret F rfl rfl rfl rfl dX12_gap_30
    · refine z_iload_n F 3 dX12_gap_19 rfl rfl ?_
      refine z_i2l F dX12_gap_20 ?_
      refine z_lconst F (0) dX12_gap_21 rfl ?_
      refine z_lconst F (1) dX12_gap_22 rfl ?_
      refine z_callSm (rest := []) F (c_M_within (xL X) G (Int32.toInt64 x3) 0 1 _ rfl) hy_X12_within ml_X12_96 hd_X12_within ⟨by omega, by omega⟩ rfl [] rfl rfl (w_M_gap G a_this a_height a_changeAt a_changeWas a_changeIs a_tape a_text a_names a_line a_row a_pastMany a_past a_changed a_greatest a_numbersWere a_told a_waysOf a_waysWere a_blocks a_ordersOf a_imageLine a_bodyKind a_trace a_shelf a_many a_items a_carried people keptMany done tapeMany textMany base at_ ends fault opened lineMany rowMany taller tallerBy pasts isKept imageMany bodies ran ownKind ownNumber height line row told shelf many items) [none, none, none, none, none, none, none, none] rfl (by decide +kernel) rfl rfl (Nat.le_of_ble_eq_true rfl) dX12_gap_23 (fun hz_3 => ?_)
      refine z_if_ne F 31 dX12_gap_26 (by decide) hf (fun hf _ => ?_) (fun hf _ => ?_)
      · refine z_aload_n F 0 dX12_gap_31 rfl rfl ?_
        refine z_iload_n F 1 dX12_gap_32 rfl rfl ?_
        obtain ⟨r_4, hg, hf⟩ := zb1_some hf
        refine z_callVm (rest := []) F 12 (c_M_bookIs (xL X) G a_this a_height a_changeAt a_changeWas a_changeIs a_tape a_text a_names a_line a_row a_pastMany a_past a_changed a_greatest a_numbersWere a_told a_waysOf a_waysWere a_blocks a_ordersOf a_imageLine a_bodyKind a_trace a_shelf a_many a_items a_carried people keptMany done tapeMany textMany base at_ ends fault opened lineMany rowMany taller tallerBy pasts isKept imageMany bodies ran ownKind ownNumber shelf x1 r_4 hg) hy_X12_bookIs ml_X12_265 hd_X12_bookIs ⟨by omega, by omega⟩ rfl [0, 5] rfl rfl 0 rfl rfl (w_M_gap G a_this a_height a_changeAt a_changeWas a_changeIs a_tape a_text a_names a_line a_row a_pastMany a_past a_changed a_greatest a_numbersWere a_told a_waysOf a_waysWere a_blocks a_ordersOf a_imageLine a_bodyKind a_trace a_shelf a_many a_items a_carried people keptMany done tapeMany textMany base at_ ends fault opened lineMany rowMany taller tallerBy pasts isKept imageMany bodies ran ownKind ownNumber height line row told shelf many items) [some 0, none, none, none, none, some 1, none, none] rfl (by decide +kernel) rfl rfl (Nat.le_of_ble_eq_true rfl) dX12_gap_33 (fun hz_5 => ?_)
        refine z_if_ge F 45 dX12_gap_36 (by decide) hf (fun hf _ => ?_) (fun hf _ => ?_)
        · refine z_aload_n F 0 dX12_gap_45 rfl rfl ?_
          refine z_get F 0 12 44 inlX12 rfl rfl (by decide) fl_X12_79 rfl dX12_gap_46 ?_
          refine z_iload_n F 1 dX12_gap_49 rfl rfl ?_
          refine z_iald F 6 rfl hf dX12_gap_50 (fun v_6 hf => ?_)
          refine z_aload_n F 0 dX12_gap_51 rfl rfl ?_
          refine z_get F 0 12 18 inlX12 rfl rfl (by decide) fl_X12_100 rfl dX12_gap_52 ?_
          refine z_icmp_lt F 75 dX12_gap_55 (by decide) hf (fun hf _ => ?_) (fun hf _ => ?_)
          · refine z_bipush F (-5) dX12_gap_75 rfl ?_
            have eq1 := Option.some.inj hf
            obtain ⟨ee1, eq2⟩ := Prod.mk.inj eq1
            obtain ⟨ee2, eq3⟩ := Prod.mk.inj eq2
            obtain ⟨ee3, eq4⟩ := Prod.mk.inj eq3
            obtain ⟨ee4, ee5⟩ := Prod.mk.inj eq4
            subst ee1
            subst ee2
            subst ee3
            subst ee4
            subst ee5
            exact z_iret F rfl rfl rfl rfl dX12_gap_77
          · refine z_aload_n F 0 dX12_gap_58 rfl rfl ?_
            refine z_iload_n F 1 dX12_gap_59 rfl rfl ?_
            obtain ⟨r_7, hg, hf⟩ := zb1_some hf
            refine z_callVm (rest := []) F 12 (c_M_falseAt (xL X) G a_this a_height a_changeAt a_changeWas a_changeIs a_tape a_text a_names a_line a_row a_pastMany a_past a_changed a_greatest a_numbersWere a_told a_waysOf a_waysWere a_blocks a_ordersOf a_imageLine a_bodyKind a_trace a_shelf a_many a_items a_carried people keptMany done tapeMany textMany base at_ ends fault opened lineMany rowMany taller tallerBy pasts isKept imageMany bodies ran ownKind ownNumber many items x1 r_7 hg) hy_X12_falseAt ml_X12_268 hd_X12_falseAt ⟨by omega, by omega⟩ rfl [0, 6, 7] rfl rfl 0 rfl rfl (w_M_gap G a_this a_height a_changeAt a_changeWas a_changeIs a_tape a_text a_names a_line a_row a_pastMany a_past a_changed a_greatest a_numbersWere a_told a_waysOf a_waysWere a_blocks a_ordersOf a_imageLine a_bodyKind a_trace a_shelf a_many a_items a_carried people keptMany done tapeMany textMany base at_ ends fault opened lineMany rowMany taller tallerBy pasts isKept imageMany bodies ran ownKind ownNumber height line row told shelf many items) [some 0, none, none, none, none, none, some 1, some 2] rfl (by decide +kernel) rfl rfl (Nat.le_of_ble_eq_true rfl) dX12_gap_60 (fun hz_8 => ?_)
            refine z_if_ge F 75 dX12_gap_63 (by decide) hf (fun hf _ => ?_) (fun hf _ => ?_)
            · refine z_bipush F (-5) dX12_gap_75 rfl ?_
              have eq1 := Option.some.inj hf
              obtain ⟨ee1, eq2⟩ := Prod.mk.inj eq1
              obtain ⟨ee2, eq3⟩ := Prod.mk.inj eq2
              obtain ⟨ee3, eq4⟩ := Prod.mk.inj eq3
              obtain ⟨ee4, ee5⟩ := Prod.mk.inj eq4
              subst ee1
              subst ee2
              subst ee3
              subst ee4
              subst ee5
              exact z_iret F rfl rfl rfl rfl dX12_gap_77
            · refine z_aload_n F 0 dX12_gap_66 rfl rfl ?_
              refine z_iload_n F 1 dX12_gap_67 rfl rfl ?_
              obtain ⟨r_9, told_10, hg, hf⟩ := zb2_some hf
              refine z_callVm (rest := []) F 12 (c_M_smearedIn (xL X) G a_this a_height a_changeAt a_changeWas a_changeIs a_tape a_text a_names a_line a_row a_pastMany a_past a_changed a_greatest a_numbersWere a_told a_waysOf a_waysWere a_blocks a_ordersOf a_imageLine a_bodyKind a_trace a_shelf a_many a_items a_carried people keptMany done tapeMany textMany base at_ ends fault opened lineMany rowMany taller tallerBy pasts isKept imageMany bodies ran ownKind ownNumber told items x1 r_9 told_10 hg) hy_X12_smearedIn ml_X12_278 hd_X12_smearedIn ⟨by omega, by omega⟩ rfl [0, 4, 7] rfl rfl 0 rfl rfl (w_M_gap G a_this a_height a_changeAt a_changeWas a_changeIs a_tape a_text a_names a_line a_row a_pastMany a_past a_changed a_greatest a_numbersWere a_told a_waysOf a_waysWere a_blocks a_ordersOf a_imageLine a_bodyKind a_trace a_shelf a_many a_items a_carried people keptMany done tapeMany textMany base at_ ends fault opened lineMany rowMany taller tallerBy pasts isKept imageMany bodies ran ownKind ownNumber height line row told_10 shelf many items) [some 0, none, none, none, some 1, none, none, some 2] rfl (by decide +kernel) rfl rfl (Nat.le_of_ble_eq_true rfl) dX12_gap_68 (fun hz_11 => ?_)
              refine z_iconst F (1) dX12_gap_71 rfl ?_
              refine z_icmp_eq F 78 dX12_gap_72 (by decide) hf (fun hf _ => ?_) (fun hf _ => ?_)
              · refine z_iload_n F 2 dX12_gap_78 rfl rfl ?_
                refine z_istore F [(4, .int x2), (0, .ref a_this), (1, .int x1), (2, .int x2), (3, .int x3)] dX12_gap_79 (by decide) rfl ?_
                refine z_iconst F (0) dX12_gap_81 rfl ?_
                refine z_istore F [(5, .int 0), (4, .int x2), (0, .ref a_this), (1, .int x1), (2, .int x2), (3, .int x3)] dX12_gap_82 (by decide) rfl ?_
                refine z_iconst F (0) dX12_gap_84 rfl ?_
                refine z_istore F [(6, .int 0), (5, .int 0), (4, .int x2), (0, .ref a_this), (1, .int x1), (2, .int x2), (3, .int x3)] dX12_gap_85 (by decide) rfl ?_
                obtain ⟨v4_16, v5_17, hg, hf⟩ := zb2_some hf
                refine z_sub [3, 6, 2, 1, 0] rfl ?_
                refine l_M_gap_87 G a_this a_height a_changeAt a_changeWas a_changeIs a_tape a_text a_names a_line a_row a_pastMany a_past a_changed a_greatest a_numbersWere a_told a_waysOf a_waysWere a_blocks a_ordersOf a_imageLine a_bodyKind a_trace a_shelf a_many a_items a_carried people keptMany done tapeMany textMany base at_ ends fault opened lineMany rowMany taller tallerBy pasts isKept imageMany bodies ran ownKind ownNumber height line row told_10 shelf many items x3 F v4_16 v5_17 ?_ FU x2 0 0 hg
                refine z_iload F 2 dX12_gap_147 rfl ?_
                refine z_i2l F dX12_gap_149 ?_
                refine z_lconst F (0) dX12_gap_150 rfl ?_
                refine z_iload F 3 dX12_gap_151 rfl ?_
                refine z_i2l F dX12_gap_153 ?_
                refine z_callSm (rest := []) F (c_M_within (xL X) G (Int32.toInt64 v4_16) 0 (Int32.toInt64 v5_17) _ rfl) hy_X12_within ml_X12_96 hd_X12_within ⟨by omega, by omega⟩ rfl [] rfl rfl (w_M_gap G a_this a_height a_changeAt a_changeWas a_changeIs a_tape a_text a_names a_line a_row a_pastMany a_past a_changed a_greatest a_numbersWere a_told a_waysOf a_waysWere a_blocks a_ordersOf a_imageLine a_bodyKind a_trace a_shelf a_many a_items a_carried people keptMany done tapeMany textMany base at_ ends fault opened lineMany rowMany taller tallerBy pasts isKept imageMany bodies ran ownKind ownNumber height line row told_10 shelf many items) [none, none, none, none, none, none, none, none] rfl (by decide +kernel) rfl rfl (Nat.le_of_ble_eq_true rfl) dX12_gap_154 (fun hz_18 => ?_)
                refine z_if_ne F 163 dX12_gap_157 (by decide) hf (fun hf _ => ?_) (fun hf _ => ?_)
                · refine z_aload_n F 0 dX12_gap_163 rfl rfl ?_
                  refine z_get F 0 12 29 inlX12 rfl rfl (by decide) fl_X12_52 rfl dX12_gap_164 ?_
                  refine z_iload F 3 dX12_gap_167 rfl ?_
                  refine z_iload F 2 dX12_gap_169 rfl ?_
                  refine z_iast F 4 (fun told_19 => (w_M_gap G a_this a_height a_changeAt a_changeWas a_changeIs a_tape a_text a_names a_line a_row a_pastMany a_past a_changed a_greatest a_numbersWere a_told a_waysOf a_waysWere a_blocks a_ordersOf a_imageLine a_bodyKind a_trace a_shelf a_many a_items a_carried people keptMany done tapeMany textMany base at_ ends fault opened lineMany rowMany taller tallerBy pasts isKept imageMany bodies ran ownKind ownNumber height line row told_19 shelf many items)) rfl hf (fun _ => rfl) dX12_gap_171 (fun told_19 hf => ?_)
                  refine z_aload_n F 0 dX12_gap_172 rfl rfl ?_
                  obtain ⟨rowMany_20, taller_21, row_22, hg, hf⟩ := zb3_some hf
                  refine z_callVm (rest := []) F 12 (c_M_restores (xL X) G a_this a_height a_changeAt a_changeWas a_changeIs a_tape a_text a_names a_line a_row a_pastMany a_past a_changed a_greatest a_numbersWere a_told a_waysOf a_waysWere a_blocks a_ordersOf a_imageLine a_bodyKind a_trace a_shelf a_many a_items a_carried people keptMany done tapeMany textMany base at_ ends fault opened lineMany rowMany taller tallerBy pasts isKept imageMany bodies ran ownKind ownNumber height line row told_19 rowMany_20 taller_21 row_22 hg) hy_X12_restores ml_X12_281 hd_X12_restores ⟨by omega, by omega⟩ rfl [0, 1, 2, 3, 4] rfl rfl 0 rfl rfl (w_M_gap G a_this a_height a_changeAt a_changeWas a_changeIs a_tape a_text a_names a_line a_row a_pastMany a_past a_changed a_greatest a_numbersWere a_told a_waysOf a_waysWere a_blocks a_ordersOf a_imageLine a_bodyKind a_trace a_shelf a_many a_items a_carried people keptMany done tapeMany textMany base at_ ends fault opened lineMany rowMany_20 taller_21 tallerBy pasts isKept imageMany bodies ran ownKind ownNumber height line row_22 told_19 shelf many items) [some 0, some 1, some 2, some 3, some 4, none, none, none] rfl (by decide +kernel) rfl rfl (Nat.le_of_ble_eq_true rfl) dX12_gap_173 (fun hz_23 => ?_)
                  refine z_iload_n F 1 dX12_gap_176 rfl rfl ?_
                  refine z_if_ne F 185 dX12_gap_177 (by decide) hf (fun hf _ => ?_) (fun hf _ => ?_)
                  · refine z_aload_n F 0 dX12_gap_185 rfl rfl ?_
                    refine z_get F 0 12 19 inlX12 rfl rfl (by decide) fl_X12_34 rfl dX12_gap_186 ?_
                    refine z_iload F 3 dX12_gap_189 rfl ?_
                    refine z_iald F 3 rfl hf dX12_gap_191 (fun v_24 hf => ?_)
                    have eq1 := Option.some.inj hf
                    obtain ⟨ee1, eq2⟩ := Prod.mk.inj eq1
                    obtain ⟨ee2, eq3⟩ := Prod.mk.inj eq2
                    obtain ⟨ee3, eq4⟩ := Prod.mk.inj eq3
                    obtain ⟨ee4, ee5⟩ := Prod.mk.inj eq4
                    subst ee1
                    subst ee2
                    subst ee3
                    subst ee4
                    subst ee5
                    exact z_iret F rfl rfl rfl rfl dX12_gap_192
                  · refine z_iload F 2 dX12_gap_180 rfl ?_
                    refine z_goto F 192 dX12_gap_182 (by decide) ?_
                    have eq1 := Option.some.inj hf
                    obtain ⟨ee1, eq2⟩ := Prod.mk.inj eq1
                    obtain ⟨ee2, eq3⟩ := Prod.mk.inj eq2
                    obtain ⟨ee3, eq4⟩ := Prod.mk.inj eq3
                    obtain ⟨ee4, ee5⟩ := Prod.mk.inj eq4
                    subst ee1
                    subst ee2
                    subst ee3
                    subst ee4
                    subst ee5
                    exact z_iret F rfl rfl rfl rfl dX12_gap_192
                · refine z_bipush F (-2) dX12_gap_160 rfl ?_
                  have eq1 := Option.some.inj hf
                  obtain ⟨ee1, eq2⟩ := Prod.mk.inj eq1
                  obtain ⟨ee2, eq3⟩ := Prod.mk.inj eq2
                  obtain ⟨ee3, eq4⟩ := Prod.mk.inj eq3
                  obtain ⟨ee4, ee5⟩ := Prod.mk.inj eq4
                  subst ee1
                  subst ee2
                  subst ee3
                  subst ee4
                  subst ee5
                  exact z_iret F rfl rfl rfl rfl dX12_gap_162
              · refine z_bipush F (-5) dX12_gap_75 rfl ?_
                have eq1 := Option.some.inj hf
                obtain ⟨ee1, eq2⟩ := Prod.mk.inj eq1
                obtain ⟨ee2, eq3⟩ := Prod.mk.inj eq2
                obtain ⟨ee3, eq4⟩ := Prod.mk.inj eq3
                obtain ⟨ee4, ee5⟩ := Prod.mk.inj eq4
                subst ee1
                subst ee2
                subst ee3
                subst ee4
                subst ee5
                exact z_iret F rfl rfl rfl rfl dX12_gap_77
        · refine z_aload_n F 0 dX12_gap_39 rfl rfl ?_
          refine z_iload_n F 1 dX12_gap_40 rfl rfl ?_
          obtain ⟨r_25, hg, hf⟩ := zb1_some hf
          refine z_callVm (rest := []) F 12 (c_M_bookIs (xL X) G a_this a_height a_changeAt a_changeWas a_changeIs a_tape a_text a_names a_line a_row a_pastMany a_past a_changed a_greatest a_numbersWere a_told a_waysOf a_waysWere a_blocks a_ordersOf a_imageLine a_bodyKind a_trace a_shelf a_many a_items a_carried people keptMany done tapeMany textMany base at_ ends fault opened lineMany rowMany taller tallerBy pasts isKept imageMany bodies ran ownKind ownNumber shelf x1 r_25 hg) hy_X12_bookIs ml_X12_265 hd_X12_bookIs ⟨by omega, by omega⟩ rfl [0, 5] rfl rfl 0 rfl rfl (w_M_gap G a_this a_height a_changeAt a_changeWas a_changeIs a_tape a_text a_names a_line a_row a_pastMany a_past a_changed a_greatest a_numbersWere a_told a_waysOf a_waysWere a_blocks a_ordersOf a_imageLine a_bodyKind a_trace a_shelf a_many a_items a_carried people keptMany done tapeMany textMany base at_ ends fault opened lineMany rowMany taller tallerBy pasts isKept imageMany bodies ran ownKind ownNumber height line row told shelf many items) [some 0, none, none, none, none, some 1, none, none] rfl (by decide +kernel) rfl rfl (Nat.le_of_ble_eq_true rfl) dX12_gap_41 (fun hz_26 => ?_)
          have eq1 := Option.some.inj hf
          obtain ⟨ee1, eq2⟩ := Prod.mk.inj eq1
          obtain ⟨ee2, eq3⟩ := Prod.mk.inj eq2
          obtain ⟨ee3, eq4⟩ := Prod.mk.inj eq3
          obtain ⟨ee4, ee5⟩ := Prod.mk.inj eq4
          subst ee1
          subst ee2
          subst ee3
          subst ee4
          subst ee5
          exact z_iret F rfl rfl rfl rfl dX12_gap_44
      · refine z_iconst F (-1) dX12_gap_29 rfl ?_
        have eq1 := Option.some.inj hf
        obtain ⟨ee1, eq2⟩ := Prod.mk.inj eq1
        obtain ⟨ee2, eq3⟩ := Prod.mk.inj eq2
        obtain ⟨ee3, eq4⟩ := Prod.mk.inj eq3
        obtain ⟨ee4, ee5⟩ := Prod.mk.inj eq4
        subst ee1
        subst ee2
        subst ee3
        subst ee4
        subst ee5
        exact z_iret F rfl rfl rfl rfl dX12_gap_30

abbrev w_M_rowsOf (G : zG) (a_this : Nat) (a_height : Nat) (a_changeAt : Nat) (a_changeWas : Nat) (a_changeIs : Nat) (a_tape : Nat) (a_text : Nat) (a_names : Nat) (a_line : Nat) (a_row : Nat) (a_pastMany : Nat) (a_past : Nat) (a_changed : Nat) (a_greatest : Nat) (a_numbersWere : Nat) (a_told : Nat) (a_waysOf : Nat) (a_waysWere : Nat) (a_blocks : Nat) (a_ordersOf : Nat) (a_imageLine : Nat) (a_bodyKind : Nat) (a_trace : Nat) (a_shelf : Nat) (a_many : Nat) (a_items : Nat) (a_carried : Nat) (people : Int32) (keptMany : Int32) (done : Int32) (tapeMany : Int32) (textMany : Int32) (base : Int32) (at_ : Int32) (ends : Int32) (fault : Int32) (opened : Int32) (lineMany : Int32) (rowMany : Int32) (taller : Int32) (tallerBy : Int32) (pasts : Int32) (isKept : Int32) (imageMany : Int32) (bodies : Int32) (ran : Int32) (ownKind : Int32) (ownNumber : Int32) (waysOf : Nat → Int32) (waysWere : Nat → Int32) : va_W := [(a_this, cO 12 [.int people, .ref a_height, .ref a_changeAt, .ref a_changeWas, .ref a_changeIs, .int keptMany, .int done, .ref a_tape, .int tapeMany, .ref a_text, .int textMany, .int base, .int at_, .int ends, .int fault, .int opened, .ref a_names, .ref a_line, .int lineMany, .ref a_row, .int rowMany, .int taller, .int tallerBy, .ref a_pastMany, .ref a_past, .int pasts, .ref a_changed, .ref a_greatest, .ref a_numbersWere, .ref a_told, .ref a_waysOf, .ref a_waysWere, .ref a_blocks, .ref a_ordersOf, .int isKept, .int imageMany, .ref a_imageLine, .int bodies, .ref a_bodyKind, .ref a_trace, .int ran, .int ownKind, .int ownNumber, .ref a_shelf, .ref a_many, .ref a_items, .ref a_carried]), (a_waysOf, cI G 37 waysOf), (a_waysWere, cI G 37 waysWere)]
def f_M_rowsOf_L6 (v1 : Int32) : Nat → (Nat → Int32) → (Nat → Int32) → Int32 → Option ((Nat → Int32) × (Nat → Int32))
  | 0, _, _, _ => none
  | fuel + 1, waysOf, waysWere, v3 => (if v1 ≤ v3 then (some (waysOf, waysWere)) else (zb2 (f_M_addsPlace waysOf waysWere 0 v3) fun waysOf_3 waysWere_4 => (f_M_rowsOf_L6 v1 fuel waysOf_3 waysWere_4 (v3 + 1))))
def f_M_rowsOf (waysOf : Nat → Int32) (waysWere : Nat → Int32) (x1 : Int32) (x2 : Int32) : Option (Int32 × (Nat → Int32) × (Nat → Int32)) := (zb1 (f_M_noWays waysOf) fun waysOf_1 => (zb2 (f_M_rowsOf_L6 x1 FU waysOf_1 waysWere 0) fun waysOf_6 waysWere_7 => (if (f_M_within (Int32.toInt64 x2) 0 36) = 0 then (some (0, waysOf_6, waysWere_7)) else (zg waysOf_6 37 x2 fun v_9 => (some (v_9, waysOf_6, waysWere_7))))))
set_option maxRecDepth 100000 in
set_option maxHeartbeats 4000000 in
theorem l_M_rowsOf_6 {X : zX} (G : zG) (a_this : Nat) (a_height : Nat) (a_changeAt : Nat) (a_changeWas : Nat) (a_changeIs : Nat) (a_tape : Nat) (a_text : Nat) (a_names : Nat) (a_line : Nat) (a_row : Nat) (a_pastMany : Nat) (a_past : Nat) (a_changed : Nat) (a_greatest : Nat) (a_numbersWere : Nat) (a_told : Nat) (a_waysOf : Nat) (a_waysWere : Nat) (a_blocks : Nat) (a_ordersOf : Nat) (a_imageLine : Nat) (a_bodyKind : Nat) (a_trace : Nat) (a_shelf : Nat) (a_many : Nat) (a_items : Nat) (a_carried : Nat) (people : Int32) (keptMany : Int32) (done : Int32) (tapeMany : Int32) (textMany : Int32) (base : Int32) (at_ : Int32) (ends : Int32) (fault : Int32) (opened : Int32) (lineMany : Int32) (rowMany : Int32) (taller : Int32) (tallerBy : Int32) (pasts : Int32) (isKept : Int32) (imageMany : Int32) (bodies : Int32) (ran : Int32) (ownKind : Int32) (ownNumber : Int32) (v1 : Int32) (v2 : Int32) {v0 : Option Value} {w0 : va_W} (F : zF X G cX12_rowsOf RX12 4 (some .int) 1 25 v0 w0) (e_waysOf : Nat → Int32) (e_waysWere : Nat → Int32) (hk : Z X G 4 (w_M_rowsOf G a_this a_height a_changeAt a_changeWas a_changeIs a_tape a_text a_names a_line a_row a_pastMany a_past a_changed a_greatest a_numbersWere a_told a_waysOf a_waysWere a_blocks a_ordersOf a_imageLine a_bodyKind a_trace a_shelf a_many a_items a_carried people keptMany done tapeMany textMany base at_ ends fault opened lineMany rowMany taller tallerBy pasts isKept imageMany bodies ran ownKind ownNumber e_waysOf e_waysWere) [(0, .ref a_this), (2, .int v2)] 23 []) :
    ∀ (fuel : Nat) (waysOf : Nat → Int32) (waysWere : Nat → Int32) (v3 : Int32), f_M_rowsOf_L6 v1 fuel waysOf waysWere v3 = some (e_waysOf, e_waysWere) → Z X G 4 (w_M_rowsOf G a_this a_height a_changeAt a_changeWas a_changeIs a_tape a_text a_names a_line a_row a_pastMany a_past a_changed a_greatest a_numbersWere a_told a_waysOf a_waysWere a_blocks a_ordersOf a_imageLine a_bodyKind a_trace a_shelf a_many a_items a_carried people keptMany done tapeMany textMany base at_ ends fault opened lineMany rowMany taller tallerBy pasts isKept imageMany bodies ran ownKind ownNumber waysOf waysWere) [(0, .ref a_this), (1, .int v1), (2, .int v2), (3, .int v3)] 6 [] := by
  intro fuel
  induction fuel with
  | zero => intro waysOf waysWere v3 hf; exact absurd ((f_M_rowsOf_L6.eq_1 ..).symm.trans hf) (fun h => by cases h)
  | succ fuel ih =>
    intro waysOf waysWere v3 hf
    replace hf := (f_M_rowsOf_L6.eq_2 ..).symm.trans hf
    refine z_iload_n F 3 dX12_rowsOf_6 rfl rfl ?_
    refine z_iload_n F 1 dX12_rowsOf_7 rfl rfl ?_
    refine z_icmp_ge F 23 dX12_rowsOf_8 (by decide) hf (fun hf _ => ?_) (fun hf _ => ?_)
    · have eq1 := Option.some.inj hf
      obtain ⟨ee1, ee2⟩ := Prod.mk.inj eq1
      subst ee1
      subst ee2
      exact z_sub [0, 2] rfl hk
    · refine z_aload_n F 0 dX12_rowsOf_11 rfl rfl ?_
      refine z_iconst F (0) dX12_rowsOf_12 rfl ?_
      refine z_iload_n F 3 dX12_rowsOf_13 rfl rfl ?_
      obtain ⟨waysOf_3, waysWere_4, hg, hf⟩ := zb2_some hf
      refine z_callVm (rest := []) F 12 (c_M_addsPlace (xL X) G a_this a_height a_changeAt a_changeWas a_changeIs a_tape a_text a_names a_line a_row a_pastMany a_past a_changed a_greatest a_numbersWere a_told a_waysOf a_waysWere a_blocks a_ordersOf a_imageLine a_bodyKind a_trace a_shelf a_many a_items a_carried people keptMany done tapeMany textMany base at_ ends fault opened lineMany rowMany taller tallerBy pasts isKept imageMany bodies ran ownKind ownNumber waysOf waysWere 0 v3 waysOf_3 waysWere_4 hg) hy_X12_addsPlace ml_X12_292 hd_X12_addsPlace ⟨by omega, by omega⟩ rfl [0, 1, 2] rfl rfl 0 rfl rfl (w_M_rowsOf G a_this a_height a_changeAt a_changeWas a_changeIs a_tape a_text a_names a_line a_row a_pastMany a_past a_changed a_greatest a_numbersWere a_told a_waysOf a_waysWere a_blocks a_ordersOf a_imageLine a_bodyKind a_trace a_shelf a_many a_items a_carried people keptMany done tapeMany textMany base at_ ends fault opened lineMany rowMany taller tallerBy pasts isKept imageMany bodies ran ownKind ownNumber waysOf_3 waysWere_4) [some 0, some 1, some 2] rfl (by decide +kernel) rfl rfl (Nat.le_of_ble_eq_true rfl) dX12_rowsOf_14 (fun hz_5 => ?_)
      refine z_iinc F [(3, .int (v3 + 1)), (0, .ref a_this), (1, .int v1), (2, .int v2)] dX12_rowsOf_17 3 rfl rfl (by decide) rfl ?_
      refine z_goto F 6 dX12_rowsOf_20 (by decide) ?_
      exact z_sub [1, 2, 3, 0] rfl (ih waysOf_3 waysWere_4 (v3 + 1) hf)

set_option maxRecDepth 100000 in
set_option maxHeartbeats 4000000 in
theorem c_M_rowsOf (l : Launch) (G : zG) (a_this : Nat) (a_height : Nat) (a_changeAt : Nat) (a_changeWas : Nat) (a_changeIs : Nat) (a_tape : Nat) (a_text : Nat) (a_names : Nat) (a_line : Nat) (a_row : Nat) (a_pastMany : Nat) (a_past : Nat) (a_changed : Nat) (a_greatest : Nat) (a_numbersWere : Nat) (a_told : Nat) (a_waysOf : Nat) (a_waysWere : Nat) (a_blocks : Nat) (a_ordersOf : Nat) (a_imageLine : Nat) (a_bodyKind : Nat) (a_trace : Nat) (a_shelf : Nat) (a_many : Nat) (a_items : Nat) (a_carried : Nat) (people : Int32) (keptMany : Int32) (done : Int32) (tapeMany : Int32) (textMany : Int32) (base : Int32) (at_ : Int32) (ends : Int32) (fault : Int32) (opened : Int32) (lineMany : Int32) (rowMany : Int32) (taller : Int32) (tallerBy : Int32) (pasts : Int32) (isKept : Int32) (imageMany : Int32) (bodies : Int32) (ran : Int32) (ownKind : Int32) (ownNumber : Int32) (waysOf : Nat → Int32) (waysWere : Nat → Int32) (x1 : Int32) (x2 : Int32) (r_ : Int32) (o_waysOf : Nat → Int32) (o_waysWere : Nat → Int32) (hf : f_M_rowsOf waysOf waysWere x1 x2 = some (r_, o_waysOf, o_waysWere)) : zM l yX12_rowsOf cX12_rowsOf 4 (some .int) 1 25 G [.ref a_this, .int x1, .int x2] (w_M_rowsOf G a_this a_height a_changeAt a_changeWas a_changeIs a_tape a_text a_names a_line a_row a_pastMany a_past a_changed a_greatest a_numbersWere a_told a_waysOf a_waysWere a_blocks a_ordersOf a_imageLine a_bodyKind a_trace a_shelf a_many a_items a_carried people keptMany done tapeMany textMany base at_ ends fault opened lineMany rowMany taller tallerBy pasts isKept imageMany bodies ran ownKind ownNumber waysOf waysWere) (some (.int r_)) (w_M_rowsOf G a_this a_height a_changeAt a_changeWas a_changeIs a_tape a_text a_names a_line a_row a_pastMany a_past a_changed a_greatest a_numbersWere a_told a_waysOf a_waysWere a_blocks a_ordersOf a_imageLine a_bodyKind a_trace a_shelf a_many a_items a_carried people keptMany done tapeMany textMany base at_ ends fault opened lineMany rowMany taller tallerBy pasts isKept imageMany bodies ran ownKind ownNumber o_waysOf o_waysWere) := by
  refine zM.of [(0, .ref a_this), (1, .int x1), (2, .int x2)] (own := RX12) rfl (by decide +kernel) (Nat.le_of_ble_eq_true rfl) rfl rfl fun X hX F => ?_
  subst hX
  replace hf := (f_M_rowsOf.eq_1 ..).symm.trans hf
  refine z_aload_n F 0 dX12_rowsOf_0 rfl rfl ?_
  obtain ⟨waysOf_1, hg, hf⟩ := zb1_some hf
  refine z_callVm (rest := []) F 12 (c_M_noWays (xL X) G a_this a_height a_changeAt a_changeWas a_changeIs a_tape a_text a_names a_line a_row a_pastMany a_past a_changed a_greatest a_numbersWere a_told a_waysOf a_waysWere a_blocks a_ordersOf a_imageLine a_bodyKind a_trace a_shelf a_many a_items a_carried people keptMany done tapeMany textMany base at_ ends fault opened lineMany rowMany taller tallerBy pasts isKept imageMany bodies ran ownKind ownNumber waysOf waysOf_1 hg) hy_X12_noWays ml_X12_289 hd_X12_noWays ⟨by omega, by omega⟩ rfl [0, 1] rfl rfl 0 rfl rfl (w_M_rowsOf G a_this a_height a_changeAt a_changeWas a_changeIs a_tape a_text a_names a_line a_row a_pastMany a_past a_changed a_greatest a_numbersWere a_told a_waysOf a_waysWere a_blocks a_ordersOf a_imageLine a_bodyKind a_trace a_shelf a_many a_items a_carried people keptMany done tapeMany textMany base at_ ends fault opened lineMany rowMany taller tallerBy pasts isKept imageMany bodies ran ownKind ownNumber waysOf_1 waysWere) [some 0, some 1, none] rfl (by decide +kernel) rfl rfl (Nat.le_of_ble_eq_true rfl) dX12_rowsOf_1 (fun hz_2 => ?_)
  refine z_iconst F (0) dX12_rowsOf_4 rfl ?_
  refine z_istore_n F [(3, .int 0), (0, .ref a_this), (1, .int x1), (2, .int x2)] dX12_rowsOf_5 rfl (by decide) rfl ?_
  obtain ⟨waysOf_6, waysWere_7, hg, hf⟩ := zb2_some hf
  refine z_sub [1, 2, 3, 0] rfl ?_
  refine l_M_rowsOf_6 G a_this a_height a_changeAt a_changeWas a_changeIs a_tape a_text a_names a_line a_row a_pastMany a_past a_changed a_greatest a_numbersWere a_told a_waysOf a_waysWere a_blocks a_ordersOf a_imageLine a_bodyKind a_trace a_shelf a_many a_items a_carried people keptMany done tapeMany textMany base at_ ends fault opened lineMany rowMany taller tallerBy pasts isKept imageMany bodies ran ownKind ownNumber x1 x2 F waysOf_6 waysWere_7 ?_ FU waysOf_1 waysWere 0 hg
  refine z_iload_n F 1 dX12_rowsOf_23 rfl rfl ?_
  refine z_i2l F dX12_rowsOf_24 ?_
  refine z_lconst F (0) dX12_rowsOf_25 rfl ?_
  refine z_ldc2 F (36) (uw38 _ (List.mem_of_getElem? (i := 14) rfl)) dX12_rowsOf_26 ?_
  refine z_callSm (rest := []) F (c_M_within (xL X) G (Int32.toInt64 x2) 0 36 _ rfl) hy_X12_within ml_X12_96 hd_X12_within ⟨by omega, by omega⟩ rfl [] rfl rfl (w_M_rowsOf G a_this a_height a_changeAt a_changeWas a_changeIs a_tape a_text a_names a_line a_row a_pastMany a_past a_changed a_greatest a_numbersWere a_told a_waysOf a_waysWere a_blocks a_ordersOf a_imageLine a_bodyKind a_trace a_shelf a_many a_items a_carried people keptMany done tapeMany textMany base at_ ends fault opened lineMany rowMany taller tallerBy pasts isKept imageMany bodies ran ownKind ownNumber waysOf_6 waysWere_7) [none, none, none] rfl (by decide +kernel) rfl rfl (Nat.le_of_ble_eq_true rfl) dX12_rowsOf_29 (fun hz_8 => ?_)
  refine z_if_eq F 44 dX12_rowsOf_32 (by decide) hf (fun hf _ => ?_) (fun hf _ => ?_)
  · refine z_iconst F (0) dX12_rowsOf_44 rfl ?_
    have eq1 := Option.some.inj hf
    obtain ⟨ee1, eq2⟩ := Prod.mk.inj eq1
    obtain ⟨ee2, ee3⟩ := Prod.mk.inj eq2
    subst ee1
    subst ee2
    subst ee3
    exact z_iret F rfl rfl rfl rfl dX12_rowsOf_45
  · refine z_aload_n F 0 dX12_rowsOf_35 rfl rfl ?_
    refine z_get F 0 12 30 inlX12 rfl rfl (by decide) fl_X12_55 rfl dX12_rowsOf_36 ?_
    refine z_iload_n F 1 dX12_rowsOf_39 rfl rfl ?_
    refine z_iald F 1 rfl hf dX12_rowsOf_40 (fun v_9 hf => ?_)
    refine z_goto F 45 dX12_rowsOf_41 (by decide) ?_
    have eq1 := Option.some.inj hf
    obtain ⟨ee1, eq2⟩ := Prod.mk.inj eq1
    obtain ⟨ee2, ee3⟩ := Prod.mk.inj eq2
    subst ee1
    subst ee2
    subst ee3
    exact z_iret F rfl rfl rfl rfl dX12_rowsOf_45

abbrev w_M_rows (G : zG) (a_this : Nat) (a_height : Nat) (a_changeAt : Nat) (a_changeWas : Nat) (a_changeIs : Nat) (a_tape : Nat) (a_text : Nat) (a_names : Nat) (a_line : Nat) (a_row : Nat) (a_pastMany : Nat) (a_past : Nat) (a_changed : Nat) (a_greatest : Nat) (a_numbersWere : Nat) (a_told : Nat) (a_waysOf : Nat) (a_waysWere : Nat) (a_blocks : Nat) (a_ordersOf : Nat) (a_imageLine : Nat) (a_bodyKind : Nat) (a_trace : Nat) (a_shelf : Nat) (a_many : Nat) (a_items : Nat) (a_carried : Nat) (people : Int32) (keptMany : Int32) (done : Int32) (tapeMany : Int32) (textMany : Int32) (base : Int32) (at_ : Int32) (ends : Int32) (fault : Int32) (opened : Int32) (lineMany : Int32) (rowMany : Int32) (taller : Int32) (tallerBy : Int32) (pasts : Int32) (isKept : Int32) (imageMany : Int32) (bodies : Int32) (ran : Int32) (ownKind : Int32) (ownNumber : Int32) (waysOf : Nat → Int32) (waysWere : Nat → Int32) : va_W := [(a_this, cO 12 [.int people, .ref a_height, .ref a_changeAt, .ref a_changeWas, .ref a_changeIs, .int keptMany, .int done, .ref a_tape, .int tapeMany, .ref a_text, .int textMany, .int base, .int at_, .int ends, .int fault, .int opened, .ref a_names, .ref a_line, .int lineMany, .ref a_row, .int rowMany, .int taller, .int tallerBy, .ref a_pastMany, .ref a_past, .int pasts, .ref a_changed, .ref a_greatest, .ref a_numbersWere, .ref a_told, .ref a_waysOf, .ref a_waysWere, .ref a_blocks, .ref a_ordersOf, .int isKept, .int imageMany, .ref a_imageLine, .int bodies, .ref a_bodyKind, .ref a_trace, .int ran, .int ownKind, .int ownNumber, .ref a_shelf, .ref a_many, .ref a_items, .ref a_carried]), (a_waysOf, cI G 37 waysOf), (a_waysWere, cI G 37 waysWere)]
def f_M_rows (lineMany : Int32) (waysOf : Nat → Int32) (waysWere : Nat → Int32) (x1 : Int32) : Option (Int32 × (Nat → Int32) × (Nat → Int32)) := (if (f_M_within (Int32.toInt64 x1) 0 36) = 0 then (some ((-1), waysOf, waysWere)) else (zb3 (f_M_rowsOf waysOf waysWere lineMany x1) fun r_2 waysOf_3 waysWere_4 => (some (r_2, waysOf_3, waysWere_4))))
set_option maxRecDepth 100000 in
set_option maxHeartbeats 4000000 in
theorem c_M_rows (l : Launch) (G : zG) (a_this : Nat) (a_height : Nat) (a_changeAt : Nat) (a_changeWas : Nat) (a_changeIs : Nat) (a_tape : Nat) (a_text : Nat) (a_names : Nat) (a_line : Nat) (a_row : Nat) (a_pastMany : Nat) (a_past : Nat) (a_changed : Nat) (a_greatest : Nat) (a_numbersWere : Nat) (a_told : Nat) (a_waysOf : Nat) (a_waysWere : Nat) (a_blocks : Nat) (a_ordersOf : Nat) (a_imageLine : Nat) (a_bodyKind : Nat) (a_trace : Nat) (a_shelf : Nat) (a_many : Nat) (a_items : Nat) (a_carried : Nat) (people : Int32) (keptMany : Int32) (done : Int32) (tapeMany : Int32) (textMany : Int32) (base : Int32) (at_ : Int32) (ends : Int32) (fault : Int32) (opened : Int32) (lineMany : Int32) (rowMany : Int32) (taller : Int32) (tallerBy : Int32) (pasts : Int32) (isKept : Int32) (imageMany : Int32) (bodies : Int32) (ran : Int32) (ownKind : Int32) (ownNumber : Int32) (waysOf : Nat → Int32) (waysWere : Nat → Int32) (x1 : Int32) (r_ : Int32) (o_waysOf : Nat → Int32) (o_waysWere : Nat → Int32) (hf : f_M_rows lineMany waysOf waysWere x1 = some (r_, o_waysOf, o_waysWere)) : zM l yX12_rows cX12_rows 2 (some .int) 2 48 G [.ref a_this, .int x1] (w_M_rows G a_this a_height a_changeAt a_changeWas a_changeIs a_tape a_text a_names a_line a_row a_pastMany a_past a_changed a_greatest a_numbersWere a_told a_waysOf a_waysWere a_blocks a_ordersOf a_imageLine a_bodyKind a_trace a_shelf a_many a_items a_carried people keptMany done tapeMany textMany base at_ ends fault opened lineMany rowMany taller tallerBy pasts isKept imageMany bodies ran ownKind ownNumber waysOf waysWere) (some (.int r_)) (w_M_rows G a_this a_height a_changeAt a_changeWas a_changeIs a_tape a_text a_names a_line a_row a_pastMany a_past a_changed a_greatest a_numbersWere a_told a_waysOf a_waysWere a_blocks a_ordersOf a_imageLine a_bodyKind a_trace a_shelf a_many a_items a_carried people keptMany done tapeMany textMany base at_ ends fault opened lineMany rowMany taller tallerBy pasts isKept imageMany bodies ran ownKind ownNumber o_waysOf o_waysWere) := by
  refine zM.of [(0, .ref a_this), (1, .int x1)] (own := RX12) rfl (by decide +kernel) (Nat.le_of_ble_eq_true rfl) rfl rfl fun X hX F => ?_
  subst hX
  replace hf := (f_M_rows.eq_1 ..).symm.trans hf
  refine z_iload_n F 1 dX12_rows_0 rfl rfl ?_
  refine z_i2l F dX12_rows_1 ?_
  refine z_lconst F (0) dX12_rows_2 rfl ?_
  refine z_ldc2 F (36) (uw38 _ (List.mem_of_getElem? (i := 14) rfl)) dX12_rows_3 ?_
  refine z_callSm (rest := []) F (c_M_within (xL X) G (Int32.toInt64 x1) 0 36 _ rfl) hy_X12_within ml_X12_96 hd_X12_within ⟨by omega, by omega⟩ rfl [] rfl rfl (w_M_rows G a_this a_height a_changeAt a_changeWas a_changeIs a_tape a_text a_names a_line a_row a_pastMany a_past a_changed a_greatest a_numbersWere a_told a_waysOf a_waysWere a_blocks a_ordersOf a_imageLine a_bodyKind a_trace a_shelf a_many a_items a_carried people keptMany done tapeMany textMany base at_ ends fault opened lineMany rowMany taller tallerBy pasts isKept imageMany bodies ran ownKind ownNumber waysOf waysWere) [none, none, none] rfl (by decide +kernel) rfl rfl (Nat.le_of_ble_eq_true rfl) dX12_rows_6 (fun hz_1 => ?_)
  refine z_if_eq F 24 dX12_rows_9 (by decide) hf (fun hf _ => ?_) (fun hf _ => ?_)
  · refine z_iconst F (-1) dX12_rows_24 rfl ?_
    have eq1 := Option.some.inj hf
    obtain ⟨ee1, eq2⟩ := Prod.mk.inj eq1
    obtain ⟨ee2, ee3⟩ := Prod.mk.inj eq2
    subst ee1
    subst ee2
    subst ee3
    exact z_iret F rfl rfl rfl rfl dX12_rows_25
  · refine z_aload_n F 0 dX12_rows_12 rfl rfl ?_
    refine z_aload_n F 0 dX12_rows_13 rfl rfl ?_
    refine z_get F 0 12 18 inlX12 rfl rfl (by decide) fl_X12_100 rfl dX12_rows_14 ?_
    refine z_iload_n F 1 dX12_rows_17 rfl rfl ?_
    obtain ⟨r_2, waysOf_3, waysWere_4, hg, hf⟩ := zb3_some hf
    refine z_callVm (rest := []) F 12 (c_M_rowsOf (xL X) G a_this a_height a_changeAt a_changeWas a_changeIs a_tape a_text a_names a_line a_row a_pastMany a_past a_changed a_greatest a_numbersWere a_told a_waysOf a_waysWere a_blocks a_ordersOf a_imageLine a_bodyKind a_trace a_shelf a_many a_items a_carried people keptMany done tapeMany textMany base at_ ends fault opened lineMany rowMany taller tallerBy pasts isKept imageMany bodies ran ownKind ownNumber waysOf waysWere lineMany x1 r_2 waysOf_3 waysWere_4 hg) hy_X12_rowsOf ml_X12_295 hd_X12_rowsOf ⟨by omega, by omega⟩ rfl [0, 1, 2] rfl rfl 0 rfl rfl (w_M_rows G a_this a_height a_changeAt a_changeWas a_changeIs a_tape a_text a_names a_line a_row a_pastMany a_past a_changed a_greatest a_numbersWere a_told a_waysOf a_waysWere a_blocks a_ordersOf a_imageLine a_bodyKind a_trace a_shelf a_many a_items a_carried people keptMany done tapeMany textMany base at_ ends fault opened lineMany rowMany taller tallerBy pasts isKept imageMany bodies ran ownKind ownNumber waysOf_3 waysWere_4) [some 0, some 1, some 2] rfl (by decide +kernel) rfl rfl (Nat.le_of_ble_eq_true rfl) dX12_rows_18 (fun hz_5 => ?_)
    refine z_goto F 25 dX12_rows_21 (by decide) ?_
    have eq1 := Option.some.inj hf
    obtain ⟨ee1, eq2⟩ := Prod.mk.inj eq1
    obtain ⟨ee2, ee3⟩ := Prod.mk.inj eq2
    subst ee1
    subst ee2
    subst ee3
    exact z_iret F rfl rfl rfl rfl dX12_rows_25

abbrev w_M_withSmaller (G : zG) (a_this : Nat) (a_height : Nat) (a_changeAt : Nat) (a_changeWas : Nat) (a_changeIs : Nat) (a_tape : Nat) (a_text : Nat) (a_names : Nat) (a_line : Nat) (a_row : Nat) (a_pastMany : Nat) (a_past : Nat) (a_changed : Nat) (a_greatest : Nat) (a_numbersWere : Nat) (a_told : Nat) (a_waysOf : Nat) (a_waysWere : Nat) (a_blocks : Nat) (a_ordersOf : Nat) (a_imageLine : Nat) (a_bodyKind : Nat) (a_trace : Nat) (a_shelf : Nat) (a_many : Nat) (a_items : Nat) (a_carried : Nat) (people : Int32) (keptMany : Int32) (done : Int32) (tapeMany : Int32) (textMany : Int32) (base : Int32) (at_ : Int32) (ends : Int32) (fault : Int32) (opened : Int32) (lineMany : Int32) (rowMany : Int32) (taller : Int32) (tallerBy : Int32) (pasts : Int32) (isKept : Int32) (imageMany : Int32) (bodies : Int32) (ran : Int32) (ownKind : Int32) (ownNumber : Int32) (height : Nat → Int32) : va_W := [(a_this, cO 12 [.int people, .ref a_height, .ref a_changeAt, .ref a_changeWas, .ref a_changeIs, .int keptMany, .int done, .ref a_tape, .int tapeMany, .ref a_text, .int textMany, .int base, .int at_, .int ends, .int fault, .int opened, .ref a_names, .ref a_line, .int lineMany, .ref a_row, .int rowMany, .int taller, .int tallerBy, .ref a_pastMany, .ref a_past, .int pasts, .ref a_changed, .ref a_greatest, .ref a_numbersWere, .ref a_told, .ref a_waysOf, .ref a_waysWere, .ref a_blocks, .ref a_ordersOf, .int isKept, .int imageMany, .ref a_imageLine, .int bodies, .ref a_bodyKind, .ref a_trace, .int ran, .int ownKind, .int ownNumber, .ref a_shelf, .ref a_many, .ref a_items, .ref a_carried]), (a_height, cI G 9 height)]
def f_M_withSmaller_L16 (people : Int32) (height : Nat → Int32) (v1 : Int32) (v3 : Int32) : Nat → Int32 → Int32 → Option Int32
  | 0, _, _ => none
  | fuel + 1, v4, v5 => (if people ≤ v5 then (some v4) else (if (f_M_isIn v1 v5) = 0 then (f_M_withSmaller_L16 people height v1 v3 fuel (v4 + (0 : Int32)) (v5 + 1)) else (zg height 9 v5 fun v_2 => (zg height 9 v3 fun v_3 => (if v_3 ≤ v_2 then (f_M_withSmaller_L16 people height v1 v3 fuel (v4 + (0 : Int32)) (v5 + 1)) else (f_M_withSmaller_L16 people height v1 v3 fuel (v4 + (1 : Int32)) (v5 + 1)))))))
def f_M_withSmaller_L2 (people : Int32) (height : Nat → Int32) (v1 : Int32) (v2 : Int32) : Nat → Int32 → Option (((Unit) ⊕ (Int32)))
  | 0, _ => none
  | fuel + 1, v3 => (if people ≤ v3 then (some (.inl ())) else (zb1 (f_M_withSmaller_L16 people height v1 v3 FU 0 0) fun v4_4 => (if (f_M_isIn v1 v3) = 0 then (f_M_withSmaller_L2 people height v1 v2 fuel (v3 + 1)) else (if v4_4 = v2 then (some (.inr v3)) else (f_M_withSmaller_L2 people height v1 v2 fuel (v3 + 1))))))
def f_M_withSmaller (people : Int32) (height : Nat → Int32) (x1 : Int32) (x2 : Int32) : Option Int32 := (zbs0 (f_M_withSmaller_L2 people height x1 x2 FU 0) ((some (-1))) some)
set_option maxRecDepth 100000 in
set_option maxHeartbeats 4000000 in
theorem l_M_withSmaller_16 {X : zX} (G : zG) (a_this : Nat) (a_height : Nat) (a_changeAt : Nat) (a_changeWas : Nat) (a_changeIs : Nat) (a_tape : Nat) (a_text : Nat) (a_names : Nat) (a_line : Nat) (a_row : Nat) (a_pastMany : Nat) (a_past : Nat) (a_changed : Nat) (a_greatest : Nat) (a_numbersWere : Nat) (a_told : Nat) (a_waysOf : Nat) (a_waysWere : Nat) (a_blocks : Nat) (a_ordersOf : Nat) (a_imageLine : Nat) (a_bodyKind : Nat) (a_trace : Nat) (a_shelf : Nat) (a_many : Nat) (a_items : Nat) (a_carried : Nat) (people : Int32) (keptMany : Int32) (done : Int32) (tapeMany : Int32) (textMany : Int32) (base : Int32) (at_ : Int32) (ends : Int32) (fault : Int32) (opened : Int32) (lineMany : Int32) (rowMany : Int32) (taller : Int32) (tallerBy : Int32) (pasts : Int32) (isKept : Int32) (imageMany : Int32) (bodies : Int32) (ran : Int32) (ownKind : Int32) (ownNumber : Int32) (height : Nat → Int32) (v1 : Int32) (v2 : Int32) (v3 : Int32) {v0 : Option Value} {w0 : va_W} (F : zF X G cX12_withSmaller RX12 6 (some .int) 1 21 v0 w0) (e_v4 : Int32) (hk : Z X G 6 (w_M_withSmaller G a_this a_height a_changeAt a_changeWas a_changeIs a_tape a_text a_names a_line a_row a_pastMany a_past a_changed a_greatest a_numbersWere a_told a_waysOf a_waysWere a_blocks a_ordersOf a_imageLine a_bodyKind a_trace a_shelf a_many a_items a_carried people keptMany done tapeMany textMany base at_ ends fault opened lineMany rowMany taller tallerBy pasts isKept imageMany bodies ran ownKind ownNumber height) [(0, .ref a_this), (1, .int v1), (2, .int v2), (3, .int v3), (4, .int e_v4)] 66 []) :
    ∀ (fuel : Nat) (v4 : Int32) (v5 : Int32), f_M_withSmaller_L16 people height v1 v3 fuel v4 v5 = some e_v4 → Z X G 6 (w_M_withSmaller G a_this a_height a_changeAt a_changeWas a_changeIs a_tape a_text a_names a_line a_row a_pastMany a_past a_changed a_greatest a_numbersWere a_told a_waysOf a_waysWere a_blocks a_ordersOf a_imageLine a_bodyKind a_trace a_shelf a_many a_items a_carried people keptMany done tapeMany textMany base at_ ends fault opened lineMany rowMany taller tallerBy pasts isKept imageMany bodies ran ownKind ownNumber height) [(0, .ref a_this), (1, .int v1), (2, .int v2), (3, .int v3), (4, .int v4), (5, .int v5)] 16 [] := by
  intro fuel
  induction fuel with
  | zero => intro v4 v5 hf; exact absurd ((f_M_withSmaller_L16.eq_1 ..).symm.trans hf) (fun h => by cases h)
  | succ fuel ih =>
    intro v4 v5 hf
    replace hf := (f_M_withSmaller_L16.eq_2 ..).symm.trans hf
    refine z_iload F 5 dX12_withSmaller_16 rfl ?_
    refine z_aload_n F 0 dX12_withSmaller_18 rfl rfl ?_
    refine z_get F 0 12 0 inlX12 rfl rfl (by decide) fl_X12_93 rfl dX12_withSmaller_19 ?_
    refine z_icmp_ge F 66 dX12_withSmaller_22 (by decide) hf (fun hf _ => ?_) (fun hf _ => ?_)
    · have ee1 := Option.some.inj hf
      subst ee1
      exact z_sub [0, 1, 2, 3, 4] rfl hk
    · refine z_iload F 4 dX12_withSmaller_25 rfl ?_
      refine z_iload_n F 1 dX12_withSmaller_27 rfl rfl ?_
      refine z_iload F 5 dX12_withSmaller_28 rfl ?_
      refine z_callSm (rest := [.int v4]) F (c_M_isIn (xL X) G v1 v5 _ rfl) hy_X12_isIn ml_X12_271 hd_X12_isIn ⟨by omega, by omega⟩ rfl [] rfl rfl (w_M_withSmaller G a_this a_height a_changeAt a_changeWas a_changeIs a_tape a_text a_names a_line a_row a_pastMany a_past a_changed a_greatest a_numbersWere a_told a_waysOf a_waysWere a_blocks a_ordersOf a_imageLine a_bodyKind a_trace a_shelf a_many a_items a_carried people keptMany done tapeMany textMany base at_ ends fault opened lineMany rowMany taller tallerBy pasts isKept imageMany bodies ran ownKind ownNumber height) [none, none] rfl (by decide +kernel) rfl rfl (Nat.le_of_ble_eq_true rfl) dX12_withSmaller_30 (fun hz_1 => ?_)
      refine z_if_eq F 56 dX12_withSmaller_33 (by decide) hf (fun hf _ => ?_) (fun hf _ => ?_)
      · refine z_iconst F (0) dX12_withSmaller_56 rfl ?_
        refine z_iadd F dX12_withSmaller_57 ?_
        refine z_istore F [(4, .int (v4 + (0 : Int32))), (0, .ref a_this), (1, .int v1), (2, .int v2), (3, .int v3), (5, .int v5)] dX12_withSmaller_58 (by decide) rfl ?_
        refine z_iinc F [(5, .int (v5 + 1)), (4, .int (v4 + (0 : Int32))), (0, .ref a_this), (1, .int v1), (2, .int v2), (3, .int v3)] dX12_withSmaller_60 5 rfl rfl (by decide) rfl ?_
        refine z_goto F 16 dX12_withSmaller_63 (by decide) ?_
        exact z_sub [2, 3, 4, 5, 1, 0] rfl (ih (v4 + (0 : Int32)) (v5 + 1) hf)
      · refine z_aload_n F 0 dX12_withSmaller_36 rfl rfl ?_
        refine z_get F 0 12 1 inlX12 rfl rfl (by decide) fl_X12_9 rfl dX12_withSmaller_37 ?_
        refine z_iload F 5 dX12_withSmaller_40 rfl ?_
        refine z_iald F 1 rfl hf dX12_withSmaller_42 (fun v_2 hf => ?_)
        refine z_aload_n F 0 dX12_withSmaller_43 rfl rfl ?_
        refine z_get F 0 12 1 inlX12 rfl rfl (by decide) fl_X12_9 rfl dX12_withSmaller_44 ?_
        refine z_iload_n F 3 dX12_withSmaller_47 rfl rfl ?_
        refine z_iald F 1 rfl hf dX12_withSmaller_48 (fun v_3 hf => ?_)
        refine z_icmp_ge F 56 dX12_withSmaller_49 (by decide) hf (fun hf _ => ?_) (fun hf _ => ?_)
        · refine z_iconst F (0) dX12_withSmaller_56 rfl ?_
          refine z_iadd F dX12_withSmaller_57 ?_
          refine z_istore F [(4, .int (v4 + (0 : Int32))), (0, .ref a_this), (1, .int v1), (2, .int v2), (3, .int v3), (5, .int v5)] dX12_withSmaller_58 (by decide) rfl ?_
          refine z_iinc F [(5, .int (v5 + 1)), (4, .int (v4 + (0 : Int32))), (0, .ref a_this), (1, .int v1), (2, .int v2), (3, .int v3)] dX12_withSmaller_60 5 rfl rfl (by decide) rfl ?_
          refine z_goto F 16 dX12_withSmaller_63 (by decide) ?_
          exact z_sub [2, 3, 4, 5, 1, 0] rfl (ih (v4 + (0 : Int32)) (v5 + 1) hf)
        · refine z_iconst F (1) dX12_withSmaller_52 rfl ?_
          refine z_goto F 57 dX12_withSmaller_53 (by decide) ?_
          refine z_iadd F dX12_withSmaller_57 ?_
          refine z_istore F [(4, .int (v4 + (1 : Int32))), (0, .ref a_this), (1, .int v1), (2, .int v2), (3, .int v3), (5, .int v5)] dX12_withSmaller_58 (by decide) rfl ?_
          refine z_iinc F [(5, .int (v5 + 1)), (4, .int (v4 + (1 : Int32))), (0, .ref a_this), (1, .int v1), (2, .int v2), (3, .int v3)] dX12_withSmaller_60 5 rfl rfl (by decide) rfl ?_
          refine z_goto F 16 dX12_withSmaller_63 (by decide) ?_
          exact z_sub [2, 3, 4, 5, 1, 0] rfl (ih (v4 + (1 : Int32)) (v5 + 1) hf)

set_option maxRecDepth 100000 in
set_option maxHeartbeats 4000000 in
theorem l_M_withSmaller_2 {X : zX} (G : zG) (a_this : Nat) (a_height : Nat) (a_changeAt : Nat) (a_changeWas : Nat) (a_changeIs : Nat) (a_tape : Nat) (a_text : Nat) (a_names : Nat) (a_line : Nat) (a_row : Nat) (a_pastMany : Nat) (a_past : Nat) (a_changed : Nat) (a_greatest : Nat) (a_numbersWere : Nat) (a_told : Nat) (a_waysOf : Nat) (a_waysWere : Nat) (a_blocks : Nat) (a_ordersOf : Nat) (a_imageLine : Nat) (a_bodyKind : Nat) (a_trace : Nat) (a_shelf : Nat) (a_many : Nat) (a_items : Nat) (a_carried : Nat) (people : Int32) (keptMany : Int32) (done : Int32) (tapeMany : Int32) (textMany : Int32) (base : Int32) (at_ : Int32) (ends : Int32) (fault : Int32) (opened : Int32) (lineMany : Int32) (rowMany : Int32) (taller : Int32) (tallerBy : Int32) (pasts : Int32) (isKept : Int32) (imageMany : Int32) (bodies : Int32) (ran : Int32) (ownKind : Int32) (ownNumber : Int32) (height : Nat → Int32) (v1 : Int32) (v2 : Int32) {v0 : Option Value} {w0 : va_W} (F : zF X G cX12_withSmaller RX12 6 (some .int) 1 21 v0 w0) (out : ((Unit) ⊕ (Int32))) (hk : out = .inl () → Z X G 6 (w_M_withSmaller G a_this a_height a_changeAt a_changeWas a_changeIs a_tape a_text a_names a_line a_row a_pastMany a_past a_changed a_greatest a_numbersWere a_told a_waysOf a_waysWere a_blocks a_ordersOf a_imageLine a_bodyKind a_trace a_shelf a_many a_items a_carried people keptMany done tapeMany textMany base at_ ends fault opened lineMany rowMany taller tallerBy pasts isKept imageMany bodies ran ownKind ownNumber height) [] 88 []) (hr : ∀ q : Int32, out = .inr q → v0 = some (.int q) ∧ w0 = (w_M_withSmaller G a_this a_height a_changeAt a_changeWas a_changeIs a_tape a_text a_names a_line a_row a_pastMany a_past a_changed a_greatest a_numbersWere a_told a_waysOf a_waysWere a_blocks a_ordersOf a_imageLine a_bodyKind a_trace a_shelf a_many a_items a_carried people keptMany done tapeMany textMany base at_ ends fault opened lineMany rowMany taller tallerBy pasts isKept imageMany bodies ran ownKind ownNumber height)) :
    ∀ (fuel : Nat) (v3 : Int32), f_M_withSmaller_L2 people height v1 v2 fuel v3 = some out → Z X G 6 (w_M_withSmaller G a_this a_height a_changeAt a_changeWas a_changeIs a_tape a_text a_names a_line a_row a_pastMany a_past a_changed a_greatest a_numbersWere a_told a_waysOf a_waysWere a_blocks a_ordersOf a_imageLine a_bodyKind a_trace a_shelf a_many a_items a_carried people keptMany done tapeMany textMany base at_ ends fault opened lineMany rowMany taller tallerBy pasts isKept imageMany bodies ran ownKind ownNumber height) [(0, .ref a_this), (1, .int v1), (2, .int v2), (3, .int v3)] 2 [] := by
  intro fuel
  induction fuel with
  | zero => intro v3 hf; exact absurd ((f_M_withSmaller_L2.eq_1 ..).symm.trans hf) (fun h => by cases h)
  | succ fuel ih =>
    intro v3 hf
    replace hf := (f_M_withSmaller_L2.eq_2 ..).symm.trans hf
    refine z_iload_n F 3 dX12_withSmaller_2 rfl rfl ?_
    refine z_aload_n F 0 dX12_withSmaller_3 rfl rfl ?_
    refine z_get F 0 12 0 inlX12 rfl rfl (by decide) fl_X12_93 rfl dX12_withSmaller_4 ?_
    refine z_icmp_ge F 88 dX12_withSmaller_7 (by decide) hf (fun hf _ => ?_) (fun hf _ => ?_)
    · exact z_sub [] rfl (hk  (Option.some.inj hf).symm)
    · refine z_iconst F (0) dX12_withSmaller_10 rfl ?_
      refine z_istore F [(4, .int 0), (0, .ref a_this), (1, .int v1), (2, .int v2), (3, .int v3)] dX12_withSmaller_11 (by decide) rfl ?_
      refine z_iconst F (0) dX12_withSmaller_13 rfl ?_
      refine z_istore F [(5, .int 0), (4, .int 0), (0, .ref a_this), (1, .int v1), (2, .int v2), (3, .int v3)] dX12_withSmaller_14 (by decide) rfl ?_
      obtain ⟨v4_4, hg, hf⟩ := zb1_some hf
      refine z_sub [2, 3, 4, 5, 1, 0] rfl ?_
      refine l_M_withSmaller_16 G a_this a_height a_changeAt a_changeWas a_changeIs a_tape a_text a_names a_line a_row a_pastMany a_past a_changed a_greatest a_numbersWere a_told a_waysOf a_waysWere a_blocks a_ordersOf a_imageLine a_bodyKind a_trace a_shelf a_many a_items a_carried people keptMany done tapeMany textMany base at_ ends fault opened lineMany rowMany taller tallerBy pasts isKept imageMany bodies ran ownKind ownNumber height v1 v2 v3 F v4_4 ?_ FU 0 0 hg
      refine z_iload_n F 1 dX12_withSmaller_66 rfl rfl ?_
      refine z_iload_n F 3 dX12_withSmaller_67 rfl rfl ?_
      refine z_callSm (rest := []) F (c_M_isIn (xL X) G v1 v3 _ rfl) hy_X12_isIn ml_X12_271 hd_X12_isIn ⟨by omega, by omega⟩ rfl [] rfl rfl (w_M_withSmaller G a_this a_height a_changeAt a_changeWas a_changeIs a_tape a_text a_names a_line a_row a_pastMany a_past a_changed a_greatest a_numbersWere a_told a_waysOf a_waysWere a_blocks a_ordersOf a_imageLine a_bodyKind a_trace a_shelf a_many a_items a_carried people keptMany done tapeMany textMany base at_ ends fault opened lineMany rowMany taller tallerBy pasts isKept imageMany bodies ran ownKind ownNumber height) [none, none] rfl (by decide +kernel) rfl rfl (Nat.le_of_ble_eq_true rfl) dX12_withSmaller_68 (fun hz_5 => ?_)
      refine z_if_eq F 82 dX12_withSmaller_71 (by decide) hf (fun hf _ => ?_) (fun hf _ => ?_)
      · refine z_iinc F [(3, .int (v3 + 1)), (0, .ref a_this), (1, .int v1), (2, .int v2), (4, .int v4_4)] dX12_withSmaller_82 3 rfl rfl (by decide) rfl ?_
        refine z_goto F 2 dX12_withSmaller_85 (by decide) ?_
        exact z_sub [1, 2, 3, 0] rfl (ih (v3 + 1) hf)
      · refine z_iload F 4 dX12_withSmaller_74 rfl ?_
        refine z_iload_n F 2 dX12_withSmaller_76 rfl rfl ?_
        refine z_icmp_ne F 82 dX12_withSmaller_77 (by decide) hf (fun hf _ => ?_) (fun hf _ => ?_)
        · refine z_iinc F [(3, .int (v3 + 1)), (0, .ref a_this), (1, .int v1), (2, .int v2), (4, .int v4_4)] dX12_withSmaller_82 3 rfl rfl (by decide) rfl ?_
          refine z_goto F 2 dX12_withSmaller_85 (by decide) ?_
          exact z_sub [1, 2, 3, 0] rfl (ih (v3 + 1) hf)
        · refine z_iload_n F 3 dX12_withSmaller_80 rfl rfl ?_
          obtain ⟨e1, e2⟩ := hr _ (Option.some.inj hf).symm
          exact z_iret F rfl rfl e1.symm e2.symm dX12_withSmaller_81

set_option maxRecDepth 100000 in
set_option maxHeartbeats 4000000 in
theorem c_M_withSmaller (l : Launch) (G : zG) (a_this : Nat) (a_height : Nat) (a_changeAt : Nat) (a_changeWas : Nat) (a_changeIs : Nat) (a_tape : Nat) (a_text : Nat) (a_names : Nat) (a_line : Nat) (a_row : Nat) (a_pastMany : Nat) (a_past : Nat) (a_changed : Nat) (a_greatest : Nat) (a_numbersWere : Nat) (a_told : Nat) (a_waysOf : Nat) (a_waysWere : Nat) (a_blocks : Nat) (a_ordersOf : Nat) (a_imageLine : Nat) (a_bodyKind : Nat) (a_trace : Nat) (a_shelf : Nat) (a_many : Nat) (a_items : Nat) (a_carried : Nat) (people : Int32) (keptMany : Int32) (done : Int32) (tapeMany : Int32) (textMany : Int32) (base : Int32) (at_ : Int32) (ends : Int32) (fault : Int32) (opened : Int32) (lineMany : Int32) (rowMany : Int32) (taller : Int32) (tallerBy : Int32) (pasts : Int32) (isKept : Int32) (imageMany : Int32) (bodies : Int32) (ran : Int32) (ownKind : Int32) (ownNumber : Int32) (height : Nat → Int32) (x1 : Int32) (x2 : Int32) (r_ : Int32) (hf : f_M_withSmaller people height x1 x2 = some r_) : zM l yX12_withSmaller cX12_withSmaller 6 (some .int) 1 21 G [.ref a_this, .int x1, .int x2] (w_M_withSmaller G a_this a_height a_changeAt a_changeWas a_changeIs a_tape a_text a_names a_line a_row a_pastMany a_past a_changed a_greatest a_numbersWere a_told a_waysOf a_waysWere a_blocks a_ordersOf a_imageLine a_bodyKind a_trace a_shelf a_many a_items a_carried people keptMany done tapeMany textMany base at_ ends fault opened lineMany rowMany taller tallerBy pasts isKept imageMany bodies ran ownKind ownNumber height) (some (.int r_)) (w_M_withSmaller G a_this a_height a_changeAt a_changeWas a_changeIs a_tape a_text a_names a_line a_row a_pastMany a_past a_changed a_greatest a_numbersWere a_told a_waysOf a_waysWere a_blocks a_ordersOf a_imageLine a_bodyKind a_trace a_shelf a_many a_items a_carried people keptMany done tapeMany textMany base at_ ends fault opened lineMany rowMany taller tallerBy pasts isKept imageMany bodies ran ownKind ownNumber height) := by
  refine zM.of [(0, .ref a_this), (1, .int x1), (2, .int x2)] (own := RX12) rfl (by decide +kernel) (Nat.le_of_ble_eq_true rfl) rfl rfl fun X hX F => ?_
  subst hX
  replace hf := (f_M_withSmaller.eq_1 ..).symm.trans hf
  refine z_iconst F (0) dX12_withSmaller_0 rfl ?_
  refine z_istore_n F [(3, .int 0), (0, .ref a_this), (1, .int x1), (2, .int x2)] dX12_withSmaller_1 rfl (by decide) rfl ?_
  obtain ⟨z_6, hg, hf1_7, hf2_8⟩ := zbs0_some hf
  refine z_sub [1, 2, 3, 0] rfl ?_
  refine l_M_withSmaller_2 G a_this a_height a_changeAt a_changeWas a_changeIs a_tape a_text a_names a_line a_row a_pastMany a_past a_changed a_greatest a_numbersWere a_told a_waysOf a_waysWere a_blocks a_ordersOf a_imageLine a_bodyKind a_trace a_shelf a_many a_items a_carried people keptMany done tapeMany textMany base at_ ends fault opened lineMany rowMany taller tallerBy pasts isKept imageMany bodies ran ownKind ownNumber height x1 x2 F z_6 (fun e => ?_) (fun q e => ?_) FU 0 hg
  · have hf := hf1_7 e
    refine z_iconst F (-1) dX12_withSmaller_88 rfl ?_
    have ee1 := Option.some.inj hf
    subst ee1
    exact z_iret F rfl rfl rfl rfl dX12_withSmaller_89
  · have hf := hf2_8 _ e
    cases hf
    exact ⟨rfl, rfl⟩

abbrev w_M_rth (G : zG) (a_this : Nat) (a_height : Nat) (a_changeAt : Nat) (a_changeWas : Nat) (a_changeIs : Nat) (a_tape : Nat) (a_text : Nat) (a_names : Nat) (a_line : Nat) (a_row : Nat) (a_pastMany : Nat) (a_past : Nat) (a_changed : Nat) (a_greatest : Nat) (a_numbersWere : Nat) (a_told : Nat) (a_waysOf : Nat) (a_waysWere : Nat) (a_blocks : Nat) (a_ordersOf : Nat) (a_imageLine : Nat) (a_bodyKind : Nat) (a_trace : Nat) (a_shelf : Nat) (a_many : Nat) (a_items : Nat) (a_carried : Nat) (people : Int32) (keptMany : Int32) (done : Int32) (tapeMany : Int32) (textMany : Int32) (base : Int32) (at_ : Int32) (ends : Int32) (fault : Int32) (opened : Int32) (lineMany : Int32) (rowMany : Int32) (taller : Int32) (tallerBy : Int32) (pasts : Int32) (isKept : Int32) (imageMany : Int32) (bodies : Int32) (ran : Int32) (ownKind : Int32) (ownNumber : Int32) (height : Nat → Int32) (line : Nat → Int32) (waysOf : Nat → Int32) (waysWere : Nat → Int32) : va_W := [(a_this, cO 12 [.int people, .ref a_height, .ref a_changeAt, .ref a_changeWas, .ref a_changeIs, .int keptMany, .int done, .ref a_tape, .int tapeMany, .ref a_text, .int textMany, .int base, .int at_, .int ends, .int fault, .int opened, .ref a_names, .ref a_line, .int lineMany, .ref a_row, .int rowMany, .int taller, .int tallerBy, .ref a_pastMany, .ref a_past, .int pasts, .ref a_changed, .ref a_greatest, .ref a_numbersWere, .ref a_told, .ref a_waysOf, .ref a_waysWere, .ref a_blocks, .ref a_ordersOf, .int isKept, .int imageMany, .ref a_imageLine, .int bodies, .ref a_bodyKind, .ref a_trace, .int ran, .int ownKind, .int ownNumber, .ref a_shelf, .ref a_many, .ref a_items, .ref a_carried]), (a_height, cI G 9 height), (a_line, cI G 9 line), (a_waysOf, cI G 37 waysOf), (a_waysWere, cI G 37 waysWere)]
def f_M_rth_L48 (lineMany : Int32) (line : Nat → Int32) : Nat → Int32 → Int32 → Option Int32
  | 0, _, _ => none
  | fuel + 1, v4, v5 => (if lineMany ≤ v5 then (some v4) else (zg line 9 v5 fun v_7 => (f_M_rth_L48 lineMany line fuel (v4 ||| ((1 : Int32) <<< (v_7 &&& 31))) (v5 + 1))))
def f_M_rth_L98 (lineMany : Int32) (v6 : Int32) (v8 : Int32) : Nat → (Nat → Int32) → (Nat → Int32) → Int32 → Int32 → Option ((Nat → Int32) × (Nat → Int32) × Int32 × Int32)
  | 0, _, _, _, _ => none
  | fuel + 1, waysOf, waysWere, v5, v9 => (zb3 (f_M_rowsOf waysOf waysWere ((lineMany - (1 : Int32)) - v8) (v6 - v9)) fun r_9 waysOf_10 waysWere_11 => (if v5 < r_9 then (some (waysOf_10, waysWere_11, v5, v9)) else (zb3 (f_M_rowsOf waysOf_10 waysWere_11 ((lineMany - (1 : Int32)) - v8) (v6 - v9)) fun r_13 waysOf_14 waysWere_15 => (f_M_rth_L98 lineMany v6 v8 fuel waysOf_14 waysWere_15 (v5 - r_13) (v9 + 1)))))
def f_M_rth_L89 (people : Int32) (lineMany : Int32) (height : Nat → Int32) (v3 : Int32) : Nat → (Nat → Int32) → (Nat → Int32) → Int32 → Int32 → Int32 → Int32 → Int32 → Option ((Nat → Int32) × (Nat → Int32) × Int32)
  | 0, _, _, _, _, _, _, _ => none
  | fuel + 1, waysOf, waysWere, v4, v5, v6, v7, v8 => (if v3 < v8 then (some (waysOf, waysWere, v7)) else (zb4 (f_M_rth_L98 lineMany v6 v8 FU waysOf waysWere v5 0) fun waysOf_17 waysWere_18 v5_19 v9_20 => (zb1 (f_M_withSmaller people height v4 v9_20) fun r_21 => (f_M_rth_L89 people lineMany height v3 fuel waysOf_17 waysWere_18 (v4 &&& (((1 : Int32) <<< (r_21 &&& 31)) ^^^ ((-1) : Int32))) v5_19 (v6 - v9_20) r_21 (v8 + 1)))))
def f_M_rth (people : Int32) (lineMany : Int32) (height : Nat → Int32) (line : Nat → Int32) (waysOf : Nat → Int32) (waysWere : Nat → Int32) (x1 : Int32) (x2 : Int32) (x3 : Int32) : Option (Int32 × (Nat → Int32) × (Nat → Int32)) := (if (f_M_within (Int32.toInt64 x1) 0 36) = 0 then (some ((-1), waysOf, waysWere)) else (if x2 < 0 then (some ((-1), waysOf, waysWere)) else (if (f_M_isPlace lineMany x3) = 0 then (some ((-1), waysOf, waysWere)) else (zb3 (f_M_rowsOf waysOf waysWere lineMany x1) fun r_3 waysOf_4 waysWere_5 => (if x2 < r_3 then (zb1 (f_M_rth_L48 lineMany line FU 0 0) fun v4_8 => (zb3 (f_M_rth_L89 people lineMany height x3 FU waysOf_4 waysWere_5 v4_8 x2 x1 (-1) 0) fun waysOf_23 waysWere_24 v7_25 => (some (v7_25, waysOf_23, waysWere_24)))) else (some ((-2), waysOf_4, waysWere_5)))))))
set_option maxRecDepth 100000 in
set_option maxHeartbeats 4000000 in
theorem l_M_rth_48 {X : zX} (G : zG) (a_this : Nat) (a_height : Nat) (a_changeAt : Nat) (a_changeWas : Nat) (a_changeIs : Nat) (a_tape : Nat) (a_text : Nat) (a_names : Nat) (a_line : Nat) (a_row : Nat) (a_pastMany : Nat) (a_past : Nat) (a_changed : Nat) (a_greatest : Nat) (a_numbersWere : Nat) (a_told : Nat) (a_waysOf : Nat) (a_waysWere : Nat) (a_blocks : Nat) (a_ordersOf : Nat) (a_imageLine : Nat) (a_bodyKind : Nat) (a_trace : Nat) (a_shelf : Nat) (a_many : Nat) (a_items : Nat) (a_carried : Nat) (people : Int32) (keptMany : Int32) (done : Int32) (tapeMany : Int32) (textMany : Int32) (base : Int32) (at_ : Int32) (ends : Int32) (fault : Int32) (opened : Int32) (lineMany : Int32) (rowMany : Int32) (taller : Int32) (tallerBy : Int32) (pasts : Int32) (isKept : Int32) (imageMany : Int32) (bodies : Int32) (ran : Int32) (ownKind : Int32) (ownNumber : Int32) (height : Nat → Int32) (line : Nat → Int32) (waysOf : Nat → Int32) (waysWere : Nat → Int32) (v1 : Int32) (v2 : Int32) (v3 : Int32) {v0 : Option Value} {w0 : va_W} (F : zF X G cX12_rth RX12 10 (some .int) 2 48 v0 w0) (e_v4 : Int32) (hk : Z X G 10 (w_M_rth G a_this a_height a_changeAt a_changeWas a_changeIs a_tape a_text a_names a_line a_row a_pastMany a_past a_changed a_greatest a_numbersWere a_told a_waysOf a_waysWere a_blocks a_ordersOf a_imageLine a_bodyKind a_trace a_shelf a_many a_items a_carried people keptMany done tapeMany textMany base at_ ends fault opened lineMany rowMany taller tallerBy pasts isKept imageMany bodies ran ownKind ownNumber height line waysOf waysWere) [(0, .ref a_this), (1, .int v1), (2, .int v2), (3, .int v3), (4, .int e_v4)] 77 []) :
    ∀ (fuel : Nat) (v4 : Int32) (v5 : Int32), f_M_rth_L48 lineMany line fuel v4 v5 = some e_v4 → Z X G 10 (w_M_rth G a_this a_height a_changeAt a_changeWas a_changeIs a_tape a_text a_names a_line a_row a_pastMany a_past a_changed a_greatest a_numbersWere a_told a_waysOf a_waysWere a_blocks a_ordersOf a_imageLine a_bodyKind a_trace a_shelf a_many a_items a_carried people keptMany done tapeMany textMany base at_ ends fault opened lineMany rowMany taller tallerBy pasts isKept imageMany bodies ran ownKind ownNumber height line waysOf waysWere) [(0, .ref a_this), (1, .int v1), (2, .int v2), (3, .int v3), (4, .int v4), (5, .int v5)] 48 [] := by
  intro fuel
  induction fuel with
  | zero => intro v4 v5 hf; exact absurd ((f_M_rth_L48.eq_1 ..).symm.trans hf) (fun h => by cases h)
  | succ fuel ih =>
    intro v4 v5 hf
    replace hf := (f_M_rth_L48.eq_2 ..).symm.trans hf
    refine z_iload F 5 dX12_rth_48 rfl ?_
    refine z_aload_n F 0 dX12_rth_50 rfl rfl ?_
    refine z_get F 0 12 18 inlX12 rfl rfl (by decide) fl_X12_100 rfl dX12_rth_51 ?_
    refine z_icmp_ge F 77 dX12_rth_54 (by decide) hf (fun hf _ => ?_) (fun hf _ => ?_)
    · have ee1 := Option.some.inj hf
      subst ee1
      exact z_sub [0, 1, 2, 3, 4] rfl hk
    · refine z_iload F 4 dX12_rth_57 rfl ?_
      refine z_iconst F (1) dX12_rth_59 rfl ?_
      refine z_aload_n F 0 dX12_rth_60 rfl rfl ?_
      refine z_get F 0 12 17 inlX12 rfl rfl (by decide) fl_X12_31 rfl dX12_rth_61 ?_
      refine z_iload F 5 dX12_rth_64 rfl ?_
      refine z_iald F 2 rfl hf dX12_rth_66 (fun v_7 hf => ?_)
      refine z_ishl F dX12_rth_67 ?_
      refine z_ior F dX12_rth_68 ?_
      refine z_istore F [(4, .int (v4 ||| ((1 : Int32) <<< (v_7 &&& 31)))), (0, .ref a_this), (1, .int v1), (2, .int v2), (3, .int v3), (5, .int v5)] dX12_rth_69 (by decide) rfl ?_
      refine z_iinc F [(5, .int (v5 + 1)), (4, .int (v4 ||| ((1 : Int32) <<< (v_7 &&& 31)))), (0, .ref a_this), (1, .int v1), (2, .int v2), (3, .int v3)] dX12_rth_71 5 rfl rfl (by decide) rfl ?_
      refine z_goto F 48 dX12_rth_74 (by decide) ?_
      exact z_sub [2, 3, 4, 5, 1, 0] rfl (ih (v4 ||| ((1 : Int32) <<< (v_7 &&& 31))) (v5 + 1) hf)

set_option maxRecDepth 100000 in
set_option maxHeartbeats 4000000 in
theorem l_M_rth_98 {X : zX} (G : zG) (a_this : Nat) (a_height : Nat) (a_changeAt : Nat) (a_changeWas : Nat) (a_changeIs : Nat) (a_tape : Nat) (a_text : Nat) (a_names : Nat) (a_line : Nat) (a_row : Nat) (a_pastMany : Nat) (a_past : Nat) (a_changed : Nat) (a_greatest : Nat) (a_numbersWere : Nat) (a_told : Nat) (a_waysOf : Nat) (a_waysWere : Nat) (a_blocks : Nat) (a_ordersOf : Nat) (a_imageLine : Nat) (a_bodyKind : Nat) (a_trace : Nat) (a_shelf : Nat) (a_many : Nat) (a_items : Nat) (a_carried : Nat) (people : Int32) (keptMany : Int32) (done : Int32) (tapeMany : Int32) (textMany : Int32) (base : Int32) (at_ : Int32) (ends : Int32) (fault : Int32) (opened : Int32) (lineMany : Int32) (rowMany : Int32) (taller : Int32) (tallerBy : Int32) (pasts : Int32) (isKept : Int32) (imageMany : Int32) (bodies : Int32) (ran : Int32) (ownKind : Int32) (ownNumber : Int32) (height : Nat → Int32) (line : Nat → Int32) (v3 : Int32) (v4 : Int32) (v6 : Int32) (v8 : Int32) {v0 : Option Value} {w0 : va_W} (F : zF X G cX12_rth RX12 10 (some .int) 2 48 v0 w0) (e_waysOf : Nat → Int32) (e_waysWere : Nat → Int32) (e_v5 : Int32) (e_v9 : Int32) (hk : Z X G 10 (w_M_rth G a_this a_height a_changeAt a_changeWas a_changeIs a_tape a_text a_names a_line a_row a_pastMany a_past a_changed a_greatest a_numbersWere a_told a_waysOf a_waysWere a_blocks a_ordersOf a_imageLine a_bodyKind a_trace a_shelf a_many a_items a_carried people keptMany done tapeMany textMany base at_ ends fault opened lineMany rowMany taller tallerBy pasts isKept imageMany bodies ran ownKind ownNumber height line e_waysOf e_waysWere) [(0, .ref a_this), (3, .int v3), (4, .int v4), (5, .int e_v5), (6, .int v6), (8, .int v8), (9, .int e_v9)] 150 []) :
    ∀ (fuel : Nat) (waysOf : Nat → Int32) (waysWere : Nat → Int32) (v5 : Int32) (v9 : Int32), f_M_rth_L98 lineMany v6 v8 fuel waysOf waysWere v5 v9 = some (e_waysOf, e_waysWere, e_v5, e_v9) → Z X G 10 (w_M_rth G a_this a_height a_changeAt a_changeWas a_changeIs a_tape a_text a_names a_line a_row a_pastMany a_past a_changed a_greatest a_numbersWere a_told a_waysOf a_waysWere a_blocks a_ordersOf a_imageLine a_bodyKind a_trace a_shelf a_many a_items a_carried people keptMany done tapeMany textMany base at_ ends fault opened lineMany rowMany taller tallerBy pasts isKept imageMany bodies ran ownKind ownNumber height line waysOf waysWere) [(0, .ref a_this), (3, .int v3), (4, .int v4), (5, .int v5), (6, .int v6), (8, .int v8), (9, .int v9)] 98 [] := by
  intro fuel
  induction fuel with
  | zero => intro waysOf waysWere v5 v9 hf; exact absurd ((f_M_rth_L98.eq_1 ..).symm.trans hf) (fun h => by cases h)
  | succ fuel ih =>
    intro waysOf waysWere v5 v9 hf
    replace hf := (f_M_rth_L98.eq_2 ..).symm.trans hf
    refine z_iload F 3 dX12_rth_98 rfl ?_
    refine z_aload_n F 0 dX12_rth_100 rfl rfl ?_
    refine z_aload_n F 0 dX12_rth_101 rfl rfl ?_
    refine z_get F 0 12 18 inlX12 rfl rfl (by decide) fl_X12_100 rfl dX12_rth_102 ?_
    refine z_iconst F (1) dX12_rth_105 rfl ?_
    refine z_isub F dX12_rth_106 ?_
    refine z_iload F 5 dX12_rth_107 rfl ?_
    refine z_isub F dX12_rth_109 ?_
    refine z_iload F 4 dX12_rth_110 rfl ?_
    refine z_iload F 6 dX12_rth_112 rfl ?_
    refine z_isub F dX12_rth_114 ?_
    obtain ⟨r_9, waysOf_10, waysWere_11, hg, hf⟩ := zb3_some hf
    refine z_callVm (rest := [.int v5]) F 12 (c_M_rowsOf (xL X) G a_this a_height a_changeAt a_changeWas a_changeIs a_tape a_text a_names a_line a_row a_pastMany a_past a_changed a_greatest a_numbersWere a_told a_waysOf a_waysWere a_blocks a_ordersOf a_imageLine a_bodyKind a_trace a_shelf a_many a_items a_carried people keptMany done tapeMany textMany base at_ ends fault opened lineMany rowMany taller tallerBy pasts isKept imageMany bodies ran ownKind ownNumber waysOf waysWere ((lineMany - (1 : Int32)) - v8) (v6 - v9) r_9 waysOf_10 waysWere_11 hg) hy_X12_rowsOf ml_X12_295 hd_X12_rowsOf ⟨by omega, by omega⟩ rfl [0, 3, 4] rfl rfl 0 rfl rfl (w_M_rth G a_this a_height a_changeAt a_changeWas a_changeIs a_tape a_text a_names a_line a_row a_pastMany a_past a_changed a_greatest a_numbersWere a_told a_waysOf a_waysWere a_blocks a_ordersOf a_imageLine a_bodyKind a_trace a_shelf a_many a_items a_carried people keptMany done tapeMany textMany base at_ ends fault opened lineMany rowMany taller tallerBy pasts isKept imageMany bodies ran ownKind ownNumber height line waysOf_10 waysWere_11) [some 0, none, none, some 1, some 2] rfl (by decide +kernel) rfl rfl (Nat.le_of_ble_eq_true rfl) dX12_rth_115 (fun hz_12 => ?_)
    refine z_icmp_lt F 150 dX12_rth_118 (by decide) hf (fun hf _ => ?_) (fun hf _ => ?_)
    · have eq1 := Option.some.inj hf
      obtain ⟨ee1, eq2⟩ := Prod.mk.inj eq1
      obtain ⟨ee2, eq3⟩ := Prod.mk.inj eq2
      obtain ⟨ee3, ee4⟩ := Prod.mk.inj eq3
      subst ee1
      subst ee2
      subst ee3
      subst ee4
      exact z_sub [0, 1, 2, 3, 4, 5, 6] rfl hk
    · refine z_iload F 3 dX12_rth_121 rfl ?_
      refine z_aload_n F 0 dX12_rth_123 rfl rfl ?_
      refine z_aload_n F 0 dX12_rth_124 rfl rfl ?_
      refine z_get F 0 12 18 inlX12 rfl rfl (by decide) fl_X12_100 rfl dX12_rth_125 ?_
      refine z_iconst F (1) dX12_rth_128 rfl ?_
      refine z_isub F dX12_rth_129 ?_
      refine z_iload F 5 dX12_rth_130 rfl ?_
      refine z_isub F dX12_rth_132 ?_
      refine z_iload F 4 dX12_rth_133 rfl ?_
      refine z_iload F 6 dX12_rth_135 rfl ?_
      refine z_isub F dX12_rth_137 ?_
      obtain ⟨r_13, waysOf_14, waysWere_15, hg, hf⟩ := zb3_some hf
      refine z_callVm (rest := [.int v5]) F 12 (c_M_rowsOf (xL X) G a_this a_height a_changeAt a_changeWas a_changeIs a_tape a_text a_names a_line a_row a_pastMany a_past a_changed a_greatest a_numbersWere a_told a_waysOf a_waysWere a_blocks a_ordersOf a_imageLine a_bodyKind a_trace a_shelf a_many a_items a_carried people keptMany done tapeMany textMany base at_ ends fault opened lineMany rowMany taller tallerBy pasts isKept imageMany bodies ran ownKind ownNumber waysOf_10 waysWere_11 ((lineMany - (1 : Int32)) - v8) (v6 - v9) r_13 waysOf_14 waysWere_15 hg) hy_X12_rowsOf ml_X12_295 hd_X12_rowsOf ⟨by omega, by omega⟩ rfl [0, 3, 4] rfl rfl 0 rfl rfl (w_M_rth G a_this a_height a_changeAt a_changeWas a_changeIs a_tape a_text a_names a_line a_row a_pastMany a_past a_changed a_greatest a_numbersWere a_told a_waysOf a_waysWere a_blocks a_ordersOf a_imageLine a_bodyKind a_trace a_shelf a_many a_items a_carried people keptMany done tapeMany textMany base at_ ends fault opened lineMany rowMany taller tallerBy pasts isKept imageMany bodies ran ownKind ownNumber height line waysOf_14 waysWere_15) [some 0, none, none, some 1, some 2] rfl (by decide +kernel) rfl rfl (Nat.le_of_ble_eq_true rfl) dX12_rth_138 (fun hz_16 => ?_)
      refine z_isub F dX12_rth_141 ?_
      refine z_istore F [(5, .int (v5 - r_13)), (0, .ref a_this), (3, .int v3), (4, .int v4), (6, .int v6), (8, .int v8), (9, .int v9)] dX12_rth_142 (by decide) rfl ?_
      refine z_iinc F [(9, .int (v9 + 1)), (5, .int (v5 - r_13)), (0, .ref a_this), (3, .int v3), (4, .int v4), (6, .int v6), (8, .int v8)] dX12_rth_144 6 rfl rfl (by decide) rfl ?_
      refine z_goto F 98 dX12_rth_147 (by decide) ?_
      exact z_sub [2, 3, 4, 1, 5, 6, 0] rfl (ih waysOf_14 waysWere_15 (v5 - r_13) (v9 + 1) hf)

set_option maxRecDepth 100000 in
set_option maxHeartbeats 4000000 in
theorem l_M_rth_89 {X : zX} (G : zG) (a_this : Nat) (a_height : Nat) (a_changeAt : Nat) (a_changeWas : Nat) (a_changeIs : Nat) (a_tape : Nat) (a_text : Nat) (a_names : Nat) (a_line : Nat) (a_row : Nat) (a_pastMany : Nat) (a_past : Nat) (a_changed : Nat) (a_greatest : Nat) (a_numbersWere : Nat) (a_told : Nat) (a_waysOf : Nat) (a_waysWere : Nat) (a_blocks : Nat) (a_ordersOf : Nat) (a_imageLine : Nat) (a_bodyKind : Nat) (a_trace : Nat) (a_shelf : Nat) (a_many : Nat) (a_items : Nat) (a_carried : Nat) (people : Int32) (keptMany : Int32) (done : Int32) (tapeMany : Int32) (textMany : Int32) (base : Int32) (at_ : Int32) (ends : Int32) (fault : Int32) (opened : Int32) (lineMany : Int32) (rowMany : Int32) (taller : Int32) (tallerBy : Int32) (pasts : Int32) (isKept : Int32) (imageMany : Int32) (bodies : Int32) (ran : Int32) (ownKind : Int32) (ownNumber : Int32) (height : Nat → Int32) (line : Nat → Int32) (v3 : Int32) {v0 : Option Value} {w0 : va_W} (F : zF X G cX12_rth RX12 10 (some .int) 2 48 v0 w0) (e_waysOf : Nat → Int32) (e_waysWere : Nat → Int32) (e_v7 : Int32) (hk : Z X G 10 (w_M_rth G a_this a_height a_changeAt a_changeWas a_changeIs a_tape a_text a_names a_line a_row a_pastMany a_past a_changed a_greatest a_numbersWere a_told a_waysOf a_waysWere a_blocks a_ordersOf a_imageLine a_bodyKind a_trace a_shelf a_many a_items a_carried people keptMany done tapeMany textMany base at_ ends fault opened lineMany rowMany taller tallerBy pasts isKept imageMany bodies ran ownKind ownNumber height line e_waysOf e_waysWere) [(7, .int e_v7)] 184 []) :
    ∀ (fuel : Nat) (waysOf : Nat → Int32) (waysWere : Nat → Int32) (v4 : Int32) (v5 : Int32) (v6 : Int32) (v7 : Int32) (v8 : Int32), f_M_rth_L89 people lineMany height v3 fuel waysOf waysWere v4 v5 v6 v7 v8 = some (e_waysOf, e_waysWere, e_v7) → Z X G 10 (w_M_rth G a_this a_height a_changeAt a_changeWas a_changeIs a_tape a_text a_names a_line a_row a_pastMany a_past a_changed a_greatest a_numbersWere a_told a_waysOf a_waysWere a_blocks a_ordersOf a_imageLine a_bodyKind a_trace a_shelf a_many a_items a_carried people keptMany done tapeMany textMany base at_ ends fault opened lineMany rowMany taller tallerBy pasts isKept imageMany bodies ran ownKind ownNumber height line waysOf waysWere) [(0, .ref a_this), (3, .int v3), (4, .int v4), (5, .int v5), (6, .int v6), (7, .int v7), (8, .int v8)] 89 [] := by
  intro fuel
  induction fuel with
  | zero => intro waysOf waysWere v4 v5 v6 v7 v8 hf; exact absurd ((f_M_rth_L89.eq_1 ..).symm.trans hf) (fun h => by cases h)
  | succ fuel ih =>
    intro waysOf waysWere v4 v5 v6 v7 v8 hf
    replace hf := (f_M_rth_L89.eq_2 ..).symm.trans hf
    refine z_iload F 6 dX12_rth_89 rfl ?_
    refine z_iload_n F 1 dX12_rth_91 rfl rfl ?_
    refine z_icmp_gt F 184 dX12_rth_92 (by decide) hf (fun hf _ => ?_) (fun hf _ => ?_)
    · have eq1 := Option.some.inj hf
      obtain ⟨ee1, eq2⟩ := Prod.mk.inj eq1
      obtain ⟨ee2, ee3⟩ := Prod.mk.inj eq2
      subst ee1
      subst ee2
      subst ee3
      exact z_sub [5] rfl hk
    · refine z_iconst F (0) dX12_rth_95 rfl ?_
      refine z_istore F [(9, .int 0), (0, .ref a_this), (3, .int v3), (4, .int v4), (5, .int v5), (6, .int v6), (7, .int v7), (8, .int v8)] dX12_rth_96 (by decide) rfl ?_
      obtain ⟨waysOf_17, waysWere_18, v5_19, v9_20, hg, hf⟩ := zb4_some hf
      refine z_sub [1, 2, 3, 4, 5, 7, 0] rfl ?_
      refine l_M_rth_98 G a_this a_height a_changeAt a_changeWas a_changeIs a_tape a_text a_names a_line a_row a_pastMany a_past a_changed a_greatest a_numbersWere a_told a_waysOf a_waysWere a_blocks a_ordersOf a_imageLine a_bodyKind a_trace a_shelf a_many a_items a_carried people keptMany done tapeMany textMany base at_ ends fault opened lineMany rowMany taller tallerBy pasts isKept imageMany bodies ran ownKind ownNumber height line v3 v4 v6 v8 F waysOf_17 waysWere_18 v5_19 v9_20 ?_ FU waysOf waysWere v5 0 hg
      refine z_iload F 4 dX12_rth_150 rfl ?_
      refine z_iload F 6 dX12_rth_152 rfl ?_
      refine z_isub F dX12_rth_154 ?_
      refine z_istore F [(6, .int (v6 - v9_20)), (0, .ref a_this), (3, .int v3), (4, .int v4), (5, .int v5_19), (8, .int v8), (9, .int v9_20)] dX12_rth_155 (by decide) rfl ?_
      refine z_aload_n F 1 dX12_rth_157 rfl rfl ?_
      refine z_iload F 3 dX12_rth_158 rfl ?_
      refine z_iload F 6 dX12_rth_160 rfl ?_
      obtain ⟨r_21, hg, hf⟩ := zb1_some hf
      refine z_callVm (rest := []) F 12 (c_M_withSmaller (xL X) G a_this a_height a_changeAt a_changeWas a_changeIs a_tape a_text a_names a_line a_row a_pastMany a_past a_changed a_greatest a_numbersWere a_told a_waysOf a_waysWere a_blocks a_ordersOf a_imageLine a_bodyKind a_trace a_shelf a_many a_items a_carried people keptMany done tapeMany textMany base at_ ends fault opened lineMany rowMany taller tallerBy pasts isKept imageMany bodies ran ownKind ownNumber height v4 v9_20 r_21 hg) hy_X12_withSmaller ml_X12_298 hd_X12_withSmaller ⟨by omega, by omega⟩ rfl [0, 1] rfl rfl 0 rfl rfl (w_M_rth G a_this a_height a_changeAt a_changeWas a_changeIs a_tape a_text a_names a_line a_row a_pastMany a_past a_changed a_greatest a_numbersWere a_told a_waysOf a_waysWere a_blocks a_ordersOf a_imageLine a_bodyKind a_trace a_shelf a_many a_items a_carried people keptMany done tapeMany textMany base at_ ends fault opened lineMany rowMany taller tallerBy pasts isKept imageMany bodies ran ownKind ownNumber height line waysOf_17 waysWere_18) [some 0, some 1, none, none, none] rfl (by decide +kernel) rfl rfl (Nat.le_of_ble_eq_true rfl) dX12_rth_162 (fun hz_22 => ?_)
      refine z_istore F [(7, .int r_21), (6, .int (v6 - v9_20)), (0, .ref a_this), (3, .int v3), (4, .int v4), (5, .int v5_19), (8, .int v8), (9, .int v9_20)] dX12_rth_165 (by decide) rfl ?_
      refine z_iload F 4 dX12_rth_167 rfl ?_
      refine z_iconst F (1) dX12_rth_169 rfl ?_
      refine z_iload F 0 dX12_rth_170 rfl ?_
      refine z_ishl F dX12_rth_172 ?_
      refine z_iconst F (-1) dX12_rth_173 rfl ?_
      refine z_ixor F dX12_rth_174 ?_
      refine z_iand F dX12_rth_175 ?_
      refine z_istore F [(4, .int (v4 &&& (((1 : Int32) <<< (r_21 &&& 31)) ^^^ ((-1) : Int32)))), (7, .int r_21), (6, .int (v6 - v9_20)), (0, .ref a_this), (3, .int v3), (5, .int v5_19), (8, .int v8), (9, .int v9_20)] dX12_rth_176 (by decide) rfl ?_
      refine z_iinc F [(8, .int (v8 + 1)), (4, .int (v4 &&& (((1 : Int32) <<< (r_21 &&& 31)) ^^^ ((-1) : Int32)))), (7, .int r_21), (6, .int (v6 - v9_20)), (0, .ref a_this), (3, .int v3), (5, .int v5_19), (9, .int v9_20)] dX12_rth_178 6 rfl rfl (by decide) rfl ?_
      refine z_goto F 89 dX12_rth_181 (by decide) ?_
      exact z_sub [4, 5, 1, 6, 3, 2, 0] rfl (ih waysOf_17 waysWere_18 (v4 &&& (((1 : Int32) <<< (r_21 &&& 31)) ^^^ ((-1) : Int32))) v5_19 (v6 - v9_20) r_21 (v8 + 1) hf)

set_option maxRecDepth 100000 in
set_option maxHeartbeats 4000000 in
theorem c_M_rth (l : Launch) (G : zG) (a_this : Nat) (a_height : Nat) (a_changeAt : Nat) (a_changeWas : Nat) (a_changeIs : Nat) (a_tape : Nat) (a_text : Nat) (a_names : Nat) (a_line : Nat) (a_row : Nat) (a_pastMany : Nat) (a_past : Nat) (a_changed : Nat) (a_greatest : Nat) (a_numbersWere : Nat) (a_told : Nat) (a_waysOf : Nat) (a_waysWere : Nat) (a_blocks : Nat) (a_ordersOf : Nat) (a_imageLine : Nat) (a_bodyKind : Nat) (a_trace : Nat) (a_shelf : Nat) (a_many : Nat) (a_items : Nat) (a_carried : Nat) (people : Int32) (keptMany : Int32) (done : Int32) (tapeMany : Int32) (textMany : Int32) (base : Int32) (at_ : Int32) (ends : Int32) (fault : Int32) (opened : Int32) (lineMany : Int32) (rowMany : Int32) (taller : Int32) (tallerBy : Int32) (pasts : Int32) (isKept : Int32) (imageMany : Int32) (bodies : Int32) (ran : Int32) (ownKind : Int32) (ownNumber : Int32) (height : Nat → Int32) (line : Nat → Int32) (waysOf : Nat → Int32) (waysWere : Nat → Int32) (x1 : Int32) (x2 : Int32) (x3 : Int32) (r_ : Int32) (o_waysOf : Nat → Int32) (o_waysWere : Nat → Int32) (hf : f_M_rth people lineMany height line waysOf waysWere x1 x2 x3 = some (r_, o_waysOf, o_waysWere)) : zM l yX12_rth cX12_rth 10 (some .int) 2 48 G [.ref a_this, .int x1, .int x2, .int x3] (w_M_rth G a_this a_height a_changeAt a_changeWas a_changeIs a_tape a_text a_names a_line a_row a_pastMany a_past a_changed a_greatest a_numbersWere a_told a_waysOf a_waysWere a_blocks a_ordersOf a_imageLine a_bodyKind a_trace a_shelf a_many a_items a_carried people keptMany done tapeMany textMany base at_ ends fault opened lineMany rowMany taller tallerBy pasts isKept imageMany bodies ran ownKind ownNumber height line waysOf waysWere) (some (.int r_)) (w_M_rth G a_this a_height a_changeAt a_changeWas a_changeIs a_tape a_text a_names a_line a_row a_pastMany a_past a_changed a_greatest a_numbersWere a_told a_waysOf a_waysWere a_blocks a_ordersOf a_imageLine a_bodyKind a_trace a_shelf a_many a_items a_carried people keptMany done tapeMany textMany base at_ ends fault opened lineMany rowMany taller tallerBy pasts isKept imageMany bodies ran ownKind ownNumber height line o_waysOf o_waysWere) := by
  refine zM.of [(0, .ref a_this), (1, .int x1), (2, .int x2), (3, .int x3)] (own := RX12) rfl (by decide +kernel) (Nat.le_of_ble_eq_true rfl) rfl rfl fun X hX F => ?_
  subst hX
  replace hf := (f_M_rth.eq_1 ..).symm.trans hf
  refine z_iload_n F 1 dX12_rth_0 rfl rfl ?_
  refine z_i2l F dX12_rth_1 ?_
  refine z_lconst F (0) dX12_rth_2 rfl ?_
  refine z_ldc2 F (36) (uw38 _ (List.mem_of_getElem? (i := 14) rfl)) dX12_rth_3 ?_
  refine z_callSm (rest := []) F (c_M_within (xL X) G (Int32.toInt64 x1) 0 36 _ rfl) hy_X12_within ml_X12_96 hd_X12_within ⟨by omega, by omega⟩ rfl [] rfl rfl (w_M_rth G a_this a_height a_changeAt a_changeWas a_changeIs a_tape a_text a_names a_line a_row a_pastMany a_past a_changed a_greatest a_numbersWere a_told a_waysOf a_waysWere a_blocks a_ordersOf a_imageLine a_bodyKind a_trace a_shelf a_many a_items a_carried people keptMany done tapeMany textMany base at_ ends fault opened lineMany rowMany taller tallerBy pasts isKept imageMany bodies ran ownKind ownNumber height line waysOf waysWere) [none, none, none, none, none] rfl (by decide +kernel) rfl rfl (Nat.le_of_ble_eq_true rfl) dX12_rth_6 (fun hz_1 => ?_)
  refine z_if_eq F 24 dX12_rth_9 (by decide) hf (fun hf _ => ?_) (fun hf _ => ?_)
  · refine z_iconst F (-1) dX12_rth_24 rfl ?_
    have eq1 := Option.some.inj hf
    obtain ⟨ee1, eq2⟩ := Prod.mk.inj eq1
    obtain ⟨ee2, ee3⟩ := Prod.mk.inj eq2
    subst ee1
    subst ee2
    subst ee3
    exact z_iret F rfl rfl rfl rfl dX12_rth_25
  · refine z_iload_n F 2 dX12_rth_12 rfl rfl ?_
    refine z_if_lt F 24 dX12_rth_13 (by decide) hf (fun hf _ => ?_) (fun hf _ => ?_)
    · refine z_iconst F (-1) dX12_rth_24 rfl ?_
      have eq1 := Option.some.inj hf
      obtain ⟨ee1, eq2⟩ := Prod.mk.inj eq1
      obtain ⟨ee2, ee3⟩ := Prod.mk.inj eq2
      subst ee1
      subst ee2
      subst ee3
      exact z_iret F rfl rfl rfl rfl dX12_rth_25
    · refine z_aload_n F 0 dX12_rth_16 rfl rfl ?_
      refine z_iload_n F 3 dX12_rth_17 rfl rfl ?_
      refine z_callVm (rest := []) F 12 (c_M_isPlace (xL X) G a_this a_height a_changeAt a_changeWas a_changeIs a_tape a_text a_names a_line a_row a_pastMany a_past a_changed a_greatest a_numbersWere a_told a_waysOf a_waysWere a_blocks a_ordersOf a_imageLine a_bodyKind a_trace a_shelf a_many a_items a_carried people keptMany done tapeMany textMany base at_ ends fault opened lineMany rowMany taller tallerBy pasts isKept imageMany bodies ran ownKind ownNumber x3 _ rfl) hy_X12_isPlace ml_X12_239 hd_X12_isPlace ⟨by omega, by omega⟩ rfl [0] rfl rfl 0 rfl rfl (w_M_rth G a_this a_height a_changeAt a_changeWas a_changeIs a_tape a_text a_names a_line a_row a_pastMany a_past a_changed a_greatest a_numbersWere a_told a_waysOf a_waysWere a_blocks a_ordersOf a_imageLine a_bodyKind a_trace a_shelf a_many a_items a_carried people keptMany done tapeMany textMany base at_ ends fault opened lineMany rowMany taller tallerBy pasts isKept imageMany bodies ran ownKind ownNumber height line waysOf waysWere) [some 0, none, none, none, none] rfl (by decide +kernel) rfl rfl (Nat.le_of_ble_eq_true rfl) dX12_rth_18 (fun hz_2 => ?_)
      refine z_if_ne F 26 dX12_rth_21 (by decide) hf (fun hf _ => ?_) (fun hf _ => ?_)
      · refine z_iload_n F 2 dX12_rth_26 rfl rfl ?_
        refine z_aload_n F 0 dX12_rth_27 rfl rfl ?_
        refine z_aload_n F 0 dX12_rth_28 rfl rfl ?_
        refine z_get F 0 12 18 inlX12 rfl rfl (by decide) fl_X12_100 rfl dX12_rth_29 ?_
        refine z_iload_n F 1 dX12_rth_32 rfl rfl ?_
        obtain ⟨r_3, waysOf_4, waysWere_5, hg, hf⟩ := zb3_some hf
        refine z_callVm (rest := [.int x2]) F 12 (c_M_rowsOf (xL X) G a_this a_height a_changeAt a_changeWas a_changeIs a_tape a_text a_names a_line a_row a_pastMany a_past a_changed a_greatest a_numbersWere a_told a_waysOf a_waysWere a_blocks a_ordersOf a_imageLine a_bodyKind a_trace a_shelf a_many a_items a_carried people keptMany done tapeMany textMany base at_ ends fault opened lineMany rowMany taller tallerBy pasts isKept imageMany bodies ran ownKind ownNumber waysOf waysWere lineMany x1 r_3 waysOf_4 waysWere_5 hg) hy_X12_rowsOf ml_X12_295 hd_X12_rowsOf ⟨by omega, by omega⟩ rfl [0, 3, 4] rfl rfl 0 rfl rfl (w_M_rth G a_this a_height a_changeAt a_changeWas a_changeIs a_tape a_text a_names a_line a_row a_pastMany a_past a_changed a_greatest a_numbersWere a_told a_waysOf a_waysWere a_blocks a_ordersOf a_imageLine a_bodyKind a_trace a_shelf a_many a_items a_carried people keptMany done tapeMany textMany base at_ ends fault opened lineMany rowMany taller tallerBy pasts isKept imageMany bodies ran ownKind ownNumber height line waysOf_4 waysWere_5) [some 0, none, none, some 1, some 2] rfl (by decide +kernel) rfl rfl (Nat.le_of_ble_eq_true rfl) dX12_rth_33 (fun hz_6 => ?_)
        refine z_icmp_lt F 42 dX12_rth_36 (by decide) hf (fun hf _ => ?_) (fun hf _ => ?_)
        · refine z_iconst F (0) dX12_rth_42 rfl ?_
          refine z_istore F [(4, .int 0), (0, .ref a_this), (1, .int x1), (2, .int x2), (3, .int x3)] dX12_rth_43 (by decide) rfl ?_
          refine z_iconst F (0) dX12_rth_45 rfl ?_
          refine z_istore F [(5, .int 0), (4, .int 0), (0, .ref a_this), (1, .int x1), (2, .int x2), (3, .int x3)] dX12_rth_46 (by decide) rfl ?_
          obtain ⟨v4_8, hg, hf⟩ := zb1_some hf
          refine z_sub [2, 3, 4, 5, 1, 0] rfl ?_
          refine l_M_rth_48 G a_this a_height a_changeAt a_changeWas a_changeIs a_tape a_text a_names a_line a_row a_pastMany a_past a_changed a_greatest a_numbersWere a_told a_waysOf a_waysWere a_blocks a_ordersOf a_imageLine a_bodyKind a_trace a_shelf a_many a_items a_carried people keptMany done tapeMany textMany base at_ ends fault opened lineMany rowMany taller tallerBy pasts isKept imageMany bodies ran ownKind ownNumber height line waysOf_4 waysWere_5 x1 x2 x3 F v4_8 ?_ FU 0 0 hg
          refine z_iload_n F 2 dX12_rth_77 rfl rfl ?_
          refine z_istore F [(5, .int x2), (0, .ref a_this), (1, .int x1), (2, .int x2), (3, .int x3), (4, .int v4_8)] dX12_rth_78 (by decide) rfl ?_
          refine z_iload_n F 2 dX12_rth_80 rfl rfl ?_
          refine z_istore F [(6, .int x1), (5, .int x2), (0, .ref a_this), (1, .int x1), (2, .int x2), (3, .int x3), (4, .int v4_8)] dX12_rth_81 (by decide) rfl ?_
          refine z_iconst F (-1) dX12_rth_83 rfl ?_
          refine z_istore F [(7, .int (-1)), (6, .int x1), (5, .int x2), (0, .ref a_this), (1, .int x1), (2, .int x2), (3, .int x3), (4, .int v4_8)] dX12_rth_84 (by decide) rfl ?_
          refine z_iconst F (0) dX12_rth_86 rfl ?_
          refine z_istore F [(8, .int 0), (7, .int (-1)), (6, .int x1), (5, .int x2), (0, .ref a_this), (1, .int x1), (2, .int x2), (3, .int x3), (4, .int v4_8)] dX12_rth_87 (by decide) rfl ?_
          obtain ⟨waysOf_23, waysWere_24, v7_25, hg, hf⟩ := zb3_some hf
          refine z_sub [4, 7, 8, 3, 2, 1, 0] rfl ?_
          refine l_M_rth_89 G a_this a_height a_changeAt a_changeWas a_changeIs a_tape a_text a_names a_line a_row a_pastMany a_past a_changed a_greatest a_numbersWere a_told a_waysOf a_waysWere a_blocks a_ordersOf a_imageLine a_bodyKind a_trace a_shelf a_many a_items a_carried people keptMany done tapeMany textMany base at_ ends fault opened lineMany rowMany taller tallerBy pasts isKept imageMany bodies ran ownKind ownNumber height line x3 F waysOf_23 waysWere_24 v7_25 ?_ FU waysOf_4 waysWere_5 v4_8 x2 x1 (-1) 0 hg
          refine z_iload F 0 dX12_rth_184 rfl ?_
          have eq1 := Option.some.inj hf
          obtain ⟨ee1, eq2⟩ := Prod.mk.inj eq1
          obtain ⟨ee2, ee3⟩ := Prod.mk.inj eq2
          subst ee1
          subst ee2
          subst ee3
          exact z_iret F rfl rfl rfl rfl dX12_rth_186
        · refine z_bipush F (-2) dX12_rth_39 rfl ?_
          have eq1 := Option.some.inj hf
          obtain ⟨ee1, eq2⟩ := Prod.mk.inj eq1
          obtain ⟨ee2, ee3⟩ := Prod.mk.inj eq2
          subst ee1
          subst ee2
          subst ee3
          exact z_iret F rfl rfl rfl rfl dX12_rth_41
      · refine z_iconst F (-1) dX12_rth_24 rfl ?_
        have eq1 := Option.some.inj hf
        obtain ⟨ee1, eq2⟩ := Prod.mk.inj eq1
        obtain ⟨ee2, ee3⟩ := Prod.mk.inj eq2
        subst ee1
        subst ee2
        subst ee3
        exact z_iret F rfl rfl rfl rfl dX12_rth_25

abbrev w_M_calm (G : zG) (a_this : Nat) (a_height : Nat) (a_changeAt : Nat) (a_changeWas : Nat) (a_changeIs : Nat) (a_tape : Nat) (a_text : Nat) (a_names : Nat) (a_line : Nat) (a_row : Nat) (a_pastMany : Nat) (a_past : Nat) (a_changed : Nat) (a_greatest : Nat) (a_numbersWere : Nat) (a_told : Nat) (a_waysOf : Nat) (a_waysWere : Nat) (a_blocks : Nat) (a_ordersOf : Nat) (a_imageLine : Nat) (a_bodyKind : Nat) (a_trace : Nat) (a_shelf : Nat) (a_many : Nat) (a_items : Nat) (a_carried : Nat) (people : Int32) (keptMany : Int32) (done : Int32) (tapeMany : Int32) (textMany : Int32) (base : Int32) (at_ : Int32) (ends : Int32) (fault : Int32) (opened : Int32) (lineMany : Int32) (rowMany : Int32) (taller : Int32) (tallerBy : Int32) (pasts : Int32) (isKept : Int32) (imageMany : Int32) (bodies : Int32) (ran : Int32) (ownKind : Int32) (ownNumber : Int32) (height : Nat → Int32) (tape : Nat → Int32) (text : Nat → Int32) (names : Nat → Int32) (line : Nat → Int32) (row : Nat → Int32) : va_W := [(a_this, cO 12 [.int people, .ref a_height, .ref a_changeAt, .ref a_changeWas, .ref a_changeIs, .int keptMany, .int done, .ref a_tape, .int tapeMany, .ref a_text, .int textMany, .int base, .int at_, .int ends, .int fault, .int opened, .ref a_names, .ref a_line, .int lineMany, .ref a_row, .int rowMany, .int taller, .int tallerBy, .ref a_pastMany, .ref a_past, .int pasts, .ref a_changed, .ref a_greatest, .ref a_numbersWere, .ref a_told, .ref a_waysOf, .ref a_waysWere, .ref a_blocks, .ref a_ordersOf, .int isKept, .int imageMany, .ref a_imageLine, .int bodies, .ref a_bodyKind, .ref a_trace, .int ran, .int ownKind, .int ownNumber, .ref a_shelf, .ref a_many, .ref a_items, .ref a_carried]), (a_height, cI G 9 height), (a_tape, cI G 120 tape), (a_text, cI G 120 text), (a_names, cI G 5 names), (a_line, cI G 9 line), (a_row, cI G 9 row)]
def f_M_calm_L38 (textMany : Int32) (lineMany : Int32) (rowMany : Int32) (taller : Int32) (tallerBy : Int32) (height : Nat → Int32) (tape : Nat → Int32) (text : Nat → Int32) (v4 : Int32) : Nat → Int32 → Int32 → Int32 → Int32 → Int32 → (Nat → Int32) → (Nat → Int32) → Int32 → Int32 → Int32 → Option (Int32 × Int32 × Int32 × Int32 × Int32 × (Nat → Int32) × (Nat → Int32) × Int32 × Int32)
  | 0, _, _, _, _, _, _, _, _, _, _ => none
  | fuel + 1, base, at_, ends, fault, opened, names, row, v2, v3, v5 => (if lineMany ≤ v5 then (some (base, at_, ends, fault, opened, names, row, v2, v3)) else (zb1 (f_M_changesIn row v4 v5) fun row_13 => (zb7 (f_M_disquietOf textMany base at_ ends fault opened rowMany taller tallerBy height tape text names row_13) fun r_15 base_16 at__17 ends_18 fault_19 opened_20 names_21 => (zb1 (f_M_changesIn row_13 v4 v5) fun row_23 => (if v2 ≤ r_15 then (if v2 ≤ r_15 then (f_M_calm_L38 textMany lineMany rowMany taller tallerBy height tape text v4 fuel base_16 at__17 ends_18 fault_19 opened_20 names_21 row_23 v2 v3 (v5 + 1)) else (f_M_calm_L38 textMany lineMany rowMany taller tallerBy height tape text v4 fuel base_16 at__17 ends_18 fault_19 opened_20 names_21 row_23 r_15 v3 (v5 + 1))) else (if v2 ≤ r_15 then (f_M_calm_L38 textMany lineMany rowMany taller tallerBy height tape text v4 fuel base_16 at__17 ends_18 fault_19 opened_20 names_21 row_23 v2 (((10 : Int32) * v4) + v5) (v5 + 1)) else (f_M_calm_L38 textMany lineMany rowMany taller tallerBy height tape text v4 fuel base_16 at__17 ends_18 fault_19 opened_20 names_21 row_23 r_15 (((10 : Int32) * v4) + v5) (v5 + 1))))))))
def f_M_calm_L23 (textMany : Int32) (lineMany : Int32) (rowMany : Int32) (taller : Int32) (tallerBy : Int32) (height : Nat → Int32) (tape : Nat → Int32) (text : Nat → Int32) : Nat → Int32 → Int32 → Int32 → Int32 → Int32 → (Nat → Int32) → (Nat → Int32) → Int32 → Int32 → Int32 → Option (Int32 × Int32 × Int32 × Int32 × Int32 × (Nat → Int32) × (Nat → Int32) × Int32 × Int32)
  | 0, _, _, _, _, _, _, _, _, _, _ => none
  | fuel + 1, base, at_, ends, fault, opened, names, row, v2, v3, v4 => (if lineMany ≤ v4 then (some (base, at_, ends, fault, opened, names, row, v2, v3)) else (zb9 (f_M_calm_L38 textMany lineMany rowMany taller tallerBy height tape text v4 FU base at_ ends fault opened names row v2 v3 (v4 + (1 : Int32))) fun base_25 at__26 ends_27 fault_28 opened_29 names_30 row_31 v2_32 v3_33 => (f_M_calm_L23 textMany lineMany rowMany taller tallerBy height tape text fuel base_25 at__26 ends_27 fault_28 opened_29 names_30 row_31 v2_32 v3_33 (v4 + 1))))
def f_M_calm (textMany : Int32) (base : Int32) (at_ : Int32) (ends : Int32) (fault : Int32) (opened : Int32) (lineMany : Int32) (rowMany : Int32) (taller : Int32) (tallerBy : Int32) (height : Nat → Int32) (tape : Nat → Int32) (text : Nat → Int32) (names : Nat → Int32) (line : Nat → Int32) (row : Nat → Int32) (x1 : Int32) : Option (Int32 × Int32 × Int32 × Int32 × Int32 × Int32 × Int32 × Int32 × (Nat → Int32) × (Nat → Int32)) := (if (f_M_within (Int32.toInt64 x1) 0 1) = 0 then (some ((-1), base, at_, ends, fault, opened, rowMany, taller, names, row)) else (zb10 (f_M_disquietNow textMany base at_ ends fault opened lineMany rowMany taller tallerBy height tape text names line row) fun r_2 base_3 at__4 ends_5 fault_6 opened_7 rowMany_8 taller_9 names_10 row_11 => (zb9 (f_M_calm_L23 textMany lineMany rowMany_8 taller_9 tallerBy height tape text FU base_3 at__4 ends_5 fault_6 opened_7 names_10 row_11 r_2 (-2) 0) fun base_34 at__35 ends_36 fault_37 opened_38 names_39 row_40 v2_41 v3_42 => (if v3_42 < 0 then (some (v3_42, base_34, at__35, ends_36, fault_37, opened_38, rowMany_8, taller_9, names_39, row_40)) else (if x1 = 0 then (some (v3_42, base_34, at__35, ends_36, fault_37, opened_38, rowMany_8, taller_9, names_39, row_40)) else (some (v2_41, base_34, at__35, ends_36, fault_37, opened_38, rowMany_8, taller_9, names_39, row_40)))))))
set_option maxRecDepth 100000 in
set_option maxHeartbeats 4000000 in
theorem l_M_calm_38 {X : zX} (G : zG) (a_this : Nat) (a_height : Nat) (a_changeAt : Nat) (a_changeWas : Nat) (a_changeIs : Nat) (a_tape : Nat) (a_text : Nat) (a_names : Nat) (a_line : Nat) (a_row : Nat) (a_pastMany : Nat) (a_past : Nat) (a_changed : Nat) (a_greatest : Nat) (a_numbersWere : Nat) (a_told : Nat) (a_waysOf : Nat) (a_waysWere : Nat) (a_blocks : Nat) (a_ordersOf : Nat) (a_imageLine : Nat) (a_bodyKind : Nat) (a_trace : Nat) (a_shelf : Nat) (a_many : Nat) (a_items : Nat) (a_carried : Nat) (people : Int32) (keptMany : Int32) (done : Int32) (tapeMany : Int32) (textMany : Int32) (lineMany : Int32) (rowMany : Int32) (taller : Int32) (tallerBy : Int32) (pasts : Int32) (isKept : Int32) (imageMany : Int32) (bodies : Int32) (ran : Int32) (ownKind : Int32) (ownNumber : Int32) (height : Nat → Int32) (tape : Nat → Int32) (text : Nat → Int32) (line : Nat → Int32) (v1 : Int32) (v4 : Int32) {v0 : Option Value} {w0 : va_W} (F : zF X G cX12_calm RX12 7 (some .int) 154 3575 v0 w0) (e_base : Int32) (e_at_ : Int32) (e_ends : Int32) (e_fault : Int32) (e_opened : Int32) (e_names : Nat → Int32) (e_row : Nat → Int32) (e_v2 : Int32) (e_v3 : Int32) (hk : Z X G 7 (w_M_calm G a_this a_height a_changeAt a_changeWas a_changeIs a_tape a_text a_names a_line a_row a_pastMany a_past a_changed a_greatest a_numbersWere a_told a_waysOf a_waysWere a_blocks a_ordersOf a_imageLine a_bodyKind a_trace a_shelf a_many a_items a_carried people keptMany done tapeMany textMany e_base e_at_ e_ends e_fault e_opened lineMany rowMany taller tallerBy pasts isKept imageMany bodies ran ownKind ownNumber height tape text e_names line e_row) [(0, .ref a_this), (1, .int v1), (2, .int e_v2), (3, .int e_v3), (4, .int v4)] 107 []) :
    ∀ (fuel : Nat) (base : Int32) (at_ : Int32) (ends : Int32) (fault : Int32) (opened : Int32) (names : Nat → Int32) (row : Nat → Int32) (v2 : Int32) (v3 : Int32) (v5 : Int32), f_M_calm_L38 textMany lineMany rowMany taller tallerBy height tape text v4 fuel base at_ ends fault opened names row v2 v3 v5 = some (e_base, e_at_, e_ends, e_fault, e_opened, e_names, e_row, e_v2, e_v3) → Z X G 7 (w_M_calm G a_this a_height a_changeAt a_changeWas a_changeIs a_tape a_text a_names a_line a_row a_pastMany a_past a_changed a_greatest a_numbersWere a_told a_waysOf a_waysWere a_blocks a_ordersOf a_imageLine a_bodyKind a_trace a_shelf a_many a_items a_carried people keptMany done tapeMany textMany base at_ ends fault opened lineMany rowMany taller tallerBy pasts isKept imageMany bodies ran ownKind ownNumber height tape text names line row) [(0, .ref a_this), (1, .int v1), (2, .int v2), (3, .int v3), (4, .int v4), (5, .int v5)] 38 [] := by
  intro fuel
  induction fuel with
  | zero => intro base at_ ends fault opened names row v2 v3 v5 hf; exact absurd ((f_M_calm_L38.eq_1 ..).symm.trans hf) (fun h => by cases h)
  | succ fuel ih =>
    intro base at_ ends fault opened names row v2 v3 v5 hf
    replace hf := (f_M_calm_L38.eq_2 ..).symm.trans hf
    refine z_iload F 5 dX12_calm_38 rfl ?_
    refine z_aload_n F 0 dX12_calm_40 rfl rfl ?_
    refine z_get F 0 12 18 inlX12 rfl rfl (by decide) fl_X12_100 rfl dX12_calm_41 ?_
    refine z_icmp_ge F 107 dX12_calm_44 (by decide) hf (fun hf _ => ?_) (fun hf _ => ?_)
    · have eq1 := Option.some.inj hf
      obtain ⟨ee1, eq2⟩ := Prod.mk.inj eq1
      obtain ⟨ee2, eq3⟩ := Prod.mk.inj eq2
      obtain ⟨ee3, eq4⟩ := Prod.mk.inj eq3
      obtain ⟨ee4, eq5⟩ := Prod.mk.inj eq4
      obtain ⟨ee5, eq6⟩ := Prod.mk.inj eq5
      obtain ⟨ee6, eq7⟩ := Prod.mk.inj eq6
      obtain ⟨ee7, eq8⟩ := Prod.mk.inj eq7
      obtain ⟨ee8, ee9⟩ := Prod.mk.inj eq8
      subst ee1
      subst ee2
      subst ee3
      subst ee4
      subst ee5
      subst ee6
      subst ee7
      subst ee8
      subst ee9
      exact z_sub [0, 1, 2, 3, 4] rfl hk
    · refine z_aload_n F 0 dX12_calm_47 rfl rfl ?_
      refine z_iload F 4 dX12_calm_48 rfl ?_
      refine z_iload F 5 dX12_calm_50 rfl ?_
      obtain ⟨row_13, hg, hf⟩ := zb1_some hf
      refine z_callVm (rest := []) F 12 (c_M_changesIn (xL X) G a_this a_height a_changeAt a_changeWas a_changeIs a_tape a_text a_names a_line a_row a_pastMany a_past a_changed a_greatest a_numbersWere a_told a_waysOf a_waysWere a_blocks a_ordersOf a_imageLine a_bodyKind a_trace a_shelf a_many a_items a_carried people keptMany done tapeMany textMany base at_ ends fault opened lineMany rowMany taller tallerBy pasts isKept imageMany bodies ran ownKind ownNumber row v4 v5 row_13 hg) hy_X12_changesIn ml_X12_248 hd_X12_changesIn ⟨by omega, by omega⟩ rfl [0, 6] rfl rfl 0 rfl rfl (w_M_calm G a_this a_height a_changeAt a_changeWas a_changeIs a_tape a_text a_names a_line a_row a_pastMany a_past a_changed a_greatest a_numbersWere a_told a_waysOf a_waysWere a_blocks a_ordersOf a_imageLine a_bodyKind a_trace a_shelf a_many a_items a_carried people keptMany done tapeMany textMany base at_ ends fault opened lineMany rowMany taller tallerBy pasts isKept imageMany bodies ran ownKind ownNumber height tape text names line row_13) [some 0, none, none, none, none, none, some 1] rfl (by decide +kernel) rfl rfl (Nat.le_of_ble_eq_true rfl) dX12_calm_52 (fun hz_14 => ?_)
      refine z_aload_n F 0 dX12_calm_55 rfl rfl ?_
      obtain ⟨r_15, base_16, at__17, ends_18, fault_19, opened_20, names_21, hg, hf⟩ := zb7_some hf
      refine z_callVm (rest := []) F 12 (c_M_disquietOf (xL X) G a_this a_height a_changeAt a_changeWas a_changeIs a_tape a_text a_names a_line a_row a_pastMany a_past a_changed a_greatest a_numbersWere a_told a_waysOf a_waysWere a_blocks a_ordersOf a_imageLine a_bodyKind a_trace a_shelf a_many a_items a_carried people keptMany done tapeMany textMany base at_ ends fault opened lineMany rowMany taller tallerBy pasts isKept imageMany bodies ran ownKind ownNumber height tape text names row_13 r_15 base_16 at__17 ends_18 fault_19 opened_20 names_21 hg) hy_X12_disquietOf ml_X12_206 hd_X12_disquietOf ⟨by omega, by omega⟩ rfl [0, 1, 2, 3, 4, 6] rfl rfl 0 rfl rfl (w_M_calm G a_this a_height a_changeAt a_changeWas a_changeIs a_tape a_text a_names a_line a_row a_pastMany a_past a_changed a_greatest a_numbersWere a_told a_waysOf a_waysWere a_blocks a_ordersOf a_imageLine a_bodyKind a_trace a_shelf a_many a_items a_carried people keptMany done tapeMany textMany base_16 at__17 ends_18 fault_19 opened_20 lineMany rowMany taller tallerBy pasts isKept imageMany bodies ran ownKind ownNumber height tape text names_21 line row_13) [some 0, some 1, some 2, some 3, some 4, none, some 5] rfl (by decide +kernel) rfl rfl (Nat.le_of_ble_eq_true rfl) dX12_calm_56 (fun hz_22 => ?_)
      refine z_istore F [(6, .int r_15), (0, .ref a_this), (1, .int v1), (2, .int v2), (3, .int v3), (4, .int v4), (5, .int v5)] dX12_calm_59 (by decide) rfl ?_
      refine z_aload_n F 1 dX12_calm_61 rfl rfl ?_
      refine z_iload F 5 dX12_calm_62 rfl ?_
      refine z_iload F 6 dX12_calm_64 rfl ?_
      obtain ⟨row_23, hg, hf⟩ := zb1_some hf
      refine z_callVm (rest := []) F 12 (c_M_changesIn (xL X) G a_this a_height a_changeAt a_changeWas a_changeIs a_tape a_text a_names a_line a_row a_pastMany a_past a_changed a_greatest a_numbersWere a_told a_waysOf a_waysWere a_blocks a_ordersOf a_imageLine a_bodyKind a_trace a_shelf a_many a_items a_carried people keptMany done tapeMany textMany base_16 at__17 ends_18 fault_19 opened_20 lineMany rowMany taller tallerBy pasts isKept imageMany bodies ran ownKind ownNumber row_13 v4 v5 row_23 hg) hy_X12_changesIn ml_X12_248 hd_X12_changesIn ⟨by omega, by omega⟩ rfl [0, 6] rfl rfl 0 rfl rfl (w_M_calm G a_this a_height a_changeAt a_changeWas a_changeIs a_tape a_text a_names a_line a_row a_pastMany a_past a_changed a_greatest a_numbersWere a_told a_waysOf a_waysWere a_blocks a_ordersOf a_imageLine a_bodyKind a_trace a_shelf a_many a_items a_carried people keptMany done tapeMany textMany base_16 at__17 ends_18 fault_19 opened_20 lineMany rowMany taller tallerBy pasts isKept imageMany bodies ran ownKind ownNumber height tape text names_21 line row_23) [some 0, none, none, none, none, none, some 1] rfl (by decide +kernel) rfl rfl (Nat.le_of_ble_eq_true rfl) dX12_calm_66 (fun hz_24 => ?_)
      refine z_iload F 0 dX12_calm_69 rfl ?_
      refine z_iload_n F 3 dX12_calm_71 rfl rfl ?_
      refine z_icmp_ge F 86 dX12_calm_72 (by decide) hf (fun hf _ => ?_) (fun hf _ => ?_)
      · refine z_iload_n F 4 dX12_calm_86 rfl rfl ?_
        refine z_istore_n F [(3, .int v3), (6, .int r_15), (0, .ref a_this), (1, .int v1), (2, .int v2), (4, .int v4), (5, .int v5)] dX12_calm_87 rfl (by decide) rfl ?_
        refine z_iload F 1 dX12_calm_88 rfl ?_
        refine z_iload_n F 4 dX12_calm_90 rfl rfl ?_
        refine z_icmp_ge F 99 dX12_calm_91 (by decide) hf (fun hf _ => ?_) (fun hf _ => ?_)
        · refine z_iload_n F 4 dX12_calm_99 rfl rfl ?_
          refine z_istore_n F [(2, .int v2), (3, .int v3), (6, .int r_15), (0, .ref a_this), (1, .int v1), (4, .int v4), (5, .int v5)] dX12_calm_100 rfl (by decide) rfl ?_
          refine z_iinc F [(5, .int (v5 + 1)), (2, .int v2), (3, .int v3), (6, .int r_15), (0, .ref a_this), (1, .int v1), (4, .int v4)] dX12_calm_101 6 rfl rfl (by decide) rfl ?_
          refine z_goto F 38 dX12_calm_104 (by decide) ?_
          exact z_sub [4, 5, 1, 2, 6, 0] rfl (ih base_16 at__17 ends_18 fault_19 opened_20 names_21 row_23 v2 v3 (v5 + 1) hf)
        · refine z_iload F 1 dX12_calm_94 rfl ?_
          refine z_goto F 100 dX12_calm_96 (by decide) ?_
          refine z_istore_n F [(2, .int r_15), (3, .int v3), (6, .int r_15), (0, .ref a_this), (1, .int v1), (4, .int v4), (5, .int v5)] dX12_calm_100 rfl (by decide) rfl ?_
          refine z_iinc F [(5, .int (v5 + 1)), (2, .int r_15), (3, .int v3), (6, .int r_15), (0, .ref a_this), (1, .int v1), (4, .int v4)] dX12_calm_101 6 rfl rfl (by decide) rfl ?_
          refine z_goto F 38 dX12_calm_104 (by decide) ?_
          exact z_sub [4, 5, 1, 2, 6, 0] rfl (ih base_16 at__17 ends_18 fault_19 opened_20 names_21 row_23 r_15 v3 (v5 + 1) hf)
      · refine z_bipush F (10) dX12_calm_75 rfl ?_
        refine z_iload F 5 dX12_calm_77 rfl ?_
        refine z_imul F dX12_calm_79 ?_
        refine z_iload F 6 dX12_calm_80 rfl ?_
        refine z_iadd F dX12_calm_82 ?_
        refine z_goto F 87 dX12_calm_83 (by decide) ?_
        refine z_istore_n F [(3, .int (((10 : Int32) * v4) + v5)), (6, .int r_15), (0, .ref a_this), (1, .int v1), (2, .int v2), (4, .int v4), (5, .int v5)] dX12_calm_87 rfl (by decide) rfl ?_
        refine z_iload F 1 dX12_calm_88 rfl ?_
        refine z_iload_n F 4 dX12_calm_90 rfl rfl ?_
        refine z_icmp_ge F 99 dX12_calm_91 (by decide) hf (fun hf _ => ?_) (fun hf _ => ?_)
        · refine z_iload_n F 4 dX12_calm_99 rfl rfl ?_
          refine z_istore_n F [(2, .int v2), (3, .int (((10 : Int32) * v4) + v5)), (6, .int r_15), (0, .ref a_this), (1, .int v1), (4, .int v4), (5, .int v5)] dX12_calm_100 rfl (by decide) rfl ?_
          refine z_iinc F [(5, .int (v5 + 1)), (2, .int v2), (3, .int (((10 : Int32) * v4) + v5)), (6, .int r_15), (0, .ref a_this), (1, .int v1), (4, .int v4)] dX12_calm_101 6 rfl rfl (by decide) rfl ?_
          refine z_goto F 38 dX12_calm_104 (by decide) ?_
          exact z_sub [4, 5, 1, 2, 6, 0] rfl (ih base_16 at__17 ends_18 fault_19 opened_20 names_21 row_23 v2 (((10 : Int32) * v4) + v5) (v5 + 1) hf)
        · refine z_iload F 1 dX12_calm_94 rfl ?_
          refine z_goto F 100 dX12_calm_96 (by decide) ?_
          refine z_istore_n F [(2, .int r_15), (3, .int (((10 : Int32) * v4) + v5)), (6, .int r_15), (0, .ref a_this), (1, .int v1), (4, .int v4), (5, .int v5)] dX12_calm_100 rfl (by decide) rfl ?_
          refine z_iinc F [(5, .int (v5 + 1)), (2, .int r_15), (3, .int (((10 : Int32) * v4) + v5)), (6, .int r_15), (0, .ref a_this), (1, .int v1), (4, .int v4)] dX12_calm_101 6 rfl rfl (by decide) rfl ?_
          refine z_goto F 38 dX12_calm_104 (by decide) ?_
          exact z_sub [4, 5, 1, 2, 6, 0] rfl (ih base_16 at__17 ends_18 fault_19 opened_20 names_21 row_23 r_15 (((10 : Int32) * v4) + v5) (v5 + 1) hf)

set_option maxRecDepth 100000 in
set_option maxHeartbeats 4000000 in
theorem l_M_calm_23 {X : zX} (G : zG) (a_this : Nat) (a_height : Nat) (a_changeAt : Nat) (a_changeWas : Nat) (a_changeIs : Nat) (a_tape : Nat) (a_text : Nat) (a_names : Nat) (a_line : Nat) (a_row : Nat) (a_pastMany : Nat) (a_past : Nat) (a_changed : Nat) (a_greatest : Nat) (a_numbersWere : Nat) (a_told : Nat) (a_waysOf : Nat) (a_waysWere : Nat) (a_blocks : Nat) (a_ordersOf : Nat) (a_imageLine : Nat) (a_bodyKind : Nat) (a_trace : Nat) (a_shelf : Nat) (a_many : Nat) (a_items : Nat) (a_carried : Nat) (people : Int32) (keptMany : Int32) (done : Int32) (tapeMany : Int32) (textMany : Int32) (lineMany : Int32) (rowMany : Int32) (taller : Int32) (tallerBy : Int32) (pasts : Int32) (isKept : Int32) (imageMany : Int32) (bodies : Int32) (ran : Int32) (ownKind : Int32) (ownNumber : Int32) (height : Nat → Int32) (tape : Nat → Int32) (text : Nat → Int32) (line : Nat → Int32) (v1 : Int32) {v0 : Option Value} {w0 : va_W} (F : zF X G cX12_calm RX12 7 (some .int) 154 3575 v0 w0) (e_base : Int32) (e_at_ : Int32) (e_ends : Int32) (e_fault : Int32) (e_opened : Int32) (e_names : Nat → Int32) (e_row : Nat → Int32) (e_v2 : Int32) (e_v3 : Int32) (hk : Z X G 7 (w_M_calm G a_this a_height a_changeAt a_changeWas a_changeIs a_tape a_text a_names a_line a_row a_pastMany a_past a_changed a_greatest a_numbersWere a_told a_waysOf a_waysWere a_blocks a_ordersOf a_imageLine a_bodyKind a_trace a_shelf a_many a_items a_carried people keptMany done tapeMany textMany e_base e_at_ e_ends e_fault e_opened lineMany rowMany taller tallerBy pasts isKept imageMany bodies ran ownKind ownNumber height tape text e_names line e_row) [(1, .int v1), (2, .int e_v2), (3, .int e_v3)] 113 []) :
    ∀ (fuel : Nat) (base : Int32) (at_ : Int32) (ends : Int32) (fault : Int32) (opened : Int32) (names : Nat → Int32) (row : Nat → Int32) (v2 : Int32) (v3 : Int32) (v4 : Int32), f_M_calm_L23 textMany lineMany rowMany taller tallerBy height tape text fuel base at_ ends fault opened names row v2 v3 v4 = some (e_base, e_at_, e_ends, e_fault, e_opened, e_names, e_row, e_v2, e_v3) → Z X G 7 (w_M_calm G a_this a_height a_changeAt a_changeWas a_changeIs a_tape a_text a_names a_line a_row a_pastMany a_past a_changed a_greatest a_numbersWere a_told a_waysOf a_waysWere a_blocks a_ordersOf a_imageLine a_bodyKind a_trace a_shelf a_many a_items a_carried people keptMany done tapeMany textMany base at_ ends fault opened lineMany rowMany taller tallerBy pasts isKept imageMany bodies ran ownKind ownNumber height tape text names line row) [(0, .ref a_this), (1, .int v1), (2, .int v2), (3, .int v3), (4, .int v4)] 23 [] := by
  intro fuel
  induction fuel with
  | zero => intro base at_ ends fault opened names row v2 v3 v4 hf; exact absurd ((f_M_calm_L23.eq_1 ..).symm.trans hf) (fun h => by cases h)
  | succ fuel ih =>
    intro base at_ ends fault opened names row v2 v3 v4 hf
    replace hf := (f_M_calm_L23.eq_2 ..).symm.trans hf
    refine z_iload F 4 dX12_calm_23 rfl ?_
    refine z_aload_n F 0 dX12_calm_25 rfl rfl ?_
    refine z_get F 0 12 18 inlX12 rfl rfl (by decide) fl_X12_100 rfl dX12_calm_26 ?_
    refine z_icmp_ge F 113 dX12_calm_29 (by decide) hf (fun hf _ => ?_) (fun hf _ => ?_)
    · have eq1 := Option.some.inj hf
      obtain ⟨ee1, eq2⟩ := Prod.mk.inj eq1
      obtain ⟨ee2, eq3⟩ := Prod.mk.inj eq2
      obtain ⟨ee3, eq4⟩ := Prod.mk.inj eq3
      obtain ⟨ee4, eq5⟩ := Prod.mk.inj eq4
      obtain ⟨ee5, eq6⟩ := Prod.mk.inj eq5
      obtain ⟨ee6, eq7⟩ := Prod.mk.inj eq6
      obtain ⟨ee7, eq8⟩ := Prod.mk.inj eq7
      obtain ⟨ee8, ee9⟩ := Prod.mk.inj eq8
      subst ee1
      subst ee2
      subst ee3
      subst ee4
      subst ee5
      subst ee6
      subst ee7
      subst ee8
      subst ee9
      exact z_sub [1, 2, 3] rfl hk
    · refine z_iload F 4 dX12_calm_32 rfl ?_
      refine z_iconst F (1) dX12_calm_34 rfl ?_
      refine z_iadd F dX12_calm_35 ?_
      refine z_istore F [(5, .int (v4 + (1 : Int32))), (0, .ref a_this), (1, .int v1), (2, .int v2), (3, .int v3), (4, .int v4)] dX12_calm_36 (by decide) rfl ?_
      obtain ⟨base_25, at__26, ends_27, fault_28, opened_29, names_30, row_31, v2_32, v3_33, hg, hf⟩ := zb9_some hf
      refine z_sub [1, 2, 3, 4, 5, 0] rfl ?_
      refine l_M_calm_38 G a_this a_height a_changeAt a_changeWas a_changeIs a_tape a_text a_names a_line a_row a_pastMany a_past a_changed a_greatest a_numbersWere a_told a_waysOf a_waysWere a_blocks a_ordersOf a_imageLine a_bodyKind a_trace a_shelf a_many a_items a_carried people keptMany done tapeMany textMany lineMany rowMany taller tallerBy pasts isKept imageMany bodies ran ownKind ownNumber height tape text line v1 v4 F base_25 at__26 ends_27 fault_28 opened_29 names_30 row_31 v2_32 v3_33 ?_ FU base at_ ends fault opened names row v2 v3 (v4 + (1 : Int32)) hg
      refine z_iinc F [(4, .int (v4 + 1)), (0, .ref a_this), (1, .int v1), (2, .int v2_32), (3, .int v3_33)] dX12_calm_107 4 rfl rfl (by decide) rfl ?_
      refine z_goto F 23 dX12_calm_110 (by decide) ?_
      exact z_sub [1, 2, 3, 4, 0] rfl (ih base_25 at__26 ends_27 fault_28 opened_29 names_30 row_31 v2_32 v3_33 (v4 + 1) hf)

set_option maxRecDepth 100000 in
set_option maxHeartbeats 4000000 in
theorem c_M_calm (l : Launch) (G : zG) (a_this : Nat) (a_height : Nat) (a_changeAt : Nat) (a_changeWas : Nat) (a_changeIs : Nat) (a_tape : Nat) (a_text : Nat) (a_names : Nat) (a_line : Nat) (a_row : Nat) (a_pastMany : Nat) (a_past : Nat) (a_changed : Nat) (a_greatest : Nat) (a_numbersWere : Nat) (a_told : Nat) (a_waysOf : Nat) (a_waysWere : Nat) (a_blocks : Nat) (a_ordersOf : Nat) (a_imageLine : Nat) (a_bodyKind : Nat) (a_trace : Nat) (a_shelf : Nat) (a_many : Nat) (a_items : Nat) (a_carried : Nat) (people : Int32) (keptMany : Int32) (done : Int32) (tapeMany : Int32) (textMany : Int32) (base : Int32) (at_ : Int32) (ends : Int32) (fault : Int32) (opened : Int32) (lineMany : Int32) (rowMany : Int32) (taller : Int32) (tallerBy : Int32) (pasts : Int32) (isKept : Int32) (imageMany : Int32) (bodies : Int32) (ran : Int32) (ownKind : Int32) (ownNumber : Int32) (height : Nat → Int32) (tape : Nat → Int32) (text : Nat → Int32) (names : Nat → Int32) (line : Nat → Int32) (row : Nat → Int32) (x1 : Int32) (r_ : Int32) (o_base : Int32) (o_at_ : Int32) (o_ends : Int32) (o_fault : Int32) (o_opened : Int32) (o_rowMany : Int32) (o_taller : Int32) (o_names : Nat → Int32) (o_row : Nat → Int32) (hf : f_M_calm textMany base at_ ends fault opened lineMany rowMany taller tallerBy height tape text names line row x1 = some (r_, o_base, o_at_, o_ends, o_fault, o_opened, o_rowMany, o_taller, o_names, o_row)) : zM l yX12_calm cX12_calm 7 (some .int) 154 3575 G [.ref a_this, .int x1] (w_M_calm G a_this a_height a_changeAt a_changeWas a_changeIs a_tape a_text a_names a_line a_row a_pastMany a_past a_changed a_greatest a_numbersWere a_told a_waysOf a_waysWere a_blocks a_ordersOf a_imageLine a_bodyKind a_trace a_shelf a_many a_items a_carried people keptMany done tapeMany textMany base at_ ends fault opened lineMany rowMany taller tallerBy pasts isKept imageMany bodies ran ownKind ownNumber height tape text names line row) (some (.int r_)) (w_M_calm G a_this a_height a_changeAt a_changeWas a_changeIs a_tape a_text a_names a_line a_row a_pastMany a_past a_changed a_greatest a_numbersWere a_told a_waysOf a_waysWere a_blocks a_ordersOf a_imageLine a_bodyKind a_trace a_shelf a_many a_items a_carried people keptMany done tapeMany textMany o_base o_at_ o_ends o_fault o_opened lineMany o_rowMany o_taller tallerBy pasts isKept imageMany bodies ran ownKind ownNumber height tape text o_names line o_row) := by
  refine zM.of [(0, .ref a_this), (1, .int x1)] (own := RX12) rfl (by decide +kernel) (Nat.le_of_ble_eq_true rfl) rfl rfl fun X hX F => ?_
  subst hX
  replace hf := (f_M_calm.eq_1 ..).symm.trans hf
  refine z_iload_n F 1 dX12_calm_0 rfl rfl ?_
  refine z_i2l F dX12_calm_1 ?_
  refine z_lconst F (0) dX12_calm_2 rfl ?_
  refine z_lconst F (1) dX12_calm_3 rfl ?_
  refine z_callSm (rest := []) F (c_M_within (xL X) G (Int32.toInt64 x1) 0 1 _ rfl) hy_X12_within ml_X12_96 hd_X12_within ⟨by omega, by omega⟩ rfl [] rfl rfl (w_M_calm G a_this a_height a_changeAt a_changeWas a_changeIs a_tape a_text a_names a_line a_row a_pastMany a_past a_changed a_greatest a_numbersWere a_told a_waysOf a_waysWere a_blocks a_ordersOf a_imageLine a_bodyKind a_trace a_shelf a_many a_items a_carried people keptMany done tapeMany textMany base at_ ends fault opened lineMany rowMany taller tallerBy pasts isKept imageMany bodies ran ownKind ownNumber height tape text names line row) [none, none, none, none, none, none, none] rfl (by decide +kernel) rfl rfl (Nat.le_of_ble_eq_true rfl) dX12_calm_4 (fun hz_1 => ?_)
  refine z_if_ne F 12 dX12_calm_7 (by decide) hf (fun hf _ => ?_) (fun hf _ => ?_)
  · refine z_aload_n F 0 dX12_calm_12 rfl rfl ?_
    obtain ⟨r_2, base_3, at__4, ends_5, fault_6, opened_7, rowMany_8, taller_9, names_10, row_11, hg, hf⟩ := zb10_some hf
    refine z_callVm (rest := []) F 12 (c_M_disquietNow (xL X) G a_this a_height a_changeAt a_changeWas a_changeIs a_tape a_text a_names a_line a_row a_pastMany a_past a_changed a_greatest a_numbersWere a_told a_waysOf a_waysWere a_blocks a_ordersOf a_imageLine a_bodyKind a_trace a_shelf a_many a_items a_carried people keptMany done tapeMany textMany base at_ ends fault opened lineMany rowMany taller tallerBy pasts isKept imageMany bodies ran ownKind ownNumber height tape text names line row r_2 base_3 at__4 ends_5 fault_6 opened_7 rowMany_8 taller_9 names_10 row_11 hg) hy_X12_disquietNow ml_X12_215 hd_X12_disquietNow ⟨by omega, by omega⟩ rfl [0, 1, 2, 3, 4, 5, 6] rfl rfl 0 rfl rfl (w_M_calm G a_this a_height a_changeAt a_changeWas a_changeIs a_tape a_text a_names a_line a_row a_pastMany a_past a_changed a_greatest a_numbersWere a_told a_waysOf a_waysWere a_blocks a_ordersOf a_imageLine a_bodyKind a_trace a_shelf a_many a_items a_carried people keptMany done tapeMany textMany base_3 at__4 ends_5 fault_6 opened_7 lineMany rowMany_8 taller_9 tallerBy pasts isKept imageMany bodies ran ownKind ownNumber height tape text names_10 line row_11) [some 0, some 1, some 2, some 3, some 4, some 5, some 6] rfl (by decide +kernel) rfl rfl (Nat.le_of_ble_eq_true rfl) dX12_calm_13 (fun hz_12 => ?_)
    refine z_istore_n F [(2, .int r_2), (0, .ref a_this), (1, .int x1)] dX12_calm_16 rfl (by decide) rfl ?_
    refine z_bipush F (-2) dX12_calm_17 rfl ?_
    refine z_istore_n F [(3, .int (-2)), (2, .int r_2), (0, .ref a_this), (1, .int x1)] dX12_calm_19 rfl (by decide) rfl ?_
    refine z_iconst F (0) dX12_calm_20 rfl ?_
    refine z_istore F [(4, .int 0), (3, .int (-2)), (2, .int r_2), (0, .ref a_this), (1, .int x1)] dX12_calm_21 (by decide) rfl ?_
    obtain ⟨base_34, at__35, ends_36, fault_37, opened_38, names_39, row_40, v2_41, v3_42, hg, hf⟩ := zb9_some hf
    refine z_sub [3, 4, 2, 1, 0] rfl ?_
    refine l_M_calm_23 G a_this a_height a_changeAt a_changeWas a_changeIs a_tape a_text a_names a_line a_row a_pastMany a_past a_changed a_greatest a_numbersWere a_told a_waysOf a_waysWere a_blocks a_ordersOf a_imageLine a_bodyKind a_trace a_shelf a_many a_items a_carried people keptMany done tapeMany textMany lineMany rowMany_8 taller_9 tallerBy pasts isKept imageMany bodies ran ownKind ownNumber height tape text line x1 F base_34 at__35 ends_36 fault_37 opened_38 names_39 row_40 v2_41 v3_42 ?_ FU base_3 at__4 ends_5 fault_6 opened_7 names_10 row_11 r_2 (-2) 0 hg
    refine z_iload_n F 2 dX12_calm_113 rfl rfl ?_
    refine z_if_lt F 121 dX12_calm_114 (by decide) hf (fun hf _ => ?_) (fun hf _ => ?_)
    · refine z_iload_n F 2 dX12_calm_121 rfl rfl ?_
      refine z_goto F 126 dX12_calm_122 (by decide) ?_
      have eq1 := Option.some.inj hf
      obtain ⟨ee1, eq2⟩ := Prod.mk.inj eq1
      obtain ⟨ee2, eq3⟩ := Prod.mk.inj eq2
      obtain ⟨ee3, eq4⟩ := Prod.mk.inj eq3
      obtain ⟨ee4, eq5⟩ := Prod.mk.inj eq4
      obtain ⟨ee5, eq6⟩ := Prod.mk.inj eq5
      obtain ⟨ee6, eq7⟩ := Prod.mk.inj eq6
      obtain ⟨ee7, eq8⟩ := Prod.mk.inj eq7
      obtain ⟨ee8, eq9⟩ := Prod.mk.inj eq8
      obtain ⟨ee9, ee10⟩ := Prod.mk.inj eq9
      subst ee1
      subst ee2
      subst ee3
      subst ee4
      subst ee5
      subst ee6
      subst ee7
      subst ee8
      subst ee9
      subst ee10
      exact z_iret F rfl rfl rfl rfl dX12_calm_126
    · refine z_iload_n F 0 dX12_calm_117 rfl rfl ?_
      refine z_if_ne F 125 dX12_calm_118 (by decide) hf (fun hf _ => ?_) (fun hf _ => ?_)
      · refine z_iload_n F 1 dX12_calm_125 rfl rfl ?_
        have eq1 := Option.some.inj hf
        obtain ⟨ee1, eq2⟩ := Prod.mk.inj eq1
        obtain ⟨ee2, eq3⟩ := Prod.mk.inj eq2
        obtain ⟨ee3, eq4⟩ := Prod.mk.inj eq3
        obtain ⟨ee4, eq5⟩ := Prod.mk.inj eq4
        obtain ⟨ee5, eq6⟩ := Prod.mk.inj eq5
        obtain ⟨ee6, eq7⟩ := Prod.mk.inj eq6
        obtain ⟨ee7, eq8⟩ := Prod.mk.inj eq7
        obtain ⟨ee8, eq9⟩ := Prod.mk.inj eq8
        obtain ⟨ee9, ee10⟩ := Prod.mk.inj eq9
        subst ee1
        subst ee2
        subst ee3
        subst ee4
        subst ee5
        subst ee6
        subst ee7
        subst ee8
        subst ee9
        subst ee10
        exact z_iret F rfl rfl rfl rfl dX12_calm_126
      · refine z_iload_n F 2 dX12_calm_121 rfl rfl ?_
        refine z_goto F 126 dX12_calm_122 (by decide) ?_
        have eq1 := Option.some.inj hf
        obtain ⟨ee1, eq2⟩ := Prod.mk.inj eq1
        obtain ⟨ee2, eq3⟩ := Prod.mk.inj eq2
        obtain ⟨ee3, eq4⟩ := Prod.mk.inj eq3
        obtain ⟨ee4, eq5⟩ := Prod.mk.inj eq4
        obtain ⟨ee5, eq6⟩ := Prod.mk.inj eq5
        obtain ⟨ee6, eq7⟩ := Prod.mk.inj eq6
        obtain ⟨ee7, eq8⟩ := Prod.mk.inj eq7
        obtain ⟨ee8, eq9⟩ := Prod.mk.inj eq8
        obtain ⟨ee9, ee10⟩ := Prod.mk.inj eq9
        subst ee1
        subst ee2
        subst ee3
        subst ee4
        subst ee5
        subst ee6
        subst ee7
        subst ee8
        subst ee9
        subst ee10
        exact z_iret F rfl rfl rfl rfl dX12_calm_126
  · refine z_iconst F (-1) dX12_calm_10 rfl ?_
    have eq1 := Option.some.inj hf
    obtain ⟨ee1, eq2⟩ := Prod.mk.inj eq1
    obtain ⟨ee2, eq3⟩ := Prod.mk.inj eq2
    obtain ⟨ee3, eq4⟩ := Prod.mk.inj eq3
    obtain ⟨ee4, eq5⟩ := Prod.mk.inj eq4
    obtain ⟨ee5, eq6⟩ := Prod.mk.inj eq5
    obtain ⟨ee6, eq7⟩ := Prod.mk.inj eq6
    obtain ⟨ee7, eq8⟩ := Prod.mk.inj eq7
    obtain ⟨ee8, eq9⟩ := Prod.mk.inj eq8
    obtain ⟨ee9, ee10⟩ := Prod.mk.inj eq9
    subst ee1
    subst ee2
    subst ee3
    subst ee4
    subst ee5
    subst ee6
    subst ee7
    subst ee8
    subst ee9
    subst ee10
    exact z_iret F rfl rfl rfl rfl dX12_calm_11

