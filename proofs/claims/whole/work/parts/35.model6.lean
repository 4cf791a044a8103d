/-! by program (wip/whole/gen.py): pure functions and contracts -/
theorem dX12_where_0 : decode cX12_where 0 = .ok (.aload_n 0, 1) := by decide +kernel
theorem dX12_where_1 : decode cX12_where 1 = .ok (.iload_n 1, 1) := by decide +kernel
theorem dX12_where_2 : decode cX12_where 2 = .ok (.invokevirtual 119, 3) := by decide +kernel
theorem dX12_where_5 : decode cX12_where 5 = .ok (.ifCond .eq 15, 3) := by decide +kernel
theorem dX12_where_8 : decode cX12_where 8 = .ok (.iload_n 2, 1) := by decide +kernel
theorem dX12_where_9 : decode cX12_where 9 = .ok (.i2l, 1) := by decide +kernel
theorem dX12_where_10 : decode cX12_where 10 = .ok (.lconst 0, 1) := by decide +kernel
theorem dX12_where_11 : decode cX12_where 11 = .ok (.ldc2_w 301, 3) := by decide +kernel
theorem dX12_where_14 : decode cX12_where 14 = .ok (.invokestatic 96, 3) := by decide +kernel
theorem dX12_where_17 : decode cX12_where 17 = .ok (.ifCond .ne 5, 3) := by decide +kernel
theorem dX12_where_20 : decode cX12_where 20 = .ok (.iconst (-1), 1) := by decide +kernel
theorem dX12_where_21 : decode cX12_where 21 = .ok (.ireturn, 1) := by decide +kernel
theorem dX12_where_22 : decode cX12_where 22 = .ok (.aload_n 0, 1) := by decide +kernel
theorem dX12_where_23 : decode cX12_where 23 = .ok (.iload_n 1, 1) := by decide +kernel
theorem dX12_where_24 : decode cX12_where 24 = .ok (.invokevirtual 224, 3) := by decide +kernel
theorem dX12_where_27 : decode cX12_where 27 = .ok (.ifCond .lt 6, 3) := by decide +kernel
theorem dX12_where_30 : decode cX12_where 30 = .ok (.bipush (-5), 2) := by decide +kernel
theorem dX12_where_32 : decode cX12_where 32 = .ok (.ireturn, 1) := by decide +kernel
theorem dX12_where_33 : decode cX12_where 33 = .ok (.iconst (-1), 1) := by decide +kernel
theorem dX12_where_34 : decode cX12_where 34 = .ok (.istore_n 3, 1) := by decide +kernel
theorem dX12_where_35 : decode cX12_where 35 = .ok (.iconst 0, 1) := by decide +kernel
theorem dX12_where_36 : decode cX12_where 36 = .ok (.istore 4, 2) := by decide +kernel
theorem dX12_where_38 : decode cX12_where 38 = .ok (.iconst 0, 1) := by decide +kernel
theorem dX12_where_39 : decode cX12_where 39 = .ok (.istore 5, 2) := by decide +kernel
theorem dX12_where_41 : decode cX12_where 41 = .ok (.iload 5, 2) := by decide +kernel
theorem dX12_where_43 : decode cX12_where 43 = .ok (.aload_n 0, 1) := by decide +kernel
theorem dX12_where_44 : decode cX12_where 44 = .ok (.getfield 100, 3) := by decide +kernel
theorem dX12_where_47 : decode cX12_where 47 = .ok (.if_icmp .gt 59, 3) := by decide +kernel
theorem dX12_where_50 : decode cX12_where 50 = .ok (.aload_n 0, 1) := by decide +kernel
theorem dX12_where_51 : decode cX12_where 51 = .ok (.invokevirtual 203, 3) := by decide +kernel
theorem dX12_where_54 : decode cX12_where 54 = .ok (.aload_n 0, 1) := by decide +kernel
theorem dX12_where_55 : decode cX12_where 55 = .ok (.iload_n 1, 1) := by decide +kernel
theorem dX12_where_56 : decode cX12_where 56 = .ok (.iload 5, 2) := by decide +kernel
theorem dX12_where_58 : decode cX12_where 58 = .ok (.invokevirtual 255, 3) := by decide +kernel
theorem dX12_where_61 : decode cX12_where 61 = .ok (.iload_n 2, 1) := by decide +kernel
theorem dX12_where_62 : decode cX12_where 62 = .ok (.iconst 2, 1) := by decide +kernel
theorem dX12_where_63 : decode cX12_where 63 = .ok (.irem, 1) := by decide +kernel
theorem dX12_where_64 : decode cX12_where 64 = .ok (.ifCond .ne 10, 3) := by decide +kernel
theorem dX12_where_67 : decode cX12_where 67 = .ok (.aload_n 0, 1) := by decide +kernel
theorem dX12_where_68 : decode cX12_where 68 = .ok (.invokevirtual 206, 3) := by decide +kernel
theorem dX12_where_71 : decode cX12_where 71 = .ok (.goto 9, 3) := by decide +kernel
theorem dX12_where_74 : decode cX12_where 74 = .ok (.aload_n 0, 1) := by decide +kernel
theorem dX12_where_75 : decode cX12_where 75 = .ok (.iload 5, 2) := by decide +kernel
theorem dX12_where_77 : decode cX12_where 77 = .ok (.invokevirtual 200, 3) := by decide +kernel
theorem dX12_where_80 : decode cX12_where 80 = .ok (.istore 6, 2) := by decide +kernel
theorem dX12_where_82 : decode cX12_where 82 = .ok (.iload_n 3, 1) := by decide +kernel
theorem dX12_where_83 : decode cX12_where 83 = .ok (.ifCond .lt 10, 3) := by decide +kernel
theorem dX12_where_86 : decode cX12_where 86 = .ok (.iload 6, 2) := by decide +kernel
theorem dX12_where_88 : decode cX12_where 88 = .ok (.iload 4, 2) := by decide +kernel
theorem dX12_where_90 : decode cX12_where 90 = .ok (.if_icmp .ge 10, 3) := by decide +kernel
theorem dX12_where_93 : decode cX12_where 93 = .ok (.iload 5, 2) := by decide +kernel
theorem dX12_where_95 : decode cX12_where 95 = .ok (.istore_n 3, 1) := by decide +kernel
theorem dX12_where_96 : decode cX12_where 96 = .ok (.iload 6, 2) := by decide +kernel
theorem dX12_where_98 : decode cX12_where 98 = .ok (.istore 4, 2) := by decide +kernel
theorem dX12_where_100 : decode cX12_where 100 = .ok (.iinc 5 1, 3) := by decide +kernel
theorem dX12_where_103 : decode cX12_where 103 = .ok (.goto (-62), 3) := by decide +kernel
theorem dX12_where_106 : decode cX12_where 106 = .ok (.iload_n 2, 1) := by decide +kernel
theorem dX12_where_107 : decode cX12_where 107 = .ok (.iconst 2, 1) := by decide +kernel
theorem dX12_where_108 : decode cX12_where 108 = .ok (.if_icmp .ge 7, 3) := by decide +kernel
theorem dX12_where_111 : decode cX12_where 111 = .ok (.iload_n 3, 1) := by decide +kernel
theorem dX12_where_112 : decode cX12_where 112 = .ok (.goto 5, 3) := by decide +kernel
theorem dX12_where_115 : decode cX12_where 115 = .ok (.iload 4, 2) := by decide +kernel
theorem dX12_where_117 : decode cX12_where 117 = .ok (.ireturn, 1) := by decide +kernel
theorem dX12_growth_0 : decode cX12_growth 0 = .ok (.aload_n 0, 1) := by decide +kernel
theorem dX12_growth_1 : decode cX12_growth 1 = .ok (.iload_n 1, 1) := by decide +kernel
theorem dX12_growth_2 : decode cX12_growth 2 = .ok (.invokevirtual 119, 3) := by decide +kernel
theorem dX12_growth_5 : decode cX12_growth 5 = .ok (.ifCond .ne 5, 3) := by decide +kernel
theorem dX12_growth_8 : decode cX12_growth 8 = .ok (.iconst (-1), 1) := by decide +kernel
theorem dX12_growth_9 : decode cX12_growth 9 = .ok (.ireturn, 1) := by decide +kernel
theorem dX12_growth_10 : decode cX12_growth 10 = .ok (.aload_n 0, 1) := by decide +kernel
theorem dX12_growth_11 : decode cX12_growth 11 = .ok (.iload_n 1, 1) := by decide +kernel
theorem dX12_growth_12 : decode cX12_growth 12 = .ok (.invokevirtual 224, 3) := by decide +kernel
theorem dX12_growth_15 : decode cX12_growth 15 = .ok (.istore_n 2, 1) := by decide +kernel
theorem dX12_growth_16 : decode cX12_growth 16 = .ok (.iload_n 2, 1) := by decide +kernel
theorem dX12_growth_17 : decode cX12_growth 17 = .ok (.ifCond .ge 6, 3) := by decide +kernel
theorem dX12_growth_20 : decode cX12_growth 20 = .ok (.bipush (-5), 2) := by decide +kernel
theorem dX12_growth_22 : decode cX12_growth 22 = .ok (.ireturn, 1) := by decide +kernel
theorem dX12_growth_23 : decode cX12_growth 23 = .ok (.aload_n 0, 1) := by decide +kernel
theorem dX12_growth_24 : decode cX12_growth 24 = .ok (.invokevirtual 203, 3) := by decide +kernel
theorem dX12_growth_27 : decode cX12_growth 27 = .ok (.aload_n 0, 1) := by decide +kernel
theorem dX12_growth_28 : decode cX12_growth 28 = .ok (.iload_n 1, 1) := by decide +kernel
theorem dX12_growth_29 : decode cX12_growth 29 = .ok (.putfield 187, 3) := by decide +kernel
theorem dX12_growth_32 : decode cX12_growth 32 = .ok (.iconst 0, 1) := by decide +kernel
theorem dX12_growth_33 : decode cX12_growth 33 = .ok (.istore_n 3, 1) := by decide +kernel
theorem dX12_growth_34 : decode cX12_growth 34 = .ok (.iload_n 3, 1) := by decide +kernel
theorem dX12_growth_35 : decode cX12_growth 35 = .ok (.bipush 60, 2) := by decide +kernel
theorem dX12_growth_37 : decode cX12_growth 37 = .ok (.if_icmp .gt 24, 3) := by decide +kernel
theorem dX12_growth_40 : decode cX12_growth 40 = .ok (.aload_n 0, 1) := by decide +kernel
theorem dX12_growth_41 : decode cX12_growth 41 = .ok (.iload_n 3, 1) := by decide +kernel
theorem dX12_growth_42 : decode cX12_growth 42 = .ok (.putfield 190, 3) := by decide +kernel
theorem dX12_growth_45 : decode cX12_growth 45 = .ok (.aload_n 0, 1) := by decide +kernel
theorem dX12_growth_46 : decode cX12_growth 46 = .ok (.iload_n 2, 1) := by decide +kernel
theorem dX12_growth_47 : decode cX12_growth 47 = .ok (.invokevirtual 200, 3) := by decide +kernel
theorem dX12_growth_50 : decode cX12_growth 50 = .ok (.ifCond .ne 5, 3) := by decide +kernel
theorem dX12_growth_53 : decode cX12_growth 53 = .ok (.iload_n 3, 1) := by decide +kernel
theorem dX12_growth_54 : decode cX12_growth 54 = .ok (.ireturn, 1) := by decide +kernel
theorem dX12_growth_55 : decode cX12_growth 55 = .ok (.iinc 3 1, 3) := by decide +kernel
theorem dX12_growth_58 : decode cX12_growth 58 = .ok (.goto (-24), 3) := by decide +kernel
theorem dX12_growth_61 : decode cX12_growth 61 = .ok (.bipush (-2), 2) := by decide +kernel
theorem dX12_growth_63 : decode cX12_growth 63 = .ok (.ireturn, 1) := by decide +kernel
theorem dX12_bitsOf_0 : decode cX12_bitsOf 0 = .ok (.iconst 0, 1) := by decide +kernel
theorem dX12_bitsOf_1 : decode cX12_bitsOf 1 = .ok (.istore_n 1, 1) := by decide +kernel
theorem dX12_bitsOf_2 : decode cX12_bitsOf 2 = .ok (.iload_n 0, 1) := by decide +kernel
theorem dX12_bitsOf_3 : decode cX12_bitsOf 3 = .ok (.istore_n 2, 1) := by decide +kernel
theorem dX12_bitsOf_4 : decode cX12_bitsOf 4 = .ok (.iload_n 2, 1) := by decide +kernel
theorem dX12_bitsOf_5 : decode cX12_bitsOf 5 = .ok (.ifCond .eq 15, 3) := by decide +kernel
theorem dX12_bitsOf_8 : decode cX12_bitsOf 8 = .ok (.iinc 1 1, 3) := by decide +kernel
theorem dX12_bitsOf_11 : decode cX12_bitsOf 11 = .ok (.iload_n 2, 1) := by decide +kernel
theorem dX12_bitsOf_12 : decode cX12_bitsOf 12 = .ok (.iload_n 2, 1) := by decide +kernel
theorem dX12_bitsOf_13 : decode cX12_bitsOf 13 = .ok (.iconst 1, 1) := by decide +kernel
theorem dX12_bitsOf_14 : decode cX12_bitsOf 14 = .ok (.isub, 1) := by decide +kernel
theorem dX12_bitsOf_15 : decode cX12_bitsOf 15 = .ok (.iand, 1) := by decide +kernel
theorem dX12_bitsOf_16 : decode cX12_bitsOf 16 = .ok (.istore_n 2, 1) := by decide +kernel
theorem dX12_bitsOf_17 : decode cX12_bitsOf 17 = .ok (.goto (-13), 3) := by decide +kernel
theorem dX12_bitsOf_20 : decode cX12_bitsOf 20 = .ok (.iload_n 1, 1) := by decide +kernel
theorem dX12_bitsOf_21 : decode cX12_bitsOf 21 = .ok (.ireturn, 1) := by decide +kernel
theorem dX12_far_0 : decode cX12_far 0 = .ok (.aload_n 0, 1) := by decide +kernel
theorem dX12_far_1 : decode cX12_far 1 = .ok (.iload_n 1, 1) := by decide +kernel
theorem dX12_far_2 : decode cX12_far 2 = .ok (.invokevirtual 265, 3) := by decide +kernel
theorem dX12_far_5 : decode cX12_far 5 = .ok (.ifCond .ge 9, 3) := by decide +kernel
theorem dX12_far_8 : decode cX12_far 8 = .ok (.aload_n 0, 1) := by decide +kernel
theorem dX12_far_9 : decode cX12_far 9 = .ok (.iload_n 1, 1) := by decide +kernel
theorem dX12_far_10 : decode cX12_far 10 = .ok (.invokevirtual 265, 3) := by decide +kernel
theorem dX12_far_13 : decode cX12_far 13 = .ok (.ireturn, 1) := by decide +kernel
theorem dX12_far_14 : decode cX12_far 14 = .ok (.iconst 0, 1) := by decide +kernel
theorem dX12_far_15 : decode cX12_far 15 = .ok (.istore_n 2, 1) := by decide +kernel
theorem dX12_far_16 : decode cX12_far 16 = .ok (.iconst 0, 1) := by decide +kernel
theorem dX12_far_17 : decode cX12_far 17 = .ok (.istore_n 3, 1) := by decide +kernel
theorem dX12_far_18 : decode cX12_far 18 = .ok (.iload_n 3, 1) := by decide +kernel
theorem dX12_far_19 : decode cX12_far 19 = .ok (.aload_n 0, 1) := by decide +kernel
theorem dX12_far_20 : decode cX12_far 20 = .ok (.getfield 79, 3) := by decide +kernel
theorem dX12_far_23 : decode cX12_far 23 = .ok (.iload_n 1, 1) := by decide +kernel
theorem dX12_far_24 : decode cX12_far 24 = .ok (.iaload, 1) := by decide +kernel
theorem dX12_far_25 : decode cX12_far 25 = .ok (.if_icmp .ge 85, 3) := by decide +kernel
theorem dX12_far_28 : decode cX12_far 28 = .ok (.aload_n 0, 1) := by decide +kernel
theorem dX12_far_29 : decode cX12_far 29 = .ok (.getfield 79, 3) := by decide +kernel
theorem dX12_far_32 : decode cX12_far 32 = .ok (.iload_n 1, 1) := by decide +kernel
theorem dX12_far_33 : decode cX12_far 33 = .ok (.iaload, 1) := by decide +kernel
theorem dX12_far_34 : decode cX12_far 34 = .ok (.aload_n 0, 1) := by decide +kernel
theorem dX12_far_35 : decode cX12_far 35 = .ok (.getfield 100, 3) := by decide +kernel
theorem dX12_far_38 : decode cX12_far 38 = .ok (.if_icmp .ne 72, 3) := by decide +kernel
theorem dX12_far_41 : decode cX12_far 41 = .ok (.aload_n 0, 1) := by decide +kernel
theorem dX12_far_42 : decode cX12_far 42 = .ok (.getfield 82, 3) := by decide +kernel
theorem dX12_far_45 : decode cX12_far 45 = .ok (.bipush 60, 2) := by decide +kernel
theorem dX12_far_47 : decode cX12_far 47 = .ok (.iload_n 1, 1) := by decide +kernel
theorem dX12_far_48 : decode cX12_far 48 = .ok (.imul, 1) := by decide +kernel
theorem dX12_far_49 : decode cX12_far 49 = .ok (.iload_n 3, 1) := by decide +kernel
theorem dX12_far_50 : decode cX12_far 50 = .ok (.iadd, 1) := by decide +kernel
theorem dX12_far_51 : decode cX12_far 51 = .ok (.laload, 1) := by decide +kernel
theorem dX12_far_52 : decode cX12_far 52 = .ok (.lstore 4, 2) := by decide +kernel
theorem dX12_far_54 : decode cX12_far 54 = .ok (.lload 4, 2) := by decide +kernel
theorem dX12_far_56 : decode cX12_far 56 = .ok (.lconst 0, 1) := by decide +kernel
theorem dX12_far_57 : decode cX12_far 57 = .ok (.aload_n 0, 1) := by decide +kernel
theorem dX12_far_58 : decode cX12_far 58 = .ok (.getfield 93, 3) := by decide +kernel
theorem dX12_far_61 : decode cX12_far 61 = .ok (.iconst 1, 1) := by decide +kernel
theorem dX12_far_62 : decode cX12_far 62 = .ok (.isub, 1) := by decide +kernel
theorem dX12_far_63 : decode cX12_far 63 = .ok (.i2l, 1) := by decide +kernel
theorem dX12_far_64 : decode cX12_far 64 = .ok (.invokestatic 96, 3) := by decide +kernel
theorem dX12_far_67 : decode cX12_far 67 = .ok (.ifCond .eq 17, 3) := by decide +kernel
theorem dX12_far_70 : decode cX12_far 70 = .ok (.aload_n 0, 1) := by decide +kernel
theorem dX12_far_71 : decode cX12_far 71 = .ok (.lload 4, 2) := by decide +kernel
theorem dX12_far_73 : decode cX12_far 73 = .ok (.l2i, 1) := by decide +kernel
theorem dX12_far_74 : decode cX12_far 74 = .ok (.invokevirtual 224, 3) := by decide +kernel
theorem dX12_far_77 : decode cX12_far 77 = .ok (.ifCond .lt 7, 3) := by decide +kernel
theorem dX12_far_80 : decode cX12_far 80 = .ok (.iconst 1, 1) := by decide +kernel
theorem dX12_far_81 : decode cX12_far 81 = .ok (.goto 4, 3) := by decide +kernel
theorem dX12_far_84 : decode cX12_far 84 = .ok (.iconst 0, 1) := by decide +kernel
theorem dX12_far_85 : decode cX12_far 85 = .ok (.istore 6, 2) := by decide +kernel
theorem dX12_far_87 : decode cX12_far 87 = .ok (.iload_n 2, 1) := by decide +kernel
theorem dX12_far_88 : decode cX12_far 88 = .ok (.iload 6, 2) := by decide +kernel
theorem dX12_far_90 : decode cX12_far 90 = .ok (.ifCond .eq 11, 3) := by decide +kernel
theorem dX12_far_93 : decode cX12_far 93 = .ok (.iconst 1, 1) := by decide +kernel
theorem dX12_far_94 : decode cX12_far 94 = .ok (.lload 4, 2) := by decide +kernel
theorem dX12_far_96 : decode cX12_far 96 = .ok (.l2i, 1) := by decide +kernel
theorem dX12_far_97 : decode cX12_far 97 = .ok (.ishl, 1) := by decide +kernel
theorem dX12_far_98 : decode cX12_far 98 = .ok (.goto 4, 3) := by decide +kernel
theorem dX12_far_101 : decode cX12_far 101 = .ok (.iconst 0, 1) := by decide +kernel
theorem dX12_far_102 : decode cX12_far 102 = .ok (.ior, 1) := by decide +kernel
theorem dX12_far_103 : decode cX12_far 103 = .ok (.istore_n 2, 1) := by decide +kernel
theorem dX12_far_104 : decode cX12_far 104 = .ok (.iinc 3 1, 3) := by decide +kernel
theorem dX12_far_107 : decode cX12_far 107 = .ok (.goto (-89), 3) := by decide +kernel
theorem dX12_far_110 : decode cX12_far 110 = .ok (.aload_n 0, 1) := by decide +kernel
theorem dX12_far_111 : decode cX12_far 111 = .ok (.getfield 79, 3) := by decide +kernel
theorem dX12_far_114 : decode cX12_far 114 = .ok (.iload_n 1, 1) := by decide +kernel
theorem dX12_far_115 : decode cX12_far 115 = .ok (.iaload, 1) := by decide +kernel
theorem dX12_far_116 : decode cX12_far 116 = .ok (.aload_n 0, 1) := by decide +kernel
theorem dX12_far_117 : decode cX12_far 117 = .ok (.getfield 100, 3) := by decide +kernel
theorem dX12_far_120 : decode cX12_far 120 = .ok (.if_icmp .ne 14, 3) := by decide +kernel
theorem dX12_far_123 : decode cX12_far 123 = .ok (.iload_n 2, 1) := by decide +kernel
theorem dX12_far_124 : decode cX12_far 124 = .ok (.invokestatic 303, 3) := by decide +kernel
theorem dX12_far_127 : decode cX12_far 127 = .ok (.aload_n 0, 1) := by decide +kernel
theorem dX12_far_128 : decode cX12_far 128 = .ok (.getfield 100, 3) := by decide +kernel
theorem dX12_far_131 : decode cX12_far 131 = .ok (.if_icmp .eq 6, 3) := by decide +kernel
theorem dX12_far_134 : decode cX12_far 134 = .ok (.bipush (-5), 2) := by decide +kernel
theorem dX12_far_136 : decode cX12_far 136 = .ok (.ireturn, 1) := by decide +kernel
theorem dX12_far_137 : decode cX12_far 137 = .ok (.iconst 0, 1) := by decide +kernel
theorem dX12_far_138 : decode cX12_far 138 = .ok (.istore_n 3, 1) := by decide +kernel
theorem dX12_far_139 : decode cX12_far 139 = .ok (.iconst 0, 1) := by decide +kernel
theorem dX12_far_140 : decode cX12_far 140 = .ok (.istore 4, 2) := by decide +kernel
theorem dX12_far_142 : decode cX12_far 142 = .ok (.iload 4, 2) := by decide +kernel
theorem dX12_far_144 : decode cX12_far 144 = .ok (.aload_n 0, 1) := by decide +kernel
theorem dX12_far_145 : decode cX12_far 145 = .ok (.getfield 100, 3) := by decide +kernel
theorem dX12_far_148 : decode cX12_far 148 = .ok (.if_icmp .ge 70, 3) := by decide +kernel
theorem dX12_far_151 : decode cX12_far 151 = .ok (.iconst 0, 1) := by decide +kernel
theorem dX12_far_152 : decode cX12_far 152 = .ok (.istore 5, 2) := by decide +kernel
theorem dX12_far_154 : decode cX12_far 154 = .ok (.iload 5, 2) := by decide +kernel
theorem dX12_far_156 : decode cX12_far 156 = .ok (.iload 4, 2) := by decide +kernel
theorem dX12_far_158 : decode cX12_far 158 = .ok (.if_icmp .ge 54, 3) := by decide +kernel
theorem dX12_far_161 : decode cX12_far 161 = .ok (.iload_n 3, 1) := by decide +kernel
theorem dX12_far_162 : decode cX12_far 162 = .ok (.aload_n 0, 1) := by decide +kernel
theorem dX12_far_163 : decode cX12_far 163 = .ok (.aload_n 0, 1) := by decide +kernel
theorem dX12_far_164 : decode cX12_far 164 = .ok (.getfield 82, 3) := by decide +kernel
theorem dX12_far_167 : decode cX12_far 167 = .ok (.bipush 60, 2) := by decide +kernel
theorem dX12_far_169 : decode cX12_far 169 = .ok (.iload_n 1, 1) := by decide +kernel
theorem dX12_far_170 : decode cX12_far 170 = .ok (.imul, 1) := by decide +kernel
theorem dX12_far_171 : decode cX12_far 171 = .ok (.iload 5, 2) := by decide +kernel
theorem dX12_far_173 : decode cX12_far 173 = .ok (.iadd, 1) := by decide +kernel
theorem dX12_far_174 : decode cX12_far 174 = .ok (.laload, 1) := by decide +kernel
theorem dX12_far_175 : decode cX12_far 175 = .ok (.l2i, 1) := by decide +kernel
theorem dX12_far_176 : decode cX12_far 176 = .ok (.invokevirtual 224, 3) := by decide +kernel
theorem dX12_far_179 : decode cX12_far 179 = .ok (.aload_n 0, 1) := by decide +kernel
theorem dX12_far_180 : decode cX12_far 180 = .ok (.aload_n 0, 1) := by decide +kernel
theorem dX12_far_181 : decode cX12_far 181 = .ok (.getfield 82, 3) := by decide +kernel
theorem dX12_far_184 : decode cX12_far 184 = .ok (.bipush 60, 2) := by decide +kernel
theorem dX12_far_186 : decode cX12_far 186 = .ok (.iload_n 1, 1) := by decide +kernel
theorem dX12_far_187 : decode cX12_far 187 = .ok (.imul, 1) := by decide +kernel
theorem dX12_far_188 : decode cX12_far 188 = .ok (.iload 4, 2) := by decide +kernel
theorem dX12_far_190 : decode cX12_far 190 = .ok (.iadd, 1) := by decide +kernel
theorem dX12_far_191 : decode cX12_far 191 = .ok (.laload, 1) := by decide +kernel
theorem dX12_far_192 : decode cX12_far 192 = .ok (.l2i, 1) := by decide +kernel
theorem dX12_far_193 : decode cX12_far 193 = .ok (.invokevirtual 224, 3) := by decide +kernel
theorem dX12_far_196 : decode cX12_far 196 = .ok (.if_icmp .le 7, 3) := by decide +kernel
theorem dX12_far_199 : decode cX12_far 199 = .ok (.iconst 1, 1) := by decide +kernel
theorem dX12_far_200 : decode cX12_far 200 = .ok (.goto 4, 3) := by decide +kernel
theorem dX12_far_203 : decode cX12_far 203 = .ok (.iconst 0, 1) := by decide +kernel
theorem dX12_far_204 : decode cX12_far 204 = .ok (.iadd, 1) := by decide +kernel
theorem dX12_far_205 : decode cX12_far 205 = .ok (.istore_n 3, 1) := by decide +kernel
theorem dX12_far_206 : decode cX12_far 206 = .ok (.iinc 5 1, 3) := by decide +kernel
theorem dX12_far_209 : decode cX12_far 209 = .ok (.goto (-55), 3) := by decide +kernel
theorem dX12_far_212 : decode cX12_far 212 = .ok (.iinc 4 1, 3) := by decide +kernel
theorem dX12_far_215 : decode cX12_far 215 = .ok (.goto (-73), 3) := by decide +kernel
theorem dX12_far_218 : decode cX12_far 218 = .ok (.iload_n 3, 1) := by decide +kernel
theorem dX12_far_219 : decode cX12_far 219 = .ok (.ireturn, 1) := by decide +kernel
theorem dX12_sorted_0 : decode cX12_sorted 0 = .ok (.aload_n 0, 1) := by decide +kernel
theorem dX12_sorted_1 : decode cX12_sorted 1 = .ok (.invokevirtual 218, 3) := by decide +kernel
theorem dX12_sorted_4 : decode cX12_sorted 4 = .ok (.ireturn, 1) := by decide +kernel
theorem dX12_lineSet_0 : decode cX12_lineSet 0 = .ok (.iconst 0, 1) := by decide +kernel
theorem dX12_lineSet_1 : decode cX12_lineSet 1 = .ok (.istore_n 1, 1) := by decide +kernel
theorem dX12_lineSet_2 : decode cX12_lineSet 2 = .ok (.iconst 0, 1) := by decide +kernel
theorem dX12_lineSet_3 : decode cX12_lineSet 3 = .ok (.istore_n 2, 1) := by decide +kernel
theorem dX12_lineSet_4 : decode cX12_lineSet 4 = .ok (.iload_n 2, 1) := by decide +kernel
theorem dX12_lineSet_5 : decode cX12_lineSet 5 = .ok (.aload_n 0, 1) := by decide +kernel
theorem dX12_lineSet_6 : decode cX12_lineSet 6 = .ok (.getfield 100, 3) := by decide +kernel
theorem dX12_lineSet_9 : decode cX12_lineSet 9 = .ok (.if_icmp .ge 20, 3) := by decide +kernel
theorem dX12_lineSet_12 : decode cX12_lineSet 12 = .ok (.iload_n 1, 1) := by decide +kernel
theorem dX12_lineSet_13 : decode cX12_lineSet 13 = .ok (.iconst 1, 1) := by decide +kernel
theorem dX12_lineSet_14 : decode cX12_lineSet 14 = .ok (.aload_n 0, 1) := by decide +kernel
theorem dX12_lineSet_15 : decode cX12_lineSet 15 = .ok (.getfield 31, 3) := by decide +kernel
theorem dX12_lineSet_18 : decode cX12_lineSet 18 = .ok (.iload_n 2, 1) := by decide +kernel
theorem dX12_lineSet_19 : decode cX12_lineSet 19 = .ok (.iaload, 1) := by decide +kernel
theorem dX12_lineSet_20 : decode cX12_lineSet 20 = .ok (.ishl, 1) := by decide +kernel
theorem dX12_lineSet_21 : decode cX12_lineSet 21 = .ok (.ior, 1) := by decide +kernel
theorem dX12_lineSet_22 : decode cX12_lineSet 22 = .ok (.istore_n 1, 1) := by decide +kernel
theorem dX12_lineSet_23 : decode cX12_lineSet 23 = .ok (.iinc 2 1, 3) := by decide +kernel
theorem dX12_lineSet_26 : decode cX12_lineSet 26 = .ok (.goto (-22), 3) := by decide +kernel
theorem dX12_lineSet_29 : decode cX12_lineSet 29 = .ok (.iload_n 1, 1) := by decide +kernel
theorem dX12_lineSet_30 : decode cX12_lineSet 30 = .ok (.ireturn, 1) := by decide +kernel
theorem dX12_asksBlocks_0 : decode cX12_asksBlocks 0 = .ok (.aload_n 0, 1) := by decide +kernel
theorem dX12_asksBlocks_1 : decode cX12_asksBlocks 1 = .ok (.invokevirtual 203, 3) := by decide +kernel
theorem dX12_asksBlocks_4 : decode cX12_asksBlocks 4 = .ok (.iconst 0, 1) := by decide +kernel
theorem dX12_asksBlocks_5 : decode cX12_asksBlocks 5 = .ok (.istore_n 1, 1) := by decide +kernel
theorem dX12_asksBlocks_6 : decode cX12_asksBlocks 6 = .ok (.iload_n 1, 1) := by decide +kernel
theorem dX12_asksBlocks_7 : decode cX12_asksBlocks 7 = .ok (.aload_n 0, 1) := by decide +kernel
theorem dX12_asksBlocks_8 : decode cX12_asksBlocks 8 = .ok (.getfield 100, 3) := by decide +kernel
theorem dX12_asksBlocks_11 : decode cX12_asksBlocks 11 = .ok (.if_icmp .ge 93, 3) := by decide +kernel
theorem dX12_asksBlocks_14 : decode cX12_asksBlocks 14 = .ok (.aload_n 0, 1) := by decide +kernel
theorem dX12_asksBlocks_15 : decode cX12_asksBlocks 15 = .ok (.getfield 31, 3) := by decide +kernel
theorem dX12_asksBlocks_18 : decode cX12_asksBlocks 18 = .ok (.iload_n 1, 1) := by decide +kernel
theorem dX12_asksBlocks_19 : decode cX12_asksBlocks 19 = .ok (.iaload, 1) := by decide +kernel
theorem dX12_asksBlocks_20 : decode cX12_asksBlocks 20 = .ok (.istore_n 2, 1) := by decide +kernel
theorem dX12_asksBlocks_21 : decode cX12_asksBlocks 21 = .ok (.aload_n 0, 1) := by decide +kernel
theorem dX12_asksBlocks_22 : decode cX12_asksBlocks 22 = .ok (.getfield 61, 3) := by decide +kernel
theorem dX12_asksBlocks_25 : decode cX12_asksBlocks 25 = .ok (.iload_n 2, 1) := by decide +kernel
theorem dX12_asksBlocks_26 : decode cX12_asksBlocks 26 = .ok (.iconst 0, 1) := by decide +kernel
theorem dX12_asksBlocks_27 : decode cX12_asksBlocks 27 = .ok (.iastore, 1) := by decide +kernel
theorem dX12_asksBlocks_28 : decode cX12_asksBlocks 28 = .ok (.iconst 0, 1) := by decide +kernel
theorem dX12_asksBlocks_29 : decode cX12_asksBlocks 29 = .ok (.istore_n 3, 1) := by decide +kernel
theorem dX12_asksBlocks_30 : decode cX12_asksBlocks 30 = .ok (.iload_n 3, 1) := by decide +kernel
theorem dX12_asksBlocks_31 : decode cX12_asksBlocks 31 = .ok (.aload_n 0, 1) := by decide +kernel
theorem dX12_asksBlocks_32 : decode cX12_asksBlocks 32 = .ok (.getfield 100, 3) := by decide +kernel
theorem dX12_asksBlocks_35 : decode cX12_asksBlocks 35 = .ok (.if_icmp .ge 63, 3) := by decide +kernel
theorem dX12_asksBlocks_38 : decode cX12_asksBlocks 38 = .ok (.aload_n 0, 1) := by decide +kernel
theorem dX12_asksBlocks_39 : decode cX12_asksBlocks 39 = .ok (.getfield 31, 3) := by decide +kernel
theorem dX12_asksBlocks_42 : decode cX12_asksBlocks 42 = .ok (.iload_n 3, 1) := by decide +kernel
theorem dX12_asksBlocks_43 : decode cX12_asksBlocks 43 = .ok (.iaload, 1) := by decide +kernel
theorem dX12_asksBlocks_44 : decode cX12_asksBlocks 44 = .ok (.istore 4, 2) := by decide +kernel
theorem dX12_asksBlocks_46 : decode cX12_asksBlocks 46 = .ok (.aload_n 0, 1) := by decide +kernel
theorem dX12_asksBlocks_47 : decode cX12_asksBlocks 47 = .ok (.getfield 61, 3) := by decide +kernel
theorem dX12_asksBlocks_50 : decode cX12_asksBlocks 50 = .ok (.iload_n 2, 1) := by decide +kernel
theorem dX12_asksBlocks_51 : decode cX12_asksBlocks 51 = .ok (.dup2, 1) := by decide +kernel
theorem dX12_asksBlocks_52 : decode cX12_asksBlocks 52 = .ok (.iaload, 1) := by decide +kernel
theorem dX12_asksBlocks_53 : decode cX12_asksBlocks 53 = .ok (.aload_n 0, 1) := by decide +kernel
theorem dX12_asksBlocks_54 : decode cX12_asksBlocks 54 = .ok (.getfield 9, 3) := by decide +kernel
theorem dX12_asksBlocks_57 : decode cX12_asksBlocks 57 = .ok (.iload 4, 2) := by decide +kernel
theorem dX12_asksBlocks_59 : decode cX12_asksBlocks 59 = .ok (.iaload, 1) := by decide +kernel
theorem dX12_asksBlocks_60 : decode cX12_asksBlocks 60 = .ok (.aload_n 0, 1) := by decide +kernel
theorem dX12_asksBlocks_61 : decode cX12_asksBlocks 61 = .ok (.getfield 9, 3) := by decide +kernel
theorem dX12_asksBlocks_64 : decode cX12_asksBlocks 64 = .ok (.iload_n 2, 1) := by decide +kernel
theorem dX12_asksBlocks_65 : decode cX12_asksBlocks 65 = .ok (.iaload, 1) := by decide +kernel
theorem dX12_asksBlocks_66 : decode cX12_asksBlocks 66 = .ok (.if_icmp .le 23, 3) := by decide +kernel
theorem dX12_asksBlocks_69 : decode cX12_asksBlocks 69 = .ok (.aload_n 0, 1) := by decide +kernel
theorem dX12_asksBlocks_70 : decode cX12_asksBlocks 70 = .ok (.iload_n 3, 1) := by decide +kernel
theorem dX12_asksBlocks_71 : decode cX12_asksBlocks 71 = .ok (.invokevirtual 200, 3) := by decide +kernel
theorem dX12_asksBlocks_74 : decode cX12_asksBlocks 74 = .ok (.aload_n 0, 1) := by decide +kernel
theorem dX12_asksBlocks_75 : decode cX12_asksBlocks 75 = .ok (.iload_n 1, 1) := by decide +kernel
theorem dX12_asksBlocks_76 : decode cX12_asksBlocks 76 = .ok (.invokevirtual 200, 3) := by decide +kernel
theorem dX12_asksBlocks_79 : decode cX12_asksBlocks 79 = .ok (.if_icmp .ge 10, 3) := by decide +kernel
theorem dX12_asksBlocks_82 : decode cX12_asksBlocks 82 = .ok (.iconst 1, 1) := by decide +kernel
theorem dX12_asksBlocks_83 : decode cX12_asksBlocks 83 = .ok (.iload 4, 2) := by decide +kernel
theorem dX12_asksBlocks_85 : decode cX12_asksBlocks 85 = .ok (.ishl, 1) := by decide +kernel
theorem dX12_asksBlocks_86 : decode cX12_asksBlocks 86 = .ok (.goto 4, 3) := by decide +kernel
theorem dX12_asksBlocks_89 : decode cX12_asksBlocks 89 = .ok (.iconst 0, 1) := by decide +kernel
theorem dX12_asksBlocks_90 : decode cX12_asksBlocks 90 = .ok (.ior, 1) := by decide +kernel
theorem dX12_asksBlocks_91 : decode cX12_asksBlocks 91 = .ok (.iastore, 1) := by decide +kernel
theorem dX12_asksBlocks_92 : decode cX12_asksBlocks 92 = .ok (.iinc 3 1, 3) := by decide +kernel
theorem dX12_asksBlocks_95 : decode cX12_asksBlocks 95 = .ok (.goto (-65), 3) := by decide +kernel
theorem dX12_asksBlocks_98 : decode cX12_asksBlocks 98 = .ok (.iinc 1 1, 3) := by decide +kernel
theorem dX12_asksBlocks_101 : decode cX12_asksBlocks 101 = .ok (.goto (-95), 3) := by decide +kernel
theorem dX12_asksBlocks_104 : decode cX12_asksBlocks 104 = .ok (.return_, 1) := by decide +kernel
theorem dX12_mayBe_0 : decode cX12_mayBe 0 = .ok (.iload_n 1, 1) := by decide +kernel
theorem dX12_mayBe_1 : decode cX12_mayBe 1 = .ok (.iload_n 2, 1) := by decide +kernel
theorem dX12_mayBe_2 : decode cX12_mayBe 2 = .ok (.invokestatic 271, 3) := by decide +kernel
theorem dX12_mayBe_5 : decode cX12_mayBe 5 = .ok (.ifCond .eq 18, 3) := by decide +kernel
theorem dX12_mayBe_8 : decode cX12_mayBe 8 = .ok (.aload_n 0, 1) := by decide +kernel
theorem dX12_mayBe_9 : decode cX12_mayBe 9 = .ok (.getfield 61, 3) := by decide +kernel
theorem dX12_mayBe_12 : decode cX12_mayBe 12 = .ok (.iload_n 2, 1) := by decide +kernel
theorem dX12_mayBe_13 : decode cX12_mayBe 13 = .ok (.iaload, 1) := by decide +kernel
theorem dX12_mayBe_14 : decode cX12_mayBe 14 = .ok (.iload_n 1, 1) := by decide +kernel
theorem dX12_mayBe_15 : decode cX12_mayBe 15 = .ok (.iand, 1) := by decide +kernel
theorem dX12_mayBe_16 : decode cX12_mayBe 16 = .ok (.ifCond .ne 7, 3) := by decide +kernel
theorem dX12_mayBe_19 : decode cX12_mayBe 19 = .ok (.iconst 1, 1) := by decide +kernel
theorem dX12_mayBe_20 : decode cX12_mayBe 20 = .ok (.goto 4, 3) := by decide +kernel
theorem dX12_mayBe_23 : decode cX12_mayBe 23 = .ok (.iconst 0, 1) := by decide +kernel
theorem dX12_mayBe_24 : decode cX12_mayBe 24 = .ok (.ireturn, 1) := by decide +kernel
theorem dX12_countsOrders_0 : decode cX12_countsOrders 0 = .ok (.iconst 0, 1) := by decide +kernel
theorem dX12_countsOrders_1 : decode cX12_countsOrders 1 = .ok (.istore_n 2, 1) := by decide +kernel
theorem dX12_countsOrders_2 : decode cX12_countsOrders 2 = .ok (.iload_n 2, 1) := by decide +kernel
theorem dX12_countsOrders_3 : decode cX12_countsOrders 3 = .ok (.iload_n 1, 1) := by decide +kernel
theorem dX12_countsOrders_4 : decode cX12_countsOrders 4 = .ok (.if_icmp .gt 82, 3) := by decide +kernel
theorem dX12_countsOrders_7 : decode cX12_countsOrders 7 = .ok (.aload_n 0, 1) := by decide +kernel
theorem dX12_countsOrders_8 : decode cX12_countsOrders 8 = .ok (.getfield 64, 3) := by decide +kernel
theorem dX12_countsOrders_11 : decode cX12_countsOrders 11 = .ok (.iload_n 2, 1) := by decide +kernel
theorem dX12_countsOrders_12 : decode cX12_countsOrders 12 = .ok (.iload_n 2, 1) := by decide +kernel
theorem dX12_countsOrders_13 : decode cX12_countsOrders 13 = .ok (.ifCond .ne 7, 3) := by decide +kernel
theorem dX12_countsOrders_16 : decode cX12_countsOrders 16 = .ok (.iconst 1, 1) := by decide +kernel
theorem dX12_countsOrders_17 : decode cX12_countsOrders 17 = .ok (.goto 4, 3) := by decide +kernel
theorem dX12_countsOrders_20 : decode cX12_countsOrders 20 = .ok (.iconst 0, 1) := by decide +kernel
theorem dX12_countsOrders_21 : decode cX12_countsOrders 21 = .ok (.iastore, 1) := by decide +kernel
theorem dX12_countsOrders_22 : decode cX12_countsOrders 22 = .ok (.iconst 0, 1) := by decide +kernel
theorem dX12_countsOrders_23 : decode cX12_countsOrders 23 = .ok (.istore_n 3, 1) := by decide +kernel
theorem dX12_countsOrders_24 : decode cX12_countsOrders 24 = .ok (.iload_n 3, 1) := by decide +kernel
theorem dX12_countsOrders_25 : decode cX12_countsOrders 25 = .ok (.aload_n 0, 1) := by decide +kernel
theorem dX12_countsOrders_26 : decode cX12_countsOrders 26 = .ok (.getfield 93, 3) := by decide +kernel
theorem dX12_countsOrders_29 : decode cX12_countsOrders 29 = .ok (.if_icmp .ge 51, 3) := by decide +kernel
theorem dX12_countsOrders_32 : decode cX12_countsOrders 32 = .ok (.iload_n 2, 1) := by decide +kernel
theorem dX12_countsOrders_33 : decode cX12_countsOrders 33 = .ok (.iload_n 1, 1) := by decide +kernel
theorem dX12_countsOrders_34 : decode cX12_countsOrders 34 = .ok (.iconst (-1), 1) := by decide +kernel
theorem dX12_countsOrders_35 : decode cX12_countsOrders 35 = .ok (.ixor, 1) := by decide +kernel
theorem dX12_countsOrders_36 : decode cX12_countsOrders 36 = .ok (.iand, 1) := by decide +kernel
theorem dX12_countsOrders_37 : decode cX12_countsOrders 37 = .ok (.ifCond .ne 43, 3) := by decide +kernel
theorem dX12_countsOrders_40 : decode cX12_countsOrders 40 = .ok (.aload_n 0, 1) := by decide +kernel
theorem dX12_countsOrders_41 : decode cX12_countsOrders 41 = .ok (.getfield 64, 3) := by decide +kernel
theorem dX12_countsOrders_44 : decode cX12_countsOrders 44 = .ok (.iload_n 2, 1) := by decide +kernel
theorem dX12_countsOrders_45 : decode cX12_countsOrders 45 = .ok (.dup2, 1) := by decide +kernel
theorem dX12_countsOrders_46 : decode cX12_countsOrders 46 = .ok (.iaload, 1) := by decide +kernel
theorem dX12_countsOrders_47 : decode cX12_countsOrders 47 = .ok (.aload_n 0, 1) := by decide +kernel
theorem dX12_countsOrders_48 : decode cX12_countsOrders 48 = .ok (.iload_n 2, 1) := by decide +kernel
theorem dX12_countsOrders_49 : decode cX12_countsOrders 49 = .ok (.iload_n 3, 1) := by decide +kernel
theorem dX12_countsOrders_50 : decode cX12_countsOrders 50 = .ok (.invokevirtual 306, 3) := by decide +kernel
theorem dX12_countsOrders_53 : decode cX12_countsOrders 53 = .ok (.ifCond .eq 18, 3) := by decide +kernel
theorem dX12_countsOrders_56 : decode cX12_countsOrders 56 = .ok (.aload_n 0, 1) := by decide +kernel
theorem dX12_countsOrders_57 : decode cX12_countsOrders 57 = .ok (.getfield 64, 3) := by decide +kernel
theorem dX12_countsOrders_60 : decode cX12_countsOrders 60 = .ok (.iload_n 2, 1) := by decide +kernel
theorem dX12_countsOrders_61 : decode cX12_countsOrders 61 = .ok (.iconst 1, 1) := by decide +kernel
theorem dX12_countsOrders_62 : decode cX12_countsOrders 62 = .ok (.iload_n 3, 1) := by decide +kernel
theorem dX12_countsOrders_63 : decode cX12_countsOrders 63 = .ok (.ishl, 1) := by decide +kernel
theorem dX12_countsOrders_64 : decode cX12_countsOrders 64 = .ok (.iconst (-1), 1) := by decide +kernel
theorem dX12_countsOrders_65 : decode cX12_countsOrders 65 = .ok (.ixor, 1) := by decide +kernel
theorem dX12_countsOrders_66 : decode cX12_countsOrders 66 = .ok (.iand, 1) := by decide +kernel
theorem dX12_countsOrders_67 : decode cX12_countsOrders 67 = .ok (.iaload, 1) := by decide +kernel
theorem dX12_countsOrders_68 : decode cX12_countsOrders 68 = .ok (.goto 4, 3) := by decide +kernel
theorem dX12_countsOrders_71 : decode cX12_countsOrders 71 = .ok (.iconst 0, 1) := by decide +kernel
theorem dX12_countsOrders_72 : decode cX12_countsOrders 72 = .ok (.iadd, 1) := by decide +kernel
theorem dX12_countsOrders_73 : decode cX12_countsOrders 73 = .ok (.iastore, 1) := by decide +kernel
theorem dX12_countsOrders_74 : decode cX12_countsOrders 74 = .ok (.iinc 3 1, 3) := by decide +kernel
theorem dX12_countsOrders_77 : decode cX12_countsOrders 77 = .ok (.goto (-53), 3) := by decide +kernel
theorem dX12_countsOrders_80 : decode cX12_countsOrders 80 = .ok (.iinc 2 1, 3) := by decide +kernel
theorem dX12_countsOrders_83 : decode cX12_countsOrders 83 = .ok (.goto (-81), 3) := by decide +kernel
theorem dX12_countsOrders_86 : decode cX12_countsOrders 86 = .ok (.return_, 1) := by decide +kernel
theorem dX12_right_0 : decode cX12_right 0 = .ok (.iload_n 1, 1) := by decide +kernel
theorem dX12_right_1 : decode cX12_right 1 = .ok (.i2l, 1) := by decide +kernel
theorem dX12_right_2 : decode cX12_right 2 = .ok (.ldc2_w 309, 3) := by decide +kernel
theorem dX12_right_5 : decode cX12_right 5 = .ok (.aload_n 0, 1) := by decide +kernel
theorem dX12_right_6 : decode cX12_right 6 = .ok (.getfield 100, 3) := by decide +kernel
theorem dX12_right_9 : decode cX12_right 9 = .ok (.iconst 1, 1) := by decide +kernel
theorem dX12_right_10 : decode cX12_right 10 = .ok (.isub, 1) := by decide +kernel
theorem dX12_right_11 : decode cX12_right 11 = .ok (.i2l, 1) := by decide +kernel
theorem dX12_right_12 : decode cX12_right 12 = .ok (.invokestatic 96, 3) := by decide +kernel
theorem dX12_right_15 : decode cX12_right 15 = .ok (.ifCond .ne 5, 3) := by decide +kernel
theorem dX12_right_18 : decode cX12_right 18 = .ok (.iconst (-1), 1) := by decide +kernel
theorem dX12_right_19 : decode cX12_right 19 = .ok (.ireturn, 1) := by decide +kernel
theorem dX12_right_20 : decode cX12_right 20 = .ok (.aload_n 0, 1) := by decide +kernel
theorem dX12_right_21 : decode cX12_right 21 = .ok (.invokevirtual 311, 3) := by decide +kernel
theorem dX12_right_24 : decode cX12_right 24 = .ok (.aload_n 0, 1) := by decide +kernel
theorem dX12_right_25 : decode cX12_right 25 = .ok (.invokevirtual 314, 3) := by decide +kernel
theorem dX12_right_28 : decode cX12_right 28 = .ok (.istore_n 2, 1) := by decide +kernel
theorem dX12_right_29 : decode cX12_right 29 = .ok (.iload_n 1, 1) := by decide +kernel
theorem dX12_right_30 : decode cX12_right 30 = .ok (.bipush (-2), 2) := by decide +kernel
theorem dX12_right_32 : decode cX12_right 32 = .ok (.if_icmp .ne 46, 3) := by decide +kernel
theorem dX12_right_35 : decode cX12_right 35 = .ok (.iconst 0, 1) := by decide +kernel
theorem dX12_right_36 : decode cX12_right 36 = .ok (.istore_n 3, 1) := by decide +kernel
theorem dX12_right_37 : decode cX12_right 37 = .ok (.iconst 0, 1) := by decide +kernel
theorem dX12_right_38 : decode cX12_right 38 = .ok (.istore 4, 2) := by decide +kernel
theorem dX12_right_40 : decode cX12_right 40 = .ok (.iload 4, 2) := by decide +kernel
theorem dX12_right_42 : decode cX12_right 42 = .ok (.aload_n 0, 1) := by decide +kernel
theorem dX12_right_43 : decode cX12_right 43 = .ok (.getfield 93, 3) := by decide +kernel
theorem dX12_right_46 : decode cX12_right 46 = .ok (.if_icmp .ge 30, 3) := by decide +kernel
theorem dX12_right_49 : decode cX12_right 49 = .ok (.iload_n 3, 1) := by decide +kernel
theorem dX12_right_50 : decode cX12_right 50 = .ok (.aload_n 0, 1) := by decide +kernel
theorem dX12_right_51 : decode cX12_right 51 = .ok (.iload_n 2, 1) := by decide +kernel
theorem dX12_right_52 : decode cX12_right 52 = .ok (.iload 4, 2) := by decide +kernel
theorem dX12_right_54 : decode cX12_right 54 = .ok (.invokevirtual 306, 3) := by decide +kernel
theorem dX12_right_57 : decode cX12_right 57 = .ok (.ifCond .eq 10, 3) := by decide +kernel
theorem dX12_right_60 : decode cX12_right 60 = .ok (.iconst 1, 1) := by decide +kernel
theorem dX12_right_61 : decode cX12_right 61 = .ok (.iload 4, 2) := by decide +kernel
theorem dX12_right_63 : decode cX12_right 63 = .ok (.ishl, 1) := by decide +kernel
theorem dX12_right_64 : decode cX12_right 64 = .ok (.goto 4, 3) := by decide +kernel
theorem dX12_right_67 : decode cX12_right 67 = .ok (.iconst 0, 1) := by decide +kernel
theorem dX12_right_68 : decode cX12_right 68 = .ok (.ior, 1) := by decide +kernel
theorem dX12_right_69 : decode cX12_right 69 = .ok (.istore_n 3, 1) := by decide +kernel
theorem dX12_right_70 : decode cX12_right 70 = .ok (.iinc 4 1, 3) := by decide +kernel
theorem dX12_right_73 : decode cX12_right 73 = .ok (.goto (-33), 3) := by decide +kernel
theorem dX12_right_76 : decode cX12_right 76 = .ok (.iload_n 3, 1) := by decide +kernel
theorem dX12_right_77 : decode cX12_right 77 = .ok (.ireturn, 1) := by decide +kernel
theorem dX12_right_78 : decode cX12_right 78 = .ok (.aload_n 0, 1) := by decide +kernel
theorem dX12_right_79 : decode cX12_right 79 = .ok (.iload_n 2, 1) := by decide +kernel
theorem dX12_right_80 : decode cX12_right 80 = .ok (.invokevirtual 317, 3) := by decide +kernel
theorem dX12_right_83 : decode cX12_right 83 = .ok (.iload_n 1, 1) := by decide +kernel
theorem dX12_right_84 : decode cX12_right 84 = .ok (.iconst (-1), 1) := by decide +kernel
theorem dX12_right_85 : decode cX12_right 85 = .ok (.if_icmp .ne 10, 3) := by decide +kernel
theorem dX12_right_88 : decode cX12_right 88 = .ok (.aload_n 0, 1) := by decide +kernel
theorem dX12_right_89 : decode cX12_right 89 = .ok (.getfield 64, 3) := by decide +kernel
theorem dX12_right_92 : decode cX12_right 92 = .ok (.iload_n 2, 1) := by decide +kernel
theorem dX12_right_93 : decode cX12_right 93 = .ok (.iaload, 1) := by decide +kernel
theorem dX12_right_94 : decode cX12_right 94 = .ok (.ireturn, 1) := by decide +kernel
theorem dX12_right_95 : decode cX12_right 95 = .ok (.bipush (-2), 2) := by decide +kernel
theorem dX12_right_97 : decode cX12_right 97 = .ok (.istore_n 3, 1) := by decide +kernel
theorem dX12_right_98 : decode cX12_right 98 = .ok (.iconst 0, 1) := by decide +kernel
theorem dX12_right_99 : decode cX12_right 99 = .ok (.istore 4, 2) := by decide +kernel
theorem dX12_right_101 : decode cX12_right 101 = .ok (.iload 4, 2) := by decide +kernel
theorem dX12_right_103 : decode cX12_right 103 = .ok (.iload_n 1, 1) := by decide +kernel
theorem dX12_right_104 : decode cX12_right 104 = .ok (.if_icmp .gt 79, 3) := by decide +kernel
theorem dX12_right_107 : decode cX12_right 107 = .ok (.bipush (-2), 2) := by decide +kernel
theorem dX12_right_109 : decode cX12_right 109 = .ok (.istore_n 3, 1) := by decide +kernel
theorem dX12_right_110 : decode cX12_right 110 = .ok (.aload_n 0, 1) := by decide +kernel
theorem dX12_right_111 : decode cX12_right 111 = .ok (.getfield 93, 3) := by decide +kernel
theorem dX12_right_114 : decode cX12_right 114 = .ok (.iconst 1, 1) := by decide +kernel
theorem dX12_right_115 : decode cX12_right 115 = .ok (.isub, 1) := by decide +kernel
theorem dX12_right_116 : decode cX12_right 116 = .ok (.istore 5, 2) := by decide +kernel
theorem dX12_right_118 : decode cX12_right 118 = .ok (.iload 5, 2) := by decide +kernel
theorem dX12_right_120 : decode cX12_right 120 = .ok (.ifCond .lt 42, 3) := by decide +kernel
theorem dX12_right_123 : decode cX12_right 123 = .ok (.aload_n 0, 1) := by decide +kernel
theorem dX12_right_124 : decode cX12_right 124 = .ok (.iload_n 2, 1) := by decide +kernel
theorem dX12_right_125 : decode cX12_right 125 = .ok (.iload 5, 2) := by decide +kernel
theorem dX12_right_127 : decode cX12_right 127 = .ok (.invokevirtual 306, 3) := by decide +kernel
theorem dX12_right_130 : decode cX12_right 130 = .ok (.ifCond .eq 24, 3) := by decide +kernel
theorem dX12_right_133 : decode cX12_right 133 = .ok (.aload_n 0, 1) := by decide +kernel
theorem dX12_right_134 : decode cX12_right 134 = .ok (.getfield 64, 3) := by decide +kernel
theorem dX12_right_137 : decode cX12_right 137 = .ok (.iload_n 2, 1) := by decide +kernel
theorem dX12_right_138 : decode cX12_right 138 = .ok (.iconst 1, 1) := by decide +kernel
theorem dX12_right_139 : decode cX12_right 139 = .ok (.iload 5, 2) := by decide +kernel
theorem dX12_right_141 : decode cX12_right 141 = .ok (.ishl, 1) := by decide +kernel
theorem dX12_right_142 : decode cX12_right 142 = .ok (.iconst (-1), 1) := by decide +kernel
theorem dX12_right_143 : decode cX12_right 143 = .ok (.ixor, 1) := by decide +kernel
theorem dX12_right_144 : decode cX12_right 144 = .ok (.iand, 1) := by decide +kernel
theorem dX12_right_145 : decode cX12_right 145 = .ok (.iaload, 1) := by decide +kernel
theorem dX12_right_146 : decode cX12_right 146 = .ok (.ifCond .le 8, 3) := by decide +kernel
theorem dX12_right_149 : decode cX12_right 149 = .ok (.iload 5, 2) := by decide +kernel
theorem dX12_right_151 : decode cX12_right 151 = .ok (.goto 4, 3) := by decide +kernel
theorem dX12_right_154 : decode cX12_right 154 = .ok (.iload_n 3, 1) := by decide +kernel
theorem dX12_right_155 : decode cX12_right 155 = .ok (.istore_n 3, 1) := by decide +kernel
theorem dX12_right_156 : decode cX12_right 156 = .ok (.iinc 5 (-1), 3) := by decide +kernel
theorem dX12_right_159 : decode cX12_right 159 = .ok (.goto (-41), 3) := by decide +kernel
theorem dX12_right_162 : decode cX12_right 162 = .ok (.iload_n 3, 1) := by decide +kernel
theorem dX12_right_163 : decode cX12_right 163 = .ok (.ifCond .ge 6, 3) := by decide +kernel
theorem dX12_right_166 : decode cX12_right 166 = .ok (.bipush (-2), 2) := by decide +kernel
theorem dX12_right_168 : decode cX12_right 168 = .ok (.ireturn, 1) := by decide +kernel
theorem dX12_right_169 : decode cX12_right 169 = .ok (.iload_n 2, 1) := by decide +kernel
theorem dX12_right_170 : decode cX12_right 170 = .ok (.iconst 1, 1) := by decide +kernel
theorem dX12_right_171 : decode cX12_right 171 = .ok (.iload_n 3, 1) := by decide +kernel
theorem dX12_right_172 : decode cX12_right 172 = .ok (.ishl, 1) := by decide +kernel
theorem dX12_right_173 : decode cX12_right 173 = .ok (.iconst (-1), 1) := by decide +kernel
theorem dX12_right_174 : decode cX12_right 174 = .ok (.ixor, 1) := by decide +kernel
theorem dX12_right_175 : decode cX12_right 175 = .ok (.iand, 1) := by decide +kernel
theorem dX12_right_176 : decode cX12_right 176 = .ok (.istore_n 2, 1) := by decide +kernel
theorem dX12_right_177 : decode cX12_right 177 = .ok (.iinc 4 1, 3) := by decide +kernel
theorem dX12_right_180 : decode cX12_right 180 = .ok (.goto (-79), 3) := by decide +kernel
theorem dX12_right_183 : decode cX12_right 183 = .ok (.iload_n 3, 1) := by decide +kernel
theorem dX12_right_184 : decode cX12_right 184 = .ok (.ireturn, 1) := by decide +kernel
theorem dX12_mixed_0 : decode cX12_mixed 0 = .ok (.iload_n 2, 1) := by decide +kernel
theorem dX12_mixed_1 : decode cX12_mixed 1 = .ok (.i2l, 1) := by decide +kernel
theorem dX12_mixed_2 : decode cX12_mixed 2 = .ok (.lconst 1, 1) := by decide +kernel
theorem dX12_mixed_3 : decode cX12_mixed 3 = .ok (.ldc2_w 320, 3) := by decide +kernel
theorem dX12_mixed_6 : decode cX12_mixed 6 = .ok (.invokestatic 96, 3) := by decide +kernel
theorem dX12_mixed_9 : decode cX12_mixed 9 = .ok (.ifCond .eq 17, 3) := by decide +kernel
theorem dX12_mixed_12 : decode cX12_mixed 12 = .ok (.iload_n 3, 1) := by decide +kernel
theorem dX12_mixed_13 : decode cX12_mixed 13 = .ok (.bipush (-2), 2) := by decide +kernel
theorem dX12_mixed_15 : decode cX12_mixed 15 = .ok (.if_icmp .lt 11, 3) := by decide +kernel
theorem dX12_mixed_18 : decode cX12_mixed 18 = .ok (.iload_n 3, 1) := by decide +kernel
theorem dX12_mixed_19 : decode cX12_mixed 19 = .ok (.aload_n 0, 1) := by decide +kernel
theorem dX12_mixed_20 : decode cX12_mixed 20 = .ok (.getfield 93, 3) := by decide +kernel
theorem dX12_mixed_23 : decode cX12_mixed 23 = .ok (.if_icmp .lt 5, 3) := by decide +kernel
theorem dX12_mixed_26 : decode cX12_mixed 26 = .ok (.iconst (-1), 1) := by decide +kernel
theorem dX12_mixed_27 : decode cX12_mixed 27 = .ok (.ireturn, 1) := by decide +kernel
theorem dX12_mixed_28 : decode cX12_mixed 28 = .ok (.aload_n 0, 1) := by decide +kernel
theorem dX12_mixed_29 : decode cX12_mixed 29 = .ok (.invokevirtual 215, 3) := by decide +kernel
theorem dX12_mixed_32 : decode cX12_mixed 32 = .ok (.istore 4, 2) := by decide +kernel
theorem dX12_mixed_34 : decode cX12_mixed 34 = .ok (.iload_n 1, 1) := by decide +kernel
theorem dX12_mixed_35 : decode cX12_mixed 35 = .ok (.istore 5, 2) := by decide +kernel
theorem dX12_mixed_37 : decode cX12_mixed 37 = .ok (.iconst 0, 1) := by decide +kernel
theorem dX12_mixed_38 : decode cX12_mixed 38 = .ok (.istore 6, 2) := by decide +kernel
theorem dX12_mixed_40 : decode cX12_mixed 40 = .ok (.iconst 0, 1) := by decide +kernel
theorem dX12_mixed_41 : decode cX12_mixed 41 = .ok (.istore 7, 2) := by decide +kernel
theorem dX12_mixed_43 : decode cX12_mixed 43 = .ok (.iconst 0, 1) := by decide +kernel
theorem dX12_mixed_44 : decode cX12_mixed 44 = .ok (.istore 8, 2) := by decide +kernel
theorem dX12_mixed_46 : decode cX12_mixed 46 = .ok (.iconst 0, 1) := by decide +kernel
theorem dX12_mixed_47 : decode cX12_mixed 47 = .ok (.istore 9, 2) := by decide +kernel
theorem dX12_mixed_49 : decode cX12_mixed 49 = .ok (.iload 9, 2) := by decide +kernel
theorem dX12_mixed_51 : decode cX12_mixed 51 = .ok (.iload_n 2, 1) := by decide +kernel
theorem dX12_mixed_52 : decode cX12_mixed 52 = .ok (.if_icmp .ge 117, 3) := by decide +kernel
theorem dX12_mixed_55 : decode cX12_mixed 55 = .ok (.aload_n 0, 1) := by decide +kernel
theorem dX12_mixed_56 : decode cX12_mixed 56 = .ok (.invokevirtual 203, 3) := by decide +kernel
theorem dX12_mixed_59 : decode cX12_mixed 59 = .ok (.aload_n 0, 1) := by decide +kernel
theorem dX12_mixed_60 : decode cX12_mixed 60 = .ok (.getfield 184, 3) := by decide +kernel
theorem dX12_mixed_63 : decode cX12_mixed 63 = .ok (.iconst 1, 1) := by decide +kernel
theorem dX12_mixed_64 : decode cX12_mixed 64 = .ok (.isub, 1) := by decide +kernel
theorem dX12_mixed_65 : decode cX12_mixed 65 = .ok (.istore 10, 2) := by decide +kernel
theorem dX12_mixed_67 : decode cX12_mixed 67 = .ok (.iload 10, 2) := by decide +kernel
theorem dX12_mixed_69 : decode cX12_mixed 69 = .ok (.ifCond .le 37, 3) := by decide +kernel
theorem dX12_mixed_72 : decode cX12_mixed 72 = .ok (.iload 5, 2) := by decide +kernel
theorem dX12_mixed_74 : decode cX12_mixed 74 = .ok (.ldc_w 322, 3) := by decide +kernel
theorem dX12_mixed_77 : decode cX12_mixed 77 = .ok (.imul, 1) := by decide +kernel
theorem dX12_mixed_78 : decode cX12_mixed 78 = .ok (.sipush 12345, 3) := by decide +kernel
theorem dX12_mixed_81 : decode cX12_mixed 81 = .ok (.iadd, 1) := by decide +kernel
theorem dX12_mixed_82 : decode cX12_mixed 82 = .ok (.istore 5, 2) := by decide +kernel
theorem dX12_mixed_84 : decode cX12_mixed 84 = .ok (.aload_n 0, 1) := by decide +kernel
theorem dX12_mixed_85 : decode cX12_mixed 85 = .ok (.iload 10, 2) := by decide +kernel
theorem dX12_mixed_87 : decode cX12_mixed 87 = .ok (.iload 5, 2) := by decide +kernel
theorem dX12_mixed_89 : decode cX12_mixed 89 = .ok (.bipush 8, 2) := by decide +kernel
theorem dX12_mixed_91 : decode cX12_mixed 91 = .ok (.iushr, 1) := by decide +kernel
theorem dX12_mixed_92 : decode cX12_mixed 92 = .ok (.iload 10, 2) := by decide +kernel
theorem dX12_mixed_94 : decode cX12_mixed 94 = .ok (.iconst 1, 1) := by decide +kernel
theorem dX12_mixed_95 : decode cX12_mixed 95 = .ok (.iadd, 1) := by decide +kernel
theorem dX12_mixed_96 : decode cX12_mixed 96 = .ok (.irem, 1) := by decide +kernel
theorem dX12_mixed_97 : decode cX12_mixed 97 = .ok (.invokevirtual 248, 3) := by decide +kernel
theorem dX12_mixed_100 : decode cX12_mixed 100 = .ok (.iinc 10 (-1), 3) := by decide +kernel
theorem dX12_mixed_103 : decode cX12_mixed 103 = .ok (.goto (-36), 3) := by decide +kernel
theorem dX12_mixed_106 : decode cX12_mixed 106 = .ok (.aload_n 0, 1) := by decide +kernel
theorem dX12_mixed_107 : decode cX12_mixed 107 = .ok (.invokevirtual 206, 3) := by decide +kernel
theorem dX12_mixed_110 : decode cX12_mixed 110 = .ok (.istore 10, 2) := by decide +kernel
theorem dX12_mixed_112 : decode cX12_mixed 112 = .ok (.iload 6, 2) := by decide +kernel
theorem dX12_mixed_114 : decode cX12_mixed 114 = .ok (.iload 10, 2) := by decide +kernel
theorem dX12_mixed_116 : decode cX12_mixed 116 = .ok (.iadd, 1) := by decide +kernel
theorem dX12_mixed_117 : decode cX12_mixed 117 = .ok (.istore 6, 2) := by decide +kernel
theorem dX12_mixed_119 : decode cX12_mixed 119 = .ok (.iload 7, 2) := by decide +kernel
theorem dX12_mixed_121 : decode cX12_mixed 121 = .ok (.iload 10, 2) := by decide +kernel
theorem dX12_mixed_123 : decode cX12_mixed 123 = .ok (.iload 4, 2) := by decide +kernel
theorem dX12_mixed_125 : decode cX12_mixed 125 = .ok (.if_icmp .ge 7, 3) := by decide +kernel
theorem dX12_mixed_128 : decode cX12_mixed 128 = .ok (.iconst 1, 1) := by decide +kernel
theorem dX12_mixed_129 : decode cX12_mixed 129 = .ok (.goto 4, 3) := by decide +kernel
theorem dX12_mixed_132 : decode cX12_mixed 132 = .ok (.iconst 0, 1) := by decide +kernel
theorem dX12_mixed_133 : decode cX12_mixed 133 = .ok (.iadd, 1) := by decide +kernel
theorem dX12_mixed_134 : decode cX12_mixed 134 = .ok (.istore 7, 2) := by decide +kernel
theorem dX12_mixed_136 : decode cX12_mixed 136 = .ok (.iload 8, 2) := by decide +kernel
theorem dX12_mixed_138 : decode cX12_mixed 138 = .ok (.aload_n 0, 1) := by decide +kernel
theorem dX12_mixed_139 : decode cX12_mixed 139 = .ok (.getfield 184, 3) := by decide +kernel
theorem dX12_mixed_142 : decode cX12_mixed 142 = .ok (.ifCond .le 17, 3) := by decide +kernel
theorem dX12_mixed_145 : decode cX12_mixed 145 = .ok (.aload_n 0, 1) := by decide +kernel
theorem dX12_mixed_146 : decode cX12_mixed 146 = .ok (.getfield 34, 3) := by decide +kernel
theorem dX12_mixed_149 : decode cX12_mixed 149 = .ok (.iconst 0, 1) := by decide +kernel
theorem dX12_mixed_150 : decode cX12_mixed 150 = .ok (.iaload, 1) := by decide +kernel
theorem dX12_mixed_151 : decode cX12_mixed 151 = .ok (.iload_n 3, 1) := by decide +kernel
theorem dX12_mixed_152 : decode cX12_mixed 152 = .ok (.if_icmp .ne 7, 3) := by decide +kernel
theorem dX12_mixed_155 : decode cX12_mixed 155 = .ok (.iconst 1, 1) := by decide +kernel
theorem dX12_mixed_156 : decode cX12_mixed 156 = .ok (.goto 4, 3) := by decide +kernel
theorem dX12_mixed_159 : decode cX12_mixed 159 = .ok (.iconst 0, 1) := by decide +kernel
theorem dX12_mixed_160 : decode cX12_mixed 160 = .ok (.iadd, 1) := by decide +kernel
theorem dX12_mixed_161 : decode cX12_mixed 161 = .ok (.istore 8, 2) := by decide +kernel
theorem dX12_mixed_163 : decode cX12_mixed 163 = .ok (.iinc 9 1, 3) := by decide +kernel
theorem dX12_mixed_166 : decode cX12_mixed 166 = .ok (.goto (-117), 3) := by decide +kernel
theorem dX12_mixed_169 : decode cX12_mixed 169 = .ok (.iload_n 3, 1) := by decide +kernel
theorem dX12_mixed_170 : decode cX12_mixed 170 = .ok (.bipush (-2), 2) := by decide +kernel
theorem dX12_mixed_172 : decode cX12_mixed 172 = .ok (.if_icmp .ne 8, 3) := by decide +kernel
theorem dX12_mixed_175 : decode cX12_mixed 175 = .ok (.iload 6, 2) := by decide +kernel
theorem dX12_mixed_177 : decode cX12_mixed 177 = .ok (.goto 15, 3) := by decide +kernel
theorem dX12_mixed_180 : decode cX12_mixed 180 = .ok (.iload_n 3, 1) := by decide +kernel
theorem dX12_mixed_181 : decode cX12_mixed 181 = .ok (.iconst (-1), 1) := by decide +kernel
theorem dX12_mixed_182 : decode cX12_mixed 182 = .ok (.if_icmp .ne 8, 3) := by decide +kernel
theorem dX12_mixed_185 : decode cX12_mixed 185 = .ok (.iload 7, 2) := by decide +kernel
theorem dX12_mixed_187 : decode cX12_mixed 187 = .ok (.goto 5, 3) := by decide +kernel
theorem dX12_mixed_190 : decode cX12_mixed 190 = .ok (.iload 8, 2) := by decide +kernel
theorem dX12_mixed_192 : decode cX12_mixed 192 = .ok (.ireturn, 1) := by decide +kernel
theorem fl_X12_61 : Cond.fieldLink RX12 61 (TX12 32).1 (TX12 32).2.1 (TX12 32).2.2.1 ∈ wsL_law := (uw8 _ (List.mem_of_getElem? (i := 15) rfl))
theorem fl_X12_64 : Cond.fieldLink RX12 64 (TX12 33).1 (TX12 33).2.1 (TX12 33).2.2.1 ∈ wsL_law := (uw8 _ (List.mem_of_getElem? (i := 16) rfl))
theorem hy_X12_asksBlocks : Cond.code yX12_asksBlocks cX12_asksBlocks 5 none ∈ wsL_law ∧ Cond.initialized yX12_asksBlocks.cls ∈ wsL_law ∧ Cond.instanceMethod yX12_asksBlocks ∈ wsL_law ∧ Cond.selects yX12_asksBlocks.cls yX12_asksBlocks yX12_asksBlocks ∈ wsL_law := ⟨(uw46 _ (List.mem_of_getElem? (i := 3) rfl)), (uw1 _ (List.mem_of_getElem? (i := 5) rfl)), (uw46 _ (List.mem_of_getElem? (i := 1) rfl)), (uw46 _ (List.mem_of_getElem? (i := 2) rfl))⟩
theorem hd_X12_asksBlocks : yX12_asksBlocks.cls ≠ "java/lang/invoke/MethodHandle" ∧ yX12_asksBlocks.cls ≠ "java/lang/invoke/VarHandle" ∧ (parseMethodDescriptor yX12_asksBlocks.desc).map (fun d => d.parameters.length) = some 0 := ⟨by decide +kernel, by decide +kernel, by decide +kernel⟩
theorem hy_X12_bitsOf : Cond.code yX12_bitsOf cX12_bitsOf 3 (some .int) ∈ wsL_law ∧ Cond.initialized yX12_bitsOf.cls ∈ wsL_law ∧ Cond.static yX12_bitsOf ∈ wsL_law := ⟨(uw43 _ (List.mem_of_getElem? (i := 23) rfl)), (uw1 _ (List.mem_of_getElem? (i := 5) rfl)), (uw43 _ (List.mem_of_getElem? (i := 22) rfl))⟩
theorem hd_X12_bitsOf : yX12_bitsOf.cls ≠ "java/lang/invoke/MethodHandle" ∧ yX12_bitsOf.cls ≠ "java/lang/invoke/VarHandle" ∧ (parseMethodDescriptor yX12_bitsOf.desc).map (fun d => d.parameters.length) = some 1 := ⟨by decide +kernel, by decide +kernel, by decide +kernel⟩
theorem hy_X12_countsOrders : Cond.code yX12_countsOrders cX12_countsOrders 4 none ∈ wsL_law ∧ Cond.initialized yX12_countsOrders.cls ∈ wsL_law ∧ Cond.instanceMethod yX12_countsOrders ∈ wsL_law ∧ Cond.selects yX12_countsOrders.cls yX12_countsOrders yX12_countsOrders ∈ wsL_law := ⟨(uw46 _ (List.mem_of_getElem? (i := 15) rfl)), (uw1 _ (List.mem_of_getElem? (i := 5) rfl)), (uw46 _ (List.mem_of_getElem? (i := 13) rfl)), (uw46 _ (List.mem_of_getElem? (i := 14) rfl))⟩
theorem hd_X12_countsOrders : yX12_countsOrders.cls ≠ "java/lang/invoke/MethodHandle" ∧ yX12_countsOrders.cls ≠ "java/lang/invoke/VarHandle" ∧ (parseMethodDescriptor yX12_countsOrders.desc).map (fun d => d.parameters.length) = some 1 := ⟨by decide +kernel, by decide +kernel, by decide +kernel⟩
theorem hy_X12_lineSet : Cond.code yX12_lineSet cX12_lineSet 3 (some .int) ∈ wsL_law ∧ Cond.initialized yX12_lineSet.cls ∈ wsL_law ∧ Cond.instanceMethod yX12_lineSet ∈ wsL_law ∧ Cond.selects yX12_lineSet.cls yX12_lineSet yX12_lineSet ∈ wsL_law := ⟨(uw46 _ (List.mem_of_getElem? (i := 7) rfl)), (uw1 _ (List.mem_of_getElem? (i := 5) rfl)), (uw46 _ (List.mem_of_getElem? (i := 5) rfl)), (uw46 _ (List.mem_of_getElem? (i := 6) rfl))⟩
theorem hd_X12_lineSet : yX12_lineSet.cls ≠ "java/lang/invoke/MethodHandle" ∧ yX12_lineSet.cls ≠ "java/lang/invoke/VarHandle" ∧ (parseMethodDescriptor yX12_lineSet.desc).map (fun d => d.parameters.length) = some 0 := ⟨by decide +kernel, by decide +kernel, by decide +kernel⟩
theorem hy_X12_mayBe : Cond.code yX12_mayBe cX12_mayBe 3 (some .boolean) ∈ wsL_law ∧ Cond.initialized yX12_mayBe.cls ∈ wsL_law ∧ Cond.instanceMethod yX12_mayBe ∈ wsL_law ∧ Cond.selects yX12_mayBe.cls yX12_mayBe yX12_mayBe ∈ wsL_law := ⟨(uw46 _ (List.mem_of_getElem? (i := 11) rfl)), (uw1 _ (List.mem_of_getElem? (i := 5) rfl)), (uw46 _ (List.mem_of_getElem? (i := 9) rfl)), (uw46 _ (List.mem_of_getElem? (i := 10) rfl))⟩
theorem hd_X12_mayBe : yX12_mayBe.cls ≠ "java/lang/invoke/MethodHandle" ∧ yX12_mayBe.cls ≠ "java/lang/invoke/VarHandle" ∧ (parseMethodDescriptor yX12_mayBe.desc).map (fun d => d.parameters.length) = some 2 := ⟨by decide +kernel, by decide +kernel, by decide +kernel⟩
theorem ml_X12_303 : Cond.methodLink RX12 303 yX12_bitsOf ∈ wsL_law := (uw43 _ (List.mem_of_getElem? (i := 21) rfl))
theorem ml_X12_306 : Cond.methodLink RX12 306 yX12_mayBe ∈ wsL_law := (uw46 _ (List.mem_of_getElem? (i := 8) rfl))
theorem ml_X12_311 : Cond.methodLink RX12 311 yX12_asksBlocks ∈ wsL_law := (uw46 _ (List.mem_of_getElem? (i := 0) rfl))
theorem ml_X12_314 : Cond.methodLink RX12 314 yX12_lineSet ∈ wsL_law := (uw46 _ (List.mem_of_getElem? (i := 4) rfl))
theorem ml_X12_317 : Cond.methodLink RX12 317 yX12_countsOrders ∈ wsL_law := (uw46 _ (List.mem_of_getElem? (i := 12) rfl))
abbrev w_M_where (G : zG) (a_this : Nat) (a_height : Nat) (a_changeAt : Nat) (a_changeWas : Nat) (a_changeIs : Nat) (a_tape : Nat) (a_text : Nat) (a_names : Nat) (a_line : Nat) (a_row : Nat) (a_pastMany : Nat) (a_past : Nat) (a_changed : Nat) (a_greatest : Nat) (a_numbersWere : Nat) (a_told : Nat) (a_waysOf : Nat) (a_waysWere : Nat) (a_blocks : Nat) (a_ordersOf : Nat) (a_imageLine : Nat) (a_bodyKind : Nat) (a_trace : Nat) (a_shelf : Nat) (a_many : Nat) (a_items : Nat) (a_carried : Nat) (people : Int32) (keptMany : Int32) (done : Int32) (tapeMany : Int32) (textMany : Int32) (base : Int32) (at_ : Int32) (ends : Int32) (fault : Int32) (opened : Int32) (lineMany : Int32) (rowMany : Int32) (taller : Int32) (tallerBy : Int32) (pasts : Int32) (isKept : Int32) (imageMany : Int32) (bodies : Int32) (ran : Int32) (ownKind : Int32) (ownNumber : Int32) (height : Nat → Int32) (tape : Nat → Int32) (text : Nat → Int32) (names : Nat → Int32) (line : Nat → Int32) (row : Nat → Int32) : va_W := [(a_this, cO 12 [.int people, .ref a_height, .ref a_changeAt, .ref a_changeWas, .ref a_changeIs, .int keptMany, .int done, .ref a_tape, .int tapeMany, .ref a_text, .int textMany, .int base, .int at_, .int ends, .int fault, .int opened, .ref a_names, .ref a_line, .int lineMany, .ref a_row, .int rowMany, .int taller, .int tallerBy, .ref a_pastMany, .ref a_past, .int pasts, .ref a_changed, .ref a_greatest, .ref a_numbersWere, .ref a_told, .ref a_waysOf, .ref a_waysWere, .ref a_blocks, .ref a_ordersOf, .int isKept, .int imageMany, .ref a_imageLine, .int bodies, .ref a_bodyKind, .ref a_trace, .int ran, .int ownKind, .int ownNumber, .ref a_shelf, .ref a_many, .ref a_items, .ref a_carried]), (a_height, cI G 9 height), (a_tape, cI G 120 tape), (a_text, cI G 120 text), (a_names, cI G 5 names), (a_line, cI G 9 line), (a_row, cI G 9 row)]
def f_M_where_L41 (textMany : Int32) (lineMany : Int32) (tallerBy : Int32) (height : Nat → Int32) (tape : Nat → Int32) (text : Nat → Int32) (line : Nat → Int32) (v1 : Int32) (v2 : Int32) : Nat → Int32 → Int32 → Int32 → Int32 → Int32 → Int32 → Int32 → (Nat → Int32) → (Nat → Int32) → Int32 → Int32 → Int32 → Option (Int32 × Int32 × Int32 × Int32 × Int32 × Int32 × Int32 × (Nat → Int32) × (Nat → Int32) × Int32 × Int32)
  | 0, _, _, _, _, _, _, _, _, _, _, _, _ => none
  | fuel + 1, base, at_, ends, fault, opened, rowMany, taller, names, row, v3, v4, v5 => (if lineMany < v5 then (some (base, at_, ends, fault, opened, rowMany, taller, names, row, v3, v4)) else (zb3 (f_M_laysOut lineMany rowMany taller line row) fun rowMany_5 taller_6 row_7 => (zb2 (f_M_putsIn rowMany_5 row_7 v1 v5) fun rowMany_9 row_10 => (if (v2 - v2 / 2 * 2) = 0 then (zb7 (f_M_disquietOf textMany base at_ ends fault opened rowMany_9 taller_6 tallerBy height tape text names row_10) fun r_20 base_21 at__22 ends_23 fault_24 opened_25 names_26 => (if v3 < 0 then (f_M_where_L41 textMany lineMany tallerBy height tape text line v1 v2 fuel base_21 at__22 ends_23 fault_24 opened_25 rowMany_9 taller_6 names_26 row_10 v5 r_20 (v5 + 1)) else (if v4 ≤ r_20 then (f_M_where_L41 textMany lineMany tallerBy height tape text line v1 v2 fuel base_21 at__22 ends_23 fault_24 opened_25 rowMany_9 taller_6 names_26 row_10 v3 v4 (v5 + 1)) else (f_M_where_L41 textMany lineMany tallerBy height tape text line v1 v2 fuel base_21 at__22 ends_23 fault_24 opened_25 rowMany_9 taller_6 names_26 row_10 v5 r_20 (v5 + 1))))) else (zb7 (f_M_numberAt textMany base at_ ends fault opened taller_6 tallerBy height tape text names row_10 v5) fun r_12 base_13 at__14 ends_15 fault_16 opened_17 names_18 => (if v3 < 0 then (f_M_where_L41 textMany lineMany tallerBy height tape text line v1 v2 fuel base_13 at__14 ends_15 fault_16 opened_17 rowMany_9 taller_6 names_18 row_10 v5 r_12 (v5 + 1)) else (if v4 ≤ r_12 then (f_M_where_L41 textMany lineMany tallerBy height tape text line v1 v2 fuel base_13 at__14 ends_15 fault_16 opened_17 rowMany_9 taller_6 names_18 row_10 v3 v4 (v5 + 1)) else (f_M_where_L41 textMany lineMany tallerBy height tape text line v1 v2 fuel base_13 at__14 ends_15 fault_16 opened_17 rowMany_9 taller_6 names_18 row_10 v5 r_12 (v5 + 1)))))))))
def f_M_where (people : Int32) (textMany : Int32) (base : Int32) (at_ : Int32) (ends : Int32) (fault : Int32) (opened : Int32) (lineMany : Int32) (rowMany : Int32) (taller : Int32) (tallerBy : Int32) (height : Nat → Int32) (tape : Nat → Int32) (text : Nat → Int32) (names : Nat → Int32) (line : Nat → Int32) (row : Nat → Int32) (x1 : Int32) (x2 : Int32) : Option (Int32 × Int32 × Int32 × Int32 × Int32 × Int32 × Int32 × Int32 × (Nat → Int32) × (Nat → Int32)) := (if (f_M_isPerson people x1) = 0 then (some ((-1), base, at_, ends, fault, opened, rowMany, taller, names, row)) else (if (f_M_within (Int32.toInt64 x2) 0 3) = 0 then (some ((-1), base, at_, ends, fault, opened, rowMany, taller, names, row)) else (zb1 (f_M_placeOf lineMany line x1) fun r_3 => (if r_3 < 0 then (zb11 (f_M_where_L41 textMany lineMany tallerBy height tape text line x1 x2 FU base at_ ends fault opened rowMany taller names row (-1) 0 0) fun base_28 at__29 ends_30 fault_31 opened_32 rowMany_33 taller_34 names_35 row_36 v3_37 v4_38 => (if (2 : Int32) ≤ x2 then (some (v4_38, base_28, at__29, ends_30, fault_31, opened_32, rowMany_33, taller_34, names_35, row_36)) else (some (v3_37, base_28, at__29, ends_30, fault_31, opened_32, rowMany_33, taller_34, names_35, row_36)))) else (some ((-5), base, at_, ends, fault, opened, rowMany, taller, names, row))))))
set_option maxRecDepth 100000 in
set_option maxHeartbeats 4000000 in
theorem l_M_where_41 {X : zX} (G : zG) (a_this : Nat) (a_height : Nat) (a_changeAt : Nat) (a_changeWas : Nat) (a_changeIs : Nat) (a_tape : Nat) (a_text : Nat) (a_names : Nat) (a_line : Nat) (a_row : Nat) (a_pastMany : Nat) (a_past : Nat) (a_changed : Nat) (a_greatest : Nat) (a_numbersWere : Nat) (a_told : Nat) (a_waysOf : Nat) (a_waysWere : Nat) (a_blocks : Nat) (a_ordersOf : Nat) (a_imageLine : Nat) (a_bodyKind : Nat) (a_trace : Nat) (a_shelf : Nat) (a_many : Nat) (a_items : Nat) (a_carried : Nat) (people : Int32) (keptMany : Int32) (done : Int32) (tapeMany : Int32) (textMany : Int32) (lineMany : Int32) (tallerBy : Int32) (pasts : Int32) (isKept : Int32) (imageMany : Int32) (bodies : Int32) (ran : Int32) (ownKind : Int32) (ownNumber : Int32) (height : Nat → Int32) (tape : Nat → Int32) (text : Nat → Int32) (line : Nat → Int32) (v1 : Int32) (v2 : Int32) {v0 : Option Value} {w0 : va_W} (F : zF X G cX12_where RX12 7 (some .int) 153 3555 v0 w0) (e_base : Int32) (e_at_ : Int32) (e_ends : Int32) (e_fault : Int32) (e_opened : Int32) (e_rowMany : Int32) (e_taller : Int32) (e_names : Nat → Int32) (e_row : Nat → Int32) (e_v3 : Int32) (e_v4 : Int32) (hk : Z X G 7 (w_M_where G a_this a_height a_changeAt a_changeWas a_changeIs a_tape a_text a_names a_line a_row a_pastMany a_past a_changed a_greatest a_numbersWere a_told a_waysOf a_waysWere a_blocks a_ordersOf a_imageLine a_bodyKind a_trace a_shelf a_many a_items a_carried people keptMany done tapeMany textMany e_base e_at_ e_ends e_fault e_opened lineMany e_rowMany e_taller tallerBy pasts isKept imageMany bodies ran ownKind ownNumber height tape text e_names line e_row) [(2, .int v2), (3, .int e_v3), (4, .int e_v4)] 106 []) :
    ∀ (fuel : Nat) (base : Int32) (at_ : Int32) (ends : Int32) (fault : Int32) (opened : Int32) (rowMany : Int32) (taller : Int32) (names : Nat → Int32) (row : Nat → Int32) (v3 : Int32) (v4 : Int32) (v5 : Int32), f_M_where_L41 textMany lineMany tallerBy height tape text line v1 v2 fuel base at_ ends fault opened rowMany taller names row v3 v4 v5 = some (e_base, e_at_, e_ends, e_fault, e_opened, e_rowMany, e_taller, e_names, e_row, e_v3, e_v4) → Z X G 7 (w_M_where G a_this a_height a_changeAt a_changeWas a_changeIs a_tape a_text a_names a_line a_row a_pastMany a_past a_changed a_greatest a_numbersWere a_told a_waysOf a_waysWere a_blocks a_ordersOf a_imageLine a_bodyKind a_trace a_shelf a_many a_items a_carried people keptMany done tapeMany textMany base at_ ends fault opened lineMany rowMany taller tallerBy pasts isKept imageMany bodies ran ownKind ownNumber height tape text names line row) [(0, .ref a_this), (1, .int v1), (2, .int v2), (3, .int v3), (4, .int v4), (5, .int v5)] 41 [] := by
  intro fuel
  induction fuel with
  | zero => intro base at_ ends fault opened rowMany taller names row v3 v4 v5 hf; exact absurd ((f_M_where_L41.eq_1 ..).symm.trans hf) (fun h => by cases h)
  | succ fuel ih =>
    intro base at_ ends fault opened rowMany taller names row v3 v4 v5 hf
    replace hf := (f_M_where_L41.eq_2 ..).symm.trans hf
    refine z_iload F 5 dX12_where_41 rfl ?_
    refine z_aload_n F 0 dX12_where_43 rfl rfl ?_
    refine z_get F 0 12 18 inlX12 rfl rfl (by decide) fl_X12_100 rfl dX12_where_44 ?_
    refine z_icmp_gt F 106 dX12_where_47 (by decide) hf (fun hf _ => ?_) (fun hf _ => ?_)
    · have eq1 := Option.some.inj hf
      obtain ⟨ee1, eq2⟩ := Prod.mk.inj eq1
      obtain ⟨ee2, eq3⟩ := Prod.mk.inj eq2
      obtain ⟨ee3, eq4⟩ := Prod.mk.inj eq3
      obtain ⟨ee4, eq5⟩ := Prod.mk.inj eq4
      obtain ⟨ee5, eq6⟩ := Prod.mk.inj eq5
      obtain ⟨ee6, eq7⟩ := Prod.mk.inj eq6
      obtain ⟨ee7, eq8⟩ := Prod.mk.inj eq7
      obtain ⟨ee8, eq9⟩ := Prod.mk.inj eq8
      obtain ⟨ee9, eq10⟩ := Prod.mk.inj eq9
      obtain ⟨ee10, ee11⟩ := Prod.mk.inj eq10
      subst ee1
      subst ee2
      subst ee3
      subst ee4
      subst ee5
      subst ee6
      subst ee7
      subst ee8
      subst ee9
      subst ee10
      subst ee11
      exact z_sub [2, 3, 4] rfl hk
    · refine z_aload_n F 0 dX12_where_50 rfl rfl ?_
      obtain ⟨rowMany_5, taller_6, row_7, hg, hf⟩ := zb3_some hf
      refine z_callVm (rest := []) F 12 (c_M_laysOut (xL X) G a_this a_height a_changeAt a_changeWas a_changeIs a_tape a_text a_names a_line a_row a_pastMany a_past a_changed a_greatest a_numbersWere a_told a_waysOf a_waysWere a_blocks a_ordersOf a_imageLine a_bodyKind a_trace a_shelf a_many a_items a_carried people keptMany done tapeMany textMany base at_ ends fault opened lineMany rowMany taller tallerBy pasts isKept imageMany bodies ran ownKind ownNumber line row rowMany_5 taller_6 row_7 hg) hy_X12_laysOut ml_X12_203 hd_X12_laysOut ⟨by omega, by omega⟩ rfl [0, 5, 6] rfl rfl 0 rfl rfl (w_M_where G a_this a_height a_changeAt a_changeWas a_changeIs a_tape a_text a_names a_line a_row a_pastMany a_past a_changed a_greatest a_numbersWere a_told a_waysOf a_waysWere a_blocks a_ordersOf a_imageLine a_bodyKind a_trace a_shelf a_many a_items a_carried people keptMany done tapeMany textMany base at_ ends fault opened lineMany rowMany_5 taller_6 tallerBy pasts isKept imageMany bodies ran ownKind ownNumber height tape text names line row_7) [some 0, none, none, none, none, some 1, some 2] rfl (by decide +kernel) rfl rfl (Nat.le_of_ble_eq_true rfl) dX12_where_51 (fun hz_8 => ?_)
      refine z_aload_n F 0 dX12_where_54 rfl rfl ?_
      refine z_iload_n F 1 dX12_where_55 rfl rfl ?_
      refine z_iload F 5 dX12_where_56 rfl ?_
      obtain ⟨rowMany_9, row_10, hg, hf⟩ := zb2_some hf
      refine z_callVm (rest := []) F 12 (c_M_putsIn (xL X) G a_this a_height a_changeAt a_changeWas a_changeIs a_tape a_text a_names a_line a_row a_pastMany a_past a_changed a_greatest a_numbersWere a_told a_waysOf a_waysWere a_blocks a_ordersOf a_imageLine a_bodyKind a_trace a_shelf a_many a_items a_carried people keptMany done tapeMany textMany base at_ ends fault opened lineMany rowMany_5 taller_6 tallerBy pasts isKept imageMany bodies ran ownKind ownNumber row_7 v1 v5 rowMany_9 row_10 hg) hy_X12_putsIn ml_X12_255 hd_X12_putsIn ⟨by omega, by omega⟩ rfl [0, 6] rfl rfl 0 rfl rfl (w_M_where G a_this a_height a_changeAt a_changeWas a_changeIs a_tape a_text a_names a_line a_row a_pastMany a_past a_changed a_greatest a_numbersWere a_told a_waysOf a_waysWere a_blocks a_ordersOf a_imageLine a_bodyKind a_trace a_shelf a_many a_items a_carried people keptMany done tapeMany textMany base at_ ends fault opened lineMany rowMany_9 taller_6 tallerBy pasts isKept imageMany bodies ran ownKind ownNumber height tape text names line row_10) [some 0, none, none, none, none, none, some 1] rfl (by decide +kernel) rfl rfl (Nat.le_of_ble_eq_true rfl) dX12_where_58 (fun hz_11 => ?_)
      refine z_iload_n F 2 dX12_where_61 rfl rfl ?_
      refine z_iconst F (2) dX12_where_62 rfl ?_
      refine z_irem F (by decide) dX12_where_63 ?_
      refine z_if_ne F 74 dX12_where_64 (by decide) hf (fun hf _ => ?_) (fun hf _ => ?_)
      · refine z_aload_n F 0 dX12_where_74 rfl rfl ?_
        refine z_iload F 5 dX12_where_75 rfl ?_
        obtain ⟨r_12, base_13, at__14, ends_15, fault_16, opened_17, names_18, hg, hf⟩ := zb7_some hf
        refine z_callVm (rest := []) F 12 (c_M_numberAt (xL X) G a_this a_height a_changeAt a_changeWas a_changeIs a_tape a_text a_names a_line a_row a_pastMany a_past a_changed a_greatest a_numbersWere a_told a_waysOf a_waysWere a_blocks a_ordersOf a_imageLine a_bodyKind a_trace a_shelf a_many a_items a_carried people keptMany done tapeMany textMany base at_ ends fault opened lineMany rowMany_9 taller_6 tallerBy pasts isKept imageMany bodies ran ownKind ownNumber height tape text names row_10 v5 r_12 base_13 at__14 ends_15 fault_16 opened_17 names_18 hg) hy_X12_numberAt ml_X12_200 hd_X12_numberAt ⟨by omega, by omega⟩ rfl [0, 1, 2, 3, 4, 6] rfl rfl 0 rfl rfl (w_M_where G a_this a_height a_changeAt a_changeWas a_changeIs a_tape a_text a_names a_line a_row a_pastMany a_past a_changed a_greatest a_numbersWere a_told a_waysOf a_waysWere a_blocks a_ordersOf a_imageLine a_bodyKind a_trace a_shelf a_many a_items a_carried people keptMany done tapeMany textMany base_13 at__14 ends_15 fault_16 opened_17 lineMany rowMany_9 taller_6 tallerBy pasts isKept imageMany bodies ran ownKind ownNumber height tape text names_18 line row_10) [some 0, some 1, some 2, some 3, some 4, none, some 5] rfl (by decide +kernel) rfl rfl (Nat.le_of_ble_eq_true rfl) dX12_where_77 (fun hz_19 => ?_)
        refine z_istore F [(6, .int r_12), (0, .ref a_this), (1, .int v1), (2, .int v2), (3, .int v3), (4, .int v4), (5, .int v5)] dX12_where_80 (by decide) rfl ?_
        refine z_iload_n F 4 dX12_where_82 rfl rfl ?_
        refine z_if_lt F 93 dX12_where_83 (by decide) hf (fun hf _ => ?_) (fun hf _ => ?_)
        · refine z_iload F 6 dX12_where_93 rfl ?_
          refine z_istore_n F [(3, .int v5), (6, .int r_12), (0, .ref a_this), (1, .int v1), (2, .int v2), (4, .int v4), (5, .int v5)] dX12_where_95 rfl (by decide) rfl ?_
          refine z_iload F 1 dX12_where_96 rfl ?_
          refine z_istore F [(4, .int r_12), (3, .int v5), (6, .int r_12), (0, .ref a_this), (1, .int v1), (2, .int v2), (5, .int v5)] dX12_where_98 (by decide) rfl ?_
          refine z_iinc F [(5, .int (v5 + 1)), (4, .int r_12), (3, .int v5), (6, .int r_12), (0, .ref a_this), (1, .int v1), (2, .int v2)] dX12_where_100 6 rfl rfl (by decide) rfl ?_
          refine z_goto F 41 dX12_where_103 (by decide) ?_
          exact z_sub [4, 5, 6, 2, 1, 0] rfl (ih base_13 at__14 ends_15 fault_16 opened_17 rowMany_9 taller_6 names_18 row_10 v5 r_12 (v5 + 1) hf)
        · refine z_iload F 0 dX12_where_86 rfl ?_
          refine z_iload F 5 dX12_where_88 rfl ?_
          refine z_icmp_ge F 100 dX12_where_90 (by decide) hf (fun hf _ => ?_) (fun hf _ => ?_)
          · refine z_iinc F [(5, .int (v5 + 1)), (6, .int r_12), (0, .ref a_this), (1, .int v1), (2, .int v2), (3, .int v3), (4, .int v4)] dX12_where_100 6 rfl rfl (by decide) rfl ?_
            refine z_goto F 41 dX12_where_103 (by decide) ?_
            exact z_sub [2, 3, 4, 5, 6, 0] rfl (ih base_13 at__14 ends_15 fault_16 opened_17 rowMany_9 taller_6 names_18 row_10 v3 v4 (v5 + 1) hf)
          · refine z_iload F 6 dX12_where_93 rfl ?_
            refine z_istore_n F [(3, .int v5), (6, .int r_12), (0, .ref a_this), (1, .int v1), (2, .int v2), (4, .int v4), (5, .int v5)] dX12_where_95 rfl (by decide) rfl ?_
            refine z_iload F 1 dX12_where_96 rfl ?_
            refine z_istore F [(4, .int r_12), (3, .int v5), (6, .int r_12), (0, .ref a_this), (1, .int v1), (2, .int v2), (5, .int v5)] dX12_where_98 (by decide) rfl ?_
            refine z_iinc F [(5, .int (v5 + 1)), (4, .int r_12), (3, .int v5), (6, .int r_12), (0, .ref a_this), (1, .int v1), (2, .int v2)] dX12_where_100 6 rfl rfl (by decide) rfl ?_
            refine z_goto F 41 dX12_where_103 (by decide) ?_
            exact z_sub [4, 5, 6, 2, 1, 0] rfl (ih base_13 at__14 ends_15 fault_16 opened_17 rowMany_9 taller_6 names_18 row_10 v5 r_12 (v5 + 1) hf)
      · refine z_aload_n F 0 dX12_where_67 rfl rfl ?_
        obtain ⟨r_20, base_21, at__22, ends_23, fault_24, opened_25, names_26, hg, hf⟩ := zb7_some hf
        refine z_callVm (rest := []) F 12 (c_M_disquietOf (xL X) G a_this a_height a_changeAt a_changeWas a_changeIs a_tape a_text a_names a_line a_row a_pastMany a_past a_changed a_greatest a_numbersWere a_told a_waysOf a_waysWere a_blocks a_ordersOf a_imageLine a_bodyKind a_trace a_shelf a_many a_items a_carried people keptMany done tapeMany textMany base at_ ends fault opened lineMany rowMany_9 taller_6 tallerBy pasts isKept imageMany bodies ran ownKind ownNumber height tape text names row_10 r_20 base_21 at__22 ends_23 fault_24 opened_25 names_26 hg) hy_X12_disquietOf ml_X12_206 hd_X12_disquietOf ⟨by omega, by omega⟩ rfl [0, 1, 2, 3, 4, 6] rfl rfl 0 rfl rfl (w_M_where G a_this a_height a_changeAt a_changeWas a_changeIs a_tape a_text a_names a_line a_row a_pastMany a_past a_changed a_greatest a_numbersWere a_told a_waysOf a_waysWere a_blocks a_ordersOf a_imageLine a_bodyKind a_trace a_shelf a_many a_items a_carried people keptMany done tapeMany textMany base_21 at__22 ends_23 fault_24 opened_25 lineMany rowMany_9 taller_6 tallerBy pasts isKept imageMany bodies ran ownKind ownNumber height tape text names_26 line row_10) [some 0, some 1, some 2, some 3, some 4, none, some 5] rfl (by decide +kernel) rfl rfl (Nat.le_of_ble_eq_true rfl) dX12_where_68 (fun hz_27 => ?_)
        refine z_goto F 80 dX12_where_71 (by decide) ?_
        refine z_istore F [(6, .int r_20), (0, .ref a_this), (1, .int v1), (2, .int v2), (3, .int v3), (4, .int v4), (5, .int v5)] dX12_where_80 (by decide) rfl ?_
        refine z_iload_n F 4 dX12_where_82 rfl rfl ?_
        refine z_if_lt F 93 dX12_where_83 (by decide) hf (fun hf _ => ?_) (fun hf _ => ?_)
        · refine z_iload F 6 dX12_where_93 rfl ?_
          refine z_istore_n F [(3, .int v5), (6, .int r_20), (0, .ref a_this), (1, .int v1), (2, .int v2), (4, .int v4), (5, .int v5)] dX12_where_95 rfl (by decide) rfl ?_
          refine z_iload F 1 dX12_where_96 rfl ?_
          refine z_istore F [(4, .int r_20), (3, .int v5), (6, .int r_20), (0, .ref a_this), (1, .int v1), (2, .int v2), (5, .int v5)] dX12_where_98 (by decide) rfl ?_
          refine z_iinc F [(5, .int (v5 + 1)), (4, .int r_20), (3, .int v5), (6, .int r_20), (0, .ref a_this), (1, .int v1), (2, .int v2)] dX12_where_100 6 rfl rfl (by decide) rfl ?_
          refine z_goto F 41 dX12_where_103 (by decide) ?_
          exact z_sub [4, 5, 6, 2, 1, 0] rfl (ih base_21 at__22 ends_23 fault_24 opened_25 rowMany_9 taller_6 names_26 row_10 v5 r_20 (v5 + 1) hf)
        · refine z_iload F 0 dX12_where_86 rfl ?_
          refine z_iload F 5 dX12_where_88 rfl ?_
          refine z_icmp_ge F 100 dX12_where_90 (by decide) hf (fun hf _ => ?_) (fun hf _ => ?_)
          · refine z_iinc F [(5, .int (v5 + 1)), (6, .int r_20), (0, .ref a_this), (1, .int v1), (2, .int v2), (3, .int v3), (4, .int v4)] dX12_where_100 6 rfl rfl (by decide) rfl ?_
            refine z_goto F 41 dX12_where_103 (by decide) ?_
            exact z_sub [2, 3, 4, 5, 6, 0] rfl (ih base_21 at__22 ends_23 fault_24 opened_25 rowMany_9 taller_6 names_26 row_10 v3 v4 (v5 + 1) hf)
          · refine z_iload F 6 dX12_where_93 rfl ?_
            refine z_istore_n F [(3, .int v5), (6, .int r_20), (0, .ref a_this), (1, .int v1), (2, .int v2), (4, .int v4), (5, .int v5)] dX12_where_95 rfl (by decide) rfl ?_
            refine z_iload F 1 dX12_where_96 rfl ?_
            refine z_istore F [(4, .int r_20), (3, .int v5), (6, .int r_20), (0, .ref a_this), (1, .int v1), (2, .int v2), (5, .int v5)] dX12_where_98 (by decide) rfl ?_
            refine z_iinc F [(5, .int (v5 + 1)), (4, .int r_20), (3, .int v5), (6, .int r_20), (0, .ref a_this), (1, .int v1), (2, .int v2)] dX12_where_100 6 rfl rfl (by decide) rfl ?_
            refine z_goto F 41 dX12_where_103 (by decide) ?_
            exact z_sub [4, 5, 6, 2, 1, 0] rfl (ih base_21 at__22 ends_23 fault_24 opened_25 rowMany_9 taller_6 names_26 row_10 v5 r_20 (v5 + 1) hf)

set_option maxRecDepth 100000 in
set_option maxHeartbeats 4000000 in
theorem c_M_where (l : Launch) (G : zG) (a_this : Nat) (a_height : Nat) (a_changeAt : Nat) (a_changeWas : Nat) (a_changeIs : Nat) (a_tape : Nat) (a_text : Nat) (a_names : Nat) (a_line : Nat) (a_row : Nat) (a_pastMany : Nat) (a_past : Nat) (a_changed : Nat) (a_greatest : Nat) (a_numbersWere : Nat) (a_told : Nat) (a_waysOf : Nat) (a_waysWere : Nat) (a_blocks : Nat) (a_ordersOf : Nat) (a_imageLine : Nat) (a_bodyKind : Nat) (a_trace : Nat) (a_shelf : Nat) (a_many : Nat) (a_items : Nat) (a_carried : Nat) (people : Int32) (keptMany : Int32) (done : Int32) (tapeMany : Int32) (textMany : Int32) (base : Int32) (at_ : Int32) (ends : Int32) (fault : Int32) (opened : Int32) (lineMany : Int32) (rowMany : Int32) (taller : Int32) (tallerBy : Int32) (pasts : Int32) (isKept : Int32) (imageMany : Int32) (bodies : Int32) (ran : Int32) (ownKind : Int32) (ownNumber : Int32) (height : Nat → Int32) (tape : Nat → Int32) (text : Nat → Int32) (names : Nat → Int32) (line : Nat → Int32) (row : Nat → Int32) (x1 : Int32) (x2 : Int32) (r_ : Int32) (o_base : Int32) (o_at_ : Int32) (o_ends : Int32) (o_fault : Int32) (o_opened : Int32) (o_rowMany : Int32) (o_taller : Int32) (o_names : Nat → Int32) (o_row : Nat → Int32) (hf : f_M_where people textMany base at_ ends fault opened lineMany rowMany taller tallerBy height tape text names line row x1 x2 = some (r_, o_base, o_at_, o_ends, o_fault, o_opened, o_rowMany, o_taller, o_names, o_row)) : zM l yX12_where cX12_where 7 (some .int) 153 3555 G [.ref a_this, .int x1, .int x2] (w_M_where G a_this a_height a_changeAt a_changeWas a_changeIs a_tape a_text a_names a_line a_row a_pastMany a_past a_changed a_greatest a_numbersWere a_told a_waysOf a_waysWere a_blocks a_ordersOf a_imageLine a_bodyKind a_trace a_shelf a_many a_items a_carried people keptMany done tapeMany textMany base at_ ends fault opened lineMany rowMany taller tallerBy pasts isKept imageMany bodies ran ownKind ownNumber height tape text names line row) (some (.int r_)) (w_M_where G a_this a_height a_changeAt a_changeWas a_changeIs a_tape a_text a_names a_line a_row a_pastMany a_past a_changed a_greatest a_numbersWere a_told a_waysOf a_waysWere a_blocks a_ordersOf a_imageLine a_bodyKind a_trace a_shelf a_many a_items a_carried people keptMany done tapeMany textMany o_base o_at_ o_ends o_fault o_opened lineMany o_rowMany o_taller tallerBy pasts isKept imageMany bodies ran ownKind ownNumber height tape text o_names line o_row) := by
  refine zM.of [(0, .ref a_this), (1, .int x1), (2, .int x2)] (own := RX12) rfl (by decide +kernel) (Nat.le_of_ble_eq_true rfl) rfl rfl fun X hX F => ?_
  subst hX
  replace hf := (f_M_where.eq_1 ..).symm.trans hf
  refine z_aload_n F 0 dX12_where_0 rfl rfl ?_
  refine z_iload_n F 1 dX12_where_1 rfl rfl ?_
  refine z_callVm (rest := []) F 12 (c_M_isPerson (xL X) G a_this a_height a_changeAt a_changeWas a_changeIs a_tape a_text a_names a_line a_row a_pastMany a_past a_changed a_greatest a_numbersWere a_told a_waysOf a_waysWere a_blocks a_ordersOf a_imageLine a_bodyKind a_trace a_shelf a_many a_items a_carried people keptMany done tapeMany textMany base at_ ends fault opened lineMany rowMany taller tallerBy pasts isKept imageMany bodies ran ownKind ownNumber x1 _ rfl) hy_X12_isPerson ml_X12_119 hd_X12_isPerson ⟨by omega, by omega⟩ rfl [0] rfl rfl 0 rfl rfl (w_M_where G a_this a_height a_changeAt a_changeWas a_changeIs a_tape a_text a_names a_line a_row a_pastMany a_past a_changed a_greatest a_numbersWere a_told a_waysOf a_waysWere a_blocks a_ordersOf a_imageLine a_bodyKind a_trace a_shelf a_many a_items a_carried people keptMany done tapeMany textMany base at_ ends fault opened lineMany rowMany taller tallerBy pasts isKept imageMany bodies ran ownKind ownNumber height tape text names line row) [some 0, none, none, none, none, none, none] rfl (by decide +kernel) rfl rfl (Nat.le_of_ble_eq_true rfl) dX12_where_2 (fun hz_1 => ?_)
  refine z_if_eq F 20 dX12_where_5 (by decide) hf (fun hf _ => ?_) (fun hf _ => ?_)
  · refine z_iconst F (-1) dX12_where_20 rfl ?_
    have eq1 := Option.some.inj hf
    obtain ⟨ee1, eq2⟩ := Prod.mk.inj eq1
    obtain ⟨ee2, eq3⟩ := Prod.mk.inj eq2
    obtain ⟨ee3, eq4⟩ := Prod.mk.inj eq3
    obtain ⟨ee4, eq5⟩ := Prod.mk.inj eq4
    obtain ⟨ee5, eq6⟩ := Prod.mk.inj eq5
    obtain ⟨ee6, eq7⟩ := Prod.mk.inj eq6
    obtain ⟨ee7, eq8⟩ := Prod.mk.inj eq7
    obtain ⟨ee8, eq9⟩ := Prod.mk.inj eq8
    obtain ⟨ee9, ee10⟩ := Prod.mk.inj eq9
    subst ee1
    subst ee2
    subst ee3
    subst ee4
    subst ee5
    subst ee6
    subst ee7
    subst ee8
    subst ee9
    subst ee10
    exact z_iret F rfl rfl rfl rfl dX12_where_21
  · refine z_iload_n F 2 dX12_where_8 rfl rfl ?_
    refine z_i2l F dX12_where_9 ?_
    refine z_lconst F (0) dX12_where_10 rfl ?_
    refine z_ldc2 F (3) (uw42 _ (List.mem_of_getElem? (i := 8) rfl)) dX12_where_11 ?_
    refine z_callSm (rest := []) F (c_M_within (xL X) G (Int32.toInt64 x2) 0 3 _ rfl) hy_X12_within ml_X12_96 hd_X12_within ⟨by omega, by omega⟩ rfl [] rfl rfl (w_M_where G a_this a_height a_changeAt a_changeWas a_changeIs a_tape a_text a_names a_line a_row a_pastMany a_past a_changed a_greatest a_numbersWere a_told a_waysOf a_waysWere a_blocks a_ordersOf a_imageLine a_bodyKind a_trace a_shelf a_many a_items a_carried people keptMany done tapeMany textMany base at_ ends fault opened lineMany rowMany taller tallerBy pasts isKept imageMany bodies ran ownKind ownNumber height tape text names line row) [none, none, none, none, none, none, none] rfl (by decide +kernel) rfl rfl (Nat.le_of_ble_eq_true rfl) dX12_where_14 (fun hz_2 => ?_)
    refine z_if_ne F 22 dX12_where_17 (by decide) hf (fun hf _ => ?_) (fun hf _ => ?_)
    · refine z_aload_n F 0 dX12_where_22 rfl rfl ?_
      refine z_iload_n F 1 dX12_where_23 rfl rfl ?_
      obtain ⟨r_3, hg, hf⟩ := zb1_some hf
      refine z_callVm (rest := []) F 12 (c_M_placeOf (xL X) G a_this a_height a_changeAt a_changeWas a_changeIs a_tape a_text a_names a_line a_row a_pastMany a_past a_changed a_greatest a_numbersWere a_told a_waysOf a_waysWere a_blocks a_ordersOf a_imageLine a_bodyKind a_trace a_shelf a_many a_items a_carried people keptMany done tapeMany textMany base at_ ends fault opened lineMany rowMany taller tallerBy pasts isKept imageMany bodies ran ownKind ownNumber line x1 r_3 hg) hy_X12_placeOf ml_X12_224 hd_X12_placeOf ⟨by omega, by omega⟩ rfl [0, 5] rfl rfl 0 rfl rfl (w_M_where G a_this a_height a_changeAt a_changeWas a_changeIs a_tape a_text a_names a_line a_row a_pastMany a_past a_changed a_greatest a_numbersWere a_told a_waysOf a_waysWere a_blocks a_ordersOf a_imageLine a_bodyKind a_trace a_shelf a_many a_items a_carried people keptMany done tapeMany textMany base at_ ends fault opened lineMany rowMany taller tallerBy pasts isKept imageMany bodies ran ownKind ownNumber height tape text names line row) [some 0, none, none, none, none, some 1, none] rfl (by decide +kernel) rfl rfl (Nat.le_of_ble_eq_true rfl) dX12_where_24 (fun hz_4 => ?_)
      refine z_if_lt F 33 dX12_where_27 (by decide) hf (fun hf _ => ?_) (fun hf _ => ?_)
      · refine z_iconst F (-1) dX12_where_33 rfl ?_
        refine z_istore_n F [(3, .int (-1)), (0, .ref a_this), (1, .int x1), (2, .int x2)] dX12_where_34 rfl (by decide) rfl ?_
        refine z_iconst F (0) dX12_where_35 rfl ?_
        refine z_istore F [(4, .int 0), (3, .int (-1)), (0, .ref a_this), (1, .int x1), (2, .int x2)] dX12_where_36 (by decide) rfl ?_
        refine z_iconst F (0) dX12_where_38 rfl ?_
        refine z_istore F [(5, .int 0), (4, .int 0), (3, .int (-1)), (0, .ref a_this), (1, .int x1), (2, .int x2)] dX12_where_39 (by decide) rfl ?_
        obtain ⟨base_28, at__29, ends_30, fault_31, opened_32, rowMany_33, taller_34, names_35, row_36, v3_37, v4_38, hg, hf⟩ := zb11_some hf
        refine z_sub [3, 4, 5, 2, 1, 0] rfl ?_
        refine l_M_where_41 G a_this a_height a_changeAt a_changeWas a_changeIs a_tape a_text a_names a_line a_row a_pastMany a_past a_changed a_greatest a_numbersWere a_told a_waysOf a_waysWere a_blocks a_ordersOf a_imageLine a_bodyKind a_trace a_shelf a_many a_items a_carried people keptMany done tapeMany textMany lineMany tallerBy pasts isKept imageMany bodies ran ownKind ownNumber height tape text line x1 x2 F base_28 at__29 ends_30 fault_31 opened_32 rowMany_33 taller_34 names_35 row_36 v3_37 v4_38 ?_ FU base at_ ends fault opened rowMany taller names row (-1) 0 0 hg
        refine z_iload_n F 0 dX12_where_106 rfl rfl ?_
        refine z_iconst F (2) dX12_where_107 rfl ?_
        refine z_icmp_ge F 115 dX12_where_108 (by decide) hf (fun hf _ => ?_) (fun hf _ => ?_)
        · refine z_iload F 2 dX12_where_115 rfl ?_
          have eq1 := Option.some.inj hf
          obtain ⟨ee1, eq2⟩ := Prod.mk.inj eq1
          obtain ⟨ee2, eq3⟩ := Prod.mk.inj eq2
          obtain ⟨ee3, eq4⟩ := Prod.mk.inj eq3
          obtain ⟨ee4, eq5⟩ := Prod.mk.inj eq4
          obtain ⟨ee5, eq6⟩ := Prod.mk.inj eq5
          obtain ⟨ee6, eq7⟩ := Prod.mk.inj eq6
          obtain ⟨ee7, eq8⟩ := Prod.mk.inj eq7
          obtain ⟨ee8, eq9⟩ := Prod.mk.inj eq8
          obtain ⟨ee9, ee10⟩ := Prod.mk.inj eq9
          subst ee1
          subst ee2
          subst ee3
          subst ee4
          subst ee5
          subst ee6
          subst ee7
          subst ee8
          subst ee9
          subst ee10
          exact z_iret F rfl rfl rfl rfl dX12_where_117
        · refine z_iload_n F 1 dX12_where_111 rfl rfl ?_
          refine z_goto F 117 dX12_where_112 (by decide) ?_
          have eq1 := Option.some.inj hf
          obtain ⟨ee1, eq2⟩ := Prod.mk.inj eq1
          obtain ⟨ee2, eq3⟩ := Prod.mk.inj eq2
          obtain ⟨ee3, eq4⟩ := Prod.mk.inj eq3
          obtain ⟨ee4, eq5⟩ := Prod.mk.inj eq4
          obtain ⟨ee5, eq6⟩ := Prod.mk.inj eq5
          obtain ⟨ee6, eq7⟩ := Prod.mk.inj eq6
          obtain ⟨ee7, eq8⟩ := Prod.mk.inj eq7
          obtain ⟨ee8, eq9⟩ := Prod.mk.inj eq8
          obtain ⟨ee9, ee10⟩ := Prod.mk.inj eq9
          subst ee1
          subst ee2
          subst ee3
          subst ee4
          subst ee5
          subst ee6
          subst ee7
          subst ee8
          subst ee9
          subst ee10
          exact z_iret F rfl rfl rfl rfl dX12_where_117
      · refine z_bipush F (-5) dX12_where_30 rfl ?_
        have eq1 := Option.some.inj hf
        obtain ⟨ee1, eq2⟩ := Prod.mk.inj eq1
        obtain ⟨ee2, eq3⟩ := Prod.mk.inj eq2
        obtain ⟨ee3, eq4⟩ := Prod.mk.inj eq3
        obtain ⟨ee4, eq5⟩ := Prod.mk.inj eq4
        obtain ⟨ee5, eq6⟩ := Prod.mk.inj eq5
        obtain ⟨ee6, eq7⟩ := Prod.mk.inj eq6
        obtain ⟨ee7, eq8⟩ := Prod.mk.inj eq7
        obtain ⟨ee8, eq9⟩ := Prod.mk.inj eq8
        obtain ⟨ee9, ee10⟩ := Prod.mk.inj eq9
        subst ee1
        subst ee2
        subst ee3
        subst ee4
        subst ee5
        subst ee6
        subst ee7
        subst ee8
        subst ee9
        subst ee10
        exact z_iret F rfl rfl rfl rfl dX12_where_32
    · refine z_iconst F (-1) dX12_where_20 rfl ?_
      have eq1 := Option.some.inj hf
      obtain ⟨ee1, eq2⟩ := Prod.mk.inj eq1
      obtain ⟨ee2, eq3⟩ := Prod.mk.inj eq2
      obtain ⟨ee3, eq4⟩ := Prod.mk.inj eq3
      obtain ⟨ee4, eq5⟩ := Prod.mk.inj eq4
      obtain ⟨ee5, eq6⟩ := Prod.mk.inj eq5
      obtain ⟨ee6, eq7⟩ := Prod.mk.inj eq6
      obtain ⟨ee7, eq8⟩ := Prod.mk.inj eq7
      obtain ⟨ee8, eq9⟩ := Prod.mk.inj eq8
      obtain ⟨ee9, ee10⟩ := Prod.mk.inj eq9
      subst ee1
      subst ee2
      subst ee3
      subst ee4
      subst ee5
      subst ee6
      subst ee7
      subst ee8
      subst ee9
      subst ee10
      exact z_iret F rfl rfl rfl rfl dX12_where_21

abbrev w_M_growth (G : zG) (a_this : Nat) (a_height : Nat) (a_changeAt : Nat) (a_changeWas : Nat) (a_changeIs : Nat) (a_tape : Nat) (a_text : Nat) (a_names : Nat) (a_line : Nat) (a_row : Nat) (a_pastMany : Nat) (a_past : Nat) (a_changed : Nat) (a_greatest : Nat) (a_numbersWere : Nat) (a_told : Nat) (a_waysOf : Nat) (a_waysWere : Nat) (a_blocks : Nat) (a_ordersOf : Nat) (a_imageLine : Nat) (a_bodyKind : Nat) (a_trace : Nat) (a_shelf : Nat) (a_many : Nat) (a_items : Nat) (a_carried : Nat) (people : Int32) (keptMany : Int32) (done : Int32) (tapeMany : Int32) (textMany : Int32) (base : Int32) (at_ : Int32) (ends : Int32) (fault : Int32) (opened : Int32) (lineMany : Int32) (rowMany : Int32) (taller : Int32) (tallerBy : Int32) (pasts : Int32) (isKept : Int32) (imageMany : Int32) (bodies : Int32) (ran : Int32) (ownKind : Int32) (ownNumber : Int32) (height : Nat → Int32) (tape : Nat → Int32) (text : Nat → Int32) (names : Nat → Int32) (line : Nat → Int32) (row : Nat → Int32) : va_W := [(a_this, cO 12 [.int people, .ref a_height, .ref a_changeAt, .ref a_changeWas, .ref a_changeIs, .int keptMany, .int done, .ref a_tape, .int tapeMany, .ref a_text, .int textMany, .int base, .int at_, .int ends, .int fault, .int opened, .ref a_names, .ref a_line, .int lineMany, .ref a_row, .int rowMany, .int taller, .int tallerBy, .ref a_pastMany, .ref a_past, .int pasts, .ref a_changed, .ref a_greatest, .ref a_numbersWere, .ref a_told, .ref a_waysOf, .ref a_waysWere, .ref a_blocks, .ref a_ordersOf, .int isKept, .int imageMany, .ref a_imageLine, .int bodies, .ref a_bodyKind, .ref a_trace, .int ran, .int ownKind, .int ownNumber, .ref a_shelf, .ref a_many, .ref a_items, .ref a_carried]), (a_height, cI G 9 height), (a_tape, cI G 120 tape), (a_text, cI G 120 text), (a_names, cI G 5 names), (a_line, cI G 9 line), (a_row, cI G 9 row)]
def f_M_growth_L34 (textMany : Int32) (rowMany : Int32) (taller : Int32) (height : Nat → Int32) (tape : Nat → Int32) (text : Nat → Int32) (row : Nat → Int32) (v2 : Int32) : Nat → Int32 → Int32 → Int32 → Int32 → Int32 → Int32 → (Nat → Int32) → Int32 → Option (((Int32 × Int32 × Int32 × Int32 × Int32 × Int32 × (Nat → Int32)) ⊕ (Int32 × Int32 × Int32 × Int32 × Int32 × Int32 × Int32 × Int32 × Int32 × (Nat → Int32) × (Nat → Int32))))
  | 0, _, _, _, _, _, _, _, _ => none
  | fuel + 1, base, at_, ends, fault, opened, tallerBy, names, v3 => (if (60 : Int32) < v3 then (some (.inl (base, at_, ends, fault, opened, tallerBy, names))) else (zb7 (f_M_numberAt textMany base at_ ends fault opened taller v3 height tape text names row v2) fun r_8 base_9 at__10 ends_11 fault_12 opened_13 names_14 => (if r_8 = 0 then (some (.inr (v3, base_9, at__10, ends_11, fault_12, opened_13, rowMany, taller, v3, names_14, row))) else (f_M_growth_L34 textMany rowMany taller height tape text row v2 fuel base_9 at__10 ends_11 fault_12 opened_13 v3 names_14 (v3 + 1)))))
def f_M_growth (people : Int32) (textMany : Int32) (base : Int32) (at_ : Int32) (ends : Int32) (fault : Int32) (opened : Int32) (lineMany : Int32) (rowMany : Int32) (taller : Int32) (tallerBy : Int32) (height : Nat → Int32) (tape : Nat → Int32) (text : Nat → Int32) (names : Nat → Int32) (line : Nat → Int32) (row : Nat → Int32) (x1 : Int32) : Option (Int32 × Int32 × Int32 × Int32 × Int32 × Int32 × Int32 × Int32 × Int32 × (Nat → Int32) × (Nat → Int32)) := (if (f_M_isPerson people x1) = 0 then (some ((-1), base, at_, ends, fault, opened, rowMany, taller, tallerBy, names, row)) else (zb1 (f_M_placeOf lineMany line x1) fun r_2 => (if (0 : Int32) ≤ r_2 then (zb3 (f_M_laysOut lineMany rowMany taller line row) fun rowMany_4 taller_5 row_6 => (zbs7 (f_M_growth_L34 textMany rowMany_4 x1 height tape text row_6 r_2 FU base at_ ends fault opened tallerBy names 0) (fun base_16 at__17 ends_18 fault_19 opened_20 tallerBy_21 names_22 => (some ((-2), base_16, at__17, ends_18, fault_19, opened_20, rowMany_4, x1, tallerBy_21, names_22, row_6))) some)) else (some ((-5), base, at_, ends, fault, opened, rowMany, taller, tallerBy, names, row)))))
set_option maxRecDepth 100000 in
set_option maxHeartbeats 4000000 in
theorem l_M_growth_34 {X : zX} (G : zG) (a_this : Nat) (a_height : Nat) (a_changeAt : Nat) (a_changeWas : Nat) (a_changeIs : Nat) (a_tape : Nat) (a_text : Nat) (a_names : Nat) (a_line : Nat) (a_row : Nat) (a_pastMany : Nat) (a_past : Nat) (a_changed : Nat) (a_greatest : Nat) (a_numbersWere : Nat) (a_told : Nat) (a_waysOf : Nat) (a_waysWere : Nat) (a_blocks : Nat) (a_ordersOf : Nat) (a_imageLine : Nat) (a_bodyKind : Nat) (a_trace : Nat) (a_shelf : Nat) (a_many : Nat) (a_items : Nat) (a_carried : Nat) (people : Int32) (keptMany : Int32) (done : Int32) (tapeMany : Int32) (textMany : Int32) (lineMany : Int32) (rowMany : Int32) (taller : Int32) (pasts : Int32) (isKept : Int32) (imageMany : Int32) (bodies : Int32) (ran : Int32) (ownKind : Int32) (ownNumber : Int32) (height : Nat → Int32) (tape : Nat → Int32) (text : Nat → Int32) (line : Nat → Int32) (row : Nat → Int32) (v2 : Int32) {v0 : Option Value} {w0 : va_W} (F : zF X G cX12_growth RX12 4 (some .int) 152 3533 v0 w0) (out : ((Int32 × Int32 × Int32 × Int32 × Int32 × Int32 × (Nat → Int32)) ⊕ (Int32 × Int32 × Int32 × Int32 × Int32 × Int32 × Int32 × Int32 × Int32 × (Nat → Int32) × (Nat → Int32)))) (hk : ∀ (e_base : Int32) (e_at_ : Int32) (e_ends : Int32) (e_fault : Int32) (e_opened : Int32) (e_tallerBy : Int32) (e_names : Nat → Int32), out = .inl (e_base, e_at_, e_ends, e_fault, e_opened, e_tallerBy, e_names) → Z X G 4 (w_M_growth G a_this a_height a_changeAt a_changeWas a_changeIs a_tape a_text a_names a_line a_row a_pastMany a_past a_changed a_greatest a_numbersWere a_told a_waysOf a_waysWere a_blocks a_ordersOf a_imageLine a_bodyKind a_trace a_shelf a_many a_items a_carried people keptMany done tapeMany textMany e_base e_at_ e_ends e_fault e_opened lineMany rowMany taller e_tallerBy pasts isKept imageMany bodies ran ownKind ownNumber height tape text e_names line row) [] 61 []) (hr : ∀ q : Int32 × Int32 × Int32 × Int32 × Int32 × Int32 × Int32 × Int32 × Int32 × (Nat → Int32) × (Nat → Int32), out = .inr q → v0 = some (.int q.1) ∧ w0 = (w_M_growth G a_this a_height a_changeAt a_changeWas a_changeIs a_tape a_text a_names a_line a_row a_pastMany a_past a_changed a_greatest a_numbersWere a_told a_waysOf a_waysWere a_blocks a_ordersOf a_imageLine a_bodyKind a_trace a_shelf a_many a_items a_carried people keptMany done tapeMany textMany (q.2.1) (q.2.2.1) (q.2.2.2.1) (q.2.2.2.2.1) (q.2.2.2.2.2.1) lineMany (q.2.2.2.2.2.2.1) (q.2.2.2.2.2.2.2.1) (q.2.2.2.2.2.2.2.2.1) pasts isKept imageMany bodies ran ownKind ownNumber height tape text (q.2.2.2.2.2.2.2.2.2.1) line (q.2.2.2.2.2.2.2.2.2.2))) :
    ∀ (fuel : Nat) (base : Int32) (at_ : Int32) (ends : Int32) (fault : Int32) (opened : Int32) (tallerBy : Int32) (names : Nat → Int32) (v3 : Int32), f_M_growth_L34 textMany rowMany taller height tape text row v2 fuel base at_ ends fault opened tallerBy names v3 = some out → Z X G 4 (w_M_growth G a_this a_height a_changeAt a_changeWas a_changeIs a_tape a_text a_names a_line a_row a_pastMany a_past a_changed a_greatest a_numbersWere a_told a_waysOf a_waysWere a_blocks a_ordersOf a_imageLine a_bodyKind a_trace a_shelf a_many a_items a_carried people keptMany done tapeMany textMany base at_ ends fault opened lineMany rowMany taller tallerBy pasts isKept imageMany bodies ran ownKind ownNumber height tape text names line row) [(0, .ref a_this), (2, .int v2), (3, .int v3)] 34 [] := by
  intro fuel
  induction fuel with
  | zero => intro base at_ ends fault opened tallerBy names v3 hf; exact absurd ((f_M_growth_L34.eq_1 ..).symm.trans hf) (fun h => by cases h)
  | succ fuel ih =>
    intro base at_ ends fault opened tallerBy names v3 hf
    replace hf := (f_M_growth_L34.eq_2 ..).symm.trans hf
    refine z_iload_n F 2 dX12_growth_34 rfl rfl ?_
    refine z_bipush F (60) dX12_growth_35 rfl ?_
    refine z_icmp_gt F 61 dX12_growth_37 (by decide) hf (fun hf _ => ?_) (fun hf _ => ?_)
    · exact z_sub [] rfl (hk _ _ _ _ _ _ _ (Option.some.inj hf).symm)
    · refine z_aload_n F 0 dX12_growth_40 rfl rfl ?_
      refine z_iload_n F 2 dX12_growth_41 rfl rfl ?_
      refine z_put F 0 12 22 (w_M_growth G a_this a_height a_changeAt a_changeWas a_changeIs a_tape a_text a_names a_line a_row a_pastMany a_past a_changed a_greatest a_numbersWere a_told a_waysOf a_waysWere a_blocks a_ordersOf a_imageLine a_bodyKind a_trace a_shelf a_many a_items a_carried people keptMany done tapeMany textMany base at_ ends fault opened lineMany rowMany taller v3 pasts isKept imageMany bodies ran ownKind ownNumber height tape text names line row) inlX12 tyX12 tyX12_ok nmX12 rfl rfl (by decide) fl_X12_190 rfl rfl rfl (Nat.le_of_ble_eq_true rfl) rfl dX12_growth_42 ?_
      refine z_aload_n F 0 dX12_growth_45 rfl rfl ?_
      refine z_iload_n F 1 dX12_growth_46 rfl rfl ?_
      obtain ⟨r_8, base_9, at__10, ends_11, fault_12, opened_13, names_14, hg, hf⟩ := zb7_some hf
      refine z_callVm (rest := []) F 12 (c_M_numberAt (xL X) G a_this a_height a_changeAt a_changeWas a_changeIs a_tape a_text a_names a_line a_row a_pastMany a_past a_changed a_greatest a_numbersWere a_told a_waysOf a_waysWere a_blocks a_ordersOf a_imageLine a_bodyKind a_trace a_shelf a_many a_items a_carried people keptMany done tapeMany textMany base at_ ends fault opened lineMany rowMany taller v3 pasts isKept imageMany bodies ran ownKind ownNumber height tape text names row v2 r_8 base_9 at__10 ends_11 fault_12 opened_13 names_14 hg) hy_X12_numberAt ml_X12_200 hd_X12_numberAt ⟨by omega, by omega⟩ rfl [0, 1, 2, 3, 4, 6] rfl rfl 0 rfl rfl (w_M_growth G a_this a_height a_changeAt a_changeWas a_changeIs a_tape a_text a_names a_line a_row a_pastMany a_past a_changed a_greatest a_numbersWere a_told a_waysOf a_waysWere a_blocks a_ordersOf a_imageLine a_bodyKind a_trace a_shelf a_many a_items a_carried people keptMany done tapeMany textMany base_9 at__10 ends_11 fault_12 opened_13 lineMany rowMany taller v3 pasts isKept imageMany bodies ran ownKind ownNumber height tape text names_14 line row) [some 0, some 1, some 2, some 3, some 4, none, some 5] rfl (by decide +kernel) rfl rfl (Nat.le_of_ble_eq_true rfl) dX12_growth_47 (fun hz_15 => ?_)
      refine z_if_ne F 55 dX12_growth_50 (by decide) hf (fun hf _ => ?_) (fun hf _ => ?_)
      · refine z_iinc F [(3, .int (v3 + 1)), (0, .ref a_this), (2, .int v2)] dX12_growth_55 2 rfl rfl (by decide) rfl ?_
        refine z_goto F 34 dX12_growth_58 (by decide) ?_
        exact z_sub [1, 2, 0] rfl (ih base_9 at__10 ends_11 fault_12 opened_13 v3 names_14 (v3 + 1) hf)
      · refine z_iload_n F 2 dX12_growth_53 rfl rfl ?_
        obtain ⟨e1, e2⟩ := hr _ (Option.some.inj hf).symm
        exact z_iret F rfl rfl e1.symm e2.symm dX12_growth_54

set_option maxRecDepth 100000 in
set_option maxHeartbeats 4000000 in
theorem c_M_growth (l : Launch) (G : zG) (a_this : Nat) (a_height : Nat) (a_changeAt : Nat) (a_changeWas : Nat) (a_changeIs : Nat) (a_tape : Nat) (a_text : Nat) (a_names : Nat) (a_line : Nat) (a_row : Nat) (a_pastMany : Nat) (a_past : Nat) (a_changed : Nat) (a_greatest : Nat) (a_numbersWere : Nat) (a_told : Nat) (a_waysOf : Nat) (a_waysWere : Nat) (a_blocks : Nat) (a_ordersOf : Nat) (a_imageLine : Nat) (a_bodyKind : Nat) (a_trace : Nat) (a_shelf : Nat) (a_many : Nat) (a_items : Nat) (a_carried : Nat) (people : Int32) (keptMany : Int32) (done : Int32) (tapeMany : Int32) (textMany : Int32) (base : Int32) (at_ : Int32) (ends : Int32) (fault : Int32) (opened : Int32) (lineMany : Int32) (rowMany : Int32) (taller : Int32) (tallerBy : Int32) (pasts : Int32) (isKept : Int32) (imageMany : Int32) (bodies : Int32) (ran : Int32) (ownKind : Int32) (ownNumber : Int32) (height : Nat → Int32) (tape : Nat → Int32) (text : Nat → Int32) (names : Nat → Int32) (line : Nat → Int32) (row : Nat → Int32) (x1 : Int32) (r_ : Int32) (o_base : Int32) (o_at_ : Int32) (o_ends : Int32) (o_fault : Int32) (o_opened : Int32) (o_rowMany : Int32) (o_taller : Int32) (o_tallerBy : Int32) (o_names : Nat → Int32) (o_row : Nat → Int32) (hf : f_M_growth people textMany base at_ ends fault opened lineMany rowMany taller tallerBy height tape text names line row x1 = some (r_, o_base, o_at_, o_ends, o_fault, o_opened, o_rowMany, o_taller, o_tallerBy, o_names, o_row)) : zM l yX12_growth cX12_growth 4 (some .int) 152 3533 G [.ref a_this, .int x1] (w_M_growth G a_this a_height a_changeAt a_changeWas a_changeIs a_tape a_text a_names a_line a_row a_pastMany a_past a_changed a_greatest a_numbersWere a_told a_waysOf a_waysWere a_blocks a_ordersOf a_imageLine a_bodyKind a_trace a_shelf a_many a_items a_carried people keptMany done tapeMany textMany base at_ ends fault opened lineMany rowMany taller tallerBy pasts isKept imageMany bodies ran ownKind ownNumber height tape text names line row) (some (.int r_)) (w_M_growth G a_this a_height a_changeAt a_changeWas a_changeIs a_tape a_text a_names a_line a_row a_pastMany a_past a_changed a_greatest a_numbersWere a_told a_waysOf a_waysWere a_blocks a_ordersOf a_imageLine a_bodyKind a_trace a_shelf a_many a_items a_carried people keptMany done tapeMany textMany o_base o_at_ o_ends o_fault o_opened lineMany o_rowMany o_taller o_tallerBy pasts isKept imageMany bodies ran ownKind ownNumber height tape text o_names line o_row) := by
  refine zM.of [(0, .ref a_this), (1, .int x1)] (own := RX12) rfl (by decide +kernel) (Nat.le_of_ble_eq_true rfl) rfl rfl fun X hX F => ?_
  subst hX
  replace hf := (f_M_growth.eq_1 ..).symm.trans hf
  refine z_aload_n F 0 dX12_growth_0 rfl rfl ?_
  refine z_iload_n F 1 dX12_growth_1 rfl rfl ?_
  refine z_callVm (rest := []) F 12 (c_M_isPerson (xL X) G a_this a_height a_changeAt a_changeWas a_changeIs a_tape a_text a_names a_line a_row a_pastMany a_past a_changed a_greatest a_numbersWere a_told a_waysOf a_waysWere a_blocks a_ordersOf a_imageLine a_bodyKind a_trace a_shelf a_many a_items a_carried people keptMany done tapeMany textMany base at_ ends fault opened lineMany rowMany taller tallerBy pasts isKept imageMany bodies ran ownKind ownNumber x1 _ rfl) hy_X12_isPerson ml_X12_119 hd_X12_isPerson ⟨by omega, by omega⟩ rfl [0] rfl rfl 0 rfl rfl (w_M_growth G a_this a_height a_changeAt a_changeWas a_changeIs a_tape a_text a_names a_line a_row a_pastMany a_past a_changed a_greatest a_numbersWere a_told a_waysOf a_waysWere a_blocks a_ordersOf a_imageLine a_bodyKind a_trace a_shelf a_many a_items a_carried people keptMany done tapeMany textMany base at_ ends fault opened lineMany rowMany taller tallerBy pasts isKept imageMany bodies ran ownKind ownNumber height tape text names line row) [some 0, none, none, none, none, none, none] rfl (by decide +kernel) rfl rfl (Nat.le_of_ble_eq_true rfl) dX12_growth_2 (fun hz_1 => ?_)
  refine z_if_ne F 10 dX12_growth_5 (by decide) hf (fun hf _ => ?_) (fun hf _ => ?_)
  · refine z_aload_n F 0 dX12_growth_10 rfl rfl ?_
    refine z_iload_n F 1 dX12_growth_11 rfl rfl ?_
    obtain ⟨r_2, hg, hf⟩ := zb1_some hf
    refine z_callVm (rest := []) F 12 (c_M_placeOf (xL X) G a_this a_height a_changeAt a_changeWas a_changeIs a_tape a_text a_names a_line a_row a_pastMany a_past a_changed a_greatest a_numbersWere a_told a_waysOf a_waysWere a_blocks a_ordersOf a_imageLine a_bodyKind a_trace a_shelf a_many a_items a_carried people keptMany done tapeMany textMany base at_ ends fault opened lineMany rowMany taller tallerBy pasts isKept imageMany bodies ran ownKind ownNumber line x1 r_2 hg) hy_X12_placeOf ml_X12_224 hd_X12_placeOf ⟨by omega, by omega⟩ rfl [0, 5] rfl rfl 0 rfl rfl (w_M_growth G a_this a_height a_changeAt a_changeWas a_changeIs a_tape a_text a_names a_line a_row a_pastMany a_past a_changed a_greatest a_numbersWere a_told a_waysOf a_waysWere a_blocks a_ordersOf a_imageLine a_bodyKind a_trace a_shelf a_many a_items a_carried people keptMany done tapeMany textMany base at_ ends fault opened lineMany rowMany taller tallerBy pasts isKept imageMany bodies ran ownKind ownNumber height tape text names line row) [some 0, none, none, none, none, some 1, none] rfl (by decide +kernel) rfl rfl (Nat.le_of_ble_eq_true rfl) dX12_growth_12 (fun hz_3 => ?_)
    refine z_istore_n F [(2, .int r_2), (0, .ref a_this), (1, .int x1)] dX12_growth_15 rfl (by decide) rfl ?_
    refine z_iload_n F 0 dX12_growth_16 rfl rfl ?_
    refine z_if_ge F 23 dX12_growth_17 (by decide) hf (fun hf _ => ?_) (fun hf _ => ?_)
    · refine z_aload_n F 1 dX12_growth_23 rfl rfl ?_
      obtain ⟨rowMany_4, taller_5, row_6, hg, hf⟩ := zb3_some hf
      refine z_callVm (rest := []) F 12 (c_M_laysOut (xL X) G a_this a_height a_changeAt a_changeWas a_changeIs a_tape a_text a_names a_line a_row a_pastMany a_past a_changed a_greatest a_numbersWere a_told a_waysOf a_waysWere a_blocks a_ordersOf a_imageLine a_bodyKind a_trace a_shelf a_many a_items a_carried people keptMany done tapeMany textMany base at_ ends fault opened lineMany rowMany taller tallerBy pasts isKept imageMany bodies ran ownKind ownNumber line row rowMany_4 taller_5 row_6 hg) hy_X12_laysOut ml_X12_203 hd_X12_laysOut ⟨by omega, by omega⟩ rfl [0, 5, 6] rfl rfl 0 rfl rfl (w_M_growth G a_this a_height a_changeAt a_changeWas a_changeIs a_tape a_text a_names a_line a_row a_pastMany a_past a_changed a_greatest a_numbersWere a_told a_waysOf a_waysWere a_blocks a_ordersOf a_imageLine a_bodyKind a_trace a_shelf a_many a_items a_carried people keptMany done tapeMany textMany base at_ ends fault opened lineMany rowMany_4 taller_5 tallerBy pasts isKept imageMany bodies ran ownKind ownNumber height tape text names line row_6) [some 0, none, none, none, none, some 1, some 2] rfl (by decide +kernel) rfl rfl (Nat.le_of_ble_eq_true rfl) dX12_growth_24 (fun hz_7 => ?_)
      refine z_aload_n F 1 dX12_growth_27 rfl rfl ?_
      refine z_iload_n F 2 dX12_growth_28 rfl rfl ?_
      refine z_put F 0 12 21 (w_M_growth G a_this a_height a_changeAt a_changeWas a_changeIs a_tape a_text a_names a_line a_row a_pastMany a_past a_changed a_greatest a_numbersWere a_told a_waysOf a_waysWere a_blocks a_ordersOf a_imageLine a_bodyKind a_trace a_shelf a_many a_items a_carried people keptMany done tapeMany textMany base at_ ends fault opened lineMany rowMany_4 x1 tallerBy pasts isKept imageMany bodies ran ownKind ownNumber height tape text names line row_6) inlX12 tyX12 tyX12_ok nmX12 rfl rfl (by decide) fl_X12_187 rfl rfl rfl (Nat.le_of_ble_eq_true rfl) rfl dX12_growth_29 ?_
      refine z_iconst F (0) dX12_growth_32 rfl ?_
      refine z_istore_n F [(3, .int 0), (2, .int r_2), (0, .ref a_this), (1, .int x1)] dX12_growth_33 rfl (by decide) rfl ?_
      obtain ⟨z_23, hg, hf1_24, hf2_25⟩ := zbs7_some hf
      refine z_sub [2, 1, 0] rfl ?_
      refine l_M_growth_34 G a_this a_height a_changeAt a_changeWas a_changeIs a_tape a_text a_names a_line a_row a_pastMany a_past a_changed a_greatest a_numbersWere a_told a_waysOf a_waysWere a_blocks a_ordersOf a_imageLine a_bodyKind a_trace a_shelf a_many a_items a_carried people keptMany done tapeMany textMany lineMany rowMany_4 x1 pasts isKept imageMany bodies ran ownKind ownNumber height tape text line row_6 r_2 F z_23 (fun base_16 at__17 ends_18 fault_19 opened_20 tallerBy_21 names_22 e => ?_) (fun q e => ?_) FU base at_ ends fault opened tallerBy names 0 hg
      · have hf := hf1_24 _ _ _ _ _ _ _ e
        refine z_bipush F (-2) dX12_growth_61 rfl ?_
        have eq1 := Option.some.inj hf
        obtain ⟨ee1, eq2⟩ := Prod.mk.inj eq1
        obtain ⟨ee2, eq3⟩ := Prod.mk.inj eq2
        obtain ⟨ee3, eq4⟩ := Prod.mk.inj eq3
        obtain ⟨ee4, eq5⟩ := Prod.mk.inj eq4
        obtain ⟨ee5, eq6⟩ := Prod.mk.inj eq5
        obtain ⟨ee6, eq7⟩ := Prod.mk.inj eq6
        obtain ⟨ee7, eq8⟩ := Prod.mk.inj eq7
        obtain ⟨ee8, eq9⟩ := Prod.mk.inj eq8
        obtain ⟨ee9, eq10⟩ := Prod.mk.inj eq9
        obtain ⟨ee10, ee11⟩ := Prod.mk.inj eq10
        subst ee1
        subst ee2
        subst ee3
        subst ee4
        subst ee5
        subst ee6
        subst ee7
        subst ee8
        subst ee9
        subst ee10
        subst ee11
        exact z_iret F rfl rfl rfl rfl dX12_growth_63
      · have hf := hf2_25 _ e
        cases hf
        exact ⟨rfl, rfl⟩
    · refine z_bipush F (-5) dX12_growth_20 rfl ?_
      have eq1 := Option.some.inj hf
      obtain ⟨ee1, eq2⟩ := Prod.mk.inj eq1
      obtain ⟨ee2, eq3⟩ := Prod.mk.inj eq2
      obtain ⟨ee3, eq4⟩ := Prod.mk.inj eq3
      obtain ⟨ee4, eq5⟩ := Prod.mk.inj eq4
      obtain ⟨ee5, eq6⟩ := Prod.mk.inj eq5
      obtain ⟨ee6, eq7⟩ := Prod.mk.inj eq6
      obtain ⟨ee7, eq8⟩ := Prod.mk.inj eq7
      obtain ⟨ee8, eq9⟩ := Prod.mk.inj eq8
      obtain ⟨ee9, eq10⟩ := Prod.mk.inj eq9
      obtain ⟨ee10, ee11⟩ := Prod.mk.inj eq10
      subst ee1
      subst ee2
      subst ee3
      subst ee4
      subst ee5
      subst ee6
      subst ee7
      subst ee8
      subst ee9
      subst ee10
      subst ee11
      exact z_iret F rfl rfl rfl rfl dX12_growth_22
  · refine z_iconst F (-1) dX12_growth_8 rfl ?_
    have eq1 := Option.some.inj hf
    obtain ⟨ee1, eq2⟩ := Prod.mk.inj eq1
    obtain ⟨ee2, eq3⟩ := Prod.mk.inj eq2
    obtain ⟨ee3, eq4⟩ := Prod.mk.inj eq3
    obtain ⟨ee4, eq5⟩ := Prod.mk.inj eq4
    obtain ⟨ee5, eq6⟩ := Prod.mk.inj eq5
    obtain ⟨ee6, eq7⟩ := Prod.mk.inj eq6
    obtain ⟨ee7, eq8⟩ := Prod.mk.inj eq7
    obtain ⟨ee8, eq9⟩ := Prod.mk.inj eq8
    obtain ⟨ee9, eq10⟩ := Prod.mk.inj eq9
    obtain ⟨ee10, ee11⟩ := Prod.mk.inj eq10
    subst ee1
    subst ee2
    subst ee3
    subst ee4
    subst ee5
    subst ee6
    subst ee7
    subst ee8
    subst ee9
    subst ee10
    subst ee11
    exact z_iret F rfl rfl rfl rfl dX12_growth_9

abbrev w_M_bitsOf (G : zG) : va_W := []
def f_M_bitsOf_L4 : Nat → Int32 → Int32 → Option Int32
  | 0, _, _ => none
  | fuel + 1, v1, v2 => (if v2 = 0 then (some v1) else (f_M_bitsOf_L4 fuel (v1 + 1) (v2 &&& (v2 - (1 : Int32)))))
def f_M_bitsOf (x0 : Int32) : Option Int32 := (zb1 (f_M_bitsOf_L4 FU 0 x0) fun v1_1 => (some v1_1))
set_option maxRecDepth 100000 in
set_option maxHeartbeats 4000000 in
theorem l_M_bitsOf_4 {X : zX} (G : zG) {v0 : Option Value} {w0 : va_W} (F : zF X G cX12_bitsOf RX12 3 (some .int) 0 0 v0 w0) (e_v1 : Int32) (hk : Z X G 3 (w_M_bitsOf G) [(1, .int e_v1)] 20 []) :
    ∀ (fuel : Nat) (v1 : Int32) (v2 : Int32), f_M_bitsOf_L4 fuel v1 v2 = some e_v1 → Z X G 3 (w_M_bitsOf G) [(1, .int v1), (2, .int v2)] 4 [] := by
  intro fuel
  induction fuel with
  | zero => intro v1 v2 hf; exact absurd ((f_M_bitsOf_L4.eq_1 ..).symm.trans hf) (fun h => by cases h)
  | succ fuel ih =>
    intro v1 v2 hf
    replace hf := (f_M_bitsOf_L4.eq_2 ..).symm.trans hf
    refine z_iload_n F 1 dX12_bitsOf_4 rfl rfl ?_
    refine z_if_eq F 20 dX12_bitsOf_5 (by decide) hf (fun hf _ => ?_) (fun hf _ => ?_)
    · have ee1 := Option.some.inj hf
      subst ee1
      exact z_sub [0] rfl hk
    · refine z_iinc F [(1, .int (v1 + 1)), (2, .int v2)] dX12_bitsOf_8 0 rfl rfl (by decide) rfl ?_
      refine z_iload_n F 1 dX12_bitsOf_11 rfl rfl ?_
      refine z_iload_n F 1 dX12_bitsOf_12 rfl rfl ?_
      refine z_iconst F (1) dX12_bitsOf_13 rfl ?_
      refine z_isub F dX12_bitsOf_14 ?_
      refine z_iand F dX12_bitsOf_15 ?_
      refine z_istore_n F [(2, .int (v2 &&& (v2 - (1 : Int32)))), (1, .int (v1 + 1))] dX12_bitsOf_16 rfl (by decide) rfl ?_
      refine z_goto F 4 dX12_bitsOf_17 (by decide) ?_
      exact z_sub [1, 0] rfl (ih (v1 + 1) (v2 &&& (v2 - (1 : Int32))) hf)

set_option maxRecDepth 100000 in
set_option maxHeartbeats 4000000 in
theorem c_M_bitsOf (l : Launch) (G : zG) (x0 : Int32) (r_ : Int32) (hf : f_M_bitsOf x0 = some r_) : zM l yX12_bitsOf cX12_bitsOf 3 (some .int) 0 0 G [.int x0] (w_M_bitsOf G) (some (.int r_)) (w_M_bitsOf G) := by
  refine zM.of [(0, .int x0)] (own := RX12) rfl (by decide +kernel) (Nat.le_of_ble_eq_true rfl) rfl rfl fun X hX F => ?_
  subst hX
  replace hf := (f_M_bitsOf.eq_1 ..).symm.trans hf
  refine z_iconst F (0) dX12_bitsOf_0 rfl ?_
  refine z_istore_n F [(1, .int 0), (0, .int x0)] dX12_bitsOf_1 rfl (by decide) rfl ?_
  refine z_iload_n F 1 dX12_bitsOf_2 rfl rfl ?_
  refine z_istore_n F [(2, .int x0), (1, .int 0), (0, .int x0)] dX12_bitsOf_3 rfl (by decide) rfl ?_
  obtain ⟨v1_1, hg, hf⟩ := zb1_some hf
  refine z_sub [1, 0] rfl ?_
  refine l_M_bitsOf_4 G F v1_1 ?_ FU 0 x0 hg
  refine z_iload_n F 0 dX12_bitsOf_20 rfl rfl ?_
  have ee1 := Option.some.inj hf
  subst ee1
  exact z_iret F rfl rfl rfl rfl dX12_bitsOf_21

abbrev w_M_far (G : zG) (a_this : Nat) (a_height : Nat) (a_changeAt : Nat) (a_changeWas : Nat) (a_changeIs : Nat) (a_tape : Nat) (a_text : Nat) (a_names : Nat) (a_line : Nat) (a_row : Nat) (a_pastMany : Nat) (a_past : Nat) (a_changed : Nat) (a_greatest : Nat) (a_numbersWere : Nat) (a_told : Nat) (a_waysOf : Nat) (a_waysWere : Nat) (a_blocks : Nat) (a_ordersOf : Nat) (a_imageLine : Nat) (a_bodyKind : Nat) (a_trace : Nat) (a_shelf : Nat) (a_many : Nat) (a_items : Nat) (a_carried : Nat) (people : Int32) (keptMany : Int32) (done : Int32) (tapeMany : Int32) (textMany : Int32) (base : Int32) (at_ : Int32) (ends : Int32) (fault : Int32) (opened : Int32) (lineMany : Int32) (rowMany : Int32) (taller : Int32) (tallerBy : Int32) (pasts : Int32) (isKept : Int32) (imageMany : Int32) (bodies : Int32) (ran : Int32) (ownKind : Int32) (ownNumber : Int32) (line : Nat → Int32) (shelf : Nat → Int32) (many : Nat → Int32) (items : Nat → Int64) : va_W := [(a_this, cO 12 [.int people, .ref a_height, .ref a_changeAt, .ref a_changeWas, .ref a_changeIs, .int keptMany, .int done, .ref a_tape, .int tapeMany, .ref a_text, .int textMany, .int base, .int at_, .int ends, .int fault, .int opened, .ref a_names, .ref a_line, .int lineMany, .ref a_row, .int rowMany, .int taller, .int tallerBy, .ref a_pastMany, .ref a_past, .int pasts, .ref a_changed, .ref a_greatest, .ref a_numbersWere, .ref a_told, .ref a_waysOf, .ref a_waysWere, .ref a_blocks, .ref a_ordersOf, .int isKept, .int imageMany, .ref a_imageLine, .int bodies, .ref a_bodyKind, .ref a_trace, .int ran, .int ownKind, .int ownNumber, .ref a_shelf, .ref a_many, .ref a_items, .ref a_carried]), (a_line, cI G 9 line), (a_shelf, cI G 6 shelf), (a_many, cI G 6 many), (a_items, cJ G 360 items)]
def f_M_far_L18 (people : Int32) (lineMany : Int32) (line : Nat → Int32) (many : Nat → Int32) (items : Nat → Int64) (v1 : Int32) : Nat → Int32 → Int32 → Option Int32
  | 0, _, _ => none
  | fuel + 1, v2, v3 => (zg many 6 v1 fun v_3 => (if v_3 ≤ v3 then (some v2) else (zg many 6 v1 fun v_4 => (if v_4 = lineMany then (zg items 360 (((60 : Int32) * v1) + v3) fun v_5 => (if (f_M_within v_5 0 (Int32.toInt64 (people - (1 : Int32)))) = 0 then (f_M_far_L18 people lineMany line many items v1 fuel (v2 ||| (0 : Int32)) (v3 + 1)) else (zb1 (f_M_placeOf lineMany line (Int64.toInt32 v_5)) fun r_7 => (if r_7 < 0 then (f_M_far_L18 people lineMany line many items v1 fuel (v2 ||| (0 : Int32)) (v3 + 1)) else (f_M_far_L18 people lineMany line many items v1 fuel (v2 ||| ((1 : Int32) <<< ((Int64.toInt32 v_5) &&& 31))) (v3 + 1)))))) else (some v2)))))
def f_M_far_L154 (lineMany : Int32) (line : Nat → Int32) (items : Nat → Int64) (v1 : Int32) (v4 : Int32) : Nat → Int32 → Int32 → Option Int32
  | 0, _, _ => none
  | fuel + 1, v3, v5 => (if v4 ≤ v5 then (some v3) else (zg items 360 (((60 : Int32) * v1) + v5) fun v_13 => (zb1 (f_M_placeOf lineMany line (Int64.toInt32 v_13)) fun r_14 => (zg items 360 (((60 : Int32) * v1) + v4) fun v_16 => (zb1 (f_M_placeOf lineMany line (Int64.toInt32 v_16)) fun r_17 => (if r_14 ≤ r_17 then (f_M_far_L154 lineMany line items v1 v4 fuel (v3 + (0 : Int32)) (v5 + 1)) else (f_M_far_L154 lineMany line items v1 v4 fuel (v3 + (1 : Int32)) (v5 + 1))))))))
def f_M_far_L142 (lineMany : Int32) (line : Nat → Int32) (items : Nat → Int64) (v1 : Int32) : Nat → Int32 → Int32 → Option Int32
  | 0, _, _ => none
  | fuel + 1, v3, v4 => (if lineMany ≤ v4 then (some v3) else (zb1 (f_M_far_L154 lineMany line items v1 v4 FU v3 0) fun v3_19 => (f_M_far_L142 lineMany line items v1 fuel v3_19 (v4 + 1))))
def f_M_far (people : Int32) (lineMany : Int32) (line : Nat → Int32) (shelf : Nat → Int32) (many : Nat → Int32) (items : Nat → Int64) (x1 : Int32) : Option Int32 := (zb1 (f_M_bookIs shelf x1) fun r_1 => (if (0 : Int32) ≤ r_1 then (zb1 (f_M_far_L18 people lineMany line many items x1 FU 0 0) fun v2_9 => (zg many 6 x1 fun v_10 => (if v_10 = lineMany then (zb1 (f_M_bitsOf v2_9) fun r_11 => (if r_11 = lineMany then (zb1 (f_M_far_L142 lineMany line items x1 FU 0 0) fun v3_20 => (some v3_20)) else (some (-5)))) else (some (-5))))) else (zb1 (f_M_bookIs shelf x1) fun r_21 => (some r_21))))
set_option maxRecDepth 100000 in
set_option maxHeartbeats 4000000 in
theorem l_M_far_18 {X : zX} (G : zG) (a_this : Nat) (a_height : Nat) (a_changeAt : Nat) (a_changeWas : Nat) (a_changeIs : Nat) (a_tape : Nat) (a_text : Nat) (a_names : Nat) (a_line : Nat) (a_row : Nat) (a_pastMany : Nat) (a_past : Nat) (a_changed : Nat) (a_greatest : Nat) (a_numbersWere : Nat) (a_told : Nat) (a_waysOf : Nat) (a_waysWere : Nat) (a_blocks : Nat) (a_ordersOf : Nat) (a_imageLine : Nat) (a_bodyKind : Nat) (a_trace : Nat) (a_shelf : Nat) (a_many : Nat) (a_items : Nat) (a_carried : Nat) (people : Int32) (keptMany : Int32) (done : Int32) (tapeMany : Int32) (textMany : Int32) (base : Int32) (at_ : Int32) (ends : Int32) (fault : Int32) (opened : Int32) (lineMany : Int32) (rowMany : Int32) (taller : Int32) (tallerBy : Int32) (pasts : Int32) (isKept : Int32) (imageMany : Int32) (bodies : Int32) (ran : Int32) (ownKind : Int32) (ownNumber : Int32) (line : Nat → Int32) (shelf : Nat → Int32) (many : Nat → Int32) (items : Nat → Int64) (v1 : Int32) {v0 : Option Value} {w0 : va_W} (F : zF X G cX12_far RX12 7 (some .int) 3 66 v0 w0) (e_v2 : Int32) (hk : Z X G 7 (w_M_far G a_this a_height a_changeAt a_changeWas a_changeIs a_tape a_text a_names a_line a_row a_pastMany a_past a_changed a_greatest a_numbersWere a_told a_waysOf a_waysWere a_blocks a_ordersOf a_imageLine a_bodyKind a_trace a_shelf a_many a_items a_carried people keptMany done tapeMany textMany base at_ ends fault opened lineMany rowMany taller tallerBy pasts isKept imageMany bodies ran ownKind ownNumber line shelf many items) [(0, .ref a_this), (1, .int v1), (2, .int e_v2)] 110 []) :
    ∀ (fuel : Nat) (v2 : Int32) (v3 : Int32), f_M_far_L18 people lineMany line many items v1 fuel v2 v3 = some e_v2 → Z X G 7 (w_M_far G a_this a_height a_changeAt a_changeWas a_changeIs a_tape a_text a_names a_line a_row a_pastMany a_past a_changed a_greatest a_numbersWere a_told a_waysOf a_waysWere a_blocks a_ordersOf a_imageLine a_bodyKind a_trace a_shelf a_many a_items a_carried people keptMany done tapeMany textMany base at_ ends fault opened lineMany rowMany taller tallerBy pasts isKept imageMany bodies ran ownKind ownNumber line shelf many items) [(0, .ref a_this), (1, .int v1), (2, .int v2), (3, .int v3)] 18 [] := by
  intro fuel
  induction fuel with
  | zero => intro v2 v3 hf; exact absurd ((f_M_far_L18.eq_1 ..).symm.trans hf) (fun h => by cases h)
  | succ fuel ih =>
    intro v2 v3 hf
    replace hf := (f_M_far_L18.eq_2 ..).symm.trans hf
    refine z_iload_n F 3 dX12_far_18 rfl rfl ?_
    refine z_aload_n F 0 dX12_far_19 rfl rfl ?_
    refine z_get F 0 12 44 inlX12 rfl rfl (by decide) fl_X12_79 rfl dX12_far_20 ?_
    refine z_iload_n F 1 dX12_far_23 rfl rfl ?_
    refine z_iald F 3 rfl hf dX12_far_24 (fun v_3 hf => ?_)
    refine z_icmp_ge F 110 dX12_far_25 (by decide) hf (fun hf _ => ?_) (fun hf _ => ?_)
    · have ee1 := Option.some.inj hf
      subst ee1
      exact z_sub [0, 1, 2] rfl hk
    · refine z_aload_n F 0 dX12_far_28 rfl rfl ?_
      refine z_get F 0 12 44 inlX12 rfl rfl (by decide) fl_X12_79 rfl dX12_far_29 ?_
      refine z_iload_n F 1 dX12_far_32 rfl rfl ?_
      refine z_iald F 3 rfl hf dX12_far_33 (fun v_4 hf => ?_)
      refine z_aload_n F 0 dX12_far_34 rfl rfl ?_
      refine z_get F 0 12 18 inlX12 rfl rfl (by decide) fl_X12_100 rfl dX12_far_35 ?_
      refine z_icmp_ne F 110 dX12_far_38 (by decide) hf (fun hf _ => ?_) (fun hf _ => ?_)
      · have ee1 := Option.some.inj hf
        subst ee1
        exact z_sub [0, 1, 2] rfl hk
      · refine z_aload_n F 0 dX12_far_41 rfl rfl ?_
        refine z_get F 0 12 45 inlX12 rfl rfl (by decide) fl_X12_82 rfl dX12_far_42 ?_
        refine z_bipush F (60) dX12_far_45 rfl ?_
        refine z_iload_n F 1 dX12_far_47 rfl rfl ?_
        refine z_imul F dX12_far_48 ?_
        refine z_iload_n F 3 dX12_far_49 rfl rfl ?_
        refine z_iadd F dX12_far_50 ?_
        refine z_lald F 4 rfl hf dX12_far_51 (fun v_5 hf => ?_)
        refine z_lstore F [(4, .long v_5), (0, .ref a_this), (1, .int v1), (2, .int v2), (3, .int v3)] dX12_far_52 (by decide) rfl ?_
        refine z_lload F 0 dX12_far_54 rfl ?_
        refine z_lconst F (0) dX12_far_56 rfl ?_
        refine z_aload_n F 1 dX12_far_57 rfl rfl ?_
        refine z_get F 0 12 0 inlX12 rfl rfl (by decide) fl_X12_93 rfl dX12_far_58 ?_
        refine z_iconst F (1) dX12_far_61 rfl ?_
        refine z_isub F dX12_far_62 ?_
        refine z_i2l F dX12_far_63 ?_
        refine z_callSm (rest := []) F (c_M_within (xL X) G v_5 0 (Int32.toInt64 (people - (1 : Int32))) _ rfl) hy_X12_within ml_X12_96 hd_X12_within ⟨by omega, by omega⟩ rfl [] rfl rfl (w_M_far G a_this a_height a_changeAt a_changeWas a_changeIs a_tape a_text a_names a_line a_row a_pastMany a_past a_changed a_greatest a_numbersWere a_told a_waysOf a_waysWere a_blocks a_ordersOf a_imageLine a_bodyKind a_trace a_shelf a_many a_items a_carried people keptMany done tapeMany textMany base at_ ends fault opened lineMany rowMany taller tallerBy pasts isKept imageMany bodies ran ownKind ownNumber line shelf many items) [none, none, none, none, none] rfl (by decide +kernel) rfl rfl (Nat.le_of_ble_eq_true rfl) dX12_far_64 (fun hz_6 => ?_)
        refine z_if_eq F 84 dX12_far_67 (by decide) hf (fun hf _ => ?_) (fun hf _ => ?_)
        · refine z_iconst F (0) dX12_far_84 rfl ?_
          refine z_istore F [(6, .int 0), (4, .long v_5), (0, .ref a_this), (1, .int v1), (2, .int v2), (3, .int v3)] dX12_far_85 (by decide) rfl ?_
          refine z_iload_n F 4 dX12_far_87 rfl rfl ?_
          refine z_iload F 0 dX12_far_88 rfl ?_
          refine z_if_eq_t F 101 dX12_far_90 (by decide) (by decide) ?_
          refine z_iconst F (0) dX12_far_101 rfl ?_
          refine z_ior F dX12_far_102 ?_
          refine z_istore_n F [(2, .int (v2 ||| (0 : Int32))), (6, .int 0), (4, .long v_5), (0, .ref a_this), (1, .int v1), (3, .int v3)] dX12_far_103 rfl (by decide) rfl ?_
          refine z_iinc F [(3, .int (v3 + 1)), (2, .int (v2 ||| (0 : Int32))), (6, .int 0), (4, .long v_5), (0, .ref a_this), (1, .int v1)] dX12_far_104 5 rfl rfl (by decide) rfl ?_
          refine z_goto F 18 dX12_far_107 (by decide) ?_
          exact z_sub [4, 5, 1, 0] rfl (ih (v2 ||| (0 : Int32)) (v3 + 1) hf)
        · refine z_aload_n F 1 dX12_far_70 rfl rfl ?_
          refine z_lload F 0 dX12_far_71 rfl ?_
          refine z_l2i F dX12_far_73 ?_
          obtain ⟨r_7, hg, hf⟩ := zb1_some hf
          refine z_callVm (rest := []) F 12 (c_M_placeOf (xL X) G a_this a_height a_changeAt a_changeWas a_changeIs a_tape a_text a_names a_line a_row a_pastMany a_past a_changed a_greatest a_numbersWere a_told a_waysOf a_waysWere a_blocks a_ordersOf a_imageLine a_bodyKind a_trace a_shelf a_many a_items a_carried people keptMany done tapeMany textMany base at_ ends fault opened lineMany rowMany taller tallerBy pasts isKept imageMany bodies ran ownKind ownNumber line (Int64.toInt32 v_5) r_7 hg) hy_X12_placeOf ml_X12_224 hd_X12_placeOf ⟨by omega, by omega⟩ rfl [0, 1] rfl rfl 0 rfl rfl (w_M_far G a_this a_height a_changeAt a_changeWas a_changeIs a_tape a_text a_names a_line a_row a_pastMany a_past a_changed a_greatest a_numbersWere a_told a_waysOf a_waysWere a_blocks a_ordersOf a_imageLine a_bodyKind a_trace a_shelf a_many a_items a_carried people keptMany done tapeMany textMany base at_ ends fault opened lineMany rowMany taller tallerBy pasts isKept imageMany bodies ran ownKind ownNumber line shelf many items) [some 0, some 1, none, none, none] rfl (by decide +kernel) rfl rfl (Nat.le_of_ble_eq_true rfl) dX12_far_74 (fun hz_8 => ?_)
          refine z_if_lt F 84 dX12_far_77 (by decide) hf (fun hf _ => ?_) (fun hf _ => ?_)
          · refine z_iconst F (0) dX12_far_84 rfl ?_
            refine z_istore F [(6, .int 0), (4, .long v_5), (0, .ref a_this), (1, .int v1), (2, .int v2), (3, .int v3)] dX12_far_85 (by decide) rfl ?_
            refine z_iload_n F 4 dX12_far_87 rfl rfl ?_
            refine z_iload F 0 dX12_far_88 rfl ?_
            refine z_if_eq_t F 101 dX12_far_90 (by decide) (by decide) ?_
            refine z_iconst F (0) dX12_far_101 rfl ?_
            refine z_ior F dX12_far_102 ?_
            refine z_istore_n F [(2, .int (v2 ||| (0 : Int32))), (6, .int 0), (4, .long v_5), (0, .ref a_this), (1, .int v1), (3, .int v3)] dX12_far_103 rfl (by decide) rfl ?_
            refine z_iinc F [(3, .int (v3 + 1)), (2, .int (v2 ||| (0 : Int32))), (6, .int 0), (4, .long v_5), (0, .ref a_this), (1, .int v1)] dX12_far_104 5 rfl rfl (by decide) rfl ?_
            refine z_goto F 18 dX12_far_107 (by decide) ?_
            exact z_sub [4, 5, 1, 0] rfl (ih (v2 ||| (0 : Int32)) (v3 + 1) hf)
          · refine z_iconst F (1) dX12_far_80 rfl ?_
            refine z_goto F 85 dX12_far_81 (by decide) ?_
            refine z_istore F [(6, .int 1), (4, .long v_5), (0, .ref a_this), (1, .int v1), (2, .int v2), (3, .int v3)] dX12_far_85 (by decide) rfl ?_
            refine z_iload_n F 4 dX12_far_87 rfl rfl ?_
            refine z_iload F 0 dX12_far_88 rfl ?_
            refine z_if_eq_f F 101 dX12_far_90 (by decide) (by decide) ?_
            refine z_iconst F (1) dX12_far_93 rfl ?_
            refine z_lload F 1 dX12_far_94 rfl ?_
            refine z_l2i F dX12_far_96 ?_
            refine z_ishl F dX12_far_97 ?_
            refine z_goto F 102 dX12_far_98 (by decide) ?_
            refine z_ior F dX12_far_102 ?_
            refine z_istore_n F [(2, .int (v2 ||| ((1 : Int32) <<< ((Int64.toInt32 v_5) &&& 31)))), (6, .int 1), (4, .long v_5), (0, .ref a_this), (1, .int v1), (3, .int v3)] dX12_far_103 rfl (by decide) rfl ?_
            refine z_iinc F [(3, .int (v3 + 1)), (2, .int (v2 ||| ((1 : Int32) <<< ((Int64.toInt32 v_5) &&& 31)))), (6, .int 1), (4, .long v_5), (0, .ref a_this), (1, .int v1)] dX12_far_104 5 rfl rfl (by decide) rfl ?_
            refine z_goto F 18 dX12_far_107 (by decide) ?_
            exact z_sub [4, 5, 1, 0] rfl (ih (v2 ||| ((1 : Int32) <<< ((Int64.toInt32 v_5) &&& 31))) (v3 + 1) hf)

set_option maxRecDepth 100000 in
set_option maxHeartbeats 4000000 in
theorem l_M_far_154 {X : zX} (G : zG) (a_this : Nat) (a_height : Nat) (a_changeAt : Nat) (a_changeWas : Nat) (a_changeIs : Nat) (a_tape : Nat) (a_text : Nat) (a_names : Nat) (a_line : Nat) (a_row : Nat) (a_pastMany : Nat) (a_past : Nat) (a_changed : Nat) (a_greatest : Nat) (a_numbersWere : Nat) (a_told : Nat) (a_waysOf : Nat) (a_waysWere : Nat) (a_blocks : Nat) (a_ordersOf : Nat) (a_imageLine : Nat) (a_bodyKind : Nat) (a_trace : Nat) (a_shelf : Nat) (a_many : Nat) (a_items : Nat) (a_carried : Nat) (people : Int32) (keptMany : Int32) (done : Int32) (tapeMany : Int32) (textMany : Int32) (base : Int32) (at_ : Int32) (ends : Int32) (fault : Int32) (opened : Int32) (lineMany : Int32) (rowMany : Int32) (taller : Int32) (tallerBy : Int32) (pasts : Int32) (isKept : Int32) (imageMany : Int32) (bodies : Int32) (ran : Int32) (ownKind : Int32) (ownNumber : Int32) (line : Nat → Int32) (shelf : Nat → Int32) (many : Nat → Int32) (items : Nat → Int64) (v1 : Int32) (v4 : Int32) {v0 : Option Value} {w0 : va_W} (F : zF X G cX12_far RX12 7 (some .int) 3 66 v0 w0) (e_v3 : Int32) (hk : Z X G 7 (w_M_far G a_this a_height a_changeAt a_changeWas a_changeIs a_tape a_text a_names a_line a_row a_pastMany a_past a_changed a_greatest a_numbersWere a_told a_waysOf a_waysWere a_blocks a_ordersOf a_imageLine a_bodyKind a_trace a_shelf a_many a_items a_carried people keptMany done tapeMany textMany base at_ ends fault opened lineMany rowMany taller tallerBy pasts isKept imageMany bodies ran ownKind ownNumber line shelf many items) [(0, .ref a_this), (1, .int v1), (3, .int e_v3), (4, .int v4)] 212 []) :
    ∀ (fuel : Nat) (v3 : Int32) (v5 : Int32), f_M_far_L154 lineMany line items v1 v4 fuel v3 v5 = some e_v3 → Z X G 7 (w_M_far G a_this a_height a_changeAt a_changeWas a_changeIs a_tape a_text a_names a_line a_row a_pastMany a_past a_changed a_greatest a_numbersWere a_told a_waysOf a_waysWere a_blocks a_ordersOf a_imageLine a_bodyKind a_trace a_shelf a_many a_items a_carried people keptMany done tapeMany textMany base at_ ends fault opened lineMany rowMany taller tallerBy pasts isKept imageMany bodies ran ownKind ownNumber line shelf many items) [(0, .ref a_this), (1, .int v1), (3, .int v3), (4, .int v4), (5, .int v5)] 154 [] := by
  intro fuel
  induction fuel with
  | zero => intro v3 v5 hf; exact absurd ((f_M_far_L154.eq_1 ..).symm.trans hf) (fun h => by cases h)
  | succ fuel ih =>
    intro v3 v5 hf
    replace hf := (f_M_far_L154.eq_2 ..).symm.trans hf
    refine z_iload F 4 dX12_far_154 rfl ?_
    refine z_iload F 3 dX12_far_156 rfl ?_
    refine z_icmp_ge F 212 dX12_far_158 (by decide) hf (fun hf _ => ?_) (fun hf _ => ?_)
    · have ee1 := Option.some.inj hf
      subst ee1
      exact z_sub [0, 1, 2, 3] rfl hk
    · refine z_iload_n F 2 dX12_far_161 rfl rfl ?_
      refine z_aload_n F 0 dX12_far_162 rfl rfl ?_
      refine z_aload_n F 0 dX12_far_163 rfl rfl ?_
      refine z_get F 0 12 45 inlX12 rfl rfl (by decide) fl_X12_82 rfl dX12_far_164 ?_
      refine z_bipush F (60) dX12_far_167 rfl ?_
      refine z_iload_n F 1 dX12_far_169 rfl rfl ?_
      refine z_imul F dX12_far_170 ?_
      refine z_iload F 4 dX12_far_171 rfl ?_
      refine z_iadd F dX12_far_173 ?_
      refine z_lald F 4 rfl hf dX12_far_174 (fun v_13 hf => ?_)
      refine z_l2i F dX12_far_175 ?_
      obtain ⟨r_14, hg, hf⟩ := zb1_some hf
      refine z_callVm (rest := [.int v3]) F 12 (c_M_placeOf (xL X) G a_this a_height a_changeAt a_changeWas a_changeIs a_tape a_text a_names a_line a_row a_pastMany a_past a_changed a_greatest a_numbersWere a_told a_waysOf a_waysWere a_blocks a_ordersOf a_imageLine a_bodyKind a_trace a_shelf a_many a_items a_carried people keptMany done tapeMany textMany base at_ ends fault opened lineMany rowMany taller tallerBy pasts isKept imageMany bodies ran ownKind ownNumber line (Int64.toInt32 v_13) r_14 hg) hy_X12_placeOf ml_X12_224 hd_X12_placeOf ⟨by omega, by omega⟩ rfl [0, 1] rfl rfl 0 rfl rfl (w_M_far G a_this a_height a_changeAt a_changeWas a_changeIs a_tape a_text a_names a_line a_row a_pastMany a_past a_changed a_greatest a_numbersWere a_told a_waysOf a_waysWere a_blocks a_ordersOf a_imageLine a_bodyKind a_trace a_shelf a_many a_items a_carried people keptMany done tapeMany textMany base at_ ends fault opened lineMany rowMany taller tallerBy pasts isKept imageMany bodies ran ownKind ownNumber line shelf many items) [some 0, some 1, none, none, none] rfl (by decide +kernel) rfl rfl (Nat.le_of_ble_eq_true rfl) dX12_far_176 (fun hz_15 => ?_)
      refine z_aload_n F 0 dX12_far_179 rfl rfl ?_
      refine z_aload_n F 0 dX12_far_180 rfl rfl ?_
      refine z_get F 0 12 45 inlX12 rfl rfl (by decide) fl_X12_82 rfl dX12_far_181 ?_
      refine z_bipush F (60) dX12_far_184 rfl ?_
      refine z_iload_n F 1 dX12_far_186 rfl rfl ?_
      refine z_imul F dX12_far_187 ?_
      refine z_iload F 3 dX12_far_188 rfl ?_
      refine z_iadd F dX12_far_190 ?_
      refine z_lald F 4 rfl hf dX12_far_191 (fun v_16 hf => ?_)
      refine z_l2i F dX12_far_192 ?_
      obtain ⟨r_17, hg, hf⟩ := zb1_some hf
      refine z_callVm (rest := [.int r_14, .int v3]) F 12 (c_M_placeOf (xL X) G a_this a_height a_changeAt a_changeWas a_changeIs a_tape a_text a_names a_line a_row a_pastMany a_past a_changed a_greatest a_numbersWere a_told a_waysOf a_waysWere a_blocks a_ordersOf a_imageLine a_bodyKind a_trace a_shelf a_many a_items a_carried people keptMany done tapeMany textMany base at_ ends fault opened lineMany rowMany taller tallerBy pasts isKept imageMany bodies ran ownKind ownNumber line (Int64.toInt32 v_16) r_17 hg) hy_X12_placeOf ml_X12_224 hd_X12_placeOf ⟨by omega, by omega⟩ rfl [0, 1] rfl rfl 0 rfl rfl (w_M_far G a_this a_height a_changeAt a_changeWas a_changeIs a_tape a_text a_names a_line a_row a_pastMany a_past a_changed a_greatest a_numbersWere a_told a_waysOf a_waysWere a_blocks a_ordersOf a_imageLine a_bodyKind a_trace a_shelf a_many a_items a_carried people keptMany done tapeMany textMany base at_ ends fault opened lineMany rowMany taller tallerBy pasts isKept imageMany bodies ran ownKind ownNumber line shelf many items) [some 0, some 1, none, none, none] rfl (by decide +kernel) rfl rfl (Nat.le_of_ble_eq_true rfl) dX12_far_193 (fun hz_18 => ?_)
      refine z_icmp_le F 203 dX12_far_196 (by decide) hf (fun hf _ => ?_) (fun hf _ => ?_)
      · refine z_iconst F (0) dX12_far_203 rfl ?_
        refine z_iadd F dX12_far_204 ?_
        refine z_istore_n F [(3, .int (v3 + (0 : Int32))), (0, .ref a_this), (1, .int v1), (4, .int v4), (5, .int v5)] dX12_far_205 rfl (by decide) rfl ?_
        refine z_iinc F [(5, .int (v5 + 1)), (3, .int (v3 + (0 : Int32))), (0, .ref a_this), (1, .int v1), (4, .int v4)] dX12_far_206 4 rfl rfl (by decide) rfl ?_
        refine z_goto F 154 dX12_far_209 (by decide) ?_
        exact z_sub [2, 3, 1, 4, 0] rfl (ih (v3 + (0 : Int32)) (v5 + 1) hf)
      · refine z_iconst F (1) dX12_far_199 rfl ?_
        refine z_goto F 204 dX12_far_200 (by decide) ?_
        refine z_iadd F dX12_far_204 ?_
        refine z_istore_n F [(3, .int (v3 + (1 : Int32))), (0, .ref a_this), (1, .int v1), (4, .int v4), (5, .int v5)] dX12_far_205 rfl (by decide) rfl ?_
        refine z_iinc F [(5, .int (v5 + 1)), (3, .int (v3 + (1 : Int32))), (0, .ref a_this), (1, .int v1), (4, .int v4)] dX12_far_206 4 rfl rfl (by decide) rfl ?_
        refine z_goto F 154 dX12_far_209 (by decide) ?_
        exact z_sub [2, 3, 1, 4, 0] rfl (ih (v3 + (1 : Int32)) (v5 + 1) hf)

set_option maxRecDepth 100000 in
set_option maxHeartbeats 4000000 in
theorem l_M_far_142 {X : zX} (G : zG) (a_this : Nat) (a_height : Nat) (a_changeAt : Nat) (a_changeWas : Nat) (a_changeIs : Nat) (a_tape : Nat) (a_text : Nat) (a_names : Nat) (a_line : Nat) (a_row : Nat) (a_pastMany : Nat) (a_past : Nat) (a_changed : Nat) (a_greatest : Nat) (a_numbersWere : Nat) (a_told : Nat) (a_waysOf : Nat) (a_waysWere : Nat) (a_blocks : Nat) (a_ordersOf : Nat) (a_imageLine : Nat) (a_bodyKind : Nat) (a_trace : Nat) (a_shelf : Nat) (a_many : Nat) (a_items : Nat) (a_carried : Nat) (people : Int32) (keptMany : Int32) (done : Int32) (tapeMany : Int32) (textMany : Int32) (base : Int32) (at_ : Int32) (ends : Int32) (fault : Int32) (opened : Int32) (lineMany : Int32) (rowMany : Int32) (taller : Int32) (tallerBy : Int32) (pasts : Int32) (isKept : Int32) (imageMany : Int32) (bodies : Int32) (ran : Int32) (ownKind : Int32) (ownNumber : Int32) (line : Nat → Int32) (shelf : Nat → Int32) (many : Nat → Int32) (items : Nat → Int64) (v1 : Int32) {v0 : Option Value} {w0 : va_W} (F : zF X G cX12_far RX12 7 (some .int) 3 66 v0 w0) (e_v3 : Int32) (hk : Z X G 7 (w_M_far G a_this a_height a_changeAt a_changeWas a_changeIs a_tape a_text a_names a_line a_row a_pastMany a_past a_changed a_greatest a_numbersWere a_told a_waysOf a_waysWere a_blocks a_ordersOf a_imageLine a_bodyKind a_trace a_shelf a_many a_items a_carried people keptMany done tapeMany textMany base at_ ends fault opened lineMany rowMany taller tallerBy pasts isKept imageMany bodies ran ownKind ownNumber line shelf many items) [(3, .int e_v3)] 218 []) :
    ∀ (fuel : Nat) (v3 : Int32) (v4 : Int32), f_M_far_L142 lineMany line items v1 fuel v3 v4 = some e_v3 → Z X G 7 (w_M_far G a_this a_height a_changeAt a_changeWas a_changeIs a_tape a_text a_names a_line a_row a_pastMany a_past a_changed a_greatest a_numbersWere a_told a_waysOf a_waysWere a_blocks a_ordersOf a_imageLine a_bodyKind a_trace a_shelf a_many a_items a_carried people keptMany done tapeMany textMany base at_ ends fault opened lineMany rowMany taller tallerBy pasts isKept imageMany bodies ran ownKind ownNumber line shelf many items) [(0, .ref a_this), (1, .int v1), (3, .int v3), (4, .int v4)] 142 [] := by
  intro fuel
  induction fuel with
  | zero => intro v3 v4 hf; exact absurd ((f_M_far_L142.eq_1 ..).symm.trans hf) (fun h => by cases h)
  | succ fuel ih =>
    intro v3 v4 hf
    replace hf := (f_M_far_L142.eq_2 ..).symm.trans hf
    refine z_iload F 3 dX12_far_142 rfl ?_
    refine z_aload_n F 0 dX12_far_144 rfl rfl ?_
    refine z_get F 0 12 18 inlX12 rfl rfl (by decide) fl_X12_100 rfl dX12_far_145 ?_
    refine z_icmp_ge F 218 dX12_far_148 (by decide) hf (fun hf _ => ?_) (fun hf _ => ?_)
    · have ee1 := Option.some.inj hf
      subst ee1
      exact z_sub [2] rfl hk
    · refine z_iconst F (0) dX12_far_151 rfl ?_
      refine z_istore F [(5, .int 0), (0, .ref a_this), (1, .int v1), (3, .int v3), (4, .int v4)] dX12_far_152 (by decide) rfl ?_
      obtain ⟨v3_19, hg, hf⟩ := zb1_some hf
      refine z_sub [1, 2, 3, 4, 0] rfl ?_
      refine l_M_far_154 G a_this a_height a_changeAt a_changeWas a_changeIs a_tape a_text a_names a_line a_row a_pastMany a_past a_changed a_greatest a_numbersWere a_told a_waysOf a_waysWere a_blocks a_ordersOf a_imageLine a_bodyKind a_trace a_shelf a_many a_items a_carried people keptMany done tapeMany textMany base at_ ends fault opened lineMany rowMany taller tallerBy pasts isKept imageMany bodies ran ownKind ownNumber line shelf many items v1 v4 F v3_19 ?_ FU v3 0 hg
      refine z_iinc F [(4, .int (v4 + 1)), (0, .ref a_this), (1, .int v1), (3, .int v3_19)] dX12_far_212 3 rfl rfl (by decide) rfl ?_
      refine z_goto F 142 dX12_far_215 (by decide) ?_
      exact z_sub [1, 2, 3, 0] rfl (ih v3_19 (v4 + 1) hf)

set_option maxRecDepth 100000 in
set_option maxHeartbeats 4000000 in
theorem c_M_far (l : Launch) (G : zG) (a_this : Nat) (a_height : Nat) (a_changeAt : Nat) (a_changeWas : Nat) (a_changeIs : Nat) (a_tape : Nat) (a_text : Nat) (a_names : Nat) (a_line : Nat) (a_row : Nat) (a_pastMany : Nat) (a_past : Nat) (a_changed : Nat) (a_greatest : Nat) (a_numbersWere : Nat) (a_told : Nat) (a_waysOf : Nat) (a_waysWere : Nat) (a_blocks : Nat) (a_ordersOf : Nat) (a_imageLine : Nat) (a_bodyKind : Nat) (a_trace : Nat) (a_shelf : Nat) (a_many : Nat) (a_items : Nat) (a_carried : Nat) (people : Int32) (keptMany : Int32) (done : Int32) (tapeMany : Int32) (textMany : Int32) (base : Int32) (at_ : Int32) (ends : Int32) (fault : Int32) (opened : Int32) (lineMany : Int32) (rowMany : Int32) (taller : Int32) (tallerBy : Int32) (pasts : Int32) (isKept : Int32) (imageMany : Int32) (bodies : Int32) (ran : Int32) (ownKind : Int32) (ownNumber : Int32) (line : Nat → Int32) (shelf : Nat → Int32) (many : Nat → Int32) (items : Nat → Int64) (x1 : Int32) (r_ : Int32) (hf : f_M_far people lineMany line shelf many items x1 = some r_) : zM l yX12_far cX12_far 7 (some .int) 3 66 G [.ref a_this, .int x1] (w_M_far G a_this a_height a_changeAt a_changeWas a_changeIs a_tape a_text a_names a_line a_row a_pastMany a_past a_changed a_greatest a_numbersWere a_told a_waysOf a_waysWere a_blocks a_ordersOf a_imageLine a_bodyKind a_trace a_shelf a_many a_items a_carried people keptMany done tapeMany textMany base at_ ends fault opened lineMany rowMany taller tallerBy pasts isKept imageMany bodies ran ownKind ownNumber line shelf many items) (some (.int r_)) (w_M_far G a_this a_height a_changeAt a_changeWas a_changeIs a_tape a_text a_names a_line a_row a_pastMany a_past a_changed a_greatest a_numbersWere a_told a_waysOf a_waysWere a_blocks a_ordersOf a_imageLine a_bodyKind a_trace a_shelf a_many a_items a_carried people keptMany done tapeMany textMany base at_ ends fault opened lineMany rowMany taller tallerBy pasts isKept imageMany bodies ran ownKind ownNumber line shelf many items) := by
  refine zM.of [(0, .ref a_this), (1, .int x1)] (own := RX12) rfl (by decide +kernel) (Nat.le_of_ble_eq_true rfl) rfl rfl fun X hX F => ?_
  subst hX
  replace hf := (f_M_far.eq_1 ..).symm.trans hf
  refine z_aload_n F 0 dX12_far_0 rfl rfl ?_
  refine z_iload_n F 1 dX12_far_1 rfl rfl ?_
  obtain ⟨r_1, hg, hf⟩ := zb1_some hf
  refine z_callVm (rest := []) F 12 (c_M_bookIs (xL X) G a_this a_height a_changeAt a_changeWas a_changeIs a_tape a_text a_names a_line a_row a_pastMany a_past a_changed a_greatest a_numbersWere a_told a_waysOf a_waysWere a_blocks a_ordersOf a_imageLine a_bodyKind a_trace a_shelf a_many a_items a_carried people keptMany done tapeMany textMany base at_ ends fault opened lineMany rowMany taller tallerBy pasts isKept imageMany bodies ran ownKind ownNumber shelf x1 r_1 hg) hy_X12_bookIs ml_X12_265 hd_X12_bookIs ⟨by omega, by omega⟩ rfl [0, 2] rfl rfl 0 rfl rfl (w_M_far G a_this a_height a_changeAt a_changeWas a_changeIs a_tape a_text a_names a_line a_row a_pastMany a_past a_changed a_greatest a_numbersWere a_told a_waysOf a_waysWere a_blocks a_ordersOf a_imageLine a_bodyKind a_trace a_shelf a_many a_items a_carried people keptMany done tapeMany textMany base at_ ends fault opened lineMany rowMany taller tallerBy pasts isKept imageMany bodies ran ownKind ownNumber line shelf many items) [some 0, none, some 1, none, none] rfl (by decide +kernel) rfl rfl (Nat.le_of_ble_eq_true rfl) dX12_far_2 (fun hz_2 => ?_)
  refine z_if_ge F 14 dX12_far_5 (by decide) hf (fun hf _ => ?_) (fun hf _ => ?_)
  · refine z_iconst F (0) dX12_far_14 rfl ?_
    refine z_istore_n F [(2, .int 0), (0, .ref a_this), (1, .int x1)] dX12_far_15 rfl (by decide) rfl ?_
    refine z_iconst F (0) dX12_far_16 rfl ?_
    refine z_istore_n F [(3, .int 0), (2, .int 0), (0, .ref a_this), (1, .int x1)] dX12_far_17 rfl (by decide) rfl ?_
    obtain ⟨v2_9, hg, hf⟩ := zb1_some hf
    refine z_sub [2, 3, 1, 0] rfl ?_
    refine l_M_far_18 G a_this a_height a_changeAt a_changeWas a_changeIs a_tape a_text a_names a_line a_row a_pastMany a_past a_changed a_greatest a_numbersWere a_told a_waysOf a_waysWere a_blocks a_ordersOf a_imageLine a_bodyKind a_trace a_shelf a_many a_items a_carried people keptMany done tapeMany textMany base at_ ends fault opened lineMany rowMany taller tallerBy pasts isKept imageMany bodies ran ownKind ownNumber line shelf many items x1 F v2_9 ?_ FU 0 0 hg
    refine z_aload_n F 0 dX12_far_110 rfl rfl ?_
    refine z_get F 0 12 44 inlX12 rfl rfl (by decide) fl_X12_79 rfl dX12_far_111 ?_
    refine z_iload_n F 1 dX12_far_114 rfl rfl ?_
    refine z_iald F 3 rfl hf dX12_far_115 (fun v_10 hf => ?_)
    refine z_aload_n F 0 dX12_far_116 rfl rfl ?_
    refine z_get F 0 12 18 inlX12 rfl rfl (by decide) fl_X12_100 rfl dX12_far_117 ?_
    refine z_icmp_ne F 134 dX12_far_120 (by decide) hf (fun hf _ => ?_) (fun hf _ => ?_)
    · refine z_bipush F (-5) dX12_far_134 rfl ?_
      have ee1 := Option.some.inj hf
      subst ee1
      exact z_iret F rfl rfl rfl rfl dX12_far_136
    · refine z_iload_n F 2 dX12_far_123 rfl rfl ?_
      obtain ⟨r_11, hg, hf⟩ := zb1_some hf
      refine z_callSm (rest := []) F (c_M_bitsOf (xL X) G v2_9 r_11 hg) hy_X12_bitsOf ml_X12_303 hd_X12_bitsOf ⟨by omega, by omega⟩ rfl [] rfl rfl (w_M_far G a_this a_height a_changeAt a_changeWas a_changeIs a_tape a_text a_names a_line a_row a_pastMany a_past a_changed a_greatest a_numbersWere a_told a_waysOf a_waysWere a_blocks a_ordersOf a_imageLine a_bodyKind a_trace a_shelf a_many a_items a_carried people keptMany done tapeMany textMany base at_ ends fault opened lineMany rowMany taller tallerBy pasts isKept imageMany bodies ran ownKind ownNumber line shelf many items) [none, none, none, none, none] rfl (by decide +kernel) rfl rfl (Nat.le_of_ble_eq_true rfl) dX12_far_124 (fun hz_12 => ?_)
      refine z_aload_n F 0 dX12_far_127 rfl rfl ?_
      refine z_get F 0 12 18 inlX12 rfl rfl (by decide) fl_X12_100 rfl dX12_far_128 ?_
      refine z_icmp_eq F 137 dX12_far_131 (by decide) hf (fun hf _ => ?_) (fun hf _ => ?_)
      · refine z_iconst F (0) dX12_far_137 rfl ?_
        refine z_istore_n F [(3, .int 0), (0, .ref a_this), (1, .int x1), (2, .int v2_9)] dX12_far_138 rfl (by decide) rfl ?_
        refine z_iconst F (0) dX12_far_139 rfl ?_
        refine z_istore F [(4, .int 0), (3, .int 0), (0, .ref a_this), (1, .int x1), (2, .int v2_9)] dX12_far_140 (by decide) rfl ?_
        obtain ⟨v3_20, hg, hf⟩ := zb1_some hf
        refine z_sub [2, 3, 1, 0] rfl ?_
        refine l_M_far_142 G a_this a_height a_changeAt a_changeWas a_changeIs a_tape a_text a_names a_line a_row a_pastMany a_past a_changed a_greatest a_numbersWere a_told a_waysOf a_waysWere a_blocks a_ordersOf a_imageLine a_bodyKind a_trace a_shelf a_many a_items a_carried people keptMany done tapeMany textMany base at_ ends fault opened lineMany rowMany taller tallerBy pasts isKept imageMany bodies ran ownKind ownNumber line shelf many items x1 F v3_20 ?_ FU 0 0 hg
        refine z_iload_n F 0 dX12_far_218 rfl rfl ?_
        have ee1 := Option.some.inj hf
        subst ee1
        exact z_iret F rfl rfl rfl rfl dX12_far_219
      · refine z_bipush F (-5) dX12_far_134 rfl ?_
        have ee1 := Option.some.inj hf
        subst ee1
        exact z_iret F rfl rfl rfl rfl dX12_far_136
  · refine z_aload_n F 0 dX12_far_8 rfl rfl ?_
    refine z_iload_n F 1 dX12_far_9 rfl rfl ?_
    obtain ⟨r_21, hg, hf⟩ := zb1_some hf
    refine z_callVm (rest := []) F 12 (c_M_bookIs (xL X) G a_this a_height a_changeAt a_changeWas a_changeIs a_tape a_text a_names a_line a_row a_pastMany a_past a_changed a_greatest a_numbersWere a_told a_waysOf a_waysWere a_blocks a_ordersOf a_imageLine a_bodyKind a_trace a_shelf a_many a_items a_carried people keptMany done tapeMany textMany base at_ ends fault opened lineMany rowMany taller tallerBy pasts isKept imageMany bodies ran ownKind ownNumber shelf x1 r_21 hg) hy_X12_bookIs ml_X12_265 hd_X12_bookIs ⟨by omega, by omega⟩ rfl [0, 2] rfl rfl 0 rfl rfl (w_M_far G a_this a_height a_changeAt a_changeWas a_changeIs a_tape a_text a_names a_line a_row a_pastMany a_past a_changed a_greatest a_numbersWere a_told a_waysOf a_waysWere a_blocks a_ordersOf a_imageLine a_bodyKind a_trace a_shelf a_many a_items a_carried people keptMany done tapeMany textMany base at_ ends fault opened lineMany rowMany taller tallerBy pasts isKept imageMany bodies ran ownKind ownNumber line shelf many items) [some 0, none, some 1, none, none] rfl (by decide +kernel) rfl rfl (Nat.le_of_ble_eq_true rfl) dX12_far_10 (fun hz_22 => ?_)
    have ee1 := Option.some.inj hf
    subst ee1
    exact z_iret F rfl rfl rfl rfl dX12_far_13

abbrev w_M_sorted (G : zG) (a_this : Nat) (a_height : Nat) (a_changeAt : Nat) (a_changeWas : Nat) (a_changeIs : Nat) (a_tape : Nat) (a_text : Nat) (a_names : Nat) (a_line : Nat) (a_row : Nat) (a_pastMany : Nat) (a_past : Nat) (a_changed : Nat) (a_greatest : Nat) (a_numbersWere : Nat) (a_told : Nat) (a_waysOf : Nat) (a_waysWere : Nat) (a_blocks : Nat) (a_ordersOf : Nat) (a_imageLine : Nat) (a_bodyKind : Nat) (a_trace : Nat) (a_shelf : Nat) (a_many : Nat) (a_items : Nat) (a_carried : Nat) (people : Int32) (keptMany : Int32) (done : Int32) (tapeMany : Int32) (textMany : Int32) (base : Int32) (at_ : Int32) (ends : Int32) (fault : Int32) (opened : Int32) (lineMany : Int32) (rowMany : Int32) (taller : Int32) (tallerBy : Int32) (pasts : Int32) (isKept : Int32) (imageMany : Int32) (bodies : Int32) (ran : Int32) (ownKind : Int32) (ownNumber : Int32) (height : Nat → Int32) (line : Nat → Int32) (row : Nat → Int32) : va_W := [(a_this, cO 12 [.int people, .ref a_height, .ref a_changeAt, .ref a_changeWas, .ref a_changeIs, .int keptMany, .int done, .ref a_tape, .int tapeMany, .ref a_text, .int textMany, .int base, .int at_, .int ends, .int fault, .int opened, .ref a_names, .ref a_line, .int lineMany, .ref a_row, .int rowMany, .int taller, .int tallerBy, .ref a_pastMany, .ref a_past, .int pasts, .ref a_changed, .ref a_greatest, .ref a_numbersWere, .ref a_told, .ref a_waysOf, .ref a_waysWere, .ref a_blocks, .ref a_ordersOf, .int isKept, .int imageMany, .ref a_imageLine, .int bodies, .ref a_bodyKind, .ref a_trace, .int ran, .int ownKind, .int ownNumber, .ref a_shelf, .ref a_many, .ref a_items, .ref a_carried]), (a_height, cI G 9 height), (a_line, cI G 9 line), (a_row, cI G 9 row)]
def f_M_sorted (lineMany : Int32) (rowMany : Int32) (taller : Int32) (height : Nat → Int32) (line : Nat → Int32) (row : Nat → Int32) : Option (Int32 × Int32 × Int32 × (Nat → Int32)) := (zb4 (f_M_plainNow lineMany rowMany taller height line row) fun r_1 rowMany_2 taller_3 row_4 => (some (r_1, rowMany_2, taller_3, row_4)))
set_option maxRecDepth 100000 in
set_option maxHeartbeats 4000000 in
theorem c_M_sorted (l : Launch) (G : zG) (a_this : Nat) (a_height : Nat) (a_changeAt : Nat) (a_changeWas : Nat) (a_changeIs : Nat) (a_tape : Nat) (a_text : Nat) (a_names : Nat) (a_line : Nat) (a_row : Nat) (a_pastMany : Nat) (a_past : Nat) (a_changed : Nat) (a_greatest : Nat) (a_numbersWere : Nat) (a_told : Nat) (a_waysOf : Nat) (a_waysWere : Nat) (a_blocks : Nat) (a_ordersOf : Nat) (a_imageLine : Nat) (a_bodyKind : Nat) (a_trace : Nat) (a_shelf : Nat) (a_many : Nat) (a_items : Nat) (a_carried : Nat) (people : Int32) (keptMany : Int32) (done : Int32) (tapeMany : Int32) (textMany : Int32) (base : Int32) (at_ : Int32) (ends : Int32) (fault : Int32) (opened : Int32) (lineMany : Int32) (rowMany : Int32) (taller : Int32) (tallerBy : Int32) (pasts : Int32) (isKept : Int32) (imageMany : Int32) (bodies : Int32) (ran : Int32) (ownKind : Int32) (ownNumber : Int32) (height : Nat → Int32) (line : Nat → Int32) (row : Nat → Int32) (r_ : Int32) (o_rowMany : Int32) (o_taller : Int32) (o_row : Nat → Int32) (hf : f_M_sorted lineMany rowMany taller height line row = some (r_, o_rowMany, o_taller, o_row)) : zM l yX12_sorted cX12_sorted 1 (some .int) 2 45 G [.ref a_this] (w_M_sorted G a_this a_height a_changeAt a_changeWas a_changeIs a_tape a_text a_names a_line a_row a_pastMany a_past a_changed a_greatest a_numbersWere a_told a_waysOf a_waysWere a_blocks a_ordersOf a_imageLine a_bodyKind a_trace a_shelf a_many a_items a_carried people keptMany done tapeMany textMany base at_ ends fault opened lineMany rowMany taller tallerBy pasts isKept imageMany bodies ran ownKind ownNumber height line row) (some (.int r_)) (w_M_sorted G a_this a_height a_changeAt a_changeWas a_changeIs a_tape a_text a_names a_line a_row a_pastMany a_past a_changed a_greatest a_numbersWere a_told a_waysOf a_waysWere a_blocks a_ordersOf a_imageLine a_bodyKind a_trace a_shelf a_many a_items a_carried people keptMany done tapeMany textMany base at_ ends fault opened lineMany o_rowMany o_taller tallerBy pasts isKept imageMany bodies ran ownKind ownNumber height line o_row) := by
  refine zM.of [(0, .ref a_this)] (own := RX12) rfl (by decide +kernel) (Nat.le_of_ble_eq_true rfl) rfl rfl fun X hX F => ?_
  subst hX
  replace hf := (f_M_sorted.eq_1 ..).symm.trans hf
  refine z_aload_n F 0 dX12_sorted_0 rfl rfl ?_
  obtain ⟨r_1, rowMany_2, taller_3, row_4, hg, hf⟩ := zb4_some hf
  refine z_callVm (rest := []) F 12 (c_M_plainNow (xL X) G a_this a_height a_changeAt a_changeWas a_changeIs a_tape a_text a_names a_line a_row a_pastMany a_past a_changed a_greatest a_numbersWere a_told a_waysOf a_waysWere a_blocks a_ordersOf a_imageLine a_bodyKind a_trace a_shelf a_many a_items a_carried people keptMany done tapeMany textMany base at_ ends fault opened lineMany rowMany taller tallerBy pasts isKept imageMany bodies ran ownKind ownNumber height line row r_1 rowMany_2 taller_3 row_4 hg) hy_X12_plainNow ml_X12_218 hd_X12_plainNow ⟨by omega, by omega⟩ rfl [0, 1, 2, 3] rfl rfl 0 rfl rfl (w_M_sorted G a_this a_height a_changeAt a_changeWas a_changeIs a_tape a_text a_names a_line a_row a_pastMany a_past a_changed a_greatest a_numbersWere a_told a_waysOf a_waysWere a_blocks a_ordersOf a_imageLine a_bodyKind a_trace a_shelf a_many a_items a_carried people keptMany done tapeMany textMany base at_ ends fault opened lineMany rowMany_2 taller_3 tallerBy pasts isKept imageMany bodies ran ownKind ownNumber height line row_4) [some 0, some 1, some 2, some 3] rfl (by decide +kernel) rfl rfl (Nat.le_of_ble_eq_true rfl) dX12_sorted_1 (fun hz_5 => ?_)
  have eq1 := Option.some.inj hf
  obtain ⟨ee1, eq2⟩ := Prod.mk.inj eq1
  obtain ⟨ee2, eq3⟩ := Prod.mk.inj eq2
  obtain ⟨ee3, ee4⟩ := Prod.mk.inj eq3
  subst ee1
  subst ee2
  subst ee3
  subst ee4
  exact z_iret F rfl rfl rfl rfl dX12_sorted_4

abbrev w_M_lineSet (G : zG) (a_this : Nat) (a_height : Nat) (a_changeAt : Nat) (a_changeWas : Nat) (a_changeIs : Nat) (a_tape : Nat) (a_text : Nat) (a_names : Nat) (a_line : Nat) (a_row : Nat) (a_pastMany : Nat) (a_past : Nat) (a_changed : Nat) (a_greatest : Nat) (a_numbersWere : Nat) (a_told : Nat) (a_waysOf : Nat) (a_waysWere : Nat) (a_blocks : Nat) (a_ordersOf : Nat) (a_imageLine : Nat) (a_bodyKind : Nat) (a_trace : Nat) (a_shelf : Nat) (a_many : Nat) (a_items : Nat) (a_carried : Nat) (people : Int32) (keptMany : Int32) (done : Int32) (tapeMany : Int32) (textMany : Int32) (base : Int32) (at_ : Int32) (ends : Int32) (fault : Int32) (opened : Int32) (lineMany : Int32) (rowMany : Int32) (taller : Int32) (tallerBy : Int32) (pasts : Int32) (isKept : Int32) (imageMany : Int32) (bodies : Int32) (ran : Int32) (ownKind : Int32) (ownNumber : Int32) (line : Nat → Int32) : va_W := [(a_this, cO 12 [.int people, .ref a_height, .ref a_changeAt, .ref a_changeWas, .ref a_changeIs, .int keptMany, .int done, .ref a_tape, .int tapeMany, .ref a_text, .int textMany, .int base, .int at_, .int ends, .int fault, .int opened, .ref a_names, .ref a_line, .int lineMany, .ref a_row, .int rowMany, .int taller, .int tallerBy, .ref a_pastMany, .ref a_past, .int pasts, .ref a_changed, .ref a_greatest, .ref a_numbersWere, .ref a_told, .ref a_waysOf, .ref a_waysWere, .ref a_blocks, .ref a_ordersOf, .int isKept, .int imageMany, .ref a_imageLine, .int bodies, .ref a_bodyKind, .ref a_trace, .int ran, .int ownKind, .int ownNumber, .ref a_shelf, .ref a_many, .ref a_items, .ref a_carried]), (a_line, cI G 9 line)]
def f_M_lineSet_L4 (lineMany : Int32) (line : Nat → Int32) : Nat → Int32 → Int32 → Option Int32
  | 0, _, _ => none
  | fuel + 1, v1, v2 => (if lineMany ≤ v2 then (some v1) else (zg line 9 v2 fun v_1 => (f_M_lineSet_L4 lineMany line fuel (v1 ||| ((1 : Int32) <<< (v_1 &&& 31))) (v2 + 1))))
def f_M_lineSet (lineMany : Int32) (line : Nat → Int32) : Option Int32 := (zb1 (f_M_lineSet_L4 lineMany line FU 0 0) fun v1_2 => (some v1_2))
set_option maxRecDepth 100000 in
set_option maxHeartbeats 4000000 in
theorem l_M_lineSet_4 {X : zX} (G : zG) (a_this : Nat) (a_height : Nat) (a_changeAt : Nat) (a_changeWas : Nat) (a_changeIs : Nat) (a_tape : Nat) (a_text : Nat) (a_names : Nat) (a_line : Nat) (a_row : Nat) (a_pastMany : Nat) (a_past : Nat) (a_changed : Nat) (a_greatest : Nat) (a_numbersWere : Nat) (a_told : Nat) (a_waysOf : Nat) (a_waysWere : Nat) (a_blocks : Nat) (a_ordersOf : Nat) (a_imageLine : Nat) (a_bodyKind : Nat) (a_trace : Nat) (a_shelf : Nat) (a_many : Nat) (a_items : Nat) (a_carried : Nat) (people : Int32) (keptMany : Int32) (done : Int32) (tapeMany : Int32) (textMany : Int32) (base : Int32) (at_ : Int32) (ends : Int32) (fault : Int32) (opened : Int32) (lineMany : Int32) (rowMany : Int32) (taller : Int32) (tallerBy : Int32) (pasts : Int32) (isKept : Int32) (imageMany : Int32) (bodies : Int32) (ran : Int32) (ownKind : Int32) (ownNumber : Int32) (line : Nat → Int32) {v0 : Option Value} {w0 : va_W} (F : zF X G cX12_lineSet RX12 3 (some .int) 0 0 v0 w0) (e_v1 : Int32) (hk : Z X G 3 (w_M_lineSet G a_this a_height a_changeAt a_changeWas a_changeIs a_tape a_text a_names a_line a_row a_pastMany a_past a_changed a_greatest a_numbersWere a_told a_waysOf a_waysWere a_blocks a_ordersOf a_imageLine a_bodyKind a_trace a_shelf a_many a_items a_carried people keptMany done tapeMany textMany base at_ ends fault opened lineMany rowMany taller tallerBy pasts isKept imageMany bodies ran ownKind ownNumber line) [(1, .int e_v1)] 29 []) :
    ∀ (fuel : Nat) (v1 : Int32) (v2 : Int32), f_M_lineSet_L4 lineMany line fuel v1 v2 = some e_v1 → Z X G 3 (w_M_lineSet G a_this a_height a_changeAt a_changeWas a_changeIs a_tape a_text a_names a_line a_row a_pastMany a_past a_changed a_greatest a_numbersWere a_told a_waysOf a_waysWere a_blocks a_ordersOf a_imageLine a_bodyKind a_trace a_shelf a_many a_items a_carried people keptMany done tapeMany textMany base at_ ends fault opened lineMany rowMany taller tallerBy pasts isKept imageMany bodies ran ownKind ownNumber line) [(0, .ref a_this), (1, .int v1), (2, .int v2)] 4 [] := by
  intro fuel
  induction fuel with
  | zero => intro v1 v2 hf; exact absurd ((f_M_lineSet_L4.eq_1 ..).symm.trans hf) (fun h => by cases h)
  | succ fuel ih =>
    intro v1 v2 hf
    replace hf := (f_M_lineSet_L4.eq_2 ..).symm.trans hf
    refine z_iload_n F 2 dX12_lineSet_4 rfl rfl ?_
    refine z_aload_n F 0 dX12_lineSet_5 rfl rfl ?_
    refine z_get F 0 12 18 inlX12 rfl rfl (by decide) fl_X12_100 rfl dX12_lineSet_6 ?_
    refine z_icmp_ge F 29 dX12_lineSet_9 (by decide) hf (fun hf _ => ?_) (fun hf _ => ?_)
    · have ee1 := Option.some.inj hf
      subst ee1
      exact z_sub [1] rfl hk
    · refine z_iload_n F 1 dX12_lineSet_12 rfl rfl ?_
      refine z_iconst F (1) dX12_lineSet_13 rfl ?_
      refine z_aload_n F 0 dX12_lineSet_14 rfl rfl ?_
      refine z_get F 0 12 17 inlX12 rfl rfl (by decide) fl_X12_31 rfl dX12_lineSet_15 ?_
      refine z_iload_n F 2 dX12_lineSet_18 rfl rfl ?_
      refine z_iald F 1 rfl hf dX12_lineSet_19 (fun v_1 hf => ?_)
      refine z_ishl F dX12_lineSet_20 ?_
      refine z_ior F dX12_lineSet_21 ?_
      refine z_istore_n F [(1, .int (v1 ||| ((1 : Int32) <<< (v_1 &&& 31)))), (0, .ref a_this), (2, .int v2)] dX12_lineSet_22 rfl (by decide) rfl ?_
      refine z_iinc F [(2, .int (v2 + 1)), (1, .int (v1 ||| ((1 : Int32) <<< (v_1 &&& 31)))), (0, .ref a_this)] dX12_lineSet_23 2 rfl rfl (by decide) rfl ?_
      refine z_goto F 4 dX12_lineSet_26 (by decide) ?_
      exact z_sub [2, 1, 0] rfl (ih (v1 ||| ((1 : Int32) <<< (v_1 &&& 31))) (v2 + 1) hf)

set_option maxRecDepth 100000 in
set_option maxHeartbeats 4000000 in
theorem c_M_lineSet (l : Launch) (G : zG) (a_this : Nat) (a_height : Nat) (a_changeAt : Nat) (a_changeWas : Nat) (a_changeIs : Nat) (a_tape : Nat) (a_text : Nat) (a_names : Nat) (a_line : Nat) (a_row : Nat) (a_pastMany : Nat) (a_past : Nat) (a_changed : Nat) (a_greatest : Nat) (a_numbersWere : Nat) (a_told : Nat) (a_waysOf : Nat) (a_waysWere : Nat) (a_blocks : Nat) (a_ordersOf : Nat) (a_imageLine : Nat) (a_bodyKind : Nat) (a_trace : Nat) (a_shelf : Nat) (a_many : Nat) (a_items : Nat) (a_carried : Nat) (people : Int32) (keptMany : Int32) (done : Int32) (tapeMany : Int32) (textMany : Int32) (base : Int32) (at_ : Int32) (ends : Int32) (fault : Int32) (opened : Int32) (lineMany : Int32) (rowMany : Int32) (taller : Int32) (tallerBy : Int32) (pasts : Int32) (isKept : Int32) (imageMany : Int32) (bodies : Int32) (ran : Int32) (ownKind : Int32) (ownNumber : Int32) (line : Nat → Int32) (r_ : Int32) (hf : f_M_lineSet lineMany line = some r_) : zM l yX12_lineSet cX12_lineSet 3 (some .int) 0 0 G [.ref a_this] (w_M_lineSet G a_this a_height a_changeAt a_changeWas a_changeIs a_tape a_text a_names a_line a_row a_pastMany a_past a_changed a_greatest a_numbersWere a_told a_waysOf a_waysWere a_blocks a_ordersOf a_imageLine a_bodyKind a_trace a_shelf a_many a_items a_carried people keptMany done tapeMany textMany base at_ ends fault opened lineMany rowMany taller tallerBy pasts isKept imageMany bodies ran ownKind ownNumber line) (some (.int r_)) (w_M_lineSet G a_this a_height a_changeAt a_changeWas a_changeIs a_tape a_text a_names a_line a_row a_pastMany a_past a_changed a_greatest a_numbersWere a_told a_waysOf a_waysWere a_blocks a_ordersOf a_imageLine a_bodyKind a_trace a_shelf a_many a_items a_carried people keptMany done tapeMany textMany base at_ ends fault opened lineMany rowMany taller tallerBy pasts isKept imageMany bodies ran ownKind ownNumber line) := by
  refine zM.of [(0, .ref a_this)] (own := RX12) rfl (by decide +kernel) (Nat.le_of_ble_eq_true rfl) rfl rfl fun X hX F => ?_
  subst hX
  replace hf := (f_M_lineSet.eq_1 ..).symm.trans hf
  refine z_iconst F (0) dX12_lineSet_0 rfl ?_
  refine z_istore_n F [(1, .int 0), (0, .ref a_this)] dX12_lineSet_1 rfl (by decide) rfl ?_
  refine z_iconst F (0) dX12_lineSet_2 rfl ?_
  refine z_istore_n F [(2, .int 0), (1, .int 0), (0, .ref a_this)] dX12_lineSet_3 rfl (by decide) rfl ?_
  obtain ⟨v1_2, hg, hf⟩ := zb1_some hf
  refine z_sub [2, 1, 0] rfl ?_
  refine l_M_lineSet_4 G a_this a_height a_changeAt a_changeWas a_changeIs a_tape a_text a_names a_line a_row a_pastMany a_past a_changed a_greatest a_numbersWere a_told a_waysOf a_waysWere a_blocks a_ordersOf a_imageLine a_bodyKind a_trace a_shelf a_many a_items a_carried people keptMany done tapeMany textMany base at_ ends fault opened lineMany rowMany taller tallerBy pasts isKept imageMany bodies ran ownKind ownNumber line F v1_2 ?_ FU 0 0 hg
  refine z_iload_n F 0 dX12_lineSet_29 rfl rfl ?_
  have ee1 := Option.some.inj hf
  subst ee1
  exact z_iret F rfl rfl rfl rfl dX12_lineSet_30

abbrev w_M_asksBlocks (G : zG) (a_this : Nat) (a_height : Nat) (a_changeAt : Nat) (a_changeWas : Nat) (a_changeIs : Nat) (a_tape : Nat) (a_text : Nat) (a_names : Nat) (a_line : Nat) (a_row : Nat) (a_pastMany : Nat) (a_past : Nat) (a_changed : Nat) (a_greatest : Nat) (a_numbersWere : Nat) (a_told : Nat) (a_waysOf : Nat) (a_waysWere : Nat) (a_blocks : Nat) (a_ordersOf : Nat) (a_imageLine : Nat) (a_bodyKind : Nat) (a_trace : Nat) (a_shelf : Nat) (a_many : Nat) (a_items : Nat) (a_carried : Nat) (people : Int32) (keptMany : Int32) (done : Int32) (tapeMany : Int32) (textMany : Int32) (base : Int32) (at_ : Int32) (ends : Int32) (fault : Int32) (opened : Int32) (lineMany : Int32) (rowMany : Int32) (taller : Int32) (tallerBy : Int32) (pasts : Int32) (isKept : Int32) (imageMany : Int32) (bodies : Int32) (ran : Int32) (ownKind : Int32) (ownNumber : Int32) (height : Nat → Int32) (tape : Nat → Int32) (text : Nat → Int32) (names : Nat → Int32) (line : Nat → Int32) (row : Nat → Int32) (blocks : Nat → Int32) : va_W := [(a_this, cO 12 [.int people, .ref a_height, .ref a_changeAt, .ref a_changeWas, .ref a_changeIs, .int keptMany, .int done, .ref a_tape, .int tapeMany, .ref a_text, .int textMany, .int base, .int at_, .int ends, .int fault, .int opened, .ref a_names, .ref a_line, .int lineMany, .ref a_row, .int rowMany, .int taller, .int tallerBy, .ref a_pastMany, .ref a_past, .int pasts, .ref a_changed, .ref a_greatest, .ref a_numbersWere, .ref a_told, .ref a_waysOf, .ref a_waysWere, .ref a_blocks, .ref a_ordersOf, .int isKept, .int imageMany, .ref a_imageLine, .int bodies, .ref a_bodyKind, .ref a_trace, .int ran, .int ownKind, .int ownNumber, .ref a_shelf, .ref a_many, .ref a_items, .ref a_carried]), (a_height, cI G 9 height), (a_tape, cI G 120 tape), (a_text, cI G 120 text), (a_names, cI G 5 names), (a_line, cI G 9 line), (a_row, cI G 9 row), (a_blocks, cI G 9 blocks)]
def f_M_asksBlocks_L30 (textMany : Int32) (lineMany : Int32) (taller : Int32) (tallerBy : Int32) (height : Nat → Int32) (tape : Nat → Int32) (text : Nat → Int32) (line : Nat → Int32) (row : Nat → Int32) (v1 : Int32) (v2 : Int32) : Nat → Int32 → Int32 → Int32 → Int32 → Int32 → (Nat → Int32) → (Nat → Int32) → Int32 → Option (Int32 × Int32 × Int32 × Int32 × Int32 × (Nat → Int32) × (Nat → Int32))
  | 0, _, _, _, _, _, _, _, _ => none
  | fuel + 1, base, at_, ends, fault, opened, names, blocks, v3 => (if lineMany ≤ v3 then (some (base, at_, ends, fault, opened, names, blocks)) else (zg line 9 v3 fun v_7 => (zg blocks 9 v2 fun v_8 => (zg height 9 v_7 fun v_9 => (zg height 9 v2 fun v_10 => (if v_9 ≤ v_10 then (zs blocks 9 v2 (v_8 ||| (0 : Int32)) fun blocks_11 => (f_M_asksBlocks_L30 textMany lineMany taller tallerBy height tape text line row v1 v2 fuel base at_ ends fault opened names blocks_11 (v3 + 1))) else (zb7 (f_M_numberAt textMany base at_ ends fault opened taller tallerBy height tape text names row v3) fun r_12 base_13 at__14 ends_15 fault_16 opened_17 names_18 => (zb7 (f_M_numberAt textMany base_13 at__14 ends_15 fault_16 opened_17 taller tallerBy height tape text names_18 row v1) fun r_20 base_21 at__22 ends_23 fault_24 opened_25 names_26 => (if r_20 ≤ r_12 then (zs blocks 9 v2 (v_8 ||| (0 : Int32)) fun blocks_28 => (f_M_asksBlocks_L30 textMany lineMany taller tallerBy height tape text line row v1 v2 fuel base_21 at__22 ends_23 fault_24 opened_25 names_26 blocks_28 (v3 + 1))) else (zs blocks 9 v2 (v_8 ||| ((1 : Int32) <<< (v_7 &&& 31))) fun blocks_29 => (f_M_asksBlocks_L30 textMany lineMany taller tallerBy height tape text line row v1 v2 fuel base_21 at__22 ends_23 fault_24 opened_25 names_26 blocks_29 (v3 + 1))))))))))))
def f_M_asksBlocks_L6 (textMany : Int32) (lineMany : Int32) (taller : Int32) (tallerBy : Int32) (height : Nat → Int32) (tape : Nat → Int32) (text : Nat → Int32) (line : Nat → Int32) (row : Nat → Int32) : Nat → Int32 → Int32 → Int32 → Int32 → Int32 → (Nat → Int32) → (Nat → Int32) → Int32 → Option (Int32 × Int32 × Int32 × Int32 × Int32 × (Nat → Int32) × (Nat → Int32))
  | 0, _, _, _, _, _, _, _, _ => none
  | fuel + 1, base, at_, ends, fault, opened, names, blocks, v1 => (if lineMany ≤ v1 then (some (base, at_, ends, fault, opened, names, blocks)) else (zg line 9 v1 fun v_5 => (zs blocks 9 v_5 0 fun blocks_6 => (zb7 (f_M_asksBlocks_L30 textMany lineMany taller tallerBy height tape text line row v1 v_5 FU base at_ ends fault opened names blocks_6 0) fun base_30 at__31 ends_32 fault_33 opened_34 names_35 blocks_36 => (f_M_asksBlocks_L6 textMany lineMany taller tallerBy height tape text line row fuel base_30 at__31 ends_32 fault_33 opened_34 names_35 blocks_36 (v1 + 1))))))
def f_M_asksBlocks (textMany : Int32) (base : Int32) (at_ : Int32) (ends : Int32) (fault : Int32) (opened : Int32) (lineMany : Int32) (rowMany : Int32) (taller : Int32) (tallerBy : Int32) (height : Nat → Int32) (tape : Nat → Int32) (text : Nat → Int32) (names : Nat → Int32) (line : Nat → Int32) (row : Nat → Int32) (blocks : Nat → Int32) : Option (Int32 × Int32 × Int32 × Int32 × Int32 × Int32 × Int32 × (Nat → Int32) × (Nat → Int32) × (Nat → Int32)) := (zb3 (f_M_laysOut lineMany rowMany taller line row) fun rowMany_1 taller_2 row_3 => (zb7 (f_M_asksBlocks_L6 textMany lineMany taller_2 tallerBy height tape text line row_3 FU base at_ ends fault opened names blocks 0) fun base_37 at__38 ends_39 fault_40 opened_41 names_42 blocks_43 => (some (base_37, at__38, ends_39, fault_40, opened_41, rowMany_1, taller_2, names_42, row_3, blocks_43))))
set_option maxRecDepth 100000 in
set_option maxHeartbeats 4000000 in
theorem l_M_asksBlocks_30 {X : zX} (G : zG) (a_this : Nat) (a_height : Nat) (a_changeAt : Nat) (a_changeWas : Nat) (a_changeIs : Nat) (a_tape : Nat) (a_text : Nat) (a_names : Nat) (a_line : Nat) (a_row : Nat) (a_pastMany : Nat) (a_past : Nat) (a_changed : Nat) (a_greatest : Nat) (a_numbersWere : Nat) (a_told : Nat) (a_waysOf : Nat) (a_waysWere : Nat) (a_blocks : Nat) (a_ordersOf : Nat) (a_imageLine : Nat) (a_bodyKind : Nat) (a_trace : Nat) (a_shelf : Nat) (a_many : Nat) (a_items : Nat) (a_carried : Nat) (people : Int32) (keptMany : Int32) (done : Int32) (tapeMany : Int32) (textMany : Int32) (lineMany : Int32) (rowMany : Int32) (taller : Int32) (tallerBy : Int32) (pasts : Int32) (isKept : Int32) (imageMany : Int32) (bodies : Int32) (ran : Int32) (ownKind : Int32) (ownNumber : Int32) (height : Nat → Int32) (tape : Nat → Int32) (text : Nat → Int32) (line : Nat → Int32) (row : Nat → Int32) (v1 : Int32) (v2 : Int32) {v0 : Option Value} {w0 : va_W} (F : zF X G cX12_asksBlocks RX12 5 none 152 3533 v0 w0) (e_base : Int32) (e_at_ : Int32) (e_ends : Int32) (e_fault : Int32) (e_opened : Int32) (e_names : Nat → Int32) (e_blocks : Nat → Int32) (hk : Z X G 5 (w_M_asksBlocks G a_this a_height a_changeAt a_changeWas a_changeIs a_tape a_text a_names a_line a_row a_pastMany a_past a_changed a_greatest a_numbersWere a_told a_waysOf a_waysWere a_blocks a_ordersOf a_imageLine a_bodyKind a_trace a_shelf a_many a_items a_carried people keptMany done tapeMany textMany e_base e_at_ e_ends e_fault e_opened lineMany rowMany taller tallerBy pasts isKept imageMany bodies ran ownKind ownNumber height tape text e_names line row e_blocks) [(0, .ref a_this), (1, .int v1)] 98 []) :
    ∀ (fuel : Nat) (base : Int32) (at_ : Int32) (ends : Int32) (fault : Int32) (opened : Int32) (names : Nat → Int32) (blocks : Nat → Int32) (v3 : Int32), f_M_asksBlocks_L30 textMany lineMany taller tallerBy height tape text line row v1 v2 fuel base at_ ends fault opened names blocks v3 = some (e_base, e_at_, e_ends, e_fault, e_opened, e_names, e_blocks) → Z X G 5 (w_M_asksBlocks G a_this a_height a_changeAt a_changeWas a_changeIs a_tape a_text a_names a_line a_row a_pastMany a_past a_changed a_greatest a_numbersWere a_told a_waysOf a_waysWere a_blocks a_ordersOf a_imageLine a_bodyKind a_trace a_shelf a_many a_items a_carried people keptMany done tapeMany textMany base at_ ends fault opened lineMany rowMany taller tallerBy pasts isKept imageMany bodies ran ownKind ownNumber height tape text names line row blocks) [(0, .ref a_this), (1, .int v1), (2, .int v2), (3, .int v3)] 30 [] := by
  intro fuel
  induction fuel with
  | zero => intro base at_ ends fault opened names blocks v3 hf; exact absurd ((f_M_asksBlocks_L30.eq_1 ..).symm.trans hf) (fun h => by cases h)
  | succ fuel ih =>
    intro base at_ ends fault opened names blocks v3 hf
    replace hf := (f_M_asksBlocks_L30.eq_2 ..).symm.trans hf
    refine z_iload_n F 3 dX12_asksBlocks_30 rfl rfl ?_
    refine z_aload_n F 0 dX12_asksBlocks_31 rfl rfl ?_
    refine z_get F 0 12 18 inlX12 rfl rfl (by decide) fl_X12_100 rfl dX12_asksBlocks_32 ?_
    refine z_icmp_ge F 98 dX12_asksBlocks_35 (by decide) hf (fun hf _ => ?_) (fun hf _ => ?_)
    · have eq1 := Option.some.inj hf
      obtain ⟨ee1, eq2⟩ := Prod.mk.inj eq1
      obtain ⟨ee2, eq3⟩ := Prod.mk.inj eq2
      obtain ⟨ee3, eq4⟩ := Prod.mk.inj eq3
      obtain ⟨ee4, eq5⟩ := Prod.mk.inj eq4
      obtain ⟨ee5, eq6⟩ := Prod.mk.inj eq5
      obtain ⟨ee6, ee7⟩ := Prod.mk.inj eq6
      subst ee1
      subst ee2
      subst ee3
      subst ee4
      subst ee5
      subst ee6
      subst ee7
      exact z_sub [0, 1] rfl hk
    · refine z_aload_n F 0 dX12_asksBlocks_38 rfl rfl ?_
      refine z_get F 0 12 17 inlX12 rfl rfl (by decide) fl_X12_31 rfl dX12_asksBlocks_39 ?_
      refine z_iload_n F 3 dX12_asksBlocks_42 rfl rfl ?_
      refine z_iald F 5 rfl hf dX12_asksBlocks_43 (fun v_7 hf => ?_)
      refine z_istore F [(4, .int v_7), (0, .ref a_this), (1, .int v1), (2, .int v2), (3, .int v3)] dX12_asksBlocks_44 (by decide) rfl ?_
      refine z_aload_n F 1 dX12_asksBlocks_46 rfl rfl ?_
      refine z_get F 0 12 32 inlX12 rfl rfl (by decide) fl_X12_61 rfl dX12_asksBlocks_47 ?_
      refine z_iload_n F 3 dX12_asksBlocks_50 rfl rfl ?_
      refine z_dup2 F rfl rfl dX12_asksBlocks_51 ?_
      refine z_iald F 7 rfl hf dX12_asksBlocks_52 (fun v_8 hf => ?_)
      refine z_aload_n F 1 dX12_asksBlocks_53 rfl rfl ?_
      refine z_get F 0 12 1 inlX12 rfl rfl (by decide) fl_X12_9 rfl dX12_asksBlocks_54 ?_
      refine z_iload F 0 dX12_asksBlocks_57 rfl ?_
      refine z_iald F 1 rfl hf dX12_asksBlocks_59 (fun v_9 hf => ?_)
      refine z_aload_n F 1 dX12_asksBlocks_60 rfl rfl ?_
      refine z_get F 0 12 1 inlX12 rfl rfl (by decide) fl_X12_9 rfl dX12_asksBlocks_61 ?_
      refine z_iload_n F 3 dX12_asksBlocks_64 rfl rfl ?_
      refine z_iald F 1 rfl hf dX12_asksBlocks_65 (fun v_10 hf => ?_)
      refine z_icmp_le F 89 dX12_asksBlocks_66 (by decide) hf (fun hf _ => ?_) (fun hf _ => ?_)
      · refine z_iconst F (0) dX12_asksBlocks_89 rfl ?_
        refine z_ior F dX12_asksBlocks_90 ?_
        refine z_iast F 7 (fun blocks_11 => (w_M_asksBlocks G a_this a_height a_changeAt a_changeWas a_changeIs a_tape a_text a_names a_line a_row a_pastMany a_past a_changed a_greatest a_numbersWere a_told a_waysOf a_waysWere a_blocks a_ordersOf a_imageLine a_bodyKind a_trace a_shelf a_many a_items a_carried people keptMany done tapeMany textMany base at_ ends fault opened lineMany rowMany taller tallerBy pasts isKept imageMany bodies ran ownKind ownNumber height tape text names line row blocks_11)) rfl hf (fun _ => rfl) dX12_asksBlocks_91 (fun blocks_11 hf => ?_)
        refine z_iinc F [(3, .int (v3 + 1)), (4, .int v_7), (0, .ref a_this), (1, .int v1), (2, .int v2)] dX12_asksBlocks_92 4 rfl rfl (by decide) rfl ?_
        refine z_goto F 30 dX12_asksBlocks_95 (by decide) ?_
        exact z_sub [2, 3, 4, 0] rfl (ih base at_ ends fault opened names blocks_11 (v3 + 1) hf)
      · refine z_aload_n F 1 dX12_asksBlocks_69 rfl rfl ?_
        refine z_iload_n F 4 dX12_asksBlocks_70 rfl rfl ?_
        obtain ⟨r_12, base_13, at__14, ends_15, fault_16, opened_17, names_18, hg, hf⟩ := zb7_some hf
        refine z_callVm (rest := [.int v_8, .int v2, .ref a_blocks]) F 12 (c_M_numberAt (xL X) G a_this a_height a_changeAt a_changeWas a_changeIs a_tape a_text a_names a_line a_row a_pastMany a_past a_changed a_greatest a_numbersWere a_told a_waysOf a_waysWere a_blocks a_ordersOf a_imageLine a_bodyKind a_trace a_shelf a_many a_items a_carried people keptMany done tapeMany textMany base at_ ends fault opened lineMany rowMany taller tallerBy pasts isKept imageMany bodies ran ownKind ownNumber height tape text names row v3 r_12 base_13 at__14 ends_15 fault_16 opened_17 names_18 hg) hy_X12_numberAt ml_X12_200 hd_X12_numberAt ⟨by omega, by omega⟩ rfl [0, 1, 2, 3, 4, 6] rfl rfl 0 rfl rfl (w_M_asksBlocks G a_this a_height a_changeAt a_changeWas a_changeIs a_tape a_text a_names a_line a_row a_pastMany a_past a_changed a_greatest a_numbersWere a_told a_waysOf a_waysWere a_blocks a_ordersOf a_imageLine a_bodyKind a_trace a_shelf a_many a_items a_carried people keptMany done tapeMany textMany base_13 at__14 ends_15 fault_16 opened_17 lineMany rowMany taller tallerBy pasts isKept imageMany bodies ran ownKind ownNumber height tape text names_18 line row blocks) [some 0, some 1, some 2, some 3, some 4, none, some 5, none] rfl (by decide +kernel) rfl rfl (Nat.le_of_ble_eq_true rfl) dX12_asksBlocks_71 (fun hz_19 => ?_)
        refine z_aload_n F 1 dX12_asksBlocks_74 rfl rfl ?_
        refine z_iload_n F 2 dX12_asksBlocks_75 rfl rfl ?_
        obtain ⟨r_20, base_21, at__22, ends_23, fault_24, opened_25, names_26, hg, hf⟩ := zb7_some hf
        refine z_callVm (rest := [.int r_12, .int v_8, .int v2, .ref a_blocks]) F 12 (c_M_numberAt (xL X) G a_this a_height a_changeAt a_changeWas a_changeIs a_tape a_text a_names a_line a_row a_pastMany a_past a_changed a_greatest a_numbersWere a_told a_waysOf a_waysWere a_blocks a_ordersOf a_imageLine a_bodyKind a_trace a_shelf a_many a_items a_carried people keptMany done tapeMany textMany base_13 at__14 ends_15 fault_16 opened_17 lineMany rowMany taller tallerBy pasts isKept imageMany bodies ran ownKind ownNumber height tape text names_18 row v1 r_20 base_21 at__22 ends_23 fault_24 opened_25 names_26 hg) hy_X12_numberAt ml_X12_200 hd_X12_numberAt ⟨by omega, by omega⟩ rfl [0, 1, 2, 3, 4, 6] rfl rfl 0 rfl rfl (w_M_asksBlocks G a_this a_height a_changeAt a_changeWas a_changeIs a_tape a_text a_names a_line a_row a_pastMany a_past a_changed a_greatest a_numbersWere a_told a_waysOf a_waysWere a_blocks a_ordersOf a_imageLine a_bodyKind a_trace a_shelf a_many a_items a_carried people keptMany done tapeMany textMany base_21 at__22 ends_23 fault_24 opened_25 lineMany rowMany taller tallerBy pasts isKept imageMany bodies ran ownKind ownNumber height tape text names_26 line row blocks) [some 0, some 1, some 2, some 3, some 4, none, some 5, none] rfl (by decide +kernel) rfl rfl (Nat.le_of_ble_eq_true rfl) dX12_asksBlocks_76 (fun hz_27 => ?_)
        refine z_icmp_ge F 89 dX12_asksBlocks_79 (by decide) hf (fun hf _ => ?_) (fun hf _ => ?_)
        · refine z_iconst F (0) dX12_asksBlocks_89 rfl ?_
          refine z_ior F dX12_asksBlocks_90 ?_
          refine z_iast F 7 (fun blocks_28 => (w_M_asksBlocks G a_this a_height a_changeAt a_changeWas a_changeIs a_tape a_text a_names a_line a_row a_pastMany a_past a_changed a_greatest a_numbersWere a_told a_waysOf a_waysWere a_blocks a_ordersOf a_imageLine a_bodyKind a_trace a_shelf a_many a_items a_carried people keptMany done tapeMany textMany base_21 at__22 ends_23 fault_24 opened_25 lineMany rowMany taller tallerBy pasts isKept imageMany bodies ran ownKind ownNumber height tape text names_26 line row blocks_28)) rfl hf (fun _ => rfl) dX12_asksBlocks_91 (fun blocks_28 hf => ?_)
          refine z_iinc F [(3, .int (v3 + 1)), (4, .int v_7), (0, .ref a_this), (1, .int v1), (2, .int v2)] dX12_asksBlocks_92 4 rfl rfl (by decide) rfl ?_
          refine z_goto F 30 dX12_asksBlocks_95 (by decide) ?_
          exact z_sub [2, 3, 4, 0] rfl (ih base_21 at__22 ends_23 fault_24 opened_25 names_26 blocks_28 (v3 + 1) hf)
        · refine z_iconst F (1) dX12_asksBlocks_82 rfl ?_
          refine z_iload F 0 dX12_asksBlocks_83 rfl ?_
          refine z_ishl F dX12_asksBlocks_85 ?_
          refine z_goto F 90 dX12_asksBlocks_86 (by decide) ?_
          refine z_ior F dX12_asksBlocks_90 ?_
          refine z_iast F 7 (fun blocks_29 => (w_M_asksBlocks G a_this a_height a_changeAt a_changeWas a_changeIs a_tape a_text a_names a_line a_row a_pastMany a_past a_changed a_greatest a_numbersWere a_told a_waysOf a_waysWere a_blocks a_ordersOf a_imageLine a_bodyKind a_trace a_shelf a_many a_items a_carried people keptMany done tapeMany textMany base_21 at__22 ends_23 fault_24 opened_25 lineMany rowMany taller tallerBy pasts isKept imageMany bodies ran ownKind ownNumber height tape text names_26 line row blocks_29)) rfl hf (fun _ => rfl) dX12_asksBlocks_91 (fun blocks_29 hf => ?_)
          refine z_iinc F [(3, .int (v3 + 1)), (4, .int v_7), (0, .ref a_this), (1, .int v1), (2, .int v2)] dX12_asksBlocks_92 4 rfl rfl (by decide) rfl ?_
          refine z_goto F 30 dX12_asksBlocks_95 (by decide) ?_
          exact z_sub [2, 3, 4, 0] rfl (ih base_21 at__22 ends_23 fault_24 opened_25 names_26 blocks_29 (v3 + 1) hf)

set_option maxRecDepth 100000 in
set_option maxHeartbeats 4000000 in
theorem l_M_asksBlocks_6 {X : zX} (G : zG) (a_this : Nat) (a_height : Nat) (a_changeAt : Nat) (a_changeWas : Nat) (a_changeIs : Nat) (a_tape : Nat) (a_text : Nat) (a_names : Nat) (a_line : Nat) (a_row : Nat) (a_pastMany : Nat) (a_past : Nat) (a_changed : Nat) (a_greatest : Nat) (a_numbersWere : Nat) (a_told : Nat) (a_waysOf : Nat) (a_waysWere : Nat) (a_blocks : Nat) (a_ordersOf : Nat) (a_imageLine : Nat) (a_bodyKind : Nat) (a_trace : Nat) (a_shelf : Nat) (a_many : Nat) (a_items : Nat) (a_carried : Nat) (people : Int32) (keptMany : Int32) (done : Int32) (tapeMany : Int32) (textMany : Int32) (lineMany : Int32) (rowMany : Int32) (taller : Int32) (tallerBy : Int32) (pasts : Int32) (isKept : Int32) (imageMany : Int32) (bodies : Int32) (ran : Int32) (ownKind : Int32) (ownNumber : Int32) (height : Nat → Int32) (tape : Nat → Int32) (text : Nat → Int32) (line : Nat → Int32) (row : Nat → Int32) {v0 : Option Value} {w0 : va_W} (F : zF X G cX12_asksBlocks RX12 5 none 152 3533 v0 w0) (e_base : Int32) (e_at_ : Int32) (e_ends : Int32) (e_fault : Int32) (e_opened : Int32) (e_names : Nat → Int32) (e_blocks : Nat → Int32) (hk : Z X G 5 (w_M_asksBlocks G a_this a_height a_changeAt a_changeWas a_changeIs a_tape a_text a_names a_line a_row a_pastMany a_past a_changed a_greatest a_numbersWere a_told a_waysOf a_waysWere a_blocks a_ordersOf a_imageLine a_bodyKind a_trace a_shelf a_many a_items a_carried people keptMany done tapeMany textMany e_base e_at_ e_ends e_fault e_opened lineMany rowMany taller tallerBy pasts isKept imageMany bodies ran ownKind ownNumber height tape text e_names line row e_blocks) [] 104 []) :
    ∀ (fuel : Nat) (base : Int32) (at_ : Int32) (ends : Int32) (fault : Int32) (opened : Int32) (names : Nat → Int32) (blocks : Nat → Int32) (v1 : Int32), f_M_asksBlocks_L6 textMany lineMany taller tallerBy height tape text line row fuel base at_ ends fault opened names blocks v1 = some (e_base, e_at_, e_ends, e_fault, e_opened, e_names, e_blocks) → Z X G 5 (w_M_asksBlocks G a_this a_height a_changeAt a_changeWas a_changeIs a_tape a_text a_names a_line a_row a_pastMany a_past a_changed a_greatest a_numbersWere a_told a_waysOf a_waysWere a_blocks a_ordersOf a_imageLine a_bodyKind a_trace a_shelf a_many a_items a_carried people keptMany done tapeMany textMany base at_ ends fault opened lineMany rowMany taller tallerBy pasts isKept imageMany bodies ran ownKind ownNumber height tape text names line row blocks) [(0, .ref a_this), (1, .int v1)] 6 [] := by
  intro fuel
  induction fuel with
  | zero => intro base at_ ends fault opened names blocks v1 hf; exact absurd ((f_M_asksBlocks_L6.eq_1 ..).symm.trans hf) (fun h => by cases h)
  | succ fuel ih =>
    intro base at_ ends fault opened names blocks v1 hf
    replace hf := (f_M_asksBlocks_L6.eq_2 ..).symm.trans hf
    refine z_iload_n F 1 dX12_asksBlocks_6 rfl rfl ?_
    refine z_aload_n F 0 dX12_asksBlocks_7 rfl rfl ?_
    refine z_get F 0 12 18 inlX12 rfl rfl (by decide) fl_X12_100 rfl dX12_asksBlocks_8 ?_
    refine z_icmp_ge F 104 dX12_asksBlocks_11 (by decide) hf (fun hf _ => ?_) (fun hf _ => ?_)
    · have eq1 := Option.some.inj hf
      obtain ⟨ee1, eq2⟩ := Prod.mk.inj eq1
      obtain ⟨ee2, eq3⟩ := Prod.mk.inj eq2
      obtain ⟨ee3, eq4⟩ := Prod.mk.inj eq3
      obtain ⟨ee4, eq5⟩ := Prod.mk.inj eq4
      obtain ⟨ee5, eq6⟩ := Prod.mk.inj eq5
      obtain ⟨ee6, ee7⟩ := Prod.mk.inj eq6
      subst ee1
      subst ee2
      subst ee3
      subst ee4
      subst ee5
      subst ee6
      subst ee7
      exact z_sub [] rfl hk
    · refine z_aload_n F 0 dX12_asksBlocks_14 rfl rfl ?_
      refine z_get F 0 12 17 inlX12 rfl rfl (by decide) fl_X12_31 rfl dX12_asksBlocks_15 ?_
      refine z_iload_n F 1 dX12_asksBlocks_18 rfl rfl ?_
      refine z_iald F 5 rfl hf dX12_asksBlocks_19 (fun v_5 hf => ?_)
      refine z_istore_n F [(2, .int v_5), (0, .ref a_this), (1, .int v1)] dX12_asksBlocks_20 rfl (by decide) rfl ?_
      refine z_aload_n F 1 dX12_asksBlocks_21 rfl rfl ?_
      refine z_get F 0 12 32 inlX12 rfl rfl (by decide) fl_X12_61 rfl dX12_asksBlocks_22 ?_
      refine z_iload_n F 0 dX12_asksBlocks_25 rfl rfl ?_
      refine z_iconst F (0) dX12_asksBlocks_26 rfl ?_
      refine z_iast F 7 (fun blocks_6 => (w_M_asksBlocks G a_this a_height a_changeAt a_changeWas a_changeIs a_tape a_text a_names a_line a_row a_pastMany a_past a_changed a_greatest a_numbersWere a_told a_waysOf a_waysWere a_blocks a_ordersOf a_imageLine a_bodyKind a_trace a_shelf a_many a_items a_carried people keptMany done tapeMany textMany base at_ ends fault opened lineMany rowMany taller tallerBy pasts isKept imageMany bodies ran ownKind ownNumber height tape text names line row blocks_6)) rfl hf (fun _ => rfl) dX12_asksBlocks_27 (fun blocks_6 hf => ?_)
      refine z_iconst F (0) dX12_asksBlocks_28 rfl ?_
      refine z_istore_n F [(3, .int 0), (2, .int v_5), (0, .ref a_this), (1, .int v1)] dX12_asksBlocks_29 rfl (by decide) rfl ?_
      obtain ⟨base_30, at__31, ends_32, fault_33, opened_34, names_35, blocks_36, hg, hf⟩ := zb7_some hf
      refine z_sub [2, 3, 1, 0] rfl ?_
      refine l_M_asksBlocks_30 G a_this a_height a_changeAt a_changeWas a_changeIs a_tape a_text a_names a_line a_row a_pastMany a_past a_changed a_greatest a_numbersWere a_told a_waysOf a_waysWere a_blocks a_ordersOf a_imageLine a_bodyKind a_trace a_shelf a_many a_items a_carried people keptMany done tapeMany textMany lineMany rowMany taller tallerBy pasts isKept imageMany bodies ran ownKind ownNumber height tape text line row v1 v_5 F base_30 at__31 ends_32 fault_33 opened_34 names_35 blocks_36 ?_ FU base at_ ends fault opened names blocks_6 0 hg
      refine z_iinc F [(1, .int (v1 + 1)), (0, .ref a_this)] dX12_asksBlocks_98 1 rfl rfl (by decide) rfl ?_
      refine z_goto F 6 dX12_asksBlocks_101 (by decide) ?_
      exact z_sub [1, 0] rfl (ih base_30 at__31 ends_32 fault_33 opened_34 names_35 blocks_36 (v1 + 1) hf)

set_option maxRecDepth 100000 in
set_option maxHeartbeats 4000000 in
theorem c_M_asksBlocks (l : Launch) (G : zG) (a_this : Nat) (a_height : Nat) (a_changeAt : Nat) (a_changeWas : Nat) (a_changeIs : Nat) (a_tape : Nat) (a_text : Nat) (a_names : Nat) (a_line : Nat) (a_row : Nat) (a_pastMany : Nat) (a_past : Nat) (a_changed : Nat) (a_greatest : Nat) (a_numbersWere : Nat) (a_told : Nat) (a_waysOf : Nat) (a_waysWere : Nat) (a_blocks : Nat) (a_ordersOf : Nat) (a_imageLine : Nat) (a_bodyKind : Nat) (a_trace : Nat) (a_shelf : Nat) (a_many : Nat) (a_items : Nat) (a_carried : Nat) (people : Int32) (keptMany : Int32) (done : Int32) (tapeMany : Int32) (textMany : Int32) (base : Int32) (at_ : Int32) (ends : Int32) (fault : Int32) (opened : Int32) (lineMany : Int32) (rowMany : Int32) (taller : Int32) (tallerBy : Int32) (pasts : Int32) (isKept : Int32) (imageMany : Int32) (bodies : Int32) (ran : Int32) (ownKind : Int32) (ownNumber : Int32) (height : Nat → Int32) (tape : Nat → Int32) (text : Nat → Int32) (names : Nat → Int32) (line : Nat → Int32) (row : Nat → Int32) (blocks : Nat → Int32) (o_base : Int32) (o_at_ : Int32) (o_ends : Int32) (o_fault : Int32) (o_opened : Int32) (o_rowMany : Int32) (o_taller : Int32) (o_names : Nat → Int32) (o_row : Nat → Int32) (o_blocks : Nat → Int32) (hf : f_M_asksBlocks textMany base at_ ends fault opened lineMany rowMany taller tallerBy height tape text names line row blocks = some (o_base, o_at_, o_ends, o_fault, o_opened, o_rowMany, o_taller, o_names, o_row, o_blocks)) : zM l yX12_asksBlocks cX12_asksBlocks 5 none 152 3533 G [.ref a_this] (w_M_asksBlocks G a_this a_height a_changeAt a_changeWas a_changeIs a_tape a_text a_names a_line a_row a_pastMany a_past a_changed a_greatest a_numbersWere a_told a_waysOf a_waysWere a_blocks a_ordersOf a_imageLine a_bodyKind a_trace a_shelf a_many a_items a_carried people keptMany done tapeMany textMany base at_ ends fault opened lineMany rowMany taller tallerBy pasts isKept imageMany bodies ran ownKind ownNumber height tape text names line row blocks) (none) (w_M_asksBlocks G a_this a_height a_changeAt a_changeWas a_changeIs a_tape a_text a_names a_line a_row a_pastMany a_past a_changed a_greatest a_numbersWere a_told a_waysOf a_waysWere a_blocks a_ordersOf a_imageLine a_bodyKind a_trace a_shelf a_many a_items a_carried people keptMany done tapeMany textMany o_base o_at_ o_ends o_fault o_opened lineMany o_rowMany o_taller tallerBy pasts isKept imageMany bodies ran ownKind ownNumber height tape text o_names line o_row o_blocks) := by
  refine zM.of [(0, .ref a_this)] (own := RX12) rfl (by decide +kernel) (Nat.le_of_ble_eq_true rfl) rfl rfl fun X hX F => ?_
  subst hX
  replace hf := (f_M_asksBlocks.eq_1 ..).symm.trans hf
  refine z_aload_n F 0 dX12_asksBlocks_0 rfl rfl ?_
  obtain ⟨rowMany_1, taller_2, row_3, hg, hf⟩ := zb3_some hf
  refine z_callVm (rest := []) F 12 (c_M_laysOut (xL X) G a_this a_height a_changeAt a_changeWas a_changeIs a_tape a_text a_names a_line a_row a_pastMany a_past a_changed a_greatest a_numbersWere a_told a_waysOf a_waysWere a_blocks a_ordersOf a_imageLine a_bodyKind a_trace a_shelf a_many a_items a_carried people keptMany done tapeMany textMany base at_ ends fault opened lineMany rowMany taller tallerBy pasts isKept imageMany bodies ran ownKind ownNumber line row rowMany_1 taller_2 row_3 hg) hy_X12_laysOut ml_X12_203 hd_X12_laysOut ⟨by omega, by omega⟩ rfl [0, 5, 6] rfl rfl 0 rfl rfl (w_M_asksBlocks G a_this a_height a_changeAt a_changeWas a_changeIs a_tape a_text a_names a_line a_row a_pastMany a_past a_changed a_greatest a_numbersWere a_told a_waysOf a_waysWere a_blocks a_ordersOf a_imageLine a_bodyKind a_trace a_shelf a_many a_items a_carried people keptMany done tapeMany textMany base at_ ends fault opened lineMany rowMany_1 taller_2 tallerBy pasts isKept imageMany bodies ran ownKind ownNumber height tape text names line row_3 blocks) [some 0, none, none, none, none, some 1, some 2, none] rfl (by decide +kernel) rfl rfl (Nat.le_of_ble_eq_true rfl) dX12_asksBlocks_1 (fun hz_4 => ?_)
  refine z_iconst F (0) dX12_asksBlocks_4 rfl ?_
  refine z_istore_n F [(1, .int 0), (0, .ref a_this)] dX12_asksBlocks_5 rfl (by decide) rfl ?_
  obtain ⟨base_37, at__38, ends_39, fault_40, opened_41, names_42, blocks_43, hg, hf⟩ := zb7_some hf
  refine z_sub [1, 0] rfl ?_
  refine l_M_asksBlocks_6 G a_this a_height a_changeAt a_changeWas a_changeIs a_tape a_text a_names a_line a_row a_pastMany a_past a_changed a_greatest a_numbersWere a_told a_waysOf a_waysWere a_blocks a_ordersOf a_imageLine a_bodyKind a_trace a_shelf a_many a_items a_carried people keptMany done tapeMany textMany lineMany rowMany_1 taller_2 tallerBy pasts isKept imageMany bodies ran ownKind ownNumber height tape text line row_3 F base_37 at__38 ends_39 fault_40 opened_41 names_42 blocks_43 ?_ FU base at_ ends fault opened names blocks 0 hg
  have eq1 := Option.some.inj hf
  obtain ⟨ee1, eq2⟩ := Prod.mk.inj eq1
  obtain ⟨ee2, eq3⟩ := Prod.mk.inj eq2
  obtain ⟨ee3, eq4⟩ := Prod.mk.inj eq3
  obtain ⟨ee4, eq5⟩ := Prod.mk.inj eq4
  obtain ⟨ee5, eq6⟩ := Prod.mk.inj eq5
  obtain ⟨ee6, eq7⟩ := Prod.mk.inj eq6
  obtain ⟨ee7, eq8⟩ := Prod.mk.inj eq7
  obtain ⟨ee8, eq9⟩ := Prod.mk.inj eq8
  obtain ⟨ee9, ee10⟩ := Prod.mk.inj eq9
  subst ee1
  subst ee2
  subst ee3
  subst ee4
  subst ee5
  subst ee6
  subst ee7
  subst ee8
  subst ee9
  subst ee10
  exact z_vret F rfl rfl rfl dX12_asksBlocks_104

abbrev w_M_mayBe (G : zG) (a_this : Nat) (a_height : Nat) (a_changeAt : Nat) (a_changeWas : Nat) (a_changeIs : Nat) (a_tape : Nat) (a_text : Nat) (a_names : Nat) (a_line : Nat) (a_row : Nat) (a_pastMany : Nat) (a_past : Nat) (a_changed : Nat) (a_greatest : Nat) (a_numbersWere : Nat) (a_told : Nat) (a_waysOf : Nat) (a_waysWere : Nat) (a_blocks : Nat) (a_ordersOf : Nat) (a_imageLine : Nat) (a_bodyKind : Nat) (a_trace : Nat) (a_shelf : Nat) (a_many : Nat) (a_items : Nat) (a_carried : Nat) (people : Int32) (keptMany : Int32) (done : Int32) (tapeMany : Int32) (textMany : Int32) (base : Int32) (at_ : Int32) (ends : Int32) (fault : Int32) (opened : Int32) (lineMany : Int32) (rowMany : Int32) (taller : Int32) (tallerBy : Int32) (pasts : Int32) (isKept : Int32) (imageMany : Int32) (bodies : Int32) (ran : Int32) (ownKind : Int32) (ownNumber : Int32) (blocks : Nat → Int32) : va_W := [(a_this, cO 12 [.int people, .ref a_height, .ref a_changeAt, .ref a_changeWas, .ref a_changeIs, .int keptMany, .int done, .ref a_tape, .int tapeMany, .ref a_text, .int textMany, .int base, .int at_, .int ends, .int fault, .int opened, .ref a_names, .ref a_line, .int lineMany, .ref a_row, .int rowMany, .int taller, .int tallerBy, .ref a_pastMany, .ref a_past, .int pasts, .ref a_changed, .ref a_greatest, .ref a_numbersWere, .ref a_told, .ref a_waysOf, .ref a_waysWere, .ref a_blocks, .ref a_ordersOf, .int isKept, .int imageMany, .ref a_imageLine, .int bodies, .ref a_bodyKind, .ref a_trace, .int ran, .int ownKind, .int ownNumber, .ref a_shelf, .ref a_many, .ref a_items, .ref a_carried]), (a_blocks, cI G 9 blocks)]
def f_M_mayBe (blocks : Nat → Int32) (x1 : Int32) (x2 : Int32) : Option Int32 := (if (f_M_isIn x1 x2) = 0 then (some 0) else (zg blocks 9 x2 fun v_2 => (if (v_2 &&& x1) = 0 then (some 1) else (some 0))))
set_option maxRecDepth 100000 in
set_option maxHeartbeats 4000000 in
theorem c_M_mayBe (l : Launch) (G : zG) (a_this : Nat) (a_height : Nat) (a_changeAt : Nat) (a_changeWas : Nat) (a_changeIs : Nat) (a_tape : Nat) (a_text : Nat) (a_names : Nat) (a_line : Nat) (a_row : Nat) (a_pastMany : Nat) (a_past : Nat) (a_changed : Nat) (a_greatest : Nat) (a_numbersWere : Nat) (a_told : Nat) (a_waysOf : Nat) (a_waysWere : Nat) (a_blocks : Nat) (a_ordersOf : Nat) (a_imageLine : Nat) (a_bodyKind : Nat) (a_trace : Nat) (a_shelf : Nat) (a_many : Nat) (a_items : Nat) (a_carried : Nat) (people : Int32) (keptMany : Int32) (done : Int32) (tapeMany : Int32) (textMany : Int32) (base : Int32) (at_ : Int32) (ends : Int32) (fault : Int32) (opened : Int32) (lineMany : Int32) (rowMany : Int32) (taller : Int32) (tallerBy : Int32) (pasts : Int32) (isKept : Int32) (imageMany : Int32) (bodies : Int32) (ran : Int32) (ownKind : Int32) (ownNumber : Int32) (blocks : Nat → Int32) (x1 : Int32) (x2 : Int32) (r_ : Int32) (hf : f_M_mayBe blocks x1 x2 = some r_) : zM l yX12_mayBe cX12_mayBe 3 (some .boolean) 1 21 G [.ref a_this, .int x1, .int x2] (w_M_mayBe G a_this a_height a_changeAt a_changeWas a_changeIs a_tape a_text a_names a_line a_row a_pastMany a_past a_changed a_greatest a_numbersWere a_told a_waysOf a_waysWere a_blocks a_ordersOf a_imageLine a_bodyKind a_trace a_shelf a_many a_items a_carried people keptMany done tapeMany textMany base at_ ends fault opened lineMany rowMany taller tallerBy pasts isKept imageMany bodies ran ownKind ownNumber blocks) (some (.int r_)) (w_M_mayBe G a_this a_height a_changeAt a_changeWas a_changeIs a_tape a_text a_names a_line a_row a_pastMany a_past a_changed a_greatest a_numbersWere a_told a_waysOf a_waysWere a_blocks a_ordersOf a_imageLine a_bodyKind a_trace a_shelf a_many a_items a_carried people keptMany done tapeMany textMany base at_ ends fault opened lineMany rowMany taller tallerBy pasts isKept imageMany bodies ran ownKind ownNumber blocks) := by
  refine zM.of [(0, .ref a_this), (1, .int x1), (2, .int x2)] (own := RX12) rfl (by decide +kernel) (Nat.le_of_ble_eq_true rfl) rfl rfl fun X hX F => ?_
  subst hX
  replace hf := (f_M_mayBe.eq_1 ..).symm.trans hf
  refine z_iload_n F 1 dX12_mayBe_0 rfl rfl ?_
  refine z_iload_n F 2 dX12_mayBe_1 rfl rfl ?_
  refine z_callSm (rest := []) F (c_M_isIn (xL X) G x1 x2 _ rfl) hy_X12_isIn ml_X12_271 hd_X12_isIn ⟨by omega, by omega⟩ rfl [] rfl rfl (w_M_mayBe G a_this a_height a_changeAt a_changeWas a_changeIs a_tape a_text a_names a_line a_row a_pastMany a_past a_changed a_greatest a_numbersWere a_told a_waysOf a_waysWere a_blocks a_ordersOf a_imageLine a_bodyKind a_trace a_shelf a_many a_items a_carried people keptMany done tapeMany textMany base at_ ends fault opened lineMany rowMany taller tallerBy pasts isKept imageMany bodies ran ownKind ownNumber blocks) [none, none] rfl (by decide +kernel) rfl rfl (Nat.le_of_ble_eq_true rfl) dX12_mayBe_2 (fun hz_1 => ?_)
  refine z_if_eq F 23 dX12_mayBe_5 (by decide) hf (fun hf _ => ?_) (fun hf _ => ?_)
  · refine z_iconst F (0) dX12_mayBe_23 rfl ?_
    have ee1 := Option.some.inj hf
    subst ee1
    exact z_iret F rfl rfl rfl rfl dX12_mayBe_24
  · refine z_aload_n F 0 dX12_mayBe_8 rfl rfl ?_
    refine z_get F 0 12 32 inlX12 rfl rfl (by decide) fl_X12_61 rfl dX12_mayBe_9 ?_
    refine z_iload_n F 2 dX12_mayBe_12 rfl rfl ?_
    refine z_iald F 1 rfl hf dX12_mayBe_13 (fun v_2 hf => ?_)
    refine z_iload_n F 1 dX12_mayBe_14 rfl rfl ?_
    refine z_iand F dX12_mayBe_15 ?_
    refine z_if_ne F 23 dX12_mayBe_16 (by decide) hf (fun hf _ => ?_) (fun hf _ => ?_)
    · refine z_iconst F (0) dX12_mayBe_23 rfl ?_
      have ee1 := Option.some.inj hf
      subst ee1
      exact z_iret F rfl rfl rfl rfl dX12_mayBe_24
    · refine z_iconst F (1) dX12_mayBe_19 rfl ?_
      refine z_goto F 24 dX12_mayBe_20 (by decide) ?_
      have ee1 := Option.some.inj hf
      subst ee1
      exact z_iret F rfl rfl rfl rfl dX12_mayBe_24

abbrev w_M_countsOrders (G : zG) (a_this : Nat) (a_height : Nat) (a_changeAt : Nat) (a_changeWas : Nat) (a_changeIs : Nat) (a_tape : Nat) (a_text : Nat) (a_names : Nat) (a_line : Nat) (a_row : Nat) (a_pastMany : Nat) (a_past : Nat) (a_changed : Nat) (a_greatest : Nat) (a_numbersWere : Nat) (a_told : Nat) (a_waysOf : Nat) (a_waysWere : Nat) (a_blocks : Nat) (a_ordersOf : Nat) (a_imageLine : Nat) (a_bodyKind : Nat) (a_trace : Nat) (a_shelf : Nat) (a_many : Nat) (a_items : Nat) (a_carried : Nat) (people : Int32) (keptMany : Int32) (done : Int32) (tapeMany : Int32) (textMany : Int32) (base : Int32) (at_ : Int32) (ends : Int32) (fault : Int32) (opened : Int32) (lineMany : Int32) (rowMany : Int32) (taller : Int32) (tallerBy : Int32) (pasts : Int32) (isKept : Int32) (imageMany : Int32) (bodies : Int32) (ran : Int32) (ownKind : Int32) (ownNumber : Int32) (blocks : Nat → Int32) (ordersOf : Nat → Int32) : va_W := [(a_this, cO 12 [.int people, .ref a_height, .ref a_changeAt, .ref a_changeWas, .ref a_changeIs, .int keptMany, .int done, .ref a_tape, .int tapeMany, .ref a_text, .int textMany, .int base, .int at_, .int ends, .int fault, .int opened, .ref a_names, .ref a_line, .int lineMany, .ref a_row, .int rowMany, .int taller, .int tallerBy, .ref a_pastMany, .ref a_past, .int pasts, .ref a_changed, .ref a_greatest, .ref a_numbersWere, .ref a_told, .ref a_waysOf, .ref a_waysWere, .ref a_blocks, .ref a_ordersOf, .int isKept, .int imageMany, .ref a_imageLine, .int bodies, .ref a_bodyKind, .ref a_trace, .int ran, .int ownKind, .int ownNumber, .ref a_shelf, .ref a_many, .ref a_items, .ref a_carried]), (a_blocks, cI G 9 blocks), (a_ordersOf, cI G 512 ordersOf)]
def f_M_countsOrders_L24 (people : Int32) (blocks : Nat → Int32) (v1 : Int32) (v2 : Int32) : Nat → (Nat → Int32) → Int32 → Option ((Nat → Int32))
  | 0, _, _ => none
  | fuel + 1, ordersOf, v3 => (if people ≤ v3 then (some ordersOf) else (if (v2 &&& (v1 ^^^ ((-1) : Int32))) = 0 then (zg ordersOf 512 v2 fun v_2 => (zb1 (f_M_mayBe blocks v2 v3) fun r_3 => (if r_3 = 0 then (zs ordersOf 512 v2 (v_2 + (0 : Int32)) fun ordersOf_5 => (f_M_countsOrders_L24 people blocks v1 v2 fuel ordersOf_5 (v3 + 1))) else (zg ordersOf 512 (v2 &&& (((1 : Int32) <<< (v3 &&& 31)) ^^^ ((-1) : Int32))) fun v_6 => (zs ordersOf 512 v2 (v_2 + v_6) fun ordersOf_7 => (f_M_countsOrders_L24 people blocks v1 v2 fuel ordersOf_7 (v3 + 1))))))) else (some ordersOf)))
def f_M_countsOrders_L2 (people : Int32) (blocks : Nat → Int32) (v1 : Int32) : Nat → (Nat → Int32) → Int32 → Option ((Nat → Int32))
  | 0, _, _ => none
  | fuel + 1, ordersOf, v2 => (if v1 < v2 then (some ordersOf) else (if v2 = 0 then (zs ordersOf 512 v2 1 fun ordersOf_9 => (zb1 (f_M_countsOrders_L24 people blocks v1 v2 FU ordersOf_9 0) fun ordersOf_10 => (f_M_countsOrders_L2 people blocks v1 fuel ordersOf_10 (v2 + 1)))) else (zs ordersOf 512 v2 0 fun ordersOf_1 => (zb1 (f_M_countsOrders_L24 people blocks v1 v2 FU ordersOf_1 0) fun ordersOf_8 => (f_M_countsOrders_L2 people blocks v1 fuel ordersOf_8 (v2 + 1))))))
def f_M_countsOrders (people : Int32) (blocks : Nat → Int32) (ordersOf : Nat → Int32) (x1 : Int32) : Option ((Nat → Int32)) := (zb1 (f_M_countsOrders_L2 people blocks x1 FU ordersOf 0) fun ordersOf_11 => (some ordersOf_11))
set_option maxRecDepth 100000 in
set_option maxHeartbeats 4000000 in
theorem l_M_countsOrders_24 {X : zX} (G : zG) (a_this : Nat) (a_height : Nat) (a_changeAt : Nat) (a_changeWas : Nat) (a_changeIs : Nat) (a_tape : Nat) (a_text : Nat) (a_names : Nat) (a_line : Nat) (a_row : Nat) (a_pastMany : Nat) (a_past : Nat) (a_changed : Nat) (a_greatest : Nat) (a_numbersWere : Nat) (a_told : Nat) (a_waysOf : Nat) (a_waysWere : Nat) (a_blocks : Nat) (a_ordersOf : Nat) (a_imageLine : Nat) (a_bodyKind : Nat) (a_trace : Nat) (a_shelf : Nat) (a_many : Nat) (a_items : Nat) (a_carried : Nat) (people : Int32) (keptMany : Int32) (done : Int32) (tapeMany : Int32) (textMany : Int32) (base : Int32) (at_ : Int32) (ends : Int32) (fault : Int32) (opened : Int32) (lineMany : Int32) (rowMany : Int32) (taller : Int32) (tallerBy : Int32) (pasts : Int32) (isKept : Int32) (imageMany : Int32) (bodies : Int32) (ran : Int32) (ownKind : Int32) (ownNumber : Int32) (blocks : Nat → Int32) (v1 : Int32) (v2 : Int32) {v0 : Option Value} {w0 : va_W} (F : zF X G cX12_countsOrders RX12 4 none 2 43 v0 w0) (e_ordersOf : Nat → Int32) (hk : Z X G 4 (w_M_countsOrders G a_this a_height a_changeAt a_changeWas a_changeIs a_tape a_text a_names a_line a_row a_pastMany a_past a_changed a_greatest a_numbersWere a_told a_waysOf a_waysWere a_blocks a_ordersOf a_imageLine a_bodyKind a_trace a_shelf a_many a_items a_carried people keptMany done tapeMany textMany base at_ ends fault opened lineMany rowMany taller tallerBy pasts isKept imageMany bodies ran ownKind ownNumber blocks e_ordersOf) [(0, .ref a_this), (1, .int v1), (2, .int v2)] 80 []) :
    ∀ (fuel : Nat) (ordersOf : Nat → Int32) (v3 : Int32), f_M_countsOrders_L24 people blocks v1 v2 fuel ordersOf v3 = some e_ordersOf → Z X G 4 (w_M_countsOrders G a_this a_height a_changeAt a_changeWas a_changeIs a_tape a_text a_names a_line a_row a_pastMany a_past a_changed a_greatest a_numbersWere a_told a_waysOf a_waysWere a_blocks a_ordersOf a_imageLine a_bodyKind a_trace a_shelf a_many a_items a_carried people keptMany done tapeMany textMany base at_ ends fault opened lineMany rowMany taller tallerBy pasts isKept imageMany bodies ran ownKind ownNumber blocks ordersOf) [(0, .ref a_this), (1, .int v1), (2, .int v2), (3, .int v3)] 24 [] := by
  intro fuel
  induction fuel with
  | zero => intro ordersOf v3 hf; exact absurd ((f_M_countsOrders_L24.eq_1 ..).symm.trans hf) (fun h => by cases h)
  | succ fuel ih =>
    intro ordersOf v3 hf
    replace hf := (f_M_countsOrders_L24.eq_2 ..).symm.trans hf
    refine z_iload_n F 3 dX12_countsOrders_24 rfl rfl ?_
    refine z_aload_n F 0 dX12_countsOrders_25 rfl rfl ?_
    refine z_get F 0 12 0 inlX12 rfl rfl (by decide) fl_X12_93 rfl dX12_countsOrders_26 ?_
    refine z_icmp_ge F 80 dX12_countsOrders_29 (by decide) hf (fun hf _ => ?_) (fun hf _ => ?_)
    · have ee1 := Option.some.inj hf
      subst ee1
      exact z_sub [0, 1, 2] rfl hk
    · refine z_iload_n F 2 dX12_countsOrders_32 rfl rfl ?_
      refine z_iload_n F 1 dX12_countsOrders_33 rfl rfl ?_
      refine z_iconst F (-1) dX12_countsOrders_34 rfl ?_
      refine z_ixor F dX12_countsOrders_35 ?_
      refine z_iand F dX12_countsOrders_36 ?_
      refine z_if_ne F 80 dX12_countsOrders_37 (by decide) hf (fun hf _ => ?_) (fun hf _ => ?_)
      · have ee1 := Option.some.inj hf
        subst ee1
        exact z_sub [0, 1, 2] rfl hk
      · refine z_aload_n F 0 dX12_countsOrders_40 rfl rfl ?_
        refine z_get F 0 12 33 inlX12 rfl rfl (by decide) fl_X12_64 rfl dX12_countsOrders_41 ?_
        refine z_iload_n F 2 dX12_countsOrders_44 rfl rfl ?_
        refine z_dup2 F rfl rfl dX12_countsOrders_45 ?_
        refine z_iald F 2 rfl hf dX12_countsOrders_46 (fun v_2 hf => ?_)
        refine z_aload_n F 0 dX12_countsOrders_47 rfl rfl ?_
        refine z_iload_n F 2 dX12_countsOrders_48 rfl rfl ?_
        refine z_iload_n F 3 dX12_countsOrders_49 rfl rfl ?_
        obtain ⟨r_3, hg, hf⟩ := zb1_some hf
        refine z_callVm (rest := [.int v_2, .int v2, .ref a_ordersOf]) F 12 (c_M_mayBe (xL X) G a_this a_height a_changeAt a_changeWas a_changeIs a_tape a_text a_names a_line a_row a_pastMany a_past a_changed a_greatest a_numbersWere a_told a_waysOf a_waysWere a_blocks a_ordersOf a_imageLine a_bodyKind a_trace a_shelf a_many a_items a_carried people keptMany done tapeMany textMany base at_ ends fault opened lineMany rowMany taller tallerBy pasts isKept imageMany bodies ran ownKind ownNumber blocks v2 v3 r_3 hg) hy_X12_mayBe ml_X12_306 hd_X12_mayBe ⟨by omega, by omega⟩ rfl [0, 1] rfl rfl 0 rfl rfl (w_M_countsOrders G a_this a_height a_changeAt a_changeWas a_changeIs a_tape a_text a_names a_line a_row a_pastMany a_past a_changed a_greatest a_numbersWere a_told a_waysOf a_waysWere a_blocks a_ordersOf a_imageLine a_bodyKind a_trace a_shelf a_many a_items a_carried people keptMany done tapeMany textMany base at_ ends fault opened lineMany rowMany taller tallerBy pasts isKept imageMany bodies ran ownKind ownNumber blocks ordersOf) [some 0, some 1, none] rfl (by decide +kernel) rfl rfl (Nat.le_of_ble_eq_true rfl) dX12_countsOrders_50 (fun hz_4 => ?_)
        refine z_if_eq F 71 dX12_countsOrders_53 (by decide) hf (fun hf _ => ?_) (fun hf _ => ?_)
        · refine z_iconst F (0) dX12_countsOrders_71 rfl ?_
          refine z_iadd F dX12_countsOrders_72 ?_
          refine z_iast F 2 (fun ordersOf_5 => (w_M_countsOrders G a_this a_height a_changeAt a_changeWas a_changeIs a_tape a_text a_names a_line a_row a_pastMany a_past a_changed a_greatest a_numbersWere a_told a_waysOf a_waysWere a_blocks a_ordersOf a_imageLine a_bodyKind a_trace a_shelf a_many a_items a_carried people keptMany done tapeMany textMany base at_ ends fault opened lineMany rowMany taller tallerBy pasts isKept imageMany bodies ran ownKind ownNumber blocks ordersOf_5)) rfl hf (fun _ => rfl) dX12_countsOrders_73 (fun ordersOf_5 hf => ?_)
          refine z_iinc F [(3, .int (v3 + 1)), (0, .ref a_this), (1, .int v1), (2, .int v2)] dX12_countsOrders_74 3 rfl rfl (by decide) rfl ?_
          refine z_goto F 24 dX12_countsOrders_77 (by decide) ?_
          exact z_sub [1, 2, 3, 0] rfl (ih ordersOf_5 (v3 + 1) hf)
        · refine z_aload_n F 0 dX12_countsOrders_56 rfl rfl ?_
          refine z_get F 0 12 33 inlX12 rfl rfl (by decide) fl_X12_64 rfl dX12_countsOrders_57 ?_
          refine z_iload_n F 2 dX12_countsOrders_60 rfl rfl ?_
          refine z_iconst F (1) dX12_countsOrders_61 rfl ?_
          refine z_iload_n F 3 dX12_countsOrders_62 rfl rfl ?_
          refine z_ishl F dX12_countsOrders_63 ?_
          refine z_iconst F (-1) dX12_countsOrders_64 rfl ?_
          refine z_ixor F dX12_countsOrders_65 ?_
          refine z_iand F dX12_countsOrders_66 ?_
          refine z_iald F 2 rfl hf dX12_countsOrders_67 (fun v_6 hf => ?_)
          refine z_goto F 72 dX12_countsOrders_68 (by decide) ?_
          refine z_iadd F dX12_countsOrders_72 ?_
          refine z_iast F 2 (fun ordersOf_7 => (w_M_countsOrders G a_this a_height a_changeAt a_changeWas a_changeIs a_tape a_text a_names a_line a_row a_pastMany a_past a_changed a_greatest a_numbersWere a_told a_waysOf a_waysWere a_blocks a_ordersOf a_imageLine a_bodyKind a_trace a_shelf a_many a_items a_carried people keptMany done tapeMany textMany base at_ ends fault opened lineMany rowMany taller tallerBy pasts isKept imageMany bodies ran ownKind ownNumber blocks ordersOf_7)) rfl hf (fun _ => rfl) dX12_countsOrders_73 (fun ordersOf_7 hf => ?_)
          refine z_iinc F [(3, .int (v3 + 1)), (0, .ref a_this), (1, .int v1), (2, .int v2)] dX12_countsOrders_74 3 rfl rfl (by decide) rfl ?_
          refine z_goto F 24 dX12_countsOrders_77 (by decide) ?_
          exact z_sub [1, 2, 3, 0] rfl (ih ordersOf_7 (v3 + 1) hf)

set_option maxRecDepth 100000 in
set_option maxHeartbeats 4000000 in
theorem l_M_countsOrders_2 {X : zX} (G : zG) (a_this : Nat) (a_height : Nat) (a_changeAt : Nat) (a_changeWas : Nat) (a_changeIs : Nat) (a_tape : Nat) (a_text : Nat) (a_names : Nat) (a_line : Nat) (a_row : Nat) (a_pastMany : Nat) (a_past : Nat) (a_changed : Nat) (a_greatest : Nat) (a_numbersWere : Nat) (a_told : Nat) (a_waysOf : Nat) (a_waysWere : Nat) (a_blocks : Nat) (a_ordersOf : Nat) (a_imageLine : Nat) (a_bodyKind : Nat) (a_trace : Nat) (a_shelf : Nat) (a_many : Nat) (a_items : Nat) (a_carried : Nat) (people : Int32) (keptMany : Int32) (done : Int32) (tapeMany : Int32) (textMany : Int32) (base : Int32) (at_ : Int32) (ends : Int32) (fault : Int32) (opened : Int32) (lineMany : Int32) (rowMany : Int32) (taller : Int32) (tallerBy : Int32) (pasts : Int32) (isKept : Int32) (imageMany : Int32) (bodies : Int32) (ran : Int32) (ownKind : Int32) (ownNumber : Int32) (blocks : Nat → Int32) (v1 : Int32) {v0 : Option Value} {w0 : va_W} (F : zF X G cX12_countsOrders RX12 4 none 2 43 v0 w0) (e_ordersOf : Nat → Int32) (hk : Z X G 4 (w_M_countsOrders G a_this a_height a_changeAt a_changeWas a_changeIs a_tape a_text a_names a_line a_row a_pastMany a_past a_changed a_greatest a_numbersWere a_told a_waysOf a_waysWere a_blocks a_ordersOf a_imageLine a_bodyKind a_trace a_shelf a_many a_items a_carried people keptMany done tapeMany textMany base at_ ends fault opened lineMany rowMany taller tallerBy pasts isKept imageMany bodies ran ownKind ownNumber blocks e_ordersOf) [] 86 []) :
    ∀ (fuel : Nat) (ordersOf : Nat → Int32) (v2 : Int32), f_M_countsOrders_L2 people blocks v1 fuel ordersOf v2 = some e_ordersOf → Z X G 4 (w_M_countsOrders G a_this a_height a_changeAt a_changeWas a_changeIs a_tape a_text a_names a_line a_row a_pastMany a_past a_changed a_greatest a_numbersWere a_told a_waysOf a_waysWere a_blocks a_ordersOf a_imageLine a_bodyKind a_trace a_shelf a_many a_items a_carried people keptMany done tapeMany textMany base at_ ends fault opened lineMany rowMany taller tallerBy pasts isKept imageMany bodies ran ownKind ownNumber blocks ordersOf) [(0, .ref a_this), (1, .int v1), (2, .int v2)] 2 [] := by
  intro fuel
  induction fuel with
  | zero => intro ordersOf v2 hf; exact absurd ((f_M_countsOrders_L2.eq_1 ..).symm.trans hf) (fun h => by cases h)
  | succ fuel ih =>
    intro ordersOf v2 hf
    replace hf := (f_M_countsOrders_L2.eq_2 ..).symm.trans hf
    refine z_iload_n F 2 dX12_countsOrders_2 rfl rfl ?_
    refine z_iload_n F 1 dX12_countsOrders_3 rfl rfl ?_
    refine z_icmp_gt F 86 dX12_countsOrders_4 (by decide) hf (fun hf _ => ?_) (fun hf _ => ?_)
    · have ee1 := Option.some.inj hf
      subst ee1
      exact z_sub [] rfl hk
    · refine z_aload_n F 0 dX12_countsOrders_7 rfl rfl ?_
      refine z_get F 0 12 33 inlX12 rfl rfl (by decide) fl_X12_64 rfl dX12_countsOrders_8 ?_
      refine z_iload_n F 2 dX12_countsOrders_11 rfl rfl ?_
      refine z_iload_n F 2 dX12_countsOrders_12 rfl rfl ?_
      refine z_if_ne F 20 dX12_countsOrders_13 (by decide) hf (fun hf _ => ?_) (fun hf _ => ?_)
      · refine z_iconst F (0) dX12_countsOrders_20 rfl ?_
        refine z_iast F 2 (fun ordersOf_1 => (w_M_countsOrders G a_this a_height a_changeAt a_changeWas a_changeIs a_tape a_text a_names a_line a_row a_pastMany a_past a_changed a_greatest a_numbersWere a_told a_waysOf a_waysWere a_blocks a_ordersOf a_imageLine a_bodyKind a_trace a_shelf a_many a_items a_carried people keptMany done tapeMany textMany base at_ ends fault opened lineMany rowMany taller tallerBy pasts isKept imageMany bodies ran ownKind ownNumber blocks ordersOf_1)) rfl hf (fun _ => rfl) dX12_countsOrders_21 (fun ordersOf_1 hf => ?_)
        refine z_iconst F (0) dX12_countsOrders_22 rfl ?_
        refine z_istore_n F [(3, .int 0), (0, .ref a_this), (1, .int v1), (2, .int v2)] dX12_countsOrders_23 rfl (by decide) rfl ?_
        obtain ⟨ordersOf_8, hg, hf⟩ := zb1_some hf
        refine z_sub [1, 2, 3, 0] rfl ?_
        refine l_M_countsOrders_24 G a_this a_height a_changeAt a_changeWas a_changeIs a_tape a_text a_names a_line a_row a_pastMany a_past a_changed a_greatest a_numbersWere a_told a_waysOf a_waysWere a_blocks a_ordersOf a_imageLine a_bodyKind a_trace a_shelf a_many a_items a_carried people keptMany done tapeMany textMany base at_ ends fault opened lineMany rowMany taller tallerBy pasts isKept imageMany bodies ran ownKind ownNumber blocks v1 v2 F ordersOf_8 ?_ FU ordersOf_1 0 hg
        refine z_iinc F [(2, .int (v2 + 1)), (0, .ref a_this), (1, .int v1)] dX12_countsOrders_80 2 rfl rfl (by decide) rfl ?_
        refine z_goto F 2 dX12_countsOrders_83 (by decide) ?_
        exact z_sub [1, 2, 0] rfl (ih ordersOf_8 (v2 + 1) hf)
      · refine z_iconst F (1) dX12_countsOrders_16 rfl ?_
        refine z_goto F 21 dX12_countsOrders_17 (by decide) ?_
        refine z_iast F 2 (fun ordersOf_9 => (w_M_countsOrders G a_this a_height a_changeAt a_changeWas a_changeIs a_tape a_text a_names a_line a_row a_pastMany a_past a_changed a_greatest a_numbersWere a_told a_waysOf a_waysWere a_blocks a_ordersOf a_imageLine a_bodyKind a_trace a_shelf a_many a_items a_carried people keptMany done tapeMany textMany base at_ ends fault opened lineMany rowMany taller tallerBy pasts isKept imageMany bodies ran ownKind ownNumber blocks ordersOf_9)) rfl hf (fun _ => rfl) dX12_countsOrders_21 (fun ordersOf_9 hf => ?_)
        refine z_iconst F (0) dX12_countsOrders_22 rfl ?_
        refine z_istore_n F [(3, .int 0), (0, .ref a_this), (1, .int v1), (2, .int v2)] dX12_countsOrders_23 rfl (by decide) rfl ?_
        obtain ⟨ordersOf_10, hg, hf⟩ := zb1_some hf
        refine z_sub [1, 2, 3, 0] rfl ?_
        refine l_M_countsOrders_24 G a_this a_height a_changeAt a_changeWas a_changeIs a_tape a_text a_names a_line a_row a_pastMany a_past a_changed a_greatest a_numbersWere a_told a_waysOf a_waysWere a_blocks a_ordersOf a_imageLine a_bodyKind a_trace a_shelf a_many a_items a_carried people keptMany done tapeMany textMany base at_ ends fault opened lineMany rowMany taller tallerBy pasts isKept imageMany bodies ran ownKind ownNumber blocks v1 v2 F ordersOf_10 ?_ FU ordersOf_9 0 hg
        refine z_iinc F [(2, .int (v2 + 1)), (0, .ref a_this), (1, .int v1)] dX12_countsOrders_80 2 rfl rfl (by decide) rfl ?_
        refine z_goto F 2 dX12_countsOrders_83 (by decide) ?_
        exact z_sub [1, 2, 0] rfl (ih ordersOf_10 (v2 + 1) hf)

set_option maxRecDepth 100000 in
set_option maxHeartbeats 4000000 in
theorem c_M_countsOrders (l : Launch) (G : zG) (a_this : Nat) (a_height : Nat) (a_changeAt : Nat) (a_changeWas : Nat) (a_changeIs : Nat) (a_tape : Nat) (a_text : Nat) (a_names : Nat) (a_line : Nat) (a_row : Nat) (a_pastMany : Nat) (a_past : Nat) (a_changed : Nat) (a_greatest : Nat) (a_numbersWere : Nat) (a_told : Nat) (a_waysOf : Nat) (a_waysWere : Nat) (a_blocks : Nat) (a_ordersOf : Nat) (a_imageLine : Nat) (a_bodyKind : Nat) (a_trace : Nat) (a_shelf : Nat) (a_many : Nat) (a_items : Nat) (a_carried : Nat) (people : Int32) (keptMany : Int32) (done : Int32) (tapeMany : Int32) (textMany : Int32) (base : Int32) (at_ : Int32) (ends : Int32) (fault : Int32) (opened : Int32) (lineMany : Int32) (rowMany : Int32) (taller : Int32) (tallerBy : Int32) (pasts : Int32) (isKept : Int32) (imageMany : Int32) (bodies : Int32) (ran : Int32) (ownKind : Int32) (ownNumber : Int32) (blocks : Nat → Int32) (ordersOf : Nat → Int32) (x1 : Int32) (o_ordersOf : Nat → Int32) (hf : f_M_countsOrders people blocks ordersOf x1 = some o_ordersOf) : zM l yX12_countsOrders cX12_countsOrders 4 none 2 43 G [.ref a_this, .int x1] (w_M_countsOrders G a_this a_height a_changeAt a_changeWas a_changeIs a_tape a_text a_names a_line a_row a_pastMany a_past a_changed a_greatest a_numbersWere a_told a_waysOf a_waysWere a_blocks a_ordersOf a_imageLine a_bodyKind a_trace a_shelf a_many a_items a_carried people keptMany done tapeMany textMany base at_ ends fault opened lineMany rowMany taller tallerBy pasts isKept imageMany bodies ran ownKind ownNumber blocks ordersOf) (none) (w_M_countsOrders G a_this a_height a_changeAt a_changeWas a_changeIs a_tape a_text a_names a_line a_row a_pastMany a_past a_changed a_greatest a_numbersWere a_told a_waysOf a_waysWere a_blocks a_ordersOf a_imageLine a_bodyKind a_trace a_shelf a_many a_items a_carried people keptMany done tapeMany textMany base at_ ends fault opened lineMany rowMany taller tallerBy pasts isKept imageMany bodies ran ownKind ownNumber blocks o_ordersOf) := by
  refine zM.of [(0, .ref a_this), (1, .int x1)] (own := RX12) rfl (by decide +kernel) (Nat.le_of_ble_eq_true rfl) rfl rfl fun X hX F => ?_
  subst hX
  replace hf := (f_M_countsOrders.eq_1 ..).symm.trans hf
  refine z_iconst F (0) dX12_countsOrders_0 rfl ?_
  refine z_istore_n F [(2, .int 0), (0, .ref a_this), (1, .int x1)] dX12_countsOrders_1 rfl (by decide) rfl ?_
  obtain ⟨ordersOf_11, hg, hf⟩ := zb1_some hf
  refine z_sub [1, 2, 0] rfl ?_
  refine l_M_countsOrders_2 G a_this a_height a_changeAt a_changeWas a_changeIs a_tape a_text a_names a_line a_row a_pastMany a_past a_changed a_greatest a_numbersWere a_told a_waysOf a_waysWere a_blocks a_ordersOf a_imageLine a_bodyKind a_trace a_shelf a_many a_items a_carried people keptMany done tapeMany textMany base at_ ends fault opened lineMany rowMany taller tallerBy pasts isKept imageMany bodies ran ownKind ownNumber blocks x1 F ordersOf_11 ?_ FU ordersOf 0 hg
  have ee1 := Option.some.inj hf
  subst ee1
  exact z_vret F rfl rfl rfl dX12_countsOrders_86

abbrev w_M_right (G : zG) (a_this : Nat) (a_height : Nat) (a_changeAt : Nat) (a_changeWas : Nat) (a_changeIs : Nat) (a_tape : Nat) (a_text : Nat) (a_names : Nat) (a_line : Nat) (a_row : Nat) (a_pastMany : Nat) (a_past : Nat) (a_changed : Nat) (a_greatest : Nat) (a_numbersWere : Nat) (a_told : Nat) (a_waysOf : Nat) (a_waysWere : Nat) (a_blocks : Nat) (a_ordersOf : Nat) (a_imageLine : Nat) (a_bodyKind : Nat) (a_trace : Nat) (a_shelf : Nat) (a_many : Nat) (a_items : Nat) (a_carried : Nat) (people : Int32) (keptMany : Int32) (done : Int32) (tapeMany : Int32) (textMany : Int32) (base : Int32) (at_ : Int32) (ends : Int32) (fault : Int32) (opened : Int32) (lineMany : Int32) (rowMany : Int32) (taller : Int32) (tallerBy : Int32) (pasts : Int32) (isKept : Int32) (imageMany : Int32) (bodies : Int32) (ran : Int32) (ownKind : Int32) (ownNumber : Int32) (height : Nat → Int32) (tape : Nat → Int32) (text : Nat → Int32) (names : Nat → Int32) (line : Nat → Int32) (row : Nat → Int32) (blocks : Nat → Int32) (ordersOf : Nat → Int32) : va_W := [(a_this, cO 12 [.int people, .ref a_height, .ref a_changeAt, .ref a_changeWas, .ref a_changeIs, .int keptMany, .int done, .ref a_tape, .int tapeMany, .ref a_text, .int textMany, .int base, .int at_, .int ends, .int fault, .int opened, .ref a_names, .ref a_line, .int lineMany, .ref a_row, .int rowMany, .int taller, .int tallerBy, .ref a_pastMany, .ref a_past, .int pasts, .ref a_changed, .ref a_greatest, .ref a_numbersWere, .ref a_told, .ref a_waysOf, .ref a_waysWere, .ref a_blocks, .ref a_ordersOf, .int isKept, .int imageMany, .ref a_imageLine, .int bodies, .ref a_bodyKind, .ref a_trace, .int ran, .int ownKind, .int ownNumber, .ref a_shelf, .ref a_many, .ref a_items, .ref a_carried]), (a_height, cI G 9 height), (a_tape, cI G 120 tape), (a_text, cI G 120 text), (a_names, cI G 5 names), (a_line, cI G 9 line), (a_row, cI G 9 row), (a_blocks, cI G 9 blocks), (a_ordersOf, cI G 512 ordersOf)]
def f_M_right_L118 (blocks : Nat → Int32) (ordersOf : Nat → Int32) (v2 : Int32) : Nat → Int32 → Int32 → Option Int32
  | 0, _, _ => none
  | fuel + 1, v3, v5 => (if v5 < 0 then (some v3) else (zb1 (f_M_mayBe blocks v2 v5) fun r_17 => (if r_17 = 0 then (f_M_right_L118 blocks ordersOf v2 fuel v3 (v5 + (-1))) else (zg ordersOf 512 (v2 &&& (((1 : Int32) <<< (v5 &&& 31)) ^^^ ((-1) : Int32))) fun v_19 => (if v_19 ≤ 0 then (f_M_right_L118 blocks ordersOf v2 fuel v3 (v5 + (-1))) else (f_M_right_L118 blocks ordersOf v2 fuel v5 (v5 + (-1))))))))
def f_M_right_L101 (people : Int32) (base : Int32) (at_ : Int32) (ends : Int32) (fault : Int32) (opened : Int32) (rowMany : Int32) (taller : Int32) (names : Nat → Int32) (row : Nat → Int32) (blocks : Nat → Int32) (ordersOf : Nat → Int32) (v1 : Int32) : Nat → Int32 → Int32 → Int32 → Option (((Int32) ⊕ (Int32 × Int32 × Int32 × Int32 × Int32 × Int32 × Int32 × Int32 × (Nat → Int32) × (Nat → Int32) × (Nat → Int32) × (Nat → Int32))))
  | 0, _, _, _ => none
  | fuel + 1, v2, v3, v4 => (if v1 < v4 then (some (.inl v3)) else (zb1 (f_M_right_L118 blocks ordersOf v2 FU (-2) (people - (1 : Int32))) fun v3_20 => (if (0 : Int32) ≤ v3_20 then (f_M_right_L101 people base at_ ends fault opened rowMany taller names row blocks ordersOf v1 fuel (v2 &&& (((1 : Int32) <<< (v3_20 &&& 31)) ^^^ ((-1) : Int32))) v3_20 (v4 + 1)) else (some (.inr ((-2), base, at_, ends, fault, opened, rowMany, taller, names, row, blocks, ordersOf))))))
def f_M_right_L40 (people : Int32) (blocks : Nat → Int32) (v2 : Int32) : Nat → Int32 → Int32 → Option Int32
  | 0, _, _ => none
  | fuel + 1, v3, v4 => (if people ≤ v4 then (some v3) else (zb1 (f_M_mayBe blocks v2 v4) fun r_26 => (if r_26 = 0 then (f_M_right_L40 people blocks v2 fuel (v3 ||| (0 : Int32)) (v4 + 1)) else (f_M_right_L40 people blocks v2 fuel (v3 ||| ((1 : Int32) <<< (v4 &&& 31))) (v4 + 1)))))
def f_M_right (people : Int32) (textMany : Int32) (base : Int32) (at_ : Int32) (ends : Int32) (fault : Int32) (opened : Int32) (lineMany : Int32) (rowMany : Int32) (taller : Int32) (tallerBy : Int32) (height : Nat → Int32) (tape : Nat → Int32) (text : Nat → Int32) (names : Nat → Int32) (line : Nat → Int32) (row : Nat → Int32) (blocks : Nat → Int32) (ordersOf : Nat → Int32) (x1 : Int32) : Option (Int32 × Int32 × Int32 × Int32 × Int32 × Int32 × Int32 × Int32 × (Nat → Int32) × (Nat → Int32) × (Nat → Int32) × (Nat → Int32)) := (if (f_M_within (Int32.toInt64 x1) ((-2) : Int64) (Int32.toInt64 (lineMany - (1 : Int32)))) = 0 then (some ((-1), base, at_, ends, fault, opened, rowMany, taller, names, row, blocks, ordersOf)) else (zb10 (f_M_asksBlocks textMany base at_ ends fault opened lineMany rowMany taller tallerBy height tape text names line row blocks) fun base_2 at__3 ends_4 fault_5 opened_6 rowMany_7 taller_8 names_9 row_10 blocks_11 => (zb1 (f_M_lineSet lineMany line) fun r_13 => (if x1 = (-2) then (zb1 (f_M_right_L40 people blocks_11 r_13 FU 0 0) fun v3_28 => (some (v3_28, base_2, at__3, ends_4, fault_5, opened_6, rowMany_7, taller_8, names_9, row_10, blocks_11, ordersOf))) else (zb1 (f_M_countsOrders people blocks_11 ordersOf r_13) fun ordersOf_15 => (if x1 = (-1) then (zg ordersOf_15 512 r_13 fun v_25 => (some (v_25, base_2, at__3, ends_4, fault_5, opened_6, rowMany_7, taller_8, names_9, row_10, blocks_11, ordersOf_15))) else (zbs1 (f_M_right_L101 people base_2 at__3 ends_4 fault_5 opened_6 rowMany_7 taller_8 names_9 row_10 blocks_11 ordersOf_15 x1 FU r_13 (-2) 0) (fun v3_21 => (some (v3_21, base_2, at__3, ends_4, fault_5, opened_6, rowMany_7, taller_8, names_9, row_10, blocks_11, ordersOf_15))) some)))))))
set_option maxRecDepth 100000 in
set_option maxHeartbeats 4000000 in
theorem l_M_right_118 {X : zX} (G : zG) (a_this : Nat) (a_height : Nat) (a_changeAt : Nat) (a_changeWas : Nat) (a_changeIs : Nat) (a_tape : Nat) (a_text : Nat) (a_names : Nat) (a_line : Nat) (a_row : Nat) (a_pastMany : Nat) (a_past : Nat) (a_changed : Nat) (a_greatest : Nat) (a_numbersWere : Nat) (a_told : Nat) (a_waysOf : Nat) (a_waysWere : Nat) (a_blocks : Nat) (a_ordersOf : Nat) (a_imageLine : Nat) (a_bodyKind : Nat) (a_trace : Nat) (a_shelf : Nat) (a_many : Nat) (a_items : Nat) (a_carried : Nat) (people : Int32) (keptMany : Int32) (done : Int32) (tapeMany : Int32) (textMany : Int32) (base : Int32) (at_ : Int32) (ends : Int32) (fault : Int32) (opened : Int32) (lineMany : Int32) (rowMany : Int32) (taller : Int32) (tallerBy : Int32) (pasts : Int32) (isKept : Int32) (imageMany : Int32) (bodies : Int32) (ran : Int32) (ownKind : Int32) (ownNumber : Int32) (height : Nat → Int32) (tape : Nat → Int32) (text : Nat → Int32) (names : Nat → Int32) (line : Nat → Int32) (row : Nat → Int32) (blocks : Nat → Int32) (ordersOf : Nat → Int32) (v1 : Int32) (v2 : Int32) (v4 : Int32) {v0 : Option Value} {w0 : va_W} (F : zF X G cX12_right RX12 6 (some .int) 153 3557 v0 w0) (e_v3 : Int32) (hk : Z X G 6 (w_M_right G a_this a_height a_changeAt a_changeWas a_changeIs a_tape a_text a_names a_line a_row a_pastMany a_past a_changed a_greatest a_numbersWere a_told a_waysOf a_waysWere a_blocks a_ordersOf a_imageLine a_bodyKind a_trace a_shelf a_many a_items a_carried people keptMany done tapeMany textMany base at_ ends fault opened lineMany rowMany taller tallerBy pasts isKept imageMany bodies ran ownKind ownNumber height tape text names line row blocks ordersOf) [(0, .ref a_this), (1, .int v1), (2, .int v2), (3, .int e_v3), (4, .int v4)] 162 []) :
    ∀ (fuel : Nat) (v3 : Int32) (v5 : Int32), f_M_right_L118 blocks ordersOf v2 fuel v3 v5 = some e_v3 → Z X G 6 (w_M_right G a_this a_height a_changeAt a_changeWas a_changeIs a_tape a_text a_names a_line a_row a_pastMany a_past a_changed a_greatest a_numbersWere a_told a_waysOf a_waysWere a_blocks a_ordersOf a_imageLine a_bodyKind a_trace a_shelf a_many a_items a_carried people keptMany done tapeMany textMany base at_ ends fault opened lineMany rowMany taller tallerBy pasts isKept imageMany bodies ran ownKind ownNumber height tape text names line row blocks ordersOf) [(0, .ref a_this), (1, .int v1), (2, .int v2), (3, .int v3), (4, .int v4), (5, .int v5)] 118 [] := by
  intro fuel
  induction fuel with
  | zero => intro v3 v5 hf; exact absurd ((f_M_right_L118.eq_1 ..).symm.trans hf) (fun h => by cases h)
  | succ fuel ih =>
    intro v3 v5 hf
    replace hf := (f_M_right_L118.eq_2 ..).symm.trans hf
    refine z_iload F 5 dX12_right_118 rfl ?_
    refine z_if_lt F 162 dX12_right_120 (by decide) hf (fun hf _ => ?_) (fun hf _ => ?_)
    · have ee1 := Option.some.inj hf
      subst ee1
      exact z_sub [0, 1, 2, 3, 4] rfl hk
    · refine z_aload_n F 0 dX12_right_123 rfl rfl ?_
      refine z_iload_n F 2 dX12_right_124 rfl rfl ?_
      refine z_iload F 5 dX12_right_125 rfl ?_
      obtain ⟨r_17, hg, hf⟩ := zb1_some hf
      refine z_callVm (rest := []) F 12 (c_M_mayBe (xL X) G a_this a_height a_changeAt a_changeWas a_changeIs a_tape a_text a_names a_line a_row a_pastMany a_past a_changed a_greatest a_numbersWere a_told a_waysOf a_waysWere a_blocks a_ordersOf a_imageLine a_bodyKind a_trace a_shelf a_many a_items a_carried people keptMany done tapeMany textMany base at_ ends fault opened lineMany rowMany taller tallerBy pasts isKept imageMany bodies ran ownKind ownNumber blocks v2 v5 r_17 hg) hy_X12_mayBe ml_X12_306 hd_X12_mayBe ⟨by omega, by omega⟩ rfl [0, 7] rfl rfl 0 rfl rfl (w_M_right G a_this a_height a_changeAt a_changeWas a_changeIs a_tape a_text a_names a_line a_row a_pastMany a_past a_changed a_greatest a_numbersWere a_told a_waysOf a_waysWere a_blocks a_ordersOf a_imageLine a_bodyKind a_trace a_shelf a_many a_items a_carried people keptMany done tapeMany textMany base at_ ends fault opened lineMany rowMany taller tallerBy pasts isKept imageMany bodies ran ownKind ownNumber height tape text names line row blocks ordersOf) [some 0, none, none, none, none, none, none, some 1, none] rfl (by decide +kernel) rfl rfl (Nat.le_of_ble_eq_true rfl) dX12_right_127 (fun hz_18 => ?_)
      refine z_if_eq F 154 dX12_right_130 (by decide) hf (fun hf _ => ?_) (fun hf _ => ?_)
      · refine z_iload_n F 3 dX12_right_154 rfl rfl ?_
        refine z_istore_n F [(3, .int v3), (0, .ref a_this), (1, .int v1), (2, .int v2), (4, .int v4), (5, .int v5)] dX12_right_155 rfl (by decide) rfl ?_
        refine z_iinc F [(5, .int (v5 + (-1))), (3, .int v3), (0, .ref a_this), (1, .int v1), (2, .int v2), (4, .int v4)] dX12_right_156 5 rfl rfl (by decide) rfl ?_
        refine z_goto F 118 dX12_right_159 (by decide) ?_
        exact z_sub [2, 3, 4, 1, 5, 0] rfl (ih v3 (v5 + (-1)) hf)
      · refine z_aload_n F 0 dX12_right_133 rfl rfl ?_
        refine z_get F 0 12 33 inlX12 rfl rfl (by decide) fl_X12_64 rfl dX12_right_134 ?_
        refine z_iload_n F 2 dX12_right_137 rfl rfl ?_
        refine z_iconst F (1) dX12_right_138 rfl ?_
        refine z_iload F 5 dX12_right_139 rfl ?_
        refine z_ishl F dX12_right_141 ?_
        refine z_iconst F (-1) dX12_right_142 rfl ?_
        refine z_ixor F dX12_right_143 ?_
        refine z_iand F dX12_right_144 ?_
        refine z_iald F 8 rfl hf dX12_right_145 (fun v_19 hf => ?_)
        refine z_if_le F 154 dX12_right_146 (by decide) hf (fun hf _ => ?_) (fun hf _ => ?_)
        · refine z_iload_n F 3 dX12_right_154 rfl rfl ?_
          refine z_istore_n F [(3, .int v3), (0, .ref a_this), (1, .int v1), (2, .int v2), (4, .int v4), (5, .int v5)] dX12_right_155 rfl (by decide) rfl ?_
          refine z_iinc F [(5, .int (v5 + (-1))), (3, .int v3), (0, .ref a_this), (1, .int v1), (2, .int v2), (4, .int v4)] dX12_right_156 5 rfl rfl (by decide) rfl ?_
          refine z_goto F 118 dX12_right_159 (by decide) ?_
          exact z_sub [2, 3, 4, 1, 5, 0] rfl (ih v3 (v5 + (-1)) hf)
        · refine z_iload F 5 dX12_right_149 rfl ?_
          refine z_goto F 155 dX12_right_151 (by decide) ?_
          refine z_istore_n F [(3, .int v5), (0, .ref a_this), (1, .int v1), (2, .int v2), (4, .int v4), (5, .int v5)] dX12_right_155 rfl (by decide) rfl ?_
          refine z_iinc F [(5, .int (v5 + (-1))), (3, .int v5), (0, .ref a_this), (1, .int v1), (2, .int v2), (4, .int v4)] dX12_right_156 5 rfl rfl (by decide) rfl ?_
          refine z_goto F 118 dX12_right_159 (by decide) ?_
          exact z_sub [2, 3, 4, 1, 5, 0] rfl (ih v5 (v5 + (-1)) hf)

set_option maxRecDepth 100000 in
set_option maxHeartbeats 4000000 in
theorem l_M_right_101 {X : zX} (G : zG) (a_this : Nat) (a_height : Nat) (a_changeAt : Nat) (a_changeWas : Nat) (a_changeIs : Nat) (a_tape : Nat) (a_text : Nat) (a_names : Nat) (a_line : Nat) (a_row : Nat) (a_pastMany : Nat) (a_past : Nat) (a_changed : Nat) (a_greatest : Nat) (a_numbersWere : Nat) (a_told : Nat) (a_waysOf : Nat) (a_waysWere : Nat) (a_blocks : Nat) (a_ordersOf : Nat) (a_imageLine : Nat) (a_bodyKind : Nat) (a_trace : Nat) (a_shelf : Nat) (a_many : Nat) (a_items : Nat) (a_carried : Nat) (people : Int32) (keptMany : Int32) (done : Int32) (tapeMany : Int32) (textMany : Int32) (base : Int32) (at_ : Int32) (ends : Int32) (fault : Int32) (opened : Int32) (lineMany : Int32) (rowMany : Int32) (taller : Int32) (tallerBy : Int32) (pasts : Int32) (isKept : Int32) (imageMany : Int32) (bodies : Int32) (ran : Int32) (ownKind : Int32) (ownNumber : Int32) (height : Nat → Int32) (tape : Nat → Int32) (text : Nat → Int32) (names : Nat → Int32) (line : Nat → Int32) (row : Nat → Int32) (blocks : Nat → Int32) (ordersOf : Nat → Int32) (v1 : Int32) {v0 : Option Value} {w0 : va_W} (F : zF X G cX12_right RX12 6 (some .int) 153 3557 v0 w0) (out : ((Int32) ⊕ (Int32 × Int32 × Int32 × Int32 × Int32 × Int32 × Int32 × Int32 × (Nat → Int32) × (Nat → Int32) × (Nat → Int32) × (Nat → Int32)))) (hk : ∀ (e_v3 : Int32), out = .inl e_v3 → Z X G 6 (w_M_right G a_this a_height a_changeAt a_changeWas a_changeIs a_tape a_text a_names a_line a_row a_pastMany a_past a_changed a_greatest a_numbersWere a_told a_waysOf a_waysWere a_blocks a_ordersOf a_imageLine a_bodyKind a_trace a_shelf a_many a_items a_carried people keptMany done tapeMany textMany base at_ ends fault opened lineMany rowMany taller tallerBy pasts isKept imageMany bodies ran ownKind ownNumber height tape text names line row blocks ordersOf) [(3, .int e_v3)] 183 []) (hr : ∀ q : Int32 × Int32 × Int32 × Int32 × Int32 × Int32 × Int32 × Int32 × (Nat → Int32) × (Nat → Int32) × (Nat → Int32) × (Nat → Int32), out = .inr q → v0 = some (.int q.1) ∧ w0 = (w_M_right G a_this a_height a_changeAt a_changeWas a_changeIs a_tape a_text a_names a_line a_row a_pastMany a_past a_changed a_greatest a_numbersWere a_told a_waysOf a_waysWere a_blocks a_ordersOf a_imageLine a_bodyKind a_trace a_shelf a_many a_items a_carried people keptMany done tapeMany textMany (q.2.1) (q.2.2.1) (q.2.2.2.1) (q.2.2.2.2.1) (q.2.2.2.2.2.1) lineMany (q.2.2.2.2.2.2.1) (q.2.2.2.2.2.2.2.1) tallerBy pasts isKept imageMany bodies ran ownKind ownNumber height tape text (q.2.2.2.2.2.2.2.2.1) line (q.2.2.2.2.2.2.2.2.2.1) (q.2.2.2.2.2.2.2.2.2.2.1) (q.2.2.2.2.2.2.2.2.2.2.2))) :
    ∀ (fuel : Nat) (v2 : Int32) (v3 : Int32) (v4 : Int32), f_M_right_L101 people base at_ ends fault opened rowMany taller names row blocks ordersOf v1 fuel v2 v3 v4 = some out → Z X G 6 (w_M_right G a_this a_height a_changeAt a_changeWas a_changeIs a_tape a_text a_names a_line a_row a_pastMany a_past a_changed a_greatest a_numbersWere a_told a_waysOf a_waysWere a_blocks a_ordersOf a_imageLine a_bodyKind a_trace a_shelf a_many a_items a_carried people keptMany done tapeMany textMany base at_ ends fault opened lineMany rowMany taller tallerBy pasts isKept imageMany bodies ran ownKind ownNumber height tape text names line row blocks ordersOf) [(0, .ref a_this), (1, .int v1), (2, .int v2), (3, .int v3), (4, .int v4)] 101 [] := by
  intro fuel
  induction fuel with
  | zero => intro v2 v3 v4 hf; exact absurd ((f_M_right_L101.eq_1 ..).symm.trans hf) (fun h => by cases h)
  | succ fuel ih =>
    intro v2 v3 v4 hf
    replace hf := (f_M_right_L101.eq_2 ..).symm.trans hf
    refine z_iload F 4 dX12_right_101 rfl ?_
    refine z_iload_n F 1 dX12_right_103 rfl rfl ?_
    refine z_icmp_gt F 183 dX12_right_104 (by decide) hf (fun hf _ => ?_) (fun hf _ => ?_)
    · exact z_sub [3] rfl (hk _ (Option.some.inj hf).symm)
    · refine z_bipush F (-2) dX12_right_107 rfl ?_
      refine z_istore_n F [(3, .int (-2)), (0, .ref a_this), (1, .int v1), (2, .int v2), (4, .int v4)] dX12_right_109 rfl (by decide) rfl ?_
      refine z_aload_n F 1 dX12_right_110 rfl rfl ?_
      refine z_get F 0 12 0 inlX12 rfl rfl (by decide) fl_X12_93 rfl dX12_right_111 ?_
      refine z_iconst F (1) dX12_right_114 rfl ?_
      refine z_isub F dX12_right_115 ?_
      refine z_istore F [(5, .int (people - (1 : Int32))), (3, .int (-2)), (0, .ref a_this), (1, .int v1), (2, .int v2), (4, .int v4)] dX12_right_116 (by decide) rfl ?_
      obtain ⟨v3_20, hg, hf⟩ := zb1_some hf
      refine z_sub [2, 3, 4, 1, 5, 0] rfl ?_
      refine l_M_right_118 G a_this a_height a_changeAt a_changeWas a_changeIs a_tape a_text a_names a_line a_row a_pastMany a_past a_changed a_greatest a_numbersWere a_told a_waysOf a_waysWere a_blocks a_ordersOf a_imageLine a_bodyKind a_trace a_shelf a_many a_items a_carried people keptMany done tapeMany textMany base at_ ends fault opened lineMany rowMany taller tallerBy pasts isKept imageMany bodies ran ownKind ownNumber height tape text names line row blocks ordersOf v1 v2 v4 F v3_20 ?_ FU (-2) (people - (1 : Int32)) hg
      refine z_iload_n F 3 dX12_right_162 rfl rfl ?_
      refine z_if_ge F 169 dX12_right_163 (by decide) hf (fun hf _ => ?_) (fun hf _ => ?_)
      · refine z_iload_n F 2 dX12_right_169 rfl rfl ?_
        refine z_iconst F (1) dX12_right_170 rfl ?_
        refine z_iload_n F 3 dX12_right_171 rfl rfl ?_
        refine z_ishl F dX12_right_172 ?_
        refine z_iconst F (-1) dX12_right_173 rfl ?_
        refine z_ixor F dX12_right_174 ?_
        refine z_iand F dX12_right_175 ?_
        refine z_istore_n F [(2, .int (v2 &&& (((1 : Int32) <<< (v3_20 &&& 31)) ^^^ ((-1) : Int32)))), (0, .ref a_this), (1, .int v1), (3, .int v3_20), (4, .int v4)] dX12_right_176 rfl (by decide) rfl ?_
        refine z_iinc F [(4, .int (v4 + 1)), (2, .int (v2 &&& (((1 : Int32) <<< (v3_20 &&& 31)) ^^^ ((-1) : Int32)))), (0, .ref a_this), (1, .int v1), (3, .int v3_20)] dX12_right_177 4 rfl rfl (by decide) rfl ?_
        refine z_goto F 101 dX12_right_180 (by decide) ?_
        exact z_sub [2, 3, 1, 4, 0] rfl (ih (v2 &&& (((1 : Int32) <<< (v3_20 &&& 31)) ^^^ ((-1) : Int32))) v3_20 (v4 + 1) hf)
      · refine z_bipush F (-2) dX12_right_166 rfl ?_
        obtain ⟨e1, e2⟩ := hr _ (Option.some.inj hf).symm
        exact z_iret F rfl rfl e1.symm e2.symm dX12_right_168

set_option maxRecDepth 100000 in
set_option maxHeartbeats 4000000 in
theorem l_M_right_40 {X : zX} (G : zG) (a_this : Nat) (a_height : Nat) (a_changeAt : Nat) (a_changeWas : Nat) (a_changeIs : Nat) (a_tape : Nat) (a_text : Nat) (a_names : Nat) (a_line : Nat) (a_row : Nat) (a_pastMany : Nat) (a_past : Nat) (a_changed : Nat) (a_greatest : Nat) (a_numbersWere : Nat) (a_told : Nat) (a_waysOf : Nat) (a_waysWere : Nat) (a_blocks : Nat) (a_ordersOf : Nat) (a_imageLine : Nat) (a_bodyKind : Nat) (a_trace : Nat) (a_shelf : Nat) (a_many : Nat) (a_items : Nat) (a_carried : Nat) (people : Int32) (keptMany : Int32) (done : Int32) (tapeMany : Int32) (textMany : Int32) (base : Int32) (at_ : Int32) (ends : Int32) (fault : Int32) (opened : Int32) (lineMany : Int32) (rowMany : Int32) (taller : Int32) (tallerBy : Int32) (pasts : Int32) (isKept : Int32) (imageMany : Int32) (bodies : Int32) (ran : Int32) (ownKind : Int32) (ownNumber : Int32) (height : Nat → Int32) (tape : Nat → Int32) (text : Nat → Int32) (names : Nat → Int32) (line : Nat → Int32) (row : Nat → Int32) (blocks : Nat → Int32) (ordersOf : Nat → Int32) (v2 : Int32) {v0 : Option Value} {w0 : va_W} (F : zF X G cX12_right RX12 6 (some .int) 153 3557 v0 w0) (e_v3 : Int32) (hk : Z X G 6 (w_M_right G a_this a_height a_changeAt a_changeWas a_changeIs a_tape a_text a_names a_line a_row a_pastMany a_past a_changed a_greatest a_numbersWere a_told a_waysOf a_waysWere a_blocks a_ordersOf a_imageLine a_bodyKind a_trace a_shelf a_many a_items a_carried people keptMany done tapeMany textMany base at_ ends fault opened lineMany rowMany taller tallerBy pasts isKept imageMany bodies ran ownKind ownNumber height tape text names line row blocks ordersOf) [(3, .int e_v3)] 76 []) :
    ∀ (fuel : Nat) (v3 : Int32) (v4 : Int32), f_M_right_L40 people blocks v2 fuel v3 v4 = some e_v3 → Z X G 6 (w_M_right G a_this a_height a_changeAt a_changeWas a_changeIs a_tape a_text a_names a_line a_row a_pastMany a_past a_changed a_greatest a_numbersWere a_told a_waysOf a_waysWere a_blocks a_ordersOf a_imageLine a_bodyKind a_trace a_shelf a_many a_items a_carried people keptMany done tapeMany textMany base at_ ends fault opened lineMany rowMany taller tallerBy pasts isKept imageMany bodies ran ownKind ownNumber height tape text names line row blocks ordersOf) [(0, .ref a_this), (2, .int v2), (3, .int v3), (4, .int v4)] 40 [] := by
  intro fuel
  induction fuel with
  | zero => intro v3 v4 hf; exact absurd ((f_M_right_L40.eq_1 ..).symm.trans hf) (fun h => by cases h)
  | succ fuel ih =>
    intro v3 v4 hf
    replace hf := (f_M_right_L40.eq_2 ..).symm.trans hf
    refine z_iload F 3 dX12_right_40 rfl ?_
    refine z_aload_n F 0 dX12_right_42 rfl rfl ?_
    refine z_get F 0 12 0 inlX12 rfl rfl (by decide) fl_X12_93 rfl dX12_right_43 ?_
    refine z_icmp_ge F 76 dX12_right_46 (by decide) hf (fun hf _ => ?_) (fun hf _ => ?_)
    · have ee1 := Option.some.inj hf
      subst ee1
      exact z_sub [2] rfl hk
    · refine z_iload_n F 2 dX12_right_49 rfl rfl ?_
      refine z_aload_n F 0 dX12_right_50 rfl rfl ?_
      refine z_iload_n F 1 dX12_right_51 rfl rfl ?_
      refine z_iload F 3 dX12_right_52 rfl ?_
      obtain ⟨r_26, hg, hf⟩ := zb1_some hf
      refine z_callVm (rest := [.int v3]) F 12 (c_M_mayBe (xL X) G a_this a_height a_changeAt a_changeWas a_changeIs a_tape a_text a_names a_line a_row a_pastMany a_past a_changed a_greatest a_numbersWere a_told a_waysOf a_waysWere a_blocks a_ordersOf a_imageLine a_bodyKind a_trace a_shelf a_many a_items a_carried people keptMany done tapeMany textMany base at_ ends fault opened lineMany rowMany taller tallerBy pasts isKept imageMany bodies ran ownKind ownNumber blocks v2 v4 r_26 hg) hy_X12_mayBe ml_X12_306 hd_X12_mayBe ⟨by omega, by omega⟩ rfl [0, 7] rfl rfl 0 rfl rfl (w_M_right G a_this a_height a_changeAt a_changeWas a_changeIs a_tape a_text a_names a_line a_row a_pastMany a_past a_changed a_greatest a_numbersWere a_told a_waysOf a_waysWere a_blocks a_ordersOf a_imageLine a_bodyKind a_trace a_shelf a_many a_items a_carried people keptMany done tapeMany textMany base at_ ends fault opened lineMany rowMany taller tallerBy pasts isKept imageMany bodies ran ownKind ownNumber height tape text names line row blocks ordersOf) [some 0, none, none, none, none, none, none, some 1, none] rfl (by decide +kernel) rfl rfl (Nat.le_of_ble_eq_true rfl) dX12_right_54 (fun hz_27 => ?_)
      refine z_if_eq F 67 dX12_right_57 (by decide) hf (fun hf _ => ?_) (fun hf _ => ?_)
      · refine z_iconst F (0) dX12_right_67 rfl ?_
        refine z_ior F dX12_right_68 ?_
        refine z_istore_n F [(3, .int (v3 ||| (0 : Int32))), (0, .ref a_this), (2, .int v2), (4, .int v4)] dX12_right_69 rfl (by decide) rfl ?_
        refine z_iinc F [(4, .int (v4 + 1)), (3, .int (v3 ||| (0 : Int32))), (0, .ref a_this), (2, .int v2)] dX12_right_70 3 rfl rfl (by decide) rfl ?_
        refine z_goto F 40 dX12_right_73 (by decide) ?_
        exact z_sub [2, 3, 1, 0] rfl (ih (v3 ||| (0 : Int32)) (v4 + 1) hf)
      · refine z_iconst F (1) dX12_right_60 rfl ?_
        refine z_iload F 3 dX12_right_61 rfl ?_
        refine z_ishl F dX12_right_63 ?_
        refine z_goto F 68 dX12_right_64 (by decide) ?_
        refine z_ior F dX12_right_68 ?_
        refine z_istore_n F [(3, .int (v3 ||| ((1 : Int32) <<< (v4 &&& 31)))), (0, .ref a_this), (2, .int v2), (4, .int v4)] dX12_right_69 rfl (by decide) rfl ?_
        refine z_iinc F [(4, .int (v4 + 1)), (3, .int (v3 ||| ((1 : Int32) <<< (v4 &&& 31)))), (0, .ref a_this), (2, .int v2)] dX12_right_70 3 rfl rfl (by decide) rfl ?_
        refine z_goto F 40 dX12_right_73 (by decide) ?_
        exact z_sub [2, 3, 1, 0] rfl (ih (v3 ||| ((1 : Int32) <<< (v4 &&& 31))) (v4 + 1) hf)

set_option maxRecDepth 100000 in
set_option maxHeartbeats 4000000 in
theorem c_M_right (l : Launch) (G : zG) (a_this : Nat) (a_height : Nat) (a_changeAt : Nat) (a_changeWas : Nat) (a_changeIs : Nat) (a_tape : Nat) (a_text : Nat) (a_names : Nat) (a_line : Nat) (a_row : Nat) (a_pastMany : Nat) (a_past : Nat) (a_changed : Nat) (a_greatest : Nat) (a_numbersWere : Nat) (a_told : Nat) (a_waysOf : Nat) (a_waysWere : Nat) (a_blocks : Nat) (a_ordersOf : Nat) (a_imageLine : Nat) (a_bodyKind : Nat) (a_trace : Nat) (a_shelf : Nat) (a_many : Nat) (a_items : Nat) (a_carried : Nat) (people : Int32) (keptMany : Int32) (done : Int32) (tapeMany : Int32) (textMany : Int32) (base : Int32) (at_ : Int32) (ends : Int32) (fault : Int32) (opened : Int32) (lineMany : Int32) (rowMany : Int32) (taller : Int32) (tallerBy : Int32) (pasts : Int32) (isKept : Int32) (imageMany : Int32) (bodies : Int32) (ran : Int32) (ownKind : Int32) (ownNumber : Int32) (height : Nat → Int32) (tape : Nat → Int32) (text : Nat → Int32) (names : Nat → Int32) (line : Nat → Int32) (row : Nat → Int32) (blocks : Nat → Int32) (ordersOf : Nat → Int32) (x1 : Int32) (r_ : Int32) (o_base : Int32) (o_at_ : Int32) (o_ends : Int32) (o_fault : Int32) (o_opened : Int32) (o_rowMany : Int32) (o_taller : Int32) (o_names : Nat → Int32) (o_row : Nat → Int32) (o_blocks : Nat → Int32) (o_ordersOf : Nat → Int32) (hf : f_M_right people textMany base at_ ends fault opened lineMany rowMany taller tallerBy height tape text names line row blocks ordersOf x1 = some (r_, o_base, o_at_, o_ends, o_fault, o_opened, o_rowMany, o_taller, o_names, o_row, o_blocks, o_ordersOf)) : zM l yX12_right cX12_right 6 (some .int) 153 3557 G [.ref a_this, .int x1] (w_M_right G a_this a_height a_changeAt a_changeWas a_changeIs a_tape a_text a_names a_line a_row a_pastMany a_past a_changed a_greatest a_numbersWere a_told a_waysOf a_waysWere a_blocks a_ordersOf a_imageLine a_bodyKind a_trace a_shelf a_many a_items a_carried people keptMany done tapeMany textMany base at_ ends fault opened lineMany rowMany taller tallerBy pasts isKept imageMany bodies ran ownKind ownNumber height tape text names line row blocks ordersOf) (some (.int r_)) (w_M_right G a_this a_height a_changeAt a_changeWas a_changeIs a_tape a_text a_names a_line a_row a_pastMany a_past a_changed a_greatest a_numbersWere a_told a_waysOf a_waysWere a_blocks a_ordersOf a_imageLine a_bodyKind a_trace a_shelf a_many a_items a_carried people keptMany done tapeMany textMany o_base o_at_ o_ends o_fault o_opened lineMany o_rowMany o_taller tallerBy pasts isKept imageMany bodies ran ownKind ownNumber height tape text o_names line o_row o_blocks o_ordersOf) := by
  refine zM.of [(0, .ref a_this), (1, .int x1)] (own := RX12) rfl (by decide +kernel) (Nat.le_of_ble_eq_true rfl) rfl rfl fun X hX F => ?_
  subst hX
  replace hf := (f_M_right.eq_1 ..).symm.trans hf
  refine z_iload_n F 1 dX12_right_0 rfl rfl ?_
  refine z_i2l F dX12_right_1 ?_
  refine z_ldc2 F (-2) (uw45 _ (List.mem_of_getElem? (i := 23) rfl)) dX12_right_2 ?_
  refine z_aload_n F 0 dX12_right_5 rfl rfl ?_
  refine z_get F 0 12 18 inlX12 rfl rfl (by decide) fl_X12_100 rfl dX12_right_6 ?_
  refine z_iconst F (1) dX12_right_9 rfl ?_
  refine z_isub F dX12_right_10 ?_
  refine z_i2l F dX12_right_11 ?_
  refine z_callSm (rest := []) F (c_M_within (xL X) G (Int32.toInt64 x1) (-2) (Int32.toInt64 (lineMany - (1 : Int32))) _ rfl) hy_X12_within ml_X12_96 hd_X12_within ⟨by omega, by omega⟩ rfl [] rfl rfl (w_M_right G a_this a_height a_changeAt a_changeWas a_changeIs a_tape a_text a_names a_line a_row a_pastMany a_past a_changed a_greatest a_numbersWere a_told a_waysOf a_waysWere a_blocks a_ordersOf a_imageLine a_bodyKind a_trace a_shelf a_many a_items a_carried people keptMany done tapeMany textMany base at_ ends fault opened lineMany rowMany taller tallerBy pasts isKept imageMany bodies ran ownKind ownNumber height tape text names line row blocks ordersOf) [none, none, none, none, none, none, none, none, none] rfl (by decide +kernel) rfl rfl (Nat.le_of_ble_eq_true rfl) dX12_right_12 (fun hz_1 => ?_)
  refine z_if_ne F 20 dX12_right_15 (by decide) hf (fun hf _ => ?_) (fun hf _ => ?_)
  · refine z_aload_n F 0 dX12_right_20 rfl rfl ?_
    obtain ⟨base_2, at__3, ends_4, fault_5, opened_6, rowMany_7, taller_8, names_9, row_10, blocks_11, hg, hf⟩ := zb10_some hf
    refine z_callVm (rest := []) F 12 (c_M_asksBlocks (xL X) G a_this a_height a_changeAt a_changeWas a_changeIs a_tape a_text a_names a_line a_row a_pastMany a_past a_changed a_greatest a_numbersWere a_told a_waysOf a_waysWere a_blocks a_ordersOf a_imageLine a_bodyKind a_trace a_shelf a_many a_items a_carried people keptMany done tapeMany textMany base at_ ends fault opened lineMany rowMany taller tallerBy pasts isKept imageMany bodies ran ownKind ownNumber height tape text names line row blocks base_2 at__3 ends_4 fault_5 opened_6 rowMany_7 taller_8 names_9 row_10 blocks_11 hg) hy_X12_asksBlocks ml_X12_311 hd_X12_asksBlocks ⟨by omega, by omega⟩ rfl [0, 1, 2, 3, 4, 5, 6, 7] rfl rfl 0 rfl rfl (w_M_right G a_this a_height a_changeAt a_changeWas a_changeIs a_tape a_text a_names a_line a_row a_pastMany a_past a_changed a_greatest a_numbersWere a_told a_waysOf a_waysWere a_blocks a_ordersOf a_imageLine a_bodyKind a_trace a_shelf a_many a_items a_carried people keptMany done tapeMany textMany base_2 at__3 ends_4 fault_5 opened_6 lineMany rowMany_7 taller_8 tallerBy pasts isKept imageMany bodies ran ownKind ownNumber height tape text names_9 line row_10 blocks_11 ordersOf) [some 0, some 1, some 2, some 3, some 4, some 5, some 6, some 7, none] rfl (by decide +kernel) rfl rfl (Nat.le_of_ble_eq_true rfl) dX12_right_21 (fun hz_12 => ?_)
    refine z_aload_n F 0 dX12_right_24 rfl rfl ?_
    obtain ⟨r_13, hg, hf⟩ := zb1_some hf
    refine z_callVm (rest := []) F 12 (c_M_lineSet (xL X) G a_this a_height a_changeAt a_changeWas a_changeIs a_tape a_text a_names a_line a_row a_pastMany a_past a_changed a_greatest a_numbersWere a_told a_waysOf a_waysWere a_blocks a_ordersOf a_imageLine a_bodyKind a_trace a_shelf a_many a_items a_carried people keptMany done tapeMany textMany base_2 at__3 ends_4 fault_5 opened_6 lineMany rowMany_7 taller_8 tallerBy pasts isKept imageMany bodies ran ownKind ownNumber line r_13 hg) hy_X12_lineSet ml_X12_314 hd_X12_lineSet ⟨by omega, by omega⟩ rfl [0, 5] rfl rfl 0 rfl rfl (w_M_right G a_this a_height a_changeAt a_changeWas a_changeIs a_tape a_text a_names a_line a_row a_pastMany a_past a_changed a_greatest a_numbersWere a_told a_waysOf a_waysWere a_blocks a_ordersOf a_imageLine a_bodyKind a_trace a_shelf a_many a_items a_carried people keptMany done tapeMany textMany base_2 at__3 ends_4 fault_5 opened_6 lineMany rowMany_7 taller_8 tallerBy pasts isKept imageMany bodies ran ownKind ownNumber height tape text names_9 line row_10 blocks_11 ordersOf) [some 0, none, none, none, none, some 1, none, none, none] rfl (by decide +kernel) rfl rfl (Nat.le_of_ble_eq_true rfl) dX12_right_25 (fun hz_14 => ?_)
    refine z_istore_n F [(2, .int r_13), (0, .ref a_this), (1, .int x1)] dX12_right_28 rfl (by decide) rfl ?_
    refine z_iload_n F 2 dX12_right_29 rfl rfl ?_
    refine z_bipush F (-2) dX12_right_30 rfl ?_
    refine z_icmp_ne F 78 dX12_right_32 (by decide) hf (fun hf _ => ?_) (fun hf _ => ?_)
    · refine z_aload_n F 1 dX12_right_78 rfl rfl ?_
      refine z_iload_n F 0 dX12_right_79 rfl rfl ?_
      obtain ⟨ordersOf_15, hg, hf⟩ := zb1_some hf
      refine z_callVm (rest := []) F 12 (c_M_countsOrders (xL X) G a_this a_height a_changeAt a_changeWas a_changeIs a_tape a_text a_names a_line a_row a_pastMany a_past a_changed a_greatest a_numbersWere a_told a_waysOf a_waysWere a_blocks a_ordersOf a_imageLine a_bodyKind a_trace a_shelf a_many a_items a_carried people keptMany done tapeMany textMany base_2 at__3 ends_4 fault_5 opened_6 lineMany rowMany_7 taller_8 tallerBy pasts isKept imageMany bodies ran ownKind ownNumber blocks_11 ordersOf r_13 ordersOf_15 hg) hy_X12_countsOrders ml_X12_317 hd_X12_countsOrders ⟨by omega, by omega⟩ rfl [0, 7, 8] rfl rfl 0 rfl rfl (w_M_right G a_this a_height a_changeAt a_changeWas a_changeIs a_tape a_text a_names a_line a_row a_pastMany a_past a_changed a_greatest a_numbersWere a_told a_waysOf a_waysWere a_blocks a_ordersOf a_imageLine a_bodyKind a_trace a_shelf a_many a_items a_carried people keptMany done tapeMany textMany base_2 at__3 ends_4 fault_5 opened_6 lineMany rowMany_7 taller_8 tallerBy pasts isKept imageMany bodies ran ownKind ownNumber height tape text names_9 line row_10 blocks_11 ordersOf_15) [some 0, none, none, none, none, none, none, some 1, some 2] rfl (by decide +kernel) rfl rfl (Nat.le_of_ble_eq_true rfl) dX12_right_80 (fun hz_16 => ?_)
      refine z_iload_n F 2 dX12_right_83 rfl rfl ?_
      refine z_iconst F (-1) dX12_right_84 rfl ?_
      refine z_icmp_ne F 95 dX12_right_85 (by decide) hf (fun hf _ => ?_) (fun hf _ => ?_)
      · refine z_bipush F (-2) dX12_right_95 rfl ?_
        refine z_istore_n F [(3, .int (-2)), (2, .int r_13), (0, .ref a_this), (1, .int x1)] dX12_right_97 rfl (by decide) rfl ?_
        refine z_iconst F (0) dX12_right_98 rfl ?_
        refine z_istore F [(4, .int 0), (3, .int (-2)), (2, .int r_13), (0, .ref a_this), (1, .int x1)] dX12_right_99 (by decide) rfl ?_
        obtain ⟨z_22, hg, hf1_23, hf2_24⟩ := zbs1_some hf
        refine z_sub [3, 4, 2, 1, 0] rfl ?_
        refine l_M_right_101 G a_this a_height a_changeAt a_changeWas a_changeIs a_tape a_text a_names a_line a_row a_pastMany a_past a_changed a_greatest a_numbersWere a_told a_waysOf a_waysWere a_blocks a_ordersOf a_imageLine a_bodyKind a_trace a_shelf a_many a_items a_carried people keptMany done tapeMany textMany base_2 at__3 ends_4 fault_5 opened_6 lineMany rowMany_7 taller_8 tallerBy pasts isKept imageMany bodies ran ownKind ownNumber height tape text names_9 line row_10 blocks_11 ordersOf_15 x1 F z_22 (fun v3_21 e => ?_) (fun q e => ?_) FU r_13 (-2) 0 hg
        · have hf := hf1_23 _ e
          refine z_iload_n F 0 dX12_right_183 rfl rfl ?_
          have eq1 := Option.some.inj hf
          obtain ⟨ee1, eq2⟩ := Prod.mk.inj eq1
          obtain ⟨ee2, eq3⟩ := Prod.mk.inj eq2
          obtain ⟨ee3, eq4⟩ := Prod.mk.inj eq3
          obtain ⟨ee4, eq5⟩ := Prod.mk.inj eq4
          obtain ⟨ee5, eq6⟩ := Prod.mk.inj eq5
          obtain ⟨ee6, eq7⟩ := Prod.mk.inj eq6
          obtain ⟨ee7, eq8⟩ := Prod.mk.inj eq7
          obtain ⟨ee8, eq9⟩ := Prod.mk.inj eq8
          obtain ⟨ee9, eq10⟩ := Prod.mk.inj eq9
          obtain ⟨ee10, eq11⟩ := Prod.mk.inj eq10
          obtain ⟨ee11, ee12⟩ := Prod.mk.inj eq11
          subst ee1
          subst ee2
          subst ee3
          subst ee4
          subst ee5
          subst ee6
          subst ee7
          subst ee8
          subst ee9
          subst ee10
          subst ee11
          subst ee12
          exact z_iret F rfl rfl rfl rfl dX12_right_184
        · have hf := hf2_24 _ e
          cases hf
          exact ⟨rfl, rfl⟩
      · refine z_aload_n F 1 dX12_right_88 rfl rfl ?_
        refine z_get F 0 12 33 inlX12 rfl rfl (by decide) fl_X12_64 rfl dX12_right_89 ?_
        refine z_iload_n F 0 dX12_right_92 rfl rfl ?_
        refine z_iald F 8 rfl hf dX12_right_93 (fun v_25 hf => ?_)
        have eq1 := Option.some.inj hf
        obtain ⟨ee1, eq2⟩ := Prod.mk.inj eq1
        obtain ⟨ee2, eq3⟩ := Prod.mk.inj eq2
        obtain ⟨ee3, eq4⟩ := Prod.mk.inj eq3
        obtain ⟨ee4, eq5⟩ := Prod.mk.inj eq4
        obtain ⟨ee5, eq6⟩ := Prod.mk.inj eq5
        obtain ⟨ee6, eq7⟩ := Prod.mk.inj eq6
        obtain ⟨ee7, eq8⟩ := Prod.mk.inj eq7
        obtain ⟨ee8, eq9⟩ := Prod.mk.inj eq8
        obtain ⟨ee9, eq10⟩ := Prod.mk.inj eq9
        obtain ⟨ee10, eq11⟩ := Prod.mk.inj eq10
        obtain ⟨ee11, ee12⟩ := Prod.mk.inj eq11
        subst ee1
        subst ee2
        subst ee3
        subst ee4
        subst ee5
        subst ee6
        subst ee7
        subst ee8
        subst ee9
        subst ee10
        subst ee11
        subst ee12
        exact z_iret F rfl rfl rfl rfl dX12_right_94
    · refine z_iconst F (0) dX12_right_35 rfl ?_
      refine z_istore_n F [(3, .int 0), (2, .int r_13), (0, .ref a_this), (1, .int x1)] dX12_right_36 rfl (by decide) rfl ?_
      refine z_iconst F (0) dX12_right_37 rfl ?_
      refine z_istore F [(4, .int 0), (3, .int 0), (2, .int r_13), (0, .ref a_this), (1, .int x1)] dX12_right_38 (by decide) rfl ?_
      obtain ⟨v3_28, hg, hf⟩ := zb1_some hf
      refine z_sub [3, 2, 1, 0] rfl ?_
      refine l_M_right_40 G a_this a_height a_changeAt a_changeWas a_changeIs a_tape a_text a_names a_line a_row a_pastMany a_past a_changed a_greatest a_numbersWere a_told a_waysOf a_waysWere a_blocks a_ordersOf a_imageLine a_bodyKind a_trace a_shelf a_many a_items a_carried people keptMany done tapeMany textMany base_2 at__3 ends_4 fault_5 opened_6 lineMany rowMany_7 taller_8 tallerBy pasts isKept imageMany bodies ran ownKind ownNumber height tape text names_9 line row_10 blocks_11 ordersOf r_13 F v3_28 ?_ FU 0 0 hg
      refine z_iload_n F 0 dX12_right_76 rfl rfl ?_
      have eq1 := Option.some.inj hf
      obtain ⟨ee1, eq2⟩ := Prod.mk.inj eq1
      obtain ⟨ee2, eq3⟩ := Prod.mk.inj eq2
      obtain ⟨ee3, eq4⟩ := Prod.mk.inj eq3
      obtain ⟨ee4, eq5⟩ := Prod.mk.inj eq4
      obtain ⟨ee5, eq6⟩ := Prod.mk.inj eq5
      obtain ⟨ee6, eq7⟩ := Prod.mk.inj eq6
      obtain ⟨ee7, eq8⟩ := Prod.mk.inj eq7
      obtain ⟨ee8, eq9⟩ := Prod.mk.inj eq8
      obtain ⟨ee9, eq10⟩ := Prod.mk.inj eq9
      obtain ⟨ee10, eq11⟩ := Prod.mk.inj eq10
      obtain ⟨ee11, ee12⟩ := Prod.mk.inj eq11
      subst ee1
      subst ee2
      subst ee3
      subst ee4
      subst ee5
      subst ee6
      subst ee7
      subst ee8
      subst ee9
      subst ee10
      subst ee11
      subst ee12
      exact z_iret F rfl rfl rfl rfl dX12_right_77
  · refine z_iconst F (-1) dX12_right_18 rfl ?_
    have eq1 := Option.some.inj hf
    obtain ⟨ee1, eq2⟩ := Prod.mk.inj eq1
    obtain ⟨ee2, eq3⟩ := Prod.mk.inj eq2
    obtain ⟨ee3, eq4⟩ := Prod.mk.inj eq3
    obtain ⟨ee4, eq5⟩ := Prod.mk.inj eq4
    obtain ⟨ee5, eq6⟩ := Prod.mk.inj eq5
    obtain ⟨ee6, eq7⟩ := Prod.mk.inj eq6
    obtain ⟨ee7, eq8⟩ := Prod.mk.inj eq7
    obtain ⟨ee8, eq9⟩ := Prod.mk.inj eq8
    obtain ⟨ee9, eq10⟩ := Prod.mk.inj eq9
    obtain ⟨ee10, eq11⟩ := Prod.mk.inj eq10
    obtain ⟨ee11, ee12⟩ := Prod.mk.inj eq11
    subst ee1
    subst ee2
    subst ee3
    subst ee4
    subst ee5
    subst ee6
    subst ee7
    subst ee8
    subst ee9
    subst ee10
    subst ee11
    subst ee12
    exact z_iret F rfl rfl rfl rfl dX12_right_19

abbrev w_M_mixed (G : zG) (a_this : Nat) (a_height : Nat) (a_changeAt : Nat) (a_changeWas : Nat) (a_changeIs : Nat) (a_tape : Nat) (a_text : Nat) (a_names : Nat) (a_line : Nat) (a_row : Nat) (a_pastMany : Nat) (a_past : Nat) (a_changed : Nat) (a_greatest : Nat) (a_numbersWere : Nat) (a_told : Nat) (a_waysOf : Nat) (a_waysWere : Nat) (a_blocks : Nat) (a_ordersOf : Nat) (a_imageLine : Nat) (a_bodyKind : Nat) (a_trace : Nat) (a_shelf : Nat) (a_many : Nat) (a_items : Nat) (a_carried : Nat) (people : Int32) (keptMany : Int32) (done : Int32) (tapeMany : Int32) (textMany : Int32) (base : Int32) (at_ : Int32) (ends : Int32) (fault : Int32) (opened : Int32) (lineMany : Int32) (rowMany : Int32) (taller : Int32) (tallerBy : Int32) (pasts : Int32) (isKept : Int32) (imageMany : Int32) (bodies : Int32) (ran : Int32) (ownKind : Int32) (ownNumber : Int32) (height : Nat → Int32) (tape : Nat → Int32) (text : Nat → Int32) (names : Nat → Int32) (line : Nat → Int32) (row : Nat → Int32) : va_W := [(a_this, cO 12 [.int people, .ref a_height, .ref a_changeAt, .ref a_changeWas, .ref a_changeIs, .int keptMany, .int done, .ref a_tape, .int tapeMany, .ref a_text, .int textMany, .int base, .int at_, .int ends, .int fault, .int opened, .ref a_names, .ref a_line, .int lineMany, .ref a_row, .int rowMany, .int taller, .int tallerBy, .ref a_pastMany, .ref a_past, .int pasts, .ref a_changed, .ref a_greatest, .ref a_numbersWere, .ref a_told, .ref a_waysOf, .ref a_waysWere, .ref a_blocks, .ref a_ordersOf, .int isKept, .int imageMany, .ref a_imageLine, .int bodies, .ref a_bodyKind, .ref a_trace, .int ran, .int ownKind, .int ownNumber, .ref a_shelf, .ref a_many, .ref a_items, .ref a_carried]), (a_height, cI G 9 height), (a_tape, cI G 120 tape), (a_text, cI G 120 text), (a_names, cI G 5 names), (a_line, cI G 9 line), (a_row, cI G 9 row)]
def f_M_mixed_L67 : Nat → (Nat → Int32) → Int32 → Int32 → Option ((Nat → Int32) × Int32)
  | 0, _, _, _ => none
  | fuel + 1, row, v5, v10 => (if v10 ≤ 0 then (some (row, v5)) else (zgd (¬ (v10 + (1 : Int32)) = 0) (zb1 (f_M_changesIn row v10 ((Int32.toUInt32 ((v5 * (1103515245 : Int32)) + (12345 : Int32)) >>> (Int32.toUInt32 (8 : Int32) &&& Int32.toUInt32 31)).toInt32 - (Int32.toUInt32 ((v5 * (1103515245 : Int32)) + (12345 : Int32)) >>> (Int32.toUInt32 (8 : Int32) &&& Int32.toUInt32 31)).toInt32 / (v10 + (1 : Int32)) * (v10 + (1 : Int32)))) fun row_17 => (f_M_mixed_L67 fuel row_17 ((v5 * (1103515245 : Int32)) + (12345 : Int32)) (v10 + (-1))))))
def f_M_mixed_L49 (textMany : Int32) (lineMany : Int32) (tallerBy : Int32) (height : Nat → Int32) (tape : Nat → Int32) (text : Nat → Int32) (line : Nat → Int32) (v2 : Int32) (v3 : Int32) (v4 : Int32) : Nat → Int32 → Int32 → Int32 → Int32 → Int32 → Int32 → Int32 → (Nat → Int32) → (Nat → Int32) → Int32 → Int32 → Int32 → Int32 → Int32 → Option (Int32 × Int32 × Int32 × Int32 × Int32 × Int32 × Int32 × (Nat → Int32) × (Nat → Int32) × Int32 × Int32 × Int32)
  | 0, _, _, _, _, _, _, _, _, _, _, _, _, _, _ => none
  | fuel + 1, base, at_, ends, fault, opened, rowMany, taller, names, row, v5, v6, v7, v8, v9 => (if v2 ≤ v9 then (some (base, at_, ends, fault, opened, rowMany, taller, names, row, v6, v7, v8)) else (zb3 (f_M_laysOut lineMany rowMany taller line row) fun rowMany_13 taller_14 row_15 => (zb2 (f_M_mixed_L67 FU row_15 v5 (rowMany_13 - (1 : Int32))) fun row_19 v5_20 => (zb7 (f_M_disquietOf textMany base at_ ends fault opened rowMany_13 taller_14 tallerBy height tape text names row_19) fun r_21 base_22 at__23 ends_24 fault_25 opened_26 names_27 => (if v4 ≤ r_21 then (if rowMany_13 ≤ 0 then (f_M_mixed_L49 textMany lineMany tallerBy height tape text line v2 v3 v4 fuel base_22 at__23 ends_24 fault_25 opened_26 rowMany_13 taller_14 names_27 row_19 v5_20 (v6 + r_21) (v7 + (0 : Int32)) (v8 + (0 : Int32)) (v9 + 1)) else (zg row_19 9 0 fun v_29 => (if v_29 = v3 then (f_M_mixed_L49 textMany lineMany tallerBy height tape text line v2 v3 v4 fuel base_22 at__23 ends_24 fault_25 opened_26 rowMany_13 taller_14 names_27 row_19 v5_20 (v6 + r_21) (v7 + (0 : Int32)) (v8 + (1 : Int32)) (v9 + 1)) else (f_M_mixed_L49 textMany lineMany tallerBy height tape text line v2 v3 v4 fuel base_22 at__23 ends_24 fault_25 opened_26 rowMany_13 taller_14 names_27 row_19 v5_20 (v6 + r_21) (v7 + (0 : Int32)) (v8 + (0 : Int32)) (v9 + 1))))) else (if rowMany_13 ≤ 0 then (f_M_mixed_L49 textMany lineMany tallerBy height tape text line v2 v3 v4 fuel base_22 at__23 ends_24 fault_25 opened_26 rowMany_13 taller_14 names_27 row_19 v5_20 (v6 + r_21) (v7 + (1 : Int32)) (v8 + (0 : Int32)) (v9 + 1)) else (zg row_19 9 0 fun v_30 => (if v_30 = v3 then (f_M_mixed_L49 textMany lineMany tallerBy height tape text line v2 v3 v4 fuel base_22 at__23 ends_24 fault_25 opened_26 rowMany_13 taller_14 names_27 row_19 v5_20 (v6 + r_21) (v7 + (1 : Int32)) (v8 + (1 : Int32)) (v9 + 1)) else (f_M_mixed_L49 textMany lineMany tallerBy height tape text line v2 v3 v4 fuel base_22 at__23 ends_24 fault_25 opened_26 rowMany_13 taller_14 names_27 row_19 v5_20 (v6 + r_21) (v7 + (1 : Int32)) (v8 + (0 : Int32)) (v9 + 1))))))))))
def f_M_mixed (people : Int32) (textMany : Int32) (base : Int32) (at_ : Int32) (ends : Int32) (fault : Int32) (opened : Int32) (lineMany : Int32) (rowMany : Int32) (taller : Int32) (tallerBy : Int32) (height : Nat → Int32) (tape : Nat → Int32) (text : Nat → Int32) (names : Nat → Int32) (line : Nat → Int32) (row : Nat → Int32) (x1 : Int32) (x2 : Int32) (x3 : Int32) : Option (Int32 × Int32 × Int32 × Int32 × Int32 × Int32 × Int32 × Int32 × (Nat → Int32) × (Nat → Int32)) := (if (f_M_within (Int32.toInt64 x2) 1 50) = 0 then (some ((-1), base, at_, ends, fault, opened, rowMany, taller, names, row)) else (if x3 < (-2) then (some ((-1), base, at_, ends, fault, opened, rowMany, taller, names, row)) else (if x3 < people then (zb10 (f_M_disquietNow textMany base at_ ends fault opened lineMany rowMany taller tallerBy height tape text names line row) fun r_2 base_3 at__4 ends_5 fault_6 opened_7 rowMany_8 taller_9 names_10 row_11 => (zb12 (f_M_mixed_L49 textMany lineMany tallerBy height tape text line x2 x3 r_2 FU base_3 at__4 ends_5 fault_6 opened_7 rowMany_8 taller_9 names_10 row_11 x1 0 0 0 0) fun base_31 at__32 ends_33 fault_34 opened_35 rowMany_36 taller_37 names_38 row_39 v6_40 v7_41 v8_42 => (if x3 = (-2) then (some (v6_40, base_31, at__32, ends_33, fault_34, opened_35, rowMany_36, taller_37, names_38, row_39)) else (if x3 = (-1) then (some (v7_41, base_31, at__32, ends_33, fault_34, opened_35, rowMany_36, taller_37, names_38, row_39)) else (some (v8_42, base_31, at__32, ends_33, fault_34, opened_35, rowMany_36, taller_37, names_38, row_39)))))) else (some ((-1), base, at_, ends, fault, opened, rowMany, taller, names, row)))))
set_option maxRecDepth 100000 in
set_option maxHeartbeats 4000000 in
theorem l_M_mixed_67 {X : zX} (G : zG) (a_this : Nat) (a_height : Nat) (a_changeAt : Nat) (a_changeWas : Nat) (a_changeIs : Nat) (a_tape : Nat) (a_text : Nat) (a_names : Nat) (a_line : Nat) (a_row : Nat) (a_pastMany : Nat) (a_past : Nat) (a_changed : Nat) (a_greatest : Nat) (a_numbersWere : Nat) (a_told : Nat) (a_waysOf : Nat) (a_waysWere : Nat) (a_blocks : Nat) (a_ordersOf : Nat) (a_imageLine : Nat) (a_bodyKind : Nat) (a_trace : Nat) (a_shelf : Nat) (a_many : Nat) (a_items : Nat) (a_carried : Nat) (people : Int32) (keptMany : Int32) (done : Int32) (tapeMany : Int32) (textMany : Int32) (base : Int32) (at_ : Int32) (ends : Int32) (fault : Int32) (opened : Int32) (lineMany : Int32) (rowMany : Int32) (taller : Int32) (tallerBy : Int32) (pasts : Int32) (isKept : Int32) (imageMany : Int32) (bodies : Int32) (ran : Int32) (ownKind : Int32) (ownNumber : Int32) (height : Nat → Int32) (tape : Nat → Int32) (text : Nat → Int32) (names : Nat → Int32) (line : Nat → Int32) (v2 : Int32) (v3 : Int32) (v4 : Int32) (v6 : Int32) (v7 : Int32) (v8 : Int32) (v9 : Int32) {v0 : Option Value} {w0 : va_W} (F : zF X G cX12_mixed RX12 11 (some .int) 154 3575 v0 w0) (e_row : Nat → Int32) (e_v5 : Int32) (hk : Z X G 11 (w_M_mixed G a_this a_height a_changeAt a_changeWas a_changeIs a_tape a_text a_names a_line a_row a_pastMany a_past a_changed a_greatest a_numbersWere a_told a_waysOf a_waysWere a_blocks a_ordersOf a_imageLine a_bodyKind a_trace a_shelf a_many a_items a_carried people keptMany done tapeMany textMany base at_ ends fault opened lineMany rowMany taller tallerBy pasts isKept imageMany bodies ran ownKind ownNumber height tape text names line e_row) [(0, .ref a_this), (2, .int v2), (3, .int v3), (4, .int v4), (5, .int e_v5), (6, .int v6), (7, .int v7), (8, .int v8), (9, .int v9)] 106 []) :
    ∀ (fuel : Nat) (row : Nat → Int32) (v5 : Int32) (v10 : Int32), f_M_mixed_L67 fuel row v5 v10 = some (e_row, e_v5) → Z X G 11 (w_M_mixed G a_this a_height a_changeAt a_changeWas a_changeIs a_tape a_text a_names a_line a_row a_pastMany a_past a_changed a_greatest a_numbersWere a_told a_waysOf a_waysWere a_blocks a_ordersOf a_imageLine a_bodyKind a_trace a_shelf a_many a_items a_carried people keptMany done tapeMany textMany base at_ ends fault opened lineMany rowMany taller tallerBy pasts isKept imageMany bodies ran ownKind ownNumber height tape text names line row) [(0, .ref a_this), (2, .int v2), (3, .int v3), (4, .int v4), (5, .int v5), (6, .int v6), (7, .int v7), (8, .int v8), (9, .int v9), (10, .int v10)] 67 [] := by
  intro fuel
  induction fuel with
  | zero => intro row v5 v10 hf; exact absurd ((f_M_mixed_L67.eq_1 ..).symm.trans hf) (fun h => by cases h)
  | succ fuel ih =>
    intro row v5 v10 hf
    replace hf := (f_M_mixed_L67.eq_2 ..).symm.trans hf
    refine z_iload F 9 dX12_mixed_67 rfl ?_
    refine z_if_le F 106 dX12_mixed_69 (by decide) hf (fun hf _ => ?_) (fun hf _ => ?_)
    · have eq1 := Option.some.inj hf
      obtain ⟨ee1, ee2⟩ := Prod.mk.inj eq1
      subst ee1
      subst ee2
      exact z_sub [0, 1, 2, 3, 4, 5, 6, 7, 8] rfl hk
    · refine z_iload F 4 dX12_mixed_72 rfl ?_
      refine z_ldcw F (1103515245) (uw47 _ (List.mem_of_getElem? (i := 6) rfl)) dX12_mixed_74 ?_
      refine z_imul F dX12_mixed_77 ?_
      refine z_sipush F (12345) dX12_mixed_78 rfl ?_
      refine z_iadd F dX12_mixed_81 ?_
      refine z_istore F [(5, .int ((v5 * (1103515245 : Int32)) + (12345 : Int32))), (0, .ref a_this), (2, .int v2), (3, .int v3), (4, .int v4), (6, .int v6), (7, .int v7), (8, .int v8), (9, .int v9), (10, .int v10)] dX12_mixed_82 (by decide) rfl ?_
      refine z_aload_n F 1 dX12_mixed_84 rfl rfl ?_
      refine z_iload F 9 dX12_mixed_85 rfl ?_
      refine z_iload F 0 dX12_mixed_87 rfl ?_
      refine z_bipush F (8) dX12_mixed_89 rfl ?_
      refine z_iushr F dX12_mixed_91 ?_
      refine z_iload F 9 dX12_mixed_92 rfl ?_
      refine z_iconst F (1) dX12_mixed_94 rfl ?_
      refine z_iadd F dX12_mixed_95 ?_
      obtain ⟨hne, hf⟩ := zgd_some hf
      refine z_irem F hne dX12_mixed_96 ?_
      obtain ⟨row_17, hg, hf⟩ := zb1_some hf
      refine z_callVm (rest := []) F 12 (c_M_changesIn (xL X) G a_this a_height a_changeAt a_changeWas a_changeIs a_tape a_text a_names a_line a_row a_pastMany a_past a_changed a_greatest a_numbersWere a_told a_waysOf a_waysWere a_blocks a_ordersOf a_imageLine a_bodyKind a_trace a_shelf a_many a_items a_carried people keptMany done tapeMany textMany base at_ ends fault opened lineMany rowMany taller tallerBy pasts isKept imageMany bodies ran ownKind ownNumber row v10 ((Int32.toUInt32 ((v5 * (1103515245 : Int32)) + (12345 : Int32)) >>> (Int32.toUInt32 (8 : Int32) &&& Int32.toUInt32 31)).toInt32 - (Int32.toUInt32 ((v5 * (1103515245 : Int32)) + (12345 : Int32)) >>> (Int32.toUInt32 (8 : Int32) &&& Int32.toUInt32 31)).toInt32 / (v10 + (1 : Int32)) * (v10 + (1 : Int32))) row_17 hg) hy_X12_changesIn ml_X12_248 hd_X12_changesIn ⟨by omega, by omega⟩ rfl [0, 6] rfl rfl 0 rfl rfl (w_M_mixed G a_this a_height a_changeAt a_changeWas a_changeIs a_tape a_text a_names a_line a_row a_pastMany a_past a_changed a_greatest a_numbersWere a_told a_waysOf a_waysWere a_blocks a_ordersOf a_imageLine a_bodyKind a_trace a_shelf a_many a_items a_carried people keptMany done tapeMany textMany base at_ ends fault opened lineMany rowMany taller tallerBy pasts isKept imageMany bodies ran ownKind ownNumber height tape text names line row_17) [some 0, none, none, none, none, none, some 1] rfl (by decide +kernel) rfl rfl (Nat.le_of_ble_eq_true rfl) dX12_mixed_97 (fun hz_18 => ?_)
      refine z_iinc F [(10, .int (v10 + (-1))), (5, .int ((v5 * (1103515245 : Int32)) + (12345 : Int32))), (0, .ref a_this), (2, .int v2), (3, .int v3), (4, .int v4), (6, .int v6), (7, .int v7), (8, .int v8), (9, .int v9)] dX12_mixed_100 9 rfl rfl (by decide) rfl ?_
      refine z_goto F 67 dX12_mixed_103 (by decide) ?_
      exact z_sub [2, 3, 4, 5, 1, 6, 7, 8, 9, 0] rfl (ih row_17 ((v5 * (1103515245 : Int32)) + (12345 : Int32)) (v10 + (-1)) hf)

set_option maxRecDepth 100000 in
set_option maxHeartbeats 4000000 in
theorem l_M_mixed_49 {X : zX} (G : zG) (a_this : Nat) (a_height : Nat) (a_changeAt : Nat) (a_changeWas : Nat) (a_changeIs : Nat) (a_tape : Nat) (a_text : Nat) (a_names : Nat) (a_line : Nat) (a_row : Nat) (a_pastMany : Nat) (a_past : Nat) (a_changed : Nat) (a_greatest : Nat) (a_numbersWere : Nat) (a_told : Nat) (a_waysOf : Nat) (a_waysWere : Nat) (a_blocks : Nat) (a_ordersOf : Nat) (a_imageLine : Nat) (a_bodyKind : Nat) (a_trace : Nat) (a_shelf : Nat) (a_many : Nat) (a_items : Nat) (a_carried : Nat) (people : Int32) (keptMany : Int32) (done : Int32) (tapeMany : Int32) (textMany : Int32) (lineMany : Int32) (tallerBy : Int32) (pasts : Int32) (isKept : Int32) (imageMany : Int32) (bodies : Int32) (ran : Int32) (ownKind : Int32) (ownNumber : Int32) (height : Nat → Int32) (tape : Nat → Int32) (text : Nat → Int32) (line : Nat → Int32) (v2 : Int32) (v3 : Int32) (v4 : Int32) {v0 : Option Value} {w0 : va_W} (F : zF X G cX12_mixed RX12 11 (some .int) 154 3575 v0 w0) (e_base : Int32) (e_at_ : Int32) (e_ends : Int32) (e_fault : Int32) (e_opened : Int32) (e_rowMany : Int32) (e_taller : Int32) (e_names : Nat → Int32) (e_row : Nat → Int32) (e_v6 : Int32) (e_v7 : Int32) (e_v8 : Int32) (hk : Z X G 11 (w_M_mixed G a_this a_height a_changeAt a_changeWas a_changeIs a_tape a_text a_names a_line a_row a_pastMany a_past a_changed a_greatest a_numbersWere a_told a_waysOf a_waysWere a_blocks a_ordersOf a_imageLine a_bodyKind a_trace a_shelf a_many a_items a_carried people keptMany done tapeMany textMany e_base e_at_ e_ends e_fault e_opened lineMany e_rowMany e_taller tallerBy pasts isKept imageMany bodies ran ownKind ownNumber height tape text e_names line e_row) [(3, .int v3), (6, .int e_v6), (7, .int e_v7), (8, .int e_v8)] 169 []) :
    ∀ (fuel : Nat) (base : Int32) (at_ : Int32) (ends : Int32) (fault : Int32) (opened : Int32) (rowMany : Int32) (taller : Int32) (names : Nat → Int32) (row : Nat → Int32) (v5 : Int32) (v6 : Int32) (v7 : Int32) (v8 : Int32) (v9 : Int32), f_M_mixed_L49 textMany lineMany tallerBy height tape text line v2 v3 v4 fuel base at_ ends fault opened rowMany taller names row v5 v6 v7 v8 v9 = some (e_base, e_at_, e_ends, e_fault, e_opened, e_rowMany, e_taller, e_names, e_row, e_v6, e_v7, e_v8) → Z X G 11 (w_M_mixed G a_this a_height a_changeAt a_changeWas a_changeIs a_tape a_text a_names a_line a_row a_pastMany a_past a_changed a_greatest a_numbersWere a_told a_waysOf a_waysWere a_blocks a_ordersOf a_imageLine a_bodyKind a_trace a_shelf a_many a_items a_carried people keptMany done tapeMany textMany base at_ ends fault opened lineMany rowMany taller tallerBy pasts isKept imageMany bodies ran ownKind ownNumber height tape text names line row) [(0, .ref a_this), (2, .int v2), (3, .int v3), (4, .int v4), (5, .int v5), (6, .int v6), (7, .int v7), (8, .int v8), (9, .int v9)] 49 [] := by
  intro fuel
  induction fuel with
  | zero => intro base at_ ends fault opened rowMany taller names row v5 v6 v7 v8 v9 hf; exact absurd ((f_M_mixed_L49.eq_1 ..).symm.trans hf) (fun h => by cases h)
  | succ fuel ih =>
    intro base at_ ends fault opened rowMany taller names row v5 v6 v7 v8 v9 hf
    replace hf := (f_M_mixed_L49.eq_2 ..).symm.trans hf
    refine z_iload F 8 dX12_mixed_49 rfl ?_
    refine z_iload_n F 1 dX12_mixed_51 rfl rfl ?_
    refine z_icmp_ge F 169 dX12_mixed_52 (by decide) hf (fun hf _ => ?_) (fun hf _ => ?_)
    · have eq1 := Option.some.inj hf
      obtain ⟨ee1, eq2⟩ := Prod.mk.inj eq1
      obtain ⟨ee2, eq3⟩ := Prod.mk.inj eq2
      obtain ⟨ee3, eq4⟩ := Prod.mk.inj eq3
      obtain ⟨ee4, eq5⟩ := Prod.mk.inj eq4
      obtain ⟨ee5, eq6⟩ := Prod.mk.inj eq5
      obtain ⟨ee6, eq7⟩ := Prod.mk.inj eq6
      obtain ⟨ee7, eq8⟩ := Prod.mk.inj eq7
      obtain ⟨ee8, eq9⟩ := Prod.mk.inj eq8
      obtain ⟨ee9, eq10⟩ := Prod.mk.inj eq9
      obtain ⟨ee10, eq11⟩ := Prod.mk.inj eq10
      obtain ⟨ee11, ee12⟩ := Prod.mk.inj eq11
      subst ee1
      subst ee2
      subst ee3
      subst ee4
      subst ee5
      subst ee6
      subst ee7
      subst ee8
      subst ee9
      subst ee10
      subst ee11
      subst ee12
      exact z_sub [2, 5, 6, 7] rfl hk
    · refine z_aload_n F 0 dX12_mixed_55 rfl rfl ?_
      obtain ⟨rowMany_13, taller_14, row_15, hg, hf⟩ := zb3_some hf
      refine z_callVm (rest := []) F 12 (c_M_laysOut (xL X) G a_this a_height a_changeAt a_changeWas a_changeIs a_tape a_text a_names a_line a_row a_pastMany a_past a_changed a_greatest a_numbersWere a_told a_waysOf a_waysWere a_blocks a_ordersOf a_imageLine a_bodyKind a_trace a_shelf a_many a_items a_carried people keptMany done tapeMany textMany base at_ ends fault opened lineMany rowMany taller tallerBy pasts isKept imageMany bodies ran ownKind ownNumber line row rowMany_13 taller_14 row_15 hg) hy_X12_laysOut ml_X12_203 hd_X12_laysOut ⟨by omega, by omega⟩ rfl [0, 5, 6] rfl rfl 0 rfl rfl (w_M_mixed G a_this a_height a_changeAt a_changeWas a_changeIs a_tape a_text a_names a_line a_row a_pastMany a_past a_changed a_greatest a_numbersWere a_told a_waysOf a_waysWere a_blocks a_ordersOf a_imageLine a_bodyKind a_trace a_shelf a_many a_items a_carried people keptMany done tapeMany textMany base at_ ends fault opened lineMany rowMany_13 taller_14 tallerBy pasts isKept imageMany bodies ran ownKind ownNumber height tape text names line row_15) [some 0, none, none, none, none, some 1, some 2] rfl (by decide +kernel) rfl rfl (Nat.le_of_ble_eq_true rfl) dX12_mixed_56 (fun hz_16 => ?_)
      refine z_aload_n F 0 dX12_mixed_59 rfl rfl ?_
      refine z_get F 0 12 20 inlX12 rfl rfl (by decide) fl_X12_184 rfl dX12_mixed_60 ?_
      refine z_iconst F (1) dX12_mixed_63 rfl ?_
      refine z_isub F dX12_mixed_64 ?_
      refine z_istore F [(10, .int (rowMany_13 - (1 : Int32))), (0, .ref a_this), (2, .int v2), (3, .int v3), (4, .int v4), (5, .int v5), (6, .int v6), (7, .int v7), (8, .int v8), (9, .int v9)] dX12_mixed_65 (by decide) rfl ?_
      obtain ⟨row_19, v5_20, hg, hf⟩ := zb2_some hf
      refine z_sub [1, 2, 3, 4, 5, 6, 7, 8, 9, 0] rfl ?_
      refine l_M_mixed_67 G a_this a_height a_changeAt a_changeWas a_changeIs a_tape a_text a_names a_line a_row a_pastMany a_past a_changed a_greatest a_numbersWere a_told a_waysOf a_waysWere a_blocks a_ordersOf a_imageLine a_bodyKind a_trace a_shelf a_many a_items a_carried people keptMany done tapeMany textMany base at_ ends fault opened lineMany rowMany_13 taller_14 tallerBy pasts isKept imageMany bodies ran ownKind ownNumber height tape text names line v2 v3 v4 v6 v7 v8 v9 F row_19 v5_20 ?_ FU row_15 v5 (rowMany_13 - (1 : Int32)) hg
      refine z_aload_n F 0 dX12_mixed_106 rfl rfl ?_
      obtain ⟨r_21, base_22, at__23, ends_24, fault_25, opened_26, names_27, hg, hf⟩ := zb7_some hf
      refine z_callVm (rest := []) F 12 (c_M_disquietOf (xL X) G a_this a_height a_changeAt a_changeWas a_changeIs a_tape a_text a_names a_line a_row a_pastMany a_past a_changed a_greatest a_numbersWere a_told a_waysOf a_waysWere a_blocks a_ordersOf a_imageLine a_bodyKind a_trace a_shelf a_many a_items a_carried people keptMany done tapeMany textMany base at_ ends fault opened lineMany rowMany_13 taller_14 tallerBy pasts isKept imageMany bodies ran ownKind ownNumber height tape text names row_19 r_21 base_22 at__23 ends_24 fault_25 opened_26 names_27 hg) hy_X12_disquietOf ml_X12_206 hd_X12_disquietOf ⟨by omega, by omega⟩ rfl [0, 1, 2, 3, 4, 6] rfl rfl 0 rfl rfl (w_M_mixed G a_this a_height a_changeAt a_changeWas a_changeIs a_tape a_text a_names a_line a_row a_pastMany a_past a_changed a_greatest a_numbersWere a_told a_waysOf a_waysWere a_blocks a_ordersOf a_imageLine a_bodyKind a_trace a_shelf a_many a_items a_carried people keptMany done tapeMany textMany base_22 at__23 ends_24 fault_25 opened_26 lineMany rowMany_13 taller_14 tallerBy pasts isKept imageMany bodies ran ownKind ownNumber height tape text names_27 line row_19) [some 0, some 1, some 2, some 3, some 4, none, some 5] rfl (by decide +kernel) rfl rfl (Nat.le_of_ble_eq_true rfl) dX12_mixed_107 (fun hz_28 => ?_)
      refine z_istore F [(10, .int r_21), (0, .ref a_this), (2, .int v2), (3, .int v3), (4, .int v4), (5, .int v5_20), (6, .int v6), (7, .int v7), (8, .int v8), (9, .int v9)] dX12_mixed_110 (by decide) rfl ?_
      refine z_iload F 6 dX12_mixed_112 rfl ?_
      refine z_iload F 0 dX12_mixed_114 rfl ?_
      refine z_iadd F dX12_mixed_116 ?_
      refine z_istore F [(6, .int (v6 + r_21)), (10, .int r_21), (0, .ref a_this), (2, .int v2), (3, .int v3), (4, .int v4), (5, .int v5_20), (7, .int v7), (8, .int v8), (9, .int v9)] dX12_mixed_117 (by decide) rfl ?_
      refine z_iload F 7 dX12_mixed_119 rfl ?_
      refine z_iload F 1 dX12_mixed_121 rfl ?_
      refine z_iload F 5 dX12_mixed_123 rfl ?_
      refine z_icmp_ge F 132 dX12_mixed_125 (by decide) hf (fun hf _ => ?_) (fun hf _ => ?_)
      · refine z_iconst F (0) dX12_mixed_132 rfl ?_
        refine z_iadd F dX12_mixed_133 ?_
        refine z_istore F [(7, .int (v7 + (0 : Int32))), (6, .int (v6 + r_21)), (10, .int r_21), (0, .ref a_this), (2, .int v2), (3, .int v3), (4, .int v4), (5, .int v5_20), (8, .int v8), (9, .int v9)] dX12_mixed_134 (by decide) rfl ?_
        refine z_iload F 8 dX12_mixed_136 rfl ?_
        refine z_aload_n F 3 dX12_mixed_138 rfl rfl ?_
        refine z_get F 0 12 20 inlX12 rfl rfl (by decide) fl_X12_184 rfl dX12_mixed_139 ?_
        refine z_if_le F 159 dX12_mixed_142 (by decide) hf (fun hf _ => ?_) (fun hf _ => ?_)
        · refine z_iconst F (0) dX12_mixed_159 rfl ?_
          refine z_iadd F dX12_mixed_160 ?_
          refine z_istore F [(8, .int (v8 + (0 : Int32))), (7, .int (v7 + (0 : Int32))), (6, .int (v6 + r_21)), (10, .int r_21), (0, .ref a_this), (2, .int v2), (3, .int v3), (4, .int v4), (5, .int v5_20), (9, .int v9)] dX12_mixed_161 (by decide) rfl ?_
          refine z_iinc F [(9, .int (v9 + 1)), (8, .int (v8 + (0 : Int32))), (7, .int (v7 + (0 : Int32))), (6, .int (v6 + r_21)), (10, .int r_21), (0, .ref a_this), (2, .int v2), (3, .int v3), (4, .int v4), (5, .int v5_20)] dX12_mixed_163 9 rfl rfl (by decide) rfl ?_
          refine z_goto F 49 dX12_mixed_166 (by decide) ?_
          exact z_sub [5, 6, 7, 8, 9, 3, 2, 1, 0] rfl (ih base_22 at__23 ends_24 fault_25 opened_26 rowMany_13 taller_14 names_27 row_19 v5_20 (v6 + r_21) (v7 + (0 : Int32)) (v8 + (0 : Int32)) (v9 + 1) hf)
        · refine z_aload_n F 3 dX12_mixed_145 rfl rfl ?_
          refine z_get F 0 12 19 inlX12 rfl rfl (by decide) fl_X12_34 rfl dX12_mixed_146 ?_
          refine z_iconst F (0) dX12_mixed_149 rfl ?_
          refine z_iald F 6 rfl hf dX12_mixed_150 (fun v_29 hf => ?_)
          refine z_iload_n F 5 dX12_mixed_151 rfl rfl ?_
          refine z_icmp_ne F 159 dX12_mixed_152 (by decide) hf (fun hf _ => ?_) (fun hf _ => ?_)
          · refine z_iconst F (0) dX12_mixed_159 rfl ?_
            refine z_iadd F dX12_mixed_160 ?_
            refine z_istore F [(8, .int (v8 + (0 : Int32))), (7, .int (v7 + (0 : Int32))), (6, .int (v6 + r_21)), (10, .int r_21), (0, .ref a_this), (2, .int v2), (3, .int v3), (4, .int v4), (5, .int v5_20), (9, .int v9)] dX12_mixed_161 (by decide) rfl ?_
            refine z_iinc F [(9, .int (v9 + 1)), (8, .int (v8 + (0 : Int32))), (7, .int (v7 + (0 : Int32))), (6, .int (v6 + r_21)), (10, .int r_21), (0, .ref a_this), (2, .int v2), (3, .int v3), (4, .int v4), (5, .int v5_20)] dX12_mixed_163 9 rfl rfl (by decide) rfl ?_
            refine z_goto F 49 dX12_mixed_166 (by decide) ?_
            exact z_sub [5, 6, 7, 8, 9, 3, 2, 1, 0] rfl (ih base_22 at__23 ends_24 fault_25 opened_26 rowMany_13 taller_14 names_27 row_19 v5_20 (v6 + r_21) (v7 + (0 : Int32)) (v8 + (0 : Int32)) (v9 + 1) hf)
          · refine z_iconst F (1) dX12_mixed_155 rfl ?_
            refine z_goto F 160 dX12_mixed_156 (by decide) ?_
            refine z_iadd F dX12_mixed_160 ?_
            refine z_istore F [(8, .int (v8 + (1 : Int32))), (7, .int (v7 + (0 : Int32))), (6, .int (v6 + r_21)), (10, .int r_21), (0, .ref a_this), (2, .int v2), (3, .int v3), (4, .int v4), (5, .int v5_20), (9, .int v9)] dX12_mixed_161 (by decide) rfl ?_
            refine z_iinc F [(9, .int (v9 + 1)), (8, .int (v8 + (1 : Int32))), (7, .int (v7 + (0 : Int32))), (6, .int (v6 + r_21)), (10, .int r_21), (0, .ref a_this), (2, .int v2), (3, .int v3), (4, .int v4), (5, .int v5_20)] dX12_mixed_163 9 rfl rfl (by decide) rfl ?_
            refine z_goto F 49 dX12_mixed_166 (by decide) ?_
            exact z_sub [5, 6, 7, 8, 9, 3, 2, 1, 0] rfl (ih base_22 at__23 ends_24 fault_25 opened_26 rowMany_13 taller_14 names_27 row_19 v5_20 (v6 + r_21) (v7 + (0 : Int32)) (v8 + (1 : Int32)) (v9 + 1) hf)
      · refine z_iconst F (1) dX12_mixed_128 rfl ?_
        refine z_goto F 133 dX12_mixed_129 (by decide) ?_
        refine z_iadd F dX12_mixed_133 ?_
        refine z_istore F [(7, .int (v7 + (1 : Int32))), (6, .int (v6 + r_21)), (10, .int r_21), (0, .ref a_this), (2, .int v2), (3, .int v3), (4, .int v4), (5, .int v5_20), (8, .int v8), (9, .int v9)] dX12_mixed_134 (by decide) rfl ?_
        refine z_iload F 8 dX12_mixed_136 rfl ?_
        refine z_aload_n F 3 dX12_mixed_138 rfl rfl ?_
        refine z_get F 0 12 20 inlX12 rfl rfl (by decide) fl_X12_184 rfl dX12_mixed_139 ?_
        refine z_if_le F 159 dX12_mixed_142 (by decide) hf (fun hf _ => ?_) (fun hf _ => ?_)
        · refine z_iconst F (0) dX12_mixed_159 rfl ?_
          refine z_iadd F dX12_mixed_160 ?_
          refine z_istore F [(8, .int (v8 + (0 : Int32))), (7, .int (v7 + (1 : Int32))), (6, .int (v6 + r_21)), (10, .int r_21), (0, .ref a_this), (2, .int v2), (3, .int v3), (4, .int v4), (5, .int v5_20), (9, .int v9)] dX12_mixed_161 (by decide) rfl ?_
          refine z_iinc F [(9, .int (v9 + 1)), (8, .int (v8 + (0 : Int32))), (7, .int (v7 + (1 : Int32))), (6, .int (v6 + r_21)), (10, .int r_21), (0, .ref a_this), (2, .int v2), (3, .int v3), (4, .int v4), (5, .int v5_20)] dX12_mixed_163 9 rfl rfl (by decide) rfl ?_
          refine z_goto F 49 dX12_mixed_166 (by decide) ?_
          exact z_sub [5, 6, 7, 8, 9, 3, 2, 1, 0] rfl (ih base_22 at__23 ends_24 fault_25 opened_26 rowMany_13 taller_14 names_27 row_19 v5_20 (v6 + r_21) (v7 + (1 : Int32)) (v8 + (0 : Int32)) (v9 + 1) hf)
        · refine z_aload_n F 3 dX12_mixed_145 rfl rfl ?_
          refine z_get F 0 12 19 inlX12 rfl rfl (by decide) fl_X12_34 rfl dX12_mixed_146 ?_
          refine z_iconst F (0) dX12_mixed_149 rfl ?_
          refine z_iald F 6 rfl hf dX12_mixed_150 (fun v_30 hf => ?_)
          refine z_iload_n F 5 dX12_mixed_151 rfl rfl ?_
          refine z_icmp_ne F 159 dX12_mixed_152 (by decide) hf (fun hf _ => ?_) (fun hf _ => ?_)
          · refine z_iconst F (0) dX12_mixed_159 rfl ?_
            refine z_iadd F dX12_mixed_160 ?_
            refine z_istore F [(8, .int (v8 + (0 : Int32))), (7, .int (v7 + (1 : Int32))), (6, .int (v6 + r_21)), (10, .int r_21), (0, .ref a_this), (2, .int v2), (3, .int v3), (4, .int v4), (5, .int v5_20), (9, .int v9)] dX12_mixed_161 (by decide) rfl ?_
            refine z_iinc F [(9, .int (v9 + 1)), (8, .int (v8 + (0 : Int32))), (7, .int (v7 + (1 : Int32))), (6, .int (v6 + r_21)), (10, .int r_21), (0, .ref a_this), (2, .int v2), (3, .int v3), (4, .int v4), (5, .int v5_20)] dX12_mixed_163 9 rfl rfl (by decide) rfl ?_
            refine z_goto F 49 dX12_mixed_166 (by decide) ?_
            exact z_sub [5, 6, 7, 8, 9, 3, 2, 1, 0] rfl (ih base_22 at__23 ends_24 fault_25 opened_26 rowMany_13 taller_14 names_27 row_19 v5_20 (v6 + r_21) (v7 + (1 : Int32)) (v8 + (0 : Int32)) (v9 + 1) hf)
          · refine z_iconst F (1) dX12_mixed_155 rfl ?_
            refine z_goto F 160 dX12_mixed_156 (by decide) ?_
            refine z_iadd F dX12_mixed_160 ?_
            refine z_istore F [(8, .int (v8 + (1 : Int32))), (7, .int (v7 + (1 : Int32))), (6, .int (v6 + r_21)), (10, .int r_21), (0, .ref a_this), (2, .int v2), (3, .int v3), (4, .int v4), (5, .int v5_20), (9, .int v9)] dX12_mixed_161 (by decide) rfl ?_
            refine z_iinc F [(9, .int (v9 + 1)), (8, .int (v8 + (1 : Int32))), (7, .int (v7 + (1 : Int32))), (6, .int (v6 + r_21)), (10, .int r_21), (0, .ref a_this), (2, .int v2), (3, .int v3), (4, .int v4), (5, .int v5_20)] dX12_mixed_163 9 rfl rfl (by decide) rfl ?_
            refine z_goto F 49 dX12_mixed_166 (by decide) ?_
            exact z_sub [5, 6, 7, 8, 9, 3, 2, 1, 0] rfl (ih base_22 at__23 ends_24 fault_25 opened_26 rowMany_13 taller_14 names_27 row_19 v5_20 (v6 + r_21) (v7 + (1 : Int32)) (v8 + (1 : Int32)) (v9 + 1) hf)

set_option maxRecDepth 100000 in
set_option maxHeartbeats 4000000 in
theorem c_M_mixed (l : Launch) (G : zG) (a_this : Nat) (a_height : Nat) (a_changeAt : Nat) (a_changeWas : Nat) (a_changeIs : Nat) (a_tape : Nat) (a_text : Nat) (a_names : Nat) (a_line : Nat) (a_row : Nat) (a_pastMany : Nat) (a_past : Nat) (a_changed : Nat) (a_greatest : Nat) (a_numbersWere : Nat) (a_told : Nat) (a_waysOf : Nat) (a_waysWere : Nat) (a_blocks : Nat) (a_ordersOf : Nat) (a_imageLine : Nat) (a_bodyKind : Nat) (a_trace : Nat) (a_shelf : Nat) (a_many : Nat) (a_items : Nat) (a_carried : Nat) (people : Int32) (keptMany : Int32) (done : Int32) (tapeMany : Int32) (textMany : Int32) (base : Int32) (at_ : Int32) (ends : Int32) (fault : Int32) (opened : Int32) (lineMany : Int32) (rowMany : Int32) (taller : Int32) (tallerBy : Int32) (pasts : Int32) (isKept : Int32) (imageMany : Int32) (bodies : Int32) (ran : Int32) (ownKind : Int32) (ownNumber : Int32) (height : Nat → Int32) (tape : Nat → Int32) (text : Nat → Int32) (names : Nat → Int32) (line : Nat → Int32) (row : Nat → Int32) (x1 : Int32) (x2 : Int32) (x3 : Int32) (r_ : Int32) (o_base : Int32) (o_at_ : Int32) (o_ends : Int32) (o_fault : Int32) (o_opened : Int32) (o_rowMany : Int32) (o_taller : Int32) (o_names : Nat → Int32) (o_row : Nat → Int32) (hf : f_M_mixed people textMany base at_ ends fault opened lineMany rowMany taller tallerBy height tape text names line row x1 x2 x3 = some (r_, o_base, o_at_, o_ends, o_fault, o_opened, o_rowMany, o_taller, o_names, o_row)) : zM l yX12_mixed cX12_mixed 11 (some .int) 154 3575 G [.ref a_this, .int x1, .int x2, .int x3] (w_M_mixed G a_this a_height a_changeAt a_changeWas a_changeIs a_tape a_text a_names a_line a_row a_pastMany a_past a_changed a_greatest a_numbersWere a_told a_waysOf a_waysWere a_blocks a_ordersOf a_imageLine a_bodyKind a_trace a_shelf a_many a_items a_carried people keptMany done tapeMany textMany base at_ ends fault opened lineMany rowMany taller tallerBy pasts isKept imageMany bodies ran ownKind ownNumber height tape text names line row) (some (.int r_)) (w_M_mixed G a_this a_height a_changeAt a_changeWas a_changeIs a_tape a_text a_names a_line a_row a_pastMany a_past a_changed a_greatest a_numbersWere a_told a_waysOf a_waysWere a_blocks a_ordersOf a_imageLine a_bodyKind a_trace a_shelf a_many a_items a_carried people keptMany done tapeMany textMany o_base o_at_ o_ends o_fault o_opened lineMany o_rowMany o_taller tallerBy pasts isKept imageMany bodies ran ownKind ownNumber height tape text o_names line o_row) := by
  refine zM.of [(0, .ref a_this), (1, .int x1), (2, .int x2), (3, .int x3)] (own := RX12) rfl (by decide +kernel) (Nat.le_of_ble_eq_true rfl) rfl rfl fun X hX F => ?_
  subst hX
  replace hf := (f_M_mixed.eq_1 ..).symm.trans hf
  refine z_iload_n F 2 dX12_mixed_0 rfl rfl ?_
  refine z_i2l F dX12_mixed_1 ?_
  refine z_lconst F (1) dX12_mixed_2 rfl ?_
  refine z_ldc2 F (50) (uw47 _ (List.mem_of_getElem? (i := 5) rfl)) dX12_mixed_3 ?_
  refine z_callSm (rest := []) F (c_M_within (xL X) G (Int32.toInt64 x2) 1 50 _ rfl) hy_X12_within ml_X12_96 hd_X12_within ⟨by omega, by omega⟩ rfl [] rfl rfl (w_M_mixed G a_this a_height a_changeAt a_changeWas a_changeIs a_tape a_text a_names a_line a_row a_pastMany a_past a_changed a_greatest a_numbersWere a_told a_waysOf a_waysWere a_blocks a_ordersOf a_imageLine a_bodyKind a_trace a_shelf a_many a_items a_carried people keptMany done tapeMany textMany base at_ ends fault opened lineMany rowMany taller tallerBy pasts isKept imageMany bodies ran ownKind ownNumber height tape text names line row) [none, none, none, none, none, none, none] rfl (by decide +kernel) rfl rfl (Nat.le_of_ble_eq_true rfl) dX12_mixed_6 (fun hz_1 => ?_)
  refine z_if_eq F 26 dX12_mixed_9 (by decide) hf (fun hf _ => ?_) (fun hf _ => ?_)
  · refine z_iconst F (-1) dX12_mixed_26 rfl ?_
    have eq1 := Option.some.inj hf
    obtain ⟨ee1, eq2⟩ := Prod.mk.inj eq1
    obtain ⟨ee2, eq3⟩ := Prod.mk.inj eq2
    obtain ⟨ee3, eq4⟩ := Prod.mk.inj eq3
    obtain ⟨ee4, eq5⟩ := Prod.mk.inj eq4
    obtain ⟨ee5, eq6⟩ := Prod.mk.inj eq5
    obtain ⟨ee6, eq7⟩ := Prod.mk.inj eq6
    obtain ⟨ee7, eq8⟩ := Prod.mk.inj eq7
    obtain ⟨ee8, eq9⟩ := Prod.mk.inj eq8
    obtain ⟨ee9, ee10⟩ := Prod.mk.inj eq9
    subst ee1
    subst ee2
    subst ee3
    subst ee4
    subst ee5
    subst ee6
    subst ee7
    subst ee8
    subst ee9
    subst ee10
    exact z_iret F rfl rfl rfl rfl dX12_mixed_27
  · refine z_iload_n F 3 dX12_mixed_12 rfl rfl ?_
    refine z_bipush F (-2) dX12_mixed_13 rfl ?_
    refine z_icmp_lt F 26 dX12_mixed_15 (by decide) hf (fun hf _ => ?_) (fun hf _ => ?_)
    · refine z_iconst F (-1) dX12_mixed_26 rfl ?_
      have eq1 := Option.some.inj hf
      obtain ⟨ee1, eq2⟩ := Prod.mk.inj eq1
      obtain ⟨ee2, eq3⟩ := Prod.mk.inj eq2
      obtain ⟨ee3, eq4⟩ := Prod.mk.inj eq3
      obtain ⟨ee4, eq5⟩ := Prod.mk.inj eq4
      obtain ⟨ee5, eq6⟩ := Prod.mk.inj eq5
      obtain ⟨ee6, eq7⟩ := Prod.mk.inj eq6
      obtain ⟨ee7, eq8⟩ := Prod.mk.inj eq7
      obtain ⟨ee8, eq9⟩ := Prod.mk.inj eq8
      obtain ⟨ee9, ee10⟩ := Prod.mk.inj eq9
      subst ee1
      subst ee2
      subst ee3
      subst ee4
      subst ee5
      subst ee6
      subst ee7
      subst ee8
      subst ee9
      subst ee10
      exact z_iret F rfl rfl rfl rfl dX12_mixed_27
    · refine z_iload_n F 3 dX12_mixed_18 rfl rfl ?_
      refine z_aload_n F 0 dX12_mixed_19 rfl rfl ?_
      refine z_get F 0 12 0 inlX12 rfl rfl (by decide) fl_X12_93 rfl dX12_mixed_20 ?_
      refine z_icmp_lt F 28 dX12_mixed_23 (by decide) hf (fun hf _ => ?_) (fun hf _ => ?_)
      · refine z_aload_n F 0 dX12_mixed_28 rfl rfl ?_
        obtain ⟨r_2, base_3, at__4, ends_5, fault_6, opened_7, rowMany_8, taller_9, names_10, row_11, hg, hf⟩ := zb10_some hf
        refine z_callVm (rest := []) F 12 (c_M_disquietNow (xL X) G a_this a_height a_changeAt a_changeWas a_changeIs a_tape a_text a_names a_line a_row a_pastMany a_past a_changed a_greatest a_numbersWere a_told a_waysOf a_waysWere a_blocks a_ordersOf a_imageLine a_bodyKind a_trace a_shelf a_many a_items a_carried people keptMany done tapeMany textMany base at_ ends fault opened lineMany rowMany taller tallerBy pasts isKept imageMany bodies ran ownKind ownNumber height tape text names line row r_2 base_3 at__4 ends_5 fault_6 opened_7 rowMany_8 taller_9 names_10 row_11 hg) hy_X12_disquietNow ml_X12_215 hd_X12_disquietNow ⟨by omega, by omega⟩ rfl [0, 1, 2, 3, 4, 5, 6] rfl rfl 0 rfl rfl (w_M_mixed G a_this a_height a_changeAt a_changeWas a_changeIs a_tape a_text a_names a_line a_row a_pastMany a_past a_changed a_greatest a_numbersWere a_told a_waysOf a_waysWere a_blocks a_ordersOf a_imageLine a_bodyKind a_trace a_shelf a_many a_items a_carried people keptMany done tapeMany textMany base_3 at__4 ends_5 fault_6 opened_7 lineMany rowMany_8 taller_9 tallerBy pasts isKept imageMany bodies ran ownKind ownNumber height tape text names_10 line row_11) [some 0, some 1, some 2, some 3, some 4, some 5, some 6] rfl (by decide +kernel) rfl rfl (Nat.le_of_ble_eq_true rfl) dX12_mixed_29 (fun hz_12 => ?_)
        refine z_istore F [(4, .int r_2), (0, .ref a_this), (1, .int x1), (2, .int x2), (3, .int x3)] dX12_mixed_32 (by decide) rfl ?_
        refine z_iload_n F 2 dX12_mixed_34 rfl rfl ?_
        refine z_istore F [(5, .int x1), (4, .int r_2), (0, .ref a_this), (1, .int x1), (2, .int x2), (3, .int x3)] dX12_mixed_35 (by decide) rfl ?_
        refine z_iconst F (0) dX12_mixed_37 rfl ?_
        refine z_istore F [(6, .int 0), (5, .int x1), (4, .int r_2), (0, .ref a_this), (1, .int x1), (2, .int x2), (3, .int x3)] dX12_mixed_38 (by decide) rfl ?_
        refine z_iconst F (0) dX12_mixed_40 rfl ?_
        refine z_istore F [(7, .int 0), (6, .int 0), (5, .int x1), (4, .int r_2), (0, .ref a_this), (1, .int x1), (2, .int x2), (3, .int x3)] dX12_mixed_41 (by decide) rfl ?_
        refine z_iconst F (0) dX12_mixed_43 rfl ?_
        refine z_istore F [(8, .int 0), (7, .int 0), (6, .int 0), (5, .int x1), (4, .int r_2), (0, .ref a_this), (1, .int x1), (2, .int x2), (3, .int x3)] dX12_mixed_44 (by decide) rfl ?_
        refine z_iconst F (0) dX12_mixed_46 rfl ?_
        refine z_istore F [(9, .int 0), (8, .int 0), (7, .int 0), (6, .int 0), (5, .int x1), (4, .int r_2), (0, .ref a_this), (1, .int x1), (2, .int x2), (3, .int x3)] dX12_mixed_47 (by decide) rfl ?_
        obtain ⟨base_31, at__32, ends_33, fault_34, opened_35, rowMany_36, taller_37, names_38, row_39, v6_40, v7_41, v8_42, hg, hf⟩ := zb12_some hf
        refine z_sub [6, 8, 9, 5, 4, 3, 2, 1, 0] rfl ?_
        refine l_M_mixed_49 G a_this a_height a_changeAt a_changeWas a_changeIs a_tape a_text a_names a_line a_row a_pastMany a_past a_changed a_greatest a_numbersWere a_told a_waysOf a_waysWere a_blocks a_ordersOf a_imageLine a_bodyKind a_trace a_shelf a_many a_items a_carried people keptMany done tapeMany textMany lineMany tallerBy pasts isKept imageMany bodies ran ownKind ownNumber height tape text line x2 x3 r_2 F base_31 at__32 ends_33 fault_34 opened_35 rowMany_36 taller_37 names_38 row_39 v6_40 v7_41 v8_42 ?_ FU base_3 at__4 ends_5 fault_6 opened_7 rowMany_8 taller_9 names_10 row_11 x1 0 0 0 0 hg
        refine z_iload_n F 0 dX12_mixed_169 rfl rfl ?_
        refine z_bipush F (-2) dX12_mixed_170 rfl ?_
        refine z_icmp_ne F 180 dX12_mixed_172 (by decide) hf (fun hf _ => ?_) (fun hf _ => ?_)
        · refine z_iload_n F 0 dX12_mixed_180 rfl rfl ?_
          refine z_iconst F (-1) dX12_mixed_181 rfl ?_
          refine z_icmp_ne F 190 dX12_mixed_182 (by decide) hf (fun hf _ => ?_) (fun hf _ => ?_)
          · refine z_iload F 3 dX12_mixed_190 rfl ?_
            have eq1 := Option.some.inj hf
            obtain ⟨ee1, eq2⟩ := Prod.mk.inj eq1
            obtain ⟨ee2, eq3⟩ := Prod.mk.inj eq2
            obtain ⟨ee3, eq4⟩ := Prod.mk.inj eq3
            obtain ⟨ee4, eq5⟩ := Prod.mk.inj eq4
            obtain ⟨ee5, eq6⟩ := Prod.mk.inj eq5
            obtain ⟨ee6, eq7⟩ := Prod.mk.inj eq6
            obtain ⟨ee7, eq8⟩ := Prod.mk.inj eq7
            obtain ⟨ee8, eq9⟩ := Prod.mk.inj eq8
            obtain ⟨ee9, ee10⟩ := Prod.mk.inj eq9
            subst ee1
            subst ee2
            subst ee3
            subst ee4
            subst ee5
            subst ee6
            subst ee7
            subst ee8
            subst ee9
            subst ee10
            exact z_iret F rfl rfl rfl rfl dX12_mixed_192
          · refine z_iload F 2 dX12_mixed_185 rfl ?_
            refine z_goto F 192 dX12_mixed_187 (by decide) ?_
            have eq1 := Option.some.inj hf
            obtain ⟨ee1, eq2⟩ := Prod.mk.inj eq1
            obtain ⟨ee2, eq3⟩ := Prod.mk.inj eq2
            obtain ⟨ee3, eq4⟩ := Prod.mk.inj eq3
            obtain ⟨ee4, eq5⟩ := Prod.mk.inj eq4
            obtain ⟨ee5, eq6⟩ := Prod.mk.inj eq5
            obtain ⟨ee6, eq7⟩ := Prod.mk.inj eq6
            obtain ⟨ee7, eq8⟩ := Prod.mk.inj eq7
            obtain ⟨ee8, eq9⟩ := Prod.mk.inj eq8
            obtain ⟨ee9, ee10⟩ := Prod.mk.inj eq9
            subst ee1
            subst ee2
            subst ee3
            subst ee4
            subst ee5
            subst ee6
            subst ee7
            subst ee8
            subst ee9
            subst ee10
            exact z_iret F rfl rfl rfl rfl dX12_mixed_192
        · refine z_iload F 1 dX12_mixed_175 rfl ?_
          refine z_goto F 192 dX12_mixed_177 (by decide) ?_
          have eq1 := Option.some.inj hf
          obtain ⟨ee1, eq2⟩ := Prod.mk.inj eq1
          obtain ⟨ee2, eq3⟩ := Prod.mk.inj eq2
          obtain ⟨ee3, eq4⟩ := Prod.mk.inj eq3
          obtain ⟨ee4, eq5⟩ := Prod.mk.inj eq4
          obtain ⟨ee5, eq6⟩ := Prod.mk.inj eq5
          obtain ⟨ee6, eq7⟩ := Prod.mk.inj eq6
          obtain ⟨ee7, eq8⟩ := Prod.mk.inj eq7
          obtain ⟨ee8, eq9⟩ := Prod.mk.inj eq8
          obtain ⟨ee9, ee10⟩ := Prod.mk.inj eq9
          subst ee1
          subst ee2
          subst ee3
          subst ee4
          subst ee5
          subst ee6
          subst ee7
          subst ee8
          subst ee9
          subst ee10
          exact z_iret F rfl rfl rfl rfl dX12_mixed_192
      · refine z_iconst F (-1) dX12_mixed_26 rfl ?_
        have eq1 := Option.some.inj hf
        obtain ⟨ee1, eq2⟩ := Prod.mk.inj eq1
        obtain ⟨ee2, eq3⟩ := Prod.mk.inj eq2
        obtain ⟨ee3, eq4⟩ := Prod.mk.inj eq3
        obtain ⟨ee4, eq5⟩ := Prod.mk.inj eq4
        obtain ⟨ee5, eq6⟩ := Prod.mk.inj eq5
        obtain ⟨ee6, eq7⟩ := Prod.mk.inj eq6
        obtain ⟨ee7, eq8⟩ := Prod.mk.inj eq7
        obtain ⟨ee8, eq9⟩ := Prod.mk.inj eq8
        obtain ⟨ee9, ee10⟩ := Prod.mk.inj eq9
        subst ee1
        subst ee2
        subst ee3
        subst ee4
        subst ee5
        subst ee6
        subst ee7
        subst ee8
        subst ee9
        subst ee10
        exact z_iret F rfl rfl rfl rfl dX12_mixed_27

